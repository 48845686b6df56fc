/-! What the parse gives is a model. -/
section
variable {n p : Nat} {B : Nat → Int}
def VsO (vs : List MV) : Prop := VOK vs ∧ mPr vs ≤ 1000 ∧ vs.length ≤ 4 ∧ VNm vs
theorem VsO_0 : VsO [] := ⟨fun y hy => (by cases hy), by show (1 : Int) ≤ 1000; omega, by show 0 ≤ 4; omega, fun y hy => by cases hy⟩
theorem pVar_o {vs : List MV} (hv : VsO vs) (hp : p ≤ n) : (∀ e, pVar B n vs p = .inl e → PEo n e) ∧ ∀ z, pVar B n vs p = .inr z → z.2 ≤ n ∧ VsO (vs ++ [z.1]) ∧ vs.length < 4 := by
  have h1 := (@tT_g n p B hp).2.1
  have h2 := (@tT_g n (tT B n p) B h1).2.1
  have one : ∀ {m : Int} {q : Nat}, 1 ≤ m → m ≤ 4 → q ≤ n → (∀ e, (.inl (m, (tF B n q : Int)) : PE ⊕ (MV × Nat)) = .inl e → PEo n e) ∧ ∀ z, (.inl (m, (tF B n q : Int)) : PE ⊕ (MV × Nat)) = .inr z → z.2 ≤ n ∧ VsO (vs ++ [z.1]) ∧ vs.length < 4 := by
    intro m q a b c
    refine ⟨fun e he => ?_, fun z hz => (by cases hz)⟩
    injection he with he
    rw [← he]
    exact PEo_m a b c
  unfold pVar
  by_cases q0 : vs.length = 4
  · rw [if_pos q0]; exact one (by omega) (by omega) hp
  · rw [if_neg q0]
    by_cases q1 : tK B n (tT B n p) = 1
    · rw [if_pos q1]
      by_cases q2 : vIx vs (tN B n (tT B n p)) 0 = -1
      · rw [if_pos q2]
        have hn := @pNum_o n (tT B n (tT B n p)) B 0 30 h2
        cases hnn : pNum B n 0 30 (tT B n (tT B n p)) with
        | inl e => exact ⟨fun e' he => (by injection he with he; rw [← he]; exact hn.1 e hnn), fun z hz => (by cases hz)⟩
        | inr z =>
          have hz := hn.2 z hnn
          dsimp only
          by_cases q3 : 1000 < mPr vs * (z.1 + 1)
          · rw [if_pos q3]; exact one (by omega) (by omega) h2
          · rw [if_neg q3]
            have hm := @pNum_o n z.2 B 0 z.1 hz.1
            cases hmm : pNum B n 0 z.1 z.2 with
            | inl e => exact ⟨fun e' he => (by injection he with he; rw [← he]; exact hm.1 e hmm), fun z hz => (by cases hz)⟩
            | inr y =>
              have hy := hm.2 y hmm
              dsimp only
              have hs := @pSg_o n y.2 B 59 hy.1
              cases hss : pSg B n 59 y.2 with
              | inl e => exact ⟨fun e' he => (by injection he with he; rw [← he]; exact hs.1 e hss), fun z hz => (by cases hz)⟩
              | inr p5 =>
                refine ⟨fun e' he => (by cases he), fun u hu => ?_⟩
                injection hu with hu
                rw [← hu]
                refine ⟨hs.2 p5 hss, ⟨?_, ?_, ?_, ?_⟩, by have := hv.2.2.1; omega⟩
                · intro v hvv
                  rcases List.mem_append.mp hvv with hvv | hvv
                  · exact hv.1 v hvv
                  · rw [List.mem_singleton.mp hvv]; exact ⟨hz.2.1, hz.2.2.1, hy.2.1, hy.2.2.1⟩
                · rw [mPr_app]
                  exact Int.not_lt.mp q3
                · rw [List.length_append]; show vs.length + 1 ≤ 4; have := hv.2.2.1; omega
                · intro v hvv
                  rcases List.mem_append.mp hvv with hvv | hvv
                  · exact hv.2.2.2 v hvv
                  · rw [List.mem_singleton.mp hvv]; exact tN_l q1
      · rw [if_neg q2]; exact one (by omega) (by omega) h1
    · rw [if_neg q1]; exact one (by omega) (by omega) h1
theorem pVars_o : ∀ (j : Nat) (vs : List MV) (p : Nat), p ≤ n → VsO vs → vs.length + j = 5 → (∀ e, pVars B n j vs p = .inl e → PEo n e) ∧ ∀ z, pVars B n j vs p = .inr z → z.2 ≤ n ∧ VsO z.1 := by
  intro j
  induction j with
  | zero => intro vs p hp hv h5; exact absurd hv.2.2.1 (by omega)
  | succ j ih =>
    intro vs p hp hv h5
    unfold pVars
    split
    · exact pB_l (@pVar_o n p B vs hv hp) (fun a ha => ih _ _ ha.1 ha.2.1 (by rw [List.length_append]; show vs.length + 1 + j = 5; omega))
    · refine ⟨fun e he => (by cases he), fun z hz => ?_⟩
      injection hz with hz
      rw [← hz]
      exact ⟨hp, hv⟩
def RlO (lots : Int) (m : Nat) (y : MR) : Prop := (1 ≤ y.1 ∧ y.1 ≤ lots) ∧ TOK m y.2.1 ∧ TOK m y.2.2
theorem TOK_0 {m : Nat} : TOK m [] := ⟨by show 0 ≤ 3; omega, fun u hu => by cases hu⟩
theorem pCs_o {vs : List MV} (hp : p ≤ n) : (∀ e, pCs B n vs p = .inl e → PEo n e) ∧ ∀ z, pCs B n vs p = .inr z → z.2 ≤ n ∧ TOK vs.length z.1 := by
  unfold pCs
  split
  · refine ⟨fun e he => (by cases he), fun z hz => ?_⟩
    injection hz with hz
    rw [← hz]
    exact ⟨hp, TOK_0⟩
  · have := @pTerms_o n B vs 0 (Or.inl rfl) 4 [] p hp rfl TOK_0 (fun _ => by omega)
    exact ⟨this.1, fun z hz => ⟨(this.2 z hz).1, (this.2 z hz).2.1⟩⟩
theorem pRule_o {lots : Int} {vs : List MV} {nr : Nat} (hp : p ≤ n) : (∀ e, pRule B n lots vs nr p = .inl e → PEo n e) ∧ ∀ z, pRule B n lots vs nr p = .inr z → z.2 ≤ n ∧ RlO lots vs.length z.1 ∧ nr ≠ 12 := by
  have h1 := (@tT_g n p B hp).2.1
  unfold pRule
  by_cases q : nr = 12
  · rw [if_pos q]
    refine ⟨fun e he => ?_, fun z hz => (by cases hz)⟩
    injection he with he
    rw [← he]
    exact PEo_m (by omega) (by omega) hp
  · rw [if_neg q]
    refine pB_l (@pNum_o n (tT B n p) B 1 lots h1) (fun a ha => ?_)
    refine pB_l (@pSg_o n a.2 B 58 ha.1) (fun b hb => ?_)
    refine pB_l (@pCs_o n b B vs hb) (fun e he => ?_)
    refine pB_l (@pSg_o n e.2 B 256 he.1) (fun f hf => ?_)
    refine pB_l (@pTerms_o n B vs 1 (Or.inr rfl) 4 [] f hf rfl TOK_0 (fun _ => by omega)) (fun g hg => ?_)
    refine pB_l (@pSg_o n g.2 B 59 hg.1) (fun h hh => ?_)
    refine ⟨fun e he => (by cases he), fun z hz => ?_⟩
    injection hz with hz
    rw [← hz]
    exact ⟨hh, ⟨⟨ha.2.1, ha.2.2.1⟩, he.2, hg.2.1⟩, q⟩
def RsO (lots : Int) (m : Nat) (rs : List MR) : Prop := rs.length ≤ 12 ∧ ∀ y ∈ rs, RlO lots m y
theorem pRules_o {lots : Int} {vs : List MV} : ∀ (j : Nat) (rs : List MR) (p : Nat), p ≤ n → RsO lots vs.length rs → rs.length + j = 13 → (∀ e, pRules B n lots vs j rs p = .inl e → PEo n e) ∧ ∀ z, pRules B n lots vs j rs p = .inr z → z.2 ≤ n ∧ RsO lots vs.length z.1 := by
  intro j
  induction j with
  | zero => intro rs p hp hv h5; exact absurd hv.1 (by omega)
  | succ j ih =>
    intro rs p hp hv h5
    unfold pRules
    split
    · refine pB_l (@pRule_o n p B lots vs rs.length hp) (fun a ha => ih _ _ ha.1 ⟨?_, ?_⟩ (by rw [List.length_append]; show rs.length + 1 + j = 13; omega))
      · rw [List.length_append]; show rs.length + 1 ≤ 12; have := hv.1; have := ha.2.2; omega
      · intro u hu
        rcases List.mem_append.mp hu with hu | hu
        · exact hv.2 u hu
        · rw [List.mem_singleton.mp hu]; exact ha.2.1
    · refine ⟨fun e he => (by cases he), fun z hz => ?_⟩
      injection hz with hz
      rw [← hz]
      exact ⟨hp, hv⟩
def GsO (m : Nat) (gs : List (List TT)) : Prop := gs.length ≤ 4 ∧ ∀ y ∈ gs, TOK m y ∧ y ≠ []
theorem pGoal_o {vs : List MV} {ng : Nat} (hp : p ≤ n) : (∀ e, pGoal B n vs ng p = .inl e → PEo n e) ∧ ∀ z, pGoal B n vs ng p = .inr z → z.2 ≤ n ∧ (TOK vs.length z.1 ∧ z.1 ≠ []) ∧ ng ≠ 4 := by
  have h1 := (@tT_g n p B hp).2.1
  unfold pGoal
  by_cases q : ng = 4
  · rw [if_pos q]
    refine ⟨fun e he => ?_, fun z hz => (by cases hz)⟩
    injection he with he
    rw [← he]
    exact PEo_m (by omega) (by omega) hp
  · rw [if_neg q]
    refine pB_l (@pTerms_o n B vs 0 (Or.inl rfl) 4 [] (tT B n p) h1 rfl TOK_0 (fun _ => by omega)) (fun a ha => ?_)
    refine pB_l (@pSg_o n a.2 B 59 ha.1) (fun b hb => ?_)
    refine ⟨fun e he => (by cases he), fun z hz => ?_⟩
    injection hz with hz
    rw [← hz]
    exact ⟨hb, ha.2, q⟩
theorem pGoals_o {vs : List MV} : ∀ (j : Nat) (gs : List (List TT)) (p : Nat), p ≤ n → GsO vs.length gs → gs.length + j = 5 → (∀ e, pGoals B n vs j gs p = .inl e → PEo n e) ∧ ∀ z, pGoals B n vs j gs p = .inr z → z.2 ≤ n ∧ GsO vs.length z.1 := by
  intro j
  induction j with
  | zero => intro gs p hp hv h5; exact absurd hv.1 (by omega)
  | succ j ih =>
    intro gs p hp hv h5
    unfold pGoals
    split
    · refine pB_l (@pGoal_o n p B vs gs.length hp) (fun a ha => ih _ _ ha.1 ⟨?_, ?_⟩ (by rw [List.length_append]; show gs.length + 1 + j = 5; omega))
      · rw [List.length_append]; show gs.length + 1 ≤ 4; have := hv.1; have := ha.2.2; omega
      · intro u hu
        rcases List.mem_append.mp hu with hu | hu
        · exact hv.2 u hu
        · rw [List.mem_singleton.mp hu]; exact ha.2.1
    · refine ⟨fun e he => (by cases he), fun z hz => ?_⟩
      injection hz with hz
      rw [← hz]
      exact ⟨hp, hv⟩
theorem pLots_o : (∀ e, pLots B n = .inl e → PEo n e) ∧ ∀ z, pLots B n = .inr z → z.2 ≤ n ∧ 1 ≤ z.1 ∧ z.1 ≤ 20 := by
  have h1 := (@tT_g n 0 B (by omega)).2.1
  unfold pLots
  split
  · refine pB_l (@pNum_o n (tT B n 0) B 1 20 h1) (fun a ha => ?_)
    refine pB_l (@pSg_o n a.2 B 59 ha.1) (fun b hb => ?_)
    refine ⟨fun e he => (by cases he), fun z hz => ?_⟩
    injection hz with hz
    rw [← hz]
    exact ⟨hb, ha.2.1, ha.2.2.1⟩
  · refine ⟨fun e he => ?_, fun z hz => (by cases hz)⟩
    injection he with he
    rw [← he]
    exact PEo_m (by omega) (by omega) (by omega)
theorem GsO_v {vs : List MV} {gs : List (List TT)} (hg : GsO vs.length gs) (h : gs.length ≠ 0) : 1 ≤ vs.length := by
  cases gs with
  | nil => exact absurd rfl h
  | cons y gs =>
    have h1 := hg.2 y (List.mem_cons_self ..)
    cases y with
    | nil => exact absurd rfl h1.2
    | cons t y =>
      have := (h1.1.2 t (List.mem_cons_self ..)).1
      omega
theorem pAll_o : (∀ e, pAll B n = .inl e → PEo n e) ∧ ∀ M, pAll B n = .inr M → MOK M := by
  unfold pAll
  refine pB_l pLots_o (fun a ha => ?_)
  refine pB_l (@pVars_o n B 5 [] a.2 ha.1 VsO_0 rfl) (fun v hv => ?_)
  refine pB_l (@pRules_o n B a.1 v.1 13 [] v.2 hv.1 ⟨by show 0 ≤ 12; omega, fun y hy => by cases hy⟩ rfl) (fun r hr => ?_)
  refine pB_l (@pGoals_o n B v.1 5 [] r.2 hr.1 ⟨by show 0 ≤ 4; omega, fun y hy => by cases hy⟩ rfl) (fun g hg => ?_)
  unfold pEnd
  split
  · split
    · refine ⟨fun e he => ?_, fun z hz => (by cases hz)⟩
      injection he with he
      rw [← he]
      exact PEo_m (by omega) (by omega) hg.1
    · rename_i h0
      refine ⟨fun e he => (by cases he), fun z hz => ?_⟩
      injection hz with hz
      rw [← hz]
      have h0 : g.1.length ≠ 0 := h0
      have h1 := GsO_v hg.2 h0
      exact ⟨ha.2, ⟨h1, hv.2.2.2.1⟩, hv.2.1, hv.2.2.1, hr.2.1, fun y hy => hr.2.2 y hy, ⟨by show 1 ≤ g.1.length; omega, hg.2.1⟩, fun y hy => (hg.2.2 y hy).1⟩
  · refine ⟨fun e he => ?_, fun z hz => (by cases hz)⟩
    injection he with he
    rw [← he]
    exact PEo_m (by omega) (by omega) hg.1
end
