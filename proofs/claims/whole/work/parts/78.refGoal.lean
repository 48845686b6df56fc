/-! The reference: a goal; the whole parse, purely. -/
section
variable {X : ZX} {d c s : Nat} {I L I1 L1 I2 L2 J : ZI} {R R1 R2 : ZR} {call : ZC} {w n p : Nat} {M : MD} {f : Nat → Int} {x t : Int} {B : Nat → Int}
def FrG (w ng : Nat) (I I1 : ZI) : Prop := (∀ a k, a ≠ 310 → ¬ (a = 319 ∧ k = w) → ¬ ((a = 320 ∧ k = 16 * w + 12 + ng) ∨ (321 ≤ a ∧ a ≤ 323 ∧ 3 * (16 * w + 12 + ng) ≤ k ∧ k < 3 * (16 * w + 12 + ng) + 3)) → I1 a k = I a k) ∧ ∀ k, k ≠ 5 → k ≠ 6 → k ≠ 7 → k ≠ 8 → k ≠ 9 → k ≠ 10 → k ≠ 11 → I1 310 k = I 310 k
theorem FrG_t {ng : Nat} (h1 : FrG w ng I I1) (h2 : FrG w ng I1 I2) : FrG w ng I I2 := ⟨fun a k q1 q2 q3 => (h2.1 a k q1 q2 q3).trans (h1.1 a k q1 q2 q3), fun k q1 q2 q3 q4 q5 q6 q7 => (h2.2 k q1 q2 q3 q4 q5 q6 q7).trans (h1.2 k q1 q2 q3 q4 q5 q6 q7)⟩
theorem FrG_T {ng : Nat} (h : FrT I I1) : FrG w ng I I1 := ⟨fun a k q _ _ => by rw [h.1 a q], h.2⟩
theorem FrG_c {ng : Nat} (h : FrW 320 (16 * w + 12 + ng) I I1) : FrG w ng I I1 := ⟨fun a k q1 _ q3 => h.1 a k q1 q3, h.2⟩
theorem FrG_9 {ng : Nat} {y : Int} : FrG w ng I (zu I 319 w y) := ⟨fun a k _ q _ => by unfold zu; rw [if_neg q], fun k _ _ _ _ _ _ _ => by rw [zu_n (by omega)]⟩
theorem PsR_G {ng p1 : Nat} {vs : List MV} (h : PsR I L B n p w vs) (hF : FrG w ng I I1) (hT : TpR I1 B n p1) (hf : I1 310 10 = 0) : PsR I1 L B n p1 w vs := by
  obtain ⟨_, _, h13, hw, hv, hl, hn⟩ := h
  refine ⟨hT, hf, by rw [hF.2 13 (by omega) (by omega) (by omega) (by omega) (by omega) (by omega) (by omega)]; exact h13, hw, RVs_c hv hl (hF.1 313 w (by omega) (by omega) (by omega)) (fun k _ _ => ⟨hF.1 315 k (by omega) (by omega) (by omega), hF.1 316 k (by omega) (by omega) (by omega)⟩) rfl, hl, hn⟩
theorem RGs_app {gs : List (List TT)} {y : List TT} (hl : gs.length < 4) (h : RGs I w gs) (hF : FrG w gs.length I I1) (h1 : I1 319 w = (gs.length : Int) + 1) (h3 : RT I1 320 321 322 323 (16 * w + 12 + gs.length) sgc y) (hk : ∀ z ∈ gs, z.length ≤ 3) : RGs I1 w (gs ++ [y]) := by
  refine ⟨by rw [h1, List.length_append]; show (gs.length : Int) + 1 = ((gs.length + 1 : Nat) : Int); omega, fun r u hu => ?_⟩
  by_cases q : r < gs.length
  · rw [List.getElem?_append_left q] at hu
    have hq := h.2 r u hu
    have hm := hk u (List.mem_of_getElem? hu)
    refine ⟨?_, fun j v hv => ?_⟩
    · rw [hF.1 320 _ (by omega) (by omega) (by omega)]; exact hq.1
    · have hj : j < u.length := (List.getElem?_eq_some_iff.mp hv).1
      rw [hF.1 321 _ (by omega) (by omega) (by omega), hF.1 322 _ (by omega) (by omega) (by omega), hF.1 323 _ (by omega) (by omega) (by omega)]
      exact hq.2 j v hv
  · have hj : r < (gs ++ [y]).length := (List.getElem?_eq_some_iff.mp hu).1
    rw [List.length_append] at hj
    have hj : r < gs.length + 1 := hj
    have e : r = gs.length := by omega
    subst e
    rw [List.getElem?_append_right (by omega), Nat.sub_self] at hu
    injection hu with hu
    subst hu
    exact h3
theorem RRs_g {rs : List MR} {ng : Nat} (hl : rs.length ≤ 12) (h : RRs I w rs) (hF : FrG w ng I I1) (hk : ∀ z ∈ rs, z.2.1.length ≤ 3 ∧ z.2.2.length ≤ 3) : RRs I1 w rs := by
  refine ⟨by rw [hF.1 317 w (by omega) (by omega) (by omega)]; exact h.1, fun r u hu => ?_⟩
  have hr : r < rs.length := (List.getElem?_eq_some_iff.mp hu).1
  have hq := h.2 r u hu
  have hm := hk u (List.mem_of_getElem? hu)
  refine ⟨?_, ⟨?_, fun j v hv => ?_⟩, ⟨?_, fun j v hv => ?_⟩⟩
  · rw [hF.1 318 _ (by omega) (by omega) (by omega)]; exact hq.1
  · rw [hF.1 320 _ (by omega) (by omega) (by omega)]; exact hq.2.1.1
  · have hj : j < u.2.1.length := (List.getElem?_eq_some_iff.mp hv).1
    rw [hF.1 321 _ (by omega) (by omega) (by omega), hF.1 322 _ (by omega) (by omega) (by omega), hF.1 323 _ (by omega) (by omega) (by omega)]
    exact hq.2.1.2 j v hv
  · rw [hF.1 324 _ (by omega) (by omega) (by omega)]; exact hq.2.2.1
  · rw [hF.1 325 _ (by omega) (by omega) (by omega), hF.1 326 _ (by omega) (by omega) (by omega), hF.1 327 _ (by omega) (by omega) (by omega)]
    exact hq.2.2.2 j v hv
set_option maxHeartbeats 4000000 in
theorem c_readGoal (hR : Rok R) {vs : List MV} (h : PsR I L B n p w vs) {gs : List (List TT)} (hgs : RGs I w gs) (hgl : gs.length ≤ 4) (hgk : ∀ z ∈ gs, z.length ≤ 3) : ∃ I1, zrun X (d + 5) 133 [zr (some 310)] (c, s, I, L, R) = some (none, (c, s, I1, L, R)) ∧ FrG w gs.length I I1 ∧ (gs.length = 4 → FrT I I1) ∧ (∀ e, pGoal B n vs gs.length p = .inl e → ErR I1 e ∧ e.1 ≠ 0) ∧ ∀ z, pGoal B n vs gs.length p = .inr z → PsR I1 L B n z.2 w vs ∧ RGs I1 w (gs ++ [z.1]) := by
  obtain ⟨hT, hf, h13, hw, hv, hl, hn⟩ := id h
  have h319 : I 319 w = (gs.length : Int) := hgs.1
  have e7 := hT.2.2.2.2.1
  unfold pGoal
  by_cases h4 : gs.length = 4
  · rw [if_pos h4]
    have qb := c_bad (X := X) (d := d + 3) (c := c) (s := s) (I := I) (L := L) (R := R) 4 (I 310 7)
    rw [if_pos hf] at qb
    have h319' := h319
    rw [h4] at h319'
    refine ⟨zu (zu I 310 10 4) 310 11 (I 310 7), st_X12_readGoal ?_, FrG_T (FrT_t (FrT_e (Or.inl rfl)) (FrT_e (Or.inr rfl))), fun _ => FrT_t (FrT_e (Or.inl rfl)) (FrT_e (Or.inr rfl)), fun e he => ?_, fun z hz => (by cases hz)⟩
    · simp (disch := omega) only [e_X12_readGoal_0, e_X12_readGoal_0x, e_X12_readGoal_1, e_X12_readGoal_4, e_X12_readGoal_4x, e_X12_readGoal_5, e_X12_readGoal_8, e_X12_readGoal_9, e_X12_readGoal_10, e_X12_readGoal_13, e_X12_readGoal_13x, e_X12_readGoal_14, e_X12_readGoal_15, e_X12_readGoal_15x, e_X12_readGoal_16, e_X12_readGoal_19, e_X12_readGoal_22, e_X12_readGoal_23, e_X12_readGoal_23x, e_X12_readGoal_24, e_X12_readGoal_27, e_X12_readGoal_27x, e_X12_readGoal_28, e_X12_readGoal_30, e_X12_readGoal_30x, e_X12_readGoal_31, e_X12_readGoal_34, e_X12_readGoal_35, e_X12_readGoal_37, e_X12_readGoal_38, e_X12_readGoal_38x, e_X12_readGoal_39, e_X12_readGoal_42, e_X12_readGoal_42x, e_X12_readGoal_43, e_X12_readGoal_46, e_X12_readGoal_47, e_X12_readGoal_48, e_X12_readGoal_51, e_X12_readGoal_51x, e_X12_readGoal_52, e_X12_readGoal_54, e_X12_readGoal_57, e_X12_readGoal_57x, e_X12_readGoal_58, e_X12_readGoal_61, e_X12_readGoal_61x, e_X12_readGoal_62, e_X12_readGoal_65, e_X12_readGoal_66, e_X12_readGoal_67, e_X12_readGoal_68, e_X12_readGoal_69, e_X12_readGoal_70, zcll_s, zpush_s, zpush_n, zinv_i, zinv_l, zinv_r, zinv_x, zcats_nil, zcats_i, zcats_l, zcats_r, zcats_x, Nat.le_refl, and_self, true_and, and_true, zok_1, zok_20, zok_21, eq_self, Nat.reduceAdd, Nat.reduceLeDiff, Nat.zero_le, if_true, if_false, zw3_id, if_pos, if_neg, zand_t, tg_310, tg_319, tn_319, rr_310_22 hR, h13, Int.toNat_natCast, h319', qb]
    · injection he with he
      rw [← he]
      exact ⟨⟨by rw [zu_k (by omega), zu_s], by rw [zu_s]; exact e7⟩, by show (4 : Int) ≠ 0; omega⟩
  · rw [if_neg h4]
    have hlt : gs.length < 4 := by omega
    obtain ⟨I2, w1, w2, w3⟩ := c_next (X := X) (d := d + 2) (c := c) (s := s) (L := L) hR hT.1 (@tT_g n p B hT.2.1).2.1 hT.2.2.1
    generalize tT B n p = p1 at w2 ⊢
    have f2 : I2 310 10 = 0 := by rw [w3.2 10 (by omega) (by omega) (by omega) (by omega) (by omega)]; exact hf
    have k13 : I2 310 13 = (w : Int) := by rw [w3.2 13 (by omega) (by omega) (by omega) (by omega) (by omega)]; exact h13
    have k19 : I2 319 w = (gs.length : Int) := by rw [w3.1 319 (by omega)]; exact h319
    have F2 : FrG w gs.length I I2 := FrG_T (FrT_n w3)
    have hP2 := PsR_G h F2 w2 f2
    obtain ⟨I3, g1, g2, g3, g4⟩ := c_readConds (X := X) (d := d) (c := c) (s := s) hR hP2 (16 * w + 12 + gs.length) (by omega) (by omega)
    have eki : ((16 * w + 12 + gs.length : Nat) : Int) = 16 * (w : Int) + 12 + (gs.length : Int) := by omega
    rw [eki] at g1
    have F3 : FrG w gs.length I I3 := FrG_t F2 (FrG_c g2)
    have m13 : I3 310 13 = (w : Int) := by rw [g2.2 13 (by omega) (by omega) (by omega) (by omega) (by omega) (by omega) (by omega)]; exact k13
    have m19 : I3 319 w = (gs.length : Int) := by rw [g2.1 319 w (by omega) (by omega)]; exact k19
    cases ht : pTerms B n vs 0 4 [] p1 with
    | inl e =>
      obtain ⟨d1, d2⟩ := g3 e ht
      have q := c_take_f (X := X) (d := d + 1) (c := c) (s := s) (L := L) (R := R) (I := I3) (by rw [d1.1]; exact d2) 59
      refine ⟨zu I3 319 w ((gs.length : Int) + 1), st_X12_readGoal ?_, FrG_t F3 FrG_9, fun z => absurd z h4, fun e' he' => ?_, fun z hz => (by cases hz)⟩
      · simp (disch := omega) only [e_X12_readGoal_0, e_X12_readGoal_0x, e_X12_readGoal_1, e_X12_readGoal_4, e_X12_readGoal_4x, e_X12_readGoal_5, e_X12_readGoal_8, e_X12_readGoal_9, e_X12_readGoal_10, e_X12_readGoal_13, e_X12_readGoal_13x, e_X12_readGoal_14, e_X12_readGoal_15, e_X12_readGoal_15x, e_X12_readGoal_16, e_X12_readGoal_19, e_X12_readGoal_22, e_X12_readGoal_23, e_X12_readGoal_23x, e_X12_readGoal_24, e_X12_readGoal_27, e_X12_readGoal_27x, e_X12_readGoal_28, e_X12_readGoal_30, e_X12_readGoal_30x, e_X12_readGoal_31, e_X12_readGoal_34, e_X12_readGoal_35, e_X12_readGoal_37, e_X12_readGoal_38, e_X12_readGoal_38x, e_X12_readGoal_39, e_X12_readGoal_42, e_X12_readGoal_42x, e_X12_readGoal_43, e_X12_readGoal_46, e_X12_readGoal_47, e_X12_readGoal_48, e_X12_readGoal_51, e_X12_readGoal_51x, e_X12_readGoal_52, e_X12_readGoal_54, e_X12_readGoal_57, e_X12_readGoal_57x, e_X12_readGoal_58, e_X12_readGoal_61, e_X12_readGoal_61x, e_X12_readGoal_62, e_X12_readGoal_65, e_X12_readGoal_66, e_X12_readGoal_67, e_X12_readGoal_68, e_X12_readGoal_69, e_X12_readGoal_70, zcll_s, zpush_s, zpush_n, zinv_i, zinv_l, zinv_r, zinv_x, zcats_nil, zcats_i, zcats_l, zcats_r, zcats_x, Nat.le_refl, and_self, true_and, and_true, zok_1, zok_20, zok_21, eq_self, Nat.reduceAdd, Nat.reduceLeDiff, Nat.zero_le, if_true, if_false, zw3_id, if_pos, if_neg, zand_t, tg_310, tg_319, tn_319, rr_310_22 hR, h13, Int.toNat_natCast, h319, w1, k13, k19, g1, q, m13, m19]
      · injection he' with he'
        rw [← he']
        exact ⟨⟨by rw [zu_n (by omega)]; exact d1.1, by rw [zu_n (by omega)]; exact d1.2⟩, d2⟩
    | inr cs =>
      obtain ⟨d1, d2⟩ := g4 cs ht
      obtain ⟨I4, k1, k2, k3, k4⟩ := c_take (X := X) (d := d + 1) (c := c) (s := s) (L := L) hR d1.1 d1.2.1 59
      have F4 : FrG w gs.length I (zu I4 319 w ((gs.length : Int) + 1)) := FrG_t F3 (FrG_t (FrG_T k2) FrG_9)
      have u13 : I4 310 13 = (w : Int) := by rw [k2.2 13 (by omega) (by omega) (by omega) (by omega) (by omega) (by omega) (by omega)]; exact m13
      have u19 : I4 319 w = (gs.length : Int) := by rw [k2.1 319 (by omega)]; exact m19
      simp only [pB]
      refine ⟨zu I4 319 w ((gs.length : Int) + 1), st_X12_readGoal ?_, F4, fun z => absurd z h4, fun e he => ?_, fun zz hzz => ?_⟩
      · simp (disch := omega) only [e_X12_readGoal_0, e_X12_readGoal_0x, e_X12_readGoal_1, e_X12_readGoal_4, e_X12_readGoal_4x, e_X12_readGoal_5, e_X12_readGoal_8, e_X12_readGoal_9, e_X12_readGoal_10, e_X12_readGoal_13, e_X12_readGoal_13x, e_X12_readGoal_14, e_X12_readGoal_15, e_X12_readGoal_15x, e_X12_readGoal_16, e_X12_readGoal_19, e_X12_readGoal_22, e_X12_readGoal_23, e_X12_readGoal_23x, e_X12_readGoal_24, e_X12_readGoal_27, e_X12_readGoal_27x, e_X12_readGoal_28, e_X12_readGoal_30, e_X12_readGoal_30x, e_X12_readGoal_31, e_X12_readGoal_34, e_X12_readGoal_35, e_X12_readGoal_37, e_X12_readGoal_38, e_X12_readGoal_38x, e_X12_readGoal_39, e_X12_readGoal_42, e_X12_readGoal_42x, e_X12_readGoal_43, e_X12_readGoal_46, e_X12_readGoal_47, e_X12_readGoal_48, e_X12_readGoal_51, e_X12_readGoal_51x, e_X12_readGoal_52, e_X12_readGoal_54, e_X12_readGoal_57, e_X12_readGoal_57x, e_X12_readGoal_58, e_X12_readGoal_61, e_X12_readGoal_61x, e_X12_readGoal_62, e_X12_readGoal_65, e_X12_readGoal_66, e_X12_readGoal_67, e_X12_readGoal_68, e_X12_readGoal_69, e_X12_readGoal_70, zcll_s, zpush_s, zpush_n, zinv_i, zinv_l, zinv_r, zinv_x, zcats_nil, zcats_i, zcats_l, zcats_r, zcats_x, Nat.le_refl, and_self, true_and, and_true, zok_1, zok_20, zok_21, eq_self, Nat.reduceAdd, Nat.reduceLeDiff, Nat.zero_le, if_true, if_false, zw3_id, if_pos, if_neg, zand_t, tg_310, tg_319, tn_319, rr_310_22 hR, h13, Int.toNat_natCast, h319, w1, k13, k19, g1, k1, u13, u19]
      · cases hq : pSg B n 59 cs.2 with
        | inl e2 =>
          rw [hq] at he
          injection he with he
          rw [← he]
          obtain ⟨m1, m2⟩ := k3 e2 hq
          exact ⟨⟨by rw [zu_n (by omega)]; exact m1.1, by rw [zu_n (by omega)]; exact m1.2⟩, m2⟩
        | inr p7 => rw [hq] at he; cases he
      · cases hq : pSg B n 59 cs.2 with
        | inl e2 => rw [hq] at hzz; cases hzz
        | inr p7 =>
          rw [hq] at hzz
          injection hzz with hzz
          rw [← hzz]
          obtain ⟨m1, m2⟩ := k4 p7 hq
          have hPA : PsR I4 L B n p7 w vs := PsR_G d1 (FrG_T (ng := gs.length) k2) m1 m2
          refine ⟨PsR_G hPA (ng := gs.length) FrG_9 (TpR_u m1 (by omega)) (by rw [zu_n (by omega)]; exact m2), ?_⟩
          refine RGs_app hlt hgs F4 zu_s ?_ hgk
          exact RT_c (I := I3) (by rw [zu_n (by omega), k2.1 320 (by omega)]) (by rw [zu_n (by omega), k2.1 321 (by omega)]) (by rw [zu_n (by omega), k2.1 322 (by omega)]) (by rw [zu_n (by omega), k2.1 323 (by omega)]) d2
/-- the whole parse -/
def isW (B : Nat → Int) (n : Nat) (wd : List Int) (p : Nat) : Prop := tK B n p = 1 ∧ tN B n p = wd
def wLots : List Int := [115, 116, 111, 108]
def wVar : List Int := [114, 97, 118]
def wRule : List Int := [101, 108, 117, 114]
def wGoal : List Int := [108, 97, 111, 103]
noncomputable def pLots (B : Nat → Int) (n : Nat) : PE ⊕ (Int × Nat) := @ite _ (isW B n wLots 0) (Classical.propDecidable _) (pB (pNum B n 1 20 (tT B n 0)) fun z => pB (pSg B n 59 z.2) fun p3 => .inr (z.1, p3)) (.inl (1, (tF B n 0 : Int)))
noncomputable def pVars (B : Nat → Int) (n : Nat) : Nat → List MV → Nat → PE ⊕ (List MV × Nat)
  | 0, vs, p => .inr (vs, p)
  | j + 1, vs, p => @ite _ (isW B n wVar p) (Classical.propDecidable _) (pB (pVar B n vs p) fun z => pVars B n j (vs ++ [z.1]) z.2) (.inr (vs, p))
noncomputable def pRules (B : Nat → Int) (n : Nat) (lots : Int) (vs : List MV) : Nat → List MR → Nat → PE ⊕ (List MR × Nat)
  | 0, rs, p => .inr (rs, p)
  | j + 1, rs, p => @ite _ (isW B n wRule p) (Classical.propDecidable _) (pB (pRule B n lots vs rs.length p) fun z => pRules B n lots vs j (rs ++ [z.1]) z.2) (.inr (rs, p))
noncomputable def pGoals (B : Nat → Int) (n : Nat) (vs : List MV) : Nat → List (List TT) → Nat → PE ⊕ (List (List TT) × Nat)
  | 0, gs, p => .inr (gs, p)
  | j + 1, gs, p => @ite _ (isW B n wGoal p) (Classical.propDecidable _) (pB (pGoal B n vs gs.length p) fun z => pGoals B n vs j (gs ++ [z.1]) z.2) (.inr (gs, p))
noncomputable def pEnd (B : Nat → Int) (n : Nat) (M : MD) (p : Nat) : PE ⊕ MD := if tK B n p = 0 then (if M.2.2.2.length = 0 then .inl (4, (tF B n p : Int)) else .inr M) else .inl (1, (tF B n p : Int))
noncomputable def pAll (B : Nat → Int) (n : Nat) : PE ⊕ MD := pB (pLots B n) fun a => pB (pVars B n 5 [] a.2) fun v => pB (pRules B n a.1 v.1 13 [] v.2) fun r => pB (pGoals B n v.1 5 [] r.2) fun g => pEnd B n (a.1, v.1, r.1, g.1) g.2
/-- faults are 1 to 4, at a place of the text -/
def PEo (n : Nat) (e : PE) : Prop := 1 ≤ e.1 ∧ e.1 ≤ 4 ∧ 0 ≤ e.2 ∧ e.2 ≤ n
theorem PEo_m {k : Int} (h1 : 1 ≤ k) (h4 : k ≤ 4) (hp : p ≤ n) : PEo n (k, (tF B n p : Int)) := ⟨h1, h4, by show (0 : Int) ≤ (tF B n p : Int); omega, by have := (@tF_g n p B hp).2; show ((tF B n p : Nat) : Int) ≤ n; omega⟩
theorem pNum_o {lo hi : Int} (hp : p ≤ n) : (∀ e, pNum B n lo hi p = .inl e → PEo n e) ∧ ∀ z, pNum B n lo hi p = .inr z → z.2 ≤ n ∧ lo ≤ z.1 ∧ z.1 ≤ hi ∧ 0 ≤ z.1 ∧ z.1 ≤ 99 := by
  unfold pNum
  by_cases q : tK B n p = 2
  · rw [if_pos q]
    by_cases r : lo ≤ tV B n p ∧ tV B n p ≤ hi
    · rw [if_pos r]
      refine ⟨fun e he => (by cases he), fun z hz => ?_⟩
      injection hz with hz
      rw [← hz]
      exact ⟨(@tT_g n p B hp).2.1, r.1, r.2, (tV_r q).1, (tV_r q).2⟩
    · rw [if_neg r]
      refine ⟨fun e he => ?_, fun z hz => (by cases hz)⟩
      injection he with he
      rw [← he]
      exact PEo_m (by omega) (by omega) hp
  · rw [if_neg q]
    refine ⟨fun e he => ?_, fun z hz => (by cases hz)⟩
    injection he with he
    rw [← he]
    exact PEo_m (by omega) (by omega) hp
theorem pSg_o {ch : Int} (hp : p ≤ n) : (∀ e, pSg B n ch p = .inl e → PEo n e) ∧ ∀ z, pSg B n ch p = .inr z → z ≤ n := by
  unfold pSg
  split
  · refine ⟨fun e he => (by cases he), fun z hz => ?_⟩
    injection hz with hz
    rw [← hz]
    exact (@tT_g n p B hp).2.1
  · refine ⟨fun e he => ?_, fun z hz => (by cases hz)⟩
    injection he with he
    rw [← he]
    exact PEo_m (by omega) (by omega) hp
theorem pB_l {α β : Type} {o : PE ⊕ α} {g : α → PE ⊕ β} {P : PE → Prop} {S : α → Prop} {T : β → Prop} (h : (∀ e, o = .inl e → P e) ∧ ∀ z, o = .inr z → S z) (hg : ∀ a, S a → (∀ e, g a = .inl e → P e) ∧ ∀ z, g a = .inr z → T z) : (∀ e, pB o g = .inl e → P e) ∧ ∀ z, pB o g = .inr z → T z := by
  cases o with
  | inl e => exact ⟨fun e' he => h.1 e' (by injection he with he; rw [he]), fun z hz => (by cases hz)⟩
  | inr a => exact hg a (h.2 a rfl)
theorem pTerm_o {vs : List MV} {k sz : Nat} (hk : k = 0 ∨ k = 1) (hp : p ≤ n) : (∀ e, pTerm B n vs k sz p = .inl e → PEo n e) ∧ ∀ z, pTerm B n vs k sz p = .inr z → z.2 ≤ n ∧ sz ≠ 3 ∧ z.1.1 < vs.length ∧ (z.1.2.1 = -1 ∨ z.1.2.1 = 0 ∨ z.1.2.1 = 1) ∧ 0 ≤ z.1.2.2 ∧ z.1.2.2 ≤ 99 := by
  have h1 := (@tT_g n p B hp).2.1
  have h2 := (@tT_g n (tT B n p) B h1).2.1
  have one : ∀ {m : Int} {q : Nat}, 1 ≤ m → m ≤ 4 → q ≤ n → (∀ e, (.inl (m, (tF B n q : Int)) : PE ⊕ (TT × Nat)) = .inl e → PEo n e) ∧ ∀ z, (.inl (m, (tF B n q : Int)) : PE ⊕ (TT × Nat)) = .inr z → z.2 ≤ n ∧ sz ≠ 3 ∧ z.1.1 < vs.length ∧ (z.1.2.1 = -1 ∨ z.1.2.1 = 0 ∨ z.1.2.1 = 1) ∧ 0 ≤ z.1.2.2 ∧ z.1.2.2 ≤ 99 := by
    intro m q a b c
    refine ⟨fun e he => ?_, fun z hz => (by cases hz)⟩
    injection he with he
    rw [← he]
    exact PEo_m a b c
  unfold pTerm
  by_cases q1 : tK B n p = 1
  · rw [if_pos q1]
    by_cases q2 : vIx vs (tN B n p) 0 = -1
    · rw [if_pos q2]; exact one (by omega) (by omega) hp
    · rw [if_neg q2]
      by_cases q3 : sz = 3
      · rw [if_pos q3]; exact one (by omega) (by omega) hp
      · rw [if_neg q3]
        cases hso : pSo B n k (tT B n p) with
        | none => exact one (by omega) (by omega) h1
        | some so =>
          have hn := @pNum_o n (tT B n (tT B n p)) B 0 99 h2
          have hs : so = -1 ∨ so = 0 ∨ so = 1 := by
            unfold pSo at hso
            split at hso
            · rcases hk with rfl | rfl
              · exact (srt_0 hso).2.1
              · exact (srt_1 hso).2.1
            · cases hso
          dsimp only
          cases hnn : pNum B n 0 99 (tT B n (tT B n p)) with
          | inl e => exact ⟨fun e' he => (by injection he with he; rw [← he]; exact hn.1 e hnn), fun z hz => (by cases hz)⟩
          | inr z =>
            refine ⟨fun e' he => (by cases he), fun y hy => ?_⟩
            injection hy with hy
            rw [← hy]
            have hz := hn.2 z hnn
            have hx := vIx_r vs (tN B n p) 0
            refine ⟨hz.1, q3, ?_, hs, hz.2.2.2.1, hz.2.2.2.2⟩
            show (vIx vs (tN B n p) 0).toNat < vs.length
            omega
  · rw [if_neg q1]; exact one (by omega) (by omega) hp
theorem pTerms_o {vs : List MV} {k : Nat} (hk : k = 0 ∨ k = 1) : ∀ (j : Nat) (acc : List TT) (p : Nat), p ≤ n → acc.length + j = 4 → TOK vs.length acc → (acc = [] → 0 < j) → (∀ e, pTerms B n vs k j acc p = .inl e → PEo n e) ∧ ∀ z, pTerms B n vs k j acc p = .inr z → z.2 ≤ n ∧ TOK vs.length z.1 ∧ z.1 ≠ [] := by
  intro j
  induction j with
  | zero =>
    intro acc p hp h4 hT h0
    exact absurd hT.1 (by omega)
  | succ j ih =>
    intro acc p hp h4 hT h0
    have h := @pTerm_o n p B vs k acc.length hk hp
    unfold pTerms
    cases ht : pTerm B n vs k acc.length p with
    | inl e => exact ⟨fun e' he => (by injection he with he; rw [← he]; exact h.1 e ht), fun z hz => (by cases hz)⟩
    | inr z =>
      have hz := h.2 z ht
      have hT2 : TOK vs.length (acc ++ [z.1]) := by
        refine ⟨by rw [List.length_append]; show acc.length + 1 ≤ 3; have := hT.1; omega, fun u hu => ?_⟩
        rcases List.mem_append.mp hu with hu | hu
        · exact hT.2 u hu
        · rw [List.mem_singleton.mp hu]; exact ⟨hz.2.2.1, hz.2.2.2.1, hz.2.2.2.2.1, hz.2.2.2.2.2⟩
      dsimp only
      split
      · exact ih _ _ (@tT_g n z.2 B hz.1).2.1 (by rw [List.length_append]; show acc.length + 1 + j = 4; omega) hT2 (fun q => absurd q (by simp))
      · refine ⟨fun e' he => (by cases he), fun y hy => ?_⟩
        injection hy with hy
        rw [← hy]
        exact ⟨hz.1, hT2, by simp⟩
end
