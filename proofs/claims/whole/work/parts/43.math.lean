/-! The mathematical model: lots, vars (name, greatest, first), rules (weight, conds, effects), goals; a term: var, sort, number. -/
theorem zand_t {p q : Prop} (h : p) : (p ∧ q) = q := propext ⟨fun x => x.2, fun x => ⟨h, x⟩⟩
theorem zB_c {p q : Prop} (h : p ↔ q) : zB p = zB q := by rw [propext h]
abbrev TT : Type := Nat × Int × Int
abbrev MV : Type := List Int × Int × Int
abbrev MR : Type := Int × List TT × List TT
abbrev MD : Type := Int × List MV × List MR × List (List TT)
def mg (vs : List MV) (v : Nat) : Int := (vs.getD v ([], 0, 0)).2.1
def mf (vs : List MV) (v : Nat) : Int := (vs.getD v ([], 0, 0)).2.2
def mPr : List MV → Int
  | [] => 1
  | x :: xs => mPr xs * (x.2.1 + 1)
def mEn : List MV → (Nat → Int) → Nat → Int
  | [], _, _ => 0
  | x :: xs, val, v => mEn xs val (v + 1) * (x.2.1 + 1) + val v
def mDe : List MV → Int → Nat → Int
  | [], _, _ => 0
  | x :: _, s, 0 => s % (x.2.1 + 1)
  | x :: xs, s, v + 1 => mDe xs (s / (x.2.1 + 1)) v
def tH (val : Nat → Int) (t : TT) : Prop := if t.2.1 < 0 then val t.1 < t.2.2 else if t.2.1 = 0 then val t.1 = t.2.2 else t.2.2 < val t.1
def mAll (val : Nat → Int) (l : List TT) : Prop := ∀ t ∈ l, tH val t
def mcl (g n : Int) : Int := if n < 0 then 0 else if g < n then g else n
def tE (g : Nat → Int) (t : TT) (val : Nat → Int) : Nat → Int := fun v => if v = t.1 then mcl (g v) (if t.2.1 = 0 then t.2.2 else val v + t.2.1 * t.2.2) else val v
def mEff (g : Nat → Int) : List TT → (Nat → Int) → Nat → Int
  | [], val => val
  | t :: l, val => mEff g l (tE g t val)
noncomputable def mRul (val : Nat → Int) : List MR → Int → Int → Int
  | [], _, _ => -1
  | x :: xs, d, r => @ite _ (mAll val x.2.1) (Classical.propDecidable _) (if d < x.1 then r else mRul val xs (d - x.1) (r + 1)) (mRul val xs d (r + 1))
noncomputable def mR (M : MD) (val : Nat → Int) (d : Int) : Int := mRul val M.2.2.1 d 0
def mV (M : MD) (val : Nat → Int) (r : Int) : Nat → Int := if r = -1 then val else mEff (mg M.2.1) ((M.2.2.1.getD r.toNat (0, [], [])).2.2) val
/-- the state that d leads to -/
noncomputable def mS (M : MD) (s d : Int) : Int := mEn M.2.1 (mV M (mDe M.2.1 s) (mR M (mDe M.2.1 s) d)) 0
/-- the state at which a run begins -/
def mS0 (M : MD) : Int := mEn M.2.1 (mf M.2.1) 0
def mGoal (M : MD) (g : Nat) (s : Int) : Prop := mAll (mDe M.2.1 s) (M.2.2.2.getD g [])
def TOK (n : Nat) (l : List TT) : Prop := l.length ≤ 3 ∧ ∀ t ∈ l, t.1 < n ∧ (t.2.1 = -1 ∨ t.2.1 = 0 ∨ t.2.1 = 1) ∧ 0 ≤ t.2.2 ∧ t.2.2 ≤ 99
def VOK (vs : List MV) : Prop := ∀ x ∈ vs, 0 ≤ x.2.1 ∧ x.2.1 ≤ 30 ∧ 0 ≤ x.2.2 ∧ x.2.2 ≤ x.2.1
def MOK (M : MD) : Prop := (1 ≤ M.1 ∧ M.1 ≤ 20) ∧ (1 ≤ M.2.1.length ∧ M.2.1.length ≤ 4) ∧ VOK M.2.1 ∧ mPr M.2.1 ≤ 1000 ∧ M.2.2.1.length ≤ 12 ∧ (∀ x ∈ M.2.2.1, (1 ≤ x.1 ∧ x.1 ≤ M.1) ∧ TOK M.2.1.length x.2.1 ∧ TOK M.2.1.length x.2.2) ∧ (1 ≤ M.2.2.2.length ∧ M.2.2.2.length ≤ 4) ∧ ∀ x ∈ M.2.2.2, TOK M.2.1.length x
def mIn (vs : List MV) (val : Nat → Int) (k : Nat) : Prop := ∀ v, v < vs.length → 0 ≤ val (k + v) ∧ val (k + v) ≤ mg vs v
theorem zdrop {α : Type} {l : List α} {j : Nat} {x : α} {r : List α} (h : l.drop j = x :: r) : j < l.length ∧ l[j]? = some x ∧ l.drop (j + 1) = r ∧ x ∈ l := by
  have h1 : j < l.length := by
    apply Nat.lt_of_not_le
    intro h2
    rw [List.drop_eq_nil_of_le h2] at h
    cases h
  have h2 := List.drop_eq_getElem_cons h1
  rw [h] at h2
  injection h2 with h3 h4
  refine ⟨h1, ?_, h4.symm, ?_⟩
  · rw [List.getElem?_eq_getElem h1, ← h3]
  · rw [h3]; exact List.getElem_mem h1
theorem zgetD {α : Type} {l : List α} {j : Nat} {x y : α} (h : l[j]? = some x) : l.getD j y = x := by rw [List.getD_eq_getElem?_getD, h]; rfl
theorem zgetDl {α : Type} {l : List α} {j : Nat} {y : α} (h : j < l.length) : l.getD j y ∈ l ∧ l[j]? = some (l.getD j y) := by
  have h1 := List.getElem?_eq_getElem h
  rw [zgetD h1]
  exact ⟨List.getElem_mem h, h1⟩
theorem zgetDn {α : Type} {l : List α} {j : Nat} {y : α} (h : l.length ≤ j) : l.getD j y = y := by rw [List.getD_eq_getElem?_getD, List.getElem?_eq_none h]; rfl
theorem zdropn {α : Type} {l : List α} {j : Nat} (h : l.drop j = []) (hj : j ≤ l.length) : j = l.length := by
  have := List.drop_eq_nil_iff.mp h
  omega
theorem VOK_t {x : MV} {xs : List MV} (h : VOK (x :: xs)) : (0 ≤ x.2.1 ∧ x.2.1 ≤ 30 ∧ 0 ≤ x.2.2 ∧ x.2.2 ≤ x.2.1) ∧ VOK xs := ⟨h x (List.mem_cons_self ..), fun y hy => h y (List.mem_cons_of_mem _ hy)⟩
theorem mIn_t {x : MV} {xs : List MV} {val : Nat → Int} {k : Nat} (h : mIn (x :: xs) val k) : (0 ≤ val k ∧ val k ≤ x.2.1) ∧ mIn xs val (k + 1) := by
  refine ⟨h 0 (Nat.zero_lt_succ _), fun v hv => ?_⟩
  have := h (v + 1) (Nat.succ_lt_succ hv)
  rw [show k + (v + 1) = k + 1 + v by omega] at this
  exact this
theorem mPr_pos {vs : List MV} (h : VOK vs) : 1 ≤ mPr vs := by
  induction vs with
  | nil => exact Int.le_refl 1
  | cons x xs ih =>
    have h1 := VOK_t h
    have h2 := ih h1.2
    unfold mPr
    have := Int.mul_le_mul h2 (show 1 ≤ x.2.1 + 1 by omega) (by omega) (by omega)
    omega
theorem mEn_lt {vs : List MV} {val : Nat → Int} {k : Nat} (h : VOK vs) (hi : mIn vs val k) : 0 ≤ mEn vs val k ∧ mEn vs val k < mPr vs := by
  induction vs generalizing k with
  | nil => exact ⟨Int.le_refl 0, by unfold mEn mPr; decide⟩
  | cons x xs ih =>
    have h1 := VOK_t h
    have h2 := mIn_t hi
    have h3 := ih h1.2 h2.2
    unfold mEn mPr
    have a := Int.mul_nonneg h3.1 (show 0 ≤ x.2.1 + 1 by omega)
    have b := Int.mul_le_mul_of_nonneg_right (show mEn xs val (k + 1) ≤ mPr xs - 1 by omega) (show 0 ≤ x.2.1 + 1 by omega)
    rw [Int.sub_mul] at b
    omega
theorem mDe_mEn {vs : List MV} {val : Nat → Int} {k : Nat} (h : VOK vs) (hi : mIn vs val k) : ∀ v, v < vs.length → mDe vs (mEn vs val k) v = val (k + v) := by
  induction vs generalizing k with
  | nil => intro v hv; exact absurd hv (Nat.not_lt_zero _)
  | cons x xs ih =>
    intro v hv
    have h1 := VOK_t h
    have h2 := mIn_t hi
    cases v with
    | zero =>
      unfold mDe mEn
      rw [Int.add_comm, Int.add_mul_emod_self_right]
      exact Int.emod_eq_of_lt h2.1.1 (by omega)
    | succ v =>
      unfold mDe
      have e : mEn (x :: xs) val k / (x.2.1 + 1) = mEn xs val (k + 1) := by
        rw [show mEn (x :: xs) val k = mEn xs val (k + 1) * (x.2.1 + 1) + val k from rfl]
        rw [Int.add_comm, Int.add_mul_ediv_right _ _ (by omega), Int.ediv_eq_zero_of_lt h2.1.1 (by omega), Int.zero_add]
      rw [e, ih h1.2 h2.2 v (Nat.lt_of_succ_lt_succ hv), show k + 1 + v = k + (v + 1) by omega]
theorem mEn_mDe {vs : List MV} {val : Nat → Int} {k : Nat} {s : Int} (h : VOK vs) (hv : ∀ v, v < vs.length → val (k + v) = mDe vs s v) (h0 : 0 ≤ s) (h1 : s < mPr vs) : mEn vs val k = s := by
  induction vs generalizing k s with
  | nil => unfold mPr at h1; unfold mEn; omega
  | cons x xs ih =>
    have h2 := VOK_t h
    unfold mEn
    have a := hv 0 (Nat.zero_lt_succ _)
    rw [Nat.add_zero] at a
    rw [a, ih h2.2 (s := s / (x.2.1 + 1))]
    · unfold mDe
      have := Int.mul_ediv_add_emod s (x.2.1 + 1)
      rw [Int.mul_comm] at this
      exact this
    · intro v hv1
      have b := hv (v + 1) (Nat.succ_lt_succ hv1)
      rw [show k + (v + 1) = k + 1 + v by omega] at b
      exact b
    · exact Int.ediv_nonneg h0 (by omega)
    · unfold mPr at h1
      exact Int.ediv_lt_of_lt_mul (by omega) h1
theorem mDe_in {vs : List MV} {s : Int} (h : VOK vs) (h0 : 0 ≤ s) : mIn vs (mDe vs s) 0 := by
  intro v hv
  rw [Nat.zero_add]
  induction vs generalizing s v with
  | nil => exact absurd hv (Nat.not_lt_zero _)
  | cons x xs ih =>
    have h1 := VOK_t h
    cases v with
    | zero =>
      unfold mDe
      have a := Int.emod_nonneg s (show x.2.1 + 1 ≠ 0 by omega)
      have b := Int.emod_lt_of_pos s (show 0 < x.2.1 + 1 by omega)
      exact ⟨a, by unfold mg; show _ ≤ x.2.1; omega⟩
    | succ v => exact ih h1.2 (Int.ediv_nonneg h0 (by omega)) v (Nat.lt_of_succ_lt_succ hv)
theorem mg_nn {vs : List MV} (h : VOK vs) (v : Nat) : 0 ≤ mg vs v ∧ mg vs v ≤ 30 := by
  unfold mg
  by_cases hv : v < vs.length
  · have := h _ (zgetDl (y := (([], 0, 0) : MV)) hv).1
    omega
  · rw [zgetDn (by omega)]
    decide
theorem mcl_in {g n : Int} (h : 0 ≤ g) : 0 ≤ mcl g n ∧ mcl g n ≤ g := by
  unfold mcl
  split
  · omega
  · split <;> omega
theorem mEff_in {vs : List MV} (h : VOK vs) (l : List TT) : ∀ val, mIn vs val 0 → mIn vs (mEff (mg vs) l val) 0 := by
  induction l with
  | nil => intro val hi; exact hi
  | cons t l ih =>
    intro val hi
    refine ih _ ?_
    intro v hv
    unfold tE
    split
    · rw [Nat.zero_add]
      exact mcl_in (mg_nn h v).1
    · exact hi v hv
theorem mV_in {M : MD} (h : VOK M.2.1) {val : Nat → Int} (hi : mIn M.2.1 val 0) (r : Int) : mIn M.2.1 (mV M val r) 0 := by
  unfold mV
  split
  · exact hi
  · exact mEff_in h _ _ hi
theorem mS_in {M : MD} (h : VOK M.2.1) {s d : Int} (h0 : 0 ≤ s) : 0 ≤ mS M s d ∧ mS M s d < mPr M.2.1 := mEn_lt h (mV_in h (mDe_in h h0) _)
theorem mS0_in {M : MD} (h : VOK M.2.1) : 0 ≤ mS0 M ∧ mS0 M < mPr M.2.1 := by
  refine mEn_lt h ?_
  intro v hv
  rw [Nat.zero_add]
  unfold mf mg
  have := h _ (zgetDl (y := (([], 0, 0) : MV)) hv).1
  omega
theorem tH_c {n : Nat} {val w : Nat → Int} (hv : ∀ v, v < n → val v = w v) {t : TT} (ht : t.1 < n) : tH val t ↔ tH w t := by
  unfold tH
  rw [hv _ ht]
theorem mAll_c {n : Nat} {val w : Nat → Int} (hv : ∀ v, v < n → val v = w v) {l : List TT} (hl : TOK n l) : mAll val l ↔ mAll w l := by
  unfold mAll
  constructor
  · intro h t ht
    exact (tH_c hv (hl.2 t ht).1).mp (h t ht)
  · intro h t ht
    exact (tH_c hv (hl.2 t ht).1).mpr (h t ht)
theorem mRul_c {n : Nat} {val w : Nat → Int} (hv : ∀ v, v < n → val v = w v) {l : List MR} (hl : ∀ x ∈ l, TOK n x.2.1) : ∀ d r, mRul val l d r = mRul w l d r := by
  induction l with
  | nil => intro d r; rfl
  | cons x xs ih =>
    intro d r
    have h1 := mAll_c hv (hl x (List.mem_cons_self ..))
    have h2 := ih (fun y hy => hl y (List.mem_cons_of_mem _ hy))
    unfold mRul
    by_cases hx : mAll val x.2.1
    · rw [if_pos hx, if_pos (h1.mp hx), h2]
    · rw [if_neg hx, if_neg (fun q => hx (h1.mpr q)), h2]
theorem mEff_c {n : Nat} {g : Nat → Int} (l : List TT) (hl : ∀ t ∈ l, t.1 < n) : ∀ val w : Nat → Int, (∀ v, v < n → val v = w v) → ∀ v, v < n → mEff g l val v = mEff g l w v := by
  induction l with
  | nil => intro val w hv v h; exact hv v h
  | cons t l ih =>
    intro val w hv v h
    refine ih (fun y hy => hl y (List.mem_cons_of_mem _ hy)) _ _ ?_ v h
    intro u hu
    unfold tE
    rw [hv u hu]
theorem mEn_c {vs : List MV} {val w : Nat → Int} {k : Nat} (hv : ∀ v, v < vs.length → val (k + v) = w (k + v)) : mEn vs val k = mEn vs w k := by
  induction vs generalizing k with
  | nil => rfl
  | cons x xs ih =>
    unfold mEn
    have a := hv 0 (Nat.zero_lt_succ _)
    rw [Nat.add_zero] at a
    rw [a, ih (k := k + 1)]
    intro v h
    have := hv (v + 1) (Nat.succ_lt_succ h)
    rw [show k + (v + 1) = k + 1 + v by omega] at this
    exact this
theorem mRul_r {val : Nat → Int} (l : List MR) : ∀ d r : Int, 0 ≤ r → mRul val l d r = -1 ∨ (r ≤ mRul val l d r ∧ mRul val l d r < r + l.length) := by
  induction l with
  | nil => intro d r _; exact Or.inl rfl
  | cons x xs ih =>
    intro d r hr
    unfold mRul
    have e : ((x :: xs).length : Int) = xs.length + 1 := by rw [List.length_cons]; omega
    rw [e]
    split
    · split
      · omega
      · have := ih (d - x.1) (r + 1) (by omega); omega
    · have := ih d (r + 1) (by omega); omega
/-- an array written anew -/
def zW {α : Type} (f : Nat → Nat → α) (a : Nat) (g : Nat → α) : Nat → Nat → α := fun b => if b = a then g else f b
theorem zW_s {α : Type} {f : Nat → Nat → α} {a : Nat} {g : Nat → α} : zW f a g a = g := by unfold zW; rw [if_pos rfl]
theorem zW_n {α : Type} {f : Nat → Nat → α} {a b : Nat} {g : Nat → α} (h : b ≠ a) : zW f a g b = f b := by unfold zW; rw [if_neg h]
theorem zW_W {α : Type} {f : Nat → Nat → α} {a : Nat} {g k : Nat → α} : zW (zW f a g) a k = zW f a k := by
  funext b
  unfold zW
  split <;> rfl
theorem zW_id {α : Type} {f : Nat → Nat → α} {a : Nat} : zW f a (f a) = f := by
  funext b
  unfold zW
  split
  · rename_i h; rw [h]
  · rfl
theorem zu_W {α : Type} {f : Nat → Nat → α} {a k : Nat} {v : α} : zu f a k v = zW f a (fun j => if j = k then v else f a j) := by
  funext b j
  unfold zu zW
  by_cases h : b = a
  · rw [if_pos h, h]
    by_cases h2 : j = k
    · rw [if_pos ⟨rfl, h2⟩, if_pos h2]
    · rw [if_neg (fun q => h2 q.2), if_neg h2]
  · rw [if_neg h, if_neg (fun q => h q.1)]
theorem zu_n {α : Type} {f : Nat → Nat → α} {a k b : Nat} {v : α} (h : b ≠ a) : zu f a k v b = f b := by
  funext j
  exact zu_a h
