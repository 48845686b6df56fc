/-! The class: split. -/
section
variable {X : ZX} {d c s : Nat} {I L I1 L1 I2 L2 : ZI} {R R1 R2 : ZR} {call : ZC} {w b p q : Nat} {M : MD} {f : Nat → Int} {x t : Int} {B : Prop}
def mMn (cc val : Int) : Int := if val < cc then val else cc
/-- a copy followed: the count behind it, and where further copies are put -/
noncomputable def mFo (M : MD) (g v : Nat) (cc l : Int) : Nat → Int → SA → SA × Option (Int × Int × Nat)
  | 0, t, a => if l < mMn cc (mDe M.2.1 t v) then (a, some (mMn cc (mDe M.2.1 t v), t, 0)) else @ite _ (mGoal M g t) (Classical.propDecidable _) ((a.1, a.2.1, zw3 (a.2.2 + 1)), none) (a, none)
  | e + 1, t, a => if l < mMn cc (mDe M.2.1 t v) then (a, some (mMn cc (mDe M.2.1 t v), t, e + 1)) else @ite _ (mGoal M g t) (Classical.propDecidable _) ((a.1, a.2.1, zw3 (a.2.2 + 1)), none) (mFo M g v cc l e (mS M t (mdr M.1 (mlot a.1))) (mlot a.1, a.2.1 + 1, a.2.2))
theorem mFo_s {g v : Nat} {cc l : Int} : ∀ (e : Nat) (t : Int) (a : SA), a.2.1 ≤ (mFo M g v cc l e t a).1.2.1 ∧ (mFo M g v cc l e t a).1.2.1 ≤ a.2.1 + e := by
  intro e
  induction e with
  | zero =>
    intro t a
    unfold mFo
    split
    · exact ⟨Int.le_refl _, by show a.2.1 ≤ a.2.1 + 0; omega⟩
    · split
      · exact ⟨Int.le_refl _, by show a.2.1 ≤ a.2.1 + 0; omega⟩
      · exact ⟨Int.le_refl _, by show a.2.1 ≤ a.2.1 + 0; omega⟩
  | succ e ih =>
    intro t a
    unfold mFo
    split
    · exact ⟨Int.le_refl _, by show a.2.1 ≤ _; omega⟩
    · split
      · exact ⟨Int.le_refl _, by show a.2.1 ≤ _; omega⟩
      · have := ih (mS M t (mdr M.1 (mlot a.1))) (mlot a.1, a.2.1 + 1, a.2.2)
        have h1 : a.2.1 + 1 ≤ _ := this.1
        have h2 : _ ≤ a.2.1 + 1 + (e : Int) := this.2
        omega
/-- one copy at level l, its level looked at first -/
noncomputable def mNe (M : MD) (g v : Nat) (cc r l : Int) (e : Nat) (t : Int) (a : SA) : Option SA := if l < mMn cc (mDe M.2.1 t v) then mRep (mNd M g v cc r e t (mMn cc (mDe M.2.1 t v) + 1)) (r ^ (mMn cc (mDe M.2.1 t v) - l).toNat).toNat a else mNd M g v cc r e t (l + 1) a
noncomputable def mEv (M : MD) (g v : Nat) (cc r l : Int) (z : SA × Option (Int × Int × Nat)) : Option SA := if 20000 < z.1.2.1 then none else match z.2 with
  | none => some z.1
  | some u => mRep (mNd M g v cc r u.2.2 u.2.1 (u.1 + 1)) (r ^ (u.1 - l).toNat).toNat z.1
theorem mNx_m {cc val l : Int} : mNx cc val (l + 1) = if l < mMn cc val then mMn cc val + 1 else l + 1 := by
  unfold mNx mMn
  (repeat' split) <;> omega
theorem mRep_1 {F : SA → Option SA} {a : SA} : mRep F 1 a = F a := by
  unfold mRep
  cases F a with
  | none => rfl
  | some b => rfl
theorem fo_nd {g v : Nat} {cc r l : Int} : ∀ (e : Nat) (t : Int) (a : SA), SB a → mNe M g v cc r l e t a = mEv M g v cc r l (mFo M g v cc l e t a) := by
  intro e
  induction e with
  | zero =>
    intro t a ha
    have h2 := ha.2
    unfold mNe mFo mEv
    by_cases q : l < mMn cc (mDe M.2.1 t v)
    · rw [if_pos q, if_pos q, if_neg (by show ¬ 20000 < a.2.1; omega)]
    · rw [if_neg q, if_neg q]
      unfold mNd
      by_cases hg : mGoal M g t
      · rw [if_pos hg, if_pos hg, if_neg (by show ¬ 20000 < a.2.1; omega)]
      · rw [if_neg hg, if_neg hg, if_neg (by show ¬ 20000 < a.2.1; omega)]
  | succ e ih =>
    intro t a ha
    have h2 := ha.2
    have h1 := ha.1
    unfold mNe mFo
    by_cases q : l < mMn cc (mDe M.2.1 t v)
    · unfold mEv
      rw [if_pos q, if_pos q, if_neg (by show ¬ 20000 < a.2.1; omega)]
    · rw [if_neg q, if_neg q]
      unfold mNd
      by_cases hg : mGoal M g t
      · unfold mEv
        rw [if_pos hg, if_pos hg, if_neg (by show ¬ 20000 < a.2.1; omega)]
      · rw [if_neg hg, if_neg hg]
        by_cases hd : a.2.1 = 20000
        · rw [if_pos hd]
          have h3 := (mFo_s (M := M) (g := g) (v := v) (cc := cc) (l := l) e (mS M t (mdr M.1 (mlot a.1))) (mlot a.1, a.2.1 + 1, a.2.2)).1
          have h3 : a.2.1 + 1 ≤ _ := h3
          unfold mEv
          rw [if_pos (by omega)]
        · rw [if_neg hd, ← ih (mS M t (mdr M.1 (mlot a.1))) (mlot a.1, a.2.1 + 1, a.2.2) ⟨by show 0 ≤ a.2.1 + 1; omega, by show a.2.1 + 1 ≤ 20000; omega⟩, mNx_m]
          unfold mNe
          generalize mS M t (mdr M.1 (mlot a.1)) = t1
          by_cases q1 : l < mMn cc (mDe M.2.1 t1 v)
          · rw [if_pos q1, if_pos q1]
            congr 3
            omega
          · rw [if_neg q1, if_neg q1, Int.sub_self, Int.toNat_zero, Int.pow_zero]
            exact mRep_1
theorem q_copiesFor (r : Int) (hr0 : 1 ≤ r) (hr1 : r ≤ 4) (hI : I 306 7 = r) (n : Int) (hn : n ≤ 5) : ∀ (j : Nat) (k : Int), (n - k).toNat = j → 0 ≤ k → k ≤ n → V X call mX6_copiesFor 4 [zr (some 306), zi n, zi (r ^ k.toNat), zi k] [] (c, s, I, L, R) (fun u => u = (some (zi (r ^ n.toNat)), (c, s, I, L, R))) := by
  intro j
  induction j with
  | zero =>
    intro k h1 h2 h3
    have e : k = n := by omega
    rw [e_X6_copiesFor_4]
    simp (disch := omega) only [e_X6_copiesFor_0, e_X6_copiesFor_1, e_X6_copiesFor_2, e_X6_copiesFor_3, e_X6_copiesFor_5, e_X6_copiesFor_6, e_X6_copiesFor_9, e_X6_copiesFor_10, e_X6_copiesFor_10x, e_X6_copiesFor_11, e_X6_copiesFor_14, e_X6_copiesFor_15, e_X6_copiesFor_16, e_X6_copiesFor_19, e_X6_copiesFor_22, e_X6_copiesFor_23, zcll_s, zpush_s, zpush_n, zinv_i, zinv_l, zinv_r, zinv_x, zcats_nil, zcats_i, zcats_l, zcats_r, zcats_x, Nat.le_refl, and_self, true_and, and_true, zok_1, zok_20, zok_21, eq_self, Nat.reduceAdd, Nat.reduceLeDiff, Nat.zero_le, if_true, if_false, zw3_id, if_pos, if_neg, zand_t]
    rw [e]
  | succ j ih =>
    intro k h1 h2 h3
    have hcp := pow4c hr0 hr1 (n := (k + 1).toNat) (by omega)
    have e1 : r ^ k.toNat * r = r ^ (k + 1).toNat := by rw [show (k + 1).toNat = k.toNat + 1 by omega, Int.pow_succ]
    rw [e_X6_copiesFor_4]
    simp (disch := omega) only [e_X6_copiesFor_0, e_X6_copiesFor_1, e_X6_copiesFor_2, e_X6_copiesFor_3, e_X6_copiesFor_5, e_X6_copiesFor_6, e_X6_copiesFor_9, e_X6_copiesFor_10, e_X6_copiesFor_10x, e_X6_copiesFor_11, e_X6_copiesFor_14, e_X6_copiesFor_15, e_X6_copiesFor_16, e_X6_copiesFor_19, e_X6_copiesFor_22, e_X6_copiesFor_23, zcll_s, zpush_s, zpush_n, zinv_i, zinv_l, zinv_r, zinv_x, zcats_nil, zcats_i, zcats_l, zcats_r, zcats_x, Nat.le_refl, and_self, true_and, and_true, zok_1, zok_20, zok_21, eq_self, Nat.reduceAdd, Nat.reduceLeDiff, Nat.zero_le, if_true, if_false, zw3_id, if_pos, if_neg, zand_t, tg_306, hI, e1]
    exact ih (k + 1) (by omega) (by omega) (by omega)
theorem k_copiesFor {r : Int} (hr0 : 1 ≤ r) (hr1 : r ≤ 4) (hI : I 306 7 = r) {n : Int} (hn0 : 0 ≤ n) (hn : n ≤ 5) : zrun X (d + 1) 52 [zr (some 306), zi n] (c, s, I, L, R) = some (some (zi (r ^ n.toNat)), (c, s, I, L, R)) := by
  refine st_X6_copiesFor ?_
  have h := q_copiesFor (X := X) (call := zrun X d) (c := c) (s := s) (L := L) (R := R) r hr0 hr1 hI n hn n.toNat 0 (by omega) (by omega) (by omega)
  rw [Int.toNat_zero, Int.pow_zero] at h
  simp (disch := omega) only [e_X6_copiesFor_0, e_X6_copiesFor_1, e_X6_copiesFor_2, e_X6_copiesFor_3, e_X6_copiesFor_5, e_X6_copiesFor_6, e_X6_copiesFor_9, e_X6_copiesFor_10, e_X6_copiesFor_10x, e_X6_copiesFor_11, e_X6_copiesFor_14, e_X6_copiesFor_15, e_X6_copiesFor_16, e_X6_copiesFor_19, e_X6_copiesFor_22, e_X6_copiesFor_23, zcll_s, zpush_s, zpush_n, zinv_i, zinv_l, zinv_r, zinv_x, zcats_nil, zcats_i, zcats_l, zcats_r, zcats_x, Nat.le_refl, and_self, true_and, and_true, zok_1, zok_20, zok_21, eq_self, Nat.reduceAdd, Nat.reduceLeDiff, Nat.zero_le, if_true, if_false, zw3_id, if_pos, if_neg, zand_t]
  exact h
theorem k_putCopies (hR : Rok R) (ht : I 269 2 = t) {l k e : Int} (hl0 : 0 ≤ l) (hl : l ≤ 5) : zrun X (d + 1) 51 [zr (some 306), zi l, zi k, zi e] (c, s, I, L, R) = some (none, (c, s, zu (zu (zu I 307 l.toNat k) 308 l.toNat t) 309 l.toNat e, L, R)) := by
  refine st_X6_putCopies ?_
  have e1 : ∀ y, zu I 307 l.toNat y 269 2 = t := fun y => by rw [zu_a (by omega)]; exact ht
  simp (disch := omega) only [e_X6_putCopies_0, e_X6_putCopies_1, e_X6_putCopies_4, e_X6_putCopies_5, e_X6_putCopies_6, e_X6_putCopies_9, e_X6_putCopies_9x, e_X6_putCopies_10, e_X6_putCopies_13, e_X6_putCopies_14, e_X6_putCopies_15, e_X6_putCopies_16, e_X6_putCopies_16x, e_X6_putCopies_17, e_X6_putCopies_20, e_X6_putCopies_21, e_X6_putCopies_21x, e_X6_putCopies_22, e_X6_putCopies_25, e_X6_putCopies_28, e_X6_putCopies_29, e_X6_putCopies_29x, e_X6_putCopies_30, e_X6_putCopies_33, e_X6_putCopies_34, e_X6_putCopies_35, e_X6_putCopies_36, zcll_s, zpush_s, zpush_n, zinv_i, zinv_l, zinv_r, zinv_x, zcats_nil, zcats_i, zcats_l, zcats_r, zcats_x, Nat.le_refl, and_self, true_and, and_true, zok_1, zok_20, zok_21, eq_self, Nat.reduceAdd, Nat.reduceLeDiff, Nat.zero_le, if_true, if_false, zw3_id, if_pos, if_neg, zand_t, tg_269, tg_306, tg_307, tn_307, tg_308, tn_308, tg_309, tn_309, rr_306_0 hR, rr_306_1 hR, rr_306_2 hR, rr_306_3 hR, e1]
/-- what following leaves as it is -/
def FrF (I L I1 L1 : ZI) : Prop := (∀ a, a ≠ 266 → a ≠ 267 → a ≠ 268 → a ≠ 269 → a ≠ 306 → a ≠ 337 → I1 a = I a) ∧ (∀ k, k ≠ 8 → k ≠ 9 → I1 306 k = I 306 k) ∧ ∀ a, a ≠ 269 → L1 a = L a
theorem FrF_r : FrF I L I L := ⟨fun _ _ _ _ _ _ _ => rfl, fun _ _ _ => rfl, fun _ _ => rfl⟩
theorem FrF_t (h1 : FrF I L I1 L1) (h2 : FrF I1 L1 I2 L2) : FrF I L I2 L2 := ⟨fun a q1 q2 q3 q4 q5 q6 => (h2.1 a q1 q2 q3 q4 q5 q6).trans (h1.1 a q1 q2 q3 q4 q5 q6), fun k q1 q2 => (h2.2.1 k q1 q2).trans (h1.2.1 k q1 q2), fun a q => (h2.2.2 a q).trans (h1.2.2 a q)⟩
theorem FrF_T (h : KT I I1) : FrF I L I1 L := ⟨fun a q1 q2 q3 _ _ q6 => h a q1 q2 q3 q6, fun k _ _ => by rw [h 306 (by omega) (by omega) (by omega) (by omega)], fun _ _ => rfl⟩
theorem FrF_u {k : Nat} {y : Int} (hk : k = 8 ∨ k = 9) : FrF I L (zu I 306 k y) L := ⟨fun a _ _ _ _ q _ => zu_n q, fun j q1 q2 => zu_k (by omega), fun _ _ => rfl⟩
theorem ClS_f (h : ClS I R b M) (hK : FrF I L I1 L1) (hT : Tab I1 M) : ClS I1 R b M := ⟨h.1, h.2.1, h.2.2.1, h.2.2.2.1, h.2.2.2.2.1, ClM_c h.2.2.2.2.2.2.1 (fun a q1 q2 => by have := h.2.1; exact hK.1 a (by omega) (by omega) (by omega) (by omega) (by omega) (by omega)) h.2.2.2.2.2.1, h.2.2.2.2.2.2.1, hT⟩
/-- the splitter's numbers -/
def SpC (I : ZI) (g v cc r : Int) : Prop := I 306 4 = g ∧ I 306 5 = v ∧ I 306 6 = cc ∧ I 306 7 = r
theorem SpC_f {g v cc r : Int} (h : SpC I g v cc r) (hK : FrF I L I1 L1) : SpC I1 g v cc r := ⟨by rw [hK.2.1 4 (by omega) (by omega)]; exact h.1, by rw [hK.2.1 5 (by omega) (by omega)]; exact h.2.1, by rw [hK.2.1 6 (by omega) (by omega)]; exact h.2.2.1, by rw [hK.2.1 7 (by omega) (by omega)]; exact h.2.2.2⟩
def SpA (I L : ZI) (a : SA) : Prop := L 269 1 = a.1 ∧ I 306 8 = a.2.1 ∧ I 306 9 = a.2.2
def sFin (c s : Nat) (R : ZR) (l r : Int) (u : Option (Int × Int × Nat)) (I L : ZI) : Option ZV × ZS := match u with
  | none => (some (zi l), (c, s, I, L, R))
  | some z => (some (zi z.1), (c, s, zu (zu (zu I 307 z.1.toNat (r ^ (z.1 - l).toNat)) 308 z.1.toNat z.2.1) 309 z.1.toNat (z.2.2 : Int), L, R))
theorem q_follow (g v cc r l : Int) (hg0 : 0 ≤ g) (hg : g < M.2.2.2.length) (hv0 : 0 ≤ v) (hv : v < M.2.1.length) (hc0 : 1 ≤ cc) (hc1 : cc ≤ 5) (hr0 : 1 ≤ r) (hr1 : r ≤ 4) (hl0 : 0 ≤ l) (hl : l ≤ 5) {Q : Option ZV × ZS → Prop} : ∀ (e : Nat) (t : Int) (a : SA) (I L : ZI) (v3 : ZV), ClS I R b M → SpC I g v cc r → SpA I L a → I 269 2 = t → 0 ≤ t → t < mPr M.2.1 → 0 ≤ a.2.1 → a.2.1 + e ≤ 30000 → (e : Int) ≤ 60 → (∀ I1 L1, FrF I L I1 L1 → Tab I1 M → SpA I1 L1 (mFo M g.toNat v.toNat cc l e t a).1 → Q (sFin c s R l r (mFo M g.toNat v.toNat cc l e t a).2 I1 L1)) → V X (zrun X (d + 5)) mX6_follow 20 [zr (some 306), zi l, zi (e : Int), v3] [] (c, s, I, L, R) Q := by
  intro e
  induction e with
  | zero =>
    intro t a I L v3 hS hC hA ht h0 h1 h2 h3 h3' hQ
    have hR := hS.1
    have q1 := k_valueOf (X := X) (d := d + 3) (c := c) (s := s) (L := L) hS ht h0 h1 hv0 hv
    have hmn : (if mDe M.2.1 t v.toNat < cc then mDe M.2.1 t v.toNat else cc) = mMn cc (mDe M.2.1 t v.toNat) := rfl
    have hmb : mMn cc (mDe M.2.1 t v.toNat) ≤ 5 := by unfold mMn; split <;> omega
    unfold mFo at hQ
    rw [e_X6_follow_20]
    generalize mMn cc (mDe M.2.1 t v.toNat) = mn at hQ hmn hmb
    by_cases q : l < mn
    · rw [if_pos q] at hQ
      have q2 := k_copiesFor (X := X) (d := d + 4) (c := c) (s := s) (I := I) (L := L) (R := R) hr0 hr1 hC.2.2.2 (n := mn - l) (by omega) (by omega)
      have q3 := k_putCopies (X := X) (d := d + 4) (c := c) (s := s) (L := L) hR ht (l := mn) (k := r ^ (mn - l).toNat) (e := ((0 : Nat) : Int)) (by omega) (by omega)
      have fin := hQ I L FrF_r hS.2.2.2.2.2.2.2 hA
      simp (disch := omega) only [e_X6_follow_0, e_X6_follow_0x, e_X6_follow_1, e_X6_follow_4, e_X6_follow_4x, e_X6_follow_5, e_X6_follow_8, e_X6_follow_9, e_X6_follow_10, e_X6_follow_13, e_X6_follow_13x, e_X6_follow_14, e_X6_follow_17, e_X6_follow_18, e_X6_follow_19, e_X6_follow_21, e_X6_follow_24, e_X6_follow_24x, e_X6_follow_25, e_X6_follow_28, e_X6_follow_28x, e_X6_follow_29, e_X6_follow_32, e_X6_follow_32x, e_X6_follow_33, e_X6_follow_36, e_X6_follow_39, e_X6_follow_42, e_X6_follow_43, e_X6_follow_44, e_X6_follow_45, e_X6_follow_48, e_X6_follow_48x, e_X6_follow_49, e_X6_follow_50, e_X6_follow_50x, e_X6_follow_51, e_X6_follow_52, e_X6_follow_53, e_X6_follow_54, e_X6_follow_57, e_X6_follow_58, e_X6_follow_61, e_X6_follow_62, e_X6_follow_63, e_X6_follow_63x, e_X6_follow_64, e_X6_follow_67, e_X6_follow_67x, e_X6_follow_68, e_X6_follow_71, e_X6_follow_74, e_X6_follow_77, e_X6_follow_77x, e_X6_follow_78, e_X6_follow_78r, e_X6_follow_79, e_X6_follow_82, e_X6_follow_83, e_X6_follow_84, e_X6_follow_87, e_X6_follow_88, e_X6_follow_89, e_X6_follow_90, e_X6_follow_93, e_X6_follow_93x, e_X6_follow_94, e_X6_follow_94r, e_X6_follow_95, e_X6_follow_98, e_X6_follow_99, e_X6_follow_100, e_X6_follow_103, e_X6_follow_103x, e_X6_follow_104, e_X6_follow_107, e_X6_follow_110, e_X6_follow_111, e_X6_follow_114, e_X6_follow_117, e_X6_follow_118, zcll_s, zpush_s, zpush_n, zinv_i, zinv_l, zinv_r, zinv_x, zcats_nil, zcats_i, zcats_l, zcats_r, zcats_x, Nat.le_refl, and_self, true_and, and_true, zok_1, zok_20, zok_21, eq_self, Nat.reduceAdd, Nat.reduceLeDiff, Nat.zero_le, if_true, if_false, zw3_id, if_pos, if_neg, zand_t, tg_269, tg_306, rr_306_0 hR, hC.2.1, hC.2.2.1, q1, hmn, q2, q3]
      exact fin
    · rw [if_neg q] at hQ
      obtain ⟨I1, r1, r2, r3⟩ := k_isAt (X := X) (d := d) (c := c) (s := s) (L := L) hS ht h0 h1 hg0 hg
      have e9 : I1 306 9 = a.2.2 := by rw [r2 306 (by omega) (by omega) (by omega) (by omega)]; exact hA.2.2
      have e8 : I1 306 8 = a.2.1 := by rw [r2 306 (by omega) (by omega) (by omega) (by omega)]; exact hA.2.1
      by_cases hgo : mGoal M g.toNat t
      · rw [if_pos hgo] at hQ
        rw [zB_t hgo] at r1
        have fin := hQ (zu I1 306 9 (zw3 (a.2.2 + 1))) L (FrF_t (FrF_T r2) (FrF_u (Or.inr rfl))) (Tab_c r3 (zu_n (by omega)) (zu_n (by omega))) ⟨hA.1, by rw [zu_k (by omega)]; exact e8, zu_s⟩
        simp (disch := omega) only [e_X6_follow_0, e_X6_follow_0x, e_X6_follow_1, e_X6_follow_4, e_X6_follow_4x, e_X6_follow_5, e_X6_follow_8, e_X6_follow_9, e_X6_follow_10, e_X6_follow_13, e_X6_follow_13x, e_X6_follow_14, e_X6_follow_17, e_X6_follow_18, e_X6_follow_19, e_X6_follow_21, e_X6_follow_24, e_X6_follow_24x, e_X6_follow_25, e_X6_follow_28, e_X6_follow_28x, e_X6_follow_29, e_X6_follow_32, e_X6_follow_32x, e_X6_follow_33, e_X6_follow_36, e_X6_follow_39, e_X6_follow_42, e_X6_follow_43, e_X6_follow_44, e_X6_follow_45, e_X6_follow_48, e_X6_follow_48x, e_X6_follow_49, e_X6_follow_50, e_X6_follow_50x, e_X6_follow_51, e_X6_follow_52, e_X6_follow_53, e_X6_follow_54, e_X6_follow_57, e_X6_follow_58, e_X6_follow_61, e_X6_follow_62, e_X6_follow_63, e_X6_follow_63x, e_X6_follow_64, e_X6_follow_67, e_X6_follow_67x, e_X6_follow_68, e_X6_follow_71, e_X6_follow_74, e_X6_follow_77, e_X6_follow_77x, e_X6_follow_78, e_X6_follow_78r, e_X6_follow_79, e_X6_follow_82, e_X6_follow_83, e_X6_follow_84, e_X6_follow_87, e_X6_follow_88, e_X6_follow_89, e_X6_follow_90, e_X6_follow_93, e_X6_follow_93x, e_X6_follow_94, e_X6_follow_94r, e_X6_follow_95, e_X6_follow_98, e_X6_follow_99, e_X6_follow_100, e_X6_follow_103, e_X6_follow_103x, e_X6_follow_104, e_X6_follow_107, e_X6_follow_110, e_X6_follow_111, e_X6_follow_114, e_X6_follow_117, e_X6_follow_118, zcll_s, zpush_s, zpush_n, zinv_i, zinv_l, zinv_r, zinv_x, zcats_nil, zcats_i, zcats_l, zcats_r, zcats_x, Nat.le_refl, and_self, true_and, and_true, zok_1, zok_20, zok_21, eq_self, Nat.reduceAdd, Nat.reduceLeDiff, Nat.zero_le, if_true, if_false, zw3_id, if_pos, if_neg, zand_t, tg_269, tg_306, rr_306_0 hR, hC.1, hC.2.1, hC.2.2.1, q1, hmn, r1, e9]
        exact fin
      · rw [if_neg hgo] at hQ
        rw [zB_f hgo] at r1
        have fin := hQ I1 L (FrF_T r2) r3 ⟨hA.1, e8, e9⟩
        simp (disch := omega) only [e_X6_follow_0, e_X6_follow_0x, e_X6_follow_1, e_X6_follow_4, e_X6_follow_4x, e_X6_follow_5, e_X6_follow_8, e_X6_follow_9, e_X6_follow_10, e_X6_follow_13, e_X6_follow_13x, e_X6_follow_14, e_X6_follow_17, e_X6_follow_18, e_X6_follow_19, e_X6_follow_21, e_X6_follow_24, e_X6_follow_24x, e_X6_follow_25, e_X6_follow_28, e_X6_follow_28x, e_X6_follow_29, e_X6_follow_32, e_X6_follow_32x, e_X6_follow_33, e_X6_follow_36, e_X6_follow_39, e_X6_follow_42, e_X6_follow_43, e_X6_follow_44, e_X6_follow_45, e_X6_follow_48, e_X6_follow_48x, e_X6_follow_49, e_X6_follow_50, e_X6_follow_50x, e_X6_follow_51, e_X6_follow_52, e_X6_follow_53, e_X6_follow_54, e_X6_follow_57, e_X6_follow_58, e_X6_follow_61, e_X6_follow_62, e_X6_follow_63, e_X6_follow_63x, e_X6_follow_64, e_X6_follow_67, e_X6_follow_67x, e_X6_follow_68, e_X6_follow_71, e_X6_follow_74, e_X6_follow_77, e_X6_follow_77x, e_X6_follow_78, e_X6_follow_78r, e_X6_follow_79, e_X6_follow_82, e_X6_follow_83, e_X6_follow_84, e_X6_follow_87, e_X6_follow_88, e_X6_follow_89, e_X6_follow_90, e_X6_follow_93, e_X6_follow_93x, e_X6_follow_94, e_X6_follow_94r, e_X6_follow_95, e_X6_follow_98, e_X6_follow_99, e_X6_follow_100, e_X6_follow_103, e_X6_follow_103x, e_X6_follow_104, e_X6_follow_107, e_X6_follow_110, e_X6_follow_111, e_X6_follow_114, e_X6_follow_117, e_X6_follow_118, zcll_s, zpush_s, zpush_n, zinv_i, zinv_l, zinv_r, zinv_x, zcats_nil, zcats_i, zcats_l, zcats_r, zcats_x, Nat.le_refl, and_self, true_and, and_true, zok_1, zok_20, zok_21, eq_self, Nat.reduceAdd, Nat.reduceLeDiff, Nat.zero_le, if_true, if_false, zw3_id, if_pos, if_neg, zand_t, tg_269, tg_306, rr_306_0 hR, hC.1, hC.2.1, hC.2.2.1, q1, hmn, r1]
        rw [e_X6_follow_20]
        simp (disch := omega) only [e_X6_follow_0, e_X6_follow_0x, e_X6_follow_1, e_X6_follow_4, e_X6_follow_4x, e_X6_follow_5, e_X6_follow_8, e_X6_follow_9, e_X6_follow_10, e_X6_follow_13, e_X6_follow_13x, e_X6_follow_14, e_X6_follow_17, e_X6_follow_18, e_X6_follow_19, e_X6_follow_21, e_X6_follow_24, e_X6_follow_24x, e_X6_follow_25, e_X6_follow_28, e_X6_follow_28x, e_X6_follow_29, e_X6_follow_32, e_X6_follow_32x, e_X6_follow_33, e_X6_follow_36, e_X6_follow_39, e_X6_follow_42, e_X6_follow_43, e_X6_follow_44, e_X6_follow_45, e_X6_follow_48, e_X6_follow_48x, e_X6_follow_49, e_X6_follow_50, e_X6_follow_50x, e_X6_follow_51, e_X6_follow_52, e_X6_follow_53, e_X6_follow_54, e_X6_follow_57, e_X6_follow_58, e_X6_follow_61, e_X6_follow_62, e_X6_follow_63, e_X6_follow_63x, e_X6_follow_64, e_X6_follow_67, e_X6_follow_67x, e_X6_follow_68, e_X6_follow_71, e_X6_follow_74, e_X6_follow_77, e_X6_follow_77x, e_X6_follow_78, e_X6_follow_78r, e_X6_follow_79, e_X6_follow_82, e_X6_follow_83, e_X6_follow_84, e_X6_follow_87, e_X6_follow_88, e_X6_follow_89, e_X6_follow_90, e_X6_follow_93, e_X6_follow_93x, e_X6_follow_94, e_X6_follow_94r, e_X6_follow_95, e_X6_follow_98, e_X6_follow_99, e_X6_follow_100, e_X6_follow_103, e_X6_follow_103x, e_X6_follow_104, e_X6_follow_107, e_X6_follow_110, e_X6_follow_111, e_X6_follow_114, e_X6_follow_117, e_X6_follow_118, zcll_s, zpush_s, zpush_n, zinv_i, zinv_l, zinv_r, zinv_x, zcats_nil, zcats_i, zcats_l, zcats_r, zcats_x, Nat.le_refl, and_self, true_and, and_true, zok_1, zok_20, zok_21, eq_self, Nat.reduceAdd, Nat.reduceLeDiff, Nat.zero_le, if_true, if_false, zw3_id, if_pos, if_neg, zand_t]
        exact fin
  | succ e ih =>
    intro t a I L v3 hS hC hA ht h0 h1 h2 h3 h3' hQ
    have hR := hS.1
    have hk := hS.2.2.2.2.2.2.1
    have q1 := k_valueOf (X := X) (d := d + 3) (c := c) (s := s) (L := L) hS ht h0 h1 hv0 hv
    have hmn : (if mDe M.2.1 t v.toNat < cc then mDe M.2.1 t v.toNat else cc) = mMn cc (mDe M.2.1 t v.toNat) := rfl
    have hmb : mMn cc (mDe M.2.1 t v.toNat) ≤ 5 := by unfold mMn; split <;> omega
    unfold mFo at hQ
    rw [e_X6_follow_20]
    generalize mMn cc (mDe M.2.1 t v.toNat) = mn at hQ hmn hmb
    by_cases q : l < mn
    · rw [if_pos q] at hQ
      have q2 := k_copiesFor (X := X) (d := d + 4) (c := c) (s := s) (I := I) (L := L) (R := R) hr0 hr1 hC.2.2.2 (n := mn - l) (by omega) (by omega)
      have q3 := k_putCopies (X := X) (d := d + 4) (c := c) (s := s) (L := L) hR ht (l := mn) (k := r ^ (mn - l).toNat) (e := ((e + 1 : Nat) : Int)) (by omega) (by omega)
      have fin := hQ I L FrF_r hS.2.2.2.2.2.2.2 hA
      simp (disch := omega) only [e_X6_follow_0, e_X6_follow_0x, e_X6_follow_1, e_X6_follow_4, e_X6_follow_4x, e_X6_follow_5, e_X6_follow_8, e_X6_follow_9, e_X6_follow_10, e_X6_follow_13, e_X6_follow_13x, e_X6_follow_14, e_X6_follow_17, e_X6_follow_18, e_X6_follow_19, e_X6_follow_21, e_X6_follow_24, e_X6_follow_24x, e_X6_follow_25, e_X6_follow_28, e_X6_follow_28x, e_X6_follow_29, e_X6_follow_32, e_X6_follow_32x, e_X6_follow_33, e_X6_follow_36, e_X6_follow_39, e_X6_follow_42, e_X6_follow_43, e_X6_follow_44, e_X6_follow_45, e_X6_follow_48, e_X6_follow_48x, e_X6_follow_49, e_X6_follow_50, e_X6_follow_50x, e_X6_follow_51, e_X6_follow_52, e_X6_follow_53, e_X6_follow_54, e_X6_follow_57, e_X6_follow_58, e_X6_follow_61, e_X6_follow_62, e_X6_follow_63, e_X6_follow_63x, e_X6_follow_64, e_X6_follow_67, e_X6_follow_67x, e_X6_follow_68, e_X6_follow_71, e_X6_follow_74, e_X6_follow_77, e_X6_follow_77x, e_X6_follow_78, e_X6_follow_78r, e_X6_follow_79, e_X6_follow_82, e_X6_follow_83, e_X6_follow_84, e_X6_follow_87, e_X6_follow_88, e_X6_follow_89, e_X6_follow_90, e_X6_follow_93, e_X6_follow_93x, e_X6_follow_94, e_X6_follow_94r, e_X6_follow_95, e_X6_follow_98, e_X6_follow_99, e_X6_follow_100, e_X6_follow_103, e_X6_follow_103x, e_X6_follow_104, e_X6_follow_107, e_X6_follow_110, e_X6_follow_111, e_X6_follow_114, e_X6_follow_117, e_X6_follow_118, zcll_s, zpush_s, zpush_n, zinv_i, zinv_l, zinv_r, zinv_x, zcats_nil, zcats_i, zcats_l, zcats_r, zcats_x, Nat.le_refl, and_self, true_and, and_true, zok_1, zok_20, zok_21, eq_self, Nat.reduceAdd, Nat.reduceLeDiff, Nat.zero_le, if_true, if_false, zw3_id, if_pos, if_neg, zand_t, tg_269, tg_306, rr_306_0 hR, hC.2.1, hC.2.2.1, q1, hmn, q2, q3]
      exact fin
    · rw [if_neg q] at hQ
      obtain ⟨I1, r1, r2, r3⟩ := k_isAt (X := X) (d := d) (c := c) (s := s) (L := L) hS ht h0 h1 hg0 hg
      have e9 : I1 306 9 = a.2.2 := by rw [r2 306 (by omega) (by omega) (by omega) (by omega)]; exact hA.2.2
      have e8 : I1 306 8 = a.2.1 := by rw [r2 306 (by omega) (by omega) (by omega) (by omega)]; exact hA.2.1
      by_cases hgo : mGoal M g.toNat t
      · rw [if_pos hgo] at hQ
        rw [zB_t hgo] at r1
        have fin := hQ (zu I1 306 9 (zw3 (a.2.2 + 1))) L (FrF_t (FrF_T r2) (FrF_u (Or.inr rfl))) (Tab_c r3 (zu_n (by omega)) (zu_n (by omega))) ⟨hA.1, by rw [zu_k (by omega)]; exact e8, zu_s⟩
        simp (disch := omega) only [e_X6_follow_0, e_X6_follow_0x, e_X6_follow_1, e_X6_follow_4, e_X6_follow_4x, e_X6_follow_5, e_X6_follow_8, e_X6_follow_9, e_X6_follow_10, e_X6_follow_13, e_X6_follow_13x, e_X6_follow_14, e_X6_follow_17, e_X6_follow_18, e_X6_follow_19, e_X6_follow_21, e_X6_follow_24, e_X6_follow_24x, e_X6_follow_25, e_X6_follow_28, e_X6_follow_28x, e_X6_follow_29, e_X6_follow_32, e_X6_follow_32x, e_X6_follow_33, e_X6_follow_36, e_X6_follow_39, e_X6_follow_42, e_X6_follow_43, e_X6_follow_44, e_X6_follow_45, e_X6_follow_48, e_X6_follow_48x, e_X6_follow_49, e_X6_follow_50, e_X6_follow_50x, e_X6_follow_51, e_X6_follow_52, e_X6_follow_53, e_X6_follow_54, e_X6_follow_57, e_X6_follow_58, e_X6_follow_61, e_X6_follow_62, e_X6_follow_63, e_X6_follow_63x, e_X6_follow_64, e_X6_follow_67, e_X6_follow_67x, e_X6_follow_68, e_X6_follow_71, e_X6_follow_74, e_X6_follow_77, e_X6_follow_77x, e_X6_follow_78, e_X6_follow_78r, e_X6_follow_79, e_X6_follow_82, e_X6_follow_83, e_X6_follow_84, e_X6_follow_87, e_X6_follow_88, e_X6_follow_89, e_X6_follow_90, e_X6_follow_93, e_X6_follow_93x, e_X6_follow_94, e_X6_follow_94r, e_X6_follow_95, e_X6_follow_98, e_X6_follow_99, e_X6_follow_100, e_X6_follow_103, e_X6_follow_103x, e_X6_follow_104, e_X6_follow_107, e_X6_follow_110, e_X6_follow_111, e_X6_follow_114, e_X6_follow_117, e_X6_follow_118, zcll_s, zpush_s, zpush_n, zinv_i, zinv_l, zinv_r, zinv_x, zcats_nil, zcats_i, zcats_l, zcats_r, zcats_x, Nat.le_refl, and_self, true_and, and_true, zok_1, zok_20, zok_21, eq_self, Nat.reduceAdd, Nat.reduceLeDiff, Nat.zero_le, if_true, if_false, zw3_id, if_pos, if_neg, zand_t, tg_269, tg_306, rr_306_0 hR, hC.1, hC.2.1, hC.2.2.1, q1, hmn, r1, e9]
        exact fin
      · rw [if_neg hgo] at hQ
        rw [zB_f hgo] at r1
        have hF1 : FrF I L (zu I1 306 8 (a.2.1 + 1)) L := FrF_t (FrF_T r2) (FrF_u (Or.inl rfl))
        have hT1 : Tab (zu I1 306 8 (a.2.1 + 1)) M := Tab_c r3 (zu_n (by omega)) (zu_n (by omega))
        have hS1 := ClS_f hS hF1 hT1
        have ht1 : zu I1 306 8 (a.2.1 + 1) 269 2 = t := by rw [zu_a (by omega), r2 269 (by omega) (by omega) (by omega) (by omega)]; exact ht
        obtain ⟨I2, u1, u2, u3, u4⟩ := k_step (X := X) (d := d) (c := c) (s := s) (L := L) hS1 ht1 h0 h1 hA.1
        have hF2 : FrF I L I2 (zu L 269 1 (mlot a.1)) := FrF_t hF1 ⟨fun a q1 q2 q3 q4 _ q6 => u2 a q1 q2 q3 q4 q6, fun k _ _ => by rw [u2 306 (by omega) (by omega) (by omega) (by omega) (by omega)], fun a q => zu_n q⟩
        have hms := mS_in (M := M) hk.2.2.1 (d := mdr M.1 (mlot a.1)) h0
        have e306 : I2 306 = zu I1 306 8 (a.2.1 + 1) 306 := u2 306 (by omega) (by omega) (by omega) (by omega) (by omega)
        have ee : ((e + 1 : Nat) : Int) + -1 = (e : Int) := by omega
        simp (disch := omega) only [e_X6_follow_0, e_X6_follow_0x, e_X6_follow_1, e_X6_follow_4, e_X6_follow_4x, e_X6_follow_5, e_X6_follow_8, e_X6_follow_9, e_X6_follow_10, e_X6_follow_13, e_X6_follow_13x, e_X6_follow_14, e_X6_follow_17, e_X6_follow_18, e_X6_follow_19, e_X6_follow_21, e_X6_follow_24, e_X6_follow_24x, e_X6_follow_25, e_X6_follow_28, e_X6_follow_28x, e_X6_follow_29, e_X6_follow_32, e_X6_follow_32x, e_X6_follow_33, e_X6_follow_36, e_X6_follow_39, e_X6_follow_42, e_X6_follow_43, e_X6_follow_44, e_X6_follow_45, e_X6_follow_48, e_X6_follow_48x, e_X6_follow_49, e_X6_follow_50, e_X6_follow_50x, e_X6_follow_51, e_X6_follow_52, e_X6_follow_53, e_X6_follow_54, e_X6_follow_57, e_X6_follow_58, e_X6_follow_61, e_X6_follow_62, e_X6_follow_63, e_X6_follow_63x, e_X6_follow_64, e_X6_follow_67, e_X6_follow_67x, e_X6_follow_68, e_X6_follow_71, e_X6_follow_74, e_X6_follow_77, e_X6_follow_77x, e_X6_follow_78, e_X6_follow_78r, e_X6_follow_79, e_X6_follow_82, e_X6_follow_83, e_X6_follow_84, e_X6_follow_87, e_X6_follow_88, e_X6_follow_89, e_X6_follow_90, e_X6_follow_93, e_X6_follow_93x, e_X6_follow_94, e_X6_follow_94r, e_X6_follow_95, e_X6_follow_98, e_X6_follow_99, e_X6_follow_100, e_X6_follow_103, e_X6_follow_103x, e_X6_follow_104, e_X6_follow_107, e_X6_follow_110, e_X6_follow_111, e_X6_follow_114, e_X6_follow_117, e_X6_follow_118, zcll_s, zpush_s, zpush_n, zinv_i, zinv_l, zinv_r, zinv_x, zcats_nil, zcats_i, zcats_l, zcats_r, zcats_x, Nat.le_refl, and_self, true_and, and_true, zok_1, zok_20, zok_21, eq_self, Nat.reduceAdd, Nat.reduceLeDiff, Nat.zero_le, if_true, if_false, zw3_id, if_pos, if_neg, zand_t, tg_269, tg_306, rr_306_0 hR, hC.1, hC.2.1, hC.2.2.1, q1, hmn, r1, e8, u1, ee]
        refine ih _ (mlot a.1, a.2.1 + 1, a.2.2) I2 _ _ (ClS_f hS hF2 u3) (SpC_f hC hF2) ⟨zu_s, by rw [e306, zu_s], by rw [e306, zu_k (by omega)]; exact e9⟩ u4 hms.1 hms.2 (by show 0 ≤ a.2.1 + 1; omega) (by show a.2.1 + 1 + (e : Int) ≤ 30000; omega) (by omega) ?_
        intro I3 L3 w1 w2 w3
        exact hQ I3 L3 (FrF_t hF2 w1) w2 w3
theorem k_follow (hS : ClS I R b M) {g v cc r l : Int} (hC : SpC I g v cc r) (hg0 : 0 ≤ g) (hg : g < M.2.2.2.length) (hv0 : 0 ≤ v) (hv : v < M.2.1.length) (hc0 : 1 ≤ cc) (hc1 : cc ≤ 5) (hr0 : 1 ≤ r) (hr1 : r ≤ 4) (hl0 : 0 ≤ l) (hl : l ≤ 5) {e : Nat} {a : SA} (hA : SpA I L a) (h8 : I 308 l.toNat = t) (h9 : I 309 l.toNat = (e : Int)) (h0 : 0 ≤ t) (h1 : t < mPr M.2.1) (h2 : SB a) (h3 : (e : Int) ≤ 60) : ∃ I1 L1, zrun X (d + 6) 50 [zr (some 306), zi l] (c, s, I, L, R) = some (sFin c s R l r (mFo M g.toNat v.toNat cc l e t a).2 I1 L1) ∧ FrF I L I1 L1 ∧ Tab I1 M ∧ SpA I1 L1 (mFo M g.toNat v.toNat cc l e t a).1 := by
  have hR := hS.1
  have pr := sx_X6_follow (X := X) (d := d + 5) (u0 := some 306) (x1 := l) (σ := (c, s, I, L, R)) (P := fun u => ∃ I1 L1, u = sFin c s R l r (mFo M g.toNat v.toNat cc l e t a).2 I1 L1 ∧ FrF I L I1 L1 ∧ Tab I1 M ∧ SpA I1 L1 (mFo M g.toNat v.toNat cc l e t a).1) ?_
  · obtain ⟨u, q1, I1, L1, q2, q3⟩ := pr
    exact ⟨I1, L1, by rw [q1, q2], q3⟩
  · have hF : FrF I L (zu I 269 2 t) L := ⟨fun a _ _ _ q _ _ => zu_n q, fun k _ _ => by rw [zu_n (by omega)], fun _ _ => rfl⟩
    have hT : Tab (zu I 269 2 t) M := Tab_c hS.2.2.2.2.2.2.2 (zu_n (by omega)) (zu_n (by omega))
    have e9 : zu I 269 2 t 309 l.toNat = (e : Int) := by rw [zu_a (by omega)]; exact h9
    have a1 := h2.1
    have a2 := h2.2
    simp (disch := omega) only [e_X6_follow_0, e_X6_follow_0x, e_X6_follow_1, e_X6_follow_4, e_X6_follow_4x, e_X6_follow_5, e_X6_follow_8, e_X6_follow_9, e_X6_follow_10, e_X6_follow_13, e_X6_follow_13x, e_X6_follow_14, e_X6_follow_17, e_X6_follow_18, e_X6_follow_19, e_X6_follow_21, e_X6_follow_24, e_X6_follow_24x, e_X6_follow_25, e_X6_follow_28, e_X6_follow_28x, e_X6_follow_29, e_X6_follow_32, e_X6_follow_32x, e_X6_follow_33, e_X6_follow_36, e_X6_follow_39, e_X6_follow_42, e_X6_follow_43, e_X6_follow_44, e_X6_follow_45, e_X6_follow_48, e_X6_follow_48x, e_X6_follow_49, e_X6_follow_50, e_X6_follow_50x, e_X6_follow_51, e_X6_follow_52, e_X6_follow_53, e_X6_follow_54, e_X6_follow_57, e_X6_follow_58, e_X6_follow_61, e_X6_follow_62, e_X6_follow_63, e_X6_follow_63x, e_X6_follow_64, e_X6_follow_67, e_X6_follow_67x, e_X6_follow_68, e_X6_follow_71, e_X6_follow_74, e_X6_follow_77, e_X6_follow_77x, e_X6_follow_78, e_X6_follow_78r, e_X6_follow_79, e_X6_follow_82, e_X6_follow_83, e_X6_follow_84, e_X6_follow_87, e_X6_follow_88, e_X6_follow_89, e_X6_follow_90, e_X6_follow_93, e_X6_follow_93x, e_X6_follow_94, e_X6_follow_94r, e_X6_follow_95, e_X6_follow_98, e_X6_follow_99, e_X6_follow_100, e_X6_follow_103, e_X6_follow_103x, e_X6_follow_104, e_X6_follow_107, e_X6_follow_110, e_X6_follow_111, e_X6_follow_114, e_X6_follow_117, e_X6_follow_118, zcll_s, zpush_s, zpush_n, zinv_i, zinv_l, zinv_r, zinv_x, zcats_nil, zcats_i, zcats_l, zcats_r, zcats_x, Nat.le_refl, and_self, true_and, and_true, zok_1, zok_20, zok_21, eq_self, Nat.reduceAdd, Nat.reduceLeDiff, Nat.zero_le, if_true, if_false, zw3_id, if_pos, if_neg, zand_t, tg_269, tg_306, tg_308, tn_308, tg_309, tn_309, rr_306_0 hR, rr_306_2 hR, rr_306_3 hR, h8, e9]
    refine q_follow (X := X) (d := d) g v cc r l hg0 hg hv0 hv hc0 hc1 hr0 hr1 hl0 hl e t a _ L _ (ClS_f hS hF hT) (SpC_f hC hF) ⟨hA.1, by rw [zu_n (by omega)]; exact hA.2.1, by rw [zu_n (by omega)]; exact hA.2.2⟩ zu_s h0 h1 a1 (by omega) h3 ?_
    intro I1 L1 w1 w2 w3
    exact ⟨I1, L1, rfl, FrF_t hF w1, w2, w3⟩
end
