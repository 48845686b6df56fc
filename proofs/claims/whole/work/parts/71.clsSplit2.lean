/-! The class: split, all of it. -/
section
variable {X : ZX} {d c s : Nat} {I L I1 L1 I2 L2 : ZI} {R R1 R2 : ZR} {call : ZC} {w b p q : Nat} {M : MD} {f : Nat → Int} {x t : Int} {B : Prop}
def FrP (l : Nat) (I L I1 L1 : ZI) : Prop := (∀ a, a ≠ 266 → a ≠ 267 → a ≠ 268 → a ≠ 269 → a ≠ 306 → a ≠ 307 → a ≠ 308 → a ≠ 309 → a ≠ 337 → I1 a = I a) ∧ (∀ k, k ≠ 8 → k ≠ 9 → I1 306 k = I 306 k) ∧ (∀ j, j < l → I1 307 j = I 307 j ∧ I1 308 j = I 308 j ∧ I1 309 j = I 309 j) ∧ ∀ a, a ≠ 269 → L1 a = L a
theorem FrP_r {l : Nat} : FrP l I L I L := ⟨fun _ _ _ _ _ _ _ _ _ _ => rfl, fun _ _ _ => rfl, fun _ _ => ⟨rfl, rfl, rfl⟩, fun _ _ => rfl⟩
theorem FrP_t {l m : Nat} (hm : l ≤ m) (h1 : FrP l I L I1 L1) (h2 : FrP m I1 L1 I2 L2) : FrP l I L I2 L2 := ⟨fun a q1 q2 q3 q4 q5 q6 q7 q8 q9 => (h2.1 a q1 q2 q3 q4 q5 q6 q7 q8 q9).trans (h1.1 a q1 q2 q3 q4 q5 q6 q7 q8 q9), fun k q1 q2 => (h2.2.1 k q1 q2).trans (h1.2.1 k q1 q2), fun j hj => ⟨(h2.2.2.1 j (by omega)).1.trans (h1.2.2.1 j hj).1, (h2.2.2.1 j (by omega)).2.1.trans (h1.2.2.1 j hj).2.1, (h2.2.2.1 j (by omega)).2.2.trans (h1.2.2.1 j hj).2.2⟩, fun a q => (h2.2.2.2 a q).trans (h1.2.2.2 a q)⟩
theorem FrP_F {l : Nat} (h : FrF I L I1 L1) : FrP l I L I1 L1 := ⟨fun a q1 q2 q3 q4 q5 _ _ _ q9 => h.1 a q1 q2 q3 q4 q5 q9, h.2.1, fun j _ => ⟨by rw [h.1 307 (by omega) (by omega) (by omega) (by omega) (by omega) (by omega)], by rw [h.1 308 (by omega) (by omega) (by omega) (by omega) (by omega) (by omega)], by rw [h.1 309 (by omega) (by omega) (by omega) (by omega) (by omega) (by omega)]⟩, h.2.2⟩
theorem ClS_p {l : Nat} (h : ClS I R b M) (hK : FrP l I L I1 L1) (hT : Tab I1 M) : ClS I1 R b M := ⟨h.1, h.2.1, h.2.2.1, h.2.2.2.1, h.2.2.2.2.1, ClM_c h.2.2.2.2.2.2.1 (fun a q1 q2 => by have := h.2.1; exact hK.1 a (by omega) (by omega) (by omega) (by omega) (by omega) (by omega) (by omega) (by omega) (by omega)) h.2.2.2.2.2.1, h.2.2.2.2.2.2.1, hT⟩
theorem SpC_p {l : Nat} {g v cc r : Int} (h : SpC I g v cc r) (hK : FrP l I L I1 L1) : SpC I1 g v cc r := ⟨by rw [hK.2.1 4 (by omega) (by omega)]; exact h.1, by rw [hK.2.1 5 (by omega) (by omega)]; exact h.2.1, by rw [hK.2.1 6 (by omega) (by omega)]; exact h.2.2.1, by rw [hK.2.1 7 (by omega) (by omega)]; exact h.2.2.2⟩
def Wt (l : Nat) : Nat := ([1706, 426, 106, 26, 6, 1] : List Nat).getD l 0
theorem Wt_p : ∀ l, l < 6 → 1 ≤ Wt l ∧ ∀ p, p < 6 → l < p → 1 + 4 ^ (p - l) * Wt p + (p - l) ≤ Wt l := by decide +kernel
theorem mFo_p {g v : Nat} {cc l : Int} (hk : MOK M) : ∀ (e : Nat) (t : Int) (a : SA) (u : Int × Int × Nat), 0 ≤ t → t < mPr M.2.1 → (mFo M g v cc l e t a).2 = some u → l < u.1 ∧ u.1 = mMn cc (mDe M.2.1 u.2.1 v) ∧ 0 ≤ u.2.1 ∧ u.2.1 < mPr M.2.1 ∧ u.2.2 ≤ e := by
  intro e
  induction e with
  | zero =>
    intro t a u h0 h1 hu
    unfold mFo at hu
    by_cases q : l < mMn cc (mDe M.2.1 t v)
    · rw [if_pos q] at hu
      injection hu with hu
      subst hu
      exact ⟨q, rfl, h0, h1, Nat.le_refl _⟩
    · rw [if_neg q] at hu
      split at hu <;> cases hu
  | succ e ih =>
    intro t a u h0 h1 hu
    unfold mFo at hu
    by_cases q : l < mMn cc (mDe M.2.1 t v)
    · rw [if_pos q] at hu
      injection hu with hu
      subst hu
      exact ⟨q, rfl, h0, h1, Nat.le_refl _⟩
    · rw [if_neg q] at hu
      split at hu
      · cases hu
      · have hms := mS_in (M := M) hk.2.2.1 (d := mdr M.1 (mlot a.1)) h0
        have := ih _ _ u hms.1 hms.2 hu
        exact ⟨this.1, this.2.1, this.2.2.1, this.2.2.2.1, by have := this.2.2.2.2; omega⟩
theorem q_desc (hR : Rok R) (g n v cc r : Int) (h8 : I 306 8 ≤ 20000) {Q : Option ZV × ZS → Prop} (l : Nat) : ∀ (j m turn : Nat), m - l = j → l ≤ m → m ≤ 5 → turn + j ≤ 900000 → (∀ i, l < i → i ≤ m → I 307 i = 0) → V X call mX6_heldBy 57 [zr (some 306), zi g, zi n, zi v, zi cc, zi r, zi (l : Int), zi ((turn + j : Nat) : Int)] [] (c, s, I, L, R) Q → V X call mX6_heldBy 57 [zr (some 306), zi g, zi n, zi v, zi cc, zi r, zi (m : Int), zi (turn : Int)] [] (c, s, I, L, R) Q := by
  intro j
  induction j with
  | zero =>
    intro m turn h1 h2 h3 h4 h5 hV
    rw [show m = l by omega]
    exact hV
  | succ j ih =>
    intro m turn h1 h2 h3 h4 h5 hV
    have hz := h5 m (by omega) (by omega)
    rw [e_X6_heldBy_57]
    simp (disch := omega) only [e_X6_heldBy_0, e_X6_heldBy_0x, e_X6_heldBy_1, e_X6_heldBy_2, e_X6_heldBy_5, e_X6_heldBy_5x, e_X6_heldBy_6, e_X6_heldBy_7, e_X6_heldBy_10, e_X6_heldBy_10x, e_X6_heldBy_11, e_X6_heldBy_13, e_X6_heldBy_14, e_X6_heldBy_17, e_X6_heldBy_20, e_X6_heldBy_20x, e_X6_heldBy_21, e_X6_heldBy_23, e_X6_heldBy_26, e_X6_heldBy_26x, e_X6_heldBy_27, e_X6_heldBy_28, e_X6_heldBy_31, e_X6_heldBy_31x, e_X6_heldBy_32, e_X6_heldBy_33, e_X6_heldBy_36, e_X6_heldBy_36x, e_X6_heldBy_37, e_X6_heldBy_40, e_X6_heldBy_41, e_X6_heldBy_44, e_X6_heldBy_44x, e_X6_heldBy_45, e_X6_heldBy_46, e_X6_heldBy_47, e_X6_heldBy_48, e_X6_heldBy_51, e_X6_heldBy_52, e_X6_heldBy_54, e_X6_heldBy_55, e_X6_heldBy_59, e_X6_heldBy_61, e_X6_heldBy_64, e_X6_heldBy_66, e_X6_heldBy_69, e_X6_heldBy_71, e_X6_heldBy_72, e_X6_heldBy_75, e_X6_heldBy_75x, e_X6_heldBy_76, e_X6_heldBy_79, e_X6_heldBy_81, e_X6_heldBy_82, e_X6_heldBy_85, e_X6_heldBy_88, e_X6_heldBy_91, e_X6_heldBy_91x, e_X6_heldBy_92, e_X6_heldBy_95, e_X6_heldBy_97, e_X6_heldBy_98, e_X6_heldBy_99, e_X6_heldBy_100, e_X6_heldBy_101, e_X6_heldBy_102, e_X6_heldBy_102x, e_X6_heldBy_103, e_X6_heldBy_105, e_X6_heldBy_108, e_X6_heldBy_110, e_X6_heldBy_110x, e_X6_heldBy_111, e_X6_heldBy_114, e_X6_heldBy_117, e_X6_heldBy_120, e_X6_heldBy_122, e_X6_heldBy_123, e_X6_heldBy_126, e_X6_heldBy_129, e_X6_heldBy_129x, e_X6_heldBy_130, e_X6_heldBy_133, zcll_s, zpush_s, zpush_n, zinv_i, zinv_l, zinv_r, zinv_x, zcats_nil, zcats_i, zcats_l, zcats_r, zcats_x, Nat.le_refl, and_self, true_and, and_true, zok_1, zok_20, zok_21, eq_self, Nat.reduceAdd, Nat.reduceLeDiff, Nat.zero_le, if_true, if_false, zw3_id, if_pos, if_neg, zand_t, tg_306, tg_307, tn_307, rr_306_1 hR, Int.toNat_natCast, hz]
    rw [show (m : Int) + -1 = ((m - 1 : Nat) : Int) by omega, show (turn : Int) + 1 = ((turn + 1 : Nat) : Int) by omega]
    refine ih (m - 1) (turn + 1) (by omega) (by omega) (by omega) (by omega) (fun i q1 q2 => h5 i q1 (by omega)) ?_
    rw [show turn + 1 + j = turn + (j + 1) by omega]
    exact hV
theorem mNe_p {g v : Nat} {cc r l : Int} {e : Nat} {t : Int} (h : l = mMn cc (mDe M.2.1 t v)) : mNe M g v cc r l e t = mNd M g v cc r e t (l + 1) := by
  funext a
  unfold mNe
  rw [if_neg (by omega)]
theorem mRep_s {F : SA → Option SA} {k : Nat} {a a1 : SA} (h : F a = some a1) : mRep F (k + 1) a = mRep F k a1 := by
  show (match F a with | some b => mRep F k b | none => none) = _
  rw [h]
theorem mRep_n {F : SA → Option SA} {k : Nat} {a : SA} (h : F a = none) : mRep F (k + 1) a = none := by
  show (match F a with | some b => mRep F k b | none => none) = _
  rw [h]
theorem q_heldBy (gg nn vv c0 r0 : Int) (g v cc r : Int) (hg0 : 0 ≤ g) (hg : g < M.2.2.2.length) (hv0 : 0 ≤ v) (hv : v < M.2.1.length) (hc0 : 1 ≤ cc) (hc1 : cc ≤ 5) (hr0 : 1 ≤ r) (hr1 : r ≤ 4) {Q : Option ZV × ZS → Prop} : ∀ (n l : Nat), 5 - l ≤ n → l ≤ 5 → ∀ (k : Nat), k ≤ 1024 → ∀ (e : Nat) (t : Int) (a : SA) (I L : ZI) (turn : Nat), (e : Int) ≤ 60 → 0 ≤ t → t < mPr M.2.1 → SB a → ClS I R b M → SpC I g v cc r → SpA I L a → I 307 l = (k : Int) → I 308 l = t → I 309 l = (e : Int) → (∀ j, l < j → j ≤ 5 → I 307 j = 0) → turn + k * Wt l + 1 ≤ 800000 → (∀ a1 I1 L1 (turn1 : Nat), mRep (mNe M g.toNat v.toNat cc r (l : Int) e t) k a = some a1 → FrP l I L I1 L1 → Tab I1 M → SpA I1 L1 a1 → (∀ j, l ≤ j → j ≤ 5 → I1 307 j = 0) → turn1 ≤ turn + k * Wt l + 1 → V X (zrun X (d + 6)) mX6_heldBy 57 [zr (some 306), zi gg, zi nn, zi vv, zi c0, zi r0, zi ((l : Int) - 1), zi (turn1 : Int)] [] (c, s, I1, L1, R) Q) → (∀ I1 L1, mRep (mNe M g.toNat v.toNat cc r (l : Int) e t) k a = none → FrP l I L I1 L1 → Tab I1 M → Q (some (zi (-4)), (c, s, I1, L1, R))) → V X (zrun X (d + 6)) mX6_heldBy 57 [zr (some 306), zi gg, zi nn, zi vv, zi c0, zi r0, zi (l : Int), zi (turn : Int)] [] (c, s, I, L, R) Q := by
  intro n
  induction n with
  | zero =>
    intro l hl hl5 k
    have hl0 : l = 5 := by omega
    subst hl0
    induction k with
    | zero =>
      intro hk e t a I L turn he h0 h1 hB hS hC hA e7 e8 e9 hz hT hQ hN
      have hR := hS.1
      have hs8 := hA.2.1
      have hb2 := hB.2
      rw [e_X6_heldBy_57]
      have e7' : I 307 5 = 0 := e7
      have fin := hQ a I L (turn + 1) rfl FrP_r hS.2.2.2.2.2.2.2 hA (fun j q1 q2 => by rw [show j = 5 by omega]; exact e7') (by omega)
      simp (disch := omega) only [e_X6_heldBy_0, e_X6_heldBy_0x, e_X6_heldBy_1, e_X6_heldBy_2, e_X6_heldBy_5, e_X6_heldBy_5x, e_X6_heldBy_6, e_X6_heldBy_7, e_X6_heldBy_10, e_X6_heldBy_10x, e_X6_heldBy_11, e_X6_heldBy_13, e_X6_heldBy_14, e_X6_heldBy_17, e_X6_heldBy_20, e_X6_heldBy_20x, e_X6_heldBy_21, e_X6_heldBy_23, e_X6_heldBy_26, e_X6_heldBy_26x, e_X6_heldBy_27, e_X6_heldBy_28, e_X6_heldBy_31, e_X6_heldBy_31x, e_X6_heldBy_32, e_X6_heldBy_33, e_X6_heldBy_36, e_X6_heldBy_36x, e_X6_heldBy_37, e_X6_heldBy_40, e_X6_heldBy_41, e_X6_heldBy_44, e_X6_heldBy_44x, e_X6_heldBy_45, e_X6_heldBy_46, e_X6_heldBy_47, e_X6_heldBy_48, e_X6_heldBy_51, e_X6_heldBy_52, e_X6_heldBy_54, e_X6_heldBy_55, e_X6_heldBy_59, e_X6_heldBy_61, e_X6_heldBy_64, e_X6_heldBy_66, e_X6_heldBy_69, e_X6_heldBy_71, e_X6_heldBy_72, e_X6_heldBy_75, e_X6_heldBy_75x, e_X6_heldBy_76, e_X6_heldBy_79, e_X6_heldBy_81, e_X6_heldBy_82, e_X6_heldBy_85, e_X6_heldBy_88, e_X6_heldBy_91, e_X6_heldBy_91x, e_X6_heldBy_92, e_X6_heldBy_95, e_X6_heldBy_97, e_X6_heldBy_98, e_X6_heldBy_99, e_X6_heldBy_100, e_X6_heldBy_101, e_X6_heldBy_102, e_X6_heldBy_102x, e_X6_heldBy_103, e_X6_heldBy_105, e_X6_heldBy_108, e_X6_heldBy_110, e_X6_heldBy_110x, e_X6_heldBy_111, e_X6_heldBy_114, e_X6_heldBy_117, e_X6_heldBy_120, e_X6_heldBy_122, e_X6_heldBy_123, e_X6_heldBy_126, e_X6_heldBy_129, e_X6_heldBy_129x, e_X6_heldBy_130, e_X6_heldBy_133, zcll_s, zpush_s, zpush_n, zinv_i, zinv_l, zinv_r, zinv_x, zcats_nil, zcats_i, zcats_l, zcats_r, zcats_x, Nat.le_refl, and_self, true_and, and_true, zok_1, zok_20, zok_21, eq_self, Nat.reduceAdd, Nat.reduceLeDiff, Nat.zero_le, if_true, if_false, zw3_id, if_pos, if_neg, zand_t, tg_306, tg_307, tn_307, rr_306_1 hR, Int.toNat_natCast, e7', hs8]
      exact fin
    | succ k ih =>
      intro hk e t a I L turn he h0 h1 hB hS hC hA e7 e8 e9 hz hT hQ hN
      have hR := hS.1
      have hmk := hS.2.2.2.2.2.2.1
      have hW := (Wt_p 5 (by omega)).1
      rw [Nat.succ_mul] at hT
      have hF0 : FrP 5 I L (zu I 307 5 (k : Int)) L := ⟨fun a _ _ _ _ _ q _ _ _ => zu_n q, fun k _ _ => by rw [zu_n (by omega)], fun j hj => ⟨zu_k (by omega), by rw [zu_n (by omega)], by rw [zu_n (by omega)]⟩, fun _ _ => rfl⟩
      have hT0 : Tab (zu I 307 5 (k : Int)) M := Tab_c hS.2.2.2.2.2.2.2 (zu_n (by omega)) (zu_n (by omega))
      have hA0 : SpA (zu I 307 5 (k : Int)) L a := ⟨hA.1, by rw [zu_n (by omega)]; exact hA.2.1, by rw [zu_n (by omega)]; exact hA.2.2⟩
      obtain ⟨I1, L1, u1, u2, u3, u4⟩ := k_follow (X := X) (d := d) (c := c) (s := s) (ClS_p hS hF0 hT0) (SpC_p hC hF0) hg0 hg hv0 hv hc0 hc1 hr0 hr1 (l := ((5 : Nat) : Int)) (by omega) (by omega) hA0 (by rw [Int.toNat_natCast, zu_n (by omega)]; exact e8) (by rw [Int.toNat_natCast, zu_n (by omega)]; exact e9) h0 h1 hB he
      have hfn := fo_nd (M := M) (g := g.toNat) (v := v.toNat) (cc := cc) (r := r) (l := ((5 : Nat) : Int)) e t a hB
      have hFs := mFo_s (M := M) (g := g.toNat) (v := v.toNat) (cc := cc) (l := ((5 : Nat) : Int)) e t a
      have hfp := mFo_p (M := M) (g := g.toNat) (v := v.toNat) (cc := cc) (l := ((5 : Nat) : Int)) hmk e t a
      generalize mFo M g.toNat v.toNat cc ((5 : Nat) : Int) e t a = z at u1 u4 hfn hFs hfp
      obtain ⟨a1, o⟩ := z
      have hb1 := hB.1
      have hb2 := hB.2
      have hb3 : a.2.1 ≤ a1.2.1 := hFs.1
      have hb4 : a1.2.1 ≤ a.2.1 + e := hFs.2
      have ek : ((k + 1 : Nat) : Int) - 1 = (k : Int) := by omega
      cases o with
      | some u =>
        have := hfp u h0 h1 rfl
        have h9 := this.2.1
        unfold mMn at h9
        split at h9 <;> omega
      | none =>
        have hst : I1 306 8 = a1.2.1 := u4.2.1
        have hF1 := FrP_t (Nat.le_refl _) hF0 (FrP_F (l := 5) u2)
        have u1 : zrun X (d + 6) 50 [zr (some 306), zi ((5 : Nat) : Int)] (c, s, zu I 307 5 (k : Int), L, R) = some (some (zi ((5 : Nat) : Int)), (c, s, I1, L1, R)) := u1
        unfold mEv at hfn
        rw [e_X6_heldBy_57]
        by_cases q : 20000 < a1.2.1
        · have hfn : mNe M g.toNat v.toNat cc r ((5 : Nat) : Int) e t a = none := by rw [hfn]; exact if_pos q
          have fin := hN I1 L1 (mRep_n hfn) hF1 u3
          simp (disch := omega) only [e_X6_heldBy_0, e_X6_heldBy_0x, e_X6_heldBy_1, e_X6_heldBy_2, e_X6_heldBy_5, e_X6_heldBy_5x, e_X6_heldBy_6, e_X6_heldBy_7, e_X6_heldBy_10, e_X6_heldBy_10x, e_X6_heldBy_11, e_X6_heldBy_13, e_X6_heldBy_14, e_X6_heldBy_17, e_X6_heldBy_20, e_X6_heldBy_20x, e_X6_heldBy_21, e_X6_heldBy_23, e_X6_heldBy_26, e_X6_heldBy_26x, e_X6_heldBy_27, e_X6_heldBy_28, e_X6_heldBy_31, e_X6_heldBy_31x, e_X6_heldBy_32, e_X6_heldBy_33, e_X6_heldBy_36, e_X6_heldBy_36x, e_X6_heldBy_37, e_X6_heldBy_40, e_X6_heldBy_41, e_X6_heldBy_44, e_X6_heldBy_44x, e_X6_heldBy_45, e_X6_heldBy_46, e_X6_heldBy_47, e_X6_heldBy_48, e_X6_heldBy_51, e_X6_heldBy_52, e_X6_heldBy_54, e_X6_heldBy_55, e_X6_heldBy_59, e_X6_heldBy_61, e_X6_heldBy_64, e_X6_heldBy_66, e_X6_heldBy_69, e_X6_heldBy_71, e_X6_heldBy_72, e_X6_heldBy_75, e_X6_heldBy_75x, e_X6_heldBy_76, e_X6_heldBy_79, e_X6_heldBy_81, e_X6_heldBy_82, e_X6_heldBy_85, e_X6_heldBy_88, e_X6_heldBy_91, e_X6_heldBy_91x, e_X6_heldBy_92, e_X6_heldBy_95, e_X6_heldBy_97, e_X6_heldBy_98, e_X6_heldBy_99, e_X6_heldBy_100, e_X6_heldBy_101, e_X6_heldBy_102, e_X6_heldBy_102x, e_X6_heldBy_103, e_X6_heldBy_105, e_X6_heldBy_108, e_X6_heldBy_110, e_X6_heldBy_110x, e_X6_heldBy_111, e_X6_heldBy_114, e_X6_heldBy_117, e_X6_heldBy_120, e_X6_heldBy_122, e_X6_heldBy_123, e_X6_heldBy_126, e_X6_heldBy_129, e_X6_heldBy_129x, e_X6_heldBy_130, e_X6_heldBy_133, zcll_s, zpush_s, zpush_n, zinv_i, zinv_l, zinv_r, zinv_x, zcats_nil, zcats_i, zcats_l, zcats_r, zcats_x, Nat.le_refl, and_self, true_and, and_true, zok_1, zok_20, zok_21, eq_self, Nat.reduceAdd, Nat.reduceLeDiff, Nat.zero_le, if_true, if_false, zw3_id, if_pos, if_neg, zand_t, tg_306, tg_307, tn_307, rr_306_1 hR, Int.toNat_natCast, e7, ek, u1, hst]
          exact fin
        · have hfn : mNe M g.toNat v.toNat cc r ((5 : Nat) : Int) e t a = some a1 := by rw [hfn]; exact if_neg q
          rw [mRep_s hfn] at hQ hN
          simp (disch := omega) only [e_X6_heldBy_0, e_X6_heldBy_0x, e_X6_heldBy_1, e_X6_heldBy_2, e_X6_heldBy_5, e_X6_heldBy_5x, e_X6_heldBy_6, e_X6_heldBy_7, e_X6_heldBy_10, e_X6_heldBy_10x, e_X6_heldBy_11, e_X6_heldBy_13, e_X6_heldBy_14, e_X6_heldBy_17, e_X6_heldBy_20, e_X6_heldBy_20x, e_X6_heldBy_21, e_X6_heldBy_23, e_X6_heldBy_26, e_X6_heldBy_26x, e_X6_heldBy_27, e_X6_heldBy_28, e_X6_heldBy_31, e_X6_heldBy_31x, e_X6_heldBy_32, e_X6_heldBy_33, e_X6_heldBy_36, e_X6_heldBy_36x, e_X6_heldBy_37, e_X6_heldBy_40, e_X6_heldBy_41, e_X6_heldBy_44, e_X6_heldBy_44x, e_X6_heldBy_45, e_X6_heldBy_46, e_X6_heldBy_47, e_X6_heldBy_48, e_X6_heldBy_51, e_X6_heldBy_52, e_X6_heldBy_54, e_X6_heldBy_55, e_X6_heldBy_59, e_X6_heldBy_61, e_X6_heldBy_64, e_X6_heldBy_66, e_X6_heldBy_69, e_X6_heldBy_71, e_X6_heldBy_72, e_X6_heldBy_75, e_X6_heldBy_75x, e_X6_heldBy_76, e_X6_heldBy_79, e_X6_heldBy_81, e_X6_heldBy_82, e_X6_heldBy_85, e_X6_heldBy_88, e_X6_heldBy_91, e_X6_heldBy_91x, e_X6_heldBy_92, e_X6_heldBy_95, e_X6_heldBy_97, e_X6_heldBy_98, e_X6_heldBy_99, e_X6_heldBy_100, e_X6_heldBy_101, e_X6_heldBy_102, e_X6_heldBy_102x, e_X6_heldBy_103, e_X6_heldBy_105, e_X6_heldBy_108, e_X6_heldBy_110, e_X6_heldBy_110x, e_X6_heldBy_111, e_X6_heldBy_114, e_X6_heldBy_117, e_X6_heldBy_120, e_X6_heldBy_122, e_X6_heldBy_123, e_X6_heldBy_126, e_X6_heldBy_129, e_X6_heldBy_129x, e_X6_heldBy_130, e_X6_heldBy_133, zcll_s, zpush_s, zpush_n, zinv_i, zinv_l, zinv_r, zinv_x, zcats_nil, zcats_i, zcats_l, zcats_r, zcats_x, Nat.le_refl, and_self, true_and, and_true, zok_1, zok_20, zok_21, eq_self, Nat.reduceAdd, Nat.reduceLeDiff, Nat.zero_le, if_true, if_false, zw3_id, if_pos, if_neg, zand_t, tg_306, tg_307, tn_307, rr_306_1 hR, Int.toNat_natCast, e7, ek, u1, hst]
          rw [show (turn : Int) + 1 = ((turn + 1 : Nat) : Int) by omega]
          refine ih (by omega) e t a1 I1 L1 (turn + 1) he h0 h1 ⟨by omega, by omega⟩ (ClS_p hS hF1 u3) (SpC_p hC hF1) u4 ?_ ?_ ?_ (fun j q1 q2 => absurd q1 (by omega)) (by omega) ?_ ?_
          · rw [u2.1 307 (by omega) (by omega) (by omega) (by omega) (by omega) (by omega), zu_s]
          · rw [u2.1 308 (by omega) (by omega) (by omega) (by omega) (by omega) (by omega), zu_n (by omega)]; exact e8
          · rw [u2.1 309 (by omega) (by omega) (by omega) (by omega) (by omega) (by omega), zu_n (by omega)]; exact e9
          · intro a2 I2 L2 turn2 w1 w2 w3 w4 w5 w6
            exact hQ a2 I2 L2 turn2 w1 (FrP_t (Nat.le_refl _) hF1 w2) w3 w4 w5 (by rw [Nat.succ_mul]; omega)
          · intro I2 L2 w1 w2 w3
            exact hN I2 L2 w1 (FrP_t (Nat.le_refl _) hF1 w2) w3
  | succ n ihn =>
    intro l hl hl5 k
    induction k with
    | zero =>
      intro hk e t a I L turn he h0 h1 hB hS hC hA e7 e8 e9 hz hT hQ hN
      have hR := hS.1
      have hs8 := hA.2.1
      have hb2 := hB.2
      rw [e_X6_heldBy_57]
      have e7' : I 307 l = 0 := e7
      have fin := hQ a I L (turn + 1) rfl FrP_r hS.2.2.2.2.2.2.2 hA (fun j q1 q2 => if ej : j = l then (by rw [ej]; exact e7') else hz j (by omega) q2) (by omega)
      simp (disch := omega) only [e_X6_heldBy_0, e_X6_heldBy_0x, e_X6_heldBy_1, e_X6_heldBy_2, e_X6_heldBy_5, e_X6_heldBy_5x, e_X6_heldBy_6, e_X6_heldBy_7, e_X6_heldBy_10, e_X6_heldBy_10x, e_X6_heldBy_11, e_X6_heldBy_13, e_X6_heldBy_14, e_X6_heldBy_17, e_X6_heldBy_20, e_X6_heldBy_20x, e_X6_heldBy_21, e_X6_heldBy_23, e_X6_heldBy_26, e_X6_heldBy_26x, e_X6_heldBy_27, e_X6_heldBy_28, e_X6_heldBy_31, e_X6_heldBy_31x, e_X6_heldBy_32, e_X6_heldBy_33, e_X6_heldBy_36, e_X6_heldBy_36x, e_X6_heldBy_37, e_X6_heldBy_40, e_X6_heldBy_41, e_X6_heldBy_44, e_X6_heldBy_44x, e_X6_heldBy_45, e_X6_heldBy_46, e_X6_heldBy_47, e_X6_heldBy_48, e_X6_heldBy_51, e_X6_heldBy_52, e_X6_heldBy_54, e_X6_heldBy_55, e_X6_heldBy_59, e_X6_heldBy_61, e_X6_heldBy_64, e_X6_heldBy_66, e_X6_heldBy_69, e_X6_heldBy_71, e_X6_heldBy_72, e_X6_heldBy_75, e_X6_heldBy_75x, e_X6_heldBy_76, e_X6_heldBy_79, e_X6_heldBy_81, e_X6_heldBy_82, e_X6_heldBy_85, e_X6_heldBy_88, e_X6_heldBy_91, e_X6_heldBy_91x, e_X6_heldBy_92, e_X6_heldBy_95, e_X6_heldBy_97, e_X6_heldBy_98, e_X6_heldBy_99, e_X6_heldBy_100, e_X6_heldBy_101, e_X6_heldBy_102, e_X6_heldBy_102x, e_X6_heldBy_103, e_X6_heldBy_105, e_X6_heldBy_108, e_X6_heldBy_110, e_X6_heldBy_110x, e_X6_heldBy_111, e_X6_heldBy_114, e_X6_heldBy_117, e_X6_heldBy_120, e_X6_heldBy_122, e_X6_heldBy_123, e_X6_heldBy_126, e_X6_heldBy_129, e_X6_heldBy_129x, e_X6_heldBy_130, e_X6_heldBy_133, zcll_s, zpush_s, zpush_n, zinv_i, zinv_l, zinv_r, zinv_x, zcats_nil, zcats_i, zcats_l, zcats_r, zcats_x, Nat.le_refl, and_self, true_and, and_true, zok_1, zok_20, zok_21, eq_self, Nat.reduceAdd, Nat.reduceLeDiff, Nat.zero_le, if_true, if_false, zw3_id, if_pos, if_neg, zand_t, tg_306, tg_307, tn_307, rr_306_1 hR, Int.toNat_natCast, e7', hs8]
      exact fin
    | succ k ih =>
      intro hk e t a I L turn he h0 h1 hB hS hC hA e7 e8 e9 hz hT hQ hN
      have hR := hS.1
      have hmk := hS.2.2.2.2.2.2.1
      have hW := (Wt_p l (by omega)).1
      rw [Nat.succ_mul] at hT
      have hF0 : FrP l I L (zu I 307 l (k : Int)) L := ⟨fun a _ _ _ _ _ q _ _ _ => zu_n q, fun k _ _ => by rw [zu_n (by omega)], fun j hj => ⟨zu_k (by omega), by rw [zu_n (by omega)], by rw [zu_n (by omega)]⟩, fun _ _ => rfl⟩
      have hT0 : Tab (zu I 307 l (k : Int)) M := Tab_c hS.2.2.2.2.2.2.2 (zu_n (by omega)) (zu_n (by omega))
      have hA0 : SpA (zu I 307 l (k : Int)) L a := ⟨hA.1, by rw [zu_n (by omega)]; exact hA.2.1, by rw [zu_n (by omega)]; exact hA.2.2⟩
      obtain ⟨I1, L1, u1, u2, u3, u4⟩ := k_follow (X := X) (d := d) (c := c) (s := s) (ClS_p hS hF0 hT0) (SpC_p hC hF0) hg0 hg hv0 hv hc0 hc1 hr0 hr1 (l := (l : Int)) (by omega) (by omega) hA0 (by rw [Int.toNat_natCast, zu_n (by omega)]; exact e8) (by rw [Int.toNat_natCast, zu_n (by omega)]; exact e9) h0 h1 hB he
      have hfn := fo_nd (M := M) (g := g.toNat) (v := v.toNat) (cc := cc) (r := r) (l := (l : Int)) e t a hB
      have hFs := mFo_s (M := M) (g := g.toNat) (v := v.toNat) (cc := cc) (l := (l : Int)) e t a
      have hfp := mFo_p (M := M) (g := g.toNat) (v := v.toNat) (cc := cc) (l := (l : Int)) hmk e t a
      generalize mFo M g.toNat v.toNat cc (l : Int) e t a = z at u1 u4 hfn hFs hfp
      obtain ⟨a1, o⟩ := z
      have hb1 := hB.1
      have hb2 := hB.2
      have hb3 : a.2.1 ≤ a1.2.1 := hFs.1
      have hb4 : a1.2.1 ≤ a.2.1 + e := hFs.2
      have ek : ((k + 1 : Nat) : Int) - 1 = (k : Int) := by omega
      have hF1 := FrP_t (Nat.le_refl _) hF0 (FrP_F (l := l) u2)
      have i7 : I1 307 = zu I 307 l (k : Int) 307 := u2.1 307 (by omega) (by omega) (by omega) (by omega) (by omega) (by omega)
      have i8 : I1 308 = I 308 := by rw [u2.1 308 (by omega) (by omega) (by omega) (by omega) (by omega) (by omega), zu_n (by omega)]
      have i9 : I1 309 = I 309 := by rw [u2.1 309 (by omega) (by omega) (by omega) (by omega) (by omega) (by omega), zu_n (by omega)]
      cases o with
      | none =>
        have hst : I1 306 8 = a1.2.1 := u4.2.1
        have u1 : zrun X (d + 6) 50 [zr (some 306), zi (l : Int)] (c, s, zu I 307 l (k : Int), L, R) = some (some (zi (l : Int)), (c, s, I1, L1, R)) := u1
        unfold mEv at hfn
        rw [e_X6_heldBy_57]
        by_cases q : 20000 < a1.2.1
        · have hfn : mNe M g.toNat v.toNat cc r (l : Int) e t a = none := by rw [hfn]; exact if_pos q
          have fin := hN I1 L1 (mRep_n hfn) hF1 u3
          simp (disch := omega) only [e_X6_heldBy_0, e_X6_heldBy_0x, e_X6_heldBy_1, e_X6_heldBy_2, e_X6_heldBy_5, e_X6_heldBy_5x, e_X6_heldBy_6, e_X6_heldBy_7, e_X6_heldBy_10, e_X6_heldBy_10x, e_X6_heldBy_11, e_X6_heldBy_13, e_X6_heldBy_14, e_X6_heldBy_17, e_X6_heldBy_20, e_X6_heldBy_20x, e_X6_heldBy_21, e_X6_heldBy_23, e_X6_heldBy_26, e_X6_heldBy_26x, e_X6_heldBy_27, e_X6_heldBy_28, e_X6_heldBy_31, e_X6_heldBy_31x, e_X6_heldBy_32, e_X6_heldBy_33, e_X6_heldBy_36, e_X6_heldBy_36x, e_X6_heldBy_37, e_X6_heldBy_40, e_X6_heldBy_41, e_X6_heldBy_44, e_X6_heldBy_44x, e_X6_heldBy_45, e_X6_heldBy_46, e_X6_heldBy_47, e_X6_heldBy_48, e_X6_heldBy_51, e_X6_heldBy_52, e_X6_heldBy_54, e_X6_heldBy_55, e_X6_heldBy_59, e_X6_heldBy_61, e_X6_heldBy_64, e_X6_heldBy_66, e_X6_heldBy_69, e_X6_heldBy_71, e_X6_heldBy_72, e_X6_heldBy_75, e_X6_heldBy_75x, e_X6_heldBy_76, e_X6_heldBy_79, e_X6_heldBy_81, e_X6_heldBy_82, e_X6_heldBy_85, e_X6_heldBy_88, e_X6_heldBy_91, e_X6_heldBy_91x, e_X6_heldBy_92, e_X6_heldBy_95, e_X6_heldBy_97, e_X6_heldBy_98, e_X6_heldBy_99, e_X6_heldBy_100, e_X6_heldBy_101, e_X6_heldBy_102, e_X6_heldBy_102x, e_X6_heldBy_103, e_X6_heldBy_105, e_X6_heldBy_108, e_X6_heldBy_110, e_X6_heldBy_110x, e_X6_heldBy_111, e_X6_heldBy_114, e_X6_heldBy_117, e_X6_heldBy_120, e_X6_heldBy_122, e_X6_heldBy_123, e_X6_heldBy_126, e_X6_heldBy_129, e_X6_heldBy_129x, e_X6_heldBy_130, e_X6_heldBy_133, zcll_s, zpush_s, zpush_n, zinv_i, zinv_l, zinv_r, zinv_x, zcats_nil, zcats_i, zcats_l, zcats_r, zcats_x, Nat.le_refl, and_self, true_and, and_true, zok_1, zok_20, zok_21, eq_self, Nat.reduceAdd, Nat.reduceLeDiff, Nat.zero_le, if_true, if_false, zw3_id, if_pos, if_neg, zand_t, tg_306, tg_307, tn_307, rr_306_1 hR, Int.toNat_natCast, e7, ek, u1, hst]
          exact fin
        · have hfn : mNe M g.toNat v.toNat cc r (l : Int) e t a = some a1 := by rw [hfn]; exact if_neg q
          rw [mRep_s hfn] at hQ hN
          simp (disch := omega) only [e_X6_heldBy_0, e_X6_heldBy_0x, e_X6_heldBy_1, e_X6_heldBy_2, e_X6_heldBy_5, e_X6_heldBy_5x, e_X6_heldBy_6, e_X6_heldBy_7, e_X6_heldBy_10, e_X6_heldBy_10x, e_X6_heldBy_11, e_X6_heldBy_13, e_X6_heldBy_14, e_X6_heldBy_17, e_X6_heldBy_20, e_X6_heldBy_20x, e_X6_heldBy_21, e_X6_heldBy_23, e_X6_heldBy_26, e_X6_heldBy_26x, e_X6_heldBy_27, e_X6_heldBy_28, e_X6_heldBy_31, e_X6_heldBy_31x, e_X6_heldBy_32, e_X6_heldBy_33, e_X6_heldBy_36, e_X6_heldBy_36x, e_X6_heldBy_37, e_X6_heldBy_40, e_X6_heldBy_41, e_X6_heldBy_44, e_X6_heldBy_44x, e_X6_heldBy_45, e_X6_heldBy_46, e_X6_heldBy_47, e_X6_heldBy_48, e_X6_heldBy_51, e_X6_heldBy_52, e_X6_heldBy_54, e_X6_heldBy_55, e_X6_heldBy_59, e_X6_heldBy_61, e_X6_heldBy_64, e_X6_heldBy_66, e_X6_heldBy_69, e_X6_heldBy_71, e_X6_heldBy_72, e_X6_heldBy_75, e_X6_heldBy_75x, e_X6_heldBy_76, e_X6_heldBy_79, e_X6_heldBy_81, e_X6_heldBy_82, e_X6_heldBy_85, e_X6_heldBy_88, e_X6_heldBy_91, e_X6_heldBy_91x, e_X6_heldBy_92, e_X6_heldBy_95, e_X6_heldBy_97, e_X6_heldBy_98, e_X6_heldBy_99, e_X6_heldBy_100, e_X6_heldBy_101, e_X6_heldBy_102, e_X6_heldBy_102x, e_X6_heldBy_103, e_X6_heldBy_105, e_X6_heldBy_108, e_X6_heldBy_110, e_X6_heldBy_110x, e_X6_heldBy_111, e_X6_heldBy_114, e_X6_heldBy_117, e_X6_heldBy_120, e_X6_heldBy_122, e_X6_heldBy_123, e_X6_heldBy_126, e_X6_heldBy_129, e_X6_heldBy_129x, e_X6_heldBy_130, e_X6_heldBy_133, zcll_s, zpush_s, zpush_n, zinv_i, zinv_l, zinv_r, zinv_x, zcats_nil, zcats_i, zcats_l, zcats_r, zcats_x, Nat.le_refl, and_self, true_and, and_true, zok_1, zok_20, zok_21, eq_self, Nat.reduceAdd, Nat.reduceLeDiff, Nat.zero_le, if_true, if_false, zw3_id, if_pos, if_neg, zand_t, tg_306, tg_307, tn_307, rr_306_1 hR, Int.toNat_natCast, e7, ek, u1, hst]
          rw [show (turn : Int) + 1 = ((turn + 1 : Nat) : Int) by omega]
          refine ih (by omega) e t a1 I1 L1 (turn + 1) he h0 h1 ⟨by omega, by omega⟩ (ClS_p hS hF1 u3) (SpC_p hC hF1) u4 ?_ ?_ ?_ ?_ (by omega) ?_ ?_
          · rw [i7, zu_s]
          · rw [i8]; exact e8
          · rw [i9]; exact e9
          · intro j q1 q2
            rw [i7, zu_k (by omega)]
            exact hz j q1 q2
          · intro a2 I2 L2 turn2 w1 w2 w3 w4 w5 w6
            exact hQ a2 I2 L2 turn2 w1 (FrP_t (Nat.le_refl _) hF1 w2) w3 w4 w5 (by rw [Nat.succ_mul]; omega)
          · intro I2 L2 w1 w2 w3
            exact hN I2 L2 w1 (FrP_t (Nat.le_refl _) hF1 w2) w3
      | some u =>
        obtain ⟨up, ut, ue⟩ := u
        have hpp := hfp _ h0 h1 rfl
        have p1 : (l : Int) < up := hpp.1
        have p2 : up = mMn cc (mDe M.2.1 ut v.toNat) := hpp.2.1
        have p3 : 0 ≤ ut := hpp.2.2.1
        have p4 : ut < mPr M.2.1 := hpp.2.2.2.1
        have p5 : ue ≤ e := hpp.2.2.2.2
        have p6 : up ≤ 5 := by
          rw [p2]
          unfold mMn
          split <;> omega
        obtain ⟨p, rfl⟩ := Int.eq_ofNat_of_zero_le (show 0 ≤ up by omega)
        have hcp := pow4c hr0 hr1 (n := ((p : Int) - l).toNat) (by omega)
        have hcp4 := (pow4 hr0 hr1 ((p : Int) - l).toNat (by omega)).2
        have hWp := (Wt_p l (by omega)).2 p (by omega) (by omega)
        have u1 : zrun X (d + 6) 50 [zr (some 306), zi (l : Int)] (c, s, zu I 307 l (k : Int), L, R) = some (some (zi (p : Int)), (c, s, zu (zu (zu I1 307 ((p : Int)).toNat (r ^ ((p : Int) - l).toNat)) 308 ((p : Int)).toNat ut) 309 ((p : Int)).toNat (ue : Int), L1, R)) := u1
        rw [Int.toNat_natCast] at u1
        have hK : (r ^ ((p : Int) - l).toNat).toNat * Wt p ≤ 4 ^ (p - l) * Wt p := by
          refine Nat.mul_le_mul_right _ ?_
          have : ((4 ^ (p - l) : Nat) : Int) = (4 : Int) ^ ((p : Int) - l).toNat := by
            rw [show ((p : Int) - l).toNat = p - l by omega]
            exact Int.natCast_pow 4 (p - l)
          omega
        have hfn : mNe M g.toNat v.toNat cc r (l : Int) e t a = if 20000 < a1.2.1 then none else mRep (mNd M g.toNat v.toNat cc r ue ut ((p : Int) + 1)) (r ^ ((p : Int) - l).toNat).toNat a1 := hfn
        generalize hcpe : r ^ ((p : Int) - l).toNat = cp at u1 hcp hfn hK
        have hF2 : FrP l I L (zu (zu (zu I1 307 p cp) 308 p ut) 309 p (ue : Int)) L1 := FrP_t (Nat.le_refl _) hF1 ⟨fun a _ _ _ _ _ q1 q2 q3 _ => by rw [zu_n q3, zu_n q2, zu_n q1], fun k _ _ => by rw [zu_n (by omega), zu_n (by omega), zu_n (by omega)], fun j hj => ⟨by rw [zu_n (by omega), zu_n (by omega), zu_k (by omega)], by rw [zu_n (by omega), zu_k (by omega), zu_n (by omega)], by rw [zu_k (by omega), zu_n (by omega), zu_n (by omega)]⟩, fun _ _ => rfl⟩
        have hT2 : Tab (zu (zu (zu I1 307 p cp) 308 p ut) 309 p (ue : Int)) M := Tab_c u3 (by rw [zu_n (by omega), zu_n (by omega), zu_n (by omega)]) (by rw [zu_n (by omega), zu_n (by omega), zu_n (by omega)])
        have hA2 : SpA (zu (zu (zu I1 307 p cp) 308 p ut) 309 p (ue : Int)) L1 a1 := ⟨u4.1, by rw [zu_n (by omega), zu_n (by omega), zu_n (by omega)]; exact u4.2.1, by rw [zu_n (by omega), zu_n (by omega), zu_n (by omega)]; exact u4.2.2⟩
        have hst : zu (zu (zu I1 307 p cp) 308 p ut) 309 p (ue : Int) 306 8 = a1.2.1 := hA2.2.1
        rw [e_X6_heldBy_57]
        by_cases q : 20000 < a1.2.1
        · rw [if_pos q] at hfn
          have fin := hN _ _ (mRep_n hfn) hF2 hT2
          simp (disch := omega) only [e_X6_heldBy_0, e_X6_heldBy_0x, e_X6_heldBy_1, e_X6_heldBy_2, e_X6_heldBy_5, e_X6_heldBy_5x, e_X6_heldBy_6, e_X6_heldBy_7, e_X6_heldBy_10, e_X6_heldBy_10x, e_X6_heldBy_11, e_X6_heldBy_13, e_X6_heldBy_14, e_X6_heldBy_17, e_X6_heldBy_20, e_X6_heldBy_20x, e_X6_heldBy_21, e_X6_heldBy_23, e_X6_heldBy_26, e_X6_heldBy_26x, e_X6_heldBy_27, e_X6_heldBy_28, e_X6_heldBy_31, e_X6_heldBy_31x, e_X6_heldBy_32, e_X6_heldBy_33, e_X6_heldBy_36, e_X6_heldBy_36x, e_X6_heldBy_37, e_X6_heldBy_40, e_X6_heldBy_41, e_X6_heldBy_44, e_X6_heldBy_44x, e_X6_heldBy_45, e_X6_heldBy_46, e_X6_heldBy_47, e_X6_heldBy_48, e_X6_heldBy_51, e_X6_heldBy_52, e_X6_heldBy_54, e_X6_heldBy_55, e_X6_heldBy_59, e_X6_heldBy_61, e_X6_heldBy_64, e_X6_heldBy_66, e_X6_heldBy_69, e_X6_heldBy_71, e_X6_heldBy_72, e_X6_heldBy_75, e_X6_heldBy_75x, e_X6_heldBy_76, e_X6_heldBy_79, e_X6_heldBy_81, e_X6_heldBy_82, e_X6_heldBy_85, e_X6_heldBy_88, e_X6_heldBy_91, e_X6_heldBy_91x, e_X6_heldBy_92, e_X6_heldBy_95, e_X6_heldBy_97, e_X6_heldBy_98, e_X6_heldBy_99, e_X6_heldBy_100, e_X6_heldBy_101, e_X6_heldBy_102, e_X6_heldBy_102x, e_X6_heldBy_103, e_X6_heldBy_105, e_X6_heldBy_108, e_X6_heldBy_110, e_X6_heldBy_110x, e_X6_heldBy_111, e_X6_heldBy_114, e_X6_heldBy_117, e_X6_heldBy_120, e_X6_heldBy_122, e_X6_heldBy_123, e_X6_heldBy_126, e_X6_heldBy_129, e_X6_heldBy_129x, e_X6_heldBy_130, e_X6_heldBy_133, zcll_s, zpush_s, zpush_n, zinv_i, zinv_l, zinv_r, zinv_x, zcats_nil, zcats_i, zcats_l, zcats_r, zcats_x, Nat.le_refl, and_self, true_and, and_true, zok_1, zok_20, zok_21, eq_self, Nat.reduceAdd, Nat.reduceLeDiff, Nat.zero_le, if_true, if_false, zw3_id, if_pos, if_neg, zand_t, tg_306, tg_307, tn_307, rr_306_1 hR, Int.toNat_natCast, e7, ek, u1, hst]
          exact fin
        · rw [if_neg q, ← mNe_p p2] at hfn
          simp (disch := omega) only [e_X6_heldBy_0, e_X6_heldBy_0x, e_X6_heldBy_1, e_X6_heldBy_2, e_X6_heldBy_5, e_X6_heldBy_5x, e_X6_heldBy_6, e_X6_heldBy_7, e_X6_heldBy_10, e_X6_heldBy_10x, e_X6_heldBy_11, e_X6_heldBy_13, e_X6_heldBy_14, e_X6_heldBy_17, e_X6_heldBy_20, e_X6_heldBy_20x, e_X6_heldBy_21, e_X6_heldBy_23, e_X6_heldBy_26, e_X6_heldBy_26x, e_X6_heldBy_27, e_X6_heldBy_28, e_X6_heldBy_31, e_X6_heldBy_31x, e_X6_heldBy_32, e_X6_heldBy_33, e_X6_heldBy_36, e_X6_heldBy_36x, e_X6_heldBy_37, e_X6_heldBy_40, e_X6_heldBy_41, e_X6_heldBy_44, e_X6_heldBy_44x, e_X6_heldBy_45, e_X6_heldBy_46, e_X6_heldBy_47, e_X6_heldBy_48, e_X6_heldBy_51, e_X6_heldBy_52, e_X6_heldBy_54, e_X6_heldBy_55, e_X6_heldBy_59, e_X6_heldBy_61, e_X6_heldBy_64, e_X6_heldBy_66, e_X6_heldBy_69, e_X6_heldBy_71, e_X6_heldBy_72, e_X6_heldBy_75, e_X6_heldBy_75x, e_X6_heldBy_76, e_X6_heldBy_79, e_X6_heldBy_81, e_X6_heldBy_82, e_X6_heldBy_85, e_X6_heldBy_88, e_X6_heldBy_91, e_X6_heldBy_91x, e_X6_heldBy_92, e_X6_heldBy_95, e_X6_heldBy_97, e_X6_heldBy_98, e_X6_heldBy_99, e_X6_heldBy_100, e_X6_heldBy_101, e_X6_heldBy_102, e_X6_heldBy_102x, e_X6_heldBy_103, e_X6_heldBy_105, e_X6_heldBy_108, e_X6_heldBy_110, e_X6_heldBy_110x, e_X6_heldBy_111, e_X6_heldBy_114, e_X6_heldBy_117, e_X6_heldBy_120, e_X6_heldBy_122, e_X6_heldBy_123, e_X6_heldBy_126, e_X6_heldBy_129, e_X6_heldBy_129x, e_X6_heldBy_130, e_X6_heldBy_133, zcll_s, zpush_s, zpush_n, zinv_i, zinv_l, zinv_r, zinv_x, zcats_nil, zcats_i, zcats_l, zcats_r, zcats_x, Nat.le_refl, and_self, true_and, and_true, zok_1, zok_20, zok_21, eq_self, Nat.reduceAdd, Nat.reduceLeDiff, Nat.zero_le, if_true, if_false, zw3_id, if_pos, if_neg, zand_t, tg_306, tg_307, tn_307, rr_306_1 hR, Int.toNat_natCast, e7, ek, u1, hst]
          rw [show (turn : Int) + 1 = ((turn + 1 : Nat) : Int) by omega]
          have hB1 : SB a1 := ⟨by omega, by omega⟩
          refine ihn p (by omega) (by omega) cp.toNat (by omega) ue ut a1 _ L1 (turn + 1) (by omega) p3 p4 hB1 (ClS_p hS hF2 hT2) (SpC_p hC hF2) hA2 (by rw [zu_n (by omega), zu_n (by omega), zu_s]; omega) (by rw [zu_n (by omega), zu_s]) (by rw [zu_s]) ?_ (by omega) ?_ ?_
          · intro j q1 q2
            rw [zu_n (by omega), zu_n (by omega), zu_k (by omega), i7, zu_k (by omega)]
            exact hz j (by omega) q2
          · intro a2 I2 L2 turn2 w1 w2 w3 w4 w5 w6
            rw [w1] at hfn
            rw [mRep_s hfn] at hQ hN
            have hB2 : SB a2 := by
              rw [mNe_p p2] at w1
              exact mRep_b (fun a b => mNd_b ue _ _ a b) _ _ _ hB1 w1
            have hF3 := FrP_t (show l ≤ p by omega) hF2 w2
            have h8' : I2 306 8 ≤ 20000 := by rw [w4.2.1]; exact hB2.2
            have lo := w2.2.2.1 l (by omega)
            have dl : ∀ i, l < i → i ≤ 5 → I2 307 i = 0 := by
              intro i q1 q2
              by_cases e1 : p ≤ i
              · exact w5 i e1 q2
              · rw [(w2.2.2.1 i (by omega)).1, zu_n (by omega), zu_n (by omega), zu_k (by omega), i7, zu_k (by omega)]
                exact hz i q1 q2
            rw [show (p : Int) - 1 = ((p - 1 : Nat) : Int) by omega]
            refine q_desc (X := X) hR gg nn vv c0 r0 h8' l (p - 1 - l) (p - 1) turn2 rfl (by omega) (by omega) (by omega) (fun i q1 q2 => dl i q1 (by omega)) ?_
            refine ih (by omega) e t a2 I2 L2 (turn2 + (p - 1 - l)) he h0 h1 hB2 (ClS_p hS hF3 w3) (SpC_p hC hF3) w4 ?_ ?_ ?_ dl (by omega) ?_ ?_
            · rw [lo.1, zu_n (by omega), zu_n (by omega), zu_k (by omega), i7, zu_s]
            · rw [lo.2.1, zu_n (by omega), zu_k (by omega), zu_n (by omega), i8]; exact e8
            · rw [lo.2.2, zu_k (by omega), zu_n (by omega), zu_n (by omega), i9]; exact e9
            · intro a3 I3 L3 turn3 x1 x2 x3 x4 x5 x6
              exact hQ a3 I3 L3 turn3 x1 (FrP_t (Nat.le_refl _) hF3 x2) x3 x4 x5 (by rw [Nat.succ_mul]; omega)
            · intro I3 L3 x1 x2 x3
              exact hN I3 L3 x1 (FrP_t (Nat.le_refl _) hF3 x2) x3
          · intro I2 L2 w1 w2 w3
            rw [w1] at hfn
            exact hN I2 L2 (mRep_n hfn) (FrP_t (show l ≤ p by omega) hF2 w2) w3
theorem sp_eq {z g n v cc r i : Int} (hcc : 1 ≤ cc) : mSplit M z g n v cc r i = (match mRep (mNe M g.toNat v.toNat cc r 0 n.toNat (mS0 M)) 1 (mlot0 z i, 0, 0) with
  | some a => a.2.2
  | none => -4) := by
  unfold mSplit
  rw [mRep_1]
  unfold mNe
  have h := mNx_m (cc := cc) (val := mDe M.2.1 (mS0 M) v.toNat) (l := 0)
  rw [Int.zero_add] at h
  rw [h]
  by_cases q : 0 < mMn cc (mDe M.2.1 (mS0 M) v.toNat)
  · rw [if_pos q, if_pos q, Int.sub_zero, show mMn cc (mDe M.2.1 (mS0 M) v.toNat) + 1 - 1 = mMn cc (mDe M.2.1 (mS0 M) v.toNat) by omega]
    rfl
  · rw [if_neg q, if_neg q, Int.sub_self, Int.toNat_zero, Int.pow_zero, Int.zero_add]
    show (match mRep _ 1 _ with | some a => a.2.2 | none => -4) = _
    rw [mRep_1]
theorem k_heldBy (hS : ClS I R b M) (g n v cc r : Int) (hg0 : 0 ≤ g) (hg : g < M.2.2.2.length) (hn0 : 0 ≤ n) (hn : n ≤ 60) (hv0 : 0 ≤ v) (hv : v < M.2.1.length) (hc0 : 1 ≤ cc) (hc1 : cc ≤ 5) (hr0 : 1 ≤ r) (hr1 : r ≤ 4) (ht : I 269 2 = mS0 M) : ∃ I1 L1, zrun X (d + 7) 49 [zr (some 306), zi g, zi n, zi v, zi cc, zi r] (c, s, I, L, R) = some (some (zi (match mRep (mNe M g.toNat v.toNat cc r 0 n.toNat (mS0 M)) 1 (L 269 1, 0, 0) with | some a => a.2.2 | none => -4)), (c, s, I1, L1, R)) ∧ FrP 0 (zu (zu (zu (zu I 306 4 g) 306 5 v) 306 6 cc) 306 7 r) L I1 L1 ∧ Tab I1 M := by
  have hR := hS.1
  have hs := mS0_in (M := M) hS.2.2.2.2.2.2.1.2.2.1
  generalize hAns : (match mRep (mNe M g.toNat v.toNat cc r 0 n.toNat (mS0 M)) 1 (L 269 1, 0, 0) with | some a => a.2.2 | none => -4) = ans
  have pr := sx_X6_heldBy (X := X) (d := d + 6) (u0 := some 306) (x1 := g) (x2 := n) (x3 := v) (x4 := cc) (x5 := r) (σ := (c, s, I, L, R)) (P := fun u => ∃ I1 L1, u = (some (zi ans), (c, s, I1, L1, R)) ∧ FrP 0 (zu (zu (zu (zu I 306 4 g) 306 5 v) 306 6 cc) 306 7 r) L I1 L1 ∧ Tab I1 M) ?_
  · obtain ⟨u, q1, I1, L1, q2, q3⟩ := pr
    exact ⟨I1, L1, by rw [q1, q2], q3⟩
  · have hmin : (if (5 : Int) < cc then 5 else cc) = cc := if_neg (by omega)
    have hF0 : FrP 0 (zu (zu (zu (zu I 306 4 g) 306 5 v) 306 6 cc) 306 7 r) L (zu (zu (zu (zu (zu (zu I 306 4 g) 306 5 v) 306 6 cc) 306 7 r) 306 8 0) 306 9 0) L := ⟨fun a _ _ _ _ q _ _ _ _ => by rw [zu_n q, zu_n q], fun k q1 q2 => by rw [zu_k q2, zu_k q1], fun j hj => absurd hj (by omega), fun _ _ => rfl⟩
    have hC0 : SpC (zu (zu (zu (zu (zu (zu I 306 4 g) 306 5 v) 306 6 cc) 306 7 r) 306 8 0) 306 9 0) g v cc r := by
      refine ⟨?_, ?_, ?_, ?_⟩
      · rw [zu_k (by omega), zu_k (by omega), zu_k (by omega), zu_k (by omega), zu_k (by omega), zu_s]
      · rw [zu_k (by omega), zu_k (by omega), zu_k (by omega), zu_k (by omega), zu_s]
      · rw [zu_k (by omega), zu_k (by omega), zu_k (by omega), zu_s]
      · rw [zu_k (by omega), zu_k (by omega), zu_s]
    have h80 : zu (zu (zu (zu (zu (zu I 306 4 g) 306 5 v) 306 6 cc) 306 7 r) 306 8 0) 306 9 0 306 8 = 0 := by rw [zu_k (by omega), zu_s]
    have h90 : zu (zu (zu (zu (zu (zu I 306 4 g) 306 5 v) 306 6 cc) 306 7 r) 306 8 0) 306 9 0 306 9 = 0 := zu_s
    have hoth : ∀ a, a ≠ 306 → zu (zu (zu (zu (zu (zu I 306 4 g) 306 5 v) 306 6 cc) 306 7 r) 306 8 0) 306 9 0 a = I a := fun a ha => by rw [zu_n ha, zu_n ha, zu_n ha, zu_n ha, zu_n ha, zu_n ha]
    generalize hI0 : zu (zu (zu (zu (zu (zu I 306 4 g) 306 5 v) 306 6 cc) 306 7 r) 306 8 0) 306 9 0 = I0 at hF0 hC0 h80 h90 hoth
    obtain ⟨u, f1, f2⟩ := k_fillI (X := X) (d := d + 5) (c := c) (s := s) (I := I0) (L := L) (R := R) (a := 307) (n := 6) (by decide +kernel) (by omega) 0
    have ht1 : zW I0 307 u 269 2 = mS0 M := by rw [zW_n (by omega), hoth 269 (by omega)]; exact ht
    have q3 := k_putCopies (X := X) (d := d + 5) (c := c) (s := s) (L := L) hR ht1 (l := 0) (k := 1) (e := n) (by omega) (by omega)
    rw [Int.toNat_zero] at q3
    have hF1 : FrP 0 I0 L (zu (zu (zu (zW I0 307 u) 307 0 1) 308 0 (mS0 M)) 309 0 n) L := ⟨fun a _ _ _ _ _ q1 q2 q3 _ => by rw [zu_n q3, zu_n q2, zu_n q1, zW_n q1], fun k _ _ => by rw [zu_n (by omega), zu_n (by omega), zu_n (by omega), zW_n (by omega)], fun j hj => absurd hj (by omega), fun _ _ => rfl⟩
    have hF2 := FrP_t (Nat.le_refl _) hF0 hF1
    have hT2 : Tab (zu (zu (zu (zW I0 307 u) 307 0 1) 308 0 (mS0 M)) 309 0 n) M := Tab_c hS.2.2.2.2.2.2.2 (by rw [zu_n (by omega), zu_n (by omega), zu_n (by omega), zW_n (by omega), hoth 266 (by omega)]) (by rw [zu_n (by omega), zu_n (by omega), zu_n (by omega), zW_n (by omega), hoth 337 (by omega)])
    have hS2 : ClS (zu (zu (zu (zW I0 307 u) 307 0 1) 308 0 (mS0 M)) 309 0 n) R b M := by
      refine ⟨hS.1, hS.2.1, hS.2.2.1, hS.2.2.2.1, hS.2.2.2.2.1, ClM_c hS.2.2.2.2.2.2.1 (fun a q1 q2 => ?_) hS.2.2.2.2.2.1, hS.2.2.2.2.2.2.1, hT2⟩
      have := hS.2.1
      rw [zu_n (by omega), zu_n (by omega), zu_n (by omega), zW_n (by omega), hoth a (by omega)]
    simp (disch := omega) only [e_X6_heldBy_0, e_X6_heldBy_0x, e_X6_heldBy_1, e_X6_heldBy_2, e_X6_heldBy_5, e_X6_heldBy_5x, e_X6_heldBy_6, e_X6_heldBy_7, e_X6_heldBy_10, e_X6_heldBy_10x, e_X6_heldBy_11, e_X6_heldBy_13, e_X6_heldBy_14, e_X6_heldBy_17, e_X6_heldBy_20, e_X6_heldBy_20x, e_X6_heldBy_21, e_X6_heldBy_23, e_X6_heldBy_26, e_X6_heldBy_26x, e_X6_heldBy_27, e_X6_heldBy_28, e_X6_heldBy_31, e_X6_heldBy_31x, e_X6_heldBy_32, e_X6_heldBy_33, e_X6_heldBy_36, e_X6_heldBy_36x, e_X6_heldBy_37, e_X6_heldBy_40, e_X6_heldBy_41, e_X6_heldBy_44, e_X6_heldBy_44x, e_X6_heldBy_45, e_X6_heldBy_46, e_X6_heldBy_47, e_X6_heldBy_48, e_X6_heldBy_51, e_X6_heldBy_52, e_X6_heldBy_54, e_X6_heldBy_55, e_X6_heldBy_59, e_X6_heldBy_61, e_X6_heldBy_64, e_X6_heldBy_66, e_X6_heldBy_69, e_X6_heldBy_71, e_X6_heldBy_72, e_X6_heldBy_75, e_X6_heldBy_75x, e_X6_heldBy_76, e_X6_heldBy_79, e_X6_heldBy_81, e_X6_heldBy_82, e_X6_heldBy_85, e_X6_heldBy_88, e_X6_heldBy_91, e_X6_heldBy_91x, e_X6_heldBy_92, e_X6_heldBy_95, e_X6_heldBy_97, e_X6_heldBy_98, e_X6_heldBy_99, e_X6_heldBy_100, e_X6_heldBy_101, e_X6_heldBy_102, e_X6_heldBy_102x, e_X6_heldBy_103, e_X6_heldBy_105, e_X6_heldBy_108, e_X6_heldBy_110, e_X6_heldBy_110x, e_X6_heldBy_111, e_X6_heldBy_114, e_X6_heldBy_117, e_X6_heldBy_120, e_X6_heldBy_122, e_X6_heldBy_123, e_X6_heldBy_126, e_X6_heldBy_129, e_X6_heldBy_129x, e_X6_heldBy_130, e_X6_heldBy_133, zcll_s, zpush_s, zpush_n, zinv_i, zinv_l, zinv_r, zinv_x, zcats_nil, zcats_i, zcats_l, zcats_r, zcats_x, Nat.le_refl, and_self, true_and, and_true, zok_1, zok_20, zok_21, eq_self, Nat.reduceAdd, Nat.reduceLeDiff, Nat.zero_le, if_true, if_false, zw3_id, if_pos, if_neg, zand_t, tg_306, tg_307, tn_307, rr_306_1 hR, hmin, hI0, f1, q3]
    have pr := q_heldBy (X := X) (d := d) (c := c) (s := s) (R := R) (b := b) (M := M) g n v cc r g v cc r hg0 hg hv0 hv hc0 hc1 hr0 hr1 (Q := fun u => ∃ I1 L1, u = (some (zi ans), (c, s, I1, L1, R)) ∧ FrP 0 (zu (zu (zu (zu I 306 4 g) 306 5 v) 306 6 cc) 306 7 r) L I1 L1 ∧ Tab I1 M) 5 0 (by omega) (by omega) 1 (by omega) n.toNat (mS0 M) (L 269 1, 0, 0) (zu (zu (zu (zW I0 307 u) 307 0 1) 308 0 (mS0 M)) 309 0 n) L 0 (by omega) hs.1 hs.2 ⟨by show (0 : Int) ≤ 0; omega, by show (0 : Int) ≤ 20000; omega⟩ hS2 (SpC_p hC0 hF1) ⟨rfl, by rw [zu_n (by omega), zu_n (by omega), zu_n (by omega), zW_n (by omega)]; exact h80, by rw [zu_n (by omega), zu_n (by omega), zu_n (by omega), zW_n (by omega)]; exact h90⟩ (by rw [zu_n (by omega), zu_n (by omega), zu_s]; rfl) (by rw [zu_n (by omega), zu_s]) (by rw [zu_s]; omega) ?_ (by decide) ?_ ?_
    · exact pr
    · intro j q1 q2
      rw [zu_n (by omega), zu_n (by omega), zu_k (by omega), zW_s]
      exact f2 j (by omega)
    · intro a1 I1 L1 turn1 w1 w2 w3 w4 w5 w6
      have w6 : turn1 ≤ 0 + 1 * 1706 + 1 := w6
      have w1 : mRep (mNe M g.toNat v.toNat cc r 0 n.toNat (mS0 M)) 1 (L 269 1, 0, 0) = some a1 := w1
      rw [w1] at hAns
      have e9 := w4.2.2
      rw [e_X6_heldBy_57]
      simp (disch := omega) only [e_X6_heldBy_0, e_X6_heldBy_0x, e_X6_heldBy_1, e_X6_heldBy_2, e_X6_heldBy_5, e_X6_heldBy_5x, e_X6_heldBy_6, e_X6_heldBy_7, e_X6_heldBy_10, e_X6_heldBy_10x, e_X6_heldBy_11, e_X6_heldBy_13, e_X6_heldBy_14, e_X6_heldBy_17, e_X6_heldBy_20, e_X6_heldBy_20x, e_X6_heldBy_21, e_X6_heldBy_23, e_X6_heldBy_26, e_X6_heldBy_26x, e_X6_heldBy_27, e_X6_heldBy_28, e_X6_heldBy_31, e_X6_heldBy_31x, e_X6_heldBy_32, e_X6_heldBy_33, e_X6_heldBy_36, e_X6_heldBy_36x, e_X6_heldBy_37, e_X6_heldBy_40, e_X6_heldBy_41, e_X6_heldBy_44, e_X6_heldBy_44x, e_X6_heldBy_45, e_X6_heldBy_46, e_X6_heldBy_47, e_X6_heldBy_48, e_X6_heldBy_51, e_X6_heldBy_52, e_X6_heldBy_54, e_X6_heldBy_55, e_X6_heldBy_59, e_X6_heldBy_61, e_X6_heldBy_64, e_X6_heldBy_66, e_X6_heldBy_69, e_X6_heldBy_71, e_X6_heldBy_72, e_X6_heldBy_75, e_X6_heldBy_75x, e_X6_heldBy_76, e_X6_heldBy_79, e_X6_heldBy_81, e_X6_heldBy_82, e_X6_heldBy_85, e_X6_heldBy_88, e_X6_heldBy_91, e_X6_heldBy_91x, e_X6_heldBy_92, e_X6_heldBy_95, e_X6_heldBy_97, e_X6_heldBy_98, e_X6_heldBy_99, e_X6_heldBy_100, e_X6_heldBy_101, e_X6_heldBy_102, e_X6_heldBy_102x, e_X6_heldBy_103, e_X6_heldBy_105, e_X6_heldBy_108, e_X6_heldBy_110, e_X6_heldBy_110x, e_X6_heldBy_111, e_X6_heldBy_114, e_X6_heldBy_117, e_X6_heldBy_120, e_X6_heldBy_122, e_X6_heldBy_123, e_X6_heldBy_126, e_X6_heldBy_129, e_X6_heldBy_129x, e_X6_heldBy_130, e_X6_heldBy_133, zcll_s, zpush_s, zpush_n, zinv_i, zinv_l, zinv_r, zinv_x, zcats_nil, zcats_i, zcats_l, zcats_r, zcats_x, Nat.le_refl, and_self, true_and, and_true, zok_1, zok_20, zok_21, eq_self, Nat.reduceAdd, Nat.reduceLeDiff, Nat.zero_le, if_true, if_false, zw3_id, if_pos, if_neg, zand_t, tg_306, e9]
      exact ⟨I1, L1, by rw [← hAns], FrP_t (Nat.le_refl _) hF2 w2, w3⟩
    · intro I1 L1 w1 w2 w3
      have w1 : mRep (mNe M g.toNat v.toNat cc r 0 n.toNat (mS0 M)) 1 (L 269 1, 0, 0) = none := w1
      rw [w1] at hAns
      exact ⟨I1, L1, by rw [← hAns], FrP_t (Nat.le_refl _) hF2 w2, w3⟩
/-- what split leaves as it is -/
def KP (I L I1 L1 : ZI) : Prop := (∀ a, a ≠ 266 → a ≠ 267 → a ≠ 268 → a ≠ 269 → a ≠ 306 → a ≠ 307 → a ≠ 308 → a ≠ 309 → a ≠ 337 → I1 a = I a) ∧ ∀ a, a ≠ 269 → L1 a = L a
theorem k_split (h : ClA B I R b M) (g n v cc r i : Int) : ∃ I1 L1, zrun X (d + 8) 102 [zr (some 0), zi g, zi n, zi v, zi cc, zi r, zi i] (c, s, I, L, R) = some (some (zi (aSplit B M (L 0 9) g n v cc r i)), (c, s, I1, L1, R)) ∧ KP I L I1 L1 ∧ ClA B I1 R b M := by
  have hA := k_isGoal (X := X) (d := d + 6) (c := c) (s := s) (L := L) h g
  have hE := k_isVar (X := X) (d := d + 6) (c := c) (s := s) (L := L) h v
  unfold aSplit
  have bad : ∀ (P : Prop) (_ : ¬ P), (V X (zrun X (d + 7)) mX11_split 0 [zr (some 0), zi g, zi n, zi v, zi cc, zi r, zi i] [] (c, s, I, L, R) (fun q => q = (some (zi (-2)), (c, s, I, L, R)))) → ∃ I1 L1, zrun X (d + 8) 102 [zr (some 0), zi g, zi n, zi v, zi cc, zi r, zi i] (c, s, I, L, R) = some (some (zi (@ite _ P (Classical.propDecidable _) (mSplit M (L 0 9) g n v cc r i) (-2))), (c, s, I1, L1, R)) ∧ KP I L I1 L1 ∧ ClA B I1 R b M := by
    intro P hP hv
    rw [if_neg hP]
    exact ⟨_, _, st_X11_split hv, ⟨fun _ _ _ _ _ _ _ _ _ _ => rfl, fun _ _ => rfl⟩, h⟩
  by_cases h1 : mIsG B M g
  · rw [zB_t h1] at hA
    by_cases h2 : 0 ≤ n ∧ n ≤ 60
    · by_cases h3 : mIsV B M v
      · rw [zB_t h3] at hE
        by_cases h6 : 0 ≤ i ∧ i ≤ 999999
        · by_cases h4 : 1 ≤ cc ∧ cc ≤ 5
          · by_cases h5 : 1 ≤ r ∧ r ≤ 4
            · rw [if_pos ⟨h1, h2, h3, h4, h5, h6⟩, sp_eq h4.1]
              have hS := ClA_S h h1.1
              have hR := hS.1
              have q := k_begin (X := X) (d := d + 4) (c := c) (s := s) (L := L) hS (L 0 9) i
              have hKW : KW I L (zu I 269 2 (mS0 M)) (zu L 269 1 (mlot0 (L 0 9) i)) := ⟨fun a _ _ _ ha _ => zu_n ha, fun a ha => zu_n ha⟩
              have hT1 : Tab (zu I 269 2 (mS0 M)) M := Tab_c hS.2.2.2.2.2.2.2 (zu_n (by omega)) (zu_n (by omega))
              have hS1 := ClS_w hS hKW hT1
              obtain ⟨I1, L1, u1, u2, u3⟩ := k_heldBy (X := X) (d := d) (c := c) (s := s) (L := zu L 269 1 (mlot0 (L 0 9) i)) hS1 g n v cc r h1.2.1 h1.2.2 h2.1 h2.2 h3.2.1 h3.2.2 h4.1 h4.2 h5.1 h5.2 zu_s
              rw [zu_s] at u1
              have hK : KP I L I1 L1 := ⟨fun a q1 q2 q3 q4 q5 q6 q7 q8 q9 => by rw [u2.1 a q1 q2 q3 q4 q5 q6 q7 q8 q9, zu_n q5, zu_n q5, zu_n q5, zu_n q5, zu_n q4], fun a q => by rw [u2.2.2.2 a q, zu_n q]⟩
              have hS2 : ClS I1 R b M := ⟨hS.1, hS.2.1, hS.2.2.1, hS.2.2.2.1, hS.2.2.2.2.1, ClM_c hS.2.2.2.2.2.2.1 (fun a q1 q2 => by have := hS.2.1; exact hK.1 a (by omega) (by omega) (by omega) (by omega) (by omega) (by omega) (by omega) (by omega) (by omega)) hS.2.2.2.2.2.1, hS.2.2.2.2.2.2.1, u3⟩
              refine ⟨I1, L1, st_X11_split ?_, hK, Or.inl ⟨h1.1, hS2⟩⟩
              simp (disch := omega) only [e_X11_split_0, e_X11_split_0x, e_X11_split_1, e_X11_split_2, e_X11_split_5, e_X11_split_8, e_X11_split_9, e_X11_split_12, e_X11_split_15, e_X11_split_15x, e_X11_split_16, e_X11_split_17, e_X11_split_20, e_X11_split_23, e_X11_split_25, e_X11_split_28, e_X11_split_31, e_X11_split_33, e_X11_split_34, e_X11_split_36, e_X11_split_37, e_X11_split_40, e_X11_split_42, e_X11_split_43, e_X11_split_46, e_X11_split_48, e_X11_split_49, e_X11_split_52, e_X11_split_54, e_X11_split_55, e_X11_split_58, e_X11_split_60, e_X11_split_61, e_X11_split_61x, e_X11_split_62, e_X11_split_65, e_X11_split_65x, e_X11_split_66, e_X11_split_69, e_X11_split_71, e_X11_split_74, e_X11_split_74x, e_X11_split_75, e_X11_split_78, e_X11_split_79, e_X11_split_80, e_X11_split_81, e_X11_split_83, e_X11_split_85, e_X11_split_88, zcll_s, zpush_s, zpush_n, zinv_i, zinv_l, zinv_r, zinv_x, zcats_nil, zcats_i, zcats_l, zcats_r, zcats_x, Nat.le_refl, and_self, true_and, and_true, zok_1, zok_20, zok_21, eq_self, Nat.reduceAdd, Nat.reduceLeDiff, Nat.zero_le, if_true, if_false, zw3_id, if_pos, if_neg, zand_t, tg_0, tg_269, tg_306, rr_0_3 hR, rr_0_7 hR, hA, hE, k_isLength, k_isRun, zB_t, q, u1]
            · refine bad _ (fun q => h5 q.2.2.2.2.1) ?_
              by_cases h7 : r < 1
              · simp (disch := omega) only [e_X11_split_0, e_X11_split_0x, e_X11_split_1, e_X11_split_2, e_X11_split_5, e_X11_split_8, e_X11_split_9, e_X11_split_12, e_X11_split_15, e_X11_split_15x, e_X11_split_16, e_X11_split_17, e_X11_split_20, e_X11_split_23, e_X11_split_25, e_X11_split_28, e_X11_split_31, e_X11_split_33, e_X11_split_34, e_X11_split_36, e_X11_split_37, e_X11_split_40, e_X11_split_42, e_X11_split_43, e_X11_split_46, e_X11_split_48, e_X11_split_49, e_X11_split_52, e_X11_split_54, e_X11_split_55, e_X11_split_58, e_X11_split_60, e_X11_split_61, e_X11_split_61x, e_X11_split_62, e_X11_split_65, e_X11_split_65x, e_X11_split_66, e_X11_split_69, e_X11_split_71, e_X11_split_74, e_X11_split_74x, e_X11_split_75, e_X11_split_78, e_X11_split_79, e_X11_split_80, e_X11_split_81, e_X11_split_83, e_X11_split_85, e_X11_split_88, zcll_s, zpush_s, zpush_n, zinv_i, zinv_l, zinv_r, zinv_x, zcats_nil, zcats_i, zcats_l, zcats_r, zcats_x, Nat.le_refl, and_self, true_and, and_true, zok_1, zok_20, zok_21, eq_self, Nat.reduceAdd, Nat.reduceLeDiff, Nat.zero_le, if_true, if_false, zw3_id, if_pos, if_neg, zand_t, tg_0, hA, hE, k_isLength, k_isRun, zB_t, zB_f]
              · simp (disch := omega) only [e_X11_split_0, e_X11_split_0x, e_X11_split_1, e_X11_split_2, e_X11_split_5, e_X11_split_8, e_X11_split_9, e_X11_split_12, e_X11_split_15, e_X11_split_15x, e_X11_split_16, e_X11_split_17, e_X11_split_20, e_X11_split_23, e_X11_split_25, e_X11_split_28, e_X11_split_31, e_X11_split_33, e_X11_split_34, e_X11_split_36, e_X11_split_37, e_X11_split_40, e_X11_split_42, e_X11_split_43, e_X11_split_46, e_X11_split_48, e_X11_split_49, e_X11_split_52, e_X11_split_54, e_X11_split_55, e_X11_split_58, e_X11_split_60, e_X11_split_61, e_X11_split_61x, e_X11_split_62, e_X11_split_65, e_X11_split_65x, e_X11_split_66, e_X11_split_69, e_X11_split_71, e_X11_split_74, e_X11_split_74x, e_X11_split_75, e_X11_split_78, e_X11_split_79, e_X11_split_80, e_X11_split_81, e_X11_split_83, e_X11_split_85, e_X11_split_88, zcll_s, zpush_s, zpush_n, zinv_i, zinv_l, zinv_r, zinv_x, zcats_nil, zcats_i, zcats_l, zcats_r, zcats_x, Nat.le_refl, and_self, true_and, and_true, zok_1, zok_20, zok_21, eq_self, Nat.reduceAdd, Nat.reduceLeDiff, Nat.zero_le, if_true, if_false, zw3_id, if_pos, if_neg, zand_t, tg_0, hA, hE, k_isLength, k_isRun, zB_t, zB_f]
          · refine bad _ (fun q => h4 q.2.2.2.1) ?_
            by_cases h7 : cc < 1
            · simp (disch := omega) only [e_X11_split_0, e_X11_split_0x, e_X11_split_1, e_X11_split_2, e_X11_split_5, e_X11_split_8, e_X11_split_9, e_X11_split_12, e_X11_split_15, e_X11_split_15x, e_X11_split_16, e_X11_split_17, e_X11_split_20, e_X11_split_23, e_X11_split_25, e_X11_split_28, e_X11_split_31, e_X11_split_33, e_X11_split_34, e_X11_split_36, e_X11_split_37, e_X11_split_40, e_X11_split_42, e_X11_split_43, e_X11_split_46, e_X11_split_48, e_X11_split_49, e_X11_split_52, e_X11_split_54, e_X11_split_55, e_X11_split_58, e_X11_split_60, e_X11_split_61, e_X11_split_61x, e_X11_split_62, e_X11_split_65, e_X11_split_65x, e_X11_split_66, e_X11_split_69, e_X11_split_71, e_X11_split_74, e_X11_split_74x, e_X11_split_75, e_X11_split_78, e_X11_split_79, e_X11_split_80, e_X11_split_81, e_X11_split_83, e_X11_split_85, e_X11_split_88, zcll_s, zpush_s, zpush_n, zinv_i, zinv_l, zinv_r, zinv_x, zcats_nil, zcats_i, zcats_l, zcats_r, zcats_x, Nat.le_refl, and_self, true_and, and_true, zok_1, zok_20, zok_21, eq_self, Nat.reduceAdd, Nat.reduceLeDiff, Nat.zero_le, if_true, if_false, zw3_id, if_pos, if_neg, zand_t, tg_0, hA, hE, k_isLength, k_isRun, zB_t, zB_f]
            · simp (disch := omega) only [e_X11_split_0, e_X11_split_0x, e_X11_split_1, e_X11_split_2, e_X11_split_5, e_X11_split_8, e_X11_split_9, e_X11_split_12, e_X11_split_15, e_X11_split_15x, e_X11_split_16, e_X11_split_17, e_X11_split_20, e_X11_split_23, e_X11_split_25, e_X11_split_28, e_X11_split_31, e_X11_split_33, e_X11_split_34, e_X11_split_36, e_X11_split_37, e_X11_split_40, e_X11_split_42, e_X11_split_43, e_X11_split_46, e_X11_split_48, e_X11_split_49, e_X11_split_52, e_X11_split_54, e_X11_split_55, e_X11_split_58, e_X11_split_60, e_X11_split_61, e_X11_split_61x, e_X11_split_62, e_X11_split_65, e_X11_split_65x, e_X11_split_66, e_X11_split_69, e_X11_split_71, e_X11_split_74, e_X11_split_74x, e_X11_split_75, e_X11_split_78, e_X11_split_79, e_X11_split_80, e_X11_split_81, e_X11_split_83, e_X11_split_85, e_X11_split_88, zcll_s, zpush_s, zpush_n, zinv_i, zinv_l, zinv_r, zinv_x, zcats_nil, zcats_i, zcats_l, zcats_r, zcats_x, Nat.le_refl, and_self, true_and, and_true, zok_1, zok_20, zok_21, eq_self, Nat.reduceAdd, Nat.reduceLeDiff, Nat.zero_le, if_true, if_false, zw3_id, if_pos, if_neg, zand_t, tg_0, hA, hE, k_isLength, k_isRun, zB_t, zB_f]
        · refine bad _ (fun q => h6 q.2.2.2.2.2) ?_
          simp (disch := omega) only [e_X11_split_0, e_X11_split_0x, e_X11_split_1, e_X11_split_2, e_X11_split_5, e_X11_split_8, e_X11_split_9, e_X11_split_12, e_X11_split_15, e_X11_split_15x, e_X11_split_16, e_X11_split_17, e_X11_split_20, e_X11_split_23, e_X11_split_25, e_X11_split_28, e_X11_split_31, e_X11_split_33, e_X11_split_34, e_X11_split_36, e_X11_split_37, e_X11_split_40, e_X11_split_42, e_X11_split_43, e_X11_split_46, e_X11_split_48, e_X11_split_49, e_X11_split_52, e_X11_split_54, e_X11_split_55, e_X11_split_58, e_X11_split_60, e_X11_split_61, e_X11_split_61x, e_X11_split_62, e_X11_split_65, e_X11_split_65x, e_X11_split_66, e_X11_split_69, e_X11_split_71, e_X11_split_74, e_X11_split_74x, e_X11_split_75, e_X11_split_78, e_X11_split_79, e_X11_split_80, e_X11_split_81, e_X11_split_83, e_X11_split_85, e_X11_split_88, zcll_s, zpush_s, zpush_n, zinv_i, zinv_l, zinv_r, zinv_x, zcats_nil, zcats_i, zcats_l, zcats_r, zcats_x, Nat.le_refl, and_self, true_and, and_true, zok_1, zok_20, zok_21, eq_self, Nat.reduceAdd, Nat.reduceLeDiff, Nat.zero_le, if_true, if_false, zw3_id, if_pos, if_neg, zand_t, tg_0, hA, hE, k_isLength, k_isRun, zB_t, zB_f]
      · rw [zB_f h3] at hE
        refine bad _ (fun q => h3 q.2.2.1) ?_
        simp (disch := omega) only [e_X11_split_0, e_X11_split_0x, e_X11_split_1, e_X11_split_2, e_X11_split_5, e_X11_split_8, e_X11_split_9, e_X11_split_12, e_X11_split_15, e_X11_split_15x, e_X11_split_16, e_X11_split_17, e_X11_split_20, e_X11_split_23, e_X11_split_25, e_X11_split_28, e_X11_split_31, e_X11_split_33, e_X11_split_34, e_X11_split_36, e_X11_split_37, e_X11_split_40, e_X11_split_42, e_X11_split_43, e_X11_split_46, e_X11_split_48, e_X11_split_49, e_X11_split_52, e_X11_split_54, e_X11_split_55, e_X11_split_58, e_X11_split_60, e_X11_split_61, e_X11_split_61x, e_X11_split_62, e_X11_split_65, e_X11_split_65x, e_X11_split_66, e_X11_split_69, e_X11_split_71, e_X11_split_74, e_X11_split_74x, e_X11_split_75, e_X11_split_78, e_X11_split_79, e_X11_split_80, e_X11_split_81, e_X11_split_83, e_X11_split_85, e_X11_split_88, zcll_s, zpush_s, zpush_n, zinv_i, zinv_l, zinv_r, zinv_x, zcats_nil, zcats_i, zcats_l, zcats_r, zcats_x, Nat.le_refl, and_self, true_and, and_true, zok_1, zok_20, zok_21, eq_self, Nat.reduceAdd, Nat.reduceLeDiff, Nat.zero_le, if_true, if_false, zw3_id, if_pos, if_neg, zand_t, tg_0, hA, hE, k_isLength, k_isRun, zB_t, zB_f]
    · refine bad _ (fun q => h2 q.2.1) ?_
      simp (disch := omega) only [e_X11_split_0, e_X11_split_0x, e_X11_split_1, e_X11_split_2, e_X11_split_5, e_X11_split_8, e_X11_split_9, e_X11_split_12, e_X11_split_15, e_X11_split_15x, e_X11_split_16, e_X11_split_17, e_X11_split_20, e_X11_split_23, e_X11_split_25, e_X11_split_28, e_X11_split_31, e_X11_split_33, e_X11_split_34, e_X11_split_36, e_X11_split_37, e_X11_split_40, e_X11_split_42, e_X11_split_43, e_X11_split_46, e_X11_split_48, e_X11_split_49, e_X11_split_52, e_X11_split_54, e_X11_split_55, e_X11_split_58, e_X11_split_60, e_X11_split_61, e_X11_split_61x, e_X11_split_62, e_X11_split_65, e_X11_split_65x, e_X11_split_66, e_X11_split_69, e_X11_split_71, e_X11_split_74, e_X11_split_74x, e_X11_split_75, e_X11_split_78, e_X11_split_79, e_X11_split_80, e_X11_split_81, e_X11_split_83, e_X11_split_85, e_X11_split_88, zcll_s, zpush_s, zpush_n, zinv_i, zinv_l, zinv_r, zinv_x, zcats_nil, zcats_i, zcats_l, zcats_r, zcats_x, Nat.le_refl, and_self, true_and, and_true, zok_1, zok_20, zok_21, eq_self, Nat.reduceAdd, Nat.reduceLeDiff, Nat.zero_le, if_true, if_false, zw3_id, if_pos, if_neg, zand_t, tg_0, hA, hE, k_isLength, k_isRun, zB_t, zB_f]
  · rw [zB_f h1] at hA
    refine bad _ (fun q => h1 q.1) ?_
    simp (disch := omega) only [e_X11_split_0, e_X11_split_0x, e_X11_split_1, e_X11_split_2, e_X11_split_5, e_X11_split_8, e_X11_split_9, e_X11_split_12, e_X11_split_15, e_X11_split_15x, e_X11_split_16, e_X11_split_17, e_X11_split_20, e_X11_split_23, e_X11_split_25, e_X11_split_28, e_X11_split_31, e_X11_split_33, e_X11_split_34, e_X11_split_36, e_X11_split_37, e_X11_split_40, e_X11_split_42, e_X11_split_43, e_X11_split_46, e_X11_split_48, e_X11_split_49, e_X11_split_52, e_X11_split_54, e_X11_split_55, e_X11_split_58, e_X11_split_60, e_X11_split_61, e_X11_split_61x, e_X11_split_62, e_X11_split_65, e_X11_split_65x, e_X11_split_66, e_X11_split_69, e_X11_split_71, e_X11_split_74, e_X11_split_74x, e_X11_split_75, e_X11_split_78, e_X11_split_79, e_X11_split_80, e_X11_split_81, e_X11_split_83, e_X11_split_85, e_X11_split_88, zcll_s, zpush_s, zpush_n, zinv_i, zinv_l, zinv_r, zinv_x, zcats_nil, zcats_i, zcats_l, zcats_r, zcats_x, Nat.le_refl, and_self, true_and, and_true, zok_1, zok_20, zok_21, eq_self, Nat.reduceAdd, Nat.reduceLeDiff, Nat.zero_le, if_true, if_false, zw3_id, if_pos, if_neg, zand_t, tg_0, hA, hE, k_isLength, k_isRun, zB_t, zB_f]
end
