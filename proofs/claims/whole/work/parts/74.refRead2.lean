/-! The reference: names, terms. -/
section
variable {X : ZX} {d c s : Nat} {I L I1 L1 I2 L2 J : ZI} {R R1 R2 : ZR} {call : ZC} {w n p : Nat} {M : MD} {f : Nat → Int} {x t : Int} {B : Nat → Int}
/-- a var's name as it was read -/
def NmO (l : List Int) : Prop := l.length ≤ 6 ∧ ∀ y ∈ l, 97 ≤ y ∧ y ≤ 122
def VNm (vs : List MV) : Prop := ∀ y ∈ vs, NmO y.1
theorem vR_eq {l m : List Int} (hl : NmO l) (hm : NmO m) : vR 256 0 l = vR 256 0 m ↔ l = m := ⟨fun h => vR_inj (by omega) l m (fun y hy => by have := hl.2 y hy; omega) (fun y hy => by have := hm.2 y hy; omega) h, fun h => by rw [h]⟩
/-- the vars that were read, in the reference at side w -/
def RVs (I L : ZI) (w : Nat) (vs : List MV) : Prop := I 313 w = (vs.length : Int) ∧ ∀ v y, vs[v]? = some y → I 315 (4 * w + v) = y.2.1 ∧ I 316 (4 * w + v) = y.2.2 ∧ L 314 (4 * w + v) = vR 256 0 y.1
theorem p_varOf (hR : Rok R) (hw : w < 2) (h13 : I 310 13 = (w : Int)) {vs : List MV} (hv : RVs I L w vs) (hl : vs.length ≤ 4) (hn : VNm vs) {nm : List Int} (hnm : NmO nm) : ∀ (l : List MV) (v : Nat), vs.drop v = l → v ≤ vs.length → V X call mX12_varOf 2 [zr (some 310), zl (vR 256 0 nm), zx 0, zi (v : Int)] [] (c, s, I, L, R) (fun q => q = (some (zi (vIx l nm v)), (c, s, I, L, R))) := by
  intro l
  have h313 : I 313 w = vs.length := hv.1
  induction l with
  | nil =>
    intro v h1 h2
    have e := zdropn h1 h2
    rw [e_X12_varOf_2]
    simp (disch := omega) only [e_X12_varOf_0, e_X12_varOf_1, e_X12_varOf_3, e_X12_varOf_3x, e_X12_varOf_4, e_X12_varOf_7, e_X12_varOf_7x, e_X12_varOf_8, e_X12_varOf_11, e_X12_varOf_12, e_X12_varOf_15, e_X12_varOf_15x, e_X12_varOf_16, e_X12_varOf_19, e_X12_varOf_20, e_X12_varOf_20x, e_X12_varOf_21, e_X12_varOf_24, e_X12_varOf_25, e_X12_varOf_26, e_X12_varOf_27, e_X12_varOf_28, e_X12_varOf_29, e_X12_varOf_30, e_X12_varOf_33, e_X12_varOf_36, e_X12_varOf_39, e_X12_varOf_40, e_X12_varOf_40x, e_X12_varOf_41, e_X12_varOf_44, e_X12_varOf_44x, e_X12_varOf_45, e_X12_varOf_48, e_X12_varOf_49, e_X12_varOf_52, e_X12_varOf_53, e_X12_varOf_56, e_X12_varOf_57, zcll_s, zpush_s, zpush_n, zinv_i, zinv_l, zinv_r, zinv_x, zcats_nil, zcats_i, zcats_l, zcats_r, zcats_x, Nat.le_refl, and_self, true_and, and_true, zok_1, zok_20, zok_21, eq_self, Nat.reduceAdd, Nat.reduceLeDiff, Nat.zero_le, if_true, if_false, zw3_id, if_pos, if_neg, zand_t, tg_310, tg_313, tn_313, rr_310_16 hR, h13, Int.toNat_natCast, h313]
    rfl
  | cons y l ih =>
    intro v h1 h2
    obtain ⟨k1, k2, k3, k4⟩ := zdrop h1
    have hy := (hv.2 v y k2).2.2
    have e4 : (4 * (w : Int) + (v : Int)).toNat = 4 * w + v := by omega
    have hq := vR_eq (hn y k4) hnm
    unfold vIx
    rw [e_X12_varOf_2]
    by_cases q : y.1 = nm
    · rw [if_pos q]
      rw [q] at hy
      simp (disch := omega) only [e_X12_varOf_0, e_X12_varOf_1, e_X12_varOf_3, e_X12_varOf_3x, e_X12_varOf_4, e_X12_varOf_7, e_X12_varOf_7x, e_X12_varOf_8, e_X12_varOf_11, e_X12_varOf_12, e_X12_varOf_15, e_X12_varOf_15x, e_X12_varOf_16, e_X12_varOf_19, e_X12_varOf_20, e_X12_varOf_20x, e_X12_varOf_21, e_X12_varOf_24, e_X12_varOf_25, e_X12_varOf_26, e_X12_varOf_27, e_X12_varOf_28, e_X12_varOf_29, e_X12_varOf_30, e_X12_varOf_33, e_X12_varOf_36, e_X12_varOf_39, e_X12_varOf_40, e_X12_varOf_40x, e_X12_varOf_41, e_X12_varOf_44, e_X12_varOf_44x, e_X12_varOf_45, e_X12_varOf_48, e_X12_varOf_49, e_X12_varOf_52, e_X12_varOf_53, e_X12_varOf_56, e_X12_varOf_57, zcll_s, zpush_s, zpush_n, zinv_i, zinv_l, zinv_r, zinv_x, zcats_nil, zcats_i, zcats_l, zcats_r, zcats_x, Nat.le_refl, and_self, true_and, and_true, zok_1, zok_20, zok_21, eq_self, Nat.reduceAdd, Nat.reduceLeDiff, Nat.zero_le, if_true, if_false, zw3_id, if_pos, if_neg, zand_t, tg_310, tg_313, tn_313, tg_314, tn_314, rr_310_16 hR, rr_310_17 hR, h13, Int.toNat_natCast, h313, e4, hy, zcmpl_eq]
    · rw [if_neg q]
      have hne : ¬ vR 256 0 y.1 = vR 256 0 nm := fun z => q (hq.mp z)
      simp (disch := omega) only [e_X12_varOf_0, e_X12_varOf_1, e_X12_varOf_3, e_X12_varOf_3x, e_X12_varOf_4, e_X12_varOf_7, e_X12_varOf_7x, e_X12_varOf_8, e_X12_varOf_11, e_X12_varOf_12, e_X12_varOf_15, e_X12_varOf_15x, e_X12_varOf_16, e_X12_varOf_19, e_X12_varOf_20, e_X12_varOf_20x, e_X12_varOf_21, e_X12_varOf_24, e_X12_varOf_25, e_X12_varOf_26, e_X12_varOf_27, e_X12_varOf_28, e_X12_varOf_29, e_X12_varOf_30, e_X12_varOf_33, e_X12_varOf_36, e_X12_varOf_39, e_X12_varOf_40, e_X12_varOf_40x, e_X12_varOf_41, e_X12_varOf_44, e_X12_varOf_44x, e_X12_varOf_45, e_X12_varOf_48, e_X12_varOf_49, e_X12_varOf_52, e_X12_varOf_53, e_X12_varOf_56, e_X12_varOf_57, zcll_s, zpush_s, zpush_n, zinv_i, zinv_l, zinv_r, zinv_x, zcats_nil, zcats_i, zcats_l, zcats_r, zcats_x, Nat.le_refl, and_self, true_and, and_true, zok_1, zok_20, zok_21, eq_self, Nat.reduceAdd, Nat.reduceLeDiff, Nat.zero_le, if_true, if_false, zw3_id, if_pos, if_neg, zand_t, tg_310, tg_313, tn_313, tg_314, tn_314, rr_310_16 hR, rr_310_17 hR, h13, Int.toNat_natCast, h313, e4, hy, zcmpl_eq, hne]
      rw [show (v : Int) + 1 = ((v + 1 : Nat) : Int) by omega]
      exact ih (v + 1) k3 (by omega)
theorem c_varOf (hR : Rok R) (hw : w < 2) (h13 : I 310 13 = (w : Int)) {vs : List MV} (hv : RVs I L w vs) (hl : vs.length ≤ 4) (hn : VNm vs) {nm : List Int} (hnm : NmO nm) : zrun X (d + 1) 126 [zr (some 310), zl (vR 256 0 nm)] (c, s, I, L, R) = some (some (zi (vIx vs nm 0)), (c, s, I, L, R)) := by
  refine st_X12_varOf ?_
  simp (disch := omega) only [e_X12_varOf_0, e_X12_varOf_1, e_X12_varOf_3, e_X12_varOf_3x, e_X12_varOf_4, e_X12_varOf_7, e_X12_varOf_7x, e_X12_varOf_8, e_X12_varOf_11, e_X12_varOf_12, e_X12_varOf_15, e_X12_varOf_15x, e_X12_varOf_16, e_X12_varOf_19, e_X12_varOf_20, e_X12_varOf_20x, e_X12_varOf_21, e_X12_varOf_24, e_X12_varOf_25, e_X12_varOf_26, e_X12_varOf_27, e_X12_varOf_28, e_X12_varOf_29, e_X12_varOf_30, e_X12_varOf_33, e_X12_varOf_36, e_X12_varOf_39, e_X12_varOf_40, e_X12_varOf_40x, e_X12_varOf_41, e_X12_varOf_44, e_X12_varOf_44x, e_X12_varOf_45, e_X12_varOf_48, e_X12_varOf_49, e_X12_varOf_52, e_X12_varOf_53, e_X12_varOf_56, e_X12_varOf_57, zcll_s, zpush_s, zpush_n, zinv_i, zinv_l, zinv_r, zinv_x, zcats_nil, zcats_i, zcats_l, zcats_r, zcats_x, Nat.le_refl, and_self, true_and, and_true, zok_1, zok_20, zok_21, eq_self, Nat.reduceAdd, Nat.reduceLeDiff, Nat.zero_le, if_true, if_false, zw3_id, if_pos, if_neg, zand_t]
  exact p_varOf (X := X) (call := zrun X d) hR hw h13 hv hl hn hnm vs 0 rfl (by omega)
theorem RVs_c {vs : List MV} (h : RVs I L w vs) (hl : vs.length ≤ 4) (h13 : I1 313 w = I 313 w) (h15 : ∀ k, 4 * w ≤ k → k < 4 * w + 4 → I1 315 k = I 315 k ∧ I1 316 k = I 316 k) (h14 : L1 314 = L 314) : RVs I1 L1 w vs := by
  refine ⟨by rw [h13]; exact h.1, fun v y hy => ?_⟩
  have hvl : v < vs.length := (List.getElem?_eq_some_iff.mp hy).1
  rw [(h15 _ (by omega) (by omega)).1, (h15 _ (by omega) (by omega)).2, h14]
  exact h.2 v y hy
/-- the reading state: at token p, without fault, side w is written -/
def PsR (I L : ZI) (B : Nat → Int) (n p w : Nat) (vs : List MV) : Prop := TpR I B n p ∧ I 310 10 = 0 ∧ I 310 13 = (w : Int) ∧ w < 2 ∧ RVs I L w vs ∧ vs.length ≤ 4 ∧ VNm vs
theorem c_readName (hR : Rok R) {vs : List MV} (h : PsR I L B n p w vs) : ∃ v I1, zrun X (d + 3) 129 [zr (some 310)] (c, s, I, L, R) = some (some (zi v), (c, s, I1, L, R)) ∧ FrT I I1 ∧ ((tK B n p ≠ 1 ∧ ErR I1 (1, (tF B n p : Int))) ∨ (tK B n p = 1 ∧ vIx vs (tN B n p) 0 = -1 ∧ ErR I1 (2, (tF B n p : Int))) ∨ (tK B n p = 1 ∧ vIx vs (tN B n p) 0 ≠ -1 ∧ v = vIx vs (tN B n p) 0 ∧ I1 = I)) := by
  obtain ⟨hT, hf, h13, hw, hv, hl, hn⟩ := h
  have q0 := c_stands (X := X) (d := d) (c := c) (s := s) (I := I) (L := L) (R := R) 0 (Or.inl rfl)
  have q1 := c_stands (X := X) (d := d) (c := c) (s := s) (I := I) (L := L) (R := R) 1 (Or.inr rfl)
  rw [if_pos ⟨rfl, hf⟩] at q0
  rw [if_neg (by omega)] at q1
  have e6 := hT.2.2.2.1
  have e7 := hT.2.2.2.2.1
  have qn := c_name (X := X) (d := d + 1) (c := c) (s := s) (L := L) hR hT
  by_cases hk : tK B n p = 1
  · have e6 : I 310 6 = 2 := by rw [e6, rkd_2]; exact hk
    rw [if_pos hk] at qn
    have qv := c_varOf (X := X) (d := d + 1) (c := c) (s := s) hR hw h13 hv hl hn (tN_l hk)
    by_cases hx : vIx vs (tN B n p) 0 = -1
    · have qb := c_bad (X := X) (d := d + 1) (c := c) (s := s) (I := I) (L := L) (R := R) 2 (I 310 7)
      rw [if_pos hf] at qb
      rw [hx] at qv
      refine ⟨-1, zu (zu I 310 10 2) 310 11 (I 310 7), st_X12_readName ?_, FrT_t (FrT_e (Or.inl rfl)) (FrT_e (Or.inr rfl)), Or.inr (Or.inl ⟨hk, hx, by rw [zu_k (by omega), zu_s], by rw [zu_s]; exact e7⟩)⟩
      simp (disch := omega) only [e_X12_readName_0, e_X12_readName_0x, e_X12_readName_1, e_X12_readName_1x, e_X12_readName_2, e_X12_readName_5, e_X12_readName_6, e_X12_readName_9, e_X12_readName_10, e_X12_readName_13, e_X12_readName_14, e_X12_readName_17, e_X12_readName_17x, e_X12_readName_18, e_X12_readName_21, e_X12_readName_24, e_X12_readName_24x, e_X12_readName_25, e_X12_readName_25x, e_X12_readName_26, e_X12_readName_29, e_X12_readName_32, e_X12_readName_35, e_X12_readName_36, e_X12_readName_37, e_X12_readName_37x, e_X12_readName_38, e_X12_readName_41, e_X12_readName_44, e_X12_readName_45, e_X12_readName_46, e_X12_readName_49, e_X12_readName_49x, e_X12_readName_50, e_X12_readName_51, e_X12_readName_51x, e_X12_readName_52, e_X12_readName_55, e_X12_readName_58, e_X12_readName_59, zcll_s, zpush_s, zpush_n, zinv_i, zinv_l, zinv_r, zinv_x, zcats_nil, zcats_i, zcats_l, zcats_r, zcats_x, Nat.le_refl, and_self, true_and, and_true, zok_1, zok_20, zok_21, eq_self, Nat.reduceAdd, Nat.reduceLeDiff, Nat.zero_le, if_true, if_false, zw3_id, if_pos, if_neg, zand_t, tg_310, e6, q1, hf, qn, qv, qb]
    · refine ⟨vIx vs (tN B n p) 0, I, st_X12_readName ?_, FrT_r, Or.inr (Or.inr ⟨hk, hx, rfl, rfl⟩)⟩
      simp (disch := omega) only [e_X12_readName_0, e_X12_readName_0x, e_X12_readName_1, e_X12_readName_1x, e_X12_readName_2, e_X12_readName_5, e_X12_readName_6, e_X12_readName_9, e_X12_readName_10, e_X12_readName_13, e_X12_readName_14, e_X12_readName_17, e_X12_readName_17x, e_X12_readName_18, e_X12_readName_21, e_X12_readName_24, e_X12_readName_24x, e_X12_readName_25, e_X12_readName_25x, e_X12_readName_26, e_X12_readName_29, e_X12_readName_32, e_X12_readName_35, e_X12_readName_36, e_X12_readName_37, e_X12_readName_37x, e_X12_readName_38, e_X12_readName_41, e_X12_readName_44, e_X12_readName_45, e_X12_readName_46, e_X12_readName_49, e_X12_readName_49x, e_X12_readName_50, e_X12_readName_51, e_X12_readName_51x, e_X12_readName_52, e_X12_readName_55, e_X12_readName_58, e_X12_readName_59, zcll_s, zpush_s, zpush_n, zinv_i, zinv_l, zinv_r, zinv_x, zcats_nil, zcats_i, zcats_l, zcats_r, zcats_x, Nat.le_refl, and_self, true_and, and_true, zok_1, zok_20, zok_21, eq_self, Nat.reduceAdd, Nat.reduceLeDiff, Nat.zero_le, if_true, if_false, zw3_id, if_pos, if_neg, zand_t, tg_310, e6, q1, hf, qn, qv, hx]
  · have e6 : I 310 6 ≠ 2 := by rw [e6]; exact fun z => hk (rkd_2.mp z)
    have e10 : zu (zu I 310 10 1) 310 11 (I 310 7) 310 10 = 1 := by rw [zu_k (by omega), zu_s]
    refine ⟨-1, zu (zu I 310 10 1) 310 11 (I 310 7), st_X12_readName ?_, FrT_t (FrT_e (Or.inl rfl)) (FrT_e (Or.inr rfl)), Or.inl ⟨hk, e10, by rw [zu_s]; exact e7⟩⟩
    simp (disch := omega) only [e_X12_readName_0, e_X12_readName_0x, e_X12_readName_1, e_X12_readName_1x, e_X12_readName_2, e_X12_readName_5, e_X12_readName_6, e_X12_readName_9, e_X12_readName_10, e_X12_readName_13, e_X12_readName_14, e_X12_readName_17, e_X12_readName_17x, e_X12_readName_18, e_X12_readName_21, e_X12_readName_24, e_X12_readName_24x, e_X12_readName_25, e_X12_readName_25x, e_X12_readName_26, e_X12_readName_29, e_X12_readName_32, e_X12_readName_35, e_X12_readName_36, e_X12_readName_37, e_X12_readName_37x, e_X12_readName_38, e_X12_readName_41, e_X12_readName_44, e_X12_readName_45, e_X12_readName_46, e_X12_readName_49, e_X12_readName_49x, e_X12_readName_50, e_X12_readName_51, e_X12_readName_51x, e_X12_readName_52, e_X12_readName_55, e_X12_readName_58, e_X12_readName_59, zcll_s, zpush_s, zpush_n, zinv_i, zinv_l, zinv_r, zinv_x, zcats_nil, zcats_i, zcats_l, zcats_r, zcats_x, Nat.le_refl, and_self, true_and, and_true, zok_1, zok_20, zok_21, eq_self, Nat.reduceAdd, Nat.reduceLeDiff, Nat.zero_le, if_true, if_false, zw3_id, if_pos, if_neg, zand_t, tg_310, e6, q0, e10]
end
