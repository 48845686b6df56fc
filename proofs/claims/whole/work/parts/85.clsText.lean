/-! Texts: charAt, indexOf. -/
section
variable {X : ZX} {d c s : Nat} {I L I1 L1 I2 L2 J : ZI} {R R1 R2 : ZR} {call : ZC} {n p : Nat} {x t : Int} {B : Nat → Int}
def idx : List Int → Int → Nat → Int
  | [], _, _ => -1
  | y :: l, ch, j => if y = ch then (j : Int) else idx l ch (j + 1)
theorem str_c : ∀ k, k < 7 → ∀ i, i < (zstr k).length → zi2c (zand3 ((zstr k).getD i 0) 255) = (zstr k).getD i 0 ∧ 0 ≤ (zstr k).getD i 0 ∧ (zstr k).getD i 0 < 128 := by decide +kernel
theorem str_n : ∀ k, k < 7 → 3 ≤ (zstr k).length ∧ (zstr k).length ≤ 9 := by decide +kernel
theorem k_check3 {i m : Int} (h0 : 0 ≤ i) (h1 : i < m) : zrun X (d + 1) 188 [zi i, zi m, zx 50] (c, s, I, L, R) = some (some (zi i), (c, s, I, L, R)) := by
  refine st_J3_checkIndex_8e157 ?_
  simp (disch := omega) only [e_J3_checkIndex_8e157_0, e_J3_checkIndex_8e157_1, e_J3_checkIndex_8e157_4, e_J3_checkIndex_8e157_5, e_J3_checkIndex_8e157_6, e_J3_checkIndex_8e157_9, e_J3_checkIndex_8e157_9x, e_J3_checkIndex_8e157_10, e_J3_checkIndex_8e157_11, e_J3_checkIndex_8e157_16, e_J3_checkIndex_8e157_17, zcll_s, zpush_s, zpush_n, zinv_i, zinv_l, zinv_r, zinv_x, zcats_nil, zcats_i, zcats_l, zcats_r, zcats_x, Nat.le_refl, and_self, true_and, and_true, zok_1, zok_20, zok_21, eq_self, Nat.reduceAdd, Nat.reduceLeDiff, Nat.zero_le, if_true, if_false, zw3_id, if_pos, if_neg, zand_t]
theorem k_check0 {i m : Int} (h0 : 0 ≤ i) (h1 : i < m) : zrun X (d + 2) 181 [zi i, zi m] (c, s, I, L, R) = some (none, (c, s, I, L, R)) := by
  refine st_J0_checkIndex_df160 ?_
  have q := k_check3 (X := X) (d := d) (c := c) (s := s) (I := I) (L := L) (R := R) h0 h1
  simp (disch := omega) only [e_J0_checkIndex_df160_0, e_J0_checkIndex_df160_1, e_J0_checkIndex_df160_2, e_J0_checkIndex_df160_5, e_J0_checkIndex_df160_8, e_J0_checkIndex_df160_9, zcll_s, zpush_s, zpush_n, zinv_i, zinv_l, zinv_r, zinv_x, zcats_nil, zcats_i, zcats_l, zcats_r, zcats_x, Nat.le_refl, and_self, true_and, and_true, zok_1, zok_20, zok_21, eq_self, Nat.reduceAdd, Nat.reduceLeDiff, Nat.zero_le, if_true, if_false, zw3_id, if_pos, if_neg, zand_t, q]
theorem k_charAt1 {e : Nat} (he : 1 ≤ e ∧ e < 8) {i : Nat} (hi : i < (zstr (e - 1)).length) : zrun X (d + 3) 182 [zx (e + 1 + 20), zi (i : Int)] (c, s, I, L, R) = some (some (zi ((zstr (e - 1)).getD i 0)), (c, s, I, L, R)) := by
  refine st_J1_charAt_3b067 ?_
  have e1 : e + 1 + 20 - 22 = e - 1 := by omega
  have e2 : e + 20 + 1 - 22 = e - 1 := by omega
  have q := k_check0 (X := X) (d := d) (c := c) (s := s) (I := I) (L := L) (R := R) (i := (i : Int)) (m := ((zstr (e - 1)).length : Int)) (by omega) (by omega)
  have hc := str_c (e - 1) (by omega) i hi
  have hok : zok 3 ((zstr (e - 1)).getD i 0) = true := by rw [zok_3]; omega
  rw [show e + 1 + 20 = e + 20 + 1 by omega]
  simp (disch := omega) only [e_J1_charAt_3b067_0, e_J1_charAt_3b067_1, e_J1_charAt_3b067_1x, e_J1_charAt_3b067_2, e_J1_charAt_3b067_2x, e_J1_charAt_3b067_3, e_J1_charAt_3b067_6, e_J1_charAt_3b067_6x, e_J1_charAt_3b067_7, e_J1_charAt_3b067_8, e_J1_charAt_3b067_8x, e_J1_charAt_3b067_9, e_J1_charAt_3b067_12, e_J1_charAt_3b067_13, e_J1_charAt_3b067_14, zcll_s, zpush_s, zpush_n, zinv_i, zinv_l, zinv_r, zinv_x, zcats_nil, zcats_i, zcats_l, zcats_r, zcats_x, Nat.le_refl, and_self, true_and, and_true, zok_1, zok_20, zok_21, eq_self, Nat.reduceAdd, Nat.reduceLeDiff, Nat.zero_le, if_true, if_false, zw3_id, if_pos, if_neg, zand_t, e1, e2, q, Int.toNat_natCast, hc.1, hok]
theorem k_charAt {e : Nat} (he : 1 ≤ e ∧ e < 8) {i : Nat} (hi : i < (zstr (e - 1)).length) : zrun X (d + 4) 176 [zx (e + 1), zi (i : Int)] (c, s, I, L, R) = some (some (zi ((zstr (e - 1)).getD i 0)), (c, s, I, L, R)) := by
  refine st_J0_charAt_5068e ?_
  have q1 := k_isLatin1 (X := X) (d := d + 2) (c := c) (s := s) (I := I) (L := L) (R := R) he
  have q2 := k_charAt1 (X := X) (d := d) (c := c) (s := s) (I := I) (L := L) (R := R) he hi
  have hc := str_c (e - 1) (by omega) i hi
  have hok : zok 3 ((zstr (e - 1)).getD i 0) = true := by rw [zok_3]; omega
  simp (disch := omega) only [e_J0_charAt_5068e_0, e_J0_charAt_5068e_0x, e_J0_charAt_5068e_1, e_J0_charAt_5068e_4, e_J0_charAt_5068e_7, e_J0_charAt_5068e_7x, e_J0_charAt_5068e_8, e_J0_charAt_5068e_11, e_J0_charAt_5068e_12, e_J0_charAt_5068e_15, e_J0_charAt_5068e_16, e_J0_charAt_5068e_16x, e_J0_charAt_5068e_17, e_J0_charAt_5068e_20, e_J0_charAt_5068e_24, zcll_s, zpush_s, zpush_n, zinv_i, zinv_l, zinv_r, zinv_x, zcats_nil, zcats_i, zcats_l, zcats_r, zcats_x, Nat.le_refl, and_self, true_and, and_true, zok_1, zok_20, zok_21, eq_self, Nat.reduceAdd, Nat.reduceLeDiff, Nat.zero_le, if_true, if_false, zw3_id, if_pos, if_neg, zand_t, q1, q2, hok]
theorem q_idx {e : Nat} (he : 1 ≤ e ∧ e < 8) (ch b0 : Int) : ∀ (l : List Int) (i : Nat), (zstr (e - 1)).drop i = l → i ≤ (zstr (e - 1)).length → V X call mJ1_indexOfChar_4cfef 7 [zx (e + 20 + 1), zi ch, zi 0, zi ((zstr (e - 1)).length : Int), zi b0, zi (i : Int)] [] (c, s, I, L, R) (fun q => q = (some (zi (idx l b0 i)), (c, s, I, L, R))) := by
  intro l
  have hn := str_n (e - 1) (by omega)
  have e2 : e + 20 + 1 - 22 = e - 1 := by omega
  induction l with
  | nil =>
    intro i h1 h2
    have e1 := zdropn h1 h2
    rw [e_J1_indexOfChar_4cfef_7]
    simp (disch := omega) only [e_J1_indexOfChar_4cfef_0, e_J1_indexOfChar_4cfef_1, e_J1_indexOfChar_4cfef_2, e_J1_indexOfChar_4cfef_4, e_J1_indexOfChar_4cfef_5, e_J1_indexOfChar_4cfef_9, e_J1_indexOfChar_4cfef_10, e_J1_indexOfChar_4cfef_13, e_J1_indexOfChar_4cfef_13x, e_J1_indexOfChar_4cfef_14, e_J1_indexOfChar_4cfef_16, e_J1_indexOfChar_4cfef_16x, e_J1_indexOfChar_4cfef_17, e_J1_indexOfChar_4cfef_19, e_J1_indexOfChar_4cfef_22, e_J1_indexOfChar_4cfef_24, e_J1_indexOfChar_4cfef_25, e_J1_indexOfChar_4cfef_28, e_J1_indexOfChar_4cfef_31, e_J1_indexOfChar_4cfef_32, zcll_s, zpush_s, zpush_n, zinv_i, zinv_l, zinv_r, zinv_x, zcats_nil, zcats_i, zcats_l, zcats_r, zcats_x, Nat.le_refl, and_self, true_and, and_true, zok_1, zok_20, zok_21, eq_self, Nat.reduceAdd, Nat.reduceLeDiff, Nat.zero_le, if_true, if_false, zw3_id, if_pos, if_neg, zand_t]
    rfl
  | cons y l ih =>
    intro i h1 h2
    obtain ⟨k1, k2, k3, k4⟩ := zdrop h1
    have hy : (zstr (e - 1)).getD i 0 = y := zgetD k2
    unfold idx
    rw [e_J1_indexOfChar_4cfef_7]
    by_cases q : y = b0
    · rw [if_pos q]
      simp (disch := omega) only [e_J1_indexOfChar_4cfef_0, e_J1_indexOfChar_4cfef_1, e_J1_indexOfChar_4cfef_2, e_J1_indexOfChar_4cfef_4, e_J1_indexOfChar_4cfef_5, e_J1_indexOfChar_4cfef_9, e_J1_indexOfChar_4cfef_10, e_J1_indexOfChar_4cfef_13, e_J1_indexOfChar_4cfef_13x, e_J1_indexOfChar_4cfef_14, e_J1_indexOfChar_4cfef_16, e_J1_indexOfChar_4cfef_16x, e_J1_indexOfChar_4cfef_17, e_J1_indexOfChar_4cfef_19, e_J1_indexOfChar_4cfef_22, e_J1_indexOfChar_4cfef_24, e_J1_indexOfChar_4cfef_25, e_J1_indexOfChar_4cfef_28, e_J1_indexOfChar_4cfef_31, e_J1_indexOfChar_4cfef_32, zcll_s, zpush_s, zpush_n, zinv_i, zinv_l, zinv_r, zinv_x, zcats_nil, zcats_i, zcats_l, zcats_r, zcats_x, Nat.le_refl, and_self, true_and, and_true, zok_1, zok_20, zok_21, eq_self, Nat.reduceAdd, Nat.reduceLeDiff, Nat.zero_le, if_true, if_false, zw3_id, if_pos, if_neg, zand_t, e2, Int.toNat_natCast, hy]
    · rw [if_neg q]
      simp (disch := omega) only [e_J1_indexOfChar_4cfef_0, e_J1_indexOfChar_4cfef_1, e_J1_indexOfChar_4cfef_2, e_J1_indexOfChar_4cfef_4, e_J1_indexOfChar_4cfef_5, e_J1_indexOfChar_4cfef_9, e_J1_indexOfChar_4cfef_10, e_J1_indexOfChar_4cfef_13, e_J1_indexOfChar_4cfef_13x, e_J1_indexOfChar_4cfef_14, e_J1_indexOfChar_4cfef_16, e_J1_indexOfChar_4cfef_16x, e_J1_indexOfChar_4cfef_17, e_J1_indexOfChar_4cfef_19, e_J1_indexOfChar_4cfef_22, e_J1_indexOfChar_4cfef_24, e_J1_indexOfChar_4cfef_25, e_J1_indexOfChar_4cfef_28, e_J1_indexOfChar_4cfef_31, e_J1_indexOfChar_4cfef_32, zcll_s, zpush_s, zpush_n, zinv_i, zinv_l, zinv_r, zinv_x, zcats_nil, zcats_i, zcats_l, zcats_r, zcats_x, Nat.le_refl, and_self, true_and, and_true, zok_1, zok_20, zok_21, eq_self, Nat.reduceAdd, Nat.reduceLeDiff, Nat.zero_le, if_true, if_false, zw3_id, if_pos, if_neg, zand_t, e2, Int.toNat_natCast, hy]
      rw [show (i : Int) + 1 = ((i + 1 : Nat) : Int) by omega]
      exact ih (i + 1) k3 (by omega)
theorem k_indexOf {e : Nat} (he : 1 ≤ e ∧ e < 8) {ch : Int} (h0 : 0 ≤ ch) (h1 : ch ≤ 255) : zrun X (d + 4) 177 [zx (e + 1), zi ch] (c, s, I, L, R) = some (some (zi (idx (zstr (e - 1)) (zi2b ch) 0)), (c, s, I, L, R)) := by
  have hn := str_n (e - 1) (by omega)
  have e1 : e + 1 + 20 - 22 = e - 1 := by omega
  have e2 : e + 20 + 1 - 22 = e - 1 := by omega
  have a1 : zrun X (d + 1) 185 [zx (e + 20 + 1), zi ch, zi 0, zi ((zstr (e - 1)).length : Int)] (c, s, I, L, R) = some (some (zi (idx (zstr (e - 1)) (zi2b ch) 0)), (c, s, I, L, R)) := by
    refine st_J1_indexOfChar_4cfef ?_
    simp (disch := omega) only [e_J1_indexOfChar_4cfef_0, e_J1_indexOfChar_4cfef_1, e_J1_indexOfChar_4cfef_2, e_J1_indexOfChar_4cfef_4, e_J1_indexOfChar_4cfef_5, e_J1_indexOfChar_4cfef_9, e_J1_indexOfChar_4cfef_10, e_J1_indexOfChar_4cfef_13, e_J1_indexOfChar_4cfef_13x, e_J1_indexOfChar_4cfef_14, e_J1_indexOfChar_4cfef_16, e_J1_indexOfChar_4cfef_16x, e_J1_indexOfChar_4cfef_17, e_J1_indexOfChar_4cfef_19, e_J1_indexOfChar_4cfef_22, e_J1_indexOfChar_4cfef_24, e_J1_indexOfChar_4cfef_25, e_J1_indexOfChar_4cfef_28, e_J1_indexOfChar_4cfef_31, e_J1_indexOfChar_4cfef_32, zcll_s, zpush_s, zpush_n, zinv_i, zinv_l, zinv_r, zinv_x, zcats_nil, zcats_i, zcats_l, zcats_r, zcats_x, Nat.le_refl, and_self, true_and, and_true, zok_1, zok_20, zok_21, eq_self, Nat.reduceAdd, Nat.reduceLeDiff, Nat.zero_le, if_true, if_false, zw3_id, if_pos, if_neg, zand_t]
    exact q_idx (X := X) (call := zrun X d) he ch (zi2b ch) (zstr (e - 1)) 0 rfl (by omega)
  have a2 : zrun X (d + 1) 183 [zi ch] (c, s, I, L, R) = some (some (zi 1), (c, s, I, L, R)) := by
    refine st_J1_canEncode_9a6ad ?_
    simp (disch := omega) only [e_J1_canEncode_9a6ad_0, e_J1_canEncode_9a6ad_1, e_J1_canEncode_9a6ad_4, e_J1_canEncode_9a6ad_5, e_J1_canEncode_9a6ad_8, e_J1_canEncode_9a6ad_11, e_J1_canEncode_9a6ad_12, e_J1_canEncode_9a6ad_15, e_J1_canEncode_9a6ad_16, zcll_s, zpush_s, zpush_n, zinv_i, zinv_l, zinv_r, zinv_x, zcats_nil, zcats_i, zcats_l, zcats_r, zcats_x, Nat.le_refl, and_self, true_and, and_true, zok_1, zok_20, zok_21, eq_self, Nat.reduceAdd, Nat.reduceLeDiff, Nat.zero_le, if_true, if_false, zw3_id, if_pos, if_neg, zand_t]
  have a3 : zrun X (d + 2) 184 [zx (e + 20 + 1), zi ch, zi 0, zi ((zstr (e - 1)).length : Int)] (c, s, I, L, R) = some (some (zi (idx (zstr (e - 1)) (zi2b ch) 0)), (c, s, I, L, R)) := by
    refine st_J1_indexOf_4cfef ?_
    simp (disch := omega) only [e_J1_indexOf_4cfef_0, e_J1_indexOf_4cfef_1, e_J1_indexOf_4cfef_4, e_J1_indexOf_4cfef_7, e_J1_indexOf_4cfef_8, e_J1_indexOf_4cfef_9, e_J1_indexOf_4cfef_10, e_J1_indexOf_4cfef_11, e_J1_indexOf_4cfef_14, e_J1_indexOf_4cfef_15, e_J1_indexOf_4cfef_16, e_J1_indexOf_4cfef_16x, e_J1_indexOf_4cfef_17, e_J1_indexOf_4cfef_17x, e_J1_indexOf_4cfef_18, e_J1_indexOf_4cfef_21, e_J1_indexOf_4cfef_22, e_J1_indexOf_4cfef_23, e_J1_indexOf_4cfef_24, e_J1_indexOf_4cfef_27, e_J1_indexOf_4cfef_28, e_J1_indexOf_4cfef_29, e_J1_indexOf_4cfef_29x, e_J1_indexOf_4cfef_30, e_J1_indexOf_4cfef_31, e_J1_indexOf_4cfef_32, e_J1_indexOf_4cfef_33, e_J1_indexOf_4cfef_36, zcll_s, zpush_s, zpush_n, zinv_i, zinv_l, zinv_r, zinv_x, zcats_nil, zcats_i, zcats_l, zcats_r, zcats_x, Nat.le_refl, and_self, true_and, and_true, zok_1, zok_20, zok_21, eq_self, Nat.reduceAdd, Nat.reduceLeDiff, Nat.zero_le, if_true, if_false, zw3_id, if_pos, if_neg, zand_t, a2, e2, a1]
  have a4 : zrun X (d + 3) 178 [zx (e + 1), zi ch, zi 0] (c, s, I, L, R) = some (some (zi (idx (zstr (e - 1)) (zi2b ch) 0)), (c, s, I, L, R)) := by
    refine st_J0_indexOf_7cf53 ?_
    have q1 := k_isLatin1 (X := X) (d := d + 1) (c := c) (s := s) (I := I) (L := L) (R := R) he
    have q2 := k_length (X := X) (d := d) (c := c) (s := s) (I := I) (L := L) (R := R) he
    have e3 : e + 1 + 20 = e + 20 + 1 := by omega
    simp (disch := omega) only [e_J0_indexOf_7cf53_0, e_J0_indexOf_7cf53_0x, e_J0_indexOf_7cf53_1, e_J0_indexOf_7cf53_4, e_J0_indexOf_7cf53_7, e_J0_indexOf_7cf53_7x, e_J0_indexOf_7cf53_8, e_J0_indexOf_7cf53_11, e_J0_indexOf_7cf53_12, e_J0_indexOf_7cf53_13, e_J0_indexOf_7cf53_13x, e_J0_indexOf_7cf53_14, e_J0_indexOf_7cf53_17, e_J0_indexOf_7cf53_20, e_J0_indexOf_7cf53_23, e_J0_indexOf_7cf53_23x, e_J0_indexOf_7cf53_24, e_J0_indexOf_7cf53_27, e_J0_indexOf_7cf53_28, e_J0_indexOf_7cf53_29, e_J0_indexOf_7cf53_29x, e_J0_indexOf_7cf53_30, e_J0_indexOf_7cf53_36, zcll_s, zpush_s, zpush_n, zinv_i, zinv_l, zinv_r, zinv_x, zcats_nil, zcats_i, zcats_l, zcats_r, zcats_x, Nat.le_refl, and_self, true_and, and_true, zok_1, zok_20, zok_21, eq_self, Nat.reduceAdd, Nat.reduceLeDiff, Nat.zero_le, if_true, if_false, zw3_id, if_pos, if_neg, zand_t, q1, q2, e3, a3]
  refine st_J0_indexOf_0f7a4 ?_
  simp (disch := omega) only [e_J0_indexOf_0f7a4_0, e_J0_indexOf_0f7a4_0x, e_J0_indexOf_0f7a4_1, e_J0_indexOf_0f7a4_2, e_J0_indexOf_0f7a4_3, e_J0_indexOf_0f7a4_6, zcll_s, zpush_s, zpush_n, zinv_i, zinv_l, zinv_r, zinv_x, zcats_nil, zcats_i, zcats_l, zcats_r, zcats_x, Nat.le_refl, and_self, true_and, and_true, zok_1, zok_20, zok_21, eq_self, Nat.reduceAdd, Nat.reduceLeDiff, Nat.zero_le, if_true, if_false, zw3_id, if_pos, if_neg, zand_t, a4]
theorem idx_0 : ∀ y, y < 256 → (idx (zstr 0) (zi2b ((y : Nat) : Int)) 0 < 0 ↔ ¬ (y = 59 ∨ y = 58 ∨ y = 38 ∨ y = 44 ∨ y = 60 ∨ y = 62 ∨ y = 61 ∨ y = 43 ∨ y = 45)) ∧ idx (zstr 0) (zi2b ((y : Nat) : Int)) 0 ≤ 9 := by decide +kernel
theorem idx_4 : ∀ y, y < 256 → idx (zstr 4) (zi2b ((y : Nat) : Int)) 0 = if y = 60 then 0 else if y = 61 then 1 else if y = 62 then 2 else -1 := by decide +kernel
theorem idx_5 : ∀ y, y < 256 → idx (zstr 5) (zi2b ((y : Nat) : Int)) 0 = if y = 45 then 0 else if y = 61 then 1 else if y = 43 then 2 else -1 := by decide +kernel
end
