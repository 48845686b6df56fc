/-! Exact sums: the class. -/
def Odd (L : ZI) : Prop := (∀ b k : Nat, b ≤ 10 → k ≤ 16 → L (279 + b) k = (b : Int) ^ k) ∧ ∀ m k : Nat, m ≤ 14 → k ≤ m → L (291 + m) k = (zch m k : Int)
section
variable {X : ZX} {d c s : Nat} {I L : ZI} {R : ZR} {call : ZC}
theorem rr_pow (h : Rok R) {b : Nat} (hb : b ≤ 10) : R 278 b = some (279 + b) := by
  have : ∀ b, b < 11 → (278, b, 279 + b) ∈ zRL := by decide +kernel
  exact h _ (this b (by omega))
theorem rr_cho (h : Rok R) {b : Nat} (hb : b ≤ 14) : R 290 b = some (291 + b) := by
  have : ∀ b, b < 15 → (290, b, 291 + b) ∈ zRL := by decide +kernel
  exact h _ (this b (by omega))
theorem tt_pow {b : Nat} (hb : b ≤ 10) : zT (279 + b) = (2, 17) := by
  have : ∀ b, b < 11 → zT (279 + b) = (2, 17) := by decide +kernel
  exact this b (by omega)
theorem tt_cho {b : Nat} (hb : b ≤ 14) : zT (291 + b) = (2, 15) := by
  have : ∀ b, b < 15 → zT (291 + b) = (2, 15) := by decide +kernel
  exact this b (by omega)
theorem k_isSize (m : Int) : zrun X (d + 1) 14 [zi m] (c, s, I, L, R) = some (some (zi (zB (1 ≤ m ∧ m ≤ 14))), (c, s, I, L, R)) := by
  refine st_X2_isSize ?_
  simp only [e_X2_isSize_0, e_X2_isSize_1, e_X2_isSize_2, e_X2_isSize_5, e_X2_isSize_6, e_X2_isSize_8, e_X2_isSize_11, e_X2_isSize_12, e_X2_isSize_15, e_X2_isSize_16, zcll_s, zpush_s, zpush_n, zinv_i, zinv_l, zinv_r, zinv_x, zcats_nil, zcats_i, zcats_l, zcats_r, zcats_x, Nat.le_refl, and_self, true_and, and_true, zok_1, zok_20, zok_21, eq_self, Nat.reduceAdd, Nat.reduceLeDiff, Nat.zero_le, if_true, if_false]
  split
  · rw [zB_f (by omega)]
  · split
    · rw [zB_f (by omega)]
    · rw [zB_t (by omega)]
theorem k_isChance (m : Int) : zrun X (d + 1) 15 [zi m] (c, s, I, L, R) = some (some (zi (zB (0 ≤ m ∧ m ≤ 1000))), (c, s, I, L, R)) := by
  refine st_X2_isChance ?_
  simp only [e_X2_isChance_0, e_X2_isChance_1, e_X2_isChance_4, e_X2_isChance_5, e_X2_isChance_8, e_X2_isChance_11, e_X2_isChance_12, e_X2_isChance_15, e_X2_isChance_16, zcll_s, zpush_s, zpush_n, zinv_i, zinv_l, zinv_r, zinv_x, zcats_nil, zcats_i, zcats_l, zcats_r, zcats_x, Nat.le_refl, and_self, true_and, and_true, zok_1, zok_20, zok_21, eq_self, Nat.reduceAdd, Nat.reduceLeDiff, Nat.zero_le, if_true, if_false]
  split
  · rw [zB_f (by omega)]
  · split
    · rw [zB_f (by omega)]
    · rw [zB_t (by omega)]
theorem k_power (hR : Rok R) (hO : Odd L) (b k : Int) (hb0 : 0 ≤ b) (hb : b ≤ 10) (hk0 : 0 ≤ k) (hk : k ≤ 16) : zrun X (d + 1) 22 [zr (some 277), zi b, zi k] (c, s, I, L, R) = some (some (zl (b ^ k.toNat)), (c, s, I, L, R)) := by
  refine st_X2_power ?_
  obtain ⟨b, rfl⟩ := Int.eq_ofNat_of_zero_le hb0
  simp (disch := omega) only [e_X2_power_0, e_X2_power_1, e_X2_power_4, e_X2_power_5, e_X2_power_7, e_X2_power_10, e_X2_power_11, e_X2_power_14, e_X2_power_15, e_X2_power_17, e_X2_power_20, e_X2_power_20x, e_X2_power_21, e_X2_power_24, e_X2_power_25, e_X2_power_26, e_X2_power_27, e_X2_power_28, e_X2_power_31, e_X2_power_32, zcll_s, zpush_s, zpush_n, zinv_i, zinv_l, zinv_r, zinv_x, zcats_nil, zcats_i, zcats_l, zcats_r, zcats_x, Nat.le_refl, and_self, true_and, and_true, zok_1, zok_20, zok_21, eq_self, Nat.reduceAdd, Nat.reduceLeDiff, Nat.zero_le, if_true, if_false, zw3_id, if_pos, if_neg, tg_277, tg_278, tn_278, rr_277_0 hR, rr_pow hR, tt_pow, Int.toNat_natCast]
  rw [hO.1 b k.toNat (by omega) (by omega)]
  refine ⟨by omega, ?_⟩
  refine ⟨by omega, rfl⟩
theorem k_choose (hR : Rok R) (hO : Odd L) (m k : Int) (hm0 : 0 ≤ m) (hm : m ≤ 14) (hk0 : 0 ≤ k) (hk : k ≤ m) : zrun X (d + 1) 23 [zr (some 277), zi m, zi k] (c, s, I, L, R) = some (some (zl (zch m.toNat k.toNat)), (c, s, I, L, R)) := by
  refine st_X2_choose ?_
  obtain ⟨m, rfl⟩ := Int.eq_ofNat_of_zero_le hm0
  simp (disch := omega) only [e_X2_choose_0, e_X2_choose_1, e_X2_choose_4, e_X2_choose_5, e_X2_choose_7, e_X2_choose_10, e_X2_choose_11, e_X2_choose_14, e_X2_choose_15, e_X2_choose_16, e_X2_choose_19, e_X2_choose_19x, e_X2_choose_20, e_X2_choose_23, e_X2_choose_24, e_X2_choose_25, e_X2_choose_26, e_X2_choose_27, e_X2_choose_30, e_X2_choose_31, zcll_s, zpush_s, zpush_n, zinv_i, zinv_l, zinv_r, zinv_x, zcats_nil, zcats_i, zcats_l, zcats_r, zcats_x, Nat.le_refl, and_self, true_and, and_true, zok_1, zok_20, zok_21, eq_self, Nat.reduceAdd, Nat.reduceLeDiff, Nat.zero_le, if_true, if_false, zw3_id, if_pos, if_neg, tg_277, tg_290, tn_290, rr_277_1 hR, rr_cho hR, tt_cho, Int.toNat_natCast]
  rw [hO.2 m k.toNat (by omega) (by omega)]
  refine ⟨by omega, ?_⟩
  refine ⟨by omega, rfl⟩
theorem q_casesOf (hR : Rok R) (hO : Odd L) (m a b t : Int) (hm0 : 0 ≤ m) (hm : m ≤ 14) (ht0 : 0 ≤ t) (ht : t ≤ 10) (hb : b ≤ m) : ∀ (j : Nat) (k p : Int), (b + 1 - k).toNat = j → 0 ≤ k → V X (zrun X (d + 1)) mX2_casesOf 6 [zr (some 277), zi a, zi b, zi m, zi t, zl p, zx 0, zi k] [] (c, s, I, L, R) (fun q => q = (some (zl (zcs m t j k p)), (c, s, I, L, R))) := by
  intro j
  induction j with
  | zero =>
    intro k p h h0
    rw [e_X2_casesOf_6]
    simp (disch := omega) only [e_X2_casesOf_0, e_X2_casesOf_1, e_X2_casesOf_3, e_X2_casesOf_4, e_X2_casesOf_8, e_X2_casesOf_9, e_X2_casesOf_12, e_X2_casesOf_14, e_X2_casesOf_14x, e_X2_casesOf_15, e_X2_casesOf_16, e_X2_casesOf_18, e_X2_casesOf_21, e_X2_casesOf_21x, e_X2_casesOf_22, e_X2_casesOf_24, e_X2_casesOf_26, e_X2_casesOf_29, e_X2_casesOf_30, e_X2_casesOf_30x, e_X2_casesOf_31, e_X2_casesOf_33, e_X2_casesOf_35, e_X2_casesOf_36, e_X2_casesOf_37, e_X2_casesOf_39, e_X2_casesOf_40, e_X2_casesOf_43, e_X2_casesOf_44, e_X2_casesOf_45, e_X2_casesOf_47, e_X2_casesOf_50, e_X2_casesOf_53, e_X2_casesOf_55, zcll_s, zpush_s, zpush_n, zinv_i, zinv_l, zinv_r, zinv_x, zcats_nil, zcats_i, zcats_l, zcats_r, zcats_x, Nat.le_refl, and_self, true_and, and_true, zok_1, zok_20, zok_21, eq_self, Nat.reduceAdd, Nat.reduceLeDiff, Nat.zero_le, if_true, if_false, zw3_id, if_pos, if_neg]
    rfl
  | succ j ih =>
    intro k p h h0
    rw [e_X2_casesOf_6]
    simp (disch := omega) only [e_X2_casesOf_0, e_X2_casesOf_1, e_X2_casesOf_3, e_X2_casesOf_4, e_X2_casesOf_8, e_X2_casesOf_9, e_X2_casesOf_12, e_X2_casesOf_14, e_X2_casesOf_14x, e_X2_casesOf_15, e_X2_casesOf_16, e_X2_casesOf_18, e_X2_casesOf_21, e_X2_casesOf_21x, e_X2_casesOf_22, e_X2_casesOf_24, e_X2_casesOf_26, e_X2_casesOf_29, e_X2_casesOf_30, e_X2_casesOf_30x, e_X2_casesOf_31, e_X2_casesOf_33, e_X2_casesOf_35, e_X2_casesOf_36, e_X2_casesOf_37, e_X2_casesOf_39, e_X2_casesOf_40, e_X2_casesOf_43, e_X2_casesOf_44, e_X2_casesOf_45, e_X2_casesOf_47, e_X2_casesOf_50, e_X2_casesOf_53, e_X2_casesOf_55, zcll_s, zpush_s, zpush_n, zinv_i, zinv_l, zinv_r, zinv_x, zcats_nil, zcats_i, zcats_l, zcats_r, zcats_x, Nat.le_refl, and_self, true_and, and_true, zok_1, zok_20, zok_21, eq_self, Nat.reduceAdd, Nat.reduceLeDiff, Nat.zero_le, if_true, if_false, zw3_id, if_pos, if_neg, tg_277, k_choose hR hO, k_power hR hO]
    have h1 := ih (k + 1) (zw6 (p + ztm m k t)) (by omega) (by omega)
    rw [zw6_mul_l]
    exact h1
theorem k_casesOf (hR : Rok R) (hO : Odd L) (m a b t : Int) (hm0 : 0 ≤ m) (hm : m ≤ 14) (ht0 : 0 ≤ t) (ht : t ≤ 10) (hb : b ≤ m) (ha : 0 ≤ a) : zrun X (d + 2) 21 [zr (some 277), zi a, zi b, zi m, zi t] (c, s, I, L, R) = some (some (zl (zcf m a b t)), (c, s, I, L, R)) := by
  refine st_X2_casesOf ?_
  simp (disch := omega) only [e_X2_casesOf_0, e_X2_casesOf_1, e_X2_casesOf_3, e_X2_casesOf_4, e_X2_casesOf_8, e_X2_casesOf_9, e_X2_casesOf_12, e_X2_casesOf_14, e_X2_casesOf_14x, e_X2_casesOf_15, e_X2_casesOf_16, e_X2_casesOf_18, e_X2_casesOf_21, e_X2_casesOf_21x, e_X2_casesOf_22, e_X2_casesOf_24, e_X2_casesOf_26, e_X2_casesOf_29, e_X2_casesOf_30, e_X2_casesOf_30x, e_X2_casesOf_31, e_X2_casesOf_33, e_X2_casesOf_35, e_X2_casesOf_36, e_X2_casesOf_37, e_X2_casesOf_39, e_X2_casesOf_40, e_X2_casesOf_43, e_X2_casesOf_44, e_X2_casesOf_45, e_X2_casesOf_47, e_X2_casesOf_50, e_X2_casesOf_53, e_X2_casesOf_55, zcll_s, zpush_s, zpush_n, zinv_i, zinv_l, zinv_r, zinv_x, zcats_nil, zcats_i, zcats_l, zcats_r, zcats_x, Nat.le_refl, and_self, true_and, and_true, zok_1, zok_20, zok_21, eq_self, Nat.reduceAdd, Nat.reduceLeDiff, Nat.zero_le, if_true, if_false, zw3_id, if_pos, if_neg]
  exact q_casesOf (X := X) (d := d) hR hO m a b t hm0 hm ht0 ht hb (b + 1 - a).toNat a 0 (by omega) (by omega)
theorem k_isWithin (hR : Rok R) (hO : Odd L) (cs m a : Int) (hm0 : 0 ≤ m) (hm : m ≤ 14) : zrun X (d + 2) 20 [zr (some 277), zl cs, zi m, zi a] (c, s, I, L, R) = some (some (zi (zB (zwi m cs a))), (c, s, I, L, R)) := by
  refine st_X2_isWithin ?_
  simp (disch := omega) only [e_X2_isWithin_0, e_X2_isWithin_1, e_X2_isWithin_4, e_X2_isWithin_5, e_X2_isWithin_7, e_X2_isWithin_8, e_X2_isWithin_8x, e_X2_isWithin_9, e_X2_isWithin_11, e_X2_isWithin_12, e_X2_isWithin_15, e_X2_isWithin_16, e_X2_isWithin_17, e_X2_isWithin_20, e_X2_isWithin_21, e_X2_isWithin_24, e_X2_isWithin_25, zcll_s, zpush_s, zpush_n, zinv_i, zinv_l, zinv_r, zinv_x, zcats_nil, zcats_i, zcats_l, zcats_r, zcats_x, Nat.le_refl, and_self, true_and, and_true, zok_1, zok_20, zok_21, eq_self, Nat.reduceAdd, Nat.reduceLeDiff, Nat.zero_le, if_true, if_false, zw3_id, if_pos, if_neg, tg_277, k_power hR hO, zcmpl_gt]
  split
  · rename_i h
    rw [zB_f]
    unfold zwi
    rw [zw6_mul_r]
    exact Int.not_le.mpr h
  · rename_i h
    rw [zB_t]
    unfold zwi
    rw [zw6_mul_r]
    exact Int.not_lt.mp h
theorem q_low (hR : Rok R) (hO : Odd L) (h m a : Int) (hm : m ≤ 14) (hh : 0 < h) (hhm : h ≤ m) : ∀ (j : Nat), j ≤ 10 → V X (zrun X (d + 2)) mX2_low 10 [zr (some 277), zi h, zi m, zi a, zi (j : Int)] [] (c, s, I, L, R) (fun q => q = (some (zi (zlo (fun t => zwi m (zcf m h m t) a) j)), (c, s, I, L, R))) := by
  intro j
  induction j with
  | zero =>
    intro hj
    rw [e_X2_low_10]
    simp (disch := omega) only [e_X2_low_0, e_X2_low_1, e_X2_low_4, e_X2_low_5, e_X2_low_6, e_X2_low_8, e_X2_low_12, e_X2_low_15, e_X2_low_15x, e_X2_low_16, e_X2_low_16x, e_X2_low_17, e_X2_low_18, e_X2_low_19, e_X2_low_20, e_X2_low_22, e_X2_low_25, e_X2_low_26, e_X2_low_27, e_X2_low_30, e_X2_low_33, e_X2_low_36, e_X2_low_39, e_X2_low_41, zcll_s, zpush_s, zpush_n, zinv_i, zinv_l, zinv_r, zinv_x, zcats_nil, zcats_i, zcats_l, zcats_r, zcats_x, Nat.le_refl, and_self, true_and, and_true, zok_1, zok_20, zok_21, eq_self, Nat.reduceAdd, Nat.reduceLeDiff, Nat.zero_le, if_true, if_false, zw3_id, if_pos, if_neg]
    rfl
  | succ j ih =>
    intro hj
    rw [e_X2_low_10]
    simp (disch := omega) only [e_X2_low_0, e_X2_low_1, e_X2_low_4, e_X2_low_5, e_X2_low_6, e_X2_low_8, e_X2_low_12, e_X2_low_15, e_X2_low_15x, e_X2_low_16, e_X2_low_16x, e_X2_low_17, e_X2_low_18, e_X2_low_19, e_X2_low_20, e_X2_low_22, e_X2_low_25, e_X2_low_26, e_X2_low_27, e_X2_low_30, e_X2_low_33, e_X2_low_36, e_X2_low_39, e_X2_low_41, zcll_s, zpush_s, zpush_n, zinv_i, zinv_l, zinv_r, zinv_x, zcats_nil, zcats_i, zcats_l, zcats_r, zcats_x, Nat.le_refl, and_self, true_and, and_true, zok_1, zok_20, zok_21, eq_self, Nat.reduceAdd, Nat.reduceLeDiff, Nat.zero_le, if_true, if_false, zw3_id, if_pos, if_neg, tg_277, k_casesOf hR hO, k_isWithin hR hO]
    have e : ((j + 1 : Nat) : Int) = (j : Int) + 1 := by omega
    unfold zlo
    by_cases hw : zwi m (zcf m h m ((j : Int) + 1)) a
    · rw [e, zB_t hw, if_pos (by omega), if_pos hw]
    · rw [e, zB_f hw, if_neg (by omega), if_neg hw]
      have h3 := ih (by omega)
      have e2 : (j : Int) + 1 + -1 = j := by omega
      rw [e2]
      exact h3
theorem k_low (hR : Rok R) (hO : Odd L) (h m a : Int) (hm : m ≤ 14) (hh : 0 ≤ h) (hhm : h ≤ m) : zrun X (d + 3) 16 [zr (some 277), zi h, zi m, zi a] (c, s, I, L, R) = some (some (zi (zlow h m a)), (c, s, I, L, R)) := by
  refine st_X2_low ?_
  unfold zlow
  by_cases h0 : h = 0
  · rw [if_pos h0]
    simp (disch := omega) only [e_X2_low_0, e_X2_low_1, e_X2_low_4, e_X2_low_5, e_X2_low_6, e_X2_low_8, e_X2_low_12, e_X2_low_15, e_X2_low_15x, e_X2_low_16, e_X2_low_16x, e_X2_low_17, e_X2_low_18, e_X2_low_19, e_X2_low_20, e_X2_low_22, e_X2_low_25, e_X2_low_26, e_X2_low_27, e_X2_low_30, e_X2_low_33, e_X2_low_36, e_X2_low_39, e_X2_low_41, zcll_s, zpush_s, zpush_n, zinv_i, zinv_l, zinv_r, zinv_x, zcats_nil, zcats_i, zcats_l, zcats_r, zcats_x, Nat.le_refl, and_self, true_and, and_true, zok_1, zok_20, zok_21, eq_self, Nat.reduceAdd, Nat.reduceLeDiff, Nat.zero_le, if_true, if_false, zw3_id, if_pos, if_neg]
  · rw [if_neg h0]
    simp (disch := omega) only [e_X2_low_0, e_X2_low_1, e_X2_low_4, e_X2_low_5, e_X2_low_6, e_X2_low_8, e_X2_low_12, e_X2_low_15, e_X2_low_15x, e_X2_low_16, e_X2_low_16x, e_X2_low_17, e_X2_low_18, e_X2_low_19, e_X2_low_20, e_X2_low_22, e_X2_low_25, e_X2_low_26, e_X2_low_27, e_X2_low_30, e_X2_low_33, e_X2_low_36, e_X2_low_39, e_X2_low_41, zcll_s, zpush_s, zpush_n, zinv_i, zinv_l, zinv_r, zinv_x, zcats_nil, zcats_i, zcats_l, zcats_r, zcats_x, Nat.le_refl, and_self, true_and, and_true, zok_1, zok_20, zok_21, eq_self, Nat.reduceAdd, Nat.reduceLeDiff, Nat.zero_le, if_true, if_false, zw3_id, if_pos, if_neg]
    exact q_low (X := X) (d := d) hR hO h m a hm (by omega) hhm 10 (by omega)
theorem q_high (hR : Rok R) (hO : Odd L) (h m a : Int) (hm : m ≤ 14) (hh : 0 ≤ h) (hhm : h < m) : ∀ (j : Nat), j ≤ 10 → V X (zrun X (d + 2)) mX2_high 11 [zr (some 277), zi h, zi m, zi a, zi (10 - (j : Int))] [] (c, s, I, L, R) (fun q => q = (some (zi (zhi (fun t => zwi m (zcf m 0 h t) a) j)), (c, s, I, L, R))) := by
  intro j
  induction j with
  | zero =>
    intro hj
    rw [e_X2_high_11]
    simp (disch := omega) only [e_X2_high_0, e_X2_high_1, e_X2_high_2, e_X2_high_5, e_X2_high_7, e_X2_high_8, e_X2_high_9, e_X2_high_13, e_X2_high_15, e_X2_high_18, e_X2_high_18x, e_X2_high_19, e_X2_high_19x, e_X2_high_20, e_X2_high_21, e_X2_high_22, e_X2_high_23, e_X2_high_25, e_X2_high_28, e_X2_high_29, e_X2_high_30, e_X2_high_33, e_X2_high_36, e_X2_high_39, e_X2_high_42, e_X2_high_44, zcll_s, zpush_s, zpush_n, zinv_i, zinv_l, zinv_r, zinv_x, zcats_nil, zcats_i, zcats_l, zcats_r, zcats_x, Nat.le_refl, and_self, true_and, and_true, zok_1, zok_20, zok_21, eq_self, Nat.reduceAdd, Nat.reduceLeDiff, Nat.zero_le, if_true, if_false, zw3_id, if_pos, if_neg]
    rfl
  | succ j ih =>
    intro hj
    rw [e_X2_high_11]
    simp (disch := omega) only [e_X2_high_0, e_X2_high_1, e_X2_high_2, e_X2_high_5, e_X2_high_7, e_X2_high_8, e_X2_high_9, e_X2_high_13, e_X2_high_15, e_X2_high_18, e_X2_high_18x, e_X2_high_19, e_X2_high_19x, e_X2_high_20, e_X2_high_21, e_X2_high_22, e_X2_high_23, e_X2_high_25, e_X2_high_28, e_X2_high_29, e_X2_high_30, e_X2_high_33, e_X2_high_36, e_X2_high_39, e_X2_high_42, e_X2_high_44, zcll_s, zpush_s, zpush_n, zinv_i, zinv_l, zinv_r, zinv_x, zcats_nil, zcats_i, zcats_l, zcats_r, zcats_x, Nat.le_refl, and_self, true_and, and_true, zok_1, zok_20, zok_21, eq_self, Nat.reduceAdd, Nat.reduceLeDiff, Nat.zero_le, if_true, if_false, zw3_id, if_pos, if_neg, tg_277, k_casesOf hR hO, k_isWithin hR hO]
    have e : 10 - ((j + 1 : Nat) : Int) = 9 - (j : Int) := by omega
    unfold zhi
    by_cases hw : zwi m (zcf m 0 h (9 - (j : Int))) a
    · rw [e, zB_t hw, if_pos (by omega), if_pos hw]
    · rw [e, zB_f hw, if_neg (by omega), if_neg hw]
      have h3 := ih (by omega)
      have e2 : 9 - (j : Int) + 1 = 10 - (j : Int) := by omega
      rw [e2]
      exact h3
theorem k_high (hR : Rok R) (hO : Odd L) (h m a : Int) (hm : m ≤ 14) (hh : 0 ≤ h) (hhm : h ≤ m) : zrun X (d + 3) 17 [zr (some 277), zi h, zi m, zi a] (c, s, I, L, R) = some (some (zi (zhigh h m a)), (c, s, I, L, R)) := by
  refine st_X2_high ?_
  unfold zhigh
  by_cases h0 : h = m
  · rw [if_pos h0]
    simp (disch := omega) only [e_X2_high_0, e_X2_high_1, e_X2_high_2, e_X2_high_5, e_X2_high_7, e_X2_high_8, e_X2_high_9, e_X2_high_13, e_X2_high_15, e_X2_high_18, e_X2_high_18x, e_X2_high_19, e_X2_high_19x, e_X2_high_20, e_X2_high_21, e_X2_high_22, e_X2_high_23, e_X2_high_25, e_X2_high_28, e_X2_high_29, e_X2_high_30, e_X2_high_33, e_X2_high_36, e_X2_high_39, e_X2_high_42, e_X2_high_44, zcll_s, zpush_s, zpush_n, zinv_i, zinv_l, zinv_r, zinv_x, zcats_nil, zcats_i, zcats_l, zcats_r, zcats_x, Nat.le_refl, and_self, true_and, and_true, zok_1, zok_20, zok_21, eq_self, Nat.reduceAdd, Nat.reduceLeDiff, Nat.zero_le, if_true, if_false, zw3_id, if_pos, if_neg]
  · rw [if_neg h0]
    simp (disch := omega) only [e_X2_high_0, e_X2_high_1, e_X2_high_2, e_X2_high_5, e_X2_high_7, e_X2_high_8, e_X2_high_9, e_X2_high_13, e_X2_high_15, e_X2_high_18, e_X2_high_18x, e_X2_high_19, e_X2_high_19x, e_X2_high_20, e_X2_high_21, e_X2_high_22, e_X2_high_23, e_X2_high_25, e_X2_high_28, e_X2_high_29, e_X2_high_30, e_X2_high_33, e_X2_high_36, e_X2_high_39, e_X2_high_42, e_X2_high_44, zcll_s, zpush_s, zpush_n, zinv_i, zinv_l, zinv_r, zinv_x, zcats_nil, zcats_i, zcats_l, zcats_r, zcats_x, Nat.le_refl, and_self, true_and, and_true, zok_1, zok_20, zok_21, eq_self, Nat.reduceAdd, Nat.reduceLeDiff, Nat.zero_le, if_true, if_false, zw3_id, if_pos, if_neg]
    exact q_high (X := X) (d := d) hR hO h m a hm (by omega) (by omega) 10 (by omega)
theorem q_missed (hR : Rok R) (hO : Odd L) (m t a : Int) (hm : m ≤ 14) (ht0 : 0 ≤ t) (ht : t ≤ 10) : ∀ (j : Nat) (h p : Int), (m + 1 - h).toNat = j → 0 ≤ h → zw6 p = p → V X (zrun X (d + 3)) mX2_missed 6 [zr (some 277), zi m, zi t, zi a, zl p, zx 0, zi h] [] (c, s, I, L, R) (fun q => q = (some (zl (zms m t a j h p)), (c, s, I, L, R))) := by
  intro j
  induction j with
  | zero =>
    intro h p h1 h2 hp
    rw [e_X2_missed_6]
    simp (disch := omega) only [e_X2_missed_0, e_X2_missed_1, e_X2_missed_3, e_X2_missed_4, e_X2_missed_8, e_X2_missed_9, e_X2_missed_12, e_X2_missed_12x, e_X2_missed_13, e_X2_missed_15, e_X2_missed_16, e_X2_missed_17, e_X2_missed_20, e_X2_missed_21, e_X2_missed_24, e_X2_missed_24x, e_X2_missed_25, e_X2_missed_27, e_X2_missed_28, e_X2_missed_29, e_X2_missed_32, e_X2_missed_33, e_X2_missed_36, e_X2_missed_38, e_X2_missed_38x, e_X2_missed_39, e_X2_missed_41, e_X2_missed_43, e_X2_missed_44, e_X2_missed_45, e_X2_missed_48, e_X2_missed_49, e_X2_missed_51, e_X2_missed_54, e_X2_missed_57, e_X2_missed_59, zcll_s, zpush_s, zpush_n, zinv_i, zinv_l, zinv_r, zinv_x, zcats_nil, zcats_i, zcats_l, zcats_r, zcats_x, Nat.le_refl, and_self, true_and, and_true, zok_1, zok_20, zok_21, eq_self, Nat.reduceAdd, Nat.reduceLeDiff, Nat.zero_le, if_true, if_false, zw3_id, if_pos, if_neg]
    rfl
  | succ j ih =>
    intro h p h1 h2 hp
    have e1 : zcf m h h t = zw6 (0 + ztm m h t) := by
      unfold zcf
      rw [show (h + 1 - h).toNat = 1 by omega]
      rfl
    rw [Int.zero_add, ztm_w] at e1
    rw [e_X2_missed_6]
    simp (disch := omega) only [e_X2_missed_0, e_X2_missed_1, e_X2_missed_3, e_X2_missed_4, e_X2_missed_8, e_X2_missed_9, e_X2_missed_12, e_X2_missed_12x, e_X2_missed_13, e_X2_missed_15, e_X2_missed_16, e_X2_missed_17, e_X2_missed_20, e_X2_missed_21, e_X2_missed_24, e_X2_missed_24x, e_X2_missed_25, e_X2_missed_27, e_X2_missed_28, e_X2_missed_29, e_X2_missed_32, e_X2_missed_33, e_X2_missed_36, e_X2_missed_38, e_X2_missed_38x, e_X2_missed_39, e_X2_missed_41, e_X2_missed_43, e_X2_missed_44, e_X2_missed_45, e_X2_missed_48, e_X2_missed_49, e_X2_missed_51, e_X2_missed_54, e_X2_missed_57, e_X2_missed_59, zcll_s, zpush_s, zpush_n, zinv_i, zinv_l, zinv_r, zinv_x, zcats_nil, zcats_i, zcats_l, zcats_r, zcats_x, Nat.le_refl, and_self, true_and, and_true, zok_1, zok_20, zok_21, eq_self, Nat.reduceAdd, Nat.reduceLeDiff, Nat.zero_le, if_true, if_false, zw3_id, if_pos, if_neg, tg_277, k_low hR hO, k_high hR hO, k_casesOf hR hO, e1]
    unfold zms
    split
    · rw [if_neg (by omega)]
      exact ih (h + 1) _ (by omega) (by omega) zw6_zw6
    · split
      · rw [if_pos (by omega)]
        exact ih (h + 1) _ (by omega) (by omega) hp
      · rw [if_neg (by omega)]
        exact ih (h + 1) _ (by omega) (by omega) zw6_zw6
theorem k_missed (hR : Rok R) (hO : Odd L) (m t a : Int) (hm0 : 0 ≤ m) (hm : m ≤ 14) (ht0 : 0 ≤ t) (ht : t ≤ 10) : zrun X (d + 4) 18 [zr (some 277), zi m, zi t, zi a] (c, s, I, L, R) = some (some (zl (zms m t a (m + 1).toNat 0 0)), (c, s, I, L, R)) := by
  refine st_X2_missed ?_
  simp (disch := omega) only [e_X2_missed_0, e_X2_missed_1, e_X2_missed_3, e_X2_missed_4, e_X2_missed_8, e_X2_missed_9, e_X2_missed_12, e_X2_missed_12x, e_X2_missed_13, e_X2_missed_15, e_X2_missed_16, e_X2_missed_17, e_X2_missed_20, e_X2_missed_21, e_X2_missed_24, e_X2_missed_24x, e_X2_missed_25, e_X2_missed_27, e_X2_missed_28, e_X2_missed_29, e_X2_missed_32, e_X2_missed_33, e_X2_missed_36, e_X2_missed_38, e_X2_missed_38x, e_X2_missed_39, e_X2_missed_41, e_X2_missed_43, e_X2_missed_44, e_X2_missed_45, e_X2_missed_48, e_X2_missed_49, e_X2_missed_51, e_X2_missed_54, e_X2_missed_57, e_X2_missed_59, zcll_s, zpush_s, zpush_n, zinv_i, zinv_l, zinv_r, zinv_x, zcats_nil, zcats_i, zcats_l, zcats_r, zcats_x, Nat.le_refl, and_self, true_and, and_true, zok_1, zok_20, zok_21, eq_self, Nat.reduceAdd, Nat.reduceLeDiff, Nat.zero_le, if_true, if_false, zw3_id, if_pos, if_neg]
  exact q_missed (X := X) (d := d) hR hO m t a hm ht0 ht _ 0 0 (by omega) (by omega) zw6_0
/-- the odds' answer: by q, by p -/
def zvd (h m p q b : Int) : Int := if zw6 (b * zw6 (zw6 (p ^ h.toNat) * zw6 ((10 - p) ^ (m - h).toNat))) ≤ zw6 (zw6 (q ^ h.toNat) * zw6 ((10 - q) ^ (m - h).toNat)) then 1 else if zw6 (b * zw6 (zw6 (q ^ h.toNat) * zw6 ((10 - q) ^ (m - h).toNat))) ≤ zw6 (zw6 (p ^ h.toNat) * zw6 ((10 - p) ^ (m - h).toNat)) then 0 else -1
theorem k_verdict (hR : Rok R) (hO : Odd L) (h m p q b : Int) (hh : 0 ≤ h) (hm : h ≤ m) (hm1 : m ≤ 16) (hp : 0 ≤ p) (hp1 : p ≤ 10) (hq : 0 ≤ q) (hq1 : q ≤ 10) : zrun X (d + 2) 19 [zr (some 277), zi h, zi m, zi p, zi q, zi b] (c, s, I, L, R) = some (some (zi (zvd h m p q b)), (c, s, I, L, R)) := by
  refine st_X2_verdict ?_
  simp (disch := omega) only [e_X2_verdict_0, e_X2_verdict_0x, e_X2_verdict_1, e_X2_verdict_3, e_X2_verdict_4, e_X2_verdict_7, e_X2_verdict_7x, e_X2_verdict_8, e_X2_verdict_10, e_X2_verdict_12, e_X2_verdict_13, e_X2_verdict_14, e_X2_verdict_15, e_X2_verdict_16, e_X2_verdict_19, e_X2_verdict_20, e_X2_verdict_22, e_X2_verdict_22x, e_X2_verdict_23, e_X2_verdict_24, e_X2_verdict_25, e_X2_verdict_28, e_X2_verdict_28x, e_X2_verdict_29, e_X2_verdict_31, e_X2_verdict_32, e_X2_verdict_33, e_X2_verdict_34, e_X2_verdict_35, e_X2_verdict_36, e_X2_verdict_39, e_X2_verdict_40, e_X2_verdict_42, e_X2_verdict_44, e_X2_verdict_46, e_X2_verdict_47, e_X2_verdict_49, e_X2_verdict_50, e_X2_verdict_51, e_X2_verdict_54, e_X2_verdict_55, e_X2_verdict_56, e_X2_verdict_58, e_X2_verdict_60, e_X2_verdict_61, e_X2_verdict_63, e_X2_verdict_64, e_X2_verdict_65, e_X2_verdict_68, e_X2_verdict_69, e_X2_verdict_72, e_X2_verdict_73, zcll_s, zpush_s, zpush_n, zinv_i, zinv_l, zinv_r, zinv_x, zcats_nil, zcats_i, zcats_l, zcats_r, zcats_x, Nat.le_refl, and_self, true_and, and_true, zok_1, zok_20, zok_21, eq_self, Nat.reduceAdd, Nat.reduceLeDiff, Nat.zero_le, if_true, if_false, zw3_id, if_pos, if_neg, tg_277, k_power hR hO, zcmpl_lt]
  unfold zvd
  simp only [zw6_mul_l, zw6_mul_r]
  (repeat' split) <;> first | rfl | (exfalso; omega)
end
