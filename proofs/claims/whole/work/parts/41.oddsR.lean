/-! Exact sums: the reference. -/
theorem zw6_zw6 {x : Int} : zw6 (zw6 x) = zw6 x := by unfold zw6; omega
theorem zw3_zw3 {x : Int} : zw3 (zw3 x) = zw3 x := by unfold zw3; omega
theorem zw6_e {x y : Int} : zw6 x = zw6 y ↔ x % 18446744073709551616 = y % 18446744073709551616 := by unfold zw6; omega
theorem zw6_m {x : Int} : zw6 x % 18446744073709551616 = x % 18446744073709551616 := by unfold zw6; omega
theorem zw6_mul_l {x y : Int} : zw6 (zw6 x * y) = zw6 (x * y) := by
  rw [zw6_e, Int.mul_emod, zw6_m, ← Int.mul_emod]
theorem zw6_mul_r {x y : Int} : zw6 (x * zw6 y) = zw6 (x * y) := by
  rw [zw6_e, Int.mul_emod, zw6_m, ← Int.mul_emod]
theorem zw6_add_l {x y : Int} : zw6 (zw6 x + y) = zw6 (x + y) := by
  rw [zw6_e]; have := @zw6_m x; omega
theorem zw6_add_r {x y : Int} : zw6 (x + zw6 y) = zw6 (x + y) := by
  rw [zw6_e]; have := @zw6_m y; omega
theorem zw6_mul_3 {x y z : Int} : zw6 (x * zw6 y * z) = zw6 (x * y * z) := by
  rw [Int.mul_assoc, Int.mul_comm (zw6 y), ← Int.mul_assoc, zw6_mul_r, Int.mul_assoc, Int.mul_comm z, ← Int.mul_assoc]
theorem zw6_1 : zw6 1 = 1 := by decide
theorem zw6_0 : zw6 0 = 0 := by decide
def zch : Nat → Nat → Nat
  | _, 0 => 1
  | 0, _ + 1 => 0
  | m + 1, k + 1 => zch m k + zch m (k + 1)
theorem zch_n : ∀ m, m < 15 → ∀ i, i < 15 → i < m → zch m i * (m - i) / (i + 1) = zch m (i + 1) ∧ zch m i < 4000 := by decide +kernel
/-- how many cases of k in m at t tenths, as longs hold it -/
def ztm (m k t : Int) : Int := zw6 (zch m.toNat k.toNat * t ^ k.toNat * (10 - t) ^ (m - k).toNat)
/-- j of them from k on, onto p -/
def zcs (m t : Int) : Nat → Int → Int → Int
  | 0, _, p => p
  | j + 1, k, p => zcs m t j (k + 1) (zw6 (p + ztm m k t))
/-- the cases of k from a to b -/
def zcf (m a b t : Int) : Int := zcs m t (b + 1 - a).toNat a 0
def zwi (m cs a : Int) : Prop := zw6 (cs * 1000) ≤ zw6 (a * zw6 (10 ^ m.toNat))
/-- the greatest t of at most n where P is, or 0 -/
noncomputable def zlo (P : Int → Prop) : Nat → Int
  | 0 => 0
  | n + 1 => @ite _ (P ((n : Int) + 1)) (Classical.propDecidable _) ((n : Int) + 1) (zlo P n)
/-- the smallest t of at least 10 - n where P is, or 10 -/
noncomputable def zhi (P : Int → Prop) : Nat → Int
  | 0 => 10
  | n + 1 => @ite _ (P (9 - (n : Int))) (Classical.propDecidable _) (9 - (n : Int)) (zhi P n)
noncomputable def zlow (h m a : Int) : Int := if h = 0 then 0 else zlo (fun t => zwi m (zcf m h m t) a) 10
noncomputable def zhigh (h m a : Int) : Int := if h = m then 10 else zhi (fun t => zwi m (zcf m 0 h t) a) 10
noncomputable def zms (m t a : Int) : Nat → Int → Int → Int
  | 0, _, p => p
  | j + 1, h, p => zms m t a j (h + 1) (if zlow h m a ≤ t ∧ t ≤ zhigh h m a then p else zw6 (p + ztm m h t))
theorem ztm_w {m k t : Int} : zw6 (ztm m k t) = ztm m k t := zw6_zw6
section
variable {X : ZX} {d c s : Nat} {I L : ZI} {R : ZR} {call : ZC}
theorem p_power (v n : Int) (hn : n < 2147483648) : ∀ (j : Nat) (k p : Int), (n - k).toNat = j → 0 ≤ k → zw6 p = p → V X call mX12_power 5 [zl v, zx 0, zi n, zl p, zx 0, zi k] [] (c, s, I, L, R) (fun q => q = (some (zl (zw6 (p * v ^ j))), (c, s, I, L, R))) := by
  intro j
  induction j with
  | zero =>
    intro k p h h0 hp
    rw [e_X12_power_5]
    simp only [e_X12_power_0, e_X12_power_1, e_X12_power_2, e_X12_power_3, e_X12_power_7, e_X12_power_8, e_X12_power_11, e_X12_power_12, e_X12_power_13, e_X12_power_14, e_X12_power_15, e_X12_power_18, e_X12_power_21, e_X12_power_22, zcll_s, zpush_s, zpush_n, zinv_i, zinv_l, zinv_r, zinv_x, zcats_nil, zcats_i, zcats_l, zcats_r, zcats_x, Nat.le_refl, and_self, true_and, and_true, zok_1, zok_20, zok_21, eq_self, Nat.reduceAdd, Nat.reduceLeDiff, Nat.zero_le, if_true, if_false]
    rw [if_pos (by omega), Int.pow_zero, Int.mul_one, hp]
  | succ j ih =>
    intro k p h h0 hp
    rw [e_X12_power_5]
    simp only [e_X12_power_0, e_X12_power_1, e_X12_power_2, e_X12_power_3, e_X12_power_7, e_X12_power_8, e_X12_power_11, e_X12_power_12, e_X12_power_13, e_X12_power_14, e_X12_power_15, e_X12_power_18, e_X12_power_21, e_X12_power_22, zcll_s, zpush_s, zpush_n, zinv_i, zinv_l, zinv_r, zinv_x, zcats_nil, zcats_i, zcats_l, zcats_r, zcats_x, Nat.le_refl, and_self, true_and, and_true, zok_1, zok_20, zok_21, eq_self, Nat.reduceAdd, Nat.reduceLeDiff, Nat.zero_le, if_true, if_false]
    rw [if_neg (by omega), zw3_id (by omega) (by omega)]
    have h1 := ih (k + 1) (zw6 (p * v)) (by omega) (by omega) zw6_zw6
    rw [zw6_mul_l, Int.mul_assoc, ← Int.mul_comm (v ^ j) v, ← Int.pow_succ] at h1
    exact h1
theorem c_power (v n : Int) (hn : n < 2147483648) : zrun X (d + 1) 164 [zl v, zi n] (c, s, I, L, R) = some (some (zl (zw6 (v ^ n.toNat))), (c, s, I, L, R)) := by
  refine st_X12_power ?_
  simp only [e_X12_power_0, e_X12_power_1, e_X12_power_2, e_X12_power_3, e_X12_power_7, e_X12_power_8, e_X12_power_11, e_X12_power_12, e_X12_power_13, e_X12_power_14, e_X12_power_15, e_X12_power_18, e_X12_power_21, e_X12_power_22, zcll_s, zpush_s, zpush_n, zinv_i, zinv_l, zinv_r, zinv_x, zcats_nil, zcats_i, zcats_l, zcats_r, zcats_x, Nat.le_refl, and_self, true_and, and_true, zok_1, zok_20, zok_21, eq_self, Nat.reduceAdd, Nat.reduceLeDiff, Nat.zero_le, if_true, if_false]
  have h := p_power (X := X) (call := zrun X d) (c := c) (s := s) (I := I) (L := L) (R := R) v n hn n.toNat 0 1 (by omega) (by omega) zw6_1
  rw [Int.one_mul] at h
  exact h
theorem p_cases (m k t : Int) (hm : m ≤ 14) (hk : k ≤ m) (h0 : 0 ≤ k) (ht0 : 0 ≤ t) (ht : t ≤ 10) : ∀ (j : Nat) (i : Int), (k + 1 - i).toNat = j → 1 ≤ i → i ≤ k + 1 → V X (zrun X (d + 1)) mX12_cases 5 [zi m, zi k, zi t, zl (zch m.toNat (i - 1).toNat), zx 0, zi i] [] (c, s, I, L, R) (fun q => q = (some (zl (ztm m k t)), (c, s, I, L, R))) := by
  intro j
  induction j with
  | zero =>
    intro i h h1 h2
    have e : i - 1 = k := by omega
    rw [e_X12_cases_5]
    simp (disch := omega) only [e_X12_cases_0, e_X12_cases_1, e_X12_cases_2, e_X12_cases_3, e_X12_cases_7, e_X12_cases_8, e_X12_cases_11, e_X12_cases_12, e_X12_cases_13, e_X12_cases_15, e_X12_cases_16, e_X12_cases_17, e_X12_cases_18, e_X12_cases_19, e_X12_cases_20, e_X12_cases_22, e_X12_cases_23, e_X12_cases_24, e_X12_cases_25, e_X12_cases_28, e_X12_cases_31, e_X12_cases_32, e_X12_cases_33, e_X12_cases_34, e_X12_cases_35, e_X12_cases_38, e_X12_cases_39, e_X12_cases_41, e_X12_cases_42, e_X12_cases_43, e_X12_cases_44, e_X12_cases_45, e_X12_cases_46, e_X12_cases_47, e_X12_cases_50, e_X12_cases_51, zcll_s, zpush_s, zpush_n, zinv_i, zinv_l, zinv_r, zinv_x, zcats_nil, zcats_i, zcats_l, zcats_r, zcats_x, Nat.le_refl, and_self, true_and, and_true, zok_1, zok_20, zok_21, eq_self, Nat.reduceAdd, Nat.reduceLeDiff, Nat.zero_le, if_true, if_false, zw3_id, if_pos, if_neg, c_power, e]
    unfold ztm
    rw [zw6_mul_r, zw6_mul_l, zw6_mul_3]
  | succ j ih =>
    intro i h h1 h2
    rw [e_X12_cases_5]
    simp (disch := omega) only [e_X12_cases_0, e_X12_cases_1, e_X12_cases_2, e_X12_cases_3, e_X12_cases_7, e_X12_cases_8, e_X12_cases_11, e_X12_cases_12, e_X12_cases_13, e_X12_cases_15, e_X12_cases_16, e_X12_cases_17, e_X12_cases_18, e_X12_cases_19, e_X12_cases_20, e_X12_cases_22, e_X12_cases_23, e_X12_cases_24, e_X12_cases_25, e_X12_cases_28, e_X12_cases_31, e_X12_cases_32, e_X12_cases_33, e_X12_cases_34, e_X12_cases_35, e_X12_cases_38, e_X12_cases_39, e_X12_cases_41, e_X12_cases_42, e_X12_cases_43, e_X12_cases_44, e_X12_cases_45, e_X12_cases_46, e_X12_cases_47, e_X12_cases_50, e_X12_cases_51, zcll_s, zpush_s, zpush_n, zinv_i, zinv_l, zinv_r, zinv_x, zcats_nil, zcats_i, zcats_l, zcats_r, zcats_x, Nat.le_refl, and_self, true_and, and_true, zok_1, zok_20, zok_21, eq_self, Nat.reduceAdd, Nat.reduceLeDiff, Nat.zero_le, if_true, if_false, zw3_id, if_pos, if_neg]
    have e := (zch_n m.toNat (by omega) (i - 1).toNat (by omega) (by omega))
    have h3 := ih (i + 1) (by omega) (by omega) (by omega)
    have e2 : zdiv6 (zw6 (↑(zch m.toNat (i - 1).toNat) * (m - i + 1))) i = ↑(zch m.toNat (i + 1 - 1).toNat) := by
      have e3 : (m - i + 1 : Int) = ((m.toNat - (i - 1).toNat : Nat) : Int) := by omega
      have e4 : (i + 1 - 1).toNat = (i - 1).toNat + 1 := by omega
      have e5 : i = (((i - 1).toNat + 1 : Nat) : Int) := by omega
      have e6 : zch m.toNat (i - 1).toNat * (m.toNat - (i - 1).toNat) ≤ 4000 * 15 := Nat.mul_le_mul (by omega) (by omega)
      rw [e3, ← Int.natCast_mul, zw6_id (by omega) (by omega), zq_div6 (by unfold zi6; omega) (by omega) (by omega) (by unfold zi6; omega), e4, ← e.1, Int.natCast_ediv, ← e5]
    rw [e2]
    exact ⟨by omega, h3⟩
theorem c_cases (m k t : Int) (hm : m ≤ 14) (hk : k ≤ m) (h0 : 0 ≤ k) (ht0 : 0 ≤ t) (ht : t ≤ 10) : zrun X (d + 2) 165 [zi m, zi k, zi t] (c, s, I, L, R) = some (some (zl (ztm m k t)), (c, s, I, L, R)) := by
  refine st_X12_cases ?_
  simp (disch := omega) only [e_X12_cases_0, e_X12_cases_1, e_X12_cases_2, e_X12_cases_3, e_X12_cases_7, e_X12_cases_8, e_X12_cases_11, e_X12_cases_12, e_X12_cases_13, e_X12_cases_15, e_X12_cases_16, e_X12_cases_17, e_X12_cases_18, e_X12_cases_19, e_X12_cases_20, e_X12_cases_22, e_X12_cases_23, e_X12_cases_24, e_X12_cases_25, e_X12_cases_28, e_X12_cases_31, e_X12_cases_32, e_X12_cases_33, e_X12_cases_34, e_X12_cases_35, e_X12_cases_38, e_X12_cases_39, e_X12_cases_41, e_X12_cases_42, e_X12_cases_43, e_X12_cases_44, e_X12_cases_45, e_X12_cases_46, e_X12_cases_47, e_X12_cases_50, e_X12_cases_51, zcll_s, zpush_s, zpush_n, zinv_i, zinv_l, zinv_r, zinv_x, zcats_nil, zcats_i, zcats_l, zcats_r, zcats_x, Nat.le_refl, and_self, true_and, and_true, zok_1, zok_20, zok_21, eq_self, Nat.reduceAdd, Nat.reduceLeDiff, Nat.zero_le, if_true, if_false, zw3_id, if_pos, if_neg]
  have h := p_cases (X := X) (d := d) (c := c) (s := s) (I := I) (L := L) (R := R) m k t hm hk h0 ht0 ht k.toNat 1 (by omega) (by omega) (by omega)
  have e : zch m.toNat ((1 : Int) - 1).toNat = 1 := by unfold zch; rfl
  rw [e] at h
  exact h
theorem p_casesFrom (m a b t : Int) (hm : m ≤ 14) (ht0 : 0 ≤ t) (ht : t ≤ 10) (hb : b ≤ m) : ∀ (j : Nat) (k p : Int), (b + 1 - k).toNat = j → 0 ≤ k → V X (zrun X (d + 2)) mX12_casesFrom 6 [zi m, zi a, zi b, zi t, zl p, zx 0, zi k] [] (c, s, I, L, R) (fun q => q = (some (zl (zcs m t j k p)), (c, s, I, L, R))) := by
  intro j
  induction j with
  | zero =>
    intro k p h h0
    rw [e_X12_casesFrom_6]
    simp (disch := omega) only [e_X12_casesFrom_0, e_X12_casesFrom_1, e_X12_casesFrom_3, e_X12_casesFrom_4, e_X12_casesFrom_8, e_X12_casesFrom_9, e_X12_casesFrom_12, e_X12_casesFrom_14, e_X12_casesFrom_15, e_X12_casesFrom_17, e_X12_casesFrom_18, e_X12_casesFrom_21, e_X12_casesFrom_22, e_X12_casesFrom_24, e_X12_casesFrom_27, e_X12_casesFrom_30, e_X12_casesFrom_32, zcll_s, zpush_s, zpush_n, zinv_i, zinv_l, zinv_r, zinv_x, zcats_nil, zcats_i, zcats_l, zcats_r, zcats_x, Nat.le_refl, and_self, true_and, and_true, zok_1, zok_20, zok_21, eq_self, Nat.reduceAdd, Nat.reduceLeDiff, Nat.zero_le, if_true, if_false, zw3_id, if_pos, if_neg]
    rfl
  | succ j ih =>
    intro k p h h0
    rw [e_X12_casesFrom_6]
    simp (disch := omega) only [e_X12_casesFrom_0, e_X12_casesFrom_1, e_X12_casesFrom_3, e_X12_casesFrom_4, e_X12_casesFrom_8, e_X12_casesFrom_9, e_X12_casesFrom_12, e_X12_casesFrom_14, e_X12_casesFrom_15, e_X12_casesFrom_17, e_X12_casesFrom_18, e_X12_casesFrom_21, e_X12_casesFrom_22, e_X12_casesFrom_24, e_X12_casesFrom_27, e_X12_casesFrom_30, e_X12_casesFrom_32, zcll_s, zpush_s, zpush_n, zinv_i, zinv_l, zinv_r, zinv_x, zcats_nil, zcats_i, zcats_l, zcats_r, zcats_x, Nat.le_refl, and_self, true_and, and_true, zok_1, zok_20, zok_21, eq_self, Nat.reduceAdd, Nat.reduceLeDiff, Nat.zero_le, if_true, if_false, zw3_id, if_pos, if_neg, c_cases]
    exact ih (k + 1) (zw6 (p + ztm m k t)) (by omega) (by omega)
theorem c_casesFrom (m a b t : Int) (hm : m ≤ 14) (ht0 : 0 ≤ t) (ht : t ≤ 10) (hb : b ≤ m) (ha : 0 ≤ a) : zrun X (d + 3) 166 [zi m, zi a, zi b, zi t] (c, s, I, L, R) = some (some (zl (zcf m a b t)), (c, s, I, L, R)) := by
  refine st_X12_casesFrom ?_
  simp (disch := omega) only [e_X12_casesFrom_0, e_X12_casesFrom_1, e_X12_casesFrom_3, e_X12_casesFrom_4, e_X12_casesFrom_8, e_X12_casesFrom_9, e_X12_casesFrom_12, e_X12_casesFrom_14, e_X12_casesFrom_15, e_X12_casesFrom_17, e_X12_casesFrom_18, e_X12_casesFrom_21, e_X12_casesFrom_22, e_X12_casesFrom_24, e_X12_casesFrom_27, e_X12_casesFrom_30, e_X12_casesFrom_32, zcll_s, zpush_s, zpush_n, zinv_i, zinv_l, zinv_r, zinv_x, zcats_nil, zcats_i, zcats_l, zcats_r, zcats_x, Nat.le_refl, and_self, true_and, and_true, zok_1, zok_20, zok_21, eq_self, Nat.reduceAdd, Nat.reduceLeDiff, Nat.zero_le, if_true, if_false, zw3_id, if_pos, if_neg]
  exact p_casesFrom (X := X) (d := d) (c := c) (s := s) (I := I) (L := L) (R := R) m a b t hm ht0 ht hb (b + 1 - a).toNat a 0 (by omega) (by omega)
theorem p_low (h m a : Int) (hm : m ≤ 14) (hh : 0 < h) (hhm : h ≤ m) : ∀ (j : Nat) (t p : Int), (11 - t).toNat = j → 1 ≤ t → t ≤ 11 → p = zlo (fun t => zwi m (zcf m h m t) a) (t - 1).toNat → V X (zrun X (d + 3)) mX12_low 5 [zi h, zi m, zi a, zi p, zi t] [] (c, s, I, L, R) (fun q => q = (some (zi (zlo (fun t => zwi m (zcf m h m t) a) 10)), (c, s, I, L, R))) := by
  intro j
  induction j with
  | zero =>
    intro t p h1 h2 h3 h4
    have e : t = 11 := by omega
    subst e
    rw [e_X12_low_5]
    simp (disch := omega) only [e_X12_low_0, e_X12_low_1, e_X12_low_2, e_X12_low_3, e_X12_low_7, e_X12_low_9, e_X12_low_12, e_X12_low_13, e_X12_low_16, e_X12_low_17, e_X12_low_18, e_X12_low_19, e_X12_low_21, e_X12_low_24, e_X12_low_27, e_X12_low_28, e_X12_low_29, e_X12_low_30, e_X12_low_33, e_X12_low_34, e_X12_low_37, e_X12_low_38, e_X12_low_39, e_X12_low_42, e_X12_low_44, e_X12_low_47, e_X12_low_48, e_X12_low_49, e_X12_low_52, e_X12_low_55, e_X12_low_56, zcll_s, zpush_s, zpush_n, zinv_i, zinv_l, zinv_r, zinv_x, zcats_nil, zcats_i, zcats_l, zcats_r, zcats_x, Nat.le_refl, and_self, true_and, and_true, zok_1, zok_20, zok_21, eq_self, Nat.reduceAdd, Nat.reduceLeDiff, Nat.zero_le, if_true, if_false, zw3_id, if_pos, if_neg]
    rw [h4]
    rfl
  | succ j ih =>
    intro t p h1 h2 h3 h4
    rw [e_X12_low_5]
    simp (disch := omega) only [e_X12_low_0, e_X12_low_1, e_X12_low_2, e_X12_low_3, e_X12_low_7, e_X12_low_9, e_X12_low_12, e_X12_low_13, e_X12_low_16, e_X12_low_17, e_X12_low_18, e_X12_low_19, e_X12_low_21, e_X12_low_24, e_X12_low_27, e_X12_low_28, e_X12_low_29, e_X12_low_30, e_X12_low_33, e_X12_low_34, e_X12_low_37, e_X12_low_38, e_X12_low_39, e_X12_low_42, e_X12_low_44, e_X12_low_47, e_X12_low_48, e_X12_low_49, e_X12_low_52, e_X12_low_55, e_X12_low_56, zcll_s, zpush_s, zpush_n, zinv_i, zinv_l, zinv_r, zinv_x, zcats_nil, zcats_i, zcats_l, zcats_r, zcats_x, Nat.le_refl, and_self, true_and, and_true, zok_1, zok_20, zok_21, eq_self, Nat.reduceAdd, Nat.reduceLeDiff, Nat.zero_le, if_true, if_false, zw3_id, if_pos, if_neg, c_casesFrom, c_power, zcmpl_gt]
    have e : (t + 1 - 1).toNat = (t - 1).toNat + 1 := by omega
    have e1 : (((t - 1).toNat : Nat) : Int) + 1 = t := by omega
    split
    · rename_i h5
      refine ih (t + 1) p (by omega) (by omega) (by omega) ?_
      rw [e]
      unfold zlo
      rw [if_neg, h4]
      rw [e1]
      unfold zwi
      exact Int.not_le.mpr h5
    · rename_i h5
      refine ih (t + 1) t (by omega) (by omega) (by omega) ?_
      rw [e]
      unfold zlo
      rw [if_pos, e1]
      rw [e1]
      unfold zwi
      exact Int.not_lt.mp h5
theorem c_low (h m a : Int) (hm : m ≤ 14) (hh : 0 ≤ h) (hhm : h ≤ m) : zrun X (d + 4) 167 [zi h, zi m, zi a] (c, s, I, L, R) = some (some (zi (zlow h m a)), (c, s, I, L, R)) := by
  refine st_X12_low ?_
  simp (disch := omega) only [e_X12_low_0, e_X12_low_1, e_X12_low_2, e_X12_low_3, e_X12_low_7, e_X12_low_9, e_X12_low_12, e_X12_low_13, e_X12_low_16, e_X12_low_17, e_X12_low_18, e_X12_low_19, e_X12_low_21, e_X12_low_24, e_X12_low_27, e_X12_low_28, e_X12_low_29, e_X12_low_30, e_X12_low_33, e_X12_low_34, e_X12_low_37, e_X12_low_38, e_X12_low_39, e_X12_low_42, e_X12_low_44, e_X12_low_47, e_X12_low_48, e_X12_low_49, e_X12_low_52, e_X12_low_55, e_X12_low_56, zcll_s, zpush_s, zpush_n, zinv_i, zinv_l, zinv_r, zinv_x, zcats_nil, zcats_i, zcats_l, zcats_r, zcats_x, Nat.le_refl, and_self, true_and, and_true, zok_1, zok_20, zok_21, eq_self, Nat.reduceAdd, Nat.reduceLeDiff, Nat.zero_le, if_true, if_false, zw3_id, if_pos, if_neg]
  unfold zlow
  by_cases h0 : h = 0
  · rw [e_X12_low_5, if_pos h0]
    simp (disch := omega) only [e_X12_low_0, e_X12_low_1, e_X12_low_2, e_X12_low_3, e_X12_low_7, e_X12_low_9, e_X12_low_12, e_X12_low_13, e_X12_low_16, e_X12_low_17, e_X12_low_18, e_X12_low_19, e_X12_low_21, e_X12_low_24, e_X12_low_27, e_X12_low_28, e_X12_low_29, e_X12_low_30, e_X12_low_33, e_X12_low_34, e_X12_low_37, e_X12_low_38, e_X12_low_39, e_X12_low_42, e_X12_low_44, e_X12_low_47, e_X12_low_48, e_X12_low_49, e_X12_low_52, e_X12_low_55, e_X12_low_56, zcll_s, zpush_s, zpush_n, zinv_i, zinv_l, zinv_r, zinv_x, zcats_nil, zcats_i, zcats_l, zcats_r, zcats_x, Nat.le_refl, and_self, true_and, and_true, zok_1, zok_20, zok_21, eq_self, Nat.reduceAdd, Nat.reduceLeDiff, Nat.zero_le, if_true, if_false, zw3_id, if_pos, if_neg]
  · rw [if_neg h0]
    exact p_low (X := X) (d := d) (c := c) (s := s) (I := I) (L := L) (R := R) h m a hm (by omega) hhm 10 1 0 (by omega) (by omega) (by omega) rfl
theorem p_high (h m a : Int) (hm : m ≤ 14) (hh : 0 ≤ h) (hhm : h < m) : ∀ (j : Nat) (t p : Int), (t + 1).toNat = j → -1 ≤ t → t ≤ 9 → p = zhi (fun t => zwi m (zcf m 0 h t) a) (9 - t).toNat → V X (zrun X (d + 3)) mX12_high 7 [zi h, zi m, zi a, zi p, zi t] [] (c, s, I, L, R) (fun q => q = (some (zi (zhi (fun t => zwi m (zcf m 0 h t) a) 10)), (c, s, I, L, R))) := by
  intro j
  induction j with
  | zero =>
    intro t p h1 h2 h3 h4
    have e : t = -1 := by omega
    subst e
    rw [e_X12_high_7]
    simp (disch := omega) only [e_X12_high_0, e_X12_high_2, e_X12_high_3, e_X12_high_5, e_X12_high_9, e_X12_high_12, e_X12_high_13, e_X12_high_14, e_X12_high_17, e_X12_high_18, e_X12_high_19, e_X12_high_20, e_X12_high_22, e_X12_high_25, e_X12_high_28, e_X12_high_29, e_X12_high_30, e_X12_high_31, e_X12_high_34, e_X12_high_35, e_X12_high_38, e_X12_high_39, e_X12_high_40, e_X12_high_43, e_X12_high_45, e_X12_high_48, e_X12_high_49, e_X12_high_50, e_X12_high_53, e_X12_high_56, e_X12_high_57, zcll_s, zpush_s, zpush_n, zinv_i, zinv_l, zinv_r, zinv_x, zcats_nil, zcats_i, zcats_l, zcats_r, zcats_x, Nat.le_refl, and_self, true_and, and_true, zok_1, zok_20, zok_21, eq_self, Nat.reduceAdd, Nat.reduceLeDiff, Nat.zero_le, if_true, if_false, zw3_id, if_pos, if_neg]
    rw [h4]
    rfl
  | succ j ih =>
    intro t p h1 h2 h3 h4
    rw [e_X12_high_7]
    simp (disch := omega) only [e_X12_high_0, e_X12_high_2, e_X12_high_3, e_X12_high_5, e_X12_high_9, e_X12_high_12, e_X12_high_13, e_X12_high_14, e_X12_high_17, e_X12_high_18, e_X12_high_19, e_X12_high_20, e_X12_high_22, e_X12_high_25, e_X12_high_28, e_X12_high_29, e_X12_high_30, e_X12_high_31, e_X12_high_34, e_X12_high_35, e_X12_high_38, e_X12_high_39, e_X12_high_40, e_X12_high_43, e_X12_high_45, e_X12_high_48, e_X12_high_49, e_X12_high_50, e_X12_high_53, e_X12_high_56, e_X12_high_57, zcll_s, zpush_s, zpush_n, zinv_i, zinv_l, zinv_r, zinv_x, zcats_nil, zcats_i, zcats_l, zcats_r, zcats_x, Nat.le_refl, and_self, true_and, and_true, zok_1, zok_20, zok_21, eq_self, Nat.reduceAdd, Nat.reduceLeDiff, Nat.zero_le, if_true, if_false, zw3_id, if_pos, if_neg, c_casesFrom, c_power, zcmpl_gt]
    have e : (9 - (t + -1)).toNat = (9 - t).toNat + 1 := by omega
    have e1 : 9 - (((9 - t).toNat : Nat) : Int) = t := by omega
    split
    · rename_i h5
      refine ih (t + -1) p (by omega) (by omega) (by omega) ?_
      rw [e]
      unfold zhi
      rw [if_neg, h4]
      rw [e1]
      unfold zwi
      exact Int.not_le.mpr h5
    · rename_i h5
      refine ih (t + -1) t (by omega) (by omega) (by omega) ?_
      rw [e]
      unfold zhi
      rw [if_pos, e1]
      rw [e1]
      unfold zwi
      exact Int.not_lt.mp h5
theorem c_high (h m a : Int) (hm : m ≤ 14) (hh : 0 ≤ h) (hhm : h ≤ m) : zrun X (d + 4) 168 [zi h, zi m, zi a] (c, s, I, L, R) = some (some (zi (zhigh h m a)), (c, s, I, L, R)) := by
  refine st_X12_high ?_
  simp (disch := omega) only [e_X12_high_0, e_X12_high_2, e_X12_high_3, e_X12_high_5, e_X12_high_9, e_X12_high_12, e_X12_high_13, e_X12_high_14, e_X12_high_17, e_X12_high_18, e_X12_high_19, e_X12_high_20, e_X12_high_22, e_X12_high_25, e_X12_high_28, e_X12_high_29, e_X12_high_30, e_X12_high_31, e_X12_high_34, e_X12_high_35, e_X12_high_38, e_X12_high_39, e_X12_high_40, e_X12_high_43, e_X12_high_45, e_X12_high_48, e_X12_high_49, e_X12_high_50, e_X12_high_53, e_X12_high_56, e_X12_high_57, zcll_s, zpush_s, zpush_n, zinv_i, zinv_l, zinv_r, zinv_x, zcats_nil, zcats_i, zcats_l, zcats_r, zcats_x, Nat.le_refl, and_self, true_and, and_true, zok_1, zok_20, zok_21, eq_self, Nat.reduceAdd, Nat.reduceLeDiff, Nat.zero_le, if_true, if_false, zw3_id, if_pos, if_neg]
  unfold zhigh
  by_cases h0 : h = m
  · rw [e_X12_high_7, if_pos h0]
    simp (disch := omega) only [e_X12_high_0, e_X12_high_2, e_X12_high_3, e_X12_high_5, e_X12_high_9, e_X12_high_12, e_X12_high_13, e_X12_high_14, e_X12_high_17, e_X12_high_18, e_X12_high_19, e_X12_high_20, e_X12_high_22, e_X12_high_25, e_X12_high_28, e_X12_high_29, e_X12_high_30, e_X12_high_31, e_X12_high_34, e_X12_high_35, e_X12_high_38, e_X12_high_39, e_X12_high_40, e_X12_high_43, e_X12_high_45, e_X12_high_48, e_X12_high_49, e_X12_high_50, e_X12_high_53, e_X12_high_56, e_X12_high_57, zcll_s, zpush_s, zpush_n, zinv_i, zinv_l, zinv_r, zinv_x, zcats_nil, zcats_i, zcats_l, zcats_r, zcats_x, Nat.le_refl, and_self, true_and, and_true, zok_1, zok_20, zok_21, eq_self, Nat.reduceAdd, Nat.reduceLeDiff, Nat.zero_le, if_true, if_false, zw3_id, if_pos, if_neg]
  · rw [if_neg h0]
    exact p_high (X := X) (d := d) (c := c) (s := s) (I := I) (L := L) (R := R) h m a hm (by omega) (by omega) 10 9 10 (by omega) (by omega) (by omega) rfl
theorem c_ends (h m a w : Int) : zrun X (d + 5) 169 [zr (some 310), zi h, zi m, zi a, zi w] (c, s, I, L, R) = some (some (zi (if (1 ≤ m ∧ m ≤ 14) ∧ (0 ≤ h ∧ h ≤ m) ∧ (0 ≤ a ∧ a ≤ 1000) ∧ (0 ≤ w ∧ w ≤ 1) then (if w = 0 then zlow h m a else zhigh h m a) else -2)), (c, s, zu I 310 0 0, L, R)) := by
  refine st_X12_ends ?_
  by_cases h1 : 1 ≤ m ∧ m ≤ 14
  · by_cases h2 : 0 ≤ h ∧ h ≤ m
    · by_cases h3 : 0 ≤ a ∧ a ≤ 1000
      · by_cases h4 : 0 ≤ w ∧ w ≤ 1
        · by_cases h5 : w = 0
          · subst h5
            simp (disch := omega) only [e_X12_ends_0, e_X12_ends_0x, e_X12_ends_1, e_X12_ends_2, e_X12_ends_5, e_X12_ends_6, e_X12_ends_7, e_X12_ends_8, e_X12_ends_11, e_X12_ends_14, e_X12_ends_17, e_X12_ends_18, e_X12_ends_19, e_X12_ends_20, e_X12_ends_21, e_X12_ends_22, e_X12_ends_25, e_X12_ends_28, e_X12_ends_29, e_X12_ends_30, e_X12_ends_31, e_X12_ends_34, e_X12_ends_37, e_X12_ends_40, e_X12_ends_42, e_X12_ends_43, e_X12_ends_44, e_X12_ends_45, e_X12_ends_48, e_X12_ends_51, e_X12_ends_53, e_X12_ends_54, e_X12_ends_56, e_X12_ends_59, e_X12_ends_60, e_X12_ends_61, e_X12_ends_62, e_X12_ends_65, e_X12_ends_68, e_X12_ends_69, e_X12_ends_70, e_X12_ends_71, e_X12_ends_74, zcll_s, zpush_s, zpush_n, zinv_i, zinv_l, zinv_r, zinv_x, zcats_nil, zcats_i, zcats_l, zcats_r, zcats_x, Nat.le_refl, and_self, true_and, and_true, zok_1, zok_20, zok_21, eq_self, Nat.reduceAdd, Nat.reduceLeDiff, Nat.zero_le, if_true, if_false, zw3_id, if_pos, if_neg, tg_310, c_in, zB_t, c_low, c_high]
          · simp (disch := omega) only [e_X12_ends_0, e_X12_ends_0x, e_X12_ends_1, e_X12_ends_2, e_X12_ends_5, e_X12_ends_6, e_X12_ends_7, e_X12_ends_8, e_X12_ends_11, e_X12_ends_14, e_X12_ends_17, e_X12_ends_18, e_X12_ends_19, e_X12_ends_20, e_X12_ends_21, e_X12_ends_22, e_X12_ends_25, e_X12_ends_28, e_X12_ends_29, e_X12_ends_30, e_X12_ends_31, e_X12_ends_34, e_X12_ends_37, e_X12_ends_40, e_X12_ends_42, e_X12_ends_43, e_X12_ends_44, e_X12_ends_45, e_X12_ends_48, e_X12_ends_51, e_X12_ends_53, e_X12_ends_54, e_X12_ends_56, e_X12_ends_59, e_X12_ends_60, e_X12_ends_61, e_X12_ends_62, e_X12_ends_65, e_X12_ends_68, e_X12_ends_69, e_X12_ends_70, e_X12_ends_71, e_X12_ends_74, zcll_s, zpush_s, zpush_n, zinv_i, zinv_l, zinv_r, zinv_x, zcats_nil, zcats_i, zcats_l, zcats_r, zcats_x, Nat.le_refl, and_self, true_and, and_true, zok_1, zok_20, zok_21, eq_self, Nat.reduceAdd, Nat.reduceLeDiff, Nat.zero_le, if_true, if_false, zw3_id, if_pos, if_neg, tg_310, c_in, zB_t, c_low, c_high]
        · simp (disch := omega) only [e_X12_ends_0, e_X12_ends_0x, e_X12_ends_1, e_X12_ends_2, e_X12_ends_5, e_X12_ends_6, e_X12_ends_7, e_X12_ends_8, e_X12_ends_11, e_X12_ends_14, e_X12_ends_17, e_X12_ends_18, e_X12_ends_19, e_X12_ends_20, e_X12_ends_21, e_X12_ends_22, e_X12_ends_25, e_X12_ends_28, e_X12_ends_29, e_X12_ends_30, e_X12_ends_31, e_X12_ends_34, e_X12_ends_37, e_X12_ends_40, e_X12_ends_42, e_X12_ends_43, e_X12_ends_44, e_X12_ends_45, e_X12_ends_48, e_X12_ends_51, e_X12_ends_53, e_X12_ends_54, e_X12_ends_56, e_X12_ends_59, e_X12_ends_60, e_X12_ends_61, e_X12_ends_62, e_X12_ends_65, e_X12_ends_68, e_X12_ends_69, e_X12_ends_70, e_X12_ends_71, e_X12_ends_74, zcll_s, zpush_s, zpush_n, zinv_i, zinv_l, zinv_r, zinv_x, zcats_nil, zcats_i, zcats_l, zcats_r, zcats_x, Nat.le_refl, and_self, true_and, and_true, zok_1, zok_20, zok_21, eq_self, Nat.reduceAdd, Nat.reduceLeDiff, Nat.zero_le, if_true, if_false, zw3_id, if_pos, if_neg, tg_310, c_in, zB_t, zB_f, c_low, c_high]
      · simp (disch := omega) only [e_X12_ends_0, e_X12_ends_0x, e_X12_ends_1, e_X12_ends_2, e_X12_ends_5, e_X12_ends_6, e_X12_ends_7, e_X12_ends_8, e_X12_ends_11, e_X12_ends_14, e_X12_ends_17, e_X12_ends_18, e_X12_ends_19, e_X12_ends_20, e_X12_ends_21, e_X12_ends_22, e_X12_ends_25, e_X12_ends_28, e_X12_ends_29, e_X12_ends_30, e_X12_ends_31, e_X12_ends_34, e_X12_ends_37, e_X12_ends_40, e_X12_ends_42, e_X12_ends_43, e_X12_ends_44, e_X12_ends_45, e_X12_ends_48, e_X12_ends_51, e_X12_ends_53, e_X12_ends_54, e_X12_ends_56, e_X12_ends_59, e_X12_ends_60, e_X12_ends_61, e_X12_ends_62, e_X12_ends_65, e_X12_ends_68, e_X12_ends_69, e_X12_ends_70, e_X12_ends_71, e_X12_ends_74, zcll_s, zpush_s, zpush_n, zinv_i, zinv_l, zinv_r, zinv_x, zcats_nil, zcats_i, zcats_l, zcats_r, zcats_x, Nat.le_refl, and_self, true_and, and_true, zok_1, zok_20, zok_21, eq_self, Nat.reduceAdd, Nat.reduceLeDiff, Nat.zero_le, if_true, if_false, zw3_id, if_pos, if_neg, tg_310, c_in, zB_t, zB_f, c_low, c_high]
    · simp (disch := omega) only [e_X12_ends_0, e_X12_ends_0x, e_X12_ends_1, e_X12_ends_2, e_X12_ends_5, e_X12_ends_6, e_X12_ends_7, e_X12_ends_8, e_X12_ends_11, e_X12_ends_14, e_X12_ends_17, e_X12_ends_18, e_X12_ends_19, e_X12_ends_20, e_X12_ends_21, e_X12_ends_22, e_X12_ends_25, e_X12_ends_28, e_X12_ends_29, e_X12_ends_30, e_X12_ends_31, e_X12_ends_34, e_X12_ends_37, e_X12_ends_40, e_X12_ends_42, e_X12_ends_43, e_X12_ends_44, e_X12_ends_45, e_X12_ends_48, e_X12_ends_51, e_X12_ends_53, e_X12_ends_54, e_X12_ends_56, e_X12_ends_59, e_X12_ends_60, e_X12_ends_61, e_X12_ends_62, e_X12_ends_65, e_X12_ends_68, e_X12_ends_69, e_X12_ends_70, e_X12_ends_71, e_X12_ends_74, zcll_s, zpush_s, zpush_n, zinv_i, zinv_l, zinv_r, zinv_x, zcats_nil, zcats_i, zcats_l, zcats_r, zcats_x, Nat.le_refl, and_self, true_and, and_true, zok_1, zok_20, zok_21, eq_self, Nat.reduceAdd, Nat.reduceLeDiff, Nat.zero_le, if_true, if_false, zw3_id, if_pos, if_neg, tg_310, c_in, zB_t, zB_f, c_low, c_high]
  · simp (disch := omega) only [e_X12_ends_0, e_X12_ends_0x, e_X12_ends_1, e_X12_ends_2, e_X12_ends_5, e_X12_ends_6, e_X12_ends_7, e_X12_ends_8, e_X12_ends_11, e_X12_ends_14, e_X12_ends_17, e_X12_ends_18, e_X12_ends_19, e_X12_ends_20, e_X12_ends_21, e_X12_ends_22, e_X12_ends_25, e_X12_ends_28, e_X12_ends_29, e_X12_ends_30, e_X12_ends_31, e_X12_ends_34, e_X12_ends_37, e_X12_ends_40, e_X12_ends_42, e_X12_ends_43, e_X12_ends_44, e_X12_ends_45, e_X12_ends_48, e_X12_ends_51, e_X12_ends_53, e_X12_ends_54, e_X12_ends_56, e_X12_ends_59, e_X12_ends_60, e_X12_ends_61, e_X12_ends_62, e_X12_ends_65, e_X12_ends_68, e_X12_ends_69, e_X12_ends_70, e_X12_ends_71, e_X12_ends_74, zcll_s, zpush_s, zpush_n, zinv_i, zinv_l, zinv_r, zinv_x, zcats_nil, zcats_i, zcats_l, zcats_r, zcats_x, Nat.le_refl, and_self, true_and, and_true, zok_1, zok_20, zok_21, eq_self, Nat.reduceAdd, Nat.reduceLeDiff, Nat.zero_le, if_true, if_false, zw3_id, if_pos, if_neg, tg_310, c_in, zB_t, zB_f, c_low, c_high]
theorem p_misses (m t a : Int) (hm : m ≤ 14) (ht0 : 0 ≤ t) (ht : t ≤ 10) : ∀ (j : Nat) (h p : Int), (m + 1 - h).toNat = j → 0 ≤ h → zw6 p = p → V X (zrun X (d + 4)) mX12_misses 51 [zr (some 310), zi m, zi t, zi a, zl p, zx 0, zi h] [] (c, s, I, L, R) (fun q => q = (some (zl (zms m t a j h p)), (c, s, I, L, R))) := by
  intro j
  induction j with
  | zero =>
    intro h p h1 h2 hp
    rw [e_X12_misses_51]
    simp (disch := omega) only [e_X12_misses_0, e_X12_misses_0x, e_X12_misses_1, e_X12_misses_2, e_X12_misses_5, e_X12_misses_6, e_X12_misses_7, e_X12_misses_8, e_X12_misses_11, e_X12_misses_14, e_X12_misses_17, e_X12_misses_18, e_X12_misses_19, e_X12_misses_20, e_X12_misses_23, e_X12_misses_26, e_X12_misses_29, e_X12_misses_30, e_X12_misses_31, e_X12_misses_32, e_X12_misses_35, e_X12_misses_38, e_X12_misses_41, e_X12_misses_44, e_X12_misses_45, e_X12_misses_46, e_X12_misses_48, e_X12_misses_49, e_X12_misses_53, e_X12_misses_54, e_X12_misses_57, e_X12_misses_59, e_X12_misses_61, e_X12_misses_62, e_X12_misses_63, e_X12_misses_66, e_X12_misses_67, e_X12_misses_70, e_X12_misses_71, e_X12_misses_73, e_X12_misses_74, e_X12_misses_75, e_X12_misses_78, e_X12_misses_81, e_X12_misses_82, e_X12_misses_85, e_X12_misses_86, e_X12_misses_88, e_X12_misses_89, e_X12_misses_92, e_X12_misses_93, e_X12_misses_95, e_X12_misses_98, e_X12_misses_101, e_X12_misses_103, zcll_s, zpush_s, zpush_n, zinv_i, zinv_l, zinv_r, zinv_x, zcats_nil, zcats_i, zcats_l, zcats_r, zcats_x, Nat.le_refl, and_self, true_and, and_true, zok_1, zok_20, zok_21, eq_self, Nat.reduceAdd, Nat.reduceLeDiff, Nat.zero_le, if_true, if_false, zw3_id, if_pos, if_neg]
    rfl
  | succ j ih =>
    intro h p h1 h2 hp
    rw [e_X12_misses_51]
    simp (disch := omega) only [e_X12_misses_0, e_X12_misses_0x, e_X12_misses_1, e_X12_misses_2, e_X12_misses_5, e_X12_misses_6, e_X12_misses_7, e_X12_misses_8, e_X12_misses_11, e_X12_misses_14, e_X12_misses_17, e_X12_misses_18, e_X12_misses_19, e_X12_misses_20, e_X12_misses_23, e_X12_misses_26, e_X12_misses_29, e_X12_misses_30, e_X12_misses_31, e_X12_misses_32, e_X12_misses_35, e_X12_misses_38, e_X12_misses_41, e_X12_misses_44, e_X12_misses_45, e_X12_misses_46, e_X12_misses_48, e_X12_misses_49, e_X12_misses_53, e_X12_misses_54, e_X12_misses_57, e_X12_misses_59, e_X12_misses_61, e_X12_misses_62, e_X12_misses_63, e_X12_misses_66, e_X12_misses_67, e_X12_misses_70, e_X12_misses_71, e_X12_misses_73, e_X12_misses_74, e_X12_misses_75, e_X12_misses_78, e_X12_misses_81, e_X12_misses_82, e_X12_misses_85, e_X12_misses_86, e_X12_misses_88, e_X12_misses_89, e_X12_misses_92, e_X12_misses_93, e_X12_misses_95, e_X12_misses_98, e_X12_misses_101, e_X12_misses_103, zcll_s, zpush_s, zpush_n, zinv_i, zinv_l, zinv_r, zinv_x, zcats_nil, zcats_i, zcats_l, zcats_r, zcats_x, Nat.le_refl, and_self, true_and, and_true, zok_1, zok_20, zok_21, eq_self, Nat.reduceAdd, Nat.reduceLeDiff, Nat.zero_le, if_true, if_false, zw3_id, if_pos, if_neg, c_low, c_high, c_cases]
    unfold zms
    split
    · rw [if_neg (by omega)]
      exact ih (h + 1) _ (by omega) (by omega) zw6_zw6
    · split
      · rw [if_neg (by omega)]
        exact ih (h + 1) _ (by omega) (by omega) zw6_zw6
      · rw [if_pos (by omega), Int.add_zero, hp]
        exact ih (h + 1) _ (by omega) (by omega) hp
theorem c_misses (m t a : Int) : zrun X (d + 5) 170 [zr (some 310), zi m, zi t, zi a] (c, s, I, L, R) = some (some (zl (if (1 ≤ m ∧ m ≤ 14) ∧ (0 ≤ t ∧ t ≤ 10) ∧ (0 ≤ a ∧ a ≤ 1000) then zms m t a (m + 1).toNat 0 0 else -2)), (c, s, zu I 310 0 0, L, R)) := by
  refine st_X12_misses ?_
  by_cases h1 : 1 ≤ m ∧ m ≤ 14
  · by_cases h2 : 0 ≤ t ∧ t ≤ 10
    · by_cases h3 : 0 ≤ a ∧ a ≤ 1000
      · simp (disch := omega) only [e_X12_misses_0, e_X12_misses_0x, e_X12_misses_1, e_X12_misses_2, e_X12_misses_5, e_X12_misses_6, e_X12_misses_7, e_X12_misses_8, e_X12_misses_11, e_X12_misses_14, e_X12_misses_17, e_X12_misses_18, e_X12_misses_19, e_X12_misses_20, e_X12_misses_23, e_X12_misses_26, e_X12_misses_29, e_X12_misses_30, e_X12_misses_31, e_X12_misses_32, e_X12_misses_35, e_X12_misses_38, e_X12_misses_41, e_X12_misses_44, e_X12_misses_45, e_X12_misses_46, e_X12_misses_48, e_X12_misses_49, e_X12_misses_53, e_X12_misses_54, e_X12_misses_57, e_X12_misses_59, e_X12_misses_61, e_X12_misses_62, e_X12_misses_63, e_X12_misses_66, e_X12_misses_67, e_X12_misses_70, e_X12_misses_71, e_X12_misses_73, e_X12_misses_74, e_X12_misses_75, e_X12_misses_78, e_X12_misses_81, e_X12_misses_82, e_X12_misses_85, e_X12_misses_86, e_X12_misses_88, e_X12_misses_89, e_X12_misses_92, e_X12_misses_93, e_X12_misses_95, e_X12_misses_98, e_X12_misses_101, e_X12_misses_103, zcll_s, zpush_s, zpush_n, zinv_i, zinv_l, zinv_r, zinv_x, zcats_nil, zcats_i, zcats_l, zcats_r, zcats_x, Nat.le_refl, and_self, true_and, and_true, zok_1, zok_20, zok_21, eq_self, Nat.reduceAdd, Nat.reduceLeDiff, Nat.zero_le, if_true, if_false, zw3_id, if_pos, if_neg, tg_310, c_in, zB_t]
        exact p_misses (X := X) (d := d) m t a (by omega) (by omega) (by omega) _ 0 0 (by omega) (by omega) zw6_0
      · simp (disch := omega) only [e_X12_misses_0, e_X12_misses_0x, e_X12_misses_1, e_X12_misses_2, e_X12_misses_5, e_X12_misses_6, e_X12_misses_7, e_X12_misses_8, e_X12_misses_11, e_X12_misses_14, e_X12_misses_17, e_X12_misses_18, e_X12_misses_19, e_X12_misses_20, e_X12_misses_23, e_X12_misses_26, e_X12_misses_29, e_X12_misses_30, e_X12_misses_31, e_X12_misses_32, e_X12_misses_35, e_X12_misses_38, e_X12_misses_41, e_X12_misses_44, e_X12_misses_45, e_X12_misses_46, e_X12_misses_48, e_X12_misses_49, e_X12_misses_53, e_X12_misses_54, e_X12_misses_57, e_X12_misses_59, e_X12_misses_61, e_X12_misses_62, e_X12_misses_63, e_X12_misses_66, e_X12_misses_67, e_X12_misses_70, e_X12_misses_71, e_X12_misses_73, e_X12_misses_74, e_X12_misses_75, e_X12_misses_78, e_X12_misses_81, e_X12_misses_82, e_X12_misses_85, e_X12_misses_86, e_X12_misses_88, e_X12_misses_89, e_X12_misses_92, e_X12_misses_93, e_X12_misses_95, e_X12_misses_98, e_X12_misses_101, e_X12_misses_103, zcll_s, zpush_s, zpush_n, zinv_i, zinv_l, zinv_r, zinv_x, zcats_nil, zcats_i, zcats_l, zcats_r, zcats_x, Nat.le_refl, and_self, true_and, and_true, zok_1, zok_20, zok_21, eq_self, Nat.reduceAdd, Nat.reduceLeDiff, Nat.zero_le, if_true, if_false, zw3_id, if_pos, if_neg, tg_310, c_in, zB_t, zB_f]
    · simp (disch := omega) only [e_X12_misses_0, e_X12_misses_0x, e_X12_misses_1, e_X12_misses_2, e_X12_misses_5, e_X12_misses_6, e_X12_misses_7, e_X12_misses_8, e_X12_misses_11, e_X12_misses_14, e_X12_misses_17, e_X12_misses_18, e_X12_misses_19, e_X12_misses_20, e_X12_misses_23, e_X12_misses_26, e_X12_misses_29, e_X12_misses_30, e_X12_misses_31, e_X12_misses_32, e_X12_misses_35, e_X12_misses_38, e_X12_misses_41, e_X12_misses_44, e_X12_misses_45, e_X12_misses_46, e_X12_misses_48, e_X12_misses_49, e_X12_misses_53, e_X12_misses_54, e_X12_misses_57, e_X12_misses_59, e_X12_misses_61, e_X12_misses_62, e_X12_misses_63, e_X12_misses_66, e_X12_misses_67, e_X12_misses_70, e_X12_misses_71, e_X12_misses_73, e_X12_misses_74, e_X12_misses_75, e_X12_misses_78, e_X12_misses_81, e_X12_misses_82, e_X12_misses_85, e_X12_misses_86, e_X12_misses_88, e_X12_misses_89, e_X12_misses_92, e_X12_misses_93, e_X12_misses_95, e_X12_misses_98, e_X12_misses_101, e_X12_misses_103, zcll_s, zpush_s, zpush_n, zinv_i, zinv_l, zinv_r, zinv_x, zcats_nil, zcats_i, zcats_l, zcats_r, zcats_x, Nat.le_refl, and_self, true_and, and_true, zok_1, zok_20, zok_21, eq_self, Nat.reduceAdd, Nat.reduceLeDiff, Nat.zero_le, if_true, if_false, zw3_id, if_pos, if_neg, tg_310, c_in, zB_t, zB_f]
  · simp (disch := omega) only [e_X12_misses_0, e_X12_misses_0x, e_X12_misses_1, e_X12_misses_2, e_X12_misses_5, e_X12_misses_6, e_X12_misses_7, e_X12_misses_8, e_X12_misses_11, e_X12_misses_14, e_X12_misses_17, e_X12_misses_18, e_X12_misses_19, e_X12_misses_20, e_X12_misses_23, e_X12_misses_26, e_X12_misses_29, e_X12_misses_30, e_X12_misses_31, e_X12_misses_32, e_X12_misses_35, e_X12_misses_38, e_X12_misses_41, e_X12_misses_44, e_X12_misses_45, e_X12_misses_46, e_X12_misses_48, e_X12_misses_49, e_X12_misses_53, e_X12_misses_54, e_X12_misses_57, e_X12_misses_59, e_X12_misses_61, e_X12_misses_62, e_X12_misses_63, e_X12_misses_66, e_X12_misses_67, e_X12_misses_70, e_X12_misses_71, e_X12_misses_73, e_X12_misses_74, e_X12_misses_75, e_X12_misses_78, e_X12_misses_81, e_X12_misses_82, e_X12_misses_85, e_X12_misses_86, e_X12_misses_88, e_X12_misses_89, e_X12_misses_92, e_X12_misses_93, e_X12_misses_95, e_X12_misses_98, e_X12_misses_101, e_X12_misses_103, zcll_s, zpush_s, zpush_n, zinv_i, zinv_l, zinv_r, zinv_x, zcats_nil, zcats_i, zcats_l, zcats_r, zcats_x, Nat.le_refl, and_self, true_and, and_true, zok_1, zok_20, zok_21, eq_self, Nat.reduceAdd, Nat.reduceLeDiff, Nat.zero_le, if_true, if_false, zw3_id, if_pos, if_neg, tg_310, c_in, zB_t, zB_f]
end
