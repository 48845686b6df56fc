/-! The reference: small methods. -/
noncomputable def zB (p : Prop) : Int := @ite _ p (Classical.propDecidable _) 1 0
theorem zB_t {p : Prop} (h : p) : zB p = 1 := if_pos h
theorem zB_f {p : Prop} (h : ¬ p) : zB p = 0 := if_neg h
theorem zB_01 {p : Prop} : zB p = 0 ∨ zB p = 1 := by
  by_cases h : p
  · rw [zB_t h]; exact Or.inr rfl
  · rw [zB_f h]; exact Or.inl rfl
theorem zB_0 {p : Prop} : zB p = 0 ↔ ¬ p := by
  by_cases h : p
  · rw [zB_t h]; exact ⟨fun e => absurd e (by decide), fun e => absurd h e⟩
  · rw [zB_f h]; exact ⟨fun _ => h, fun _ => rfl⟩
theorem zB_ok {p : Prop} : zok 2 (zB p) = true := by
  rw [zok_2]; exact zB_01
theorem zB_ite {p : Prop} {α : Prop} {h : Decidable p} : (if p then (1 : Int) else 0) = zB p := by
  by_cases h : p
  · rw [zB_t h, if_pos h]
  · rw [zB_f h, if_neg h]
section
variable {X : ZX} {d c s : Nat} {I L : ZI} {R : ZR}
theorem c_in (x lo hi : Int) : zrun X (d + 1) 113 [zl x, zl lo, zl hi] (c, s, I, L, R) = some (some (zi (zB (lo ≤ x ∧ x ≤ hi))), (c, s, I, L, R)) := by
  refine st_X12_in ?_
  simp only [e_X12_in_0, e_X12_in_1, e_X12_in_2, e_X12_in_3, e_X12_in_6, e_X12_in_7, e_X12_in_9, e_X12_in_10, e_X12_in_13, e_X12_in_14, e_X12_in_17, e_X12_in_18, zcll_s, zpush_s, zpush_n, zinv_i, zinv_l, zinv_r, zinv_x, zcats_nil, zcats_i, zcats_l, zcats_r, zcats_x, Nat.le_refl, and_self, true_and, and_true, zok_1, zok_20, zok_21, eq_self, Nat.reduceAdd, Nat.reduceLeDiff, Nat.zero_le, if_true, if_false, zcmpl_lt, zcmpl_gt]
  split
  · rw [zB_f (by omega)]
  · split
    · rw [zB_f (by omega)]
    · rw [zB_t (by omega)]
theorem c_isLetter (x : Int) : zrun X (d + 1) 116 [zi x] (c, s, I, L, R) = some (some (zi (zB (97 ≤ x ∧ x ≤ 122))), (c, s, I, L, R)) := by
  refine st_X12_isLetter ?_
  simp only [e_X12_isLetter_0, e_X12_isLetter_1, e_X12_isLetter_3, e_X12_isLetter_6, e_X12_isLetter_7, e_X12_isLetter_9, e_X12_isLetter_12, e_X12_isLetter_13, e_X12_isLetter_16, e_X12_isLetter_17, zcll_s, zpush_s, zpush_n, zinv_i, zinv_l, zinv_r, zinv_x, zcats_nil, zcats_i, zcats_l, zcats_r, zcats_x, Nat.le_refl, and_self, true_and, and_true, zok_1, zok_20, zok_21, eq_self, Nat.reduceAdd, Nat.reduceLeDiff, Nat.zero_le, if_true, if_false]
  split
  · rw [zB_f (by omega)]
  · split
    · rw [zB_f (by omega)]
    · rw [zB_t (by omega)]
theorem c_isFigure (x : Int) : zrun X (d + 1) 117 [zi x] (c, s, I, L, R) = some (some (zi (zB (48 ≤ x ∧ x ≤ 57))), (c, s, I, L, R)) := by
  refine st_X12_isFigure ?_
  simp only [e_X12_isFigure_0, e_X12_isFigure_1, e_X12_isFigure_3, e_X12_isFigure_6, e_X12_isFigure_7, e_X12_isFigure_9, e_X12_isFigure_12, e_X12_isFigure_13, e_X12_isFigure_16, e_X12_isFigure_17, zcll_s, zpush_s, zpush_n, zinv_i, zinv_l, zinv_r, zinv_x, zcats_nil, zcats_i, zcats_l, zcats_r, zcats_x, Nat.le_refl, and_self, true_and, and_true, zok_1, zok_20, zok_21, eq_self, Nat.reduceAdd, Nat.reduceLeDiff, Nat.zero_le, if_true, if_false]
  split
  · rw [zB_f (by omega)]
  · split
    · rw [zB_f (by omega)]
    · rw [zB_t (by omega)]
def rByte (I : ZI) (k : Int) : Int := if k < I 310 4 then I 311 k.toNat else -1
theorem c_byteAt (hR : Rok R) (k : Int) (h0 : 0 ≤ k) (hs : I 310 4 ≤ 800) : zrun X (d + 1) 115 [zr (some 310), zi k] (c, s, I, L, R) = some (some (zi (rByte I k)), (c, s, I, L, R)) := by
  refine st_X12_byteAt ?_
  simp only [e_X12_byteAt_0, e_X12_byteAt_1, e_X12_byteAt_1x, e_X12_byteAt_2, e_X12_byteAt_5, e_X12_byteAt_8, e_X12_byteAt_8x, e_X12_byteAt_9, e_X12_byteAt_12, e_X12_byteAt_13, e_X12_byteAt_14, e_X12_byteAt_17, e_X12_byteAt_18, zcll_s, zpush_s, zpush_n, zinv_i, zinv_l, zinv_r, zinv_x, zcats_nil, zcats_i, zcats_l, zcats_r, zcats_x, Nat.le_refl, and_self, true_and, and_true, zok_1, zok_20, zok_21, eq_self, Nat.reduceAdd, Nat.reduceLeDiff, Nat.zero_le, if_true, if_false, tg_310, tg_311, tn_311, rr_310_1 hR]
  unfold rByte
  split
  · rw [if_neg (by omega)]
  · rw [if_pos (by omega)]
    exact ⟨by omega, rfl⟩
end
