/-! The reference: small methods. -/
section
variable {X : ZX} {d c s : Nat} {I L : ZI} {R : ZR}
theorem c_isLetter (x : Int) : zrun X (d + 1) 116 [zi x] (c, s, I, L, R) = some (some (zi (if 97 ≤ x ∧ x ≤ 122 then 1 else 0)), (c, s, I, L, R)) := by
  refine st_X12_isLetter ?_
  simp only [e_X12_isLetter_0, e_X12_isLetter_1, e_X12_isLetter_3, e_X12_isLetter_6, e_X12_isLetter_7, e_X12_isLetter_9, e_X12_isLetter_12, e_X12_isLetter_13, e_X12_isLetter_16, e_X12_isLetter_17, zcll_s, zpush_s, zpush_n, zinv_i, zinv_l, zinv_r, zinv_x, zcats_nil, zcats_i, zcats_l, zcats_r, zcats_x, Nat.le_refl, and_self, true_and, and_true, zok_1, zok_20, zok_21, eq_self, Nat.reduceAdd, Nat.reduceLeDiff, Nat.zero_le, if_true, if_false]
  trace_state
  sorry
theorem c_byteAt (k : Int) (h0 : 0 ≤ k) (hs : I 310 4 ≤ 800) (hR : R 310 1 = some 311) : zrun X (d + 1) 115 [zr (some 310), zi k] (c, s, I, L, R) = some (some (zi (if k < I 310 4 then I 311 k.toNat else -1)), (c, s, I, L, R)) := by
  refine st_X12_byteAt ?_
  simp only [e_X12_byteAt_0, e_X12_byteAt_1, e_X12_byteAt_1x, e_X12_byteAt_2, e_X12_byteAt_5, e_X12_byteAt_8, e_X12_byteAt_8x, e_X12_byteAt_9, e_X12_byteAt_12, e_X12_byteAt_13, e_X12_byteAt_14, e_X12_byteAt_17, e_X12_byteAt_18, zcll_s, zpush_s, zpush_n, zinv_i, zinv_l, zinv_r, zinv_x, zcats_nil, zcats_i, zcats_l, zcats_r, zcats_x, Nat.le_refl, and_self, true_and, and_true, zok_1, zok_20, zok_21, eq_self, Nat.reduceAdd, Nat.reduceLeDiff, Nat.zero_le, if_true, if_false, tg_310, tg_311, tn_311, hR]
  trace_state
  sorry
end
