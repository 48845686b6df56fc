/-! The class: its reader, the small ones. -/
section
variable {X : ZX} {d c s : Nat} {I L I1 L1 I2 L2 J : ZI} {R R1 R2 : ZR} {call : ZC} {n p b : Nat} {x t : Int} {B : Nat → Int}
def erC (I : ZI) (e : PE) : ZI := zu (zu I 3 2 e.1) 3 3 e.2
theorem k_fails (hR : Rok R) {y f : Int} (h2 : I 1 2 = f) : zrun X (d + 1) 27 [zr (some 3), zi y] (c, s, I, L, R) = some (some (zi 0), (c, s, erC I (y, f), L, R)) := by
  refine st_X3_fails ?_
  have e1 : zu I 3 2 y 1 2 = f := by rw [zu_n (by omega)]; exact h2
  unfold erC
  simp (disch := omega) only [e_X3_fails_0, e_X3_fails_0x, e_X3_fails_1, e_X3_fails_2, e_X3_fails_5, e_X3_fails_5x, e_X3_fails_6, e_X3_fails_6x, e_X3_fails_7, e_X3_fails_10, e_X3_fails_13, e_X3_fails_16, e_X3_fails_17, zcll_s, zpush_s, zpush_n, zinv_i, zinv_l, zinv_r, zinv_x, zcats_nil, zcats_i, zcats_l, zcats_r, zcats_x, Nat.le_refl, and_self, true_and, and_true, zok_1, zok_20, zok_21, eq_self, Nat.reduceAdd, Nat.reduceLeDiff, Nat.zero_le, if_true, if_false, zw3_id, if_pos, if_neg, zand_t, tg_1, tg_3, rr_3_0 hR, e1]
theorem k_isNumber1 (hR : Rok R) {v lo hi : Int} (h4 : I 1 4 = 2) (h6 : I 1 6 = v) (h0 : lo ≤ v) (h1 : v ≤ hi) : zrun X (d + 2) 36 [zr (some 3), zi lo, zi hi] (c, s, I, L, R) = some (some (zi 1), (c, s, I, L, R)) := by
  refine st_X3_isNumber ?_
  simp (disch := omega) only [e_X3_isNumber_0, e_X3_isNumber_0x, e_X3_isNumber_1, e_X3_isNumber_4, e_X3_isNumber_7, e_X3_isNumber_8, e_X3_isNumber_11, e_X3_isNumber_11x, e_X3_isNumber_12, e_X3_isNumber_13, e_X3_isNumber_16, e_X3_isNumber_17, e_X3_isNumber_17x, e_X3_isNumber_18, e_X3_isNumber_21, e_X3_isNumber_24, e_X3_isNumber_25, e_X3_isNumber_28, e_X3_isNumber_28x, e_X3_isNumber_29, e_X3_isNumber_32, e_X3_isNumber_35, e_X3_isNumber_36, e_X3_isNumber_39, e_X3_isNumber_39x, e_X3_isNumber_40, e_X3_isNumber_41, e_X3_isNumber_44, e_X3_isNumber_47, e_X3_isNumber_48, e_X3_isNumber_51, e_X3_isNumber_52, zcll_s, zpush_s, zpush_n, zinv_i, zinv_l, zinv_r, zinv_x, zcats_nil, zcats_i, zcats_l, zcats_r, zcats_x, Nat.le_refl, and_self, true_and, and_true, zok_1, zok_20, zok_21, eq_self, Nat.reduceAdd, Nat.reduceLeDiff, Nat.zero_le, if_true, if_false, zw3_id, if_pos, if_neg, zand_t, tg_1, tg_3, rr_3_0 hR, h4, h6]
theorem k_isNumber3 (hR : Rok R) {v lo hi f : Int} (h4 : I 1 4 = 2) (h6 : I 1 6 = v) (h2 : I 1 2 = f) (h0 : ¬ (lo ≤ v ∧ v ≤ hi)) : zrun X (d + 2) 36 [zr (some 3), zi lo, zi hi] (c, s, I, L, R) = some (some (zi 0), (c, s, erC I (3, f), L, R)) := by
  refine st_X3_isNumber ?_
  have q := k_fails (X := X) (d := d) (c := c) (s := s) (L := L) hR (y := 3) h2
  by_cases q1 : lo ≤ v
  · have q2 : hi < v := by omega
    clear h0
    simp (disch := omega) only [e_X3_isNumber_0, e_X3_isNumber_0x, e_X3_isNumber_1, e_X3_isNumber_4, e_X3_isNumber_7, e_X3_isNumber_8, e_X3_isNumber_11, e_X3_isNumber_11x, e_X3_isNumber_12, e_X3_isNumber_13, e_X3_isNumber_16, e_X3_isNumber_17, e_X3_isNumber_17x, e_X3_isNumber_18, e_X3_isNumber_21, e_X3_isNumber_24, e_X3_isNumber_25, e_X3_isNumber_28, e_X3_isNumber_28x, e_X3_isNumber_29, e_X3_isNumber_32, e_X3_isNumber_35, e_X3_isNumber_36, e_X3_isNumber_39, e_X3_isNumber_39x, e_X3_isNumber_40, e_X3_isNumber_41, e_X3_isNumber_44, e_X3_isNumber_47, e_X3_isNumber_48, e_X3_isNumber_51, e_X3_isNumber_52, zcll_s, zpush_s, zpush_n, zinv_i, zinv_l, zinv_r, zinv_x, zcats_nil, zcats_i, zcats_l, zcats_r, zcats_x, Nat.le_refl, and_self, true_and, and_true, zok_1, zok_20, zok_21, eq_self, Nat.reduceAdd, Nat.reduceLeDiff, Nat.zero_le, if_true, if_false, zw3_id, if_pos, if_neg, zand_t, tg_1, tg_3, rr_3_0 hR, h4, h6, q]
  · clear h0
    simp (disch := omega) only [e_X3_isNumber_0, e_X3_isNumber_0x, e_X3_isNumber_1, e_X3_isNumber_4, e_X3_isNumber_7, e_X3_isNumber_8, e_X3_isNumber_11, e_X3_isNumber_11x, e_X3_isNumber_12, e_X3_isNumber_13, e_X3_isNumber_16, e_X3_isNumber_17, e_X3_isNumber_17x, e_X3_isNumber_18, e_X3_isNumber_21, e_X3_isNumber_24, e_X3_isNumber_25, e_X3_isNumber_28, e_X3_isNumber_28x, e_X3_isNumber_29, e_X3_isNumber_32, e_X3_isNumber_35, e_X3_isNumber_36, e_X3_isNumber_39, e_X3_isNumber_39x, e_X3_isNumber_40, e_X3_isNumber_41, e_X3_isNumber_44, e_X3_isNumber_47, e_X3_isNumber_48, e_X3_isNumber_51, e_X3_isNumber_52, zcll_s, zpush_s, zpush_n, zinv_i, zinv_l, zinv_r, zinv_x, zcats_nil, zcats_i, zcats_l, zcats_r, zcats_x, Nat.le_refl, and_self, true_and, and_true, zok_1, zok_20, zok_21, eq_self, Nat.reduceAdd, Nat.reduceLeDiff, Nat.zero_le, if_true, if_false, zw3_id, if_pos, if_neg, zand_t, tg_1, tg_3, rr_3_0 hR, h4, h6, q]
theorem k_isNumber0 (hR : Rok R) {kd lo hi f : Int} (h4 : I 1 4 = kd) (h2 : I 1 2 = f) (h0 : kd ≠ 2) : zrun X (d + 2) 36 [zr (some 3), zi lo, zi hi] (c, s, I, L, R) = some (some (zi 0), (c, s, erC I (1, f), L, R)) := by
  refine st_X3_isNumber ?_
  have q := k_fails (X := X) (d := d) (c := c) (s := s) (L := L) hR (y := 1) h2
  simp (disch := omega) only [e_X3_isNumber_0, e_X3_isNumber_0x, e_X3_isNumber_1, e_X3_isNumber_4, e_X3_isNumber_7, e_X3_isNumber_8, e_X3_isNumber_11, e_X3_isNumber_11x, e_X3_isNumber_12, e_X3_isNumber_13, e_X3_isNumber_16, e_X3_isNumber_17, e_X3_isNumber_17x, e_X3_isNumber_18, e_X3_isNumber_21, e_X3_isNumber_24, e_X3_isNumber_25, e_X3_isNumber_28, e_X3_isNumber_28x, e_X3_isNumber_29, e_X3_isNumber_32, e_X3_isNumber_35, e_X3_isNumber_36, e_X3_isNumber_39, e_X3_isNumber_39x, e_X3_isNumber_40, e_X3_isNumber_41, e_X3_isNumber_44, e_X3_isNumber_47, e_X3_isNumber_48, e_X3_isNumber_51, e_X3_isNumber_52, zcll_s, zpush_s, zpush_n, zinv_i, zinv_l, zinv_r, zinv_x, zcats_nil, zcats_i, zcats_l, zcats_r, zcats_x, Nat.le_refl, and_self, true_and, and_true, zok_1, zok_20, zok_21, eq_self, Nat.reduceAdd, Nat.reduceLeDiff, Nat.zero_le, if_true, if_false, zw3_id, if_pos, if_neg, zand_t, tg_1, tg_3, rr_3_0 hR, h4, q]
theorem k_isNumber (hR : Rok R) (h : TpC I B n p) {lo hi : Int} : (∀ e, pNum B n lo hi p = .inl e → zrun X (d + 2) 36 [zr (some 3), zi lo, zi hi] (c, s, I, L, R) = some (some (zi 0), (c, s, erC I e, L, R))) ∧ ∀ y, pNum B n lo hi p = .inr y → zrun X (d + 2) 36 [zr (some 3), zi lo, zi hi] (c, s, I, L, R) = some (some (zi 1), (c, s, I, L, R)) ∧ I 1 6 = y.1 ∧ y.2 = tT B n p := by
  obtain ⟨hT, hp, h2, h3, h4, -, h6, -⟩ := h
  unfold pNum
  by_cases q : tK B n p = 2
  · rw [if_pos q]
    have h6 := h6 q
    rw [q] at h4
    by_cases w : lo ≤ tV B n p ∧ tV B n p ≤ hi
    · rw [if_pos w]
      refine ⟨fun e z => (by cases z), fun y z => ?_⟩
      rw [← Sum.inr.inj z]
      exact ⟨k_isNumber1 hR h4 h6 w.1 w.2, h6, rfl⟩
    · rw [if_neg w]
      refine ⟨fun e z => ?_, fun y z => (by cases z)⟩
      rw [← Sum.inl.inj z]
      exact k_isNumber3 hR h4 h6 h2 w
  · rw [if_neg q]
    refine ⟨fun e z => ?_, fun y z => (by cases z)⟩
    rw [← Sum.inl.inj z]
    exact k_isNumber0 hR h4 h2 q
theorem k_passes0 (hR : Rok R) {y f : Int} (h0 : ¬ (I 1 4 = 3 ∧ I 1 7 = y)) (h2 : I 1 2 = f) : zrun X (d + 6) 37 [zr (some 3), zi y] (c, s, I, L, R) = some (some (zi 0), (c, s, erC I (1, f), L, R)) := by
  refine st_X3_passes ?_
  have q := k_fails (X := X) (d := d + 4) (c := c) (s := s) (L := L) hR (y := 1) h2
  have q1 := k_isSign (X := X) (d := d + 4) (c := c) (s := s) (I := I) (L := L) (R := R) (y := y)
  rw [if_neg h0] at q1
  clear h0
  simp (disch := omega) only [e_X3_passes_0, e_X3_passes_0x, e_X3_passes_1, e_X3_passes_4, e_X3_passes_5, e_X3_passes_8, e_X3_passes_11, e_X3_passes_11x, e_X3_passes_12, e_X3_passes_13, e_X3_passes_16, e_X3_passes_17, e_X3_passes_17x, e_X3_passes_18, e_X3_passes_21, e_X3_passes_24, e_X3_passes_25, zcll_s, zpush_s, zpush_n, zinv_i, zinv_l, zinv_r, zinv_x, zcats_nil, zcats_i, zcats_l, zcats_r, zcats_x, Nat.le_refl, and_self, true_and, and_true, zok_1, zok_20, zok_21, eq_self, Nat.reduceAdd, Nat.reduceLeDiff, Nat.zero_le, if_true, if_false, zw3_id, if_pos, if_neg, zand_t, tg_1, tg_3, rr_3_0 hR, q, q1]
theorem k_passes1 (hR : Rok R) (h : TpC I B n p) {y : Int} (h0 : I 1 4 = 3 ∧ I 1 7 = y) : ∃ I1, zrun X (d + 6) 37 [zr (some 3), zi y] (c, s, I, L, R) = some (some (zi 1), (c, s, I1, L, R)) ∧ TpC I1 B n (tT B n p) ∧ FxT I I1 := by
  have q1 := k_isSign (X := X) (d := d + 4) (c := c) (s := s) (I := I) (L := L) (R := R) (y := y)
  rw [if_pos h0] at q1
  have htt := @tT_g n p B h.2.1
  obtain ⟨I1, g1, g2, g3⟩ := k_next (X := X) (d := d) (c := c) (s := s) (L := L) hR h.1 htt.2.1 h.2.2.2.1
  refine ⟨I1, st_X3_passes ?_, g2, g3⟩
  clear h0 htt
  simp (disch := omega) only [e_X3_passes_0, e_X3_passes_0x, e_X3_passes_1, e_X3_passes_4, e_X3_passes_5, e_X3_passes_8, e_X3_passes_11, e_X3_passes_11x, e_X3_passes_12, e_X3_passes_13, e_X3_passes_16, e_X3_passes_17, e_X3_passes_17x, e_X3_passes_18, e_X3_passes_21, e_X3_passes_24, e_X3_passes_25, zcll_s, zpush_s, zpush_n, zinv_i, zinv_l, zinv_r, zinv_x, zcats_nil, zcats_i, zcats_l, zcats_r, zcats_x, Nat.le_refl, and_self, true_and, and_true, zok_1, zok_20, zok_21, eq_self, Nat.reduceAdd, Nat.reduceLeDiff, Nat.zero_le, if_true, if_false, zw3_id, if_pos, if_neg, zand_t, tg_1, tg_3, rr_3_0 hR, g1, q1]
end
