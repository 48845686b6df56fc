/-! The class: exact, sum, reached. -/
section
variable {X : ZX} {d c s : Nat} {I L I1 L1 I2 L2 : ZI} {R R1 R2 : ZR} {call : ZC} {w b p q : Nat} {M : MD} {f : Nat → Int} {x t : Int} {B : Prop}
theorem q_power (lots n bd : Int) (hn : n < 1000) : ∀ (j : Nat) (k v : Int), (n - k).toNat = j → 0 ≤ k → V X call mX11_powerIsAbove 19 [zi lots, zi n, zl bd, zx 0, zl (bd / lots), zx 0, zl v, zx 0, zi k] [] (c, s, I, L, R) (fun r => r = (some (zi (cPw lots bd j v)), (c, s, I, L, R))) := by
  intro j
  induction j with
  | zero =>
    intro k v h1 h2
    rw [e_X11_powerIsAbove_19]
    simp (disch := omega) only [e_X11_powerIsAbove_0, e_X11_powerIsAbove_1, e_X11_powerIsAbove_2, e_X11_powerIsAbove_5, e_X11_powerIsAbove_6, e_X11_powerIsAbove_7, e_X11_powerIsAbove_8, e_X11_powerIsAbove_9, e_X11_powerIsAbove_10, e_X11_powerIsAbove_11, e_X11_powerIsAbove_13, e_X11_powerIsAbove_14, e_X11_powerIsAbove_16, e_X11_powerIsAbove_17, e_X11_powerIsAbove_21, e_X11_powerIsAbove_22, e_X11_powerIsAbove_25, e_X11_powerIsAbove_27, e_X11_powerIsAbove_29, e_X11_powerIsAbove_30, e_X11_powerIsAbove_33, e_X11_powerIsAbove_34, e_X11_powerIsAbove_35, e_X11_powerIsAbove_37, e_X11_powerIsAbove_38, e_X11_powerIsAbove_39, e_X11_powerIsAbove_40, e_X11_powerIsAbove_42, e_X11_powerIsAbove_45, e_X11_powerIsAbove_48, e_X11_powerIsAbove_49, zcll_s, zpush_s, zpush_n, zinv_i, zinv_l, zinv_r, zinv_x, zcats_nil, zcats_i, zcats_l, zcats_r, zcats_x, Nat.le_refl, and_self, true_and, and_true, zok_1, zok_20, zok_21, eq_self, Nat.reduceAdd, Nat.reduceLeDiff, Nat.zero_le, if_true, if_false, zw3_id, if_pos, if_neg, zand_t]
    rfl
  | succ j ih =>
    intro k v h1 h2
    unfold cPw
    rw [e_X11_powerIsAbove_19]
    by_cases q : bd / lots < v
    · rw [if_pos q]
      simp (disch := omega) only [e_X11_powerIsAbove_0, e_X11_powerIsAbove_1, e_X11_powerIsAbove_2, e_X11_powerIsAbove_5, e_X11_powerIsAbove_6, e_X11_powerIsAbove_7, e_X11_powerIsAbove_8, e_X11_powerIsAbove_9, e_X11_powerIsAbove_10, e_X11_powerIsAbove_11, e_X11_powerIsAbove_13, e_X11_powerIsAbove_14, e_X11_powerIsAbove_16, e_X11_powerIsAbove_17, e_X11_powerIsAbove_21, e_X11_powerIsAbove_22, e_X11_powerIsAbove_25, e_X11_powerIsAbove_27, e_X11_powerIsAbove_29, e_X11_powerIsAbove_30, e_X11_powerIsAbove_33, e_X11_powerIsAbove_34, e_X11_powerIsAbove_35, e_X11_powerIsAbove_37, e_X11_powerIsAbove_38, e_X11_powerIsAbove_39, e_X11_powerIsAbove_40, e_X11_powerIsAbove_42, e_X11_powerIsAbove_45, e_X11_powerIsAbove_48, e_X11_powerIsAbove_49, zcll_s, zpush_s, zpush_n, zinv_i, zinv_l, zinv_r, zinv_x, zcats_nil, zcats_i, zcats_l, zcats_r, zcats_x, Nat.le_refl, and_self, true_and, and_true, zok_1, zok_20, zok_21, eq_self, Nat.reduceAdd, Nat.reduceLeDiff, Nat.zero_le, if_true, if_false, zw3_id, if_pos, if_neg, zand_t, zcmpl_le]
    · rw [if_neg q]
      simp (disch := omega) only [e_X11_powerIsAbove_0, e_X11_powerIsAbove_1, e_X11_powerIsAbove_2, e_X11_powerIsAbove_5, e_X11_powerIsAbove_6, e_X11_powerIsAbove_7, e_X11_powerIsAbove_8, e_X11_powerIsAbove_9, e_X11_powerIsAbove_10, e_X11_powerIsAbove_11, e_X11_powerIsAbove_13, e_X11_powerIsAbove_14, e_X11_powerIsAbove_16, e_X11_powerIsAbove_17, e_X11_powerIsAbove_21, e_X11_powerIsAbove_22, e_X11_powerIsAbove_25, e_X11_powerIsAbove_27, e_X11_powerIsAbove_29, e_X11_powerIsAbove_30, e_X11_powerIsAbove_33, e_X11_powerIsAbove_34, e_X11_powerIsAbove_35, e_X11_powerIsAbove_37, e_X11_powerIsAbove_38, e_X11_powerIsAbove_39, e_X11_powerIsAbove_40, e_X11_powerIsAbove_42, e_X11_powerIsAbove_45, e_X11_powerIsAbove_48, e_X11_powerIsAbove_49, zcll_s, zpush_s, zpush_n, zinv_i, zinv_l, zinv_r, zinv_x, zcats_nil, zcats_i, zcats_l, zcats_r, zcats_x, Nat.le_refl, and_self, true_and, and_true, zok_1, zok_20, zok_21, eq_self, Nat.reduceAdd, Nat.reduceLeDiff, Nat.zero_le, if_true, if_false, zw3_id, if_pos, if_neg, zand_t, zcmpl_le]
      exact ih (k + 1) _ (by omega) (by omega)
theorem k_power2 (lots n bd : Int) (hl : 1 ≤ lots) (hl1 : lots ≤ 20) (hn : n < 1000) (hb : 0 ≤ bd) (hb1 : bd ≤ 1000000000000000000) : zrun X (d + 1) 111 [zi lots, zi n, zl bd] (c, s, I, L, R) = some (some (zi (cPw lots bd n.toNat 1)), (c, s, I, L, R)) := by
  refine st_X11_powerIsAbove ?_
  have hdv : zdiv6 bd lots = bd / lots := zq_div6 (by unfold zi6; omega) hb (by omega) (by unfold zi6; omega)
  simp (disch := omega) only [e_X11_powerIsAbove_0, e_X11_powerIsAbove_1, e_X11_powerIsAbove_2, e_X11_powerIsAbove_5, e_X11_powerIsAbove_6, e_X11_powerIsAbove_7, e_X11_powerIsAbove_8, e_X11_powerIsAbove_9, e_X11_powerIsAbove_10, e_X11_powerIsAbove_11, e_X11_powerIsAbove_13, e_X11_powerIsAbove_14, e_X11_powerIsAbove_16, e_X11_powerIsAbove_17, e_X11_powerIsAbove_21, e_X11_powerIsAbove_22, e_X11_powerIsAbove_25, e_X11_powerIsAbove_27, e_X11_powerIsAbove_29, e_X11_powerIsAbove_30, e_X11_powerIsAbove_33, e_X11_powerIsAbove_34, e_X11_powerIsAbove_35, e_X11_powerIsAbove_37, e_X11_powerIsAbove_38, e_X11_powerIsAbove_39, e_X11_powerIsAbove_40, e_X11_powerIsAbove_42, e_X11_powerIsAbove_45, e_X11_powerIsAbove_48, e_X11_powerIsAbove_49, zcll_s, zpush_s, zpush_n, zinv_i, zinv_l, zinv_r, zinv_x, zcats_nil, zcats_i, zcats_l, zcats_r, zcats_x, Nat.le_refl, and_self, true_and, and_true, zok_1, zok_20, zok_21, eq_self, Nat.reduceAdd, Nat.reduceLeDiff, Nat.zero_le, if_true, if_false, zw3_id, if_pos, if_neg, zand_t, hdv]
  exact q_power (X := X) (call := zrun X d) lots n bd hn n.toNat 0 1 (by omega) (by omega)
/-- the class's answer and what it leaves -/
def KE (B : Prop) (I L : ZI) (R : ZR) (b : Nat) (M : MD) (I1 L1 : ZI) (R1 : ZR) (p q : Nat) : Prop := KR I L I1 L1 ∧ SwR R R1 p q ∧ ClA B I1 R1 b M
theorem KE_r (hSw : SwR R R p q) (h : ClA B I R b M) : KE B I L R b M I L R p q := ⟨⟨KT_r, fun _ _ _ => rfl⟩, hSw, h⟩
theorem k_exact (h : ClA B I R b M) (hSw : SwR R R p q) (g n : Int) : ∃ I1 L1 R1 p q, zrun X (d + 8) 93 [zr (some 0), zi g, zi n] (c, s, I, L, R) = some (some (zl (aExact B M g n)), (c, s, I1, L1, R1)) ∧ KE B I L R b M I1 L1 R1 p q := by
  have hG := k_isGoal (X := X) (d := d + 6) (c := c) (s := s) (L := L) h g
  unfold aExact
  by_cases h1 : mIsG B M g
  · rw [zB_t h1] at hG
    by_cases h2 : 0 ≤ n ∧ n ≤ 60
    · rw [if_pos ⟨h1, h2⟩]
      have hS := ClA_S h h1.1
      obtain ⟨hR, hb, g1, g2, g3, hM, hk, hT⟩ := id hS
      have tt := tt_model hb
      have e0 := hM.1
      have hl := hk.1
      have hP := k_power2 (X := X) (d := d + 6) (c := c) (s := s) (I := I) (L := L) (R := R) M.1 n 1000000000000000000 hl.1 hl.2 (by omega) (by omega) (by omega)
      rcases cPw_m (lots := M.1) (b := 1000000000000000000) hl.1 (by omega) n.toNat 1 (by omega) (by omega) with ⟨r1, r2⟩ | ⟨r1, r2, r3⟩
      · rw [if_pos r2]
        rw [r1] at hP
        refine ⟨I, L, R, p, q, st_X11_exact ?_, KE_r hSw h⟩
        simp (disch := omega) only [e_X11_exact_0, e_X11_exact_0x, e_X11_exact_1, e_X11_exact_2, e_X11_exact_5, e_X11_exact_8, e_X11_exact_9, e_X11_exact_12, e_X11_exact_15, e_X11_exact_18, e_X11_exact_19, e_X11_exact_19x, e_X11_exact_20, e_X11_exact_23, e_X11_exact_26, e_X11_exact_27, e_X11_exact_30, e_X11_exact_33, e_X11_exact_36, e_X11_exact_39, e_X11_exact_42, e_X11_exact_42x, e_X11_exact_43, e_X11_exact_46, e_X11_exact_47, e_X11_exact_48, e_X11_exact_51, zcll_s, zpush_s, zpush_n, zinv_i, zinv_l, zinv_r, zinv_x, zcats_nil, zcats_i, zcats_l, zcats_r, zcats_x, Nat.le_refl, and_self, true_and, and_true, zok_1, zok_20, zok_21, eq_self, Nat.reduceAdd, Nat.reduceLeDiff, Nat.zero_le, if_true, if_false, zw3_id, if_pos, if_neg, zand_t, tg_0, hG, k_isLength, zB_t, g1, tt.1, e0, hP]
      · rw [if_neg r2]
        rw [r1] at hP
        rw [Int.mul_one] at r3
        obtain ⟨g, rfl⟩ := Int.eq_ofNat_of_zero_le h1.2.1
        rw [exact_eq hk n r3]
        obtain ⟨I1, L1, R2, p2, q2, u1, u2, u3, u4⟩ := k_holding (X := X) (d := d) (c := c) (s := s) (L := L) hSw hS (g : Int) n (by omega) h1.2.2 h2.1 (by omega)
        rw [Int.toNat_natCast] at u1
        refine ⟨I1, L1, R2, p2, q2, st_X11_exact ?_, u3, u2, Or.inl ⟨h1.1, SwR_S u2 (ClS_k hS u3.1 u4)⟩⟩
        simp (disch := omega) only [e_X11_exact_0, e_X11_exact_0x, e_X11_exact_1, e_X11_exact_2, e_X11_exact_5, e_X11_exact_8, e_X11_exact_9, e_X11_exact_12, e_X11_exact_15, e_X11_exact_18, e_X11_exact_19, e_X11_exact_19x, e_X11_exact_20, e_X11_exact_23, e_X11_exact_26, e_X11_exact_27, e_X11_exact_30, e_X11_exact_33, e_X11_exact_36, e_X11_exact_39, e_X11_exact_42, e_X11_exact_42x, e_X11_exact_43, e_X11_exact_46, e_X11_exact_47, e_X11_exact_48, e_X11_exact_51, zcll_s, zpush_s, zpush_n, zinv_i, zinv_l, zinv_r, zinv_x, zcats_nil, zcats_i, zcats_l, zcats_r, zcats_x, Nat.le_refl, and_self, true_and, and_true, zok_1, zok_20, zok_21, eq_self, Nat.reduceAdd, Nat.reduceLeDiff, Nat.zero_le, if_true, if_false, zw3_id, if_pos, if_neg, zand_t, tg_0, tg_270, rr_0_4 hR, hG, k_isLength, zB_t, g1, tt.1, e0, hP, u1]
    · rw [if_neg (fun z => h2 z.2)]
      refine ⟨I, L, R, p, q, st_X11_exact ?_, KE_r hSw h⟩
      simp (disch := omega) only [e_X11_exact_0, e_X11_exact_0x, e_X11_exact_1, e_X11_exact_2, e_X11_exact_5, e_X11_exact_8, e_X11_exact_9, e_X11_exact_12, e_X11_exact_15, e_X11_exact_18, e_X11_exact_19, e_X11_exact_19x, e_X11_exact_20, e_X11_exact_23, e_X11_exact_26, e_X11_exact_27, e_X11_exact_30, e_X11_exact_33, e_X11_exact_36, e_X11_exact_39, e_X11_exact_42, e_X11_exact_42x, e_X11_exact_43, e_X11_exact_46, e_X11_exact_47, e_X11_exact_48, e_X11_exact_51, zcll_s, zpush_s, zpush_n, zinv_i, zinv_l, zinv_r, zinv_x, zcats_nil, zcats_i, zcats_l, zcats_r, zcats_x, Nat.le_refl, and_self, true_and, and_true, zok_1, zok_20, zok_21, eq_self, Nat.reduceAdd, Nat.reduceLeDiff, Nat.zero_le, if_true, if_false, zw3_id, if_pos, if_neg, zand_t, tg_0, hG, k_isLength, zB_t, zB_f]
  · rw [zB_f h1] at hG
    rw [if_neg (fun z => h1 z.1)]
    refine ⟨I, L, R, p, q, st_X11_exact ?_, KE_r hSw h⟩
    simp (disch := omega) only [e_X11_exact_0, e_X11_exact_0x, e_X11_exact_1, e_X11_exact_2, e_X11_exact_5, e_X11_exact_8, e_X11_exact_9, e_X11_exact_12, e_X11_exact_15, e_X11_exact_18, e_X11_exact_19, e_X11_exact_19x, e_X11_exact_20, e_X11_exact_23, e_X11_exact_26, e_X11_exact_27, e_X11_exact_30, e_X11_exact_33, e_X11_exact_36, e_X11_exact_39, e_X11_exact_42, e_X11_exact_42x, e_X11_exact_43, e_X11_exact_46, e_X11_exact_47, e_X11_exact_48, e_X11_exact_51, zcll_s, zpush_s, zpush_n, zinv_i, zinv_l, zinv_r, zinv_x, zcats_nil, zcats_i, zcats_l, zcats_r, zcats_x, Nat.le_refl, and_self, true_and, and_true, zok_1, zok_20, zok_21, eq_self, Nat.reduceAdd, Nat.reduceLeDiff, Nat.zero_le, if_true, if_false, zw3_id, if_pos, if_neg, zand_t, tg_0, hG, k_isLength, zB_t, zB_f]
theorem k_sum (h : ClA B I R b M) (hSw : SwR R R p q) (v n : Int) : ∃ I1 L1 R1 p q, zrun X (d + 8) 94 [zr (some 0), zi v, zi n] (c, s, I, L, R) = some (some (zl (aSum B M v n)), (c, s, I1, L1, R1)) ∧ KE B I L R b M I1 L1 R1 p q := by
  have hG := k_isVar (X := X) (d := d + 6) (c := c) (s := s) (L := L) h v
  unfold aSum
  by_cases h1 : mIsV B M v
  · rw [zB_t h1] at hG
    by_cases h2 : 0 ≤ n ∧ n ≤ 60
    · rw [if_pos ⟨h1, h2⟩]
      have hS := ClA_S h h1.1
      obtain ⟨hR, hb, g1, g2, g3, hM, hk, hT⟩ := id hS
      have tt := tt_model hb
      have e0 := hM.1
      have hl := hk.1
      have hP := k_power2 (X := X) (d := d + 6) (c := c) (s := s) (I := I) (L := L) (R := R) M.1 n 100000000000000000 hl.1 hl.2 (by omega) (by omega) (by omega)
      rcases cPw_m (lots := M.1) (b := 100000000000000000) hl.1 (by omega) n.toNat 1 (by omega) (by omega) with ⟨r1, r2⟩ | ⟨r1, r2, r3⟩
      · rw [if_pos r2]
        rw [r1] at hP
        refine ⟨I, L, R, p, q, st_X11_sum ?_, KE_r hSw h⟩
        simp (disch := omega) only [e_X11_sum_0, e_X11_sum_0x, e_X11_sum_1, e_X11_sum_2, e_X11_sum_5, e_X11_sum_8, e_X11_sum_9, e_X11_sum_12, e_X11_sum_15, e_X11_sum_18, e_X11_sum_19, e_X11_sum_19x, e_X11_sum_20, e_X11_sum_23, e_X11_sum_26, e_X11_sum_27, e_X11_sum_30, e_X11_sum_33, e_X11_sum_36, e_X11_sum_39, e_X11_sum_42, e_X11_sum_42x, e_X11_sum_43, e_X11_sum_46, e_X11_sum_47, e_X11_sum_48, e_X11_sum_51, zcll_s, zpush_s, zpush_n, zinv_i, zinv_l, zinv_r, zinv_x, zcats_nil, zcats_i, zcats_l, zcats_r, zcats_x, Nat.le_refl, and_self, true_and, and_true, zok_1, zok_20, zok_21, eq_self, Nat.reduceAdd, Nat.reduceLeDiff, Nat.zero_le, if_true, if_false, zw3_id, if_pos, if_neg, zand_t, tg_0, hG, k_isLength, zB_t, g1, tt.1, e0, hP]
      · rw [if_neg r2]
        rw [r1] at hP
        rw [Int.mul_one] at r3
        rw [sum_eq hk n (by omega)]
        obtain ⟨I1, L1, R2, p2, q2, u1, u2, u3, u4⟩ := k_total (X := X) (d := d) (c := c) (s := s) (L := L) hSw hS v n h1.2.1 h1.2.2 h2.1 (by omega)
        refine ⟨I1, L1, R2, p2, q2, st_X11_sum ?_, u3, u2, Or.inl ⟨h1.1, SwR_S u2 (ClS_k hS u3.1 u4)⟩⟩
        simp (disch := omega) only [e_X11_sum_0, e_X11_sum_0x, e_X11_sum_1, e_X11_sum_2, e_X11_sum_5, e_X11_sum_8, e_X11_sum_9, e_X11_sum_12, e_X11_sum_15, e_X11_sum_18, e_X11_sum_19, e_X11_sum_19x, e_X11_sum_20, e_X11_sum_23, e_X11_sum_26, e_X11_sum_27, e_X11_sum_30, e_X11_sum_33, e_X11_sum_36, e_X11_sum_39, e_X11_sum_42, e_X11_sum_42x, e_X11_sum_43, e_X11_sum_46, e_X11_sum_47, e_X11_sum_48, e_X11_sum_51, zcll_s, zpush_s, zpush_n, zinv_i, zinv_l, zinv_r, zinv_x, zcats_nil, zcats_i, zcats_l, zcats_r, zcats_x, Nat.le_refl, and_self, true_and, and_true, zok_1, zok_20, zok_21, eq_self, Nat.reduceAdd, Nat.reduceLeDiff, Nat.zero_le, if_true, if_false, zw3_id, if_pos, if_neg, zand_t, tg_0, tg_270, rr_0_4 hR, hG, k_isLength, zB_t, g1, tt.1, e0, hP, u1]
    · rw [if_neg (fun z => h2 z.2)]
      refine ⟨I, L, R, p, q, st_X11_sum ?_, KE_r hSw h⟩
      simp (disch := omega) only [e_X11_sum_0, e_X11_sum_0x, e_X11_sum_1, e_X11_sum_2, e_X11_sum_5, e_X11_sum_8, e_X11_sum_9, e_X11_sum_12, e_X11_sum_15, e_X11_sum_18, e_X11_sum_19, e_X11_sum_19x, e_X11_sum_20, e_X11_sum_23, e_X11_sum_26, e_X11_sum_27, e_X11_sum_30, e_X11_sum_33, e_X11_sum_36, e_X11_sum_39, e_X11_sum_42, e_X11_sum_42x, e_X11_sum_43, e_X11_sum_46, e_X11_sum_47, e_X11_sum_48, e_X11_sum_51, zcll_s, zpush_s, zpush_n, zinv_i, zinv_l, zinv_r, zinv_x, zcats_nil, zcats_i, zcats_l, zcats_r, zcats_x, Nat.le_refl, and_self, true_and, and_true, zok_1, zok_20, zok_21, eq_self, Nat.reduceAdd, Nat.reduceLeDiff, Nat.zero_le, if_true, if_false, zw3_id, if_pos, if_neg, zand_t, tg_0, hG, k_isLength, zB_t, zB_f]
  · rw [zB_f h1] at hG
    rw [if_neg (fun z => h1 z.1)]
    refine ⟨I, L, R, p, q, st_X11_sum ?_, KE_r hSw h⟩
    simp (disch := omega) only [e_X11_sum_0, e_X11_sum_0x, e_X11_sum_1, e_X11_sum_2, e_X11_sum_5, e_X11_sum_8, e_X11_sum_9, e_X11_sum_12, e_X11_sum_15, e_X11_sum_18, e_X11_sum_19, e_X11_sum_19x, e_X11_sum_20, e_X11_sum_23, e_X11_sum_26, e_X11_sum_27, e_X11_sum_30, e_X11_sum_33, e_X11_sum_36, e_X11_sum_39, e_X11_sum_42, e_X11_sum_42x, e_X11_sum_43, e_X11_sum_46, e_X11_sum_47, e_X11_sum_48, e_X11_sum_51, zcll_s, zpush_s, zpush_n, zinv_i, zinv_l, zinv_r, zinv_x, zcats_nil, zcats_i, zcats_l, zcats_r, zcats_x, Nat.le_refl, and_self, true_and, and_true, zok_1, zok_20, zok_21, eq_self, Nat.reduceAdd, Nat.reduceLeDiff, Nat.zero_le, if_true, if_false, zw3_id, if_pos, if_neg, zand_t, tg_0, hG, k_isLength, zB_t, zB_f]
/-- the class's arrays hold z -/
def BC (M : MD) (I : ZI) (z : BF) : Prop := (∀ i, i < z.1 → I 274 i = z.2.1 i) ∧ Ag (mN M) (I 273) z.2.2
def KS (I I1 : ZI) : Prop := ∀ a, a ≠ 266 → a ≠ 267 → a ≠ 268 → a ≠ 273 → a ≠ 274 → a ≠ 337 → I1 a = I a
theorem KS_t (h1 : KS I I1) (h2 : KS I1 I2) : KS I I2 := fun a q1 q2 q3 q4 q5 q6 => (h2 a q1 q2 q3 q4 q5 q6).trans (h1 a q1 q2 q3 q4 q5 q6)
theorem KS_T (h : KT I I1) : KS I I1 := fun a q1 q2 q3 _ _ q6 => h a q1 q2 q3 q6
theorem KS_S (h : ClS I R b M) (hK : KS I I1) (hT : Tab I1 M) : ClS I1 R b M := ⟨h.1, h.2.1, h.2.2.1, h.2.2.2.1, h.2.2.2.2.1, ClM_c h.2.2.2.2.2.2.1 (fun a q1 q2 => by have := h.2.1; exact hK a (by omega) (by omega) (by omega) (by omega) (by omega) (by omega)) h.2.2.2.2.2.1, h.2.2.2.2.2.2.1, hT⟩
theorem k_see (hR : Rok R) (hk : MOK M) {z : BF} (hZ : BZ M z) (hB : BC M I z) (st : Int) (h0 : 0 ≤ st) (h1 : st < mPr M.2.1) : ∃ I1, zrun X (d + 1) 42 [zr (some 270), zi st, zi (z.1 : Int)] (c, s, I, L, R) = some (some (zi ((mSee st z).1 : Int)), (c, s, I1, L, R)) ∧ (∀ a, a ≠ 273 → a ≠ 274 → I1 a = I a) ∧ BC M I1 (mSee st z) := by
  have hp := hk.2.2.2.1
  have hN : st.toNat < mN M := by unfold mN; omega
  have hm := hB.2 _ hN
  have hm01 := hZ.2.2.1 _ hN
  have hzN := hZ.1
  have eN : ((mN M : Nat) : Int) = mPr M.2.1 := by unfold mN; omega
  by_cases q0 : z.2.2 st.toNat = 0
  · have hlt := BZ_n hZ hN q0
    have esee : mSee st z = (z.1 + 1, fU z.2.1 z.1 st, fU z.2.2 st.toNat 1) := if_pos q0
    rw [q0] at hm
    rw [esee]
    refine ⟨zu (zu I 273 st.toNat 1) 274 z.1 st, st_X4_see ?_, fun a ha hb => by rw [zu_n hb, zu_n ha], ?_, ?_⟩
    · have e1 : (z.1 : Int) + 1 = ((z.1 + 1 : Nat) : Int) := by omega
      simp (disch := omega) only [e_X4_see_0, e_X4_see_1, e_X4_see_4, e_X4_see_5, e_X4_see_8, e_X4_see_11, e_X4_see_11x, e_X4_see_12, e_X4_see_15, e_X4_see_16, e_X4_see_17, e_X4_see_20, e_X4_see_21, e_X4_see_24, e_X4_see_27, e_X4_see_28, e_X4_see_29, e_X4_see_29x, e_X4_see_30, e_X4_see_33, e_X4_see_34, e_X4_see_35, e_X4_see_36, e_X4_see_36x, e_X4_see_37, e_X4_see_40, e_X4_see_41, e_X4_see_42, e_X4_see_43, e_X4_see_44, e_X4_see_45, e_X4_see_46, zcll_s, zpush_s, zpush_n, zinv_i, zinv_l, zinv_r, zinv_x, zcats_nil, zcats_i, zcats_l, zcats_r, zcats_x, Nat.le_refl, and_self, true_and, and_true, zok_1, zok_20, zok_21, eq_self, Nat.reduceAdd, Nat.reduceLeDiff, Nat.zero_le, if_true, if_false, zw3_id, if_pos, if_neg, zand_t, tg_270, tg_273, tn_273, tg_274, tn_274, rr_270_3 hR, rr_270_4 hR, Int.toNat_natCast, hm, or_true, true_or, e1]
    · intro i hi
      have hi : i < z.1 + 1 := hi
      show _ = fU z.2.1 z.1 st i
      unfold fU
      by_cases e1 : i = z.1
      · rw [if_pos e1, e1, zu_s]
      · rw [if_neg e1, zu_k e1, zu_a (by omega)]
        exact hB.1 i (by omega)
    · intro i hi
      show _ = fU z.2.2 st.toNat 1 i
      unfold fU
      rw [zu_a (by omega)]
      by_cases e1 : i = st.toNat
      · rw [if_pos e1, e1, zu_s]
      · rw [if_neg e1, zu_k e1]
        exact hB.2 i hi
  · have esee : mSee st z = z := if_neg q0
    have hm1 : I 273 st.toNat = 1 := by omega
    rw [esee]
    refine ⟨I, st_X4_see ?_, fun _ _ _ => rfl, hB⟩
    simp (disch := omega) only [e_X4_see_0, e_X4_see_1, e_X4_see_4, e_X4_see_5, e_X4_see_8, e_X4_see_11, e_X4_see_11x, e_X4_see_12, e_X4_see_15, e_X4_see_16, e_X4_see_17, e_X4_see_20, e_X4_see_21, e_X4_see_24, e_X4_see_27, e_X4_see_28, e_X4_see_29, e_X4_see_29x, e_X4_see_30, e_X4_see_33, e_X4_see_34, e_X4_see_35, e_X4_see_36, e_X4_see_36x, e_X4_see_37, e_X4_see_40, e_X4_see_41, e_X4_see_42, e_X4_see_43, e_X4_see_44, e_X4_see_45, e_X4_see_46, zcll_s, zpush_s, zpush_n, zinv_i, zinv_l, zinv_r, zinv_x, zcats_nil, zcats_i, zcats_l, zcats_r, zcats_x, Nat.le_refl, and_self, true_and, and_true, zok_1, zok_20, zok_21, eq_self, Nat.reduceAdd, Nat.reduceLeDiff, Nat.zero_le, if_true, if_false, zw3_id, if_pos, if_neg, zand_t, tg_270, tg_273, tn_273, tg_274, tn_274, rr_270_3 hR, rr_270_4 hR, Int.toNat_natCast, hm1, or_true, true_or]
theorem q_come2 (k : Nat) (t : Int) {Q : Option ZV × ZS → Prop} : ∀ (j : Nat) (e : Int) (z : BF) (I : ZI), (M.1 - e).toNat = j → 0 ≤ e → e ≤ M.1 → ClS I R b M → BZ M z → BC M I z → k < z.1 → z.2.1 k = t → (∀ I1 z1, z1 = mSeeD M t j e z → KS I I1 → Tab I1 M → BZ M z1 → BC M I1 z1 → V X (zrun X (d + 5)) mX4_statesComeTo 99 [zr (some 270), zi (z1.1 : Int), zi (k : Int), zi t, zi M.1] [] (c, s, I1, L, R) Q) → V X (zrun X (d + 5)) mX4_statesComeTo 59 [zr (some 270), zi (z.1 : Int), zi (k : Int), zi t, zi e] [] (c, s, I, L, R) Q := by
  intro j
  induction j with
  | zero =>
    intro e z I h1 h2 h3 hS hZ hB hkz ht hQ
    obtain ⟨hR, hb, g1, g2, g3, hM, hk, hT⟩ := id hS
    have tt := tt_model hb
    have e0 := hM.1
    have ee : e = M.1 := by omega
    rw [e_X4_statesComeTo_59]
    simp (disch := omega) only [e_X4_statesComeTo_0, e_X4_statesComeTo_1, e_X4_statesComeTo_3, e_X4_statesComeTo_6, e_X4_statesComeTo_9, e_X4_statesComeTo_9x, e_X4_statesComeTo_10, e_X4_statesComeTo_13, e_X4_statesComeTo_14, e_X4_statesComeTo_15, e_X4_statesComeTo_16, e_X4_statesComeTo_19, e_X4_statesComeTo_22, e_X4_statesComeTo_22x, e_X4_statesComeTo_23, e_X4_statesComeTo_23x, e_X4_statesComeTo_24, e_X4_statesComeTo_27, e_X4_statesComeTo_30, e_X4_statesComeTo_31, e_X4_statesComeTo_34, e_X4_statesComeTo_35, e_X4_statesComeTo_36, e_X4_statesComeTo_38, e_X4_statesComeTo_39, e_X4_statesComeTo_42, e_X4_statesComeTo_43, e_X4_statesComeTo_46, e_X4_statesComeTo_49, e_X4_statesComeTo_49x, e_X4_statesComeTo_50, e_X4_statesComeTo_53, e_X4_statesComeTo_54, e_X4_statesComeTo_55, e_X4_statesComeTo_56, e_X4_statesComeTo_57, e_X4_statesComeTo_61, e_X4_statesComeTo_61x, e_X4_statesComeTo_62, e_X4_statesComeTo_65, e_X4_statesComeTo_68, e_X4_statesComeTo_71, e_X4_statesComeTo_74, e_X4_statesComeTo_74x, e_X4_statesComeTo_75, e_X4_statesComeTo_75x, e_X4_statesComeTo_76, e_X4_statesComeTo_79, e_X4_statesComeTo_80, e_X4_statesComeTo_82, e_X4_statesComeTo_85, e_X4_statesComeTo_88, e_X4_statesComeTo_89, e_X4_statesComeTo_92, e_X4_statesComeTo_93, e_X4_statesComeTo_96, e_X4_statesComeTo_102, e_X4_statesComeTo_105, e_X4_statesComeTo_106, zcll_s, zpush_s, zpush_n, zinv_i, zinv_l, zinv_r, zinv_x, zcats_nil, zcats_i, zcats_l, zcats_r, zcats_x, Nat.le_refl, and_self, true_and, and_true, zok_1, zok_20, zok_21, eq_self, Nat.reduceAdd, Nat.reduceLeDiff, Nat.zero_le, if_true, if_false, zw3_id, if_pos, if_neg, zand_t, tg_134, tg_270, rr_270_0 hR, g2, tt.1, e0]
    rw [ee]
    exact hQ I z rfl (fun _ _ _ _ _ _ _ => rfl) hT hZ hB
  | succ j ih =>
    intro e z I h1 h2 h3 hS hZ hB hkz ht hQ
    obtain ⟨hR, hb, g1, g2, g3, hM, hk, hT⟩ := id hS
    have tt := tt_model hb
    have e0 := hM.1
    have hl := hk.1
    have hz := hZ.2.1 k hkz
    rw [ht] at hz
    obtain ⟨I1, q1, q2, q3⟩ := k_cell (X := X) (d := d + 1) (c := c) (s := s) (L := L) hS t e hz.1 hz.2 h2 (by omega)
    have e1 := (cellV_g hk (e := e) hz.1).1
    have hs := mS_in (M := M) hk.2.2.1 (d := e) hz.1
    have hB1 : BC M I1 z := ⟨fun i hi => by rw [q2 274 (by omega) (by omega) (by omega) (by omega)]; exact hB.1 i hi, fun i hi => by rw [q2 273 (by omega) (by omega) (by omega) (by omega)]; exact hB.2 i hi⟩
    obtain ⟨I2, r1, r2, r3⟩ := k_see (X := X) (d := d + 4) (c := c) (s := s) (L := L) hR hk hZ hB1 (mS M t e) hs.1 hs.2
    have hZs := BZ_s hZ hs.1 hs.2
    have hT2 : Tab I2 M := Tab_c q3 (r2 266 (by omega) (by omega)) (r2 337 (by omega) (by omega))
    have hK2 : KS I I2 := fun a h1 h2 h3 h4 h5 h6 => by rw [r2 a h4 h5]; exact q2 a h1 h2 h3 h6
    unfold mSeeD at hQ
    rw [e_X4_statesComeTo_59]
    simp (disch := omega) only [e_X4_statesComeTo_0, e_X4_statesComeTo_1, e_X4_statesComeTo_3, e_X4_statesComeTo_6, e_X4_statesComeTo_9, e_X4_statesComeTo_9x, e_X4_statesComeTo_10, e_X4_statesComeTo_13, e_X4_statesComeTo_14, e_X4_statesComeTo_15, e_X4_statesComeTo_16, e_X4_statesComeTo_19, e_X4_statesComeTo_22, e_X4_statesComeTo_22x, e_X4_statesComeTo_23, e_X4_statesComeTo_23x, e_X4_statesComeTo_24, e_X4_statesComeTo_27, e_X4_statesComeTo_30, e_X4_statesComeTo_31, e_X4_statesComeTo_34, e_X4_statesComeTo_35, e_X4_statesComeTo_36, e_X4_statesComeTo_38, e_X4_statesComeTo_39, e_X4_statesComeTo_42, e_X4_statesComeTo_43, e_X4_statesComeTo_46, e_X4_statesComeTo_49, e_X4_statesComeTo_49x, e_X4_statesComeTo_50, e_X4_statesComeTo_53, e_X4_statesComeTo_54, e_X4_statesComeTo_55, e_X4_statesComeTo_56, e_X4_statesComeTo_57, e_X4_statesComeTo_61, e_X4_statesComeTo_61x, e_X4_statesComeTo_62, e_X4_statesComeTo_65, e_X4_statesComeTo_68, e_X4_statesComeTo_71, e_X4_statesComeTo_74, e_X4_statesComeTo_74x, e_X4_statesComeTo_75, e_X4_statesComeTo_75x, e_X4_statesComeTo_76, e_X4_statesComeTo_79, e_X4_statesComeTo_80, e_X4_statesComeTo_82, e_X4_statesComeTo_85, e_X4_statesComeTo_88, e_X4_statesComeTo_89, e_X4_statesComeTo_92, e_X4_statesComeTo_93, e_X4_statesComeTo_96, e_X4_statesComeTo_102, e_X4_statesComeTo_105, e_X4_statesComeTo_106, zcll_s, zpush_s, zpush_n, zinv_i, zinv_l, zinv_r, zinv_x, zcats_nil, zcats_i, zcats_l, zcats_r, zcats_x, Nat.le_refl, and_self, true_and, and_true, zok_1, zok_20, zok_21, eq_self, Nat.reduceAdd, Nat.reduceLeDiff, Nat.zero_le, if_true, if_false, zw3_id, if_pos, if_neg, zand_t, tg_134, tg_270, rr_270_0 hR, g2, tt.1, e0, q1, k_stateIn, e1, r1]
    refine ih (e + 1) (mSee (mS M t e) z) I2 (by omega) (by omega) (by omega) (KS_S hS hK2 hT2) hZs.1 r3 (by omega) (by rw [hZs.2.2 k hkz, ht]) ?_
    intro I3 z3 u1 u2
    exact hQ I3 z3 u1 (KS_t hK2 u2)
theorem q_come1 {Q : Option ZV × ZS → Prop} : ∀ (j k : Nat) (z : BF) (I : ZI) (v3 v4 : ZV), 1000 - k = j → k ≤ 1000 → ClS I R b M → BZ M z → BC M I z → (∀ I1, KS I I1 → Tab I1 M → Q (some (zi (mBfs M j k z : Int)), (c, s, I1, L, R))) → V X (zrun X (d + 5)) mX4_statesComeTo 37 [zr (some 270), zi (z.1 : Int), zi (k : Int), v3, v4] [] (c, s, I, L, R) Q := by
  intro j
  induction j with
  | zero =>
    intro k z I v3 v4 h1 h2 hS hZ hB hQ
    have hk := hS.2.2.2.2.2.2.1
    have hp := hk.2.2.2.1
    have hz := hZ.1
    have fin := hQ I (fun _ _ _ _ _ _ _ => rfl) hS.2.2.2.2.2.2.2
    rw [e_X4_statesComeTo_37]
    by_cases q : (z.1 : Int) ≤ k
    · simp (disch := omega) only [e_X4_statesComeTo_0, e_X4_statesComeTo_1, e_X4_statesComeTo_3, e_X4_statesComeTo_6, e_X4_statesComeTo_9, e_X4_statesComeTo_9x, e_X4_statesComeTo_10, e_X4_statesComeTo_13, e_X4_statesComeTo_14, e_X4_statesComeTo_15, e_X4_statesComeTo_16, e_X4_statesComeTo_19, e_X4_statesComeTo_22, e_X4_statesComeTo_22x, e_X4_statesComeTo_23, e_X4_statesComeTo_23x, e_X4_statesComeTo_24, e_X4_statesComeTo_27, e_X4_statesComeTo_30, e_X4_statesComeTo_31, e_X4_statesComeTo_34, e_X4_statesComeTo_35, e_X4_statesComeTo_36, e_X4_statesComeTo_38, e_X4_statesComeTo_39, e_X4_statesComeTo_42, e_X4_statesComeTo_43, e_X4_statesComeTo_46, e_X4_statesComeTo_49, e_X4_statesComeTo_49x, e_X4_statesComeTo_50, e_X4_statesComeTo_53, e_X4_statesComeTo_54, e_X4_statesComeTo_55, e_X4_statesComeTo_56, e_X4_statesComeTo_57, e_X4_statesComeTo_61, e_X4_statesComeTo_61x, e_X4_statesComeTo_62, e_X4_statesComeTo_65, e_X4_statesComeTo_68, e_X4_statesComeTo_71, e_X4_statesComeTo_74, e_X4_statesComeTo_74x, e_X4_statesComeTo_75, e_X4_statesComeTo_75x, e_X4_statesComeTo_76, e_X4_statesComeTo_79, e_X4_statesComeTo_80, e_X4_statesComeTo_82, e_X4_statesComeTo_85, e_X4_statesComeTo_88, e_X4_statesComeTo_89, e_X4_statesComeTo_92, e_X4_statesComeTo_93, e_X4_statesComeTo_96, e_X4_statesComeTo_102, e_X4_statesComeTo_105, e_X4_statesComeTo_106, zcll_s, zpush_s, zpush_n, zinv_i, zinv_l, zinv_r, zinv_x, zcats_nil, zcats_i, zcats_l, zcats_r, zcats_x, Nat.le_refl, and_self, true_and, and_true, zok_1, zok_20, zok_21, eq_self, Nat.reduceAdd, Nat.reduceLeDiff, Nat.zero_le, if_true, if_false, zw3_id, if_pos, if_neg, zand_t]
      exact fin
    · simp (disch := omega) only [e_X4_statesComeTo_0, e_X4_statesComeTo_1, e_X4_statesComeTo_3, e_X4_statesComeTo_6, e_X4_statesComeTo_9, e_X4_statesComeTo_9x, e_X4_statesComeTo_10, e_X4_statesComeTo_13, e_X4_statesComeTo_14, e_X4_statesComeTo_15, e_X4_statesComeTo_16, e_X4_statesComeTo_19, e_X4_statesComeTo_22, e_X4_statesComeTo_22x, e_X4_statesComeTo_23, e_X4_statesComeTo_23x, e_X4_statesComeTo_24, e_X4_statesComeTo_27, e_X4_statesComeTo_30, e_X4_statesComeTo_31, e_X4_statesComeTo_34, e_X4_statesComeTo_35, e_X4_statesComeTo_36, e_X4_statesComeTo_38, e_X4_statesComeTo_39, e_X4_statesComeTo_42, e_X4_statesComeTo_43, e_X4_statesComeTo_46, e_X4_statesComeTo_49, e_X4_statesComeTo_49x, e_X4_statesComeTo_50, e_X4_statesComeTo_53, e_X4_statesComeTo_54, e_X4_statesComeTo_55, e_X4_statesComeTo_56, e_X4_statesComeTo_57, e_X4_statesComeTo_61, e_X4_statesComeTo_61x, e_X4_statesComeTo_62, e_X4_statesComeTo_65, e_X4_statesComeTo_68, e_X4_statesComeTo_71, e_X4_statesComeTo_74, e_X4_statesComeTo_74x, e_X4_statesComeTo_75, e_X4_statesComeTo_75x, e_X4_statesComeTo_76, e_X4_statesComeTo_79, e_X4_statesComeTo_80, e_X4_statesComeTo_82, e_X4_statesComeTo_85, e_X4_statesComeTo_88, e_X4_statesComeTo_89, e_X4_statesComeTo_92, e_X4_statesComeTo_93, e_X4_statesComeTo_96, e_X4_statesComeTo_102, e_X4_statesComeTo_105, e_X4_statesComeTo_106, zcll_s, zpush_s, zpush_n, zinv_i, zinv_l, zinv_r, zinv_x, zcats_nil, zcats_i, zcats_l, zcats_r, zcats_x, Nat.le_refl, and_self, true_and, and_true, zok_1, zok_20, zok_21, eq_self, Nat.reduceAdd, Nat.reduceLeDiff, Nat.zero_le, if_true, if_false, zw3_id, if_pos, if_neg, zand_t]
      exact fin
  | succ j ih =>
    intro k z I v3 v4 h1 h2 hS hZ hB hQ
    have hk := hS.2.2.2.2.2.2.1
    have hR := hS.1
    have hl := hk.1
    rw [e_X4_statesComeTo_37]
    unfold mBfs at hQ
    by_cases hkz : k < z.1
    · rw [if_pos hkz] at hQ
      have hq := hB.1 k hkz
      simp (disch := omega) only [e_X4_statesComeTo_0, e_X4_statesComeTo_1, e_X4_statesComeTo_3, e_X4_statesComeTo_6, e_X4_statesComeTo_9, e_X4_statesComeTo_9x, e_X4_statesComeTo_10, e_X4_statesComeTo_13, e_X4_statesComeTo_14, e_X4_statesComeTo_15, e_X4_statesComeTo_16, e_X4_statesComeTo_19, e_X4_statesComeTo_22, e_X4_statesComeTo_22x, e_X4_statesComeTo_23, e_X4_statesComeTo_23x, e_X4_statesComeTo_24, e_X4_statesComeTo_27, e_X4_statesComeTo_30, e_X4_statesComeTo_31, e_X4_statesComeTo_34, e_X4_statesComeTo_35, e_X4_statesComeTo_36, e_X4_statesComeTo_38, e_X4_statesComeTo_39, e_X4_statesComeTo_42, e_X4_statesComeTo_43, e_X4_statesComeTo_46, e_X4_statesComeTo_49, e_X4_statesComeTo_49x, e_X4_statesComeTo_50, e_X4_statesComeTo_53, e_X4_statesComeTo_54, e_X4_statesComeTo_55, e_X4_statesComeTo_56, e_X4_statesComeTo_57, e_X4_statesComeTo_61, e_X4_statesComeTo_61x, e_X4_statesComeTo_62, e_X4_statesComeTo_65, e_X4_statesComeTo_68, e_X4_statesComeTo_71, e_X4_statesComeTo_74, e_X4_statesComeTo_74x, e_X4_statesComeTo_75, e_X4_statesComeTo_75x, e_X4_statesComeTo_76, e_X4_statesComeTo_79, e_X4_statesComeTo_80, e_X4_statesComeTo_82, e_X4_statesComeTo_85, e_X4_statesComeTo_88, e_X4_statesComeTo_89, e_X4_statesComeTo_92, e_X4_statesComeTo_93, e_X4_statesComeTo_96, e_X4_statesComeTo_102, e_X4_statesComeTo_105, e_X4_statesComeTo_106, zcll_s, zpush_s, zpush_n, zinv_i, zinv_l, zinv_r, zinv_x, zcats_nil, zcats_i, zcats_l, zcats_r, zcats_x, Nat.le_refl, and_self, true_and, and_true, zok_1, zok_20, zok_21, eq_self, Nat.reduceAdd, Nat.reduceLeDiff, Nat.zero_le, if_true, if_false, zw3_id, if_pos, if_neg, zand_t, tg_270, tg_274, tn_274, rr_270_4 hR, Int.toNat_natCast, hq]
      refine q_come2 (X := X) (d := d) k (z.2.1 k) M.1.toNat 0 z I (by omega) (by omega) (by omega) hS hZ hB hkz rfl ?_
      intro I2 z2 u1 u2 u3 u4 u5
      rw [e_X4_statesComeTo_99]
      simp (disch := omega) only [e_X4_statesComeTo_0, e_X4_statesComeTo_1, e_X4_statesComeTo_3, e_X4_statesComeTo_6, e_X4_statesComeTo_9, e_X4_statesComeTo_9x, e_X4_statesComeTo_10, e_X4_statesComeTo_13, e_X4_statesComeTo_14, e_X4_statesComeTo_15, e_X4_statesComeTo_16, e_X4_statesComeTo_19, e_X4_statesComeTo_22, e_X4_statesComeTo_22x, e_X4_statesComeTo_23, e_X4_statesComeTo_23x, e_X4_statesComeTo_24, e_X4_statesComeTo_27, e_X4_statesComeTo_30, e_X4_statesComeTo_31, e_X4_statesComeTo_34, e_X4_statesComeTo_35, e_X4_statesComeTo_36, e_X4_statesComeTo_38, e_X4_statesComeTo_39, e_X4_statesComeTo_42, e_X4_statesComeTo_43, e_X4_statesComeTo_46, e_X4_statesComeTo_49, e_X4_statesComeTo_49x, e_X4_statesComeTo_50, e_X4_statesComeTo_53, e_X4_statesComeTo_54, e_X4_statesComeTo_55, e_X4_statesComeTo_56, e_X4_statesComeTo_57, e_X4_statesComeTo_61, e_X4_statesComeTo_61x, e_X4_statesComeTo_62, e_X4_statesComeTo_65, e_X4_statesComeTo_68, e_X4_statesComeTo_71, e_X4_statesComeTo_74, e_X4_statesComeTo_74x, e_X4_statesComeTo_75, e_X4_statesComeTo_75x, e_X4_statesComeTo_76, e_X4_statesComeTo_79, e_X4_statesComeTo_80, e_X4_statesComeTo_82, e_X4_statesComeTo_85, e_X4_statesComeTo_88, e_X4_statesComeTo_89, e_X4_statesComeTo_92, e_X4_statesComeTo_93, e_X4_statesComeTo_96, e_X4_statesComeTo_102, e_X4_statesComeTo_105, e_X4_statesComeTo_106, zcll_s, zpush_s, zpush_n, zinv_i, zinv_l, zinv_r, zinv_x, zcats_nil, zcats_i, zcats_l, zcats_r, zcats_x, Nat.le_refl, and_self, true_and, and_true, zok_1, zok_20, zok_21, eq_self, Nat.reduceAdd, Nat.reduceLeDiff, Nat.zero_le, if_true, if_false, zw3_id, if_pos, if_neg, zand_t]
      rw [show (k : Int) + 1 = ((k + 1 : Nat) : Int) by omega]
      refine ih (k + 1) z2 I2 _ _ (by omega) (by omega) (KS_S hS u2 u3) u4 u5 ?_
      rw [u1]
      intro I3 w1 w2
      exact hQ I3 (KS_t u2 w1) w2
    · rw [if_neg hkz] at hQ
      have fin := hQ I (fun _ _ _ _ _ _ _ => rfl) hS.2.2.2.2.2.2.2
      simp (disch := omega) only [e_X4_statesComeTo_0, e_X4_statesComeTo_1, e_X4_statesComeTo_3, e_X4_statesComeTo_6, e_X4_statesComeTo_9, e_X4_statesComeTo_9x, e_X4_statesComeTo_10, e_X4_statesComeTo_13, e_X4_statesComeTo_14, e_X4_statesComeTo_15, e_X4_statesComeTo_16, e_X4_statesComeTo_19, e_X4_statesComeTo_22, e_X4_statesComeTo_22x, e_X4_statesComeTo_23, e_X4_statesComeTo_23x, e_X4_statesComeTo_24, e_X4_statesComeTo_27, e_X4_statesComeTo_30, e_X4_statesComeTo_31, e_X4_statesComeTo_34, e_X4_statesComeTo_35, e_X4_statesComeTo_36, e_X4_statesComeTo_38, e_X4_statesComeTo_39, e_X4_statesComeTo_42, e_X4_statesComeTo_43, e_X4_statesComeTo_46, e_X4_statesComeTo_49, e_X4_statesComeTo_49x, e_X4_statesComeTo_50, e_X4_statesComeTo_53, e_X4_statesComeTo_54, e_X4_statesComeTo_55, e_X4_statesComeTo_56, e_X4_statesComeTo_57, e_X4_statesComeTo_61, e_X4_statesComeTo_61x, e_X4_statesComeTo_62, e_X4_statesComeTo_65, e_X4_statesComeTo_68, e_X4_statesComeTo_71, e_X4_statesComeTo_74, e_X4_statesComeTo_74x, e_X4_statesComeTo_75, e_X4_statesComeTo_75x, e_X4_statesComeTo_76, e_X4_statesComeTo_79, e_X4_statesComeTo_80, e_X4_statesComeTo_82, e_X4_statesComeTo_85, e_X4_statesComeTo_88, e_X4_statesComeTo_89, e_X4_statesComeTo_92, e_X4_statesComeTo_93, e_X4_statesComeTo_96, e_X4_statesComeTo_102, e_X4_statesComeTo_105, e_X4_statesComeTo_106, zcll_s, zpush_s, zpush_n, zinv_i, zinv_l, zinv_r, zinv_x, zcats_nil, zcats_i, zcats_l, zcats_r, zcats_x, Nat.le_refl, and_self, true_and, and_true, zok_1, zok_20, zok_21, eq_self, Nat.reduceAdd, Nat.reduceLeDiff, Nat.zero_le, if_true, if_false, zw3_id, if_pos, if_neg, zand_t]
      exact fin
theorem q_come0 (hR : Rok R) {Q : Option ZV × ZS → Prop} : ∀ (j k : Nat) (g : Nat → Int) (v2 v3 v4 : ZV), 1000 - k = j → k ≤ 1000 → Ag k g (fun _ => 0) → (∀ g, Ag 1000 g (fun _ => 0) → V X call mX4_statesComeTo 22 [zr (some 270), zi 1000, v2, v3, v4] [] (c, s, zW I 273 g, L, R) Q) → V X call mX4_statesComeTo 2 [zr (some 270), zi (k : Int), v2, v3, v4] [] (c, s, zW I 273 g, L, R) Q := by
  intro j
  induction j with
  | zero =>
    intro k g v2 v3 v4 h1 h2 hg hQ
    have e : k = 1000 := by omega
    subst e
    rw [e_X4_statesComeTo_2]
    simp (disch := omega) only [e_X4_statesComeTo_0, e_X4_statesComeTo_1, e_X4_statesComeTo_3, e_X4_statesComeTo_6, e_X4_statesComeTo_9, e_X4_statesComeTo_9x, e_X4_statesComeTo_10, e_X4_statesComeTo_13, e_X4_statesComeTo_14, e_X4_statesComeTo_15, e_X4_statesComeTo_16, e_X4_statesComeTo_19, e_X4_statesComeTo_23, e_X4_statesComeTo_23x, e_X4_statesComeTo_24, e_X4_statesComeTo_27, e_X4_statesComeTo_30, e_X4_statesComeTo_31, e_X4_statesComeTo_34, e_X4_statesComeTo_35, e_X4_statesComeTo_36, e_X4_statesComeTo_38, e_X4_statesComeTo_39, e_X4_statesComeTo_42, e_X4_statesComeTo_43, e_X4_statesComeTo_46, e_X4_statesComeTo_49, e_X4_statesComeTo_49x, e_X4_statesComeTo_50, e_X4_statesComeTo_53, e_X4_statesComeTo_54, e_X4_statesComeTo_55, e_X4_statesComeTo_56, e_X4_statesComeTo_57, e_X4_statesComeTo_61, e_X4_statesComeTo_61x, e_X4_statesComeTo_62, e_X4_statesComeTo_65, e_X4_statesComeTo_68, e_X4_statesComeTo_71, e_X4_statesComeTo_74, e_X4_statesComeTo_74x, e_X4_statesComeTo_75, e_X4_statesComeTo_75x, e_X4_statesComeTo_76, e_X4_statesComeTo_79, e_X4_statesComeTo_80, e_X4_statesComeTo_82, e_X4_statesComeTo_85, e_X4_statesComeTo_88, e_X4_statesComeTo_89, e_X4_statesComeTo_92, e_X4_statesComeTo_93, e_X4_statesComeTo_96, e_X4_statesComeTo_102, e_X4_statesComeTo_105, e_X4_statesComeTo_106, zcll_s, zpush_s, zpush_n, zinv_i, zinv_l, zinv_r, zinv_x, zcats_nil, zcats_i, zcats_l, zcats_r, zcats_x, Nat.le_refl, and_self, true_and, and_true, zok_1, zok_20, zok_21, eq_self, Nat.reduceAdd, Nat.reduceLeDiff, Nat.zero_le, if_true, if_false, zw3_id, if_pos, if_neg, zand_t]
    exact hQ g hg
  | succ j ih =>
    intro k g v2 v3 v4 h1 h2 hg hQ
    rw [e_X4_statesComeTo_2]
    simp (disch := omega) only [e_X4_statesComeTo_0, e_X4_statesComeTo_1, e_X4_statesComeTo_3, e_X4_statesComeTo_6, e_X4_statesComeTo_9, e_X4_statesComeTo_9x, e_X4_statesComeTo_10, e_X4_statesComeTo_13, e_X4_statesComeTo_14, e_X4_statesComeTo_15, e_X4_statesComeTo_16, e_X4_statesComeTo_19, e_X4_statesComeTo_23, e_X4_statesComeTo_23x, e_X4_statesComeTo_24, e_X4_statesComeTo_27, e_X4_statesComeTo_30, e_X4_statesComeTo_31, e_X4_statesComeTo_34, e_X4_statesComeTo_35, e_X4_statesComeTo_36, e_X4_statesComeTo_38, e_X4_statesComeTo_39, e_X4_statesComeTo_42, e_X4_statesComeTo_43, e_X4_statesComeTo_46, e_X4_statesComeTo_49, e_X4_statesComeTo_49x, e_X4_statesComeTo_50, e_X4_statesComeTo_53, e_X4_statesComeTo_54, e_X4_statesComeTo_55, e_X4_statesComeTo_56, e_X4_statesComeTo_57, e_X4_statesComeTo_61, e_X4_statesComeTo_61x, e_X4_statesComeTo_62, e_X4_statesComeTo_65, e_X4_statesComeTo_68, e_X4_statesComeTo_71, e_X4_statesComeTo_74, e_X4_statesComeTo_74x, e_X4_statesComeTo_75, e_X4_statesComeTo_75x, e_X4_statesComeTo_76, e_X4_statesComeTo_79, e_X4_statesComeTo_80, e_X4_statesComeTo_82, e_X4_statesComeTo_85, e_X4_statesComeTo_88, e_X4_statesComeTo_89, e_X4_statesComeTo_92, e_X4_statesComeTo_93, e_X4_statesComeTo_96, e_X4_statesComeTo_102, e_X4_statesComeTo_105, e_X4_statesComeTo_106, zcll_s, zpush_s, zpush_n, zinv_i, zinv_l, zinv_r, zinv_x, zcats_nil, zcats_i, zcats_l, zcats_r, zcats_x, Nat.le_refl, and_self, true_and, and_true, zok_1, zok_20, zok_21, eq_self, Nat.reduceAdd, Nat.reduceLeDiff, Nat.zero_le, if_true, if_false, zw3_id, if_pos, if_neg, zand_t, tg_270, tg_273, tn_273, rr_270_3 hR, zW_s, zu_W, zW_W, Int.toNat_natCast, or_true, true_or]
    rw [show (k : Int) + 1 = ((k + 1 : Nat) : Int) by omega]
    refine ih (k + 1) _ v2 v3 v4 (by omega) (by omega) ?_ hQ
    exact Ag_e hg rfl
theorem k_come (hS : ClS I R b M) : ∃ I1, zrun X (d + 6) 41 [zr (some 270)] (c, s, I, L, R) = some (some (zi (mBfs M 1000 0 (mZ0 M) : Int)), (c, s, I1, L, R)) ∧ KS I I1 ∧ Tab I1 M := by
  obtain ⟨hR, hb, g1, g2, g3, hM, hk, hT⟩ := id hS
  have hp := hk.2.2.2.1
  have hs := mS0_in (M := M) hk.2.2.1
  have pr := sx_X4_statesComeTo (X := X) (d := d + 5) (u0 := some 270) (σ := (c, s, I, L, R)) (P := fun r => ∃ I1, r = (some (zi (mBfs M 1000 0 (mZ0 M) : Int)), (c, s, I1, L, R)) ∧ KS I I1 ∧ Tab I1 M) ?_
  · obtain ⟨r, q1, I1, q2, q3⟩ := pr
    exact ⟨I1, by rw [q1, q2], q3⟩
  · simp (disch := omega) only [e_X4_statesComeTo_0, e_X4_statesComeTo_1, e_X4_statesComeTo_3, e_X4_statesComeTo_6, e_X4_statesComeTo_9, e_X4_statesComeTo_9x, e_X4_statesComeTo_10, e_X4_statesComeTo_13, e_X4_statesComeTo_14, e_X4_statesComeTo_15, e_X4_statesComeTo_16, e_X4_statesComeTo_19, e_X4_statesComeTo_23, e_X4_statesComeTo_23x, e_X4_statesComeTo_24, e_X4_statesComeTo_27, e_X4_statesComeTo_30, e_X4_statesComeTo_31, e_X4_statesComeTo_34, e_X4_statesComeTo_35, e_X4_statesComeTo_36, e_X4_statesComeTo_38, e_X4_statesComeTo_39, e_X4_statesComeTo_42, e_X4_statesComeTo_43, e_X4_statesComeTo_46, e_X4_statesComeTo_49, e_X4_statesComeTo_49x, e_X4_statesComeTo_50, e_X4_statesComeTo_53, e_X4_statesComeTo_54, e_X4_statesComeTo_55, e_X4_statesComeTo_56, e_X4_statesComeTo_57, e_X4_statesComeTo_61, e_X4_statesComeTo_61x, e_X4_statesComeTo_62, e_X4_statesComeTo_65, e_X4_statesComeTo_68, e_X4_statesComeTo_71, e_X4_statesComeTo_74, e_X4_statesComeTo_74x, e_X4_statesComeTo_75, e_X4_statesComeTo_75x, e_X4_statesComeTo_76, e_X4_statesComeTo_79, e_X4_statesComeTo_80, e_X4_statesComeTo_82, e_X4_statesComeTo_85, e_X4_statesComeTo_88, e_X4_statesComeTo_89, e_X4_statesComeTo_92, e_X4_statesComeTo_93, e_X4_statesComeTo_96, e_X4_statesComeTo_102, e_X4_statesComeTo_105, e_X4_statesComeTo_106, zcll_s, zpush_s, zpush_n, zinv_i, zinv_l, zinv_r, zinv_x, zcats_nil, zcats_i, zcats_l, zcats_r, zcats_x, Nat.le_refl, and_self, true_and, and_true, zok_1, zok_20, zok_21, eq_self, Nat.reduceAdd, Nat.reduceLeDiff, Nat.zero_le, if_true, if_false, zw3_id, if_pos, if_neg, zand_t]
    have pr := q_come0 (X := X) (call := zrun X (d + 5)) (c := c) (s := s) (I := I) (L := L) (Q := fun r => ∃ I1, r = (some (zi (mBfs M 1000 0 (mZ0 M) : Int)), (c, s, I1, L, R)) ∧ KS I I1 ∧ Tab I1 M) hR 1000 0 (I 273) (zx 0) (zx 0) (zx 0) rfl (by omega) (fun k hk => absurd hk (by omega)) ?_
    · rw [zW_id] at pr
      exact pr
    · intro g hg
      have hK : KS I (zW I 273 g) := fun a _ _ _ h4 _ _ => zW_n h4
      have hT1 : Tab (zW I 273 g) M := Tab_c hT (zW_n (by omega)) (zW_n (by omega))
      have hS1 := KS_S hS hK hT1
      have c1 := k_firstState (X := X) (d := d + 3) (c := c) (s := s) (L := L) hS1
      have hZ0 : BZ M (0, fun _ => mS0 M, fun _ => 0) := by
        refine ⟨by show 0 ≤ mN M; omega, fun i hi => absurd hi (by show ¬ i < 0; omega), fun i _ => Or.inl rfl, ?_⟩
        show cnt (fun _ => (0 : Int)) (mN M) = 0
        have : ∀ n, cnt (fun _ => (0 : Int)) n = 0 := by
          intro n
          induction n with
          | zero => rfl
          | succ n ih => unfold cnt; rw [ih]; rfl
        exact this _
      have hB0 : BC M (zW I 273 g) (0, fun _ => mS0 M, fun _ => 0) := ⟨fun i hi => absurd hi (by show ¬ i < 0; omega), fun i hi => by rw [zW_s]; exact hg i (by unfold mN at hi; omega)⟩
      obtain ⟨I2, r1, r2, r3⟩ := k_see (X := X) (d := d + 4) (c := c) (s := s) (L := L) hR hk hZ0 hB0 (mS0 M) hs.1 hs.2
      have ez : mSee (mS0 M) (0, fun _ => mS0 M, fun _ => 0) = mZ0 M := by
        have e1 : mSee (mS0 M) (0, fun _ => mS0 M, fun _ => 0) = (0 + 1, fU (fun _ => mS0 M) 0 (mS0 M), fU (fun _ => 0) (mS0 M).toNat 1) := if_pos rfl
        have e2 : fU (fun _ => mS0 M) 0 (mS0 M) = fun _ => mS0 M := by
          funext i
          unfold fU
          split <;> rfl
        rw [e1, e2]
        rfl
      rw [ez] at r1 r3
      have r1 : zrun X (d + 4 + 1) 42 [zr (some 270), zi (mS0 M), zi 0] (c, s, zW I 273 g, L, R) = some (some (zi ((mZ0 M).1 : Int)), (c, s, I2, L, R)) := r1
      have hK2 : KS I I2 := fun a h1 h2 h3 h4 h5 h6 => by rw [r2 a h4 h5]; exact zW_n h4
      have hT2 : Tab I2 M := Tab_c hT1 (r2 266 (by omega) (by omega)) (r2 337 (by omega) (by omega))
      rw [e_X4_statesComeTo_22]
      simp (disch := omega) only [e_X4_statesComeTo_0, e_X4_statesComeTo_1, e_X4_statesComeTo_3, e_X4_statesComeTo_6, e_X4_statesComeTo_9, e_X4_statesComeTo_9x, e_X4_statesComeTo_10, e_X4_statesComeTo_13, e_X4_statesComeTo_14, e_X4_statesComeTo_15, e_X4_statesComeTo_16, e_X4_statesComeTo_19, e_X4_statesComeTo_23, e_X4_statesComeTo_23x, e_X4_statesComeTo_24, e_X4_statesComeTo_27, e_X4_statesComeTo_30, e_X4_statesComeTo_31, e_X4_statesComeTo_34, e_X4_statesComeTo_35, e_X4_statesComeTo_36, e_X4_statesComeTo_38, e_X4_statesComeTo_39, e_X4_statesComeTo_42, e_X4_statesComeTo_43, e_X4_statesComeTo_46, e_X4_statesComeTo_49, e_X4_statesComeTo_49x, e_X4_statesComeTo_50, e_X4_statesComeTo_53, e_X4_statesComeTo_54, e_X4_statesComeTo_55, e_X4_statesComeTo_56, e_X4_statesComeTo_57, e_X4_statesComeTo_61, e_X4_statesComeTo_61x, e_X4_statesComeTo_62, e_X4_statesComeTo_65, e_X4_statesComeTo_68, e_X4_statesComeTo_71, e_X4_statesComeTo_74, e_X4_statesComeTo_74x, e_X4_statesComeTo_75, e_X4_statesComeTo_75x, e_X4_statesComeTo_76, e_X4_statesComeTo_79, e_X4_statesComeTo_80, e_X4_statesComeTo_82, e_X4_statesComeTo_85, e_X4_statesComeTo_88, e_X4_statesComeTo_89, e_X4_statesComeTo_92, e_X4_statesComeTo_93, e_X4_statesComeTo_96, e_X4_statesComeTo_102, e_X4_statesComeTo_105, e_X4_statesComeTo_106, zcll_s, zpush_s, zpush_n, zinv_i, zinv_l, zinv_r, zinv_x, zcats_nil, zcats_i, zcats_l, zcats_r, zcats_x, Nat.le_refl, and_self, true_and, and_true, zok_1, zok_20, zok_21, eq_self, Nat.reduceAdd, Nat.reduceLeDiff, Nat.zero_le, if_true, if_false, zw3_id, if_pos, if_neg, zand_t, tg_134, tg_270, rr_270_0 hR, c1, r1]
      exact q_come1 (X := X) (d := d) 1000 0 (mZ0 M) I2 _ _ rfl (by omega) (KS_S hS hK2 hT2) (BZ_0 hk) r3 (fun I3 w1 w2 => ⟨I3, rfl, KS_t hK2 w1, w2⟩)
theorem k_reached (h : ClA B I R b M) : ∃ I1, zrun X (d + 7) 95 [zr (some 0)] (c, s, I, L, R) = some (some (zi (aReached B M)), (c, s, I1, L, R)) ∧ KS I I1 ∧ ClA B I1 R b M := by
  have hG := k_hasNoModel (X := X) (d := d + 5) (c := c) (s := s) (L := L) h
  have hR := ClA_R h
  unfold aReached
  by_cases hB : B
  · rw [if_pos hB]
    rw [zB_f (fun z => z hB)] at hG
    have hS := ClA_S h hB
    obtain ⟨I1, q1, q2, q3⟩ := k_come (X := X) (d := d) (c := c) (s := s) (L := L) hS
    refine ⟨I1, st_X11_reached ?_, q2, Or.inl ⟨hB, KS_S hS q2 q3⟩⟩
    simp (disch := omega) only [e_X11_reached_0, e_X11_reached_0x, e_X11_reached_1, e_X11_reached_4, e_X11_reached_7, e_X11_reached_9, e_X11_reached_12, e_X11_reached_12x, e_X11_reached_13, e_X11_reached_16, e_X11_reached_19, zcll_s, zpush_s, zpush_n, zinv_i, zinv_l, zinv_r, zinv_x, zcats_nil, zcats_i, zcats_l, zcats_r, zcats_x, Nat.le_refl, and_self, true_and, and_true, zok_1, zok_20, zok_21, eq_self, Nat.reduceAdd, Nat.reduceLeDiff, Nat.zero_le, if_true, if_false, zw3_id, if_pos, if_neg, zand_t, tg_0, tg_270, rr_0_4 hR, hG, q1]
  · rw [if_neg hB]
    rw [zB_t hB] at hG
    refine ⟨I, st_X11_reached ?_, fun _ _ _ _ _ _ _ => rfl, h⟩
    simp (disch := omega) only [e_X11_reached_0, e_X11_reached_0x, e_X11_reached_1, e_X11_reached_4, e_X11_reached_7, e_X11_reached_9, e_X11_reached_12, e_X11_reached_12x, e_X11_reached_13, e_X11_reached_16, e_X11_reached_19, zcll_s, zpush_s, zpush_n, zinv_i, zinv_l, zinv_r, zinv_x, zcats_nil, zcats_i, zcats_l, zcats_r, zcats_x, Nat.le_refl, and_self, true_and, and_true, zok_1, zok_20, zok_21, eq_self, Nat.reduceAdd, Nat.reduceLeDiff, Nat.zero_le, if_true, if_false, zw3_id, if_pos, if_neg, zand_t, tg_0, tg_270, hG]
end
