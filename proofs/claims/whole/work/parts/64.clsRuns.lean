/-! The class: calls by runs. -/
section
variable {X : ZX} {d c s : Nat} {I L I1 L1 I2 L2 : ZI} {R : ZR} {call : ZC} {w b : Nat} {M : MD} {f : Nat → Int} {x t : Int} {B : Prop}
/-- the class without a model -/
def ClN (I : ZI) (R : ZR) (b : Nat) : Prop := Rok R ∧ (b = 4 ∨ b = 135) ∧ R 0 8 = some b ∧ R 134 0 = some b ∧ R 134 1 = some 265 ∧ I b 0 = 0 ∧ I b 1 = 0 ∧ I b 3 = 0
def ClA (B : Prop) (I : ZI) (R : ZR) (b : Nat) (M : MD) : Prop := (B ∧ ClS I R b M) ∨ (¬ B ∧ ClN I R b)
theorem ClA_R (h : ClA B I R b M) : Rok R := by
  rcases h with h | h
  · exact h.2.1
  · exact h.2.1
theorem ClA_S (h : ClA B I R b M) (hB : B) : ClS I R b M := by
  rcases h with h | h
  · exact h.2
  · exact absurd hB h.1
theorem k_hasNoModel (h : ClA B I R b M) : zrun X (d + 1) 104 [zr (some 0)] (c, s, I, L, R) = some (some (zi (zB (¬ B))), (c, s, I, L, R)) := by
  refine st_X11_hasNoModel ?_
  rcases h with ⟨hB, hR, hb, h1, h2, h3, hM, hk, hT⟩ | ⟨hB, hR, hb, h1, h2, h3, h4, h5, h6⟩
  · have tt := tt_model hb
    have e := hM.1
    have hl := hk.1
    rw [zB_f (fun q => q hB)]
    simp (disch := omega) only [e_X11_hasNoModel_0, e_X11_hasNoModel_0x, e_X11_hasNoModel_1, e_X11_hasNoModel_4, e_X11_hasNoModel_7, e_X11_hasNoModel_10, e_X11_hasNoModel_11, e_X11_hasNoModel_14, e_X11_hasNoModel_15, zcll_s, zpush_s, zpush_n, zinv_i, zinv_l, zinv_r, zinv_x, zcats_nil, zcats_i, zcats_l, zcats_r, zcats_x, Nat.le_refl, and_self, true_and, and_true, zok_1, zok_20, zok_21, eq_self, Nat.reduceAdd, Nat.reduceLeDiff, Nat.zero_le, if_true, if_false, zw3_id, if_pos, if_neg, zand_t, tg_0, h1, tt.1, e]
  · have tt := tt_model hb
    rw [zB_t hB]
    simp (disch := omega) only [e_X11_hasNoModel_0, e_X11_hasNoModel_0x, e_X11_hasNoModel_1, e_X11_hasNoModel_4, e_X11_hasNoModel_7, e_X11_hasNoModel_10, e_X11_hasNoModel_11, e_X11_hasNoModel_14, e_X11_hasNoModel_15, zcll_s, zpush_s, zpush_n, zinv_i, zinv_l, zinv_r, zinv_x, zcats_nil, zcats_i, zcats_l, zcats_r, zcats_x, Nat.le_refl, and_self, true_and, and_true, zok_1, zok_20, zok_21, eq_self, Nat.reduceAdd, Nat.reduceLeDiff, Nat.zero_le, if_true, if_false, zw3_id, if_pos, if_neg, zand_t, tg_0, h1, tt.1, h4]
theorem k_isGoal (h : ClA B I R b M) (g : Int) : zrun X (d + 1) 105 [zr (some 0), zi g] (c, s, I, L, R) = some (some (zi (zB (mIsG B M g))), (c, s, I, L, R)) := by
  refine st_X11_isGoal ?_
  rcases h with ⟨hB, hR, hb, h1, h2, h3, hM, hk, hT⟩ | ⟨hB, hR, hb, h1, h2, h3, h4, h5, h6⟩
  · have tt := tt_model hb
    have e := hM.2.2.2.1
    by_cases hg : 0 ≤ g ∧ g < M.2.2.2.length
    · rw [show zB (mIsG B M g) = 1 from zB_t ⟨hB, hg.1, hg.2⟩]
      simp (disch := omega) only [e_X11_isGoal_0, e_X11_isGoal_1, e_X11_isGoal_4, e_X11_isGoal_5, e_X11_isGoal_5x, e_X11_isGoal_6, e_X11_isGoal_9, e_X11_isGoal_12, e_X11_isGoal_15, e_X11_isGoal_16, e_X11_isGoal_19, e_X11_isGoal_20, zcll_s, zpush_s, zpush_n, zinv_i, zinv_l, zinv_r, zinv_x, zcats_nil, zcats_i, zcats_l, zcats_r, zcats_x, Nat.le_refl, and_self, true_and, and_true, zok_1, zok_20, zok_21, eq_self, Nat.reduceAdd, Nat.reduceLeDiff, Nat.zero_le, if_true, if_false, zw3_id, if_pos, if_neg, zand_t, tg_0, h1, tt.1, e]
    · rw [show zB (mIsG B M g) = 0 from zB_f (fun q => hg q.2)]
      by_cases h0 : g < 0
      · simp (disch := omega) only [e_X11_isGoal_0, e_X11_isGoal_1, e_X11_isGoal_4, e_X11_isGoal_5, e_X11_isGoal_5x, e_X11_isGoal_6, e_X11_isGoal_9, e_X11_isGoal_12, e_X11_isGoal_15, e_X11_isGoal_16, e_X11_isGoal_19, e_X11_isGoal_20, zcll_s, zpush_s, zpush_n, zinv_i, zinv_l, zinv_r, zinv_x, zcats_nil, zcats_i, zcats_l, zcats_r, zcats_x, Nat.le_refl, and_self, true_and, and_true, zok_1, zok_20, zok_21, eq_self, Nat.reduceAdd, Nat.reduceLeDiff, Nat.zero_le, if_true, if_false, zw3_id, if_pos, if_neg, zand_t, tg_0, h1, tt.1, e]
      · simp (disch := omega) only [e_X11_isGoal_0, e_X11_isGoal_1, e_X11_isGoal_4, e_X11_isGoal_5, e_X11_isGoal_5x, e_X11_isGoal_6, e_X11_isGoal_9, e_X11_isGoal_12, e_X11_isGoal_15, e_X11_isGoal_16, e_X11_isGoal_19, e_X11_isGoal_20, zcll_s, zpush_s, zpush_n, zinv_i, zinv_l, zinv_r, zinv_x, zcats_nil, zcats_i, zcats_l, zcats_r, zcats_x, Nat.le_refl, and_self, true_and, and_true, zok_1, zok_20, zok_21, eq_self, Nat.reduceAdd, Nat.reduceLeDiff, Nat.zero_le, if_true, if_false, zw3_id, if_pos, if_neg, zand_t, tg_0, h1, tt.1, e]
  · have tt := tt_model hb
    rw [show zB (mIsG B M g) = 0 from zB_f (fun q => hB q.1)]
    by_cases h0 : g < 0
    · simp (disch := omega) only [e_X11_isGoal_0, e_X11_isGoal_1, e_X11_isGoal_4, e_X11_isGoal_5, e_X11_isGoal_5x, e_X11_isGoal_6, e_X11_isGoal_9, e_X11_isGoal_12, e_X11_isGoal_15, e_X11_isGoal_16, e_X11_isGoal_19, e_X11_isGoal_20, zcll_s, zpush_s, zpush_n, zinv_i, zinv_l, zinv_r, zinv_x, zcats_nil, zcats_i, zcats_l, zcats_r, zcats_x, Nat.le_refl, and_self, true_and, and_true, zok_1, zok_20, zok_21, eq_self, Nat.reduceAdd, Nat.reduceLeDiff, Nat.zero_le, if_true, if_false, zw3_id, if_pos, if_neg, zand_t, tg_0, h1, tt.1, h6]
    · simp (disch := omega) only [e_X11_isGoal_0, e_X11_isGoal_1, e_X11_isGoal_4, e_X11_isGoal_5, e_X11_isGoal_5x, e_X11_isGoal_6, e_X11_isGoal_9, e_X11_isGoal_12, e_X11_isGoal_15, e_X11_isGoal_16, e_X11_isGoal_19, e_X11_isGoal_20, zcll_s, zpush_s, zpush_n, zinv_i, zinv_l, zinv_r, zinv_x, zcats_nil, zcats_i, zcats_l, zcats_r, zcats_x, Nat.le_refl, and_self, true_and, and_true, zok_1, zok_20, zok_21, eq_self, Nat.reduceAdd, Nat.reduceLeDiff, Nat.zero_le, if_true, if_false, zw3_id, if_pos, if_neg, zand_t, tg_0, h1, tt.1, h6]
theorem k_isVar (h : ClA B I R b M) (g : Int) : zrun X (d + 1) 106 [zr (some 0), zi g] (c, s, I, L, R) = some (some (zi (zB (mIsV B M g))), (c, s, I, L, R)) := by
  refine st_X11_isVar ?_
  rcases h with ⟨hB, hR, hb, h1, h2, h3, hM, hk, hT⟩ | ⟨hB, hR, hb, h1, h2, h3, h4, h5, h6⟩
  · have tt := tt_model hb
    have e := hM.2.1
    by_cases hg : 0 ≤ g ∧ g < M.2.1.length
    · rw [show zB (mIsV B M g) = 1 from zB_t ⟨hB, hg.1, hg.2⟩]
      simp (disch := omega) only [e_X11_isVar_0, e_X11_isVar_1, e_X11_isVar_4, e_X11_isVar_5, e_X11_isVar_5x, e_X11_isVar_6, e_X11_isVar_9, e_X11_isVar_12, e_X11_isVar_15, e_X11_isVar_16, e_X11_isVar_19, e_X11_isVar_20, zcll_s, zpush_s, zpush_n, zinv_i, zinv_l, zinv_r, zinv_x, zcats_nil, zcats_i, zcats_l, zcats_r, zcats_x, Nat.le_refl, and_self, true_and, and_true, zok_1, zok_20, zok_21, eq_self, Nat.reduceAdd, Nat.reduceLeDiff, Nat.zero_le, if_true, if_false, zw3_id, if_pos, if_neg, zand_t, tg_0, h1, tt.1, e]
    · rw [show zB (mIsV B M g) = 0 from zB_f (fun q => hg q.2)]
      by_cases h0 : g < 0
      · simp (disch := omega) only [e_X11_isVar_0, e_X11_isVar_1, e_X11_isVar_4, e_X11_isVar_5, e_X11_isVar_5x, e_X11_isVar_6, e_X11_isVar_9, e_X11_isVar_12, e_X11_isVar_15, e_X11_isVar_16, e_X11_isVar_19, e_X11_isVar_20, zcll_s, zpush_s, zpush_n, zinv_i, zinv_l, zinv_r, zinv_x, zcats_nil, zcats_i, zcats_l, zcats_r, zcats_x, Nat.le_refl, and_self, true_and, and_true, zok_1, zok_20, zok_21, eq_self, Nat.reduceAdd, Nat.reduceLeDiff, Nat.zero_le, if_true, if_false, zw3_id, if_pos, if_neg, zand_t, tg_0, h1, tt.1, e]
      · simp (disch := omega) only [e_X11_isVar_0, e_X11_isVar_1, e_X11_isVar_4, e_X11_isVar_5, e_X11_isVar_5x, e_X11_isVar_6, e_X11_isVar_9, e_X11_isVar_12, e_X11_isVar_15, e_X11_isVar_16, e_X11_isVar_19, e_X11_isVar_20, zcll_s, zpush_s, zpush_n, zinv_i, zinv_l, zinv_r, zinv_x, zcats_nil, zcats_i, zcats_l, zcats_r, zcats_x, Nat.le_refl, and_self, true_and, and_true, zok_1, zok_20, zok_21, eq_self, Nat.reduceAdd, Nat.reduceLeDiff, Nat.zero_le, if_true, if_false, zw3_id, if_pos, if_neg, zand_t, tg_0, h1, tt.1, e]
  · have tt := tt_model hb
    rw [show zB (mIsV B M g) = 0 from zB_f (fun q => hB q.1)]
    by_cases h0 : g < 0
    · simp (disch := omega) only [e_X11_isVar_0, e_X11_isVar_1, e_X11_isVar_4, e_X11_isVar_5, e_X11_isVar_5x, e_X11_isVar_6, e_X11_isVar_9, e_X11_isVar_12, e_X11_isVar_15, e_X11_isVar_16, e_X11_isVar_19, e_X11_isVar_20, zcll_s, zpush_s, zpush_n, zinv_i, zinv_l, zinv_r, zinv_x, zcats_nil, zcats_i, zcats_l, zcats_r, zcats_x, Nat.le_refl, and_self, true_and, and_true, zok_1, zok_20, zok_21, eq_self, Nat.reduceAdd, Nat.reduceLeDiff, Nat.zero_le, if_true, if_false, zw3_id, if_pos, if_neg, zand_t, tg_0, h1, tt.1, h5]
    · simp (disch := omega) only [e_X11_isVar_0, e_X11_isVar_1, e_X11_isVar_4, e_X11_isVar_5, e_X11_isVar_5x, e_X11_isVar_6, e_X11_isVar_9, e_X11_isVar_12, e_X11_isVar_15, e_X11_isVar_16, e_X11_isVar_19, e_X11_isVar_20, zcll_s, zpush_s, zpush_n, zinv_i, zinv_l, zinv_r, zinv_x, zcats_nil, zcats_i, zcats_l, zcats_r, zcats_x, Nat.le_refl, and_self, true_and, and_true, zok_1, zok_20, zok_21, eq_self, Nat.reduceAdd, Nat.reduceLeDiff, Nat.zero_le, if_true, if_false, zw3_id, if_pos, if_neg, zand_t, tg_0, h1, tt.1, h5]
theorem k_isLength (n : Int) : zrun X (d + 1) 107 [zi n] (c, s, I, L, R) = some (some (zi (zB (0 ≤ n ∧ n ≤ 60))), (c, s, I, L, R)) := by
  refine st_X11_isLength ?_
  simp only [e_X11_isLength_0, e_X11_isLength_1, e_X11_isLength_4, e_X11_isLength_5, e_X11_isLength_7, e_X11_isLength_10, e_X11_isLength_11, e_X11_isLength_14, e_X11_isLength_15, zcll_s, zpush_s, zpush_n, zinv_i, zinv_l, zinv_r, zinv_x, zcats_nil, zcats_i, zcats_l, zcats_r, zcats_x, Nat.le_refl, and_self, true_and, and_true, zok_1, zok_20, zok_21, eq_self, Nat.reduceAdd, Nat.reduceLeDiff, Nat.zero_le, if_true, if_false]
  split
  · rw [zB_f (by omega)]
  · split
    · rw [zB_f (by omega)]
    · rw [zB_t (by omega)]
theorem k_isRun (n : Int) : zrun X (d + 1) 108 [zi n] (c, s, I, L, R) = some (some (zi (zB (0 ≤ n ∧ n ≤ 999999))), (c, s, I, L, R)) := by
  refine st_X11_isRun ?_
  simp only [e_X11_isRun_0, e_X11_isRun_1, e_X11_isRun_4, e_X11_isRun_5, e_X11_isRun_7, e_X11_isRun_10, e_X11_isRun_11, e_X11_isRun_14, e_X11_isRun_15, zcll_s, zpush_s, zpush_n, zinv_i, zinv_l, zinv_r, zinv_x, zcats_nil, zcats_i, zcats_l, zcats_r, zcats_x, Nat.le_refl, and_self, true_and, and_true, zok_1, zok_20, zok_21, eq_self, Nat.reduceAdd, Nat.reduceLeDiff, Nat.zero_le, if_true, if_false]
  split
  · rw [zB_f (by omega)]
  · split
    · rw [zB_f (by omega)]
    · rw [zB_t (by omega)]
theorem q_stepOf (g n i : Int) (hg0 : 0 ≤ g) (hg : g < M.2.2.2.length) (hn : n < 1000) {Q : Option ZV × ZS → Prop} : ∀ (j : Nat) (k x t : Int) (I L : ZI), (n - k).toNat = j → 0 ≤ k → k ≤ n → ClS I R b M → I 269 2 = t → L 269 1 = x → 0 ≤ t → t < mPr M.2.1 → (∀ I1 L1, KW I L I1 L1 → Tab I1 M → Q (some (zi (mHeld M g.toNat j k x t)), (c, s, I1, L1, R))) → V X (zrun X (d + 5)) mX11_stepOfHolding 15 [zr (some 0), zi g, zi n, zi i, zi k] [] (c, s, I, L, R) Q := by
  intro j
  induction j with
  | zero =>
    intro k x t I L h1 h2 h3 hS ht hx h0 h4 hQ
    have hR := hS.1
    obtain ⟨I1, q1, q2, q3⟩ := k_isAt (X := X) (d := d) (c := c) (s := s) (L := L) hS ht h0 h4 hg0 hg
    have hq := hQ I1 L (KT_W q2) q3
    have ek : k = n := by omega
    unfold mHeld at hq
    rw [e_X11_stepOfHolding_15]
    by_cases hgo : mGoal M g.toNat t
    · rw [zB_t hgo] at q1
      rw [if_pos hgo, ek] at hq
      simp (disch := omega) only [e_X11_stepOfHolding_0, e_X11_stepOfHolding_0x, e_X11_stepOfHolding_1, e_X11_stepOfHolding_4, e_X11_stepOfHolding_4x, e_X11_stepOfHolding_5, e_X11_stepOfHolding_8, e_X11_stepOfHolding_9, e_X11_stepOfHolding_12, e_X11_stepOfHolding_13, e_X11_stepOfHolding_17, e_X11_stepOfHolding_18, e_X11_stepOfHolding_21, e_X11_stepOfHolding_21x, e_X11_stepOfHolding_22, e_X11_stepOfHolding_25, e_X11_stepOfHolding_26, e_X11_stepOfHolding_29, e_X11_stepOfHolding_32, e_X11_stepOfHolding_34, e_X11_stepOfHolding_35, e_X11_stepOfHolding_35x, e_X11_stepOfHolding_36, e_X11_stepOfHolding_39, e_X11_stepOfHolding_42, e_X11_stepOfHolding_43, e_X11_stepOfHolding_46, e_X11_stepOfHolding_49, e_X11_stepOfHolding_49x, e_X11_stepOfHolding_50, e_X11_stepOfHolding_53, e_X11_stepOfHolding_54, e_X11_stepOfHolding_57, e_X11_stepOfHolding_60, e_X11_stepOfHolding_61, e_X11_stepOfHolding_64, e_X11_stepOfHolding_65, zcll_s, zpush_s, zpush_n, zinv_i, zinv_l, zinv_r, zinv_x, zcats_nil, zcats_i, zcats_l, zcats_r, zcats_x, Nat.le_refl, and_self, true_and, and_true, zok_1, zok_20, zok_21, eq_self, Nat.reduceAdd, Nat.reduceLeDiff, Nat.zero_le, if_true, if_false, zw3_id, if_pos, if_neg, zand_t, tg_0, tg_269, rr_0_3 hR, q1]
      exact hq
    · rw [zB_f hgo] at q1
      rw [if_neg hgo] at hq
      simp (disch := omega) only [e_X11_stepOfHolding_0, e_X11_stepOfHolding_0x, e_X11_stepOfHolding_1, e_X11_stepOfHolding_4, e_X11_stepOfHolding_4x, e_X11_stepOfHolding_5, e_X11_stepOfHolding_8, e_X11_stepOfHolding_9, e_X11_stepOfHolding_12, e_X11_stepOfHolding_13, e_X11_stepOfHolding_17, e_X11_stepOfHolding_18, e_X11_stepOfHolding_21, e_X11_stepOfHolding_21x, e_X11_stepOfHolding_22, e_X11_stepOfHolding_25, e_X11_stepOfHolding_26, e_X11_stepOfHolding_29, e_X11_stepOfHolding_32, e_X11_stepOfHolding_34, e_X11_stepOfHolding_35, e_X11_stepOfHolding_35x, e_X11_stepOfHolding_36, e_X11_stepOfHolding_39, e_X11_stepOfHolding_42, e_X11_stepOfHolding_43, e_X11_stepOfHolding_46, e_X11_stepOfHolding_49, e_X11_stepOfHolding_49x, e_X11_stepOfHolding_50, e_X11_stepOfHolding_53, e_X11_stepOfHolding_54, e_X11_stepOfHolding_57, e_X11_stepOfHolding_60, e_X11_stepOfHolding_61, e_X11_stepOfHolding_64, e_X11_stepOfHolding_65, zcll_s, zpush_s, zpush_n, zinv_i, zinv_l, zinv_r, zinv_x, zcats_nil, zcats_i, zcats_l, zcats_r, zcats_x, Nat.le_refl, and_self, true_and, and_true, zok_1, zok_20, zok_21, eq_self, Nat.reduceAdd, Nat.reduceLeDiff, Nat.zero_le, if_true, if_false, zw3_id, if_pos, if_neg, zand_t, tg_0, tg_269, rr_0_3 hR, q1]
      exact hq
  | succ j ih =>
    intro k x t I L h1 h2 h3 hS ht hx h0 h4 hQ
    have hR := hS.1
    obtain ⟨I1, q1, q2, q3⟩ := k_isAt (X := X) (d := d) (c := c) (s := s) (L := L) hS ht h0 h4 hg0 hg
    unfold mHeld at hQ
    rw [e_X11_stepOfHolding_15]
    by_cases hgo : mGoal M g.toNat t
    · rw [zB_t hgo] at q1
      rw [if_pos hgo] at hQ
      have hq := hQ I1 L (KT_W q2) q3
      simp (disch := omega) only [e_X11_stepOfHolding_0, e_X11_stepOfHolding_0x, e_X11_stepOfHolding_1, e_X11_stepOfHolding_4, e_X11_stepOfHolding_4x, e_X11_stepOfHolding_5, e_X11_stepOfHolding_8, e_X11_stepOfHolding_9, e_X11_stepOfHolding_12, e_X11_stepOfHolding_13, e_X11_stepOfHolding_17, e_X11_stepOfHolding_18, e_X11_stepOfHolding_21, e_X11_stepOfHolding_21x, e_X11_stepOfHolding_22, e_X11_stepOfHolding_25, e_X11_stepOfHolding_26, e_X11_stepOfHolding_29, e_X11_stepOfHolding_32, e_X11_stepOfHolding_34, e_X11_stepOfHolding_35, e_X11_stepOfHolding_35x, e_X11_stepOfHolding_36, e_X11_stepOfHolding_39, e_X11_stepOfHolding_42, e_X11_stepOfHolding_43, e_X11_stepOfHolding_46, e_X11_stepOfHolding_49, e_X11_stepOfHolding_49x, e_X11_stepOfHolding_50, e_X11_stepOfHolding_53, e_X11_stepOfHolding_54, e_X11_stepOfHolding_57, e_X11_stepOfHolding_60, e_X11_stepOfHolding_61, e_X11_stepOfHolding_64, e_X11_stepOfHolding_65, zcll_s, zpush_s, zpush_n, zinv_i, zinv_l, zinv_r, zinv_x, zcats_nil, zcats_i, zcats_l, zcats_r, zcats_x, Nat.le_refl, and_self, true_and, and_true, zok_1, zok_20, zok_21, eq_self, Nat.reduceAdd, Nat.reduceLeDiff, Nat.zero_le, if_true, if_false, zw3_id, if_pos, if_neg, zand_t, tg_0, tg_269, rr_0_3 hR, q1]
      exact hq
    · rw [zB_f hgo] at q1
      rw [if_neg hgo] at hQ
      have ht1 : I1 269 2 = t := by rw [q2 269 (by omega) (by omega) (by omega) (by omega)]; exact ht
      have hS1 := ClS_k hS q2 q3
      obtain ⟨I2, p1, p2, p3, p4⟩ := k_step (X := X) (d := d) (c := c) (s := s) (L := L) hS1 ht1 h0 h4 hx
      have hKW : KW I L I2 (zu L 269 1 (mlot x)) := KW_t (KT_W q2) ⟨p2, fun a ha => zu_n ha⟩
      have hms := mS_in (M := M) hS.2.2.2.2.2.2.1.2.2.1 (d := mdr M.1 (mlot x)) h0
      simp (disch := omega) only [e_X11_stepOfHolding_0, e_X11_stepOfHolding_0x, e_X11_stepOfHolding_1, e_X11_stepOfHolding_4, e_X11_stepOfHolding_4x, e_X11_stepOfHolding_5, e_X11_stepOfHolding_8, e_X11_stepOfHolding_9, e_X11_stepOfHolding_12, e_X11_stepOfHolding_13, e_X11_stepOfHolding_17, e_X11_stepOfHolding_18, e_X11_stepOfHolding_21, e_X11_stepOfHolding_21x, e_X11_stepOfHolding_22, e_X11_stepOfHolding_25, e_X11_stepOfHolding_26, e_X11_stepOfHolding_29, e_X11_stepOfHolding_32, e_X11_stepOfHolding_34, e_X11_stepOfHolding_35, e_X11_stepOfHolding_35x, e_X11_stepOfHolding_36, e_X11_stepOfHolding_39, e_X11_stepOfHolding_42, e_X11_stepOfHolding_43, e_X11_stepOfHolding_46, e_X11_stepOfHolding_49, e_X11_stepOfHolding_49x, e_X11_stepOfHolding_50, e_X11_stepOfHolding_53, e_X11_stepOfHolding_54, e_X11_stepOfHolding_57, e_X11_stepOfHolding_60, e_X11_stepOfHolding_61, e_X11_stepOfHolding_64, e_X11_stepOfHolding_65, zcll_s, zpush_s, zpush_n, zinv_i, zinv_l, zinv_r, zinv_x, zcats_nil, zcats_i, zcats_l, zcats_r, zcats_x, Nat.le_refl, and_self, true_and, and_true, zok_1, zok_20, zok_21, eq_self, Nat.reduceAdd, Nat.reduceLeDiff, Nat.zero_le, if_true, if_false, zw3_id, if_pos, if_neg, zand_t, tg_0, tg_269, rr_0_3 hR, q1, p1]
      exact ih (k + 1) (mlot x) _ I2 _ (by omega) (by omega) (by omega) (ClS_w hS hKW p3) p4 zu_s hms.1 hms.2 (fun I3 L3 r1 r2 => hQ I3 L3 (KW_t hKW r1) r2)
theorem k_stepOf (h : ClS I R b M) (g n i : Int) (hg0 : 0 ≤ g) (hg : g < M.2.2.2.length) (hn0 : 0 ≤ n) (hn : n < 1000) : ∃ I1 L1, zrun X (d + 6) 109 [zr (some 0), zi g, zi n, zi i] (c, s, I, L, R) = some (some (zi (mH M (L 0 9) g n i)), (c, s, I1, L1, R)) ∧ KW I L I1 L1 ∧ Tab I1 M := by
  have hR := h.1
  have hs := mS0_in (M := M) h.2.2.2.2.2.2.1.2.2.1
  have p := sx_X11_stepOfHolding (X := X) (d := d + 5) (u0 := some 0) (x1 := g) (x2 := n) (x3 := i) (σ := (c, s, I, L, R)) (P := fun q => ∃ I1 L1, q = (some (zi (mH M (L 0 9) g n i)), (c, s, I1, L1, R)) ∧ KW I L I1 L1 ∧ Tab I1 M) ?_
  · obtain ⟨r, q1, I1, L1, q2, q3⟩ := p
    exact ⟨I1, L1, by rw [q1, q2], q3⟩
  · have q := k_begin (X := X) (d := d + 2) (c := c) (s := s) (L := L) h (L 0 9) i
    have hKW : KW I L (zu I 269 2 (mS0 M)) (zu L 269 1 (mlot0 (L 0 9) i)) := ⟨fun a _ _ _ ha _ => zu_n ha, fun a ha => zu_n ha⟩
    have hT1 : Tab (zu I 269 2 (mS0 M)) M := Tab_c h.2.2.2.2.2.2.2 (zu_n (by omega)) (zu_n (by omega))
    simp (disch := omega) only [e_X11_stepOfHolding_0, e_X11_stepOfHolding_0x, e_X11_stepOfHolding_1, e_X11_stepOfHolding_4, e_X11_stepOfHolding_4x, e_X11_stepOfHolding_5, e_X11_stepOfHolding_8, e_X11_stepOfHolding_9, e_X11_stepOfHolding_12, e_X11_stepOfHolding_13, e_X11_stepOfHolding_17, e_X11_stepOfHolding_18, e_X11_stepOfHolding_21, e_X11_stepOfHolding_21x, e_X11_stepOfHolding_22, e_X11_stepOfHolding_25, e_X11_stepOfHolding_26, e_X11_stepOfHolding_29, e_X11_stepOfHolding_32, e_X11_stepOfHolding_34, e_X11_stepOfHolding_35, e_X11_stepOfHolding_35x, e_X11_stepOfHolding_36, e_X11_stepOfHolding_39, e_X11_stepOfHolding_42, e_X11_stepOfHolding_43, e_X11_stepOfHolding_46, e_X11_stepOfHolding_49, e_X11_stepOfHolding_49x, e_X11_stepOfHolding_50, e_X11_stepOfHolding_53, e_X11_stepOfHolding_54, e_X11_stepOfHolding_57, e_X11_stepOfHolding_60, e_X11_stepOfHolding_61, e_X11_stepOfHolding_64, e_X11_stepOfHolding_65, zcll_s, zpush_s, zpush_n, zinv_i, zinv_l, zinv_r, zinv_x, zcats_nil, zcats_i, zcats_l, zcats_r, zcats_x, Nat.le_refl, and_self, true_and, and_true, zok_1, zok_20, zok_21, eq_self, Nat.reduceAdd, Nat.reduceLeDiff, Nat.zero_le, if_true, if_false, zw3_id, if_pos, if_neg, zand_t, tg_0, tg_269, rr_0_3 hR, q]
    exact q_stepOf (X := X) (d := d) g n i hg0 hg hn n.toNat 0 (mlot0 (L 0 9) i) (mS0 M) _ _ (by omega) (by omega) (by omega) (ClS_w h hKW hT1) zu_s zu_s hs.1 hs.2 (fun I1 L1 r1 r2 => ⟨I1, L1, rfl, KW_t hKW r1, r2⟩)
/-- a class's call that answers y by a walk -/
def KA (B : Prop) (I L : ZI) (R : ZR) (b : Nat) (M : MD) (I1 L1 : ZI) : Prop := KW I L I1 L1 ∧ ClA B I1 R b M
theorem KA_r (h : ClA B I R b M) : KA B I L R b M I L := ⟨KW_r, h⟩
theorem KA_S (hB : B) (h : ClS I R b M) (hK : KW I L I1 L1) (hT : Tab I1 M) : KA B I L R b M I1 L1 := ⟨hK, Or.inl ⟨hB, ClS_w h hK hT⟩⟩
theorem k_holds (h : ClA B I R b M) (g n i : Int) : ∃ I1 L1, zrun X (d + 7) 90 [zr (some 0), zi g, zi n, zi i] (c, s, I, L, R) = some (some (zi (aHolds B M (L 0 9) g n i)), (c, s, I1, L1, R)) ∧ KA B I L R b M I1 L1 := by
  have hG := k_isGoal (X := X) (d := d + 5) (c := c) (s := s) (L := L) h g
  unfold aHolds
  by_cases h1 : mIsG B M g
  · rw [zB_t h1] at hG
    by_cases h2 : 0 ≤ n ∧ n ≤ 60
    · by_cases h3 : 0 ≤ i ∧ i ≤ 999999
      · rw [if_pos ⟨h1, h2, h3⟩]
        have hS := ClA_S h h1.1
        obtain ⟨I1, L1, p1, p2, p3⟩ := k_stepOf (X := X) (d := d) (c := c) (s := s) (L := L) hS g n i h1.2.1 h1.2.2 h2.1 (by omega)
        refine ⟨I1, L1, st_X11_holds ?_, KA_S h1.1 hS p2 p3⟩
        simp (disch := omega) only [e_X11_holds_0, e_X11_holds_0x, e_X11_holds_1, e_X11_holds_2, e_X11_holds_5, e_X11_holds_8, e_X11_holds_9, e_X11_holds_12, e_X11_holds_15, e_X11_holds_16, e_X11_holds_19, e_X11_holds_22, e_X11_holds_24, e_X11_holds_25, e_X11_holds_25x, e_X11_holds_26, e_X11_holds_27, e_X11_holds_28, e_X11_holds_29, e_X11_holds_32, zcll_s, zpush_s, zpush_n, zinv_i, zinv_l, zinv_r, zinv_x, zcats_nil, zcats_i, zcats_l, zcats_r, zcats_x, Nat.le_refl, and_self, true_and, and_true, zok_1, zok_20, zok_21, eq_self, Nat.reduceAdd, Nat.reduceLeDiff, Nat.zero_le, if_true, if_false, zw3_id, if_pos, if_neg, zand_t, tg_0, hG, k_isLength, k_isRun, zB_t, p1]
      · rw [if_neg (fun q => h3 q.2.2)]
        refine ⟨I, L, st_X11_holds ?_, KA_r h⟩
        simp (disch := omega) only [e_X11_holds_0, e_X11_holds_0x, e_X11_holds_1, e_X11_holds_2, e_X11_holds_5, e_X11_holds_8, e_X11_holds_9, e_X11_holds_12, e_X11_holds_15, e_X11_holds_16, e_X11_holds_19, e_X11_holds_22, e_X11_holds_24, e_X11_holds_25, e_X11_holds_25x, e_X11_holds_26, e_X11_holds_27, e_X11_holds_28, e_X11_holds_29, e_X11_holds_32, zcll_s, zpush_s, zpush_n, zinv_i, zinv_l, zinv_r, zinv_x, zcats_nil, zcats_i, zcats_l, zcats_r, zcats_x, Nat.le_refl, and_self, true_and, and_true, zok_1, zok_20, zok_21, eq_self, Nat.reduceAdd, Nat.reduceLeDiff, Nat.zero_le, if_true, if_false, zw3_id, if_pos, if_neg, zand_t, tg_0, hG, k_isLength, k_isRun, zB_t, zB_f]
    · rw [if_neg (fun q => h2 q.2.1)]
      refine ⟨I, L, st_X11_holds ?_, KA_r h⟩
      simp (disch := omega) only [e_X11_holds_0, e_X11_holds_0x, e_X11_holds_1, e_X11_holds_2, e_X11_holds_5, e_X11_holds_8, e_X11_holds_9, e_X11_holds_12, e_X11_holds_15, e_X11_holds_16, e_X11_holds_19, e_X11_holds_22, e_X11_holds_24, e_X11_holds_25, e_X11_holds_25x, e_X11_holds_26, e_X11_holds_27, e_X11_holds_28, e_X11_holds_29, e_X11_holds_32, zcll_s, zpush_s, zpush_n, zinv_i, zinv_l, zinv_r, zinv_x, zcats_nil, zcats_i, zcats_l, zcats_r, zcats_x, Nat.le_refl, and_self, true_and, and_true, zok_1, zok_20, zok_21, eq_self, Nat.reduceAdd, Nat.reduceLeDiff, Nat.zero_le, if_true, if_false, zw3_id, if_pos, if_neg, zand_t, tg_0, hG, k_isLength, k_isRun, zB_t, zB_f]
  · rw [zB_f h1] at hG
    rw [if_neg (fun q => h1 q.1)]
    refine ⟨I, L, st_X11_holds ?_, KA_r h⟩
    simp (disch := omega) only [e_X11_holds_0, e_X11_holds_0x, e_X11_holds_1, e_X11_holds_2, e_X11_holds_5, e_X11_holds_8, e_X11_holds_9, e_X11_holds_12, e_X11_holds_15, e_X11_holds_16, e_X11_holds_19, e_X11_holds_22, e_X11_holds_24, e_X11_holds_25, e_X11_holds_25x, e_X11_holds_26, e_X11_holds_27, e_X11_holds_28, e_X11_holds_29, e_X11_holds_32, zcll_s, zpush_s, zpush_n, zinv_i, zinv_l, zinv_r, zinv_x, zcats_nil, zcats_i, zcats_l, zcats_r, zcats_x, Nat.le_refl, and_self, true_and, and_true, zok_1, zok_20, zok_21, eq_self, Nat.reduceAdd, Nat.reduceLeDiff, Nat.zero_le, if_true, if_false, zw3_id, if_pos, if_neg, zand_t, tg_0, hG, k_isLength, k_isRun, zB_t, zB_f]
theorem q_value (v n i : Int) (hv0 : 0 ≤ v) (hv : v < M.2.1.length) (hn : n < 1000) {Q : Option ZV × ZS → Prop} : ∀ (j : Nat) (k x t : Int) (I L : ZI), (n - k).toNat = j → 0 ≤ k → k ≤ n → ClS I R b M → I 269 2 = t → L 269 1 = x → 0 ≤ t → t < mPr M.2.1 → (∀ I1 L1, KW I L I1 L1 → Tab I1 M → Q (some (zi (mDe M.2.1 (mRun M j x t) v.toNat)), (c, s, I1, L1, R))) → V X (zrun X (d + 5)) mX11_value 40 [zr (some 0), zi i, zi n, zi v, zi k] [] (c, s, I, L, R) Q := by
  intro j
  induction j with
  | zero =>
    intro k x t I L h1 h2 h3 hS ht hx h0 h4 hQ
    have hR := hS.1
    have q1 := k_valueOf (X := X) (d := d + 3) (c := c) (s := s) (L := L) hS ht h0 h4 hv0 hv
    have hq := hQ I L KW_r hS.2.2.2.2.2.2.2
    rw [e_X11_value_40]
    simp (disch := omega) only [e_X11_value_0, e_X11_value_1, e_X11_value_4, e_X11_value_7, e_X11_value_8, e_X11_value_11, e_X11_value_14, e_X11_value_14x, e_X11_value_15, e_X11_value_16, e_X11_value_19, e_X11_value_22, e_X11_value_24, e_X11_value_25, e_X11_value_25x, e_X11_value_26, e_X11_value_29, e_X11_value_29x, e_X11_value_30, e_X11_value_33, e_X11_value_34, e_X11_value_37, e_X11_value_38, e_X11_value_42, e_X11_value_43, e_X11_value_46, e_X11_value_46x, e_X11_value_47, e_X11_value_50, e_X11_value_53, e_X11_value_54, e_X11_value_57, e_X11_value_60, e_X11_value_60x, e_X11_value_61, e_X11_value_64, e_X11_value_65, e_X11_value_68, zcll_s, zpush_s, zpush_n, zinv_i, zinv_l, zinv_r, zinv_x, zcats_nil, zcats_i, zcats_l, zcats_r, zcats_x, Nat.le_refl, and_self, true_and, and_true, zok_1, zok_20, zok_21, eq_self, Nat.reduceAdd, Nat.reduceLeDiff, Nat.zero_le, if_true, if_false, zw3_id, if_pos, if_neg, zand_t, tg_0, tg_269, rr_0_3 hR, q1]
    exact hq
  | succ j ih =>
    intro k x t I L h1 h2 h3 hS ht hx h0 h4 hQ
    have hR := hS.1
    obtain ⟨I2, p1, p2, p3, p4⟩ := k_step (X := X) (d := d) (c := c) (s := s) (L := L) hS ht h0 h4 hx
    have hKW : KW I L I2 (zu L 269 1 (mlot x)) := ⟨p2, fun a ha => zu_n ha⟩
    have hms := mS_in (M := M) hS.2.2.2.2.2.2.1.2.2.1 (d := mdr M.1 (mlot x)) h0
    rw [e_X11_value_40]
    simp (disch := omega) only [e_X11_value_0, e_X11_value_1, e_X11_value_4, e_X11_value_7, e_X11_value_8, e_X11_value_11, e_X11_value_14, e_X11_value_14x, e_X11_value_15, e_X11_value_16, e_X11_value_19, e_X11_value_22, e_X11_value_24, e_X11_value_25, e_X11_value_25x, e_X11_value_26, e_X11_value_29, e_X11_value_29x, e_X11_value_30, e_X11_value_33, e_X11_value_34, e_X11_value_37, e_X11_value_38, e_X11_value_42, e_X11_value_43, e_X11_value_46, e_X11_value_46x, e_X11_value_47, e_X11_value_50, e_X11_value_53, e_X11_value_54, e_X11_value_57, e_X11_value_60, e_X11_value_60x, e_X11_value_61, e_X11_value_64, e_X11_value_65, e_X11_value_68, zcll_s, zpush_s, zpush_n, zinv_i, zinv_l, zinv_r, zinv_x, zcats_nil, zcats_i, zcats_l, zcats_r, zcats_x, Nat.le_refl, and_self, true_and, and_true, zok_1, zok_20, zok_21, eq_self, Nat.reduceAdd, Nat.reduceLeDiff, Nat.zero_le, if_true, if_false, zw3_id, if_pos, if_neg, zand_t, tg_0, tg_269, rr_0_3 hR, p1]
    exact ih (k + 1) (mlot x) _ I2 _ (by omega) (by omega) (by omega) (ClS_w hS hKW p3) p4 zu_s hms.1 hms.2 (fun I3 L3 r1 r2 => hQ I3 L3 (KW_t hKW r1) r2)
theorem k_value (h : ClA B I R b M) (i n v : Int) : ∃ I1 L1, zrun X (d + 6) 91 [zr (some 0), zi i, zi n, zi v] (c, s, I, L, R) = some (some (zi (aValue B M (L 0 9) i n v)), (c, s, I1, L1, R)) ∧ KA B I L R b M I1 L1 := by
  have hG := k_isVar (X := X) (d := d + 4) (c := c) (s := s) (L := L) h v
  unfold aValue
  by_cases h3 : 0 ≤ i ∧ i ≤ 999999
  · by_cases h2 : 0 ≤ n ∧ n ≤ 60
    · by_cases h1 : mIsV B M v
      · rw [zB_t h1] at hG
        rw [if_pos ⟨h3, h2, h1⟩]
        have hS := ClA_S h h1.1
        have hR := hS.1
        have hs := mS0_in (M := M) hS.2.2.2.2.2.2.1.2.2.1
        have p := sx_X11_value (X := X) (d := d + 5) (u0 := some 0) (x1 := i) (x2 := n) (x3 := v) (σ := (c, s, I, L, R)) (P := fun q => ∃ I1 L1, q = (some (zi (mDe M.2.1 (mRun M n.toNat (mlot0 (L 0 9) i) (mS0 M)) v.toNat)), (c, s, I1, L1, R)) ∧ KA B I L R b M I1 L1) ?_
        · obtain ⟨r, q1, I1, L1, q2, q3⟩ := p
          exact ⟨I1, L1, by rw [q1, q2], q3⟩
        · have q := k_begin (X := X) (d := d + 2) (c := c) (s := s) (L := L) hS (L 0 9) i
          have hKW : KW I L (zu I 269 2 (mS0 M)) (zu L 269 1 (mlot0 (L 0 9) i)) := ⟨fun a _ _ _ ha _ => zu_n ha, fun a ha => zu_n ha⟩
          have hT1 : Tab (zu I 269 2 (mS0 M)) M := Tab_c hS.2.2.2.2.2.2.2 (zu_n (by omega)) (zu_n (by omega))
          simp (disch := omega) only [e_X11_value_0, e_X11_value_1, e_X11_value_4, e_X11_value_7, e_X11_value_8, e_X11_value_11, e_X11_value_14, e_X11_value_14x, e_X11_value_15, e_X11_value_16, e_X11_value_19, e_X11_value_22, e_X11_value_24, e_X11_value_25, e_X11_value_25x, e_X11_value_26, e_X11_value_29, e_X11_value_29x, e_X11_value_30, e_X11_value_33, e_X11_value_34, e_X11_value_37, e_X11_value_38, e_X11_value_42, e_X11_value_43, e_X11_value_46, e_X11_value_46x, e_X11_value_47, e_X11_value_50, e_X11_value_53, e_X11_value_54, e_X11_value_57, e_X11_value_60, e_X11_value_60x, e_X11_value_61, e_X11_value_64, e_X11_value_65, e_X11_value_68, zcll_s, zpush_s, zpush_n, zinv_i, zinv_l, zinv_r, zinv_x, zcats_nil, zcats_i, zcats_l, zcats_r, zcats_x, Nat.le_refl, and_self, true_and, and_true, zok_1, zok_20, zok_21, eq_self, Nat.reduceAdd, Nat.reduceLeDiff, Nat.zero_le, if_true, if_false, zw3_id, if_pos, if_neg, zand_t, tg_0, tg_269, rr_0_3 hR, hG, k_isLength, k_isRun, zB_t, q]
          exact q_value (X := X) (d := d) v n i h1.2.1 h1.2.2 (by omega) n.toNat 0 (mlot0 (L 0 9) i) (mS0 M) _ _ (by omega) (by omega) (by omega) (ClS_w hS hKW hT1) zu_s zu_s hs.1 hs.2 (fun I1 L1 r1 r2 => ⟨I1, L1, rfl, KA_S h1.1 hS (KW_t hKW r1) r2⟩)
      · rw [zB_f h1] at hG
        rw [if_neg (fun q => h1 q.2.2)]
        refine ⟨I, L, st_X11_value ?_, KA_r h⟩
        simp (disch := omega) only [e_X11_value_0, e_X11_value_1, e_X11_value_4, e_X11_value_7, e_X11_value_8, e_X11_value_11, e_X11_value_14, e_X11_value_14x, e_X11_value_15, e_X11_value_16, e_X11_value_19, e_X11_value_22, e_X11_value_24, e_X11_value_25, e_X11_value_25x, e_X11_value_26, e_X11_value_29, e_X11_value_29x, e_X11_value_30, e_X11_value_33, e_X11_value_34, e_X11_value_37, e_X11_value_38, e_X11_value_42, e_X11_value_43, e_X11_value_46, e_X11_value_46x, e_X11_value_47, e_X11_value_50, e_X11_value_53, e_X11_value_54, e_X11_value_57, e_X11_value_60, e_X11_value_60x, e_X11_value_61, e_X11_value_64, e_X11_value_65, e_X11_value_68, zcll_s, zpush_s, zpush_n, zinv_i, zinv_l, zinv_r, zinv_x, zcats_nil, zcats_i, zcats_l, zcats_r, zcats_x, Nat.le_refl, and_self, true_and, and_true, zok_1, zok_20, zok_21, eq_self, Nat.reduceAdd, Nat.reduceLeDiff, Nat.zero_le, if_true, if_false, zw3_id, if_pos, if_neg, zand_t, tg_0, hG, k_isLength, k_isRun, zB_t, zB_f]
    · rw [if_neg (fun q => h2 q.2.1)]
      refine ⟨I, L, st_X11_value ?_, KA_r h⟩
      simp (disch := omega) only [e_X11_value_0, e_X11_value_1, e_X11_value_4, e_X11_value_7, e_X11_value_8, e_X11_value_11, e_X11_value_14, e_X11_value_14x, e_X11_value_15, e_X11_value_16, e_X11_value_19, e_X11_value_22, e_X11_value_24, e_X11_value_25, e_X11_value_25x, e_X11_value_26, e_X11_value_29, e_X11_value_29x, e_X11_value_30, e_X11_value_33, e_X11_value_34, e_X11_value_37, e_X11_value_38, e_X11_value_42, e_X11_value_43, e_X11_value_46, e_X11_value_46x, e_X11_value_47, e_X11_value_50, e_X11_value_53, e_X11_value_54, e_X11_value_57, e_X11_value_60, e_X11_value_60x, e_X11_value_61, e_X11_value_64, e_X11_value_65, e_X11_value_68, zcll_s, zpush_s, zpush_n, zinv_i, zinv_l, zinv_r, zinv_x, zcats_nil, zcats_i, zcats_l, zcats_r, zcats_x, Nat.le_refl, and_self, true_and, and_true, zok_1, zok_20, zok_21, eq_self, Nat.reduceAdd, Nat.reduceLeDiff, Nat.zero_le, if_true, if_false, zw3_id, if_pos, if_neg, zand_t, tg_0, hG, k_isLength, k_isRun, zB_t, zB_f]
  · rw [if_neg (fun q => h3 q.1)]
    refine ⟨I, L, st_X11_value ?_, KA_r h⟩
    simp (disch := omega) only [e_X11_value_0, e_X11_value_1, e_X11_value_4, e_X11_value_7, e_X11_value_8, e_X11_value_11, e_X11_value_14, e_X11_value_14x, e_X11_value_15, e_X11_value_16, e_X11_value_19, e_X11_value_22, e_X11_value_24, e_X11_value_25, e_X11_value_25x, e_X11_value_26, e_X11_value_29, e_X11_value_29x, e_X11_value_30, e_X11_value_33, e_X11_value_34, e_X11_value_37, e_X11_value_38, e_X11_value_42, e_X11_value_43, e_X11_value_46, e_X11_value_46x, e_X11_value_47, e_X11_value_50, e_X11_value_53, e_X11_value_54, e_X11_value_57, e_X11_value_60, e_X11_value_60x, e_X11_value_61, e_X11_value_64, e_X11_value_65, e_X11_value_68, zcll_s, zpush_s, zpush_n, zinv_i, zinv_l, zinv_r, zinv_x, zcats_nil, zcats_i, zcats_l, zcats_r, zcats_x, Nat.le_refl, and_self, true_and, and_true, zok_1, zok_20, zok_21, eq_self, Nat.reduceAdd, Nat.reduceLeDiff, Nat.zero_le, if_true, if_false, zw3_id, if_pos, if_neg, zand_t, tg_0, hG, k_isLength, k_isRun, zB_t, zB_f]
theorem q_goes (n i : Int) (hn : n < 1000) {Q : Option ZV × ZS → Prop} : ∀ (j : Nat) (k x t r : Int) (I L : ZI), (n - k).toNat = j → 0 ≤ k → k ≤ n → ClS I R b M → I 269 2 = t → L 269 1 = x → 0 ≤ t → t < mPr M.2.1 → (∀ I1 L1, KW I L I1 L1 → Tab I1 M → Q (some (zi (mGo M j x t r)), (c, s, I1, L1, R))) → V X (zrun X (d + 5)) mX11_goes 48 [zr (some 0), zi i, zi n, zi r, zi k] [] (c, s, I, L, R) Q := by
  intro j
  induction j with
  | zero =>
    intro k x t r I L h1 h2 h3 hS ht hx h0 h4 hQ
    have hq := hQ I L KW_r hS.2.2.2.2.2.2.2
    rw [e_X11_goes_48]
    simp (disch := omega) only [e_X11_goes_0, e_X11_goes_1, e_X11_goes_4, e_X11_goes_7, e_X11_goes_8, e_X11_goes_9, e_X11_goes_12, e_X11_goes_13, e_X11_goes_15, e_X11_goes_18, e_X11_goes_20, e_X11_goes_21, e_X11_goes_21x, e_X11_goes_22, e_X11_goes_25, e_X11_goes_28, e_X11_goes_30, e_X11_goes_31, e_X11_goes_31x, e_X11_goes_32, e_X11_goes_35, e_X11_goes_35x, e_X11_goes_36, e_X11_goes_39, e_X11_goes_40, e_X11_goes_43, e_X11_goes_44, e_X11_goes_45, e_X11_goes_46, e_X11_goes_50, e_X11_goes_51, e_X11_goes_54, e_X11_goes_54x, e_X11_goes_55, e_X11_goes_58, e_X11_goes_61, e_X11_goes_62, e_X11_goes_65, e_X11_goes_68, e_X11_goes_69, zcll_s, zpush_s, zpush_n, zinv_i, zinv_l, zinv_r, zinv_x, zcats_nil, zcats_i, zcats_l, zcats_r, zcats_x, Nat.le_refl, and_self, true_and, and_true, zok_1, zok_20, zok_21, eq_self, Nat.reduceAdd, Nat.reduceLeDiff, Nat.zero_le, if_true, if_false, zw3_id, if_pos, if_neg, zand_t]
    exact hq
  | succ j ih =>
    intro k x t r I L h1 h2 h3 hS ht hx h0 h4 hQ
    have hR := hS.1
    obtain ⟨I2, p1, p2, p3, p4⟩ := k_step (X := X) (d := d) (c := c) (s := s) (L := L) hS ht h0 h4 hx
    have hKW : KW I L I2 (zu L 269 1 (mlot x)) := ⟨p2, fun a ha => zu_n ha⟩
    have hms := mS_in (M := M) hS.2.2.2.2.2.2.1.2.2.1 (d := mdr M.1 (mlot x)) h0
    rw [e_X11_goes_48]
    simp (disch := omega) only [e_X11_goes_0, e_X11_goes_1, e_X11_goes_4, e_X11_goes_7, e_X11_goes_8, e_X11_goes_9, e_X11_goes_12, e_X11_goes_13, e_X11_goes_15, e_X11_goes_18, e_X11_goes_20, e_X11_goes_21, e_X11_goes_21x, e_X11_goes_22, e_X11_goes_25, e_X11_goes_28, e_X11_goes_30, e_X11_goes_31, e_X11_goes_31x, e_X11_goes_32, e_X11_goes_35, e_X11_goes_35x, e_X11_goes_36, e_X11_goes_39, e_X11_goes_40, e_X11_goes_43, e_X11_goes_44, e_X11_goes_45, e_X11_goes_46, e_X11_goes_50, e_X11_goes_51, e_X11_goes_54, e_X11_goes_54x, e_X11_goes_55, e_X11_goes_58, e_X11_goes_61, e_X11_goes_62, e_X11_goes_65, e_X11_goes_68, e_X11_goes_69, zcll_s, zpush_s, zpush_n, zinv_i, zinv_l, zinv_r, zinv_x, zcats_nil, zcats_i, zcats_l, zcats_r, zcats_x, Nat.le_refl, and_self, true_and, and_true, zok_1, zok_20, zok_21, eq_self, Nat.reduceAdd, Nat.reduceLeDiff, Nat.zero_le, if_true, if_false, zw3_id, if_pos, if_neg, zand_t, tg_0, tg_269, rr_0_3 hR, p1]
    exact ih (k + 1) (mlot x) _ _ I2 _ (by omega) (by omega) (by omega) (ClS_w hS hKW p3) p4 zu_s hms.1 hms.2 (fun I3 L3 r1 r2 => hQ I3 L3 (KW_t hKW r1) r2)
theorem k_goes (h : ClA B I R b M) (i k : Int) : ∃ I1 L1, zrun X (d + 6) 92 [zr (some 0), zi i, zi k] (c, s, I, L, R) = some (some (zi (aGoes B M (L 0 9) i k)), (c, s, I1, L1, R)) ∧ KA B I L R b M I1 L1 := by
  have hG := k_hasNoModel (X := X) (d := d + 4) (c := c) (s := s) (L := L) h
  unfold aGoes
  by_cases h3 : 0 ≤ i ∧ i ≤ 999999
  · by_cases h2 : 1 ≤ k ∧ k ≤ 60
    · rw [if_pos ⟨h3, h2⟩]
      by_cases hB : B
      · rw [zB_f (fun q => q hB)] at hG
        rw [if_pos hB]
        have hS := ClA_S h hB
        have hR := hS.1
        have hs := mS0_in (M := M) hS.2.2.2.2.2.2.1.2.2.1
        have p := sx_X11_goes (X := X) (d := d + 5) (u0 := some 0) (x1 := i) (x2 := k) (σ := (c, s, I, L, R)) (P := fun q => ∃ I1 L1, q = (some (zi (mGo M k.toNat (mlot0 (L 0 9) i) (mS0 M) (-1))), (c, s, I1, L1, R)) ∧ KA B I L R b M I1 L1) ?_
        · obtain ⟨r, q1, I1, L1, q2, q3⟩ := p
          exact ⟨I1, L1, by rw [q1, q2], q3⟩
        · have q := k_begin (X := X) (d := d + 2) (c := c) (s := s) (L := L) hS (L 0 9) i
          have hKW : KW I L (zu I 269 2 (mS0 M)) (zu L 269 1 (mlot0 (L 0 9) i)) := ⟨fun a _ _ _ ha _ => zu_n ha, fun a ha => zu_n ha⟩
          have hT1 : Tab (zu I 269 2 (mS0 M)) M := Tab_c hS.2.2.2.2.2.2.2 (zu_n (by omega)) (zu_n (by omega))
          simp (disch := omega) only [e_X11_goes_0, e_X11_goes_1, e_X11_goes_4, e_X11_goes_7, e_X11_goes_8, e_X11_goes_9, e_X11_goes_12, e_X11_goes_13, e_X11_goes_15, e_X11_goes_18, e_X11_goes_20, e_X11_goes_21, e_X11_goes_21x, e_X11_goes_22, e_X11_goes_25, e_X11_goes_28, e_X11_goes_30, e_X11_goes_31, e_X11_goes_31x, e_X11_goes_32, e_X11_goes_35, e_X11_goes_35x, e_X11_goes_36, e_X11_goes_39, e_X11_goes_40, e_X11_goes_43, e_X11_goes_44, e_X11_goes_45, e_X11_goes_46, e_X11_goes_50, e_X11_goes_51, e_X11_goes_54, e_X11_goes_54x, e_X11_goes_55, e_X11_goes_58, e_X11_goes_61, e_X11_goes_62, e_X11_goes_65, e_X11_goes_68, e_X11_goes_69, zcll_s, zpush_s, zpush_n, zinv_i, zinv_l, zinv_r, zinv_x, zcats_nil, zcats_i, zcats_l, zcats_r, zcats_x, Nat.le_refl, and_self, true_and, and_true, zok_1, zok_20, zok_21, eq_self, Nat.reduceAdd, Nat.reduceLeDiff, Nat.zero_le, if_true, if_false, zw3_id, if_pos, if_neg, zand_t, tg_0, tg_269, rr_0_3 hR, hG, k_isRun, zB_t, q]
          exact q_goes (X := X) (d := d) k i (by omega) k.toNat 0 (mlot0 (L 0 9) i) (mS0 M) (-1) _ _ (by omega) (by omega) (by omega) (ClS_w hS hKW hT1) zu_s zu_s hs.1 hs.2 (fun I1 L1 r1 r2 => ⟨I1, L1, rfl, KA_S hB hS (KW_t hKW r1) r2⟩)
      · rw [zB_t hB] at hG
        rw [if_neg hB]
        refine ⟨I, L, st_X11_goes ?_, KA_r h⟩
        simp (disch := omega) only [e_X11_goes_0, e_X11_goes_1, e_X11_goes_4, e_X11_goes_7, e_X11_goes_8, e_X11_goes_9, e_X11_goes_12, e_X11_goes_13, e_X11_goes_15, e_X11_goes_18, e_X11_goes_20, e_X11_goes_21, e_X11_goes_21x, e_X11_goes_22, e_X11_goes_25, e_X11_goes_28, e_X11_goes_30, e_X11_goes_31, e_X11_goes_31x, e_X11_goes_32, e_X11_goes_35, e_X11_goes_35x, e_X11_goes_36, e_X11_goes_39, e_X11_goes_40, e_X11_goes_43, e_X11_goes_44, e_X11_goes_45, e_X11_goes_46, e_X11_goes_50, e_X11_goes_51, e_X11_goes_54, e_X11_goes_54x, e_X11_goes_55, e_X11_goes_58, e_X11_goes_61, e_X11_goes_62, e_X11_goes_65, e_X11_goes_68, e_X11_goes_69, zcll_s, zpush_s, zpush_n, zinv_i, zinv_l, zinv_r, zinv_x, zcats_nil, zcats_i, zcats_l, zcats_r, zcats_x, Nat.le_refl, and_self, true_and, and_true, zok_1, zok_20, zok_21, eq_self, Nat.reduceAdd, Nat.reduceLeDiff, Nat.zero_le, if_true, if_false, zw3_id, if_pos, if_neg, zand_t, tg_0, hG, k_isRun, zB_t, zB_f]
    · rw [if_neg (fun q => h2 q.2)]
      refine ⟨I, L, st_X11_goes ?_, KA_r h⟩
      by_cases h0 : k < 1
      · simp (disch := omega) only [e_X11_goes_0, e_X11_goes_1, e_X11_goes_4, e_X11_goes_7, e_X11_goes_8, e_X11_goes_9, e_X11_goes_12, e_X11_goes_13, e_X11_goes_15, e_X11_goes_18, e_X11_goes_20, e_X11_goes_21, e_X11_goes_21x, e_X11_goes_22, e_X11_goes_25, e_X11_goes_28, e_X11_goes_30, e_X11_goes_31, e_X11_goes_31x, e_X11_goes_32, e_X11_goes_35, e_X11_goes_35x, e_X11_goes_36, e_X11_goes_39, e_X11_goes_40, e_X11_goes_43, e_X11_goes_44, e_X11_goes_45, e_X11_goes_46, e_X11_goes_50, e_X11_goes_51, e_X11_goes_54, e_X11_goes_54x, e_X11_goes_55, e_X11_goes_58, e_X11_goes_61, e_X11_goes_62, e_X11_goes_65, e_X11_goes_68, e_X11_goes_69, zcll_s, zpush_s, zpush_n, zinv_i, zinv_l, zinv_r, zinv_x, zcats_nil, zcats_i, zcats_l, zcats_r, zcats_x, Nat.le_refl, and_self, true_and, and_true, zok_1, zok_20, zok_21, eq_self, Nat.reduceAdd, Nat.reduceLeDiff, Nat.zero_le, if_true, if_false, zw3_id, if_pos, if_neg, zand_t, tg_0, hG, k_isRun, zB_t, zB_f]
      · simp (disch := omega) only [e_X11_goes_0, e_X11_goes_1, e_X11_goes_4, e_X11_goes_7, e_X11_goes_8, e_X11_goes_9, e_X11_goes_12, e_X11_goes_13, e_X11_goes_15, e_X11_goes_18, e_X11_goes_20, e_X11_goes_21, e_X11_goes_21x, e_X11_goes_22, e_X11_goes_25, e_X11_goes_28, e_X11_goes_30, e_X11_goes_31, e_X11_goes_31x, e_X11_goes_32, e_X11_goes_35, e_X11_goes_35x, e_X11_goes_36, e_X11_goes_39, e_X11_goes_40, e_X11_goes_43, e_X11_goes_44, e_X11_goes_45, e_X11_goes_46, e_X11_goes_50, e_X11_goes_51, e_X11_goes_54, e_X11_goes_54x, e_X11_goes_55, e_X11_goes_58, e_X11_goes_61, e_X11_goes_62, e_X11_goes_65, e_X11_goes_68, e_X11_goes_69, zcll_s, zpush_s, zpush_n, zinv_i, zinv_l, zinv_r, zinv_x, zcats_nil, zcats_i, zcats_l, zcats_r, zcats_x, Nat.le_refl, and_self, true_and, and_true, zok_1, zok_20, zok_21, eq_self, Nat.reduceAdd, Nat.reduceLeDiff, Nat.zero_le, if_true, if_false, zw3_id, if_pos, if_neg, zand_t, tg_0, hG, k_isRun, zB_t, zB_f]
  · rw [if_neg (fun q => h3 q.1)]
    refine ⟨I, L, st_X11_goes ?_, KA_r h⟩
    simp (disch := omega) only [e_X11_goes_0, e_X11_goes_1, e_X11_goes_4, e_X11_goes_7, e_X11_goes_8, e_X11_goes_9, e_X11_goes_12, e_X11_goes_13, e_X11_goes_15, e_X11_goes_18, e_X11_goes_20, e_X11_goes_21, e_X11_goes_21x, e_X11_goes_22, e_X11_goes_25, e_X11_goes_28, e_X11_goes_30, e_X11_goes_31, e_X11_goes_31x, e_X11_goes_32, e_X11_goes_35, e_X11_goes_35x, e_X11_goes_36, e_X11_goes_39, e_X11_goes_40, e_X11_goes_43, e_X11_goes_44, e_X11_goes_45, e_X11_goes_46, e_X11_goes_50, e_X11_goes_51, e_X11_goes_54, e_X11_goes_54x, e_X11_goes_55, e_X11_goes_58, e_X11_goes_61, e_X11_goes_62, e_X11_goes_65, e_X11_goes_68, e_X11_goes_69, zcll_s, zpush_s, zpush_n, zinv_i, zinv_l, zinv_r, zinv_x, zcats_nil, zcats_i, zcats_l, zcats_r, zcats_x, Nat.le_refl, and_self, true_and, and_true, zok_1, zok_20, zok_21, eq_self, Nat.reduceAdd, Nat.reduceLeDiff, Nat.zero_le, if_true, if_false, zw3_id, if_pos, if_neg, zand_t, tg_0, hG, k_isRun, zB_t, zB_f]
/-- the goal is come to within j steps, now or later; later alone -/
noncomputable def mHit (M : MD) (g : Nat) : Nat → Int → Int → Prop
  | 0, _, t => mGoal M g t
  | j + 1, x, t => mGoal M g t ∨ mHit M g j (mlot x) (mS M t (mdr M.1 (mlot x)))
noncomputable def mHitN (M : MD) (g : Nat) : Nat → Int → Int → Prop
  | 0, _, _ => False
  | j + 1, x, t => mHit M g j (mlot x) (mS M t (mdr M.1 (mlot x)))
theorem mHit_N {g : Nat} : ∀ j, mHit M g j x t ↔ mGoal M g t ∨ mHitN M g j x t := by
  intro j
  cases j with
  | zero => exact ⟨Or.inl, fun q => q.elim id False.elim⟩
  | succ j => exact Iff.rfl
theorem mHeld_h {g : Nat} : ∀ (j : Nat) (k x t : Int), 0 ≤ k → (mHeld M g j k x t = -1 ↔ ¬ mHit M g j x t) := by
  intro j
  induction j with
  | zero =>
    intro k x t hk
    unfold mHeld mHit
    by_cases h : mGoal M g t
    · rw [if_pos h]; exact ⟨fun q => by omega, fun q => absurd h q⟩
    · rw [if_neg h]; exact ⟨fun _ => h, fun _ => rfl⟩
  | succ j ih =>
    intro k x t hk
    unfold mHeld mHit
    by_cases h : mGoal M g t
    · rw [if_pos h]; exact ⟨fun q => by omega, fun q => absurd (Or.inl h) q⟩
    · rw [if_neg h, ih (k + 1) _ _ (by omega)]
      exact ⟨fun q z => z.elim h q, fun q z => q (Or.inr z)⟩
noncomputable def mKd (P Q : Prop) : Int := if zB P = 1 then (if zB Q = 1 then 0 else 1) else (if zB Q = 1 then 2 else 3)
theorem mKd_k {u v : Int} {P Q : Prop} (hP : u = -1 ↔ ¬ P) (hQ : v = -1 ↔ ¬ Q) : mKind u v = mKd P Q := by
  unfold mKind mKd
  by_cases p : P <;> by_cases q : Q
  · rw [zB_t p, zB_t q, if_neg (fun z => hP.mp z p), if_neg (fun z => hQ.mp z q), if_pos rfl, if_pos rfl]
  · rw [zB_t p, zB_f q, if_neg (fun z => hP.mp z p), if_pos (hQ.mpr q), if_pos rfl, if_neg (by omega)]
  · rw [zB_f p, zB_t q, if_pos (hP.mpr p), if_neg (fun z => hQ.mp z q), if_neg (by omega), if_pos rfl]
  · rw [zB_f p, zB_f q, if_pos (hP.mpr p), if_pos (hQ.mpr q), if_neg (by omega), if_neg (by omega)]
end
