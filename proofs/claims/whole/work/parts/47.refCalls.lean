/-! The reference: calls by runs. -/
section
variable {X : ZX} {d c s : Nat} {I L I1 L1 I2 L2 : ZI} {R : ZR} {call : ZC} {w : Nat} {M : MD} {f : Nat → Int} {x t : Int}
/-- what the reference's calls leave as it is: the class's cells, the tape, the model, the seed -/
def RF0 (I L I1 L1 : ZI) : Prop := (∀ a, a < 310 ∨ a = 337 → I1 a = I a ∧ L1 a = L a) ∧ (∀ a, 311 ≤ a → a ≤ 327 → I1 a = I a) ∧ (∀ k, k = 2 ∨ k = 3 ∨ k = 12 ∨ k = 14 → I1 310 k = I 310 k) ∧ L1 310 31 = L 310 31
/-- and its counts too -/
def RF (I L I1 L1 : ZI) : Prop := RF0 I L I1 L1 ∧ I1 333 = I 333 ∧ ∀ k, k = 38 ∨ k = 39 ∨ k = 41 ∨ k = 42 ∨ k = 43 → I1 310 k = I 310 k
theorem RF0_r : RF0 I L I L := ⟨fun _ _ => ⟨rfl, rfl⟩, fun _ _ _ => rfl, fun _ _ => rfl, rfl⟩
theorem RF_r : RF I L I L := ⟨RF0_r, rfl, fun _ _ => rfl⟩
theorem RF0_t (h1 : RF0 I L I1 L1) (h2 : RF0 I1 L1 I2 L2) : RF0 I L I2 L2 := ⟨fun a ha => ⟨(h2.1 a ha).1.trans (h1.1 a ha).1, (h2.1 a ha).2.trans (h1.1 a ha).2⟩, fun a ha hb => (h2.2.1 a ha hb).trans (h1.2.1 a ha hb), fun k hk => (h2.2.2.1 k hk).trans (h1.2.2.1 k hk), h2.2.2.2.trans h1.2.2.2⟩
theorem RF_t (h1 : RF I L I1 L1) (h2 : RF I1 L1 I2 L2) : RF I L I2 L2 := ⟨RF0_t h1.1 h2.1, h2.2.1.trans h1.2.1, fun k hk => (h2.2.2 k hk).trans (h1.2.2 k hk)⟩
theorem RF0_u {k : Nat} {y : Int} (hk : k ≠ 2 ∧ k ≠ 3 ∧ k ≠ 12 ∧ k ≠ 14) : RF0 I L (zu I 310 k y) L := ⟨fun a ha => ⟨zu_n (by omega), rfl⟩, fun a ha hb => zu_n (by omega), fun j hj => zu_k (by omega), rfl⟩
theorem RF_u0 {y : Int} : RF I L (zu I 310 0 y) L := ⟨RF0_u (by omega), zu_n (by omega), fun j hj => zu_k (by omega)⟩
theorem RF_run {y : Int} : RF I L (zW I 328 f) (zu L 310 33 y) := ⟨⟨fun a ha => ⟨zW_n (by omega), zu_n (by omega)⟩, fun a ha hb => zW_n (by omega), fun j hj => by rw [zW_n (by omega)], zu_k (by omega)⟩, zW_n (by omega), fun j hj => by rw [zW_n (by omega)]⟩
theorem RF0_S (h : RF0 I L I1 L1) (hS : RefS I w M) : RefS I1 w M := RefS_c (fun a h1 h2 => h.2.1 a (by omega) h2) (h.2.2.1 12 (by omega)) hS
theorem RF0_T (h : RF0 I L I1 L1) (hS : RefT I w M) : RefT I1 w M := by
  unfold RefT
  rw [h.2.2.1 14 (by omega), h.2.2.1 12 (by omega)]
  rcases hS with q | q
  · exact Or.inl ⟨q.1, RF0_S h q.2⟩
  · exact Or.inr q
theorem c_held (hR : Rok R) (h : RefS I w M) (g n i : Int) (h0 : 0 ≤ g) (hg : g < M.2.2.2.length) (hn0 : 0 ≤ n) (hn : n < 1000) : ∃ I1 L1, zrun X (d + 3) 148 [zr (some 310), zi g, zi n, zi i] (c, s, I, L, R) = some (some (zi (mH M (L 310 31) g n i)), (c, s, I1, L1, R)) ∧ RF I L I1 L1 := by
  obtain ⟨f, y, p⟩ := c_heldAt (X := X) (d := d) (c := c) (s := s) (L := L) hR h g n i h0 hg hn0 hn
  exact ⟨_, _, p, RF_run⟩
theorem mHeld_r {g : Nat} : ∀ (j : Nat) (k x t : Int), 0 ≤ k → -1 ≤ mHeld M g j k x t ∧ mHeld M g j k x t ≤ k + j := by
  intro j
  induction j with
  | zero =>
    intro k x t hk
    unfold mHeld
    split <;> omega
  | succ j ih =>
    intro k x t hk
    unfold mHeld
    split
    · omega
    · have := ih (k + 1) (mlot x) (mS M t (mdr M.1 (mlot x))) (by omega)
      omega
/-- holds -/
noncomputable def aHolds (b : Prop) (M : MD) (z g n i : Int) : Int := @ite _ (mIsG b M g ∧ (0 ≤ n ∧ n ≤ 60) ∧ (0 ≤ i ∧ i ≤ 999999)) (Classical.propDecidable _) (mH M z g n i) (-2)
theorem c_holds (hR : Rok R) (h : RefT I w M) (g n i : Int) : ∃ I1 L1, zrun X (d + 4) 149 [zr (some 310), zi g, zi n, zi i] (c, s, I, L, R) = some (some (zi (aHolds (I 310 14 = 1) M (L 310 31) g n i)), (c, s, I1, L1, R)) ∧ RF I L I1 L1 := by
  have hT : RefT (zu I 310 0 0) w M := RefT_u (by omega) (by omega) h
  have e14 : zu I 310 0 0 310 14 = I 310 14 := zu_k (by omega)
  have hG := c_isGoalNumber (X := X) (d := d + 1) (c := c) (s := s) (L := L) hR hT g
  rw [e14] at hG
  unfold aHolds
  by_cases h1 : mIsG (I 310 14 = 1) M g
  · rw [zB_t h1] at hG
    by_cases h2 : 0 ≤ n ∧ n ≤ 60
    · by_cases h3 : 0 ≤ i ∧ i ≤ 999999
      · rw [if_pos ⟨h1, h2, h3⟩]
        have hS : RefS (zu I 310 0 0) w M := by
          rcases hT with q | q
          · exact q.2
          · have := h1.1; rw [e14] at q; omega
        obtain ⟨I1, L1, p1, p2⟩ := c_held (X := X) (d := d) (c := c) (s := s) (L := L) hR hS g n i h1.2.1 h1.2.2 h2.1 (by omega)
        refine ⟨I1, L1, st_X12_holds ?_, RF_t RF_u0 p2⟩
        simp (disch := omega) only [e_X12_holds_0, e_X12_holds_0x, e_X12_holds_1, e_X12_holds_2, e_X12_holds_5, e_X12_holds_5x, e_X12_holds_6, e_X12_holds_7, e_X12_holds_10, e_X12_holds_13, e_X12_holds_14, e_X12_holds_15, e_X12_holds_16, e_X12_holds_19, e_X12_holds_22, e_X12_holds_25, e_X12_holds_26, e_X12_holds_29, e_X12_holds_32, e_X12_holds_34, e_X12_holds_37, e_X12_holds_37x, e_X12_holds_38, e_X12_holds_39, e_X12_holds_40, e_X12_holds_41, e_X12_holds_44, zcll_s, zpush_s, zpush_n, zinv_i, zinv_l, zinv_r, zinv_x, zcats_nil, zcats_i, zcats_l, zcats_r, zcats_x, Nat.le_refl, and_self, true_and, and_true, zok_1, zok_20, zok_21, eq_self, Nat.reduceAdd, Nat.reduceLeDiff, Nat.zero_le, if_true, if_false, zw3_id, if_pos, if_neg, zand_t, tg_310, hG, c_in, c_isRun, zB_t, p1]
      · rw [if_neg (fun q => h3 q.2.2)]
        refine ⟨zu I 310 0 0, L, st_X12_holds ?_, RF_u0⟩
        simp (disch := omega) only [e_X12_holds_0, e_X12_holds_0x, e_X12_holds_1, e_X12_holds_2, e_X12_holds_5, e_X12_holds_5x, e_X12_holds_6, e_X12_holds_7, e_X12_holds_10, e_X12_holds_13, e_X12_holds_14, e_X12_holds_15, e_X12_holds_16, e_X12_holds_19, e_X12_holds_22, e_X12_holds_25, e_X12_holds_26, e_X12_holds_29, e_X12_holds_32, e_X12_holds_34, e_X12_holds_37, e_X12_holds_37x, e_X12_holds_38, e_X12_holds_39, e_X12_holds_40, e_X12_holds_41, e_X12_holds_44, zcll_s, zpush_s, zpush_n, zinv_i, zinv_l, zinv_r, zinv_x, zcats_nil, zcats_i, zcats_l, zcats_r, zcats_x, Nat.le_refl, and_self, true_and, and_true, zok_1, zok_20, zok_21, eq_self, Nat.reduceAdd, Nat.reduceLeDiff, Nat.zero_le, if_true, if_false, zw3_id, if_pos, if_neg, zand_t, tg_310, hG, c_in, c_isRun, zB_t, zB_f]
    · rw [if_neg (fun q => h2 q.2.1)]
      refine ⟨zu I 310 0 0, L, st_X12_holds ?_, RF_u0⟩
      simp (disch := omega) only [e_X12_holds_0, e_X12_holds_0x, e_X12_holds_1, e_X12_holds_2, e_X12_holds_5, e_X12_holds_5x, e_X12_holds_6, e_X12_holds_7, e_X12_holds_10, e_X12_holds_13, e_X12_holds_14, e_X12_holds_15, e_X12_holds_16, e_X12_holds_19, e_X12_holds_22, e_X12_holds_25, e_X12_holds_26, e_X12_holds_29, e_X12_holds_32, e_X12_holds_34, e_X12_holds_37, e_X12_holds_37x, e_X12_holds_38, e_X12_holds_39, e_X12_holds_40, e_X12_holds_41, e_X12_holds_44, zcll_s, zpush_s, zpush_n, zinv_i, zinv_l, zinv_r, zinv_x, zcats_nil, zcats_i, zcats_l, zcats_r, zcats_x, Nat.le_refl, and_self, true_and, and_true, zok_1, zok_20, zok_21, eq_self, Nat.reduceAdd, Nat.reduceLeDiff, Nat.zero_le, if_true, if_false, zw3_id, if_pos, if_neg, zand_t, tg_310, hG, c_in, c_isRun, zB_t, zB_f]
  · rw [zB_f h1] at hG
    rw [if_neg (fun q => h1 q.1)]
    refine ⟨zu I 310 0 0, L, st_X12_holds ?_, RF_u0⟩
    simp (disch := omega) only [e_X12_holds_0, e_X12_holds_0x, e_X12_holds_1, e_X12_holds_2, e_X12_holds_5, e_X12_holds_5x, e_X12_holds_6, e_X12_holds_7, e_X12_holds_10, e_X12_holds_13, e_X12_holds_14, e_X12_holds_15, e_X12_holds_16, e_X12_holds_19, e_X12_holds_22, e_X12_holds_25, e_X12_holds_26, e_X12_holds_29, e_X12_holds_32, e_X12_holds_34, e_X12_holds_37, e_X12_holds_37x, e_X12_holds_38, e_X12_holds_39, e_X12_holds_40, e_X12_holds_41, e_X12_holds_44, zcll_s, zpush_s, zpush_n, zinv_i, zinv_l, zinv_r, zinv_x, zcats_nil, zcats_i, zcats_l, zcats_r, zcats_x, Nat.le_refl, and_self, true_and, and_true, zok_1, zok_20, zok_21, eq_self, Nat.reduceAdd, Nat.reduceLeDiff, Nat.zero_le, if_true, if_false, zw3_id, if_pos, if_neg, zand_t, tg_310, hG, c_in, c_isRun, zB_t, zB_f]
/-- the state n steps on -/
noncomputable def mRun (M : MD) : Nat → Int → Int → Int
  | 0, _, t => t
  | n + 1, x, t => mRun M n (mlot x) (mS M t (mdr M.1 (mlot x)))
theorem p_value (hR : Rok R) (h : RefS I w M) (v : Int) (h0 : 0 ≤ v) (hv : v < M.2.1.length) (n i : Int) (hn : n < 1000) {Q : Option ZV × ZS → Prop} : ∀ (j : Nat) (k : Int) (f : Nat → Int) (x t : Int), (n - k).toNat = j → 0 ≤ k → k ≤ n → Now M f t → (∀ f y, Q (some (zi (mDe M.2.1 (mRun M j x t) v.toNat)), (c, s, zW I 328 f, zu L 310 33 y, R))) → V X (zrun X (d + 2)) mX12_value 43 [zr (some 310), zi i, zi n, zi v, zi k] [] (c, s, zW I 328 f, zu L 310 33 x, R) Q := by
  intro j
  have hn4 := h.2.2.2.2.1
  induction j with
  | zero =>
    intro k f x t h1 h2 h3 hN hQ
    rw [e_X12_value_43]
    simp (disch := omega) only [e_X12_value_0, e_X12_value_0x, e_X12_value_1, e_X12_value_2, e_X12_value_5, e_X12_value_6, e_X12_value_9, e_X12_value_12, e_X12_value_13, e_X12_value_14, e_X12_value_15, e_X12_value_18, e_X12_value_21, e_X12_value_24, e_X12_value_24x, e_X12_value_25, e_X12_value_26, e_X12_value_29, e_X12_value_32, e_X12_value_34, e_X12_value_35, e_X12_value_35x, e_X12_value_36, e_X12_value_37, e_X12_value_40, e_X12_value_41, e_X12_value_45, e_X12_value_46, e_X12_value_49, e_X12_value_49x, e_X12_value_50, e_X12_value_50x, e_X12_value_51, e_X12_value_51x, e_X12_value_52, e_X12_value_55, e_X12_value_58, e_X12_value_61, e_X12_value_64, e_X12_value_67, e_X12_value_67x, e_X12_value_68, e_X12_value_71, e_X12_value_72, e_X12_value_73, zcll_s, zpush_s, zpush_n, zinv_i, zinv_l, zinv_r, zinv_x, zcats_nil, zcats_i, zcats_l, zcats_r, zcats_x, Nat.le_refl, and_self, true_and, and_true, zok_1, zok_20, zok_21, eq_self, Nat.reduceAdd, Nat.reduceLeDiff, Nat.zero_le, if_true, if_false, zw3_id, if_pos, if_neg, zand_t, tg_310, tg_328, tn_328, rr_310_32 hR, zW_s, hN.1 v.toNat (show v.toNat < M.2.1.length by omega)]
    exact hQ f x
  | succ j ih =>
    intro k f x t h1 h2 h3 hN hQ
    have hdd := mdr_in h.2.2.2.1.1 (mlot x)
    have hl20 := h.2.2.2.1.2
    rw [e_X12_value_43]
    simp (disch := omega) only [e_X12_value_0, e_X12_value_0x, e_X12_value_1, e_X12_value_2, e_X12_value_5, e_X12_value_6, e_X12_value_9, e_X12_value_12, e_X12_value_13, e_X12_value_14, e_X12_value_15, e_X12_value_18, e_X12_value_21, e_X12_value_24, e_X12_value_24x, e_X12_value_25, e_X12_value_26, e_X12_value_29, e_X12_value_32, e_X12_value_34, e_X12_value_35, e_X12_value_35x, e_X12_value_36, e_X12_value_37, e_X12_value_40, e_X12_value_41, e_X12_value_45, e_X12_value_46, e_X12_value_49, e_X12_value_49x, e_X12_value_50, e_X12_value_50x, e_X12_value_51, e_X12_value_51x, e_X12_value_52, e_X12_value_55, e_X12_value_58, e_X12_value_61, e_X12_value_64, e_X12_value_67, e_X12_value_67x, e_X12_value_68, e_X12_value_71, e_X12_value_72, e_X12_value_73, zcll_s, zpush_s, zpush_n, zinv_i, zinv_l, zinv_r, zinv_x, zcats_nil, zcats_i, zcats_l, zcats_r, zcats_x, Nat.le_refl, and_self, true_and, and_true, zok_1, zok_20, zok_21, eq_self, Nat.reduceAdd, Nat.reduceLeDiff, Nat.zero_le, if_true, if_false, zw3_id, if_pos, if_neg, zand_t, tg_310, d_draw hR h, d_ruleBy hR h hN, d_go hR h hN]
    exact ih (k + 1) _ _ _ (by omega) (by omega) (by omega) (Now_s h.2.2.2 hN _) hQ
noncomputable def aValue (b : Prop) (M : MD) (z i n v : Int) : Int := @ite _ ((0 ≤ i ∧ i ≤ 999999) ∧ (0 ≤ n ∧ n ≤ 60) ∧ mIsV b M v) (Classical.propDecidable _) (mDe M.2.1 (mRun M n.toNat (mlot0 z i) (mS0 M)) v.toNat) (-2)
theorem c_value (hR : Rok R) (h : RefT I w M) (i n v : Int) : ∃ I1 L1, zrun X (d + 3) 150 [zr (some 310), zi i, zi n, zi v] (c, s, I, L, R) = some (some (zi (aValue (I 310 14 = 1) M (L 310 31) i n v)), (c, s, I1, L1, R)) ∧ RF I L I1 L1 := by
  have hT : RefT (zu I 310 0 0) w M := RefT_u (by omega) (by omega) h
  have e14 : zu I 310 0 0 310 14 = I 310 14 := zu_k (by omega)
  have hG := c_isVar (X := X) (d := d) (c := c) (s := s) (L := L) hR hT v
  rw [e14] at hG
  unfold aValue
  by_cases h3 : 0 ≤ i ∧ i ≤ 999999
  · by_cases h2 : 0 ≤ n ∧ n ≤ 60
    · by_cases h1 : mIsV (I 310 14 = 1) M v
      · rw [zB_t h1] at hG
        rw [if_pos ⟨h3, h2, h1⟩]
        have hS : RefS (zu I 310 0 0) w M := by
          rcases hT with q | q
          · exact q.2
          · have := h1.1; rw [e14] at q; omega
        have p := sx_X12_value (X := X) (d := d + 2) (u0 := some 310) (x1 := i) (x2 := n) (x3 := v) (σ := (c, s, I, L, R)) (P := fun q => ∃ I1 L1, q = (some (zi (mDe M.2.1 (mRun M n.toNat (mlot0 (L 310 31) i) (mS0 M)) v.toNat)), (c, s, I1, L1, R)) ∧ RF I L I1 L1) ?_
        · obtain ⟨r, p1, I1, L1, p2, p3⟩ := p
          exact ⟨I1, L1, by rw [p1, p2], p3⟩
        · obtain ⟨f, p1, p2⟩ := c_beginRun (X := X) (d := d) (c := c) (s := s) (L := L) hR hS i
          simp (disch := omega) only [e_X12_value_0, e_X12_value_0x, e_X12_value_1, e_X12_value_2, e_X12_value_5, e_X12_value_6, e_X12_value_9, e_X12_value_12, e_X12_value_13, e_X12_value_14, e_X12_value_15, e_X12_value_18, e_X12_value_21, e_X12_value_24, e_X12_value_24x, e_X12_value_25, e_X12_value_26, e_X12_value_29, e_X12_value_32, e_X12_value_34, e_X12_value_35, e_X12_value_35x, e_X12_value_36, e_X12_value_37, e_X12_value_40, e_X12_value_41, e_X12_value_45, e_X12_value_46, e_X12_value_49, e_X12_value_49x, e_X12_value_50, e_X12_value_50x, e_X12_value_51, e_X12_value_51x, e_X12_value_52, e_X12_value_55, e_X12_value_58, e_X12_value_61, e_X12_value_64, e_X12_value_67, e_X12_value_67x, e_X12_value_68, e_X12_value_71, e_X12_value_72, e_X12_value_73, zcll_s, zpush_s, zpush_n, zinv_i, zinv_l, zinv_r, zinv_x, zcats_nil, zcats_i, zcats_l, zcats_r, zcats_x, Nat.le_refl, and_self, true_and, and_true, zok_1, zok_20, zok_21, eq_self, Nat.reduceAdd, Nat.reduceLeDiff, Nat.zero_le, if_true, if_false, zw3_id, if_pos, if_neg, zand_t, tg_310, hG, c_in, c_isRun, zB_t, p1]
          exact p_value (X := X) (d := d) hR hS v h1.2.1 h1.2.2 n i (by omega) _ 0 f _ _ (by omega) (by omega) (by omega) p2 (fun f y => ⟨_, _, rfl, RF_t RF_u0 RF_run⟩)
      · rw [zB_f h1] at hG
        rw [if_neg (fun q => h1 q.2.2)]
        refine ⟨zu I 310 0 0, L, st_X12_value ?_, RF_u0⟩
        simp (disch := omega) only [e_X12_value_0, e_X12_value_0x, e_X12_value_1, e_X12_value_2, e_X12_value_5, e_X12_value_6, e_X12_value_9, e_X12_value_12, e_X12_value_13, e_X12_value_14, e_X12_value_15, e_X12_value_18, e_X12_value_21, e_X12_value_24, e_X12_value_24x, e_X12_value_25, e_X12_value_26, e_X12_value_29, e_X12_value_32, e_X12_value_34, e_X12_value_35, e_X12_value_35x, e_X12_value_36, e_X12_value_37, e_X12_value_40, e_X12_value_41, e_X12_value_45, e_X12_value_46, e_X12_value_49, e_X12_value_49x, e_X12_value_50, e_X12_value_50x, e_X12_value_51, e_X12_value_51x, e_X12_value_52, e_X12_value_55, e_X12_value_58, e_X12_value_61, e_X12_value_64, e_X12_value_67, e_X12_value_67x, e_X12_value_68, e_X12_value_71, e_X12_value_72, e_X12_value_73, zcll_s, zpush_s, zpush_n, zinv_i, zinv_l, zinv_r, zinv_x, zcats_nil, zcats_i, zcats_l, zcats_r, zcats_x, Nat.le_refl, and_self, true_and, and_true, zok_1, zok_20, zok_21, eq_self, Nat.reduceAdd, Nat.reduceLeDiff, Nat.zero_le, if_true, if_false, zw3_id, if_pos, if_neg, zand_t, tg_310, hG, c_in, c_isRun, zB_t, zB_f]
    · rw [if_neg (fun q => h2 q.2.1)]
      refine ⟨zu I 310 0 0, L, st_X12_value ?_, RF_u0⟩
      simp (disch := omega) only [e_X12_value_0, e_X12_value_0x, e_X12_value_1, e_X12_value_2, e_X12_value_5, e_X12_value_6, e_X12_value_9, e_X12_value_12, e_X12_value_13, e_X12_value_14, e_X12_value_15, e_X12_value_18, e_X12_value_21, e_X12_value_24, e_X12_value_24x, e_X12_value_25, e_X12_value_26, e_X12_value_29, e_X12_value_32, e_X12_value_34, e_X12_value_35, e_X12_value_35x, e_X12_value_36, e_X12_value_37, e_X12_value_40, e_X12_value_41, e_X12_value_45, e_X12_value_46, e_X12_value_49, e_X12_value_49x, e_X12_value_50, e_X12_value_50x, e_X12_value_51, e_X12_value_51x, e_X12_value_52, e_X12_value_55, e_X12_value_58, e_X12_value_61, e_X12_value_64, e_X12_value_67, e_X12_value_67x, e_X12_value_68, e_X12_value_71, e_X12_value_72, e_X12_value_73, zcll_s, zpush_s, zpush_n, zinv_i, zinv_l, zinv_r, zinv_x, zcats_nil, zcats_i, zcats_l, zcats_r, zcats_x, Nat.le_refl, and_self, true_and, and_true, zok_1, zok_20, zok_21, eq_self, Nat.reduceAdd, Nat.reduceLeDiff, Nat.zero_le, if_true, if_false, zw3_id, if_pos, if_neg, zand_t, tg_310, hG, c_in, c_isRun, zB_t, zB_f]
  · rw [if_neg (fun q => h3 q.1)]
    refine ⟨zu I 310 0 0, L, st_X12_value ?_, RF_u0⟩
    simp (disch := omega) only [e_X12_value_0, e_X12_value_0x, e_X12_value_1, e_X12_value_2, e_X12_value_5, e_X12_value_6, e_X12_value_9, e_X12_value_12, e_X12_value_13, e_X12_value_14, e_X12_value_15, e_X12_value_18, e_X12_value_21, e_X12_value_24, e_X12_value_24x, e_X12_value_25, e_X12_value_26, e_X12_value_29, e_X12_value_32, e_X12_value_34, e_X12_value_35, e_X12_value_35x, e_X12_value_36, e_X12_value_37, e_X12_value_40, e_X12_value_41, e_X12_value_45, e_X12_value_46, e_X12_value_49, e_X12_value_49x, e_X12_value_50, e_X12_value_50x, e_X12_value_51, e_X12_value_51x, e_X12_value_52, e_X12_value_55, e_X12_value_58, e_X12_value_61, e_X12_value_64, e_X12_value_67, e_X12_value_67x, e_X12_value_68, e_X12_value_71, e_X12_value_72, e_X12_value_73, zcll_s, zpush_s, zpush_n, zinv_i, zinv_l, zinv_r, zinv_x, zcats_nil, zcats_i, zcats_l, zcats_r, zcats_x, Nat.le_refl, and_self, true_and, and_true, zok_1, zok_20, zok_21, eq_self, Nat.reduceAdd, Nat.reduceLeDiff, Nat.zero_le, if_true, if_false, zw3_id, if_pos, if_neg, zand_t, tg_310, hG, c_in, c_isRun, zB_t, zB_f]
/-- the rule that goes at the last of n steps -/
noncomputable def mGo (M : MD) : Nat → Int → Int → Int → Int
  | 0, _, _, r => r
  | n + 1, x, t, _ => mGo M n (mlot x) (mS M t (mdr M.1 (mlot x))) (mR M (mDe M.2.1 t) (mdr M.1 (mlot x)))
theorem p_goes (hR : Rok R) (h : RefS I w M) (n i : Int) (hn : n < 1000) {Q : Option ZV × ZS → Prop} : ∀ (j : Nat) (k : Int) (f : Nat → Int) (x t r : Int), (n - k).toNat = j → 0 ≤ k → k ≤ n → Now M f t → (∀ f y, Q (some (zi (mGo M j x t r)), (c, s, zW I 328 f, zu L 310 33 y, R))) → V X (zrun X (d + 2)) mX12_goes 47 [zr (some 310), zi i, zi n, zi r, zi k] [] (c, s, zW I 328 f, zu L 310 33 x, R) Q := by
  intro j
  induction j with
  | zero =>
    intro k f x t r h1 h2 h3 hN hQ
    rw [e_X12_goes_47]
    simp (disch := omega) only [e_X12_goes_0, e_X12_goes_0x, e_X12_goes_1, e_X12_goes_2, e_X12_goes_5, e_X12_goes_6, e_X12_goes_9, e_X12_goes_12, e_X12_goes_13, e_X12_goes_14, e_X12_goes_15, e_X12_goes_18, e_X12_goes_21, e_X12_goes_24, e_X12_goes_26, e_X12_goes_27, e_X12_goes_27x, e_X12_goes_28, e_X12_goes_31, e_X12_goes_34, e_X12_goes_36, e_X12_goes_37, e_X12_goes_37x, e_X12_goes_38, e_X12_goes_39, e_X12_goes_42, e_X12_goes_43, e_X12_goes_44, e_X12_goes_45, e_X12_goes_49, e_X12_goes_50, e_X12_goes_53, e_X12_goes_53x, e_X12_goes_54, e_X12_goes_54x, e_X12_goes_55, e_X12_goes_58, e_X12_goes_61, e_X12_goes_62, e_X12_goes_62x, e_X12_goes_63, e_X12_goes_64, e_X12_goes_67, e_X12_goes_70, e_X12_goes_73, e_X12_goes_74, zcll_s, zpush_s, zpush_n, zinv_i, zinv_l, zinv_r, zinv_x, zcats_nil, zcats_i, zcats_l, zcats_r, zcats_x, Nat.le_refl, and_self, true_and, and_true, zok_1, zok_20, zok_21, eq_self, Nat.reduceAdd, Nat.reduceLeDiff, Nat.zero_le, if_true, if_false, zw3_id, if_pos, if_neg, zand_t, tg_310]
    exact hQ f x
  | succ j ih =>
    intro k f x t r h1 h2 h3 hN hQ
    have hdd := mdr_in h.2.2.2.1.1 (mlot x)
    have hl20 := h.2.2.2.1.2
    rw [e_X12_goes_47]
    simp (disch := omega) only [e_X12_goes_0, e_X12_goes_0x, e_X12_goes_1, e_X12_goes_2, e_X12_goes_5, e_X12_goes_6, e_X12_goes_9, e_X12_goes_12, e_X12_goes_13, e_X12_goes_14, e_X12_goes_15, e_X12_goes_18, e_X12_goes_21, e_X12_goes_24, e_X12_goes_26, e_X12_goes_27, e_X12_goes_27x, e_X12_goes_28, e_X12_goes_31, e_X12_goes_34, e_X12_goes_36, e_X12_goes_37, e_X12_goes_37x, e_X12_goes_38, e_X12_goes_39, e_X12_goes_42, e_X12_goes_43, e_X12_goes_44, e_X12_goes_45, e_X12_goes_49, e_X12_goes_50, e_X12_goes_53, e_X12_goes_53x, e_X12_goes_54, e_X12_goes_54x, e_X12_goes_55, e_X12_goes_58, e_X12_goes_61, e_X12_goes_62, e_X12_goes_62x, e_X12_goes_63, e_X12_goes_64, e_X12_goes_67, e_X12_goes_70, e_X12_goes_73, e_X12_goes_74, zcll_s, zpush_s, zpush_n, zinv_i, zinv_l, zinv_r, zinv_x, zcats_nil, zcats_i, zcats_l, zcats_r, zcats_x, Nat.le_refl, and_self, true_and, and_true, zok_1, zok_20, zok_21, eq_self, Nat.reduceAdd, Nat.reduceLeDiff, Nat.zero_le, if_true, if_false, zw3_id, if_pos, if_neg, zand_t, tg_310, d_draw hR h, d_ruleBy hR h hN, d_go hR h hN]
    exact ih (k + 1) _ _ _ _ (by omega) (by omega) (by omega) (Now_s h.2.2.2 hN _) hQ
noncomputable def aGoes (b : Prop) (M : MD) (z i k : Int) : Int := if (0 ≤ i ∧ i ≤ 999999) ∧ (1 ≤ k ∧ k ≤ 60) then @ite _ b (Classical.propDecidable _) (mGo M k.toNat (mlot0 z i) (mS0 M) (-1)) (-3) else -2
theorem c_goes (hR : Rok R) (h : RefT I w M) (i k : Int) : ∃ I1 L1, zrun X (d + 3) 151 [zr (some 310), zi i, zi k] (c, s, I, L, R) = some (some (zi (aGoes (I 310 14 = 1) M (L 310 31) i k)), (c, s, I1, L1, R)) ∧ RF I L I1 L1 := by
  have hT : RefT (zu I 310 0 0) w M := RefT_u (by omega) (by omega) h
  have e14 : zu I 310 0 0 310 14 = I 310 14 := zu_k (by omega)
  unfold aGoes
  by_cases h3 : 0 ≤ i ∧ i ≤ 999999
  · by_cases h2 : 1 ≤ k ∧ k ≤ 60
    · rw [if_pos ⟨h3, h2⟩]
      rcases hT with ⟨h1, hS⟩ | ⟨h1, _⟩
      · rw [e14] at h1
        rw [if_pos h1]
        have p := sx_X12_goes (X := X) (d := d + 2) (u0 := some 310) (x1 := i) (x2 := k) (σ := (c, s, I, L, R)) (P := fun q => ∃ I1 L1, q = (some (zi (mGo M k.toNat (mlot0 (L 310 31) i) (mS0 M) (-1))), (c, s, I1, L1, R)) ∧ RF I L I1 L1) ?_
        · obtain ⟨r, p1, I1, L1, p2, p3⟩ := p
          exact ⟨I1, L1, by rw [p1, p2], p3⟩
        · obtain ⟨f, p1, p2⟩ := c_beginRun (X := X) (d := d) (c := c) (s := s) (L := L) hR hS i
          simp (disch := omega) only [e_X12_goes_0, e_X12_goes_0x, e_X12_goes_1, e_X12_goes_2, e_X12_goes_5, e_X12_goes_6, e_X12_goes_9, e_X12_goes_12, e_X12_goes_13, e_X12_goes_14, e_X12_goes_15, e_X12_goes_18, e_X12_goes_21, e_X12_goes_24, e_X12_goes_26, e_X12_goes_27, e_X12_goes_27x, e_X12_goes_28, e_X12_goes_31, e_X12_goes_34, e_X12_goes_36, e_X12_goes_37, e_X12_goes_37x, e_X12_goes_38, e_X12_goes_39, e_X12_goes_42, e_X12_goes_43, e_X12_goes_44, e_X12_goes_45, e_X12_goes_49, e_X12_goes_50, e_X12_goes_53, e_X12_goes_53x, e_X12_goes_54, e_X12_goes_54x, e_X12_goes_55, e_X12_goes_58, e_X12_goes_61, e_X12_goes_62, e_X12_goes_62x, e_X12_goes_63, e_X12_goes_64, e_X12_goes_67, e_X12_goes_70, e_X12_goes_73, e_X12_goes_74, zcll_s, zpush_s, zpush_n, zinv_i, zinv_l, zinv_r, zinv_x, zcats_nil, zcats_i, zcats_l, zcats_r, zcats_x, Nat.le_refl, and_self, true_and, and_true, zok_1, zok_20, zok_21, eq_self, Nat.reduceAdd, Nat.reduceLeDiff, Nat.zero_le, if_true, if_false, zw3_id, if_pos, if_neg, zand_t, tg_310, e14, h1, c_in, c_isRun, zB_t, p1]
          exact p_goes (X := X) (d := d) hR hS k i (by omega) _ 0 f _ _ (-1) (by omega) (by omega) (by omega) p2 (fun f y => ⟨_, _, rfl, RF_t RF_u0 RF_run⟩)
      · rw [e14] at h1
        rw [if_neg (by omega)]
        refine ⟨zu I 310 0 0, L, st_X12_goes ?_, RF_u0⟩
        simp (disch := omega) only [e_X12_goes_0, e_X12_goes_0x, e_X12_goes_1, e_X12_goes_2, e_X12_goes_5, e_X12_goes_6, e_X12_goes_9, e_X12_goes_12, e_X12_goes_13, e_X12_goes_14, e_X12_goes_15, e_X12_goes_18, e_X12_goes_21, e_X12_goes_24, e_X12_goes_26, e_X12_goes_27, e_X12_goes_27x, e_X12_goes_28, e_X12_goes_31, e_X12_goes_34, e_X12_goes_36, e_X12_goes_37, e_X12_goes_37x, e_X12_goes_38, e_X12_goes_39, e_X12_goes_42, e_X12_goes_43, e_X12_goes_44, e_X12_goes_45, e_X12_goes_49, e_X12_goes_50, e_X12_goes_53, e_X12_goes_53x, e_X12_goes_54, e_X12_goes_54x, e_X12_goes_55, e_X12_goes_58, e_X12_goes_61, e_X12_goes_62, e_X12_goes_62x, e_X12_goes_63, e_X12_goes_64, e_X12_goes_67, e_X12_goes_70, e_X12_goes_73, e_X12_goes_74, zcll_s, zpush_s, zpush_n, zinv_i, zinv_l, zinv_r, zinv_x, zcats_nil, zcats_i, zcats_l, zcats_r, zcats_x, Nat.le_refl, and_self, true_and, and_true, zok_1, zok_20, zok_21, eq_self, Nat.reduceAdd, Nat.reduceLeDiff, Nat.zero_le, if_true, if_false, zw3_id, if_pos, if_neg, zand_t, tg_310, e14, h1, c_in, c_isRun, zB_t, zB_f]
    · rw [if_neg (fun q => h2 q.2)]
      refine ⟨zu I 310 0 0, L, st_X12_goes ?_, RF_u0⟩
      simp (disch := omega) only [e_X12_goes_0, e_X12_goes_0x, e_X12_goes_1, e_X12_goes_2, e_X12_goes_5, e_X12_goes_6, e_X12_goes_9, e_X12_goes_12, e_X12_goes_13, e_X12_goes_14, e_X12_goes_15, e_X12_goes_18, e_X12_goes_21, e_X12_goes_24, e_X12_goes_26, e_X12_goes_27, e_X12_goes_27x, e_X12_goes_28, e_X12_goes_31, e_X12_goes_34, e_X12_goes_36, e_X12_goes_37, e_X12_goes_37x, e_X12_goes_38, e_X12_goes_39, e_X12_goes_42, e_X12_goes_43, e_X12_goes_44, e_X12_goes_45, e_X12_goes_49, e_X12_goes_50, e_X12_goes_53, e_X12_goes_53x, e_X12_goes_54, e_X12_goes_54x, e_X12_goes_55, e_X12_goes_58, e_X12_goes_61, e_X12_goes_62, e_X12_goes_62x, e_X12_goes_63, e_X12_goes_64, e_X12_goes_67, e_X12_goes_70, e_X12_goes_73, e_X12_goes_74, zcll_s, zpush_s, zpush_n, zinv_i, zinv_l, zinv_r, zinv_x, zcats_nil, zcats_i, zcats_l, zcats_r, zcats_x, Nat.le_refl, and_self, true_and, and_true, zok_1, zok_20, zok_21, eq_self, Nat.reduceAdd, Nat.reduceLeDiff, Nat.zero_le, if_true, if_false, zw3_id, if_pos, if_neg, zand_t, tg_310, e14, c_in, c_isRun, zB_t, zB_f]
  · rw [if_neg (fun q => h3 q.1)]
    refine ⟨zu I 310 0 0, L, st_X12_goes ?_, RF_u0⟩
    simp (disch := omega) only [e_X12_goes_0, e_X12_goes_0x, e_X12_goes_1, e_X12_goes_2, e_X12_goes_5, e_X12_goes_6, e_X12_goes_9, e_X12_goes_12, e_X12_goes_13, e_X12_goes_14, e_X12_goes_15, e_X12_goes_18, e_X12_goes_21, e_X12_goes_24, e_X12_goes_26, e_X12_goes_27, e_X12_goes_27x, e_X12_goes_28, e_X12_goes_31, e_X12_goes_34, e_X12_goes_36, e_X12_goes_37, e_X12_goes_37x, e_X12_goes_38, e_X12_goes_39, e_X12_goes_42, e_X12_goes_43, e_X12_goes_44, e_X12_goes_45, e_X12_goes_49, e_X12_goes_50, e_X12_goes_53, e_X12_goes_53x, e_X12_goes_54, e_X12_goes_54x, e_X12_goes_55, e_X12_goes_58, e_X12_goes_61, e_X12_goes_62, e_X12_goes_62x, e_X12_goes_63, e_X12_goes_64, e_X12_goes_67, e_X12_goes_70, e_X12_goes_73, e_X12_goes_74, zcll_s, zpush_s, zpush_n, zinv_i, zinv_l, zinv_r, zinv_x, zcats_nil, zcats_i, zcats_l, zcats_r, zcats_x, Nat.le_refl, and_self, true_and, and_true, zok_1, zok_20, zok_21, eq_self, Nat.reduceAdd, Nat.reduceLeDiff, Nat.zero_le, if_true, if_false, zw3_id, if_pos, if_neg, zand_t, tg_310, e14, c_in, c_isRun, zB_t, zB_f]
end
