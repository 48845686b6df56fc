/-! The reference: runs. -/
section
variable {X : ZX} {d c s : Nat} {I L : ZI} {R : ZR} {call : ZC} {w : Nat} {M : MD} {f : Nat → Int} {x t : Int}
/-- the step at which the goal is come to from state t with lot x, n further steps at most, k before -/
noncomputable def mHeld (M : MD) (g : Nat) : Nat → Int → Int → Int → Int
  | 0, k, _, t => @ite _ (mGoal M g t) (Classical.propDecidable _) k (-1)
  | n + 1, k, x, t => @ite _ (mGoal M g t) (Classical.propDecidable _) k (mHeld M g n (k + 1) (mlot x) (mS M t (mdr M.1 (mlot x))))
theorem d_draw (hR : Rok R) (h : RefS I w M) : zrun X (d + 1) 144 [zr (some 310)] (c, s, zW I 328 f, zu L 310 33 x, R) = some (some (zi (mdr M.1 (mlot x))), (c, s, zW I 328 f, zu L 310 33 (mlot x), R)) := by
  have p := c_draw (X := X) (d := d) (c := c) (s := s) (L := zu L 310 33 x) hR (RefS_W (a := 328) (f := f) (by omega) h)
  rw [zu_s, zu_zu] at p
  exact p
theorem d_ruleBy (hR : Rok R) (h : RefS I w M) (hN : Now M f t) {dd : Int} (h0 : 0 ≤ dd) (hd : dd < 1000) : zrun X (d + 2) 141 [zr (some 310), zi dd] (c, s, zW I 328 f, L, R) = some (some (zi (mR M (mDe M.2.1 t) dd)), (c, s, zW I 328 f, L, R)) := by
  have p := c_ruleBy (X := X) (d := d) (c := c) (s := s) (L := L) hR (RefS_W (a := 328) (f := f) (by omega) h) dd h0 hd
  rw [zW_s, Now_r h.2.2.2 hN] at p
  exact p
theorem d_go (hR : Rok R) (h : RefS I w M) (hN : Now M f t) (dd : Int) : zrun X (d + 1) 142 [zr (some 310), zi (mR M (mDe M.2.1 t) dd)] (c, s, zW I 328 f, L, R) = some (none, (c, s, zW I 328 (mV M f (mR M f dd)), L, R)) := by
  have p := c_go (X := X) (d := d) (c := c) (s := s) (L := L) hR (RefS_W (a := 328) (f := f) (by omega) h) (mR M (mDe M.2.1 t) dd) (mR_r h.2.2.2 _ _) (by rw [zW_s]; exact Now_in h.2.2.2 hN)
  rw [zW_s, zW_W, ← Now_r h.2.2.2 hN] at p
  rw [← Now_r h.2.2.2 hN]
  exact p
theorem d_isGoal (hR : Rok R) (h : RefS I w M) (hN : Now M f t) {g : Int} (h0 : 0 ≤ g) (hg : g < M.2.2.2.length) : zrun X (d + 2) 140 [zr (some 310), zi g] (c, s, zW I 328 f, L, R) = some (some (zi (zB (mGoal M g.toNat t))), (c, s, zW I 328 f, L, R)) := by
  have p := c_isGoal (X := X) (d := d) (c := c) (s := s) (L := L) hR (RefS_W (a := 328) (f := f) (by omega) h) g h0 hg
  rw [zW_s, zB_c (Now_g h.2.2.2 hN (show g.toNat < _ by omega))] at p
  exact p
theorem p_heldAt (hR : Rok R) (h : RefS I w M) (g : Int) (h0 : 0 ≤ g) (hg : g < M.2.2.2.length) (n i : Int) (hn : n < 1000) {Q : Option ZV × ZS → Prop} : ∀ (j : Nat) (k : Int) (f : Nat → Int) (x t : Int), (n - k).toNat = j → 0 ≤ k → k ≤ n → Now M f t → (∀ f y, Q (some (zi (mHeld M g.toNat j k x t)), (c, s, zW I 328 f, zu L 310 33 y, R))) → V X (zrun X (d + 2)) mX12_heldAt 8 [zr (some 310), zi g, zi n, zi i, zi k] [] (c, s, zW I 328 f, zu L 310 33 x, R) Q := by
  intro j
  induction j with
  | zero =>
    intro k f x t h1 h2 h3 hN hQ
    have hG := d_isGoal (X := X) (d := d) (c := c) (s := s) (L := zu L 310 33 x) hR h hN h0 hg
    unfold mHeld at hQ
    rw [e_X12_heldAt_8]
    by_cases hgo : mGoal M g.toNat t
    · rw [zB_t hgo] at hG
      rw [if_pos hgo] at hQ
      simp (disch := omega) only [e_X12_heldAt_0, e_X12_heldAt_0x, e_X12_heldAt_1, e_X12_heldAt_2, e_X12_heldAt_5, e_X12_heldAt_6, e_X12_heldAt_10, e_X12_heldAt_11, e_X12_heldAt_14, e_X12_heldAt_14x, e_X12_heldAt_15, e_X12_heldAt_16, e_X12_heldAt_19, e_X12_heldAt_22, e_X12_heldAt_22x, e_X12_heldAt_23, e_X12_heldAt_23x, e_X12_heldAt_24, e_X12_heldAt_24x, e_X12_heldAt_25, e_X12_heldAt_28, e_X12_heldAt_31, e_X12_heldAt_34, e_X12_heldAt_37, e_X12_heldAt_40, e_X12_heldAt_40x, e_X12_heldAt_41, e_X12_heldAt_42, e_X12_heldAt_45, e_X12_heldAt_48, e_X12_heldAt_50, e_X12_heldAt_53, e_X12_heldAt_54, zcll_s, zpush_s, zpush_n, zinv_i, zinv_l, zinv_r, zinv_x, zcats_nil, zcats_i, zcats_l, zcats_r, zcats_x, Nat.le_refl, and_self, true_and, and_true, zok_1, zok_20, zok_21, eq_self, Nat.reduceAdd, Nat.reduceLeDiff, Nat.zero_le, if_true, if_false, zw3_id, if_pos, if_neg, zand_t, tg_310, hG]
      exact hQ f x
    · rw [zB_f hgo] at hG
      rw [if_neg hgo] at hQ
      simp (disch := omega) only [e_X12_heldAt_0, e_X12_heldAt_0x, e_X12_heldAt_1, e_X12_heldAt_2, e_X12_heldAt_5, e_X12_heldAt_6, e_X12_heldAt_10, e_X12_heldAt_11, e_X12_heldAt_14, e_X12_heldAt_14x, e_X12_heldAt_15, e_X12_heldAt_16, e_X12_heldAt_19, e_X12_heldAt_22, e_X12_heldAt_22x, e_X12_heldAt_23, e_X12_heldAt_23x, e_X12_heldAt_24, e_X12_heldAt_24x, e_X12_heldAt_25, e_X12_heldAt_28, e_X12_heldAt_31, e_X12_heldAt_34, e_X12_heldAt_37, e_X12_heldAt_40, e_X12_heldAt_40x, e_X12_heldAt_41, e_X12_heldAt_42, e_X12_heldAt_45, e_X12_heldAt_48, e_X12_heldAt_50, e_X12_heldAt_53, e_X12_heldAt_54, zcll_s, zpush_s, zpush_n, zinv_i, zinv_l, zinv_r, zinv_x, zcats_nil, zcats_i, zcats_l, zcats_r, zcats_x, Nat.le_refl, and_self, true_and, and_true, zok_1, zok_20, zok_21, eq_self, Nat.reduceAdd, Nat.reduceLeDiff, Nat.zero_le, if_true, if_false, zw3_id, if_pos, if_neg, zand_t, tg_310, hG]
      exact hQ f x
  | succ j ih =>
    intro k f x t h1 h2 h3 hN hQ
    have hG := d_isGoal (X := X) (d := d) (c := c) (s := s) (L := zu L 310 33 x) hR h hN h0 hg
    unfold mHeld at hQ
    rw [e_X12_heldAt_8]
    by_cases hgo : mGoal M g.toNat t
    · rw [zB_t hgo] at hG
      rw [if_pos hgo] at hQ
      simp (disch := omega) only [e_X12_heldAt_0, e_X12_heldAt_0x, e_X12_heldAt_1, e_X12_heldAt_2, e_X12_heldAt_5, e_X12_heldAt_6, e_X12_heldAt_10, e_X12_heldAt_11, e_X12_heldAt_14, e_X12_heldAt_14x, e_X12_heldAt_15, e_X12_heldAt_16, e_X12_heldAt_19, e_X12_heldAt_22, e_X12_heldAt_22x, e_X12_heldAt_23, e_X12_heldAt_23x, e_X12_heldAt_24, e_X12_heldAt_24x, e_X12_heldAt_25, e_X12_heldAt_28, e_X12_heldAt_31, e_X12_heldAt_34, e_X12_heldAt_37, e_X12_heldAt_40, e_X12_heldAt_40x, e_X12_heldAt_41, e_X12_heldAt_42, e_X12_heldAt_45, e_X12_heldAt_48, e_X12_heldAt_50, e_X12_heldAt_53, e_X12_heldAt_54, zcll_s, zpush_s, zpush_n, zinv_i, zinv_l, zinv_r, zinv_x, zcats_nil, zcats_i, zcats_l, zcats_r, zcats_x, Nat.le_refl, and_self, true_and, and_true, zok_1, zok_20, zok_21, eq_self, Nat.reduceAdd, Nat.reduceLeDiff, Nat.zero_le, if_true, if_false, zw3_id, if_pos, if_neg, zand_t, tg_310, hG]
      exact hQ f x
    · rw [zB_f hgo] at hG
      rw [if_neg hgo] at hQ
      have hdd := mdr_in h.2.2.2.1.1 (mlot x)
      have hl20 := h.2.2.2.1.2
      simp (disch := omega) only [e_X12_heldAt_0, e_X12_heldAt_0x, e_X12_heldAt_1, e_X12_heldAt_2, e_X12_heldAt_5, e_X12_heldAt_6, e_X12_heldAt_10, e_X12_heldAt_11, e_X12_heldAt_14, e_X12_heldAt_14x, e_X12_heldAt_15, e_X12_heldAt_16, e_X12_heldAt_19, e_X12_heldAt_22, e_X12_heldAt_22x, e_X12_heldAt_23, e_X12_heldAt_23x, e_X12_heldAt_24, e_X12_heldAt_24x, e_X12_heldAt_25, e_X12_heldAt_28, e_X12_heldAt_31, e_X12_heldAt_34, e_X12_heldAt_37, e_X12_heldAt_40, e_X12_heldAt_40x, e_X12_heldAt_41, e_X12_heldAt_42, e_X12_heldAt_45, e_X12_heldAt_48, e_X12_heldAt_50, e_X12_heldAt_53, e_X12_heldAt_54, zcll_s, zpush_s, zpush_n, zinv_i, zinv_l, zinv_r, zinv_x, zcats_nil, zcats_i, zcats_l, zcats_r, zcats_x, Nat.le_refl, and_self, true_and, and_true, zok_1, zok_20, zok_21, eq_self, Nat.reduceAdd, Nat.reduceLeDiff, Nat.zero_le, if_true, if_false, zw3_id, if_pos, if_neg, zand_t, tg_310, hG, d_draw hR h, d_ruleBy hR h hN, d_go hR h hN]
      exact ih (k + 1) _ _ _ (by omega) (by omega) (by omega) (Now_s h.2.2.2 hN _) hQ
/-- the run i of seed z -/
noncomputable def mH (M : MD) (z g n i : Int) : Int := mHeld M g.toNat n.toNat 0 (mlot0 z i) (mS0 M)
theorem c_heldAt (hR : Rok R) (h : RefS I w M) (g n i : Int) (h0 : 0 ≤ g) (hg : g < M.2.2.2.length) (hn0 : 0 ≤ n) (hn : n < 1000) : ∃ f y, zrun X (d + 3) 148 [zr (some 310), zi g, zi n, zi i] (c, s, I, L, R) = some (some (zi (mH M (L 310 31) g n i)), (c, s, zW I 328 f, zu L 310 33 y, R)) := by
  have p := sx_X12_heldAt (X := X) (d := d + 2) (u0 := some 310) (x1 := g) (x2 := n) (x3 := i) (σ := (c, s, I, L, R)) (P := fun q => ∃ f y, q = (some (zi (mH M (L 310 31) g n i)), (c, s, zW I 328 f, zu L 310 33 y, R))) ?_
  · obtain ⟨r, h1, f, y, h2⟩ := p
    exact ⟨f, y, by rw [h1, h2]⟩
  · obtain ⟨f, h1, h2⟩ := c_beginRun (X := X) (d := d) (c := c) (s := s) (L := L) hR h i
    simp (disch := omega) only [e_X12_heldAt_0, e_X12_heldAt_0x, e_X12_heldAt_1, e_X12_heldAt_2, e_X12_heldAt_5, e_X12_heldAt_6, e_X12_heldAt_10, e_X12_heldAt_11, e_X12_heldAt_14, e_X12_heldAt_14x, e_X12_heldAt_15, e_X12_heldAt_16, e_X12_heldAt_19, e_X12_heldAt_22, e_X12_heldAt_22x, e_X12_heldAt_23, e_X12_heldAt_23x, e_X12_heldAt_24, e_X12_heldAt_24x, e_X12_heldAt_25, e_X12_heldAt_28, e_X12_heldAt_31, e_X12_heldAt_34, e_X12_heldAt_37, e_X12_heldAt_40, e_X12_heldAt_40x, e_X12_heldAt_41, e_X12_heldAt_42, e_X12_heldAt_45, e_X12_heldAt_48, e_X12_heldAt_50, e_X12_heldAt_53, e_X12_heldAt_54, zcll_s, zpush_s, zpush_n, zinv_i, zinv_l, zinv_r, zinv_x, zcats_nil, zcats_i, zcats_l, zcats_r, zcats_x, Nat.le_refl, and_self, true_and, and_true, zok_1, zok_20, zok_21, eq_self, Nat.reduceAdd, Nat.reduceLeDiff, Nat.zero_le, if_true, if_false, zw3_id, if_pos, if_neg, zand_t, tg_310, h1]
    exact p_heldAt (X := X) (d := d) hR h g h0 hg n i hn _ 0 f _ _ (by omega) (by omega) (by omega) h2 (fun f y => ⟨f, y, rfl⟩)
theorem c_isRun (i : Int) : zrun X (d + 2) 147 [zi i] (c, s, I, L, R) = some (some (zi (zB (0 ≤ i ∧ i ≤ 999999))), (c, s, I, L, R)) := by
  refine st_X12_isRun ?_
  simp (disch := omega) only [e_X12_isRun_0, e_X12_isRun_1, e_X12_isRun_2, e_X12_isRun_3, e_X12_isRun_6, e_X12_isRun_9, zcll_s, zpush_s, zpush_n, zinv_i, zinv_l, zinv_r, zinv_x, zcats_nil, zcats_i, zcats_l, zcats_r, zcats_x, Nat.le_refl, and_self, true_and, and_true, zok_1, zok_20, zok_21, eq_self, Nat.reduceAdd, Nat.reduceLeDiff, Nat.zero_le, if_true, if_false, zw3_id, if_pos, if_neg, zand_t, c_in]
  exact zB_ok
/-- the reference has a model, or none -/
def RefT (I : ZI) (w : Nat) (M : MD) : Prop := (I 310 14 = 1 ∧ RefS I w M) ∨ (I 310 14 = 0 ∧ I 310 12 = (w : Int) ∧ w < 2)
theorem RefT_u {k : Nat} {y : Int} (h12 : k ≠ 12) (h14 : k ≠ 14) (h : RefT I w M) : RefT (zu I 310 k y) w M := by
  unfold RefT
  rw [zu_k (Ne.symm h14), zu_k (Ne.symm h12)]
  rcases h with h | h
  · exact Or.inl ⟨h.1, RefS_u h12 h.2⟩
  · exact Or.inr h
/-- what the reference takes for a goal, for a var -/
def mIsG (b : Prop) (M : MD) (g : Int) : Prop := b ∧ 0 ≤ g ∧ g < M.2.2.2.length
def mIsV (b : Prop) (M : MD) (v : Int) : Prop := b ∧ 0 ≤ v ∧ v < M.2.1.length
theorem c_isGoalNumber (hR : Rok R) (h : RefT I w M) (g : Int) : zrun X (d + 2) 145 [zr (some 310), zi g] (c, s, I, L, R) = some (some (zi (zB (mIsG (I 310 14 = 1) M g))), (c, s, I, L, R)) := by
  refine st_X12_isGoalNumber ?_
  rcases h with ⟨h1, h2⟩ | ⟨h1, h2, h3⟩
  · obtain ⟨hw, hw2, hM, hk⟩ := id h2
    have h4 := hk.2.2.2.2.2.2.1
    have hw0 := hM.2.2.2.2.2.1
    by_cases hg : 0 ≤ g ∧ g ≤ M.2.2.2.length - 1
    · rw [show zB (mIsG (I 310 14 = 1) M g) = 1 from zB_t ⟨h1, by omega, by omega⟩]
      simp (disch := omega) only [e_X12_isGoalNumber_0, e_X12_isGoalNumber_0x, e_X12_isGoalNumber_1, e_X12_isGoalNumber_4, e_X12_isGoalNumber_7, e_X12_isGoalNumber_8, e_X12_isGoalNumber_9, e_X12_isGoalNumber_10, e_X12_isGoalNumber_10x, e_X12_isGoalNumber_11, e_X12_isGoalNumber_14, e_X12_isGoalNumber_14x, e_X12_isGoalNumber_15, e_X12_isGoalNumber_18, e_X12_isGoalNumber_19, e_X12_isGoalNumber_20, e_X12_isGoalNumber_21, e_X12_isGoalNumber_22, e_X12_isGoalNumber_25, e_X12_isGoalNumber_28, e_X12_isGoalNumber_29, e_X12_isGoalNumber_32, e_X12_isGoalNumber_33, zcll_s, zpush_s, zpush_n, zinv_i, zinv_l, zinv_r, zinv_x, zcats_nil, zcats_i, zcats_l, zcats_r, zcats_x, Nat.le_refl, and_self, true_and, and_true, zok_1, zok_20, zok_21, eq_self, Nat.reduceAdd, Nat.reduceLeDiff, Nat.zero_le, if_true, if_false, zw3_id, if_pos, if_neg, zand_t, tg_310, tg_319, tn_319, rr_310_22 hR, h1, hw, Int.toNat_natCast, hw0, c_in, zB_t]
    · rw [show zB (mIsG (I 310 14 = 1) M g) = 0 from zB_f (fun q => hg ⟨q.2.1, by have := q.2.2; omega⟩)]
      simp (disch := omega) only [e_X12_isGoalNumber_0, e_X12_isGoalNumber_0x, e_X12_isGoalNumber_1, e_X12_isGoalNumber_4, e_X12_isGoalNumber_7, e_X12_isGoalNumber_8, e_X12_isGoalNumber_9, e_X12_isGoalNumber_10, e_X12_isGoalNumber_10x, e_X12_isGoalNumber_11, e_X12_isGoalNumber_14, e_X12_isGoalNumber_14x, e_X12_isGoalNumber_15, e_X12_isGoalNumber_18, e_X12_isGoalNumber_19, e_X12_isGoalNumber_20, e_X12_isGoalNumber_21, e_X12_isGoalNumber_22, e_X12_isGoalNumber_25, e_X12_isGoalNumber_28, e_X12_isGoalNumber_29, e_X12_isGoalNumber_32, e_X12_isGoalNumber_33, zcll_s, zpush_s, zpush_n, zinv_i, zinv_l, zinv_r, zinv_x, zcats_nil, zcats_i, zcats_l, zcats_r, zcats_x, Nat.le_refl, and_self, true_and, and_true, zok_1, zok_20, zok_21, eq_self, Nat.reduceAdd, Nat.reduceLeDiff, Nat.zero_le, if_true, if_false, zw3_id, if_pos, if_neg, zand_t, tg_310, tg_319, tn_319, rr_310_22 hR, h1, hw, Int.toNat_natCast, hw0, c_in, zB_f]
  · rw [show zB (mIsG (I 310 14 = 1) M g) = 0 from zB_f (fun q => by have := q.1; omega)]
    simp (disch := omega) only [e_X12_isGoalNumber_0, e_X12_isGoalNumber_0x, e_X12_isGoalNumber_1, e_X12_isGoalNumber_4, e_X12_isGoalNumber_7, e_X12_isGoalNumber_8, e_X12_isGoalNumber_9, e_X12_isGoalNumber_10, e_X12_isGoalNumber_10x, e_X12_isGoalNumber_11, e_X12_isGoalNumber_14, e_X12_isGoalNumber_14x, e_X12_isGoalNumber_15, e_X12_isGoalNumber_18, e_X12_isGoalNumber_19, e_X12_isGoalNumber_20, e_X12_isGoalNumber_21, e_X12_isGoalNumber_22, e_X12_isGoalNumber_25, e_X12_isGoalNumber_28, e_X12_isGoalNumber_29, e_X12_isGoalNumber_32, e_X12_isGoalNumber_33, zcll_s, zpush_s, zpush_n, zinv_i, zinv_l, zinv_r, zinv_x, zcats_nil, zcats_i, zcats_l, zcats_r, zcats_x, Nat.le_refl, and_self, true_and, and_true, zok_1, zok_20, zok_21, eq_self, Nat.reduceAdd, Nat.reduceLeDiff, Nat.zero_le, if_true, if_false, zw3_id, if_pos, if_neg, zand_t, tg_310, tg_319, tn_319, rr_310_22 hR, h1]
theorem c_isVar (hR : Rok R) (h : RefT I w M) (g : Int) : zrun X (d + 2) 146 [zr (some 310), zi g] (c, s, I, L, R) = some (some (zi (zB (mIsV (I 310 14 = 1) M g))), (c, s, I, L, R)) := by
  refine st_X12_isVar ?_
  rcases h with ⟨h1, h2⟩ | ⟨h1, h2, h3⟩
  · obtain ⟨hw, hw2, hM, hk⟩ := id h2
    have h4 := hk.2.1
    have hw0 := hM.2.1
    by_cases hg : 0 ≤ g ∧ g ≤ M.2.1.length - 1
    · rw [show zB (mIsV (I 310 14 = 1) M g) = 1 from zB_t ⟨h1, by omega, by omega⟩]
      simp (disch := omega) only [e_X12_isVar_0, e_X12_isVar_0x, e_X12_isVar_1, e_X12_isVar_4, e_X12_isVar_7, e_X12_isVar_8, e_X12_isVar_9, e_X12_isVar_10, e_X12_isVar_10x, e_X12_isVar_11, e_X12_isVar_14, e_X12_isVar_14x, e_X12_isVar_15, e_X12_isVar_18, e_X12_isVar_19, e_X12_isVar_20, e_X12_isVar_21, e_X12_isVar_22, e_X12_isVar_25, e_X12_isVar_28, e_X12_isVar_29, e_X12_isVar_32, e_X12_isVar_33, zcll_s, zpush_s, zpush_n, zinv_i, zinv_l, zinv_r, zinv_x, zcats_nil, zcats_i, zcats_l, zcats_r, zcats_x, Nat.le_refl, and_self, true_and, and_true, zok_1, zok_20, zok_21, eq_self, Nat.reduceAdd, Nat.reduceLeDiff, Nat.zero_le, if_true, if_false, zw3_id, if_pos, if_neg, zand_t, tg_310, tg_313, tn_313, rr_310_16 hR, h1, hw, Int.toNat_natCast, hw0, c_in, zB_t]
    · rw [show zB (mIsV (I 310 14 = 1) M g) = 0 from zB_f (fun q => hg ⟨q.2.1, by have := q.2.2; omega⟩)]
      simp (disch := omega) only [e_X12_isVar_0, e_X12_isVar_0x, e_X12_isVar_1, e_X12_isVar_4, e_X12_isVar_7, e_X12_isVar_8, e_X12_isVar_9, e_X12_isVar_10, e_X12_isVar_10x, e_X12_isVar_11, e_X12_isVar_14, e_X12_isVar_14x, e_X12_isVar_15, e_X12_isVar_18, e_X12_isVar_19, e_X12_isVar_20, e_X12_isVar_21, e_X12_isVar_22, e_X12_isVar_25, e_X12_isVar_28, e_X12_isVar_29, e_X12_isVar_32, e_X12_isVar_33, zcll_s, zpush_s, zpush_n, zinv_i, zinv_l, zinv_r, zinv_x, zcats_nil, zcats_i, zcats_l, zcats_r, zcats_x, Nat.le_refl, and_self, true_and, and_true, zok_1, zok_20, zok_21, eq_self, Nat.reduceAdd, Nat.reduceLeDiff, Nat.zero_le, if_true, if_false, zw3_id, if_pos, if_neg, zand_t, tg_310, tg_313, tn_313, rr_310_16 hR, h1, hw, Int.toNat_natCast, hw0, c_in, zB_f]
  · rw [show zB (mIsV (I 310 14 = 1) M g) = 0 from zB_f (fun q => by have := q.1; omega)]
    simp (disch := omega) only [e_X12_isVar_0, e_X12_isVar_0x, e_X12_isVar_1, e_X12_isVar_4, e_X12_isVar_7, e_X12_isVar_8, e_X12_isVar_9, e_X12_isVar_10, e_X12_isVar_10x, e_X12_isVar_11, e_X12_isVar_14, e_X12_isVar_14x, e_X12_isVar_15, e_X12_isVar_18, e_X12_isVar_19, e_X12_isVar_20, e_X12_isVar_21, e_X12_isVar_22, e_X12_isVar_25, e_X12_isVar_28, e_X12_isVar_29, e_X12_isVar_32, e_X12_isVar_33, zcll_s, zpush_s, zpush_n, zinv_i, zinv_l, zinv_r, zinv_x, zcats_nil, zcats_i, zcats_l, zcats_r, zcats_x, Nat.le_refl, and_self, true_and, and_true, zok_1, zok_20, zok_21, eq_self, Nat.reduceAdd, Nat.reduceLeDiff, Nat.zero_le, if_true, if_false, zw3_id, if_pos, if_neg, zand_t, tg_310, tg_313, tn_313, rr_310_16 hR, h1]
end
