/-! The class: its tape. -/
section
variable {X : ZX} {d c s : Nat} {I L I1 L1 I2 L2 J : ZI} {R R1 R2 : ZR} {call : ZC} {n p : Nat} {x t : Int} {B : Nat → Int}
theorem sgB_i {y lo hi : Int} (h0 : 0 ≤ y) (h1 : y ≤ 255) (hl : 0 ≤ lo) (hh : hi < 128) : (lo ≤ sgB y ∧ sgB y ≤ hi) ↔ (lo ≤ y ∧ y ≤ hi) := by
  unfold sgB
  split <;> omega
theorem TxC_u {k : Nat} {y : Int} (hk : k ≠ 1) (h : TxC I B n) : TxC (zu I 1 k y) B n := ⟨by rw [zu_k (Ne.symm hk)]; exact h.1, h.2.1, fun j hj => by rw [zu_n (by omega)]; exact h.2.2.1 j hj, h.2.2.2⟩
theorem q_readRun (hR : Rok R) (h : TxC I B n) {lo hi z b0 : Int} (hl : 0 ≤ lo) (hh : hi < 128) (hz : 0 ≤ lo - z) (hb : hi - z < b0) (hb0 : 1 ≤ b0) (hb1 : b0 ≤ 27) (hz0 : 0 ≤ z) (f : Nat) {Q : Option ZV × ZS → Prop} : ∀ (j m : Nat) (v : Int), n - (f + m) = j → f + m ≤ n → zi3 v → (∀ i, f ≤ i → i < f + m → lo ≤ B i ∧ B i ≤ hi) → (m ≤ 6 → v = vR b0 z (rsl B f m)) → (∀ v, zi3 v → (rnE B n lo hi j (f + m) ≤ f + 6 → v = vR b0 z (rsl B f (rnE B n lo hi j (f + m) - f))) → Q (some (zi v), (c, s, zu I 1 3 (rnE B n lo hi j (f + m) : Int), L, R))) → V X call mX8_readRun 3 [zr (some 1), zi lo, zi hi, zi z, zi b0, zi v] [] (c, s, zu I 1 3 ((f + m : Nat) : Int), L, R) Q := by
  intro j
  have hn := h.1
  have h800 := h.2.1
  induction j with
  | zero =>
    intro m v h1 h2 hv hB hm hQ
    have e1 : zu I 1 3 ((f + m : Nat) : Int) 1 1 = (n : Int) := by rw [zu_k (by omega)]; exact hn
    have fin := hQ v hv (fun q => by have q : f + m ≤ f + 6 := q; show v = vR b0 z (rsl B f (f + m - f)); rw [show f + m - f = m by omega]; exact hm (by omega))
    rw [e_X8_readRun_3]
    simp (disch := omega) only [e_X8_readRun_0, e_X8_readRun_1, e_X8_readRun_4, e_X8_readRun_7, e_X8_readRun_7x, e_X8_readRun_8, e_X8_readRun_11, e_X8_readRun_14, e_X8_readRun_14x, e_X8_readRun_15, e_X8_readRun_18, e_X8_readRun_21, e_X8_readRun_24, e_X8_readRun_24x, e_X8_readRun_25, e_X8_readRun_28, e_X8_readRun_28x, e_X8_readRun_29, e_X8_readRun_32, e_X8_readRun_33, e_X8_readRun_34, e_X8_readRun_37, e_X8_readRun_37x, e_X8_readRun_38, e_X8_readRun_41, e_X8_readRun_41x, e_X8_readRun_42, e_X8_readRun_45, e_X8_readRun_46, e_X8_readRun_47, e_X8_readRun_50, e_X8_readRun_52, e_X8_readRun_54, e_X8_readRun_55, e_X8_readRun_55x, e_X8_readRun_56, e_X8_readRun_59, e_X8_readRun_59x, e_X8_readRun_60, e_X8_readRun_63, e_X8_readRun_64, e_X8_readRun_65, e_X8_readRun_66, e_X8_readRun_67, e_X8_readRun_69, e_X8_readRun_69x, e_X8_readRun_70, e_X8_readRun_70r, e_X8_readRun_71, e_X8_readRun_74, e_X8_readRun_75, e_X8_readRun_76, e_X8_readRun_79, e_X8_readRun_82, e_X8_readRun_84, zcll_s, zpush_s, zpush_n, zinv_i, zinv_l, zinv_r, zinv_x, zcats_nil, zcats_i, zcats_l, zcats_r, zcats_x, Nat.le_refl, and_self, true_and, and_true, zok_1, zok_20, zok_21, eq_self, Nat.reduceAdd, Nat.reduceLeDiff, Nat.zero_le, if_true, if_false, zw3_id, if_pos, if_neg, zand_t, tg_1, zu_s, e1]
    exact fin
  | succ j ih =>
    intro m v h1 h2 hv hB hm hQ
    have e1 : zu I 1 3 ((f + m : Nat) : Int) 1 1 = (n : Int) := by rw [zu_k (by omega)]; exact hn
    have hb2 : zu I 1 3 ((f + m : Nat) : Int) 2 (f + m) = sgB (B (f + m)) := by rw [zu_n (by omega)]; exact h.2.2.1 _ (by omega)
    have hr := h.2.2.2 (f + m) (by omega)
    have hi' := sgB_i (lo := lo) (hi := hi) hr.1 hr.2 hl hh
    unfold rnE at hQ
    rw [e_X8_readRun_3]
    by_cases q : lo ≤ B (f + m) ∧ B (f + m) ≤ hi
    · rw [if_pos ⟨by omega, q⟩] at hQ
      have q' := hi'.mpr q
      have esg : sgB (B (f + m)) = B (f + m) := by unfold sgB; rw [if_pos (by omega)]
      have key : ∀ v', v' = zw3 (zw3 (zw3 (v * b0) + B (f + m)) - z) → V X call mX8_readRun 3 [zr (some 1), zi lo, zi hi, zi z, zi b0, zi v'] [] (c, s, zu I 1 3 ((f + (m + 1) : Nat) : Int), L, R) Q := by
        intro v' hv'
        refine ih (m + 1) v' (by omega) (by omega) (by rw [hv']; exact zw3_in _) ?_ ?_ ?_
        · intro i g1 g2
          by_cases e : i = f + m
          · rw [e]; exact q
          · exact hB i g1 (by omega)
        · intro hm6
          have hvv := hm (by omega)
          have hlt := vR_lt (b := b0) (z := z) hb0 (rsl B f m) (fun y hy => by obtain ⟨i, g1, g2, g3⟩ := rsl_mem _ hy; have := hB i g1 g2; rw [g3]; omega)
          rw [rsl_len, ← hvv] at hlt
          have hp5 : b0 ^ m ≤ 27 ^ 5 := by
            have : m = 0 ∨ m = 1 ∨ m = 2 ∨ m = 3 ∨ m = 4 ∨ m = 5 := by omega
            have pp : ∀ k : Nat, 0 ≤ b0 ^ k ∧ b0 ^ k ≤ 27 ^ k := by
              intro k
              induction k with
              | zero => simp
              | succ k ihk =>
                rw [Int.pow_succ, Int.pow_succ]
                exact ⟨Int.mul_nonneg ihk.1 (by omega), Int.mul_le_mul ihk.2 hb1 (by omega) (by have := ihk.1; have := ihk.2; omega)⟩
            have h27 : (27 : Int) ^ m ≤ 27 ^ 5 := by rcases this with e | e | e | e | e | e <;> rw [e] <;> decide
            have := (pp m).2
            omega
          have h275 : (27 : Int) ^ 5 = 14348907 := by decide
          have hmul : v * b0 ≤ 14348907 * 27 := Int.mul_le_mul (by omega) hb1 (by omega) (by omega)
          have hmul0 : 0 ≤ v * b0 := Int.mul_nonneg (by omega) (by omega)
          have evr : vR b0 z (rsl B f (m + 1)) = b0 * vR b0 z (rsl B f m) + (B (f + m) - z) := rfl
          rw [hv', evr, ← hvv, zw3_id (x := v * b0) (by omega) (by omega), zw3_id (x := v * b0 + B (f + m)) (by omega) (by omega), zw3_id (by omega) (by omega), Int.mul_comm b0]
          omega
        · exact hQ
      have e4 : ((f + m : Nat) : Int) + 1 = ((f + (m + 1) : Nat) : Int) := by omega
      have go := key _ rfl
      clear key ih hQ hm hB
      simp (disch := omega) only [e_X8_readRun_0, e_X8_readRun_1, e_X8_readRun_4, e_X8_readRun_7, e_X8_readRun_7x, e_X8_readRun_8, e_X8_readRun_11, e_X8_readRun_14, e_X8_readRun_14x, e_X8_readRun_15, e_X8_readRun_18, e_X8_readRun_21, e_X8_readRun_24, e_X8_readRun_24x, e_X8_readRun_25, e_X8_readRun_28, e_X8_readRun_28x, e_X8_readRun_29, e_X8_readRun_32, e_X8_readRun_33, e_X8_readRun_34, e_X8_readRun_37, e_X8_readRun_37x, e_X8_readRun_38, e_X8_readRun_41, e_X8_readRun_41x, e_X8_readRun_42, e_X8_readRun_45, e_X8_readRun_46, e_X8_readRun_47, e_X8_readRun_50, e_X8_readRun_52, e_X8_readRun_54, e_X8_readRun_55, e_X8_readRun_55x, e_X8_readRun_56, e_X8_readRun_59, e_X8_readRun_59x, e_X8_readRun_60, e_X8_readRun_63, e_X8_readRun_64, e_X8_readRun_65, e_X8_readRun_66, e_X8_readRun_67, e_X8_readRun_69, e_X8_readRun_69x, e_X8_readRun_70, e_X8_readRun_70r, e_X8_readRun_71, e_X8_readRun_74, e_X8_readRun_75, e_X8_readRun_76, e_X8_readRun_79, e_X8_readRun_82, e_X8_readRun_84, zcll_s, zpush_s, zpush_n, zinv_i, zinv_l, zinv_r, zinv_x, zcats_nil, zcats_i, zcats_l, zcats_r, zcats_x, Nat.le_refl, and_self, true_and, and_true, zok_1, zok_20, zok_21, eq_self, Nat.reduceAdd, Nat.reduceLeDiff, Nat.zero_le, if_true, if_false, if_pos, if_neg, zand_t, tg_1, tg_2, tn_2, rr_1_0 hR, zu_s, zu_zu, e1, Int.toNat_natCast, hb2, esg, or_true, true_or, e4]
      have e5 : zw3 ((f + (m + 1) : Nat) : Int) = ((f + (m + 1) : Nat) : Int) := zw3_id (by omega) (by omega)
      rw [e5]
      exact go
    · rw [if_neg (fun z => q z.2)] at hQ
      have fin := hQ v hv (fun q => by have q : f + m ≤ f + 6 := q; show v = vR b0 z (rsl B f (f + m - f)); rw [show f + m - f = m by omega]; exact hm (by omega))
      have q' : ¬ (lo ≤ sgB (B (f + m)) ∧ sgB (B (f + m)) ≤ hi) := fun z => q (hi'.mp z)
      generalize sgB (B (f + m)) = y at hb2 q'
      by_cases q2 : lo ≤ y
      · simp (disch := omega) only [e_X8_readRun_0, e_X8_readRun_1, e_X8_readRun_4, e_X8_readRun_7, e_X8_readRun_7x, e_X8_readRun_8, e_X8_readRun_11, e_X8_readRun_14, e_X8_readRun_14x, e_X8_readRun_15, e_X8_readRun_18, e_X8_readRun_21, e_X8_readRun_24, e_X8_readRun_24x, e_X8_readRun_25, e_X8_readRun_28, e_X8_readRun_28x, e_X8_readRun_29, e_X8_readRun_32, e_X8_readRun_33, e_X8_readRun_34, e_X8_readRun_37, e_X8_readRun_37x, e_X8_readRun_38, e_X8_readRun_41, e_X8_readRun_41x, e_X8_readRun_42, e_X8_readRun_45, e_X8_readRun_46, e_X8_readRun_47, e_X8_readRun_50, e_X8_readRun_52, e_X8_readRun_54, e_X8_readRun_55, e_X8_readRun_55x, e_X8_readRun_56, e_X8_readRun_59, e_X8_readRun_59x, e_X8_readRun_60, e_X8_readRun_63, e_X8_readRun_64, e_X8_readRun_65, e_X8_readRun_66, e_X8_readRun_67, e_X8_readRun_69, e_X8_readRun_69x, e_X8_readRun_70, e_X8_readRun_70r, e_X8_readRun_71, e_X8_readRun_74, e_X8_readRun_75, e_X8_readRun_76, e_X8_readRun_79, e_X8_readRun_82, e_X8_readRun_84, zcll_s, zpush_s, zpush_n, zinv_i, zinv_l, zinv_r, zinv_x, zcats_nil, zcats_i, zcats_l, zcats_r, zcats_x, Nat.le_refl, and_self, true_and, and_true, zok_1, zok_20, zok_21, eq_self, Nat.reduceAdd, Nat.reduceLeDiff, Nat.zero_le, if_true, if_false, zw3_id, if_pos, if_neg, zand_t, tg_1, tg_2, tn_2, rr_1_0 hR, zu_s, e1, Int.toNat_natCast, hb2, or_true, true_or]
        exact fin
      · simp (disch := omega) only [e_X8_readRun_0, e_X8_readRun_1, e_X8_readRun_4, e_X8_readRun_7, e_X8_readRun_7x, e_X8_readRun_8, e_X8_readRun_11, e_X8_readRun_14, e_X8_readRun_14x, e_X8_readRun_15, e_X8_readRun_18, e_X8_readRun_21, e_X8_readRun_24, e_X8_readRun_24x, e_X8_readRun_25, e_X8_readRun_28, e_X8_readRun_28x, e_X8_readRun_29, e_X8_readRun_32, e_X8_readRun_33, e_X8_readRun_34, e_X8_readRun_37, e_X8_readRun_37x, e_X8_readRun_38, e_X8_readRun_41, e_X8_readRun_41x, e_X8_readRun_42, e_X8_readRun_45, e_X8_readRun_46, e_X8_readRun_47, e_X8_readRun_50, e_X8_readRun_52, e_X8_readRun_54, e_X8_readRun_55, e_X8_readRun_55x, e_X8_readRun_56, e_X8_readRun_59, e_X8_readRun_59x, e_X8_readRun_60, e_X8_readRun_63, e_X8_readRun_64, e_X8_readRun_65, e_X8_readRun_66, e_X8_readRun_67, e_X8_readRun_69, e_X8_readRun_69x, e_X8_readRun_70, e_X8_readRun_70r, e_X8_readRun_71, e_X8_readRun_74, e_X8_readRun_75, e_X8_readRun_76, e_X8_readRun_79, e_X8_readRun_82, e_X8_readRun_84, zcll_s, zpush_s, zpush_n, zinv_i, zinv_l, zinv_r, zinv_x, zcats_nil, zcats_i, zcats_l, zcats_r, zcats_x, Nat.le_refl, and_self, true_and, and_true, zok_1, zok_20, zok_21, eq_self, Nat.reduceAdd, Nat.reduceLeDiff, Nat.zero_le, if_true, if_false, zw3_id, if_pos, if_neg, zand_t, tg_1, tg_2, tn_2, rr_1_0 hR, zu_s, e1, Int.toNat_natCast, hb2, or_true, true_or]
        exact fin
end
