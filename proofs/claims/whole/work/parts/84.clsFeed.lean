/-! The class: feed; strings. -/
section
variable {X : ZX} {d c s : Nat} {I L I1 L1 I2 L2 J : ZI} {R R1 R2 : ZR} {call : ZC} {n p : Nat} {x t : Int} {B : Nat → Int}
def TxC (I : ZI) (B : Nat → Int) (n : Nat) : Prop := I 1 1 = (n : Int) ∧ n ≤ 800 ∧ (∀ k, k < n → I 2 k = sgB (B k)) ∧ ∀ k, k < n → 0 ≤ B k ∧ B k ≤ 255
theorem sgB_ok {x : Int} (h0 : 0 ≤ x) (h1 : x ≤ 255) : zok 4 (sgB x) = true := by
  rw [zok_4]
  unfold sgB
  split <;> omega
theorem q_append (hR : Rok R) {v : Int} (hv : zi6 v) (k n : Nat) (hk : k ≤ 8) (hn : n + k ≤ 800) {Q : Option ZV × ZS → Prop} : ∀ (j : Nat) (I : ZI), j ≤ k → I 1 1 = ((n + (k - j) : Nat) : Int) → (∀ i, n ≤ i → i < n + (k - j) → I 2 i = sgB (byt v (k - 1 - (i - n)))) → (∀ I1, (∀ a, a ≠ 1 → a ≠ 2 → I1 a = I a) → (∀ i, i ≠ 1 → I1 1 i = I 1 i) → (∀ i, i < n → I1 2 i = I 2 i) → I1 1 1 = ((n + k : Nat) : Int) → (∀ i, n ≤ i → i < n + k → I1 2 i = sgB (byt v (k - 1 - (i - n)))) → Q (some (zi 1), (c, s, I1, L, R))) → V X call mX8_append 22 [zr (some 1), zl v, zx 0, zi (k : Int), zi (8 * ((j : Int) - 1))] [] (c, s, I, L, R) Q := by
  intro j
  induction j with
  | zero =>
    intro I hj h2 hb hQ
    rw [Nat.sub_zero] at h2 hb
    have fin := hQ I (fun _ _ _ => rfl) (fun _ _ => rfl) (fun _ _ => rfl) h2 hb
    rw [e_X8_append_22]
    simp (disch := omega) only [e_X8_append_0, e_X8_append_1, e_X8_append_4, e_X8_append_4x, e_X8_append_5, e_X8_append_8, e_X8_append_9, e_X8_append_12, e_X8_append_13, e_X8_append_14, e_X8_append_16, e_X8_append_17, e_X8_append_18, e_X8_append_19, e_X8_append_20, e_X8_append_24, e_X8_append_27, e_X8_append_27x, e_X8_append_28, e_X8_append_31, e_X8_append_31x, e_X8_append_32, e_X8_append_35, e_X8_append_36, e_X8_append_38, e_X8_append_39, e_X8_append_40, e_X8_append_41, e_X8_append_42, e_X8_append_42x, e_X8_append_43, e_X8_append_43r, e_X8_append_44, e_X8_append_47, e_X8_append_48, e_X8_append_49, e_X8_append_52, e_X8_append_55, e_X8_append_58, e_X8_append_59, zcll_s, zpush_s, zpush_n, zinv_i, zinv_l, zinv_r, zinv_x, zcats_nil, zcats_i, zcats_l, zcats_r, zcats_x, Nat.le_refl, and_self, true_and, and_true, zok_1, zok_20, zok_21, eq_self, Nat.reduceAdd, Nat.reduceLeDiff, Nat.zero_le, if_true, if_false, zw3_id, if_pos, if_neg, zand_t, tg_1, h2]
    exact fin
  | succ j ih =>
    intro I hj h2 hb hQ
    have hby := (byt_r hv j (by omega)).2
    have hok := sgB_ok (byt_0 v j).1 (byt_0 v j).2
    have e1 : 8 * (((j + 1 : Nat) : Int) - 1) = 8 * (j : Int) := by omega
    have e2 : 8 * (j : Int) + -8 = 8 * ((j : Int) - 1) := by omega
    have e3 : ∀ y, zu I 2 (n + (k - (j + 1))) y 1 1 = ((n + (k - (j + 1)) : Nat) : Int) := fun y => by rw [zu_n (by omega)]; exact h2
    have e4 : ((n + (k - (j + 1)) : Nat) : Int) + 1 = ((n + (k - j) : Nat) : Int) := by omega
    rw [e1, e_X8_append_22]
    simp (disch := omega) only [e_X8_append_0, e_X8_append_1, e_X8_append_4, e_X8_append_4x, e_X8_append_5, e_X8_append_8, e_X8_append_9, e_X8_append_12, e_X8_append_13, e_X8_append_14, e_X8_append_16, e_X8_append_17, e_X8_append_18, e_X8_append_19, e_X8_append_20, e_X8_append_24, e_X8_append_27, e_X8_append_27x, e_X8_append_28, e_X8_append_31, e_X8_append_31x, e_X8_append_32, e_X8_append_35, e_X8_append_36, e_X8_append_38, e_X8_append_39, e_X8_append_40, e_X8_append_41, e_X8_append_42, e_X8_append_42x, e_X8_append_43, e_X8_append_43r, e_X8_append_44, e_X8_append_47, e_X8_append_48, e_X8_append_49, e_X8_append_52, e_X8_append_55, e_X8_append_58, e_X8_append_59, zcll_s, zpush_s, zpush_n, zinv_i, zinv_l, zinv_r, zinv_x, zcats_nil, zcats_i, zcats_l, zcats_r, zcats_x, Nat.le_refl, and_self, true_and, and_true, zok_1, zok_20, zok_21, eq_self, Nat.reduceAdd, Nat.reduceLeDiff, Nat.zero_le, if_true, if_false, zw3_id, if_pos, if_neg, zand_t, tg_1, tg_2, tn_2, rr_1_0 hR, h2, Int.toNat_natCast, hby, hok, e2, e3, e4, or_true, true_or]
    refine ih _ (by omega) zu_s ?_ ?_
    · intro i h3 h4
      rw [zu_n (by omega)]
      by_cases q : i = n + (k - (j + 1))
      · rw [q, zu_s]
        congr 2
        omega
      · rw [zu_k q]
        exact hb i h3 (by omega)
    · intro I1 g1 g2 g3 g4 g5
      refine hQ I1 (fun a q1 q2 => by rw [g1 a q1 q2, zu_n q1, zu_n q2]) (fun i q => by rw [g2 i q, zu_k q, zu_n (by omega)]) (fun i q => ?_) g4 g5
      rw [g3 i q, zu_n (by omega), zu_k (by omega)]
theorem k_feed (hR : Rok R) {v : Int} (hv : zi6 v) (h : TxC I B n) (k : Int) : ∃ I1, zrun X (d + 2) 85 [zr (some 0), zl v, zi k] (c, s, I, L, R) = some (some (zi (aFeed n k)), (c, s, I1, L, R)) ∧ (∀ a, a ≠ 1 → a ≠ 2 → I1 a = I a) ∧ (if 1 ≤ k ∧ k ≤ 8 ∧ (n : Int) + k ≤ 800 then TxC I1 (fdB B n v k.toNat) (n + k.toNat) else TxC I1 B n) := by
  have h2 := h.1
  have h800 := h.2.1
  have bad : ¬ (1 ≤ k ∧ k ≤ 8 ∧ (n : Int) + k ≤ 800) → zrun X (d + 2) 85 [zr (some 0), zl v, zi k] (c, s, I, L, R) = some (some (zi (aFeed n k)), (c, s, I, L, R)) → ∃ I1, zrun X (d + 2) 85 [zr (some 0), zl v, zi k] (c, s, I, L, R) = some (some (zi (aFeed n k)), (c, s, I1, L, R)) ∧ (∀ a, a ≠ 1 → a ≠ 2 → I1 a = I a) ∧ (if 1 ≤ k ∧ k ≤ 8 ∧ (n : Int) + k ≤ 800 then TxC I1 (fdB B n v k.toNat) (n + k.toNat) else TxC I1 B n) := by
    intro hq hr
    refine ⟨_, hr, fun a _ _ => rfl, ?_⟩
    rw [if_neg hq]
    exact h
  by_cases h1 : 1 ≤ k ∧ k ≤ 8
  · by_cases h3 : 800 < (n : Int) + k
    · refine bad (by omega) ?_
      have ea : aFeed n k = -4 := by unfold aFeed; rw [if_pos h1, if_pos h3]
      have qa : zrun X (d + 1) 65 [zr (some 1), zl v, zi k] (c, s, I, L, R) = some (some (zi 0), (c, s, I, L, R)) := by
        refine st_X8_append ?_
        simp (disch := omega) only [e_X8_append_0, e_X8_append_1, e_X8_append_4, e_X8_append_4x, e_X8_append_5, e_X8_append_8, e_X8_append_9, e_X8_append_12, e_X8_append_13, e_X8_append_14, e_X8_append_16, e_X8_append_17, e_X8_append_18, e_X8_append_19, e_X8_append_20, e_X8_append_24, e_X8_append_27, e_X8_append_27x, e_X8_append_28, e_X8_append_31, e_X8_append_31x, e_X8_append_32, e_X8_append_35, e_X8_append_36, e_X8_append_38, e_X8_append_39, e_X8_append_40, e_X8_append_41, e_X8_append_42, e_X8_append_42x, e_X8_append_43, e_X8_append_43r, e_X8_append_44, e_X8_append_47, e_X8_append_48, e_X8_append_49, e_X8_append_52, e_X8_append_55, e_X8_append_58, e_X8_append_59, zcll_s, zpush_s, zpush_n, zinv_i, zinv_l, zinv_r, zinv_x, zcats_nil, zcats_i, zcats_l, zcats_r, zcats_x, Nat.le_refl, and_self, true_and, and_true, zok_1, zok_20, zok_21, eq_self, Nat.reduceAdd, Nat.reduceLeDiff, Nat.zero_le, if_true, if_false, zw3_id, if_pos, if_neg, zand_t, tg_1, h2]
      rw [ea]
      refine st_X11_feed ?_
      simp (disch := omega) only [e_X11_feed_0, e_X11_feed_1, e_X11_feed_2, e_X11_feed_5, e_X11_feed_6, e_X11_feed_8, e_X11_feed_11, e_X11_feed_13, e_X11_feed_14, e_X11_feed_14x, e_X11_feed_15, e_X11_feed_18, e_X11_feed_19, e_X11_feed_20, e_X11_feed_23, e_X11_feed_26, e_X11_feed_26x, e_X11_feed_27, e_X11_feed_30, e_X11_feed_33, e_X11_feed_36, e_X11_feed_38, zcll_s, zpush_s, zpush_n, zinv_i, zinv_l, zinv_r, zinv_x, zcats_nil, zcats_i, zcats_l, zcats_r, zcats_x, Nat.le_refl, and_self, true_and, and_true, zok_1, zok_20, zok_21, eq_self, Nat.reduceAdd, Nat.reduceLeDiff, Nat.zero_le, if_true, if_false, zw3_id, if_pos, if_neg, zand_t, tg_0, tg_1, rr_0_0 hR, qa]
    · have ea : aFeed n k = (n : Int) + k := by unfold aFeed; rw [if_pos h1, if_neg h3]
      rw [ea]
      have hc : 1 ≤ k ∧ k ≤ 8 ∧ (n : Int) + k ≤ 800 := ⟨h1.1, h1.2, by omega⟩
      obtain ⟨k, rfl⟩ := Int.eq_ofNat_of_zero_le (show 0 ≤ k by omega)
      have pr := sx_X8_append (X := X) (d := d) (u0 := some 1) (x1 := v) (x2 := (k : Int)) (σ := (c, s, I, L, R)) (P := fun q => ∃ I1, q = (some (zi 1), (c, s, I1, L, R)) ∧ (∀ a, a ≠ 1 → a ≠ 2 → I1 a = I a) ∧ I1 1 1 = ((n + k : Nat) : Int) ∧ TxC I1 (fdB B n v k) (n + k)) ?_
      · obtain ⟨r, s1, I1, s2, s3, s4, s5⟩ := pr
        rw [s2] at s1
        refine ⟨I1, st_X11_feed ?_, s3, by rw [if_pos hc]; exact s5⟩
        simp (disch := omega) only [e_X11_feed_0, e_X11_feed_1, e_X11_feed_2, e_X11_feed_5, e_X11_feed_6, e_X11_feed_8, e_X11_feed_11, e_X11_feed_13, e_X11_feed_14, e_X11_feed_14x, e_X11_feed_15, e_X11_feed_18, e_X11_feed_19, e_X11_feed_20, e_X11_feed_23, e_X11_feed_26, e_X11_feed_26x, e_X11_feed_27, e_X11_feed_30, e_X11_feed_33, e_X11_feed_36, e_X11_feed_38, zcll_s, zpush_s, zpush_n, zinv_i, zinv_l, zinv_r, zinv_x, zcats_nil, zcats_i, zcats_l, zcats_r, zcats_x, Nat.le_refl, and_self, true_and, and_true, zok_1, zok_20, zok_21, eq_self, Nat.reduceAdd, Nat.reduceLeDiff, Nat.zero_le, if_true, if_false, zw3_id, if_pos, if_neg, zand_t, tg_0, tg_1, rr_0_0 hR, s1, s4]
        rw [show ((n + k : Nat) : Int) = (n : Int) + (k : Int) by omega]
      · simp (disch := omega) only [e_X8_append_0, e_X8_append_1, e_X8_append_4, e_X8_append_4x, e_X8_append_5, e_X8_append_8, e_X8_append_9, e_X8_append_12, e_X8_append_13, e_X8_append_14, e_X8_append_16, e_X8_append_17, e_X8_append_18, e_X8_append_19, e_X8_append_20, e_X8_append_24, e_X8_append_27, e_X8_append_27x, e_X8_append_28, e_X8_append_31, e_X8_append_31x, e_X8_append_32, e_X8_append_35, e_X8_append_36, e_X8_append_38, e_X8_append_39, e_X8_append_40, e_X8_append_41, e_X8_append_42, e_X8_append_42x, e_X8_append_43, e_X8_append_43r, e_X8_append_44, e_X8_append_47, e_X8_append_48, e_X8_append_49, e_X8_append_52, e_X8_append_55, e_X8_append_58, e_X8_append_59, zcll_s, zpush_s, zpush_n, zinv_i, zinv_l, zinv_r, zinv_x, zcats_nil, zcats_i, zcats_l, zcats_r, zcats_x, Nat.le_refl, and_self, true_and, and_true, zok_1, zok_20, zok_21, eq_self, Nat.reduceAdd, Nat.reduceLeDiff, Nat.zero_le, if_true, if_false, zw3_id, if_pos, if_neg, zand_t, tg_1, h2]
        refine q_append (X := X) (call := zrun X d) (c := c) (s := s) (L := L) hR hv k n (by omega) (by omega) k I (Nat.le_refl _) (by rw [Nat.sub_self]; exact h2) (fun i q1 q2 => by omega) ?_
        intro I1 g1 g2 g3 g4 g5
        refine ⟨I1, rfl, g1, g4, g4, by omega, ?_, ?_⟩
        · intro i hi
          unfold fdB
          by_cases q : n ≤ i ∧ i < n + k
          · rw [if_pos q]; exact g5 i q.1 q.2
          · rw [if_neg q, g3 i (by omega)]; exact h.2.2.1 i (by omega)
        · intro i hi
          unfold fdB
          by_cases q : n ≤ i ∧ i < n + k
          · rw [if_pos q]; exact byt_0 _ _
          · rw [if_neg q]; exact h.2.2.2 i (by omega)
  · refine bad (by omega) ?_
    have ea : aFeed n k = -2 := by unfold aFeed; rw [if_neg h1]
    rw [ea]
    refine st_X11_feed ?_
    by_cases h3 : k < 1
    · simp (disch := omega) only [e_X11_feed_0, e_X11_feed_1, e_X11_feed_2, e_X11_feed_5, e_X11_feed_6, e_X11_feed_8, e_X11_feed_11, e_X11_feed_13, e_X11_feed_14, e_X11_feed_14x, e_X11_feed_15, e_X11_feed_18, e_X11_feed_19, e_X11_feed_20, e_X11_feed_23, e_X11_feed_26, e_X11_feed_26x, e_X11_feed_27, e_X11_feed_30, e_X11_feed_33, e_X11_feed_36, e_X11_feed_38, zcll_s, zpush_s, zpush_n, zinv_i, zinv_l, zinv_r, zinv_x, zcats_nil, zcats_i, zcats_l, zcats_r, zcats_x, Nat.le_refl, and_self, true_and, and_true, zok_1, zok_20, zok_21, eq_self, Nat.reduceAdd, Nat.reduceLeDiff, Nat.zero_le, if_true, if_false, zw3_id, if_pos, if_neg, zand_t, tg_0]
    · simp (disch := omega) only [e_X11_feed_0, e_X11_feed_1, e_X11_feed_2, e_X11_feed_5, e_X11_feed_6, e_X11_feed_8, e_X11_feed_11, e_X11_feed_13, e_X11_feed_14, e_X11_feed_14x, e_X11_feed_15, e_X11_feed_18, e_X11_feed_19, e_X11_feed_20, e_X11_feed_23, e_X11_feed_26, e_X11_feed_26x, e_X11_feed_27, e_X11_feed_30, e_X11_feed_33, e_X11_feed_36, e_X11_feed_38, zcll_s, zpush_s, zpush_n, zinv_i, zinv_l, zinv_r, zinv_x, zcats_nil, zcats_i, zcats_l, zcats_r, zcats_x, Nat.le_refl, and_self, true_and, and_true, zok_1, zok_20, zok_21, eq_self, Nat.reduceAdd, Nat.reduceLeDiff, Nat.zero_le, if_true, if_false, zw3_id, if_pos, if_neg, zand_t, tg_0]
/-- texts -/
theorem k_coder {e : Nat} (he : 1 ≤ e ∧ e < 8) : zrun X (d + 1) 179 [zx (e + 1)] (c, s, I, L, R) = some (some (zi 0), (c, s, I, L, R)) := by
  refine st_J0_coder_7d493 ?_
  have h1 : 2 ≤ e + 1 ∧ e + 1 < 9 := by omega
  have hz : zok 4 0 = true := rfl
  simp (disch := omega) only [e_J0_coder_7d493_0, e_J0_coder_7d493_3, e_J0_coder_7d493_6, e_J0_coder_7d493_6x, e_J0_coder_7d493_7, e_J0_coder_7d493_10, e_J0_coder_7d493_13, e_J0_coder_7d493_14, zcll_s, zpush_s, zpush_n, zinv_i, zinv_l, zinv_r, zinv_x, zcats_nil, zcats_i, zcats_l, zcats_r, zcats_x, Nat.le_refl, and_self, true_and, and_true, zok_1, zok_20, zok_21, eq_self, Nat.reduceAdd, Nat.reduceLeDiff, Nat.zero_le, if_true, if_false, zw3_id, if_pos, if_neg, zand_t, h1, hz]
theorem k_isLatin1 {e : Nat} (he : 1 ≤ e ∧ e < 8) : zrun X (d + 1) 180 [zx (e + 1)] (c, s, I, L, R) = some (some (zi 1), (c, s, I, L, R)) := by
  refine st_J0_isLatin1_aae02 ?_
  simp (disch := omega) only [e_J0_isLatin1_aae02_0, e_J0_isLatin1_aae02_3, e_J0_isLatin1_aae02_6, e_J0_isLatin1_aae02_6x, e_J0_isLatin1_aae02_7, e_J0_isLatin1_aae02_10, e_J0_isLatin1_aae02_13, e_J0_isLatin1_aae02_14, e_J0_isLatin1_aae02_17, e_J0_isLatin1_aae02_18, zcll_s, zpush_s, zpush_n, zinv_i, zinv_l, zinv_r, zinv_x, zcats_nil, zcats_i, zcats_l, zcats_r, zcats_x, Nat.le_refl, and_self, true_and, and_true, zok_1, zok_20, zok_21, eq_self, Nat.reduceAdd, Nat.reduceLeDiff, Nat.zero_le, if_true, if_false, zw3_id, if_pos, if_neg, zand_t]
theorem k_length {e : Nat} (he : 1 ≤ e ∧ e < 8) : zrun X (d + 2) 175 [zx (e + 1)] (c, s, I, L, R) = some (some (zi ((zstr (e - 1)).length : Int)), (c, s, I, L, R)) := by
  refine st_J0_length_8abf5 ?_
  have q := k_coder (X := X) (d := d) (c := c) (s := s) (I := I) (L := L) (R := R) he
  have e1 : e + 1 + 20 - 22 = e - 1 := by omega
  have e2 : zshr3 ((zstr (e - 1)).length : Int) 0 = ((zstr (e - 1)).length : Int) := by
    have : ∀ k, k < 7 → zshr3 ((zstr k).length : Int) 0 = ((zstr k).length : Int) := by decide +kernel
    exact this _ (by omega)
  simp (disch := omega) only [e_J0_length_8abf5_0, e_J0_length_8abf5_0x, e_J0_length_8abf5_1, e_J0_length_8abf5_4, e_J0_length_8abf5_4x, e_J0_length_8abf5_5, e_J0_length_8abf5_5x, e_J0_length_8abf5_6, e_J0_length_8abf5_9, e_J0_length_8abf5_10, zcll_s, zpush_s, zpush_n, zinv_i, zinv_l, zinv_r, zinv_x, zcats_nil, zcats_i, zcats_l, zcats_r, zcats_x, Nat.le_refl, and_self, true_and, and_true, zok_1, zok_20, zok_21, eq_self, Nat.reduceAdd, Nat.reduceLeDiff, Nat.zero_le, if_true, if_false, zw3_id, if_pos, if_neg, zand_t, e1, q, e2]
end
