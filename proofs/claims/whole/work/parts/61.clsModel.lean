/-! The class: a model's methods. -/
section
variable {X : ZX} {d c s : Nat} {I L I1 L1 I2 L2 : ZI} {R : ZR} {call : ZC} {w b : Nat} {M : MD} {f : Nat → Int} {x t : Int}
theorem ClM_v (h : ClM I b M) {v : Nat} (hv : v < M.2.1.length) : I (b + 1) v = mg M.2.1 v ∧ I (b + 2) v = mf M.2.1 v := h.2.2.2.2.2.1 v _ (zgetDl hv).2
theorem q_stateOf (hR : Rok R) (hb : b = 4 ∨ b = 135) (h : ClM I b M) (hk : MOK M) {va : Nat} (hva : zT va = (1, 4)) (hi : mIn M.2.1 (I va) 0) {Q : Option ZV × ZS → Prop} (hQ : Q (some (zi (mEn M.2.1 (I va) 0)), (c, s, I, L, R))) : ∀ (j : Nat), j ≤ M.2.1.length → V X call mX1_stateOf 13 [zr (some b), zr (some va), zi (mEn (M.2.1.drop j) (I va) j), zi ((j : Int) - 1)] [] (c, s, I, L, R) Q := by
  intro j
  have rr := rr_model hR hb
  have tt := tt_model hb
  have hn4 := hk.2.1
  induction j with
  | zero =>
    intro hj
    rw [e_X1_stateOf_13]
    simp (disch := omega) only [e_X1_stateOf_0, e_X1_stateOf_1, e_X1_stateOf_2, e_X1_stateOf_2x, e_X1_stateOf_3, e_X1_stateOf_6, e_X1_stateOf_7, e_X1_stateOf_10, e_X1_stateOf_11, e_X1_stateOf_12, e_X1_stateOf_14, e_X1_stateOf_17, e_X1_stateOf_18, e_X1_stateOf_18x, e_X1_stateOf_19, e_X1_stateOf_20, e_X1_stateOf_23, e_X1_stateOf_24, e_X1_stateOf_24x, e_X1_stateOf_25, e_X1_stateOf_28, e_X1_stateOf_29, e_X1_stateOf_30, e_X1_stateOf_31, e_X1_stateOf_32, e_X1_stateOf_33, e_X1_stateOf_33x, e_X1_stateOf_34, e_X1_stateOf_35, e_X1_stateOf_36, e_X1_stateOf_37, e_X1_stateOf_38, e_X1_stateOf_41, e_X1_stateOf_44, e_X1_stateOf_45, zcll_s, zpush_s, zpush_n, zinv_i, zinv_l, zinv_r, zinv_x, zcats_nil, zcats_i, zcats_l, zcats_r, zcats_x, Nat.le_refl, and_self, true_and, and_true, zok_1, zok_20, zok_21, eq_self, Nat.reduceAdd, Nat.reduceLeDiff, Nat.zero_le, if_true, if_false, zw3_id, if_pos, if_neg, zand_t]
    exact hQ
  | succ j ih =>
    intro hj
    have hvv := ClM_v h (show j < _ by omega)
    have hg := mg_nn hk.2.2.1 j
    have hd := mPr_drop hk.2.2.1 (j + 1)
    have hb1 := mEn_lt hd.1 (mIn_drop hi (j + 1))
    have hp := hk.2.2.2.1
    have hij := hi j (by omega)
    rw [Nat.zero_add] at hij
    have eD := zdropD (show j < M.2.1.length by omega)
    have e : mEn (M.2.1.drop j) (I va) j = mEn (M.2.1.drop (j + 1)) (I va) (j + 1) * (mg M.2.1 j + 1) + I va j := by
      rw [eD]; rfl
    have q := ih (by omega)
    rw [e] at q
    generalize mEn (M.2.1.drop (j + 1)) (I va) (j + 1) = y at q hb1 ⊢
    have hy : 0 ≤ y * (mg M.2.1 j + 1) := Int.mul_nonneg hb1.1 (by omega)
    have hy2 : y * (mg M.2.1 j + 1) ≤ 1000 * 31 := Int.mul_le_mul (by omega) (by omega) (by omega) (by omega)
    rw [e_X1_stateOf_13]
    have e5 : (((j + 1 : Nat) : Int) - 1).toNat = j := by omega
    have e6 : ((j + 1 : Nat) : Int) - 1 + -1 = (j : Int) - 1 := by omega
    simp (disch := omega) only [e_X1_stateOf_0, e_X1_stateOf_1, e_X1_stateOf_2, e_X1_stateOf_2x, e_X1_stateOf_3, e_X1_stateOf_6, e_X1_stateOf_7, e_X1_stateOf_10, e_X1_stateOf_11, e_X1_stateOf_12, e_X1_stateOf_14, e_X1_stateOf_17, e_X1_stateOf_18, e_X1_stateOf_18x, e_X1_stateOf_19, e_X1_stateOf_20, e_X1_stateOf_23, e_X1_stateOf_24, e_X1_stateOf_24x, e_X1_stateOf_25, e_X1_stateOf_28, e_X1_stateOf_29, e_X1_stateOf_30, e_X1_stateOf_31, e_X1_stateOf_32, e_X1_stateOf_33, e_X1_stateOf_33x, e_X1_stateOf_34, e_X1_stateOf_35, e_X1_stateOf_36, e_X1_stateOf_37, e_X1_stateOf_38, e_X1_stateOf_41, e_X1_stateOf_44, e_X1_stateOf_45, zcll_s, zpush_s, zpush_n, zinv_i, zinv_l, zinv_r, zinv_x, zcats_nil, zcats_i, zcats_l, zcats_r, zcats_x, Nat.le_refl, and_self, true_and, and_true, zok_1, zok_20, zok_21, eq_self, Nat.reduceAdd, Nat.reduceLeDiff, Nat.zero_le, if_true, if_false, zw3_id, if_pos, if_neg, zand_t, tt.1, tt.2.1, rr.1, hva, e5, hvv.1, e6]
    exact q
theorem k_stateOf (hR : Rok R) (hb : b = 4 ∨ b = 135) (h : ClM I b M) (hk : MOK M) {va : Nat} (hva : zT va = (1, 4)) (hi : mIn M.2.1 (I va) 0) : zrun X (d + 1) 9 [zr (some b), zr (some va)] (c, s, I, L, R) = some (some (zi (mEn M.2.1 (I va) 0)), (c, s, I, L, R)) := by
  refine st_X1_stateOf ?_
  have tt := tt_model hb
  have hn4 := hk.2.1
  have h1 := h.2.1
  simp (disch := omega) only [e_X1_stateOf_0, e_X1_stateOf_1, e_X1_stateOf_2, e_X1_stateOf_2x, e_X1_stateOf_3, e_X1_stateOf_6, e_X1_stateOf_7, e_X1_stateOf_10, e_X1_stateOf_11, e_X1_stateOf_12, e_X1_stateOf_14, e_X1_stateOf_17, e_X1_stateOf_18, e_X1_stateOf_18x, e_X1_stateOf_19, e_X1_stateOf_20, e_X1_stateOf_23, e_X1_stateOf_24, e_X1_stateOf_24x, e_X1_stateOf_25, e_X1_stateOf_28, e_X1_stateOf_29, e_X1_stateOf_30, e_X1_stateOf_31, e_X1_stateOf_32, e_X1_stateOf_33, e_X1_stateOf_33x, e_X1_stateOf_34, e_X1_stateOf_35, e_X1_stateOf_36, e_X1_stateOf_37, e_X1_stateOf_38, e_X1_stateOf_41, e_X1_stateOf_44, e_X1_stateOf_45, zcll_s, zpush_s, zpush_n, zinv_i, zinv_l, zinv_r, zinv_x, zcats_nil, zcats_i, zcats_l, zcats_r, zcats_x, Nat.le_refl, and_self, true_and, and_true, zok_1, zok_20, zok_21, eq_self, Nat.reduceAdd, Nat.reduceLeDiff, Nat.zero_le, if_true, if_false, zw3_id, if_pos, if_neg, zand_t, tt.1, h1]
  have p := q_stateOf (X := X) (call := zrun X d) (c := c) (s := s) (L := L) (Q := fun q => q = (some (zi (mEn M.2.1 (I va) 0)), c, s, I, L, R)) hR hb h hk hva hi rfl M.2.1.length (by omega)
  rw [List.drop_length] at p
  exact p
theorem q_valuesOf (hR : Rok R) (hb : b = 4 ∨ b = 135) (h : ClM I b M) (hk : MOK M) (st : Int) (h0 : 0 ≤ st) (hst : st < 100000) {Q : Option ZV × ZS → Prop} (hQ : ∀ f, (∀ v, v < M.2.1.length → f v = mDe M.2.1 st v) → Q (none, (c, s, zW I 267 f, L, R))) : ∀ (l : List MV) (j : Nat) (f : Nat → Int) (left : Int) (v5 : ZV), M.2.1.drop j = l → j ≤ M.2.1.length → 0 ≤ left → left ≤ st → (∀ u, u < j → f u = mDe M.2.1 st u) → (∀ u, mDe l left u = mDe M.2.1 st (j + u)) → V X call mX1_valuesOf 5 [zr (some b), zi st, zr (some 267), zi left, zi (j : Int), v5] [] (c, s, zW I 267 f, L, R) Q := by
  intro l
  have rr := rr_model hR hb
  have tt := tt_model hb
  have hn4 := hk.2.1
  have hb1 : b ≠ 267 := by omega
  have hb2 : b + 1 ≠ 267 := by omega
  have h1' := h.2.1
  induction l with
  | nil =>
    intro j f left v5 h1 h2 h3 h4 h5 h6
    have e := zdropn h1 h2
    rw [e_X1_valuesOf_5]
    simp (disch := omega) only [e_X1_valuesOf_0, e_X1_valuesOf_1, e_X1_valuesOf_2, e_X1_valuesOf_3, e_X1_valuesOf_7, e_X1_valuesOf_7x, e_X1_valuesOf_8, e_X1_valuesOf_11, e_X1_valuesOf_14, e_X1_valuesOf_16, e_X1_valuesOf_17, e_X1_valuesOf_20, e_X1_valuesOf_22, e_X1_valuesOf_22x, e_X1_valuesOf_23, e_X1_valuesOf_24, e_X1_valuesOf_27, e_X1_valuesOf_27x, e_X1_valuesOf_28, e_X1_valuesOf_31, e_X1_valuesOf_33, e_X1_valuesOf_34, e_X1_valuesOf_35, e_X1_valuesOf_36, e_X1_valuesOf_38, e_X1_valuesOf_40, e_X1_valuesOf_43, e_X1_valuesOf_43x, e_X1_valuesOf_44, e_X1_valuesOf_46, e_X1_valuesOf_47, e_X1_valuesOf_49, e_X1_valuesOf_50, e_X1_valuesOf_51, e_X1_valuesOf_52, e_X1_valuesOf_54, e_X1_valuesOf_55, e_X1_valuesOf_56, e_X1_valuesOf_59, e_X1_valuesOf_62, zcll_s, zpush_s, zpush_n, zinv_i, zinv_l, zinv_r, zinv_x, zcats_nil, zcats_i, zcats_l, zcats_r, zcats_x, Nat.le_refl, and_self, true_and, and_true, zok_1, zok_20, zok_21, eq_self, Nat.reduceAdd, Nat.reduceLeDiff, Nat.zero_le, if_true, if_false, zw3_id, if_pos, if_neg, zand_t, tt.1, zW_n, h1']
    exact hQ f (fun v hv => h5 v (by omega))
  | cons y l ih =>
    intro j f left v5 h1 h2 h3 h4 h5 h6
    obtain ⟨k1, k2, k3, k4⟩ := zdrop h1
    have hvv := ClM_v h k1
    have hy := hk.2.2.1 y k4
    have eg : mg M.2.1 j = y.2.1 := by unfold mg; rw [zgetD k2]
    rw [eg] at hvv
    have hd0 := Int.ediv_nonneg h3 (show 0 ≤ y.2.1 + 1 by omega)
    have hd1 := Int.ediv_le_self (y.2.1 + 1) h3
    have z1 : zrem3 left (y.2.1 + 1) = left % (y.2.1 + 1) := zq_rem3 (by unfold zi3; omega) h3 (by omega) (by unfold zi3; omega)
    have z2 : zdiv3 left (y.2.1 + 1) = left / (y.2.1 + 1) := zq_div3 (by unfold zi3; omega) h3 (by omega) (by unfold zi3; omega)
    have key : ∀ v5, V X call mX1_valuesOf 5 [zr (some b), zi st, zr (some 267), zi (left / (y.2.1 + 1)), zi ((j : Int) + 1), v5] [] (c, s, zW I 267 (fun k => if k = j then left % (y.2.1 + 1) else f k), L, R) Q := by
      intro v5
      rw [show (j : Int) + 1 = ((j + 1 : Nat) : Int) by omega]
      refine ih (j + 1) _ _ v5 k3 (by omega) hd0 (by omega) ?_ ?_
      · intro u hu
        by_cases hj : u = j
        · rw [if_pos hj, hj]
          have := h6 0
          exact this
        · rw [if_neg hj]
          exact h5 u (by omega)
      · intro u
        have := h6 (u + 1)
        rw [show j + 1 + u = j + (u + 1) by omega, ← this]
        rfl
    rw [e_X1_valuesOf_5]
    simp (disch := omega) only [e_X1_valuesOf_0, e_X1_valuesOf_1, e_X1_valuesOf_2, e_X1_valuesOf_3, e_X1_valuesOf_7, e_X1_valuesOf_7x, e_X1_valuesOf_8, e_X1_valuesOf_11, e_X1_valuesOf_14, e_X1_valuesOf_16, e_X1_valuesOf_17, e_X1_valuesOf_20, e_X1_valuesOf_22, e_X1_valuesOf_22x, e_X1_valuesOf_23, e_X1_valuesOf_24, e_X1_valuesOf_27, e_X1_valuesOf_27x, e_X1_valuesOf_28, e_X1_valuesOf_31, e_X1_valuesOf_33, e_X1_valuesOf_34, e_X1_valuesOf_35, e_X1_valuesOf_36, e_X1_valuesOf_38, e_X1_valuesOf_40, e_X1_valuesOf_43, e_X1_valuesOf_43x, e_X1_valuesOf_44, e_X1_valuesOf_46, e_X1_valuesOf_47, e_X1_valuesOf_49, e_X1_valuesOf_50, e_X1_valuesOf_51, e_X1_valuesOf_52, e_X1_valuesOf_54, e_X1_valuesOf_55, e_X1_valuesOf_56, e_X1_valuesOf_59, e_X1_valuesOf_62, zcll_s, zpush_s, zpush_n, zinv_i, zinv_l, zinv_r, zinv_x, zcats_nil, zcats_i, zcats_l, zcats_r, zcats_x, Nat.le_refl, and_self, true_and, and_true, zok_1, zok_20, zok_21, eq_self, Nat.reduceAdd, Nat.reduceLeDiff, Nat.zero_le, if_true, if_false, zw3_id, if_pos, if_neg, zand_t, tg_267, tn_267, tt.1, tt.2.1, rr.1, zW_n, zW_s, zu_W, zW_W, Int.toNat_natCast, h1', hvv.1, z1, z2]
    exact key _
theorem k_valuesOf (hR : Rok R) (hb : b = 4 ∨ b = 135) (h : ClM I b M) (hk : MOK M) (st : Int) (h0 : 0 ≤ st) (hst : st < mPr M.2.1) : ∃ f, zrun X (d + 1) 10 [zr (some b), zi st, zr (some 267)] (c, s, I, L, R) = some (none, (c, s, zW I 267 f, L, R)) ∧ Now M f st := by
  have hp := hk.2.2.2.1
  have p := sx_X1_valuesOf (X := X) (d := d) (u0 := some b) (x1 := st) (u2 := some 267) (σ := (c, s, I, L, R)) (P := fun q => ∃ f, q = (none, (c, s, zW I 267 f, L, R)) ∧ Now M f st) ?_
  · obtain ⟨r, h1, f, h2, h3⟩ := p
    exact ⟨f, by rw [h1, h2], h3⟩
  · simp (disch := omega) only [e_X1_valuesOf_0, e_X1_valuesOf_1, e_X1_valuesOf_2, e_X1_valuesOf_3, e_X1_valuesOf_7, e_X1_valuesOf_7x, e_X1_valuesOf_8, e_X1_valuesOf_11, e_X1_valuesOf_14, e_X1_valuesOf_16, e_X1_valuesOf_17, e_X1_valuesOf_20, e_X1_valuesOf_22, e_X1_valuesOf_22x, e_X1_valuesOf_23, e_X1_valuesOf_24, e_X1_valuesOf_27, e_X1_valuesOf_27x, e_X1_valuesOf_28, e_X1_valuesOf_31, e_X1_valuesOf_33, e_X1_valuesOf_34, e_X1_valuesOf_35, e_X1_valuesOf_36, e_X1_valuesOf_38, e_X1_valuesOf_40, e_X1_valuesOf_43, e_X1_valuesOf_43x, e_X1_valuesOf_44, e_X1_valuesOf_46, e_X1_valuesOf_47, e_X1_valuesOf_49, e_X1_valuesOf_50, e_X1_valuesOf_51, e_X1_valuesOf_52, e_X1_valuesOf_54, e_X1_valuesOf_55, e_X1_valuesOf_56, e_X1_valuesOf_59, e_X1_valuesOf_62, zcll_s, zpush_s, zpush_n, zinv_i, zinv_l, zinv_r, zinv_x, zcats_nil, zcats_i, zcats_l, zcats_r, zcats_x, Nat.le_refl, and_self, true_and, and_true, zok_1, zok_20, zok_21, eq_self, Nat.reduceAdd, Nat.reduceLeDiff, Nat.zero_le, if_true, if_false, zw3_id, if_pos, if_neg, zand_t]
    have p := q_valuesOf (X := X) (call := zrun X d) (c := c) (s := s) (L := L) (Q := fun q => ∃ f, q = (none, (c, s, zW I 267 f, L, R)) ∧ Now M f st) hR hb h hk st h0 (by omega) (fun f hf => ⟨f, rfl, hf, h0, hst⟩) M.2.1 0 (I 267) st (zx 0) rfl (by omega) h0 (by omega) (fun u hu => absurd hu (by omega)) (fun u => by rw [Nat.zero_add])
    rw [zW_id] at p
    exact p
theorem q_valueIn (hR : Rok R) (hb : b = 4 ∨ b = 135) (h : ClM I b M) (hk : MOK M) (st v : Int) (h0 : 0 ≤ st) (hst : st < 100000) (hv0 : 0 ≤ v) (hv : v < M.2.1.length) : ∀ (l : List MV) (j : Nat) (left val : Int) (v6 : ZV), M.2.1.drop j = l → (j : Int) ≤ v + 1 → 0 ≤ left → left ≤ st → (0 < j → val = mDe M.2.1 st (j - 1)) → (∀ u, mDe l left u = mDe M.2.1 st (j + u)) → V X call mX1_valueIn 8 [zr (some b), zi st, zi v, zi left, zi val, zi (j : Int), v6] [] (c, s, I, L, R) (fun q => q = (some (zi (mDe M.2.1 st v.toNat)), (c, s, I, L, R))) := by
  intro l
  have rr := rr_model hR hb
  have tt := tt_model hb
  have hn4 := hk.2.1
  induction l with
  | nil =>
    intro j left val v6 h1 h2 h3 h4 h5 h6
    have e := zdropn h1 (by omega)
    have hval := h5 (by omega)
    rw [e_X1_valueIn_8]
    simp (disch := omega) only [e_X1_valueIn_0, e_X1_valueIn_1, e_X1_valueIn_2, e_X1_valueIn_3, e_X1_valueIn_5, e_X1_valueIn_6, e_X1_valueIn_10, e_X1_valueIn_11, e_X1_valueIn_14, e_X1_valueIn_16, e_X1_valueIn_17, e_X1_valueIn_20, e_X1_valueIn_20x, e_X1_valueIn_21, e_X1_valueIn_24, e_X1_valueIn_26, e_X1_valueIn_27, e_X1_valueIn_28, e_X1_valueIn_29, e_X1_valueIn_31, e_X1_valueIn_33, e_X1_valueIn_36, e_X1_valueIn_37, e_X1_valueIn_39, e_X1_valueIn_40, e_X1_valueIn_42, e_X1_valueIn_43, e_X1_valueIn_45, e_X1_valueIn_46, e_X1_valueIn_47, e_X1_valueIn_50, e_X1_valueIn_53, e_X1_valueIn_55, zcll_s, zpush_s, zpush_n, zinv_i, zinv_l, zinv_r, zinv_x, zcats_nil, zcats_i, zcats_l, zcats_r, zcats_x, Nat.le_refl, and_self, true_and, and_true, zok_1, zok_20, zok_21, eq_self, Nat.reduceAdd, Nat.reduceLeDiff, Nat.zero_le, if_true, if_false, zw3_id, if_pos, if_neg, zand_t]
    rw [hval, show j - 1 = v.toNat by omega]
  | cons y l ih =>
    intro j left val v6 h1 h2 h3 h4 h5 h6
    obtain ⟨k1, k2, k3, k4⟩ := zdrop h1
    rw [e_X1_valueIn_8]
    by_cases hj : (j : Int) ≤ v
    · have hvv := ClM_v h k1
      have hy := hk.2.2.1 y k4
      have eg : mg M.2.1 j = y.2.1 := by unfold mg; rw [zgetD k2]
      rw [eg] at hvv
      have hd0 := Int.ediv_nonneg h3 (show 0 ≤ y.2.1 + 1 by omega)
      have hd1 := Int.ediv_le_self (y.2.1 + 1) h3
      have z1 : zrem3 left (y.2.1 + 1) = left % (y.2.1 + 1) := zq_rem3 (by unfold zi3; omega) h3 (by omega) (by unfold zi3; omega)
      have z2 : zdiv3 left (y.2.1 + 1) = left / (y.2.1 + 1) := zq_div3 (by unfold zi3; omega) h3 (by omega) (by unfold zi3; omega)
      simp (disch := omega) only [e_X1_valueIn_0, e_X1_valueIn_1, e_X1_valueIn_2, e_X1_valueIn_3, e_X1_valueIn_5, e_X1_valueIn_6, e_X1_valueIn_10, e_X1_valueIn_11, e_X1_valueIn_14, e_X1_valueIn_16, e_X1_valueIn_17, e_X1_valueIn_20, e_X1_valueIn_20x, e_X1_valueIn_21, e_X1_valueIn_24, e_X1_valueIn_26, e_X1_valueIn_27, e_X1_valueIn_28, e_X1_valueIn_29, e_X1_valueIn_31, e_X1_valueIn_33, e_X1_valueIn_36, e_X1_valueIn_37, e_X1_valueIn_39, e_X1_valueIn_40, e_X1_valueIn_42, e_X1_valueIn_43, e_X1_valueIn_45, e_X1_valueIn_46, e_X1_valueIn_47, e_X1_valueIn_50, e_X1_valueIn_53, e_X1_valueIn_55, zcll_s, zpush_s, zpush_n, zinv_i, zinv_l, zinv_r, zinv_x, zcats_nil, zcats_i, zcats_l, zcats_r, zcats_x, Nat.le_refl, and_self, true_and, and_true, zok_1, zok_20, zok_21, eq_self, Nat.reduceAdd, Nat.reduceLeDiff, Nat.zero_le, if_true, if_false, zw3_id, if_pos, if_neg, zand_t, tt.1, tt.2.1, rr.1, Int.toNat_natCast, hvv.1, z1, z2]
      rw [show (j : Int) + 1 = ((j + 1 : Nat) : Int) by omega]
      refine ih (j + 1) _ _ _ k3 (by omega) hd0 (by omega) ?_ ?_
      · intro _
        have := h6 0
        rw [show j + 1 - 1 = j + 0 by omega, ← this]
        rfl
      · intro u
        have := h6 (u + 1)
        rw [show j + 1 + u = j + (u + 1) by omega, ← this]
        rfl
    · have hval := h5 (by omega)
      simp (disch := omega) only [e_X1_valueIn_0, e_X1_valueIn_1, e_X1_valueIn_2, e_X1_valueIn_3, e_X1_valueIn_5, e_X1_valueIn_6, e_X1_valueIn_10, e_X1_valueIn_11, e_X1_valueIn_14, e_X1_valueIn_16, e_X1_valueIn_17, e_X1_valueIn_20, e_X1_valueIn_20x, e_X1_valueIn_21, e_X1_valueIn_24, e_X1_valueIn_26, e_X1_valueIn_27, e_X1_valueIn_28, e_X1_valueIn_29, e_X1_valueIn_31, e_X1_valueIn_33, e_X1_valueIn_36, e_X1_valueIn_37, e_X1_valueIn_39, e_X1_valueIn_40, e_X1_valueIn_42, e_X1_valueIn_43, e_X1_valueIn_45, e_X1_valueIn_46, e_X1_valueIn_47, e_X1_valueIn_50, e_X1_valueIn_53, e_X1_valueIn_55, zcll_s, zpush_s, zpush_n, zinv_i, zinv_l, zinv_r, zinv_x, zcats_nil, zcats_i, zcats_l, zcats_r, zcats_x, Nat.le_refl, and_self, true_and, and_true, zok_1, zok_20, zok_21, eq_self, Nat.reduceAdd, Nat.reduceLeDiff, Nat.zero_le, if_true, if_false, zw3_id, if_pos, if_neg, zand_t]
      rw [hval, show j - 1 = v.toNat by omega]
theorem k_valueIn (hR : Rok R) (hb : b = 4 ∨ b = 135) (h : ClM I b M) (hk : MOK M) (st v : Int) (h0 : 0 ≤ st) (hst : st < mPr M.2.1) (hv0 : 0 ≤ v) (hv : v < M.2.1.length) : zrun X (d + 1) 11 [zr (some b), zi st, zi v] (c, s, I, L, R) = some (some (zi (mDe M.2.1 st v.toNat)), (c, s, I, L, R)) := by
  refine st_X1_valueIn ?_
  have hp := hk.2.2.2.1
  simp (disch := omega) only [e_X1_valueIn_0, e_X1_valueIn_1, e_X1_valueIn_2, e_X1_valueIn_3, e_X1_valueIn_5, e_X1_valueIn_6, e_X1_valueIn_10, e_X1_valueIn_11, e_X1_valueIn_14, e_X1_valueIn_16, e_X1_valueIn_17, e_X1_valueIn_20, e_X1_valueIn_20x, e_X1_valueIn_21, e_X1_valueIn_24, e_X1_valueIn_26, e_X1_valueIn_27, e_X1_valueIn_28, e_X1_valueIn_29, e_X1_valueIn_31, e_X1_valueIn_33, e_X1_valueIn_36, e_X1_valueIn_37, e_X1_valueIn_39, e_X1_valueIn_40, e_X1_valueIn_42, e_X1_valueIn_43, e_X1_valueIn_45, e_X1_valueIn_46, e_X1_valueIn_47, e_X1_valueIn_50, e_X1_valueIn_53, e_X1_valueIn_55, zcll_s, zpush_s, zpush_n, zinv_i, zinv_l, zinv_r, zinv_x, zcats_nil, zcats_i, zcats_l, zcats_r, zcats_x, Nat.le_refl, and_self, true_and, and_true, zok_1, zok_20, zok_21, eq_self, Nat.reduceAdd, Nat.reduceLeDiff, Nat.zero_le, if_true, if_false, zw3_id, if_pos, if_neg, zand_t]
  exact q_valueIn (X := X) (call := zrun X d) hR hb h hk st v h0 (by omega) hv0 hv M.2.1 0 st 0 _ rfl (by omega) h0 (by omega) (fun q => absurd q (by omega)) (fun u => by rw [Nat.zero_add])
theorem zTm_c {i : Nat} (hb : b = 4 ∨ b = 135) (hi : i < 12) : zTm (b + 6 + 9 * i + 1) := ⟨b, hb, Or.inl ⟨i, hi, Or.inl rfl⟩⟩
theorem zTm_e {i : Nat} (hb : b = 4 ∨ b = 135) (hi : i < 12) : zTm (b + 6 + 9 * i + 5) := ⟨b, hb, Or.inl ⟨i, hi, Or.inr rfl⟩⟩
theorem zTm_g {i : Nat} (hb : b = 4 ∨ b = 135) (hi : i < 4) : zTm (b + 114 + 4 * i) := ⟨b, hb, Or.inr ⟨i, hi, rfl⟩⟩
theorem q_rulesMoving (hR : Rok R) (hb : b = 4 ∨ b = 135) (h : ClM I b M) (hk : MOK M) (v : Int) : ∀ (l : List MR) (r : Nat) (p : Int), M.2.2.1.drop r = l → r ≤ M.2.2.1.length → 0 ≤ p → p ≤ r → V X (zrun X (d + 1)) mX1_rulesMoving 4 [zr (some b), zi v, zi p, zi (r : Int)] [] (c, s, I, L, R) (fun q => q = (some (zi (mMv v l p)), (c, s, I, L, R))) := by
  intro l
  have rr := rr_model hR hb
  have tt := tt_model hb
  have hn := hk.2.2.2.2.1
  have h2' := h.2.2.1
  induction l with
  | nil =>
    intro r p h1 hr h2 h3
    have e := zdropn h1 hr
    rw [e_X1_rulesMoving_4]
    simp (disch := omega) only [e_X1_rulesMoving_0, e_X1_rulesMoving_1, e_X1_rulesMoving_2, e_X1_rulesMoving_3, e_X1_rulesMoving_5, e_X1_rulesMoving_5x, e_X1_rulesMoving_6, e_X1_rulesMoving_9, e_X1_rulesMoving_12, e_X1_rulesMoving_13, e_X1_rulesMoving_15, e_X1_rulesMoving_18, e_X1_rulesMoving_18x, e_X1_rulesMoving_19, e_X1_rulesMoving_22, e_X1_rulesMoving_23, e_X1_rulesMoving_24, e_X1_rulesMoving_27, e_X1_rulesMoving_28, e_X1_rulesMoving_31, e_X1_rulesMoving_34, e_X1_rulesMoving_37, e_X1_rulesMoving_40, e_X1_rulesMoving_43, e_X1_rulesMoving_44, zcll_s, zpush_s, zpush_n, zinv_i, zinv_l, zinv_r, zinv_x, zcats_nil, zcats_i, zcats_l, zcats_r, zcats_x, Nat.le_refl, and_self, true_and, and_true, zok_1, zok_20, zok_21, eq_self, Nat.reduceAdd, Nat.reduceLeDiff, Nat.zero_le, if_true, if_false, zw3_id, if_pos, if_neg, zand_t, tt.1, h2']
    rfl
  | cons x l ih =>
    intro r p h1 hr h2 h3
    obtain ⟨k1, k2, k3, k4⟩ := zdrop h1
    have hx := h.2.2.2.2.2.2.1 r x k2
    have hxk := hk.2.2.2.2.2.1 x k4
    have hrl : r < 12 := by omega
    have q := k_names (X := X) (d := d) (c := c) (s := s) (L := L) hR (zTm_e hb hrl) hx.2.2 hxk.2.2.1 v
    have tr := tt_rule hb hrl
    have tz := tt_terms (zTm_e hb hrl)
    have rt := rr_ruleT hR hb hrl
    have rl := rr_rule hR hb hrl
    have hz := @zB_01 (mNm v x.2.2)
    unfold mMv
    have key := ih (r + 1) (p + zB (mNm v x.2.2)) k3 (by omega) (by omega) (by omega)
    rw [e_X1_rulesMoving_4]
    by_cases hb1 : mNm v x.2.2
    · rw [zB_t hb1] at q key ⊢
      simp (disch := omega) only [e_X1_rulesMoving_0, e_X1_rulesMoving_1, e_X1_rulesMoving_2, e_X1_rulesMoving_3, e_X1_rulesMoving_5, e_X1_rulesMoving_5x, e_X1_rulesMoving_6, e_X1_rulesMoving_9, e_X1_rulesMoving_12, e_X1_rulesMoving_13, e_X1_rulesMoving_15, e_X1_rulesMoving_18, e_X1_rulesMoving_18x, e_X1_rulesMoving_19, e_X1_rulesMoving_22, e_X1_rulesMoving_23, e_X1_rulesMoving_24, e_X1_rulesMoving_27, e_X1_rulesMoving_28, e_X1_rulesMoving_31, e_X1_rulesMoving_34, e_X1_rulesMoving_37, e_X1_rulesMoving_40, e_X1_rulesMoving_43, e_X1_rulesMoving_44, zcll_s, zpush_s, zpush_n, zinv_i, zinv_l, zinv_r, zinv_x, zcats_nil, zcats_i, zcats_l, zcats_r, zcats_x, Nat.le_refl, and_self, true_and, and_true, zok_1, zok_20, zok_21, eq_self, Nat.reduceAdd, Nat.reduceLeDiff, Nat.zero_le, if_true, if_false, zw3_id, if_pos, if_neg, zand_t, tt.1, tt.2.2.2.1, rr.2.2.1, h2', Int.toNat_natCast, rl, tr, rt.2, tz.1, q]
      rw [show (r : Int) + 1 = ((r + 1 : Nat) : Int) by omega]
      exact key
    · rw [zB_f hb1] at q key ⊢
      rw [Int.add_zero] at key ⊢
      simp (disch := omega) only [e_X1_rulesMoving_0, e_X1_rulesMoving_1, e_X1_rulesMoving_2, e_X1_rulesMoving_3, e_X1_rulesMoving_5, e_X1_rulesMoving_5x, e_X1_rulesMoving_6, e_X1_rulesMoving_9, e_X1_rulesMoving_12, e_X1_rulesMoving_13, e_X1_rulesMoving_15, e_X1_rulesMoving_18, e_X1_rulesMoving_18x, e_X1_rulesMoving_19, e_X1_rulesMoving_22, e_X1_rulesMoving_23, e_X1_rulesMoving_24, e_X1_rulesMoving_27, e_X1_rulesMoving_28, e_X1_rulesMoving_31, e_X1_rulesMoving_34, e_X1_rulesMoving_37, e_X1_rulesMoving_40, e_X1_rulesMoving_43, e_X1_rulesMoving_44, zcll_s, zpush_s, zpush_n, zinv_i, zinv_l, zinv_r, zinv_x, zcats_nil, zcats_i, zcats_l, zcats_r, zcats_x, Nat.le_refl, and_self, true_and, and_true, zok_1, zok_20, zok_21, eq_self, Nat.reduceAdd, Nat.reduceLeDiff, Nat.zero_le, if_true, if_false, zw3_id, if_pos, if_neg, zand_t, tt.1, tt.2.2.2.1, rr.2.2.1, h2', Int.toNat_natCast, rl, tr, rt.2, tz.1, q]
      rw [show (r : Int) + 1 = ((r + 1 : Nat) : Int) by omega]
      exact key
theorem k_rulesMoving (hR : Rok R) (hb : b = 4 ∨ b = 135) (h : ClM I b M) (hk : MOK M) (v : Int) : zrun X (d + 2) 12 [zr (some b), zi v] (c, s, I, L, R) = some (some (zi (mMv v M.2.2.1 0)), (c, s, I, L, R)) := by
  refine st_X1_rulesMoving ?_
  simp (disch := omega) only [e_X1_rulesMoving_0, e_X1_rulesMoving_1, e_X1_rulesMoving_2, e_X1_rulesMoving_3, e_X1_rulesMoving_5, e_X1_rulesMoving_5x, e_X1_rulesMoving_6, e_X1_rulesMoving_9, e_X1_rulesMoving_12, e_X1_rulesMoving_13, e_X1_rulesMoving_15, e_X1_rulesMoving_18, e_X1_rulesMoving_18x, e_X1_rulesMoving_19, e_X1_rulesMoving_22, e_X1_rulesMoving_23, e_X1_rulesMoving_24, e_X1_rulesMoving_27, e_X1_rulesMoving_28, e_X1_rulesMoving_31, e_X1_rulesMoving_34, e_X1_rulesMoving_37, e_X1_rulesMoving_40, e_X1_rulesMoving_43, e_X1_rulesMoving_44, zcll_s, zpush_s, zpush_n, zinv_i, zinv_l, zinv_r, zinv_x, zcats_nil, zcats_i, zcats_l, zcats_r, zcats_x, Nat.le_refl, and_self, true_and, and_true, zok_1, zok_20, zok_21, eq_self, Nat.reduceAdd, Nat.reduceLeDiff, Nat.zero_le, if_true, if_false, zw3_id, if_pos, if_neg, zand_t]
  exact q_rulesMoving (X := X) (d := d) hR hb h hk v M.2.2.1 0 0 rfl (by omega) (by omega) (by omega)
end
