/-! The class: words, names. -/
section
variable {X : ZX} {d c s : Nat} {I L I1 L1 I2 L2 J : ZI} {R R1 R2 : ZR} {call : ZC} {n p b : Nat} {x t : Int} {B : Nat → Int}
theorem rsl_map (f : Nat) : ∀ m, rsl B f m = ((List.range m).map (fun k => B (f + k))).reverse := by
  intro m
  induction m with
  | zero => rfl
  | succ m ih => rw [List.range_succ, List.map_append, List.reverse_append, ← ih]; rfl
theorem rsl_rev (f : Nat) (l : List Int) : rsl B f l.length = l.reverse ↔ ∀ k, k < l.length → B (f + k) = l.getD k 0 := by
  rw [rsl_map, List.reverse_inj]
  constructor
  · intro h k hk
    have h1 : ((List.range l.length).map (fun k => B (f + k)))[k]? = l[k]? := by rw [h]
    rw [List.getElem?_map, List.getElem?_range hk] at h1
    rw [List.getD_eq_getElem?_getD, ← h1]
    rfl
  · intro h
    apply List.ext_getElem?
    intro k
    by_cases hk : k < l.length
    · rw [List.getElem?_map, List.getElem?_range hk]
      have := h k hk
      rw [List.getD_eq_getElem?_getD, List.getElem?_eq_getElem hk] at this
      rw [List.getElem?_eq_getElem hk]
      exact congrArg some this
    · rw [List.getElem?_eq_none (l := l) (by omega), List.getElem?_eq_none (by rw [List.length_map, List.length_range]; omega)]
theorem w_step {e f i len : Nat} {y y' : Int} (he : 1 ≤ e ∧ e < 8) (hR : Rok R) (h2 : I 1 2 = (f : Int)) (hb : I 2 ((f : Int) + (i : Int)).toNat = y') (hlt : i < len) (hlen : len ≤ 9) (hfi : f + i < 800) (q1 : call 176 [zx (e + 1), zi (i : Int)] (c, s, I, L, R) = some (some (zi y), (c, s, I, L, R))) (hyy : y' ≠ y) : V X call mX8_isWord 40 [zr (some 1), zx (e + 1), zi (len : Int), zi (i : Int)] [] (c, s, I, L, R) (fun q => q = (some (zi 0), (c, s, I, L, R))) := by
  rw [e_X8_isWord_40]
  simp (disch := omega) only [e_X8_isWord_0, e_X8_isWord_0x, e_X8_isWord_1, e_X8_isWord_4, e_X8_isWord_5, e_X8_isWord_5x, e_X8_isWord_6, e_X8_isWord_9, e_X8_isWord_10, e_X8_isWord_13, e_X8_isWord_13x, e_X8_isWord_14, e_X8_isWord_17, e_X8_isWord_17x, e_X8_isWord_18, e_X8_isWord_21, e_X8_isWord_22, e_X8_isWord_23, e_X8_isWord_26, e_X8_isWord_26x, e_X8_isWord_27, e_X8_isWord_30, e_X8_isWord_33, e_X8_isWord_36, e_X8_isWord_37, e_X8_isWord_38, e_X8_isWord_39, e_X8_isWord_41, e_X8_isWord_42, e_X8_isWord_45, e_X8_isWord_45x, e_X8_isWord_46, e_X8_isWord_49, e_X8_isWord_49x, e_X8_isWord_50, e_X8_isWord_53, e_X8_isWord_54, e_X8_isWord_55, e_X8_isWord_56, e_X8_isWord_56x, e_X8_isWord_57, e_X8_isWord_58, e_X8_isWord_61, e_X8_isWord_64, e_X8_isWord_65, e_X8_isWord_66, e_X8_isWord_69, e_X8_isWord_72, e_X8_isWord_73, zcll_s, zpush_s, zpush_n, zinv_i, zinv_l, zinv_r, zinv_x, zcats_nil, zcats_i, zcats_l, zcats_r, zcats_x, Nat.le_refl, and_self, true_and, and_true, zok_1, zok_20, zok_21, eq_self, Nat.reduceAdd, Nat.reduceLeDiff, Nat.zero_le, if_true, if_false, zw3_id, if_pos, if_neg, zand_t, tg_1, tg_2, tn_2, rr_1_0 hR, h2, hb, q1, or_true, true_or]
theorem w_step1 {e f i len : Nat} {y : Int} (he : 1 ≤ e ∧ e < 8) (hR : Rok R) (h2 : I 1 2 = (f : Int)) (hb : I 2 ((f : Int) + (i : Int)).toNat = y) (hlt : i < len) (hlen : len ≤ 9) (hfi : f + i < 800) (q1 : call 176 [zx (e + 1), zi (i : Int)] (c, s, I, L, R) = some (some (zi y), (c, s, I, L, R))) {Q : Option ZV × ZS → Prop} (hQ : V X call mX8_isWord 40 [zr (some 1), zx (e + 1), zi (len : Int), zi ((i : Int) + 1)] [] (c, s, I, L, R) Q) : V X call mX8_isWord 40 [zr (some 1), zx (e + 1), zi (len : Int), zi (i : Int)] [] (c, s, I, L, R) Q := by
  rw [e_X8_isWord_40]
  simp (disch := omega) only [e_X8_isWord_0, e_X8_isWord_0x, e_X8_isWord_1, e_X8_isWord_4, e_X8_isWord_5, e_X8_isWord_5x, e_X8_isWord_6, e_X8_isWord_9, e_X8_isWord_10, e_X8_isWord_13, e_X8_isWord_13x, e_X8_isWord_14, e_X8_isWord_17, e_X8_isWord_17x, e_X8_isWord_18, e_X8_isWord_21, e_X8_isWord_22, e_X8_isWord_23, e_X8_isWord_26, e_X8_isWord_26x, e_X8_isWord_27, e_X8_isWord_30, e_X8_isWord_33, e_X8_isWord_36, e_X8_isWord_37, e_X8_isWord_38, e_X8_isWord_39, e_X8_isWord_41, e_X8_isWord_42, e_X8_isWord_45, e_X8_isWord_45x, e_X8_isWord_46, e_X8_isWord_49, e_X8_isWord_49x, e_X8_isWord_50, e_X8_isWord_53, e_X8_isWord_54, e_X8_isWord_55, e_X8_isWord_56, e_X8_isWord_56x, e_X8_isWord_57, e_X8_isWord_58, e_X8_isWord_61, e_X8_isWord_64, e_X8_isWord_65, e_X8_isWord_66, e_X8_isWord_69, e_X8_isWord_72, e_X8_isWord_73, zcll_s, zpush_s, zpush_n, zinv_i, zinv_l, zinv_r, zinv_x, zcats_nil, zcats_i, zcats_l, zcats_r, zcats_x, Nat.le_refl, and_self, true_and, and_true, zok_1, zok_20, zok_21, eq_self, Nat.reduceAdd, Nat.reduceLeDiff, Nat.zero_le, if_true, if_false, zw3_id, if_pos, if_neg, zand_t, tg_1, tg_2, tn_2, rr_1_0 hR, h2, hb, q1, or_true, true_or]
  exact hQ
theorem w_end {e i len : Nat} (he : 1 ≤ e ∧ e < 8) (hi : i = len) : V X call mX8_isWord 40 [zr (some 1), zx (e + 1), zi (len : Int), zi (i : Int)] [] (c, s, I, L, R) (fun q => q = (some (zi 1), (c, s, I, L, R))) := by
  rw [e_X8_isWord_40]
  simp (disch := omega) only [e_X8_isWord_0, e_X8_isWord_0x, e_X8_isWord_1, e_X8_isWord_4, e_X8_isWord_5, e_X8_isWord_5x, e_X8_isWord_6, e_X8_isWord_9, e_X8_isWord_10, e_X8_isWord_13, e_X8_isWord_13x, e_X8_isWord_14, e_X8_isWord_17, e_X8_isWord_17x, e_X8_isWord_18, e_X8_isWord_21, e_X8_isWord_22, e_X8_isWord_23, e_X8_isWord_26, e_X8_isWord_26x, e_X8_isWord_27, e_X8_isWord_30, e_X8_isWord_33, e_X8_isWord_36, e_X8_isWord_37, e_X8_isWord_38, e_X8_isWord_39, e_X8_isWord_41, e_X8_isWord_42, e_X8_isWord_45, e_X8_isWord_45x, e_X8_isWord_46, e_X8_isWord_49, e_X8_isWord_49x, e_X8_isWord_50, e_X8_isWord_53, e_X8_isWord_54, e_X8_isWord_55, e_X8_isWord_56, e_X8_isWord_56x, e_X8_isWord_57, e_X8_isWord_58, e_X8_isWord_61, e_X8_isWord_64, e_X8_isWord_65, e_X8_isWord_66, e_X8_isWord_69, e_X8_isWord_72, e_X8_isWord_73, zcll_s, zpush_s, zpush_n, zinv_i, zinv_l, zinv_r, zinv_x, zcats_nil, zcats_i, zcats_l, zcats_r, zcats_x, Nat.le_refl, and_self, true_and, and_true, zok_1, zok_20, zok_21, eq_self, Nat.reduceAdd, Nat.reduceLeDiff, Nat.zero_le, if_true, if_false, zw3_id, if_pos, if_neg, zand_t]
theorem q_isWord (hR : Rok R) (h : TxC I B n) {e f : Nat} (he : 1 ≤ e ∧ e < 8) (h2 : I 1 2 = (f : Int)) (hf : f + (zstr (e - 1)).length ≤ n) : ∀ (j i : Nat), (zstr (e - 1)).length - i = j → i ≤ (zstr (e - 1)).length → (∀ k, k < i → B (f + k) = (zstr (e - 1)).getD k 0) → V X (zrun X (d + 4)) mX8_isWord 40 [zr (some 1), zx (e + 1), zi ((zstr (e - 1)).length : Int), zi (i : Int)] [] (c, s, I, L, R) (fun q => q = (some (zi (@ite _ (∀ k, k < (zstr (e - 1)).length → B (f + k) = (zstr (e - 1)).getD k 0) (Classical.propDecidable _) 1 0)), (c, s, I, L, R))) := by
  intro j
  have h800 := h.2.1
  have hl := str_n (e - 1) (by omega)
  induction j with
  | zero =>
    intro i h3 h4 h5
    rw [if_pos (fun k hk => h5 k (by omega))]
    exact w_end he (by omega)
  | succ j ih =>
    intro i h3 h4 h5
    have hb : I 2 ((f : Int) + (i : Int)).toNat = sgB (B (f + i)) := by
      rw [show ((f : Int) + (i : Int)).toNat = f + i by omega]
      exact h.2.2.1 (f + i) (by omega)
    have hr := h.2.2.2 (f + i) (by omega)
    have hc := str_c (e - 1) (by omega) i (by omega)
    have q1 := k_charAt (X := X) (d := d) (c := c) (s := s) (I := I) (L := L) (R := R) he (i := i) (by omega)
    by_cases q : B (f + i) = (zstr (e - 1)).getD i 0
    · have go := ih (i + 1) (by omega) (by omega) (fun k hk => by
        by_cases z : k = i
        · rw [z]; exact q
        · exact h5 k (by omega))
      rw [(sgB_e hr.1 hr.2 hc.2.1 hc.2.2).mpr q] at hb
      exact w_step1 he hR h2 hb (by omega) (by omega) (by omega) q1 go
    · have esg : sgB (B (f + i)) ≠ (zstr (e - 1)).getD i 0 := fun z => q ((sgB_e hr.1 hr.2 hc.2.1 hc.2.2).mp z)
      rw [if_neg (fun z => q (z i (by omega)))]
      exact w_step he hR h2 hb (by omega) (by omega) (by omega) q1 esg
theorem w_no {e f t len : Nat} {kd : Int} (he : 1 ≤ e ∧ e < 8) (h4 : I 1 4 = kd) (h2 : I 1 2 = (f : Int)) (h3 : I 1 3 = (t : Int)) (hf : f ≤ t) (ht : t ≤ 800) (ql : zrun X (d + 4) 175 [zx (e + 1)] (c, s, I, L, R) = some (some (zi (len : Int)), (c, s, I, L, R))) (hl : len ≤ 9) (hq : kd = 1 → t - f ≠ len) : zrun X (d + 5) 72 [zr (some 1), zx (e + 1)] (c, s, I, L, R) = some (some (zi 0), (c, s, I, L, R)) := by
  refine st_X8_isWord ?_
  by_cases q : kd = 1
  · have q2 : (t : Int) - (f : Int) ≠ (len : Int) := by have := hq q; omega
    rw [q] at h4
    clear hq
    simp (disch := omega) only [e_X8_isWord_0, e_X8_isWord_0x, e_X8_isWord_1, e_X8_isWord_4, e_X8_isWord_5, e_X8_isWord_5x, e_X8_isWord_6, e_X8_isWord_9, e_X8_isWord_10, e_X8_isWord_13, e_X8_isWord_13x, e_X8_isWord_14, e_X8_isWord_17, e_X8_isWord_17x, e_X8_isWord_18, e_X8_isWord_21, e_X8_isWord_22, e_X8_isWord_23, e_X8_isWord_26, e_X8_isWord_26x, e_X8_isWord_27, e_X8_isWord_30, e_X8_isWord_33, e_X8_isWord_36, e_X8_isWord_37, e_X8_isWord_38, e_X8_isWord_39, e_X8_isWord_41, e_X8_isWord_42, e_X8_isWord_45, e_X8_isWord_45x, e_X8_isWord_46, e_X8_isWord_49, e_X8_isWord_49x, e_X8_isWord_50, e_X8_isWord_53, e_X8_isWord_54, e_X8_isWord_55, e_X8_isWord_56, e_X8_isWord_56x, e_X8_isWord_57, e_X8_isWord_58, e_X8_isWord_61, e_X8_isWord_64, e_X8_isWord_65, e_X8_isWord_66, e_X8_isWord_69, e_X8_isWord_72, e_X8_isWord_73, zcll_s, zpush_s, zpush_n, zinv_i, zinv_l, zinv_r, zinv_x, zcats_nil, zcats_i, zcats_l, zcats_r, zcats_x, Nat.le_refl, and_self, true_and, and_true, zok_1, zok_20, zok_21, eq_self, Nat.reduceAdd, Nat.reduceLeDiff, Nat.zero_le, if_true, if_false, zw3_id, if_pos, if_neg, zand_t, tg_1, ql, h4, h2, h3]
  · clear hq
    simp (disch := omega) only [e_X8_isWord_0, e_X8_isWord_0x, e_X8_isWord_1, e_X8_isWord_4, e_X8_isWord_5, e_X8_isWord_5x, e_X8_isWord_6, e_X8_isWord_9, e_X8_isWord_10, e_X8_isWord_13, e_X8_isWord_13x, e_X8_isWord_14, e_X8_isWord_17, e_X8_isWord_17x, e_X8_isWord_18, e_X8_isWord_21, e_X8_isWord_22, e_X8_isWord_23, e_X8_isWord_26, e_X8_isWord_26x, e_X8_isWord_27, e_X8_isWord_30, e_X8_isWord_33, e_X8_isWord_36, e_X8_isWord_37, e_X8_isWord_38, e_X8_isWord_39, e_X8_isWord_41, e_X8_isWord_42, e_X8_isWord_45, e_X8_isWord_45x, e_X8_isWord_46, e_X8_isWord_49, e_X8_isWord_49x, e_X8_isWord_50, e_X8_isWord_53, e_X8_isWord_54, e_X8_isWord_55, e_X8_isWord_56, e_X8_isWord_56x, e_X8_isWord_57, e_X8_isWord_58, e_X8_isWord_61, e_X8_isWord_64, e_X8_isWord_65, e_X8_isWord_66, e_X8_isWord_69, e_X8_isWord_72, e_X8_isWord_73, zcll_s, zpush_s, zpush_n, zinv_i, zinv_l, zinv_r, zinv_x, zcats_nil, zcats_i, zcats_l, zcats_r, zcats_x, Nat.le_refl, and_self, true_and, and_true, zok_1, zok_20, zok_21, eq_self, Nat.reduceAdd, Nat.reduceLeDiff, Nat.zero_le, if_true, if_false, zw3_id, if_pos, if_neg, zand_t, tg_1, ql, h4]
theorem w_go {e f t len : Nat} {r : Option ZV × ZS} (he : 1 ≤ e ∧ e < 8) (h4 : I 1 4 = 1) (h2 : I 1 2 = (f : Int)) (h3 : I 1 3 = (t : Int)) (hf : f + len = t) (ht : t ≤ 800) (ql : zrun X (d + 4) 175 [zx (e + 1)] (c, s, I, L, R) = some (some (zi (len : Int)), (c, s, I, L, R))) (hl : len ≤ 9) (hQ : V X (zrun X (d + 4)) mX8_isWord 40 [zr (some 1), zx (e + 1), zi (len : Int), zi 0] [] (c, s, I, L, R) (fun q => q = r)) : zrun X (d + 5) 72 [zr (some 1), zx (e + 1)] (c, s, I, L, R) = some r := by
  refine st_X8_isWord ?_
  have q2 : (t : Int) - (f : Int) = (len : Int) := by omega
  simp (disch := omega) only [e_X8_isWord_0, e_X8_isWord_0x, e_X8_isWord_1, e_X8_isWord_4, e_X8_isWord_5, e_X8_isWord_5x, e_X8_isWord_6, e_X8_isWord_9, e_X8_isWord_10, e_X8_isWord_13, e_X8_isWord_13x, e_X8_isWord_14, e_X8_isWord_17, e_X8_isWord_17x, e_X8_isWord_18, e_X8_isWord_21, e_X8_isWord_22, e_X8_isWord_23, e_X8_isWord_26, e_X8_isWord_26x, e_X8_isWord_27, e_X8_isWord_30, e_X8_isWord_33, e_X8_isWord_36, e_X8_isWord_37, e_X8_isWord_38, e_X8_isWord_39, e_X8_isWord_41, e_X8_isWord_42, e_X8_isWord_45, e_X8_isWord_45x, e_X8_isWord_46, e_X8_isWord_49, e_X8_isWord_49x, e_X8_isWord_50, e_X8_isWord_53, e_X8_isWord_54, e_X8_isWord_55, e_X8_isWord_56, e_X8_isWord_56x, e_X8_isWord_57, e_X8_isWord_58, e_X8_isWord_61, e_X8_isWord_64, e_X8_isWord_65, e_X8_isWord_66, e_X8_isWord_69, e_X8_isWord_72, e_X8_isWord_73, zcll_s, zpush_s, zpush_n, zinv_i, zinv_l, zinv_r, zinv_x, zcats_nil, zcats_i, zcats_l, zcats_r, zcats_x, Nat.le_refl, and_self, true_and, and_true, zok_1, zok_20, zok_21, eq_self, Nat.reduceAdd, Nat.reduceLeDiff, Nat.zero_le, if_true, if_false, zw3_id, if_pos, if_neg, zand_t, tg_1, ql, h4, h2, h3, q2]
  exact hQ
theorem k_isWord (hR : Rok R) (h : TpC I B n p) {e : Nat} (he : 1 ≤ e ∧ e < 8) : zrun X (d + 5) 72 [zr (some 1), zx (e + 1)] (c, s, I, L, R) = some (some (zi (@ite _ (isW B n (zstr (e - 1)).reverse p) (Classical.propDecidable _) 1 0)), (c, s, I, L, R)) := by
  obtain ⟨hT, hp, h2, h3, h4, -, -, -⟩ := h
  have h800 := hT.2.1
  have htt := @tT_g n p B hp
  have hl := str_n (e - 1) (by omega)
  have ql := k_length (X := X) (d := d + 2) (c := c) (s := s) (I := I) (L := L) (R := R) he
  by_cases q : tK B n p = 1 ∧ tT B n p - tF B n p = (zstr (e - 1)).length
  · rw [q.1] at h4
    have lp := q_isWord (X := X) (d := d) (c := c) (s := s) (L := L) hR hT he h2 (by omega) (zstr (e - 1)).length 0 (by omega) (by omega) (fun k hk => absurd hk (by omega))
    have iff : isW B n (zstr (e - 1)).reverse p ↔ ∀ k, k < (zstr (e - 1)).length → B (tF B n p + k) = (zstr (e - 1)).getD k 0 := by
      rw [← rsl_rev]
      unfold isW tN
      rw [q.2]
      exact ⟨fun z => z.2, fun z => ⟨q.1, z⟩⟩
    rw [w_go he h4 h2 h3 (by omega) (by omega) ql (by omega) lp]
    by_cases z : isW B n (zstr (e - 1)).reverse p
    · rw [if_pos z, if_pos (iff.mp z)]
    · rw [if_neg z, if_neg (fun y => z (iff.mpr y))]
  · rw [w_no he h4 h2 h3 htt.2.2 (by omega) ql (by omega) (fun z y => q ⟨z, y⟩)]
    rw [if_neg]
    intro z
    refine q ⟨z.1, ?_⟩
    have := congrArg List.length z.2
    unfold tN at this
    rw [rsl_len, List.length_reverse] at this
    exact this
end
