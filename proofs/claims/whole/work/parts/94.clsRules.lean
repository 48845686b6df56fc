/-! The class's reader: a rule, a goal, the end. -/
section
variable {X : ZX} {d c s : Nat} {I L I1 L1 I2 L2 J : ZI} {R R1 R2 : ZR} {call : ZC} {n p b t r lo hi : Nat} {x y : Int} {B : Nat → Int} {vs : List MV} {Q : Option ZV × ZS → Prop}
theorem CpC_g {p1 : Nat} (h : CpC I R B n p b vs) (hT : TpC I1 B n p1) (h1 : I1 b 1 = I b 1) (h2 : I1 b 4 = I b 4) (h3 : I1 (b + 1) = I (b + 1)) (h4 : I1 (b + 2) = I (b + 2)) (h5 : I1 (b + 5) = I (b + 5)) : CpC I1 R B n p1 b vs := by
  obtain ⟨_, k2, k3, k4, k5, k6⟩ := h
  exact ⟨hT, k2, k3, k4, CVs_c k5 h1 h2 h3 h4 h5, k6⟩
/-- readGoal -/
theorem rg_0 (hR : Rok R) (ht : (zT t).1 = 19) (q1 : call 74 [zr (some t)] (c, s, I, L, R) = some (none, (c, s, I1, L, R))) (q2 : call 68 [zr (some 1)] (c, s, I1, L, R) = some (none, (c, s, I2, L, R))) (q3 : call 33 [zr (some 3), zr (some t), zx 6, zi 38] (c, s, I2, L, R) = some (some (zi 0), (c, s, J, L, R))) (hQ : Q (some (zi 0), (c, s, J, L, R))) : V X call mX3_readGoal 0 [zr (some 3), zr (some t)] [] (c, s, I, L, R) Q := by
  simp (disch := omega) only [e_X3_readGoal_0, e_X3_readGoal_0x, e_X3_readGoal_1, e_X3_readGoal_4, e_X3_readGoal_4x, e_X3_readGoal_5, e_X3_readGoal_8, e_X3_readGoal_11, e_X3_readGoal_11x, e_X3_readGoal_12, e_X3_readGoal_12x, e_X3_readGoal_13, e_X3_readGoal_15, e_X3_readGoal_17, e_X3_readGoal_20, e_X3_readGoal_23, e_X3_readGoal_23x, e_X3_readGoal_24, e_X3_readGoal_26, e_X3_readGoal_29, e_X3_readGoal_32, e_X3_readGoal_33, e_X3_readGoal_36, e_X3_readGoal_37, zcll_s, zpush_s, zpush_n, zinv_i, zinv_l, zinv_r, zinv_x, zcats_nil, zcats_i, zcats_l, zcats_r, zcats_x, Nat.le_refl, and_self, true_and, and_true, zok_1, zok_20, zok_21, eq_self, Nat.reduceAdd, Nat.reduceLeDiff, Nat.zero_le, if_true, if_false, zw3_id, if_pos, if_neg, zand_t, tg_1, tg_3, rr_3_0 hR, ht, q1, q2, q3]
  exact hQ
theorem rg_1 (hR : Rok R) (ht : (zT t).1 = 19) {J1 : ZI} (q1 : call 74 [zr (some t)] (c, s, I, L, R) = some (none, (c, s, I1, L, R))) (q2 : call 68 [zr (some 1)] (c, s, I1, L, R) = some (none, (c, s, I2, L, R))) (q3 : call 33 [zr (some 3), zr (some t), zx 6, zi 38] (c, s, I2, L, R) = some (some (zi 1), (c, s, J, L, R))) (q4 : call 37 [zr (some 3), zi 59] (c, s, J, L, R) = some (some (zi y), (c, s, J1, L, R))) (hy : y = 0 ∨ y = 1) (hQ : Q (some (zi y), (c, s, J1, L, R))) : V X call mX3_readGoal 0 [zr (some 3), zr (some t)] [] (c, s, I, L, R) Q := by
  rcases hy with rfl | rfl
  · simp (disch := omega) only [e_X3_readGoal_0, e_X3_readGoal_0x, e_X3_readGoal_1, e_X3_readGoal_4, e_X3_readGoal_4x, e_X3_readGoal_5, e_X3_readGoal_8, e_X3_readGoal_11, e_X3_readGoal_11x, e_X3_readGoal_12, e_X3_readGoal_12x, e_X3_readGoal_13, e_X3_readGoal_15, e_X3_readGoal_17, e_X3_readGoal_20, e_X3_readGoal_23, e_X3_readGoal_23x, e_X3_readGoal_24, e_X3_readGoal_26, e_X3_readGoal_29, e_X3_readGoal_32, e_X3_readGoal_33, e_X3_readGoal_36, e_X3_readGoal_37, zcll_s, zpush_s, zpush_n, zinv_i, zinv_l, zinv_r, zinv_x, zcats_nil, zcats_i, zcats_l, zcats_r, zcats_x, Nat.le_refl, and_self, true_and, and_true, zok_1, zok_20, zok_21, eq_self, Nat.reduceAdd, Nat.reduceLeDiff, Nat.zero_le, if_true, if_false, zw3_id, if_pos, if_neg, zand_t, tg_1, tg_3, rr_3_0 hR, ht, q1, q2, q3, q4]
    exact hQ
  · simp (disch := omega) only [e_X3_readGoal_0, e_X3_readGoal_0x, e_X3_readGoal_1, e_X3_readGoal_4, e_X3_readGoal_4x, e_X3_readGoal_5, e_X3_readGoal_8, e_X3_readGoal_11, e_X3_readGoal_11x, e_X3_readGoal_12, e_X3_readGoal_12x, e_X3_readGoal_13, e_X3_readGoal_15, e_X3_readGoal_17, e_X3_readGoal_20, e_X3_readGoal_23, e_X3_readGoal_23x, e_X3_readGoal_24, e_X3_readGoal_26, e_X3_readGoal_29, e_X3_readGoal_32, e_X3_readGoal_33, e_X3_readGoal_36, e_X3_readGoal_37, zcll_s, zpush_s, zpush_n, zinv_i, zinv_l, zinv_r, zinv_x, zcats_nil, zcats_i, zcats_l, zcats_r, zcats_x, Nat.le_refl, and_self, true_and, and_true, zok_1, zok_20, zok_21, eq_self, Nat.reduceAdd, Nat.reduceLeDiff, Nat.zero_le, if_true, if_false, zw3_id, if_pos, if_neg, zand_t, tg_1, tg_3, rr_3_0 hR, ht, q1, q2, q3, q4]
    exact hQ
theorem k_readGoal (h : CpC I R B n p b vs) {i : Nat} (hi : i < 4) : ∃ y I1, zrun X (d + 8) 31 [zr (some 3), zr (some (b + 114 + 4 * i))] (c, s, I, L, R) = some (some (zi y), (c, s, I1, L, R)) ∧ FrC (b + 114 + 4 * i) (b + 118 + 4 * i) I I1 ∧ (∀ e, pGoal B n vs i p = .inl e → y = 0 ∧ ErC I1 e) ∧ ∀ z, pGoal B n vs i p = .inr z → y = 1 ∧ TpC I1 B n z.2 ∧ CTm I1 (b + 114 + 4 * i) z.1 := by
  have hT := h.1
  have hR := h.2.1
  have hb := h.2.2.2.1
  have ht : zTm (b + 114 + 4 * i) := ⟨b, hb, Or.inr ⟨i, hi, rfl⟩⟩
  have htb : b + 6 ≤ b + 114 + 4 * i := by omega
  have ht4 : b + 114 + 4 * i + 4 = b + 118 + 4 * i := by omega
  have hpg : pGoal B n vs i p = pB (pTerms B n vs 0 4 [] (tT B n p)) fun cs => pB (pSg B n 59 cs.2) fun p3 => .inr (cs.1, p3) := by
    show (if i = 4 then _ else _) = _
    rw [if_neg (by omega)]
  rw [← ht4]
  generalize b + 114 + 4 * i = t at ht htb ⊢
  have q1 := k_clearQ (X := X) (d := d + 6) (c := c) (s := s) (I := I) (L := L) (R := R) (tt_terms ht).1
  have hp1 := (@tT_g n p B hT.2.1).2.1
  have hT1 : TpC (zu I t 0 0) B n p := TpC_u hT (by omega)
  obtain ⟨I2, n1, n2, n3⟩ := k_next (X := X) (d := d + 2) (c := c) (s := s) (L := L) hR hT1.1 hp1 hT1.2.2.2.1
  have F2 : FrC t (t + 4) I I2 := FrC_t (FrC_u (by omega) (by omega) (by omega)) (FrC_x n3)
  have h2 := CpC_f h F2 htb n2
  obtain ⟨y, J, m1, m2⟩ := k_readTerms (X := X) (d := d) (c := c) (s := s) (L := L) h2 ht htb (k := 0) (Or.inl rfl) (by rw [n3.1 t (by omega), zu_s])
  have m1 : zrun X (d + 7) 33 [zr (some 3), zr (some t), zx 6, zi 38] (c, s, I2, L, R) = some (some (zi y), (c, s, J, L, R)) := m1
  obtain ⟨m2, m3, m4⟩ := m2
  cases hts : pTerms B n vs 0 4 [] (tT B n p) with
  | inl e =>
    obtain ⟨w1, w2⟩ := m3 e hts
    rw [w1] at m1
    rw [pb_l hts] at hpg
    refine ⟨0, J, st_X3_readGoal (rg_0 hR (tt_terms ht).1 q1 n1 m1 rfl), FrC_t F2 m2, fun e' he => ⟨rfl, ?_⟩, fun z hz => ?_⟩
    · rw [hpg] at he; rw [← Sum.inl.inj he]; exact w2
    · rw [hpg] at hz; cases hz
  | inr z =>
    obtain ⟨w1, w2, w3⟩ := m4 z hts
    rw [w1] at m1
    rw [pb_r hts] at hpg
    obtain ⟨ya, J1, v1, v2, v3, v4⟩ := k_passes (X := X) (d := d + 1) (c := c) (s := s) (L := L) (lo := t) (hi := t) hR w2 (ch := 59) (Or.inr (by unfold isSg; omega))
    refine ⟨ya, J1, st_X3_readGoal (rg_1 hR (tt_terms ht).1 q1 n1 m1 v1 (pS_01 v3 v4) rfl), FrC_t F2 (FrC_t m2 (FrC_w v2 (by omega) (by omega))), fun e' he => ?_, fun z' hz => ?_⟩
    · rw [hpg] at he
      cases hs : pSg B n 59 z.2 with
      | inl e2 => rw [hs] at he; rw [← Sum.inl.inj he]; exact v3 e2 hs
      | inr p3 => rw [hs] at he; cases he
    · rw [hpg] at hz
      cases hs : pSg B n 59 z.2 with
      | inl e2 => rw [hs] at hz; cases hz
      | inr p3 =>
        rw [hs] at hz
        rw [← Sum.inr.inj hz]
        obtain ⟨x1, x2⟩ := v4 p3 hs
        exact ⟨x1, x2, CTm_c (fun a a1 a2 => FrC_b v2 (by omega) (by omega)) w3⟩
/-- readRule -/
theorem ru_a (hR : Rok R) (h31 : R 3 1 = some b) (hb : (zT b).1 = 11) (hr : (zT r).1 = 15) {lt : Int} (q1 : call 47 [zr (some r)] (c, s, I, L, R) = some (none, (c, s, I1, L, R))) (q2 : call 68 [zr (some 1)] (c, s, I1, L, R) = some (none, (c, s, I2, L, R))) (h0 : I2 b 0 = lt) (q3 : call 36 [zr (some 3), zi 1, zi lt] (c, s, I2, L, R) = some (some (zi 0), (c, s, J, L, R))) (hQ : Q (some (zi 0), (c, s, J, L, R))) : V X call mX3_readRule 0 [zr (some 3), zr (some r)] [] (c, s, I, L, R) Q := by
  simp (disch := omega) only [e_X3_readRule_0, e_X3_readRule_0x, e_X3_readRule_1, e_X3_readRule_4, e_X3_readRule_4x, e_X3_readRule_5, e_X3_readRule_8, e_X3_readRule_11, e_X3_readRule_11x, e_X3_readRule_12, e_X3_readRule_13, e_X3_readRule_13x, e_X3_readRule_14, e_X3_readRule_17, e_X3_readRule_20, e_X3_readRule_23, e_X3_readRule_26, e_X3_readRule_27, e_X3_readRule_28, e_X3_readRule_28x, e_X3_readRule_29, e_X3_readRule_29x, e_X3_readRule_30, e_X3_readRule_33, e_X3_readRule_36, e_X3_readRule_39, e_X3_readRule_39x, e_X3_readRule_40, e_X3_readRule_43, e_X3_readRule_46, e_X3_readRule_46x, e_X3_readRule_47, e_X3_readRule_49, e_X3_readRule_52, e_X3_readRule_55, e_X3_readRule_56, e_X3_readRule_57, e_X3_readRule_57x, e_X3_readRule_58, e_X3_readRule_61, e_X3_readRule_63, e_X3_readRule_66, e_X3_readRule_69, e_X3_readRule_69x, e_X3_readRule_70, e_X3_readRule_70x, e_X3_readRule_71, e_X3_readRule_74, e_X3_readRule_76, e_X3_readRule_78, e_X3_readRule_81, e_X3_readRule_84, e_X3_readRule_85, e_X3_readRule_87, e_X3_readRule_89, e_X3_readRule_92, e_X3_readRule_95, e_X3_readRule_95x, e_X3_readRule_96, e_X3_readRule_96x, e_X3_readRule_97, e_X3_readRule_100, e_X3_readRule_102, e_X3_readRule_104, e_X3_readRule_107, e_X3_readRule_110, e_X3_readRule_110x, e_X3_readRule_111, e_X3_readRule_113, e_X3_readRule_116, e_X3_readRule_119, e_X3_readRule_120, e_X3_readRule_123, e_X3_readRule_124, zcll_s, zpush_s, zpush_n, zinv_i, zinv_l, zinv_r, zinv_x, zcats_nil, zcats_i, zcats_l, zcats_r, zcats_x, Nat.le_refl, and_self, true_and, and_true, zok_1, zok_20, zok_21, eq_self, Nat.reduceAdd, Nat.reduceLeDiff, Nat.zero_le, if_true, if_false, zw3_id, if_pos, if_neg, zand_t, tg_1, tg_3, rr_3_0 hR, h31, hb, hr, q1, q2, h0, q3]
  exact hQ
theorem ru_b (hR : Rok R) (h31 : R 3 1 = some b) (hb : (zT b).1 = 11) (hr : (zT r).1 = 15) {lt nu : Int} {I3 : ZI} (q1 : call 47 [zr (some r)] (c, s, I, L, R) = some (none, (c, s, I1, L, R))) (q2 : call 68 [zr (some 1)] (c, s, I1, L, R) = some (none, (c, s, I2, L, R))) (h0 : I2 b 0 = lt) (q3 : call 36 [zr (some 3), zi 1, zi lt] (c, s, I2, L, R) = some (some (zi 1), (c, s, I2, L, R))) (h6 : I2 1 6 = nu) (q4 : call 68 [zr (some 1)] (c, s, zu I2 r 0 nu, L, R) = some (none, (c, s, I3, L, R))) (q5 : call 37 [zr (some 3), zi 58] (c, s, I3, L, R) = some (some (zi 0), (c, s, J, L, R))) (hQ : Q (some (zi 0), (c, s, J, L, R))) : V X call mX3_readRule 0 [zr (some 3), zr (some r)] [] (c, s, I, L, R) Q := by
  simp (disch := omega) only [e_X3_readRule_0, e_X3_readRule_0x, e_X3_readRule_1, e_X3_readRule_4, e_X3_readRule_4x, e_X3_readRule_5, e_X3_readRule_8, e_X3_readRule_11, e_X3_readRule_11x, e_X3_readRule_12, e_X3_readRule_13, e_X3_readRule_13x, e_X3_readRule_14, e_X3_readRule_17, e_X3_readRule_20, e_X3_readRule_23, e_X3_readRule_26, e_X3_readRule_27, e_X3_readRule_28, e_X3_readRule_28x, e_X3_readRule_29, e_X3_readRule_29x, e_X3_readRule_30, e_X3_readRule_33, e_X3_readRule_36, e_X3_readRule_39, e_X3_readRule_39x, e_X3_readRule_40, e_X3_readRule_43, e_X3_readRule_46, e_X3_readRule_46x, e_X3_readRule_47, e_X3_readRule_49, e_X3_readRule_52, e_X3_readRule_55, e_X3_readRule_56, e_X3_readRule_57, e_X3_readRule_57x, e_X3_readRule_58, e_X3_readRule_61, e_X3_readRule_63, e_X3_readRule_66, e_X3_readRule_69, e_X3_readRule_69x, e_X3_readRule_70, e_X3_readRule_70x, e_X3_readRule_71, e_X3_readRule_74, e_X3_readRule_76, e_X3_readRule_78, e_X3_readRule_81, e_X3_readRule_84, e_X3_readRule_85, e_X3_readRule_87, e_X3_readRule_89, e_X3_readRule_92, e_X3_readRule_95, e_X3_readRule_95x, e_X3_readRule_96, e_X3_readRule_96x, e_X3_readRule_97, e_X3_readRule_100, e_X3_readRule_102, e_X3_readRule_104, e_X3_readRule_107, e_X3_readRule_110, e_X3_readRule_110x, e_X3_readRule_111, e_X3_readRule_113, e_X3_readRule_116, e_X3_readRule_119, e_X3_readRule_120, e_X3_readRule_123, e_X3_readRule_124, zcll_s, zpush_s, zpush_n, zinv_i, zinv_l, zinv_r, zinv_x, zcats_nil, zcats_i, zcats_l, zcats_r, zcats_x, Nat.le_refl, and_self, true_and, and_true, zok_1, zok_20, zok_21, eq_self, Nat.reduceAdd, Nat.reduceLeDiff, Nat.zero_le, if_true, if_false, zw3_id, if_pos, if_neg, zand_t, tg_1, tg_3, rr_3_0 hR, h31, hb, hr, q1, q2, h0, q3, h6, q4, q5]
  exact hQ
theorem ru_c (hR : Rok R) (h31 : R 3 1 = some b) (hb : (zT b).1 = 11) (hr : (zT r).1 = 15) {lt nu : Int} {I3 : ZI} (q1 : call 47 [zr (some r)] (c, s, I, L, R) = some (none, (c, s, I1, L, R))) (q2 : call 68 [zr (some 1)] (c, s, I1, L, R) = some (none, (c, s, I2, L, R))) (h0 : I2 b 0 = lt) (q3 : call 36 [zr (some 3), zi 1, zi lt] (c, s, I2, L, R) = some (some (zi 1), (c, s, I2, L, R))) (h6 : I2 1 6 = nu) (q4 : call 68 [zr (some 1)] (c, s, zu I2 r 0 nu, L, R) = some (none, (c, s, I3, L, R))) (q5 : call 37 [zr (some 3), zi 58] (c, s, I3, L, R) = some (some (zi 1), (c, s, J, L, R))) (q6 : call 71 [zr (some 1), zi 65] (c, s, J, L, R) = some (some (zi 1), (c, s, J, L, R))) (hQ : V X call mX3_readRule 86 [zr (some 3), zr (some r)] [] (c, s, J, L, R) Q) : V X call mX3_readRule 0 [zr (some 3), zr (some r)] [] (c, s, I, L, R) Q := by
  simp (disch := omega) only [e_X3_readRule_0, e_X3_readRule_0x, e_X3_readRule_1, e_X3_readRule_4, e_X3_readRule_4x, e_X3_readRule_5, e_X3_readRule_8, e_X3_readRule_11, e_X3_readRule_11x, e_X3_readRule_12, e_X3_readRule_13, e_X3_readRule_13x, e_X3_readRule_14, e_X3_readRule_17, e_X3_readRule_20, e_X3_readRule_23, e_X3_readRule_26, e_X3_readRule_27, e_X3_readRule_28, e_X3_readRule_28x, e_X3_readRule_29, e_X3_readRule_29x, e_X3_readRule_30, e_X3_readRule_33, e_X3_readRule_36, e_X3_readRule_39, e_X3_readRule_39x, e_X3_readRule_40, e_X3_readRule_43, e_X3_readRule_46, e_X3_readRule_46x, e_X3_readRule_47, e_X3_readRule_49, e_X3_readRule_52, e_X3_readRule_55, e_X3_readRule_56, e_X3_readRule_57, e_X3_readRule_57x, e_X3_readRule_58, e_X3_readRule_61, e_X3_readRule_63, e_X3_readRule_66, e_X3_readRule_69, e_X3_readRule_69x, e_X3_readRule_70, e_X3_readRule_70x, e_X3_readRule_71, e_X3_readRule_74, e_X3_readRule_76, e_X3_readRule_78, e_X3_readRule_81, e_X3_readRule_84, e_X3_readRule_85, e_X3_readRule_87, e_X3_readRule_89, e_X3_readRule_92, e_X3_readRule_95, e_X3_readRule_95x, e_X3_readRule_96, e_X3_readRule_96x, e_X3_readRule_97, e_X3_readRule_100, e_X3_readRule_102, e_X3_readRule_104, e_X3_readRule_107, e_X3_readRule_110, e_X3_readRule_110x, e_X3_readRule_111, e_X3_readRule_113, e_X3_readRule_116, e_X3_readRule_119, e_X3_readRule_120, e_X3_readRule_123, e_X3_readRule_124, zcll_s, zpush_s, zpush_n, zinv_i, zinv_l, zinv_r, zinv_x, zcats_nil, zcats_i, zcats_l, zcats_r, zcats_x, Nat.le_refl, and_self, true_and, and_true, zok_1, zok_20, zok_21, eq_self, Nat.reduceAdd, Nat.reduceLeDiff, Nat.zero_le, if_true, if_false, zw3_id, if_pos, if_neg, zand_t, tg_1, tg_3, rr_3_0 hR, h31, hb, hr, q1, q2, h0, q3, h6, q4, q5, q6]
  exact hQ
theorem ru_d (hR : Rok R) (h31 : R 3 1 = some b) (hb : (zT b).1 = 11) (hr : (zT r).1 = 15) (hr1 : R r 1 = some (r + 1)) {lt nu : Int} {I3 J1 : ZI} (q1 : call 47 [zr (some r)] (c, s, I, L, R) = some (none, (c, s, I1, L, R))) (q2 : call 68 [zr (some 1)] (c, s, I1, L, R) = some (none, (c, s, I2, L, R))) (h0 : I2 b 0 = lt) (q3 : call 36 [zr (some 3), zi 1, zi lt] (c, s, I2, L, R) = some (some (zi 1), (c, s, I2, L, R))) (h6 : I2 1 6 = nu) (q4 : call 68 [zr (some 1)] (c, s, zu I2 r 0 nu, L, R) = some (none, (c, s, I3, L, R))) (q5 : call 37 [zr (some 3), zi 58] (c, s, I3, L, R) = some (some (zi 1), (c, s, J, L, R))) (q6 : call 71 [zr (some 1), zi 65] (c, s, J, L, R) = some (some (zi 0), (c, s, J, L, R))) (q7 : call 33 [zr (some 3), zr (some (r + 1)), zx 6, zi 38] (c, s, J, L, R) = some (some (zi 0), (c, s, J1, L, R))) (hQ : Q (some (zi 0), (c, s, J1, L, R))) : V X call mX3_readRule 0 [zr (some 3), zr (some r)] [] (c, s, I, L, R) Q := by
  simp (disch := omega) only [e_X3_readRule_0, e_X3_readRule_0x, e_X3_readRule_1, e_X3_readRule_4, e_X3_readRule_4x, e_X3_readRule_5, e_X3_readRule_8, e_X3_readRule_11, e_X3_readRule_11x, e_X3_readRule_12, e_X3_readRule_13, e_X3_readRule_13x, e_X3_readRule_14, e_X3_readRule_17, e_X3_readRule_20, e_X3_readRule_23, e_X3_readRule_26, e_X3_readRule_27, e_X3_readRule_28, e_X3_readRule_28x, e_X3_readRule_29, e_X3_readRule_29x, e_X3_readRule_30, e_X3_readRule_33, e_X3_readRule_36, e_X3_readRule_39, e_X3_readRule_39x, e_X3_readRule_40, e_X3_readRule_43, e_X3_readRule_46, e_X3_readRule_46x, e_X3_readRule_47, e_X3_readRule_49, e_X3_readRule_52, e_X3_readRule_55, e_X3_readRule_56, e_X3_readRule_57, e_X3_readRule_57x, e_X3_readRule_58, e_X3_readRule_61, e_X3_readRule_63, e_X3_readRule_66, e_X3_readRule_69, e_X3_readRule_69x, e_X3_readRule_70, e_X3_readRule_70x, e_X3_readRule_71, e_X3_readRule_74, e_X3_readRule_76, e_X3_readRule_78, e_X3_readRule_81, e_X3_readRule_84, e_X3_readRule_85, e_X3_readRule_87, e_X3_readRule_89, e_X3_readRule_92, e_X3_readRule_95, e_X3_readRule_95x, e_X3_readRule_96, e_X3_readRule_96x, e_X3_readRule_97, e_X3_readRule_100, e_X3_readRule_102, e_X3_readRule_104, e_X3_readRule_107, e_X3_readRule_110, e_X3_readRule_110x, e_X3_readRule_111, e_X3_readRule_113, e_X3_readRule_116, e_X3_readRule_119, e_X3_readRule_120, e_X3_readRule_123, e_X3_readRule_124, zcll_s, zpush_s, zpush_n, zinv_i, zinv_l, zinv_r, zinv_x, zcats_nil, zcats_i, zcats_l, zcats_r, zcats_x, Nat.le_refl, and_self, true_and, and_true, zok_1, zok_20, zok_21, eq_self, Nat.reduceAdd, Nat.reduceLeDiff, Nat.zero_le, if_true, if_false, zw3_id, if_pos, if_neg, zand_t, tg_1, tg_3, rr_3_0 hR, h31, hb, hr, hr1, q1, q2, h0, q3, h6, q4, q5, q6, q7]
  exact hQ
theorem ru_e (hR : Rok R) (h31 : R 3 1 = some b) (hb : (zT b).1 = 11) (hr : (zT r).1 = 15) (hr1 : R r 1 = some (r + 1)) {lt nu : Int} {I3 J1 : ZI} (q1 : call 47 [zr (some r)] (c, s, I, L, R) = some (none, (c, s, I1, L, R))) (q2 : call 68 [zr (some 1)] (c, s, I1, L, R) = some (none, (c, s, I2, L, R))) (h0 : I2 b 0 = lt) (q3 : call 36 [zr (some 3), zi 1, zi lt] (c, s, I2, L, R) = some (some (zi 1), (c, s, I2, L, R))) (h6 : I2 1 6 = nu) (q4 : call 68 [zr (some 1)] (c, s, zu I2 r 0 nu, L, R) = some (none, (c, s, I3, L, R))) (q5 : call 37 [zr (some 3), zi 58] (c, s, I3, L, R) = some (some (zi 1), (c, s, J, L, R))) (q6 : call 71 [zr (some 1), zi 65] (c, s, J, L, R) = some (some (zi 0), (c, s, J, L, R))) (q7 : call 33 [zr (some 3), zr (some (r + 1)), zx 6, zi 38] (c, s, J, L, R) = some (some (zi 1), (c, s, J1, L, R))) (hQ : V X call mX3_readRule 86 [zr (some 3), zr (some r)] [] (c, s, J1, L, R) Q) : V X call mX3_readRule 0 [zr (some 3), zr (some r)] [] (c, s, I, L, R) Q := by
  simp (disch := omega) only [e_X3_readRule_0, e_X3_readRule_0x, e_X3_readRule_1, e_X3_readRule_4, e_X3_readRule_4x, e_X3_readRule_5, e_X3_readRule_8, e_X3_readRule_11, e_X3_readRule_11x, e_X3_readRule_12, e_X3_readRule_13, e_X3_readRule_13x, e_X3_readRule_14, e_X3_readRule_17, e_X3_readRule_20, e_X3_readRule_23, e_X3_readRule_26, e_X3_readRule_27, e_X3_readRule_28, e_X3_readRule_28x, e_X3_readRule_29, e_X3_readRule_29x, e_X3_readRule_30, e_X3_readRule_33, e_X3_readRule_36, e_X3_readRule_39, e_X3_readRule_39x, e_X3_readRule_40, e_X3_readRule_43, e_X3_readRule_46, e_X3_readRule_46x, e_X3_readRule_47, e_X3_readRule_49, e_X3_readRule_52, e_X3_readRule_55, e_X3_readRule_56, e_X3_readRule_57, e_X3_readRule_57x, e_X3_readRule_58, e_X3_readRule_61, e_X3_readRule_63, e_X3_readRule_66, e_X3_readRule_69, e_X3_readRule_69x, e_X3_readRule_70, e_X3_readRule_70x, e_X3_readRule_71, e_X3_readRule_74, e_X3_readRule_76, e_X3_readRule_78, e_X3_readRule_81, e_X3_readRule_84, e_X3_readRule_85, e_X3_readRule_87, e_X3_readRule_89, e_X3_readRule_92, e_X3_readRule_95, e_X3_readRule_95x, e_X3_readRule_96, e_X3_readRule_96x, e_X3_readRule_97, e_X3_readRule_100, e_X3_readRule_102, e_X3_readRule_104, e_X3_readRule_107, e_X3_readRule_110, e_X3_readRule_110x, e_X3_readRule_111, e_X3_readRule_113, e_X3_readRule_116, e_X3_readRule_119, e_X3_readRule_120, e_X3_readRule_123, e_X3_readRule_124, zcll_s, zpush_s, zpush_n, zinv_i, zinv_l, zinv_r, zinv_x, zcats_nil, zcats_i, zcats_l, zcats_r, zcats_x, Nat.le_refl, and_self, true_and, and_true, zok_1, zok_20, zok_21, eq_self, Nat.reduceAdd, Nat.reduceLeDiff, Nat.zero_le, if_true, if_false, zw3_id, if_pos, if_neg, zand_t, tg_1, tg_3, rr_3_0 hR, h31, hb, hr, hr1, q1, q2, h0, q3, h6, q4, q5, q6, q7]
  exact hQ
theorem ru_f (hR : Rok R) (q1 : call 37 [zr (some 3), zi 65] (c, s, I, L, R) = some (some (zi 0), (c, s, I1, L, R))) (hQ : Q (some (zi 0), (c, s, I1, L, R))) : V X call mX3_readRule 86 [zr (some 3), zr (some r)] [] (c, s, I, L, R) Q := by
  rw [e_X3_readRule_86]
  simp (disch := omega) only [e_X3_readRule_0, e_X3_readRule_0x, e_X3_readRule_1, e_X3_readRule_4, e_X3_readRule_4x, e_X3_readRule_5, e_X3_readRule_8, e_X3_readRule_11, e_X3_readRule_11x, e_X3_readRule_12, e_X3_readRule_13, e_X3_readRule_13x, e_X3_readRule_14, e_X3_readRule_17, e_X3_readRule_20, e_X3_readRule_23, e_X3_readRule_26, e_X3_readRule_27, e_X3_readRule_28, e_X3_readRule_28x, e_X3_readRule_29, e_X3_readRule_29x, e_X3_readRule_30, e_X3_readRule_33, e_X3_readRule_36, e_X3_readRule_39, e_X3_readRule_39x, e_X3_readRule_40, e_X3_readRule_43, e_X3_readRule_46, e_X3_readRule_46x, e_X3_readRule_47, e_X3_readRule_49, e_X3_readRule_52, e_X3_readRule_55, e_X3_readRule_56, e_X3_readRule_57, e_X3_readRule_57x, e_X3_readRule_58, e_X3_readRule_61, e_X3_readRule_63, e_X3_readRule_66, e_X3_readRule_69, e_X3_readRule_69x, e_X3_readRule_70, e_X3_readRule_70x, e_X3_readRule_71, e_X3_readRule_74, e_X3_readRule_76, e_X3_readRule_78, e_X3_readRule_81, e_X3_readRule_84, e_X3_readRule_85, e_X3_readRule_87, e_X3_readRule_89, e_X3_readRule_92, e_X3_readRule_95, e_X3_readRule_95x, e_X3_readRule_96, e_X3_readRule_96x, e_X3_readRule_97, e_X3_readRule_100, e_X3_readRule_102, e_X3_readRule_104, e_X3_readRule_107, e_X3_readRule_110, e_X3_readRule_110x, e_X3_readRule_111, e_X3_readRule_113, e_X3_readRule_116, e_X3_readRule_119, e_X3_readRule_120, e_X3_readRule_123, e_X3_readRule_124, zcll_s, zpush_s, zpush_n, zinv_i, zinv_l, zinv_r, zinv_x, zcats_nil, zcats_i, zcats_l, zcats_r, zcats_x, Nat.le_refl, and_self, true_and, and_true, zok_1, zok_20, zok_21, eq_self, Nat.reduceAdd, Nat.reduceLeDiff, Nat.zero_le, if_true, if_false, zw3_id, if_pos, if_neg, zand_t, tg_3, q1]
  exact hQ
theorem ru_g (hR : Rok R) (hr : (zT r).1 = 15) (hr2 : R r 2 = some (r + 5)) (q1 : call 37 [zr (some 3), zi 65] (c, s, I, L, R) = some (some (zi 1), (c, s, I1, L, R))) (q2 : call 33 [zr (some 3), zr (some (r + 5)), zx 7, zi 44] (c, s, I1, L, R) = some (some (zi 0), (c, s, I2, L, R))) (hQ : Q (some (zi 0), (c, s, I2, L, R))) : V X call mX3_readRule 86 [zr (some 3), zr (some r)] [] (c, s, I, L, R) Q := by
  rw [e_X3_readRule_86]
  simp (disch := omega) only [e_X3_readRule_0, e_X3_readRule_0x, e_X3_readRule_1, e_X3_readRule_4, e_X3_readRule_4x, e_X3_readRule_5, e_X3_readRule_8, e_X3_readRule_11, e_X3_readRule_11x, e_X3_readRule_12, e_X3_readRule_13, e_X3_readRule_13x, e_X3_readRule_14, e_X3_readRule_17, e_X3_readRule_20, e_X3_readRule_23, e_X3_readRule_26, e_X3_readRule_27, e_X3_readRule_28, e_X3_readRule_28x, e_X3_readRule_29, e_X3_readRule_29x, e_X3_readRule_30, e_X3_readRule_33, e_X3_readRule_36, e_X3_readRule_39, e_X3_readRule_39x, e_X3_readRule_40, e_X3_readRule_43, e_X3_readRule_46, e_X3_readRule_46x, e_X3_readRule_47, e_X3_readRule_49, e_X3_readRule_52, e_X3_readRule_55, e_X3_readRule_56, e_X3_readRule_57, e_X3_readRule_57x, e_X3_readRule_58, e_X3_readRule_61, e_X3_readRule_63, e_X3_readRule_66, e_X3_readRule_69, e_X3_readRule_69x, e_X3_readRule_70, e_X3_readRule_70x, e_X3_readRule_71, e_X3_readRule_74, e_X3_readRule_76, e_X3_readRule_78, e_X3_readRule_81, e_X3_readRule_84, e_X3_readRule_85, e_X3_readRule_87, e_X3_readRule_89, e_X3_readRule_92, e_X3_readRule_95, e_X3_readRule_95x, e_X3_readRule_96, e_X3_readRule_96x, e_X3_readRule_97, e_X3_readRule_100, e_X3_readRule_102, e_X3_readRule_104, e_X3_readRule_107, e_X3_readRule_110, e_X3_readRule_110x, e_X3_readRule_111, e_X3_readRule_113, e_X3_readRule_116, e_X3_readRule_119, e_X3_readRule_120, e_X3_readRule_123, e_X3_readRule_124, zcll_s, zpush_s, zpush_n, zinv_i, zinv_l, zinv_r, zinv_x, zcats_nil, zcats_i, zcats_l, zcats_r, zcats_x, Nat.le_refl, and_self, true_and, and_true, zok_1, zok_20, zok_21, eq_self, Nat.reduceAdd, Nat.reduceLeDiff, Nat.zero_le, if_true, if_false, zw3_id, if_pos, if_neg, zand_t, tg_3, hr, hr2, q1, q2]
  exact hQ
theorem ru_h (hR : Rok R) (hr : (zT r).1 = 15) (hr2 : R r 2 = some (r + 5)) (q1 : call 37 [zr (some 3), zi 65] (c, s, I, L, R) = some (some (zi 1), (c, s, I1, L, R))) (q2 : call 33 [zr (some 3), zr (some (r + 5)), zx 7, zi 44] (c, s, I1, L, R) = some (some (zi 1), (c, s, I2, L, R))) (q3 : call 37 [zr (some 3), zi 59] (c, s, I2, L, R) = some (some (zi y), (c, s, J, L, R))) (hy : y = 0 ∨ y = 1) (hQ : Q (some (zi y), (c, s, J, L, R))) : V X call mX3_readRule 86 [zr (some 3), zr (some r)] [] (c, s, I, L, R) Q := by
  rw [e_X3_readRule_86]
  rcases hy with rfl | rfl
  · simp (disch := omega) only [e_X3_readRule_0, e_X3_readRule_0x, e_X3_readRule_1, e_X3_readRule_4, e_X3_readRule_4x, e_X3_readRule_5, e_X3_readRule_8, e_X3_readRule_11, e_X3_readRule_11x, e_X3_readRule_12, e_X3_readRule_13, e_X3_readRule_13x, e_X3_readRule_14, e_X3_readRule_17, e_X3_readRule_20, e_X3_readRule_23, e_X3_readRule_26, e_X3_readRule_27, e_X3_readRule_28, e_X3_readRule_28x, e_X3_readRule_29, e_X3_readRule_29x, e_X3_readRule_30, e_X3_readRule_33, e_X3_readRule_36, e_X3_readRule_39, e_X3_readRule_39x, e_X3_readRule_40, e_X3_readRule_43, e_X3_readRule_46, e_X3_readRule_46x, e_X3_readRule_47, e_X3_readRule_49, e_X3_readRule_52, e_X3_readRule_55, e_X3_readRule_56, e_X3_readRule_57, e_X3_readRule_57x, e_X3_readRule_58, e_X3_readRule_61, e_X3_readRule_63, e_X3_readRule_66, e_X3_readRule_69, e_X3_readRule_69x, e_X3_readRule_70, e_X3_readRule_70x, e_X3_readRule_71, e_X3_readRule_74, e_X3_readRule_76, e_X3_readRule_78, e_X3_readRule_81, e_X3_readRule_84, e_X3_readRule_85, e_X3_readRule_87, e_X3_readRule_89, e_X3_readRule_92, e_X3_readRule_95, e_X3_readRule_95x, e_X3_readRule_96, e_X3_readRule_96x, e_X3_readRule_97, e_X3_readRule_100, e_X3_readRule_102, e_X3_readRule_104, e_X3_readRule_107, e_X3_readRule_110, e_X3_readRule_110x, e_X3_readRule_111, e_X3_readRule_113, e_X3_readRule_116, e_X3_readRule_119, e_X3_readRule_120, e_X3_readRule_123, e_X3_readRule_124, zcll_s, zpush_s, zpush_n, zinv_i, zinv_l, zinv_r, zinv_x, zcats_nil, zcats_i, zcats_l, zcats_r, zcats_x, Nat.le_refl, and_self, true_and, and_true, zok_1, zok_20, zok_21, eq_self, Nat.reduceAdd, Nat.reduceLeDiff, Nat.zero_le, if_true, if_false, zw3_id, if_pos, if_neg, zand_t, tg_3, hr, hr2, q1, q2, q3]
    exact hQ
  · simp (disch := omega) only [e_X3_readRule_0, e_X3_readRule_0x, e_X3_readRule_1, e_X3_readRule_4, e_X3_readRule_4x, e_X3_readRule_5, e_X3_readRule_8, e_X3_readRule_11, e_X3_readRule_11x, e_X3_readRule_12, e_X3_readRule_13, e_X3_readRule_13x, e_X3_readRule_14, e_X3_readRule_17, e_X3_readRule_20, e_X3_readRule_23, e_X3_readRule_26, e_X3_readRule_27, e_X3_readRule_28, e_X3_readRule_28x, e_X3_readRule_29, e_X3_readRule_29x, e_X3_readRule_30, e_X3_readRule_33, e_X3_readRule_36, e_X3_readRule_39, e_X3_readRule_39x, e_X3_readRule_40, e_X3_readRule_43, e_X3_readRule_46, e_X3_readRule_46x, e_X3_readRule_47, e_X3_readRule_49, e_X3_readRule_52, e_X3_readRule_55, e_X3_readRule_56, e_X3_readRule_57, e_X3_readRule_57x, e_X3_readRule_58, e_X3_readRule_61, e_X3_readRule_63, e_X3_readRule_66, e_X3_readRule_69, e_X3_readRule_69x, e_X3_readRule_70, e_X3_readRule_70x, e_X3_readRule_71, e_X3_readRule_74, e_X3_readRule_76, e_X3_readRule_78, e_X3_readRule_81, e_X3_readRule_84, e_X3_readRule_85, e_X3_readRule_87, e_X3_readRule_89, e_X3_readRule_92, e_X3_readRule_95, e_X3_readRule_95x, e_X3_readRule_96, e_X3_readRule_96x, e_X3_readRule_97, e_X3_readRule_100, e_X3_readRule_102, e_X3_readRule_104, e_X3_readRule_107, e_X3_readRule_110, e_X3_readRule_110x, e_X3_readRule_111, e_X3_readRule_113, e_X3_readRule_116, e_X3_readRule_119, e_X3_readRule_120, e_X3_readRule_123, e_X3_readRule_124, zcll_s, zpush_s, zpush_n, zinv_i, zinv_l, zinv_r, zinv_x, zcats_nil, zcats_i, zcats_l, zcats_r, zcats_x, Nat.le_refl, and_self, true_and, and_true, zok_1, zok_20, zok_21, eq_self, Nat.reduceAdd, Nat.reduceLeDiff, Nat.zero_le, if_true, if_false, zw3_id, if_pos, if_neg, zand_t, tg_3, hr, hr2, q1, q2, q3]
    exact hQ
def RuO (I0 : ZI) (r : Nat) (B : Nat → Int) (n : Nat) (o : PE ⊕ (MR × Nat)) (y : Int) (I1 : ZI) : Prop := FrC r (r + 9) I0 I1 ∧ (∀ e, o = .inl e → y = 0 ∧ ErC I1 e) ∧ ∀ z, o = .inr z → y = 1 ∧ TpC I1 B n z.2 ∧ I1 r 0 = z.1.1 ∧ CTm I1 (r + 1) z.1.2.1 ∧ CTm I1 (r + 5) z.1.2.2
/-- from the arrow on -/
theorem ru_86 (h : CpC I R B n p b vs) (hrb : b + 6 ≤ r) (hr : (zT r).1 = 15) (hr2 : R r 2 = some (r + 5)) (ht : zTm (r + 5)) {I0 : ZI} (hF : FrC r (r + 9) I0 I) {w : Int} {cs : List TT} (h0 : I r 0 = w) (h1 : CTm I (r + 1) cs) (h5 : I (r + 5) 0 = 0) {o : PE ⊕ (MR × Nat)} (ho : o = pB (pSg B n 256 p) fun p5 => pB (pTerms B n vs 1 4 [] p5) fun es => pB (pSg B n 59 es.2) fun p7 => .inr ((w, cs, es.1), p7)) (hQ : ∀ y J, RuO I0 r B n o y J → Q (some (zi y), (c, s, J, L, R))) : V X (zrun X (d + 7)) mX3_readRule 86 [zr (some 3), zr (some r)] [] (c, s, I, L, R) Q := by
  have hT := h.1
  have hR := h.2.1
  have hb := h.2.2.2.1
  obtain ⟨y1, I1, a1, a2, a3, a4⟩ := k_passes (X := X) (d := d + 1) (c := c) (s := s) (L := L) (lo := r) (hi := r) hR hT (ch := 256) (Or.inl rfl)
  have a1 : zrun X (d + 7) 37 [zr (some 3), zi 65] (c, s, I, L, R) = some (some (zi y1), (c, s, I1, L, R)) := a1
  cases hs : pSg B n 256 p with
  | inl e =>
    obtain ⟨w1, w2⟩ := a3 e hs
    rw [w1] at a1
    rw [pb_l hs] at ho
    subst ho
    refine ru_f hR a1 (hQ 0 I1 ⟨FrC_t hF (FrC_w a2 (by omega) (by omega)), fun e' he => ⟨rfl, ?_⟩, fun z hz => (by cases hz)⟩)
    rw [← Sum.inl.inj he]
    exact w2
  | inr p5 =>
    obtain ⟨w1, w2⟩ := a4 p5 hs
    rw [w1] at a1
    rw [pb_r hs] at ho
    have h2 := CpC_f h a2 hrb w2
    obtain ⟨y2, I2, m1, m2, m3, m4⟩ := k_readTerms (X := X) (d := d) (c := c) (s := s) (L := L) h2 ht (by omega) (k := 1) (Or.inr rfl) (by rw [FrC_b a2 (by omega) (by omega)]; exact h5)
    have m1 : zrun X (d + 7) 33 [zr (some 3), zr (some (r + 5)), zx 7, zi 44] (c, s, I1, L, R) = some (some (zi y2), (c, s, I2, L, R)) := m1
    have F2 : FrC r (r + 9) I0 I2 := FrC_t hF (FrC_t (FrC_w a2 (by omega) (by omega)) (FrC_w m2 (by omega) (by omega)))
    cases hts : pTerms B n vs 1 4 [] p5 with
    | inl e =>
      obtain ⟨x1, x2⟩ := m3 e hts
      rw [x1] at m1
      rw [pb_l hts] at ho
      subst ho
      refine ru_g hR hr hr2 a1 m1 (hQ 0 I2 ⟨F2, fun e' he => ⟨rfl, ?_⟩, fun z hz => (by cases hz)⟩)
      rw [← Sum.inl.inj he]
      exact x2
    | inr es =>
      obtain ⟨x1, x2, x3⟩ := m4 es hts
      rw [x1] at m1
      rw [pb_r hts] at ho
      obtain ⟨y3, J, v1, v2, v3, v4⟩ := k_passes (X := X) (d := d + 1) (c := c) (s := s) (L := L) (lo := r) (hi := r) hR x2 (ch := 59) (Or.inr (by unfold isSg; omega))
      refine ru_h hR hr hr2 a1 m1 v1 (pS_01 v3 v4) (hQ y3 J ⟨FrC_t F2 (FrC_w v2 (by omega) (by omega)), fun e' he => ?_, fun z hz => ?_⟩)
      · rw [ho] at he
        cases hs : pSg B n 59 es.2 with
        | inl e2 => rw [hs] at he; rw [← Sum.inl.inj he]; exact v3 e2 hs
        | inr p3 => rw [hs] at he; cases he
      · rw [ho] at hz
        cases hs : pSg B n 59 es.2 with
        | inl e2 => rw [hs] at hz; cases hz
        | inr p3 =>
          rw [hs] at hz
          rw [← Sum.inr.inj hz]
          obtain ⟨z1, z2⟩ := v4 p3 hs
          have eJ : ∀ k, 4 ≤ k → J k = I2 k := fun k hk => FrC_b v2 (by omega) hk
          have eI : ∀ k, 4 ≤ k → (k < r + 5) → I2 k = I k := fun k hk hk2 => by rw [FrC_b m2 (by omega) hk, FrC_b a2 (by omega) hk]
          refine ⟨z1, z2, ?_, CTm_c (fun a b1 b2 => by rw [eJ a (by omega), eI a (by omega) (by omega)]) h1, CTm_c (fun a b1 b2 => eJ a (by omega)) x3⟩
          show J r 0 = w
          rw [eJ r (by omega), eI r (by omega) (by omega)]
          exact h0
theorem k_readRule (h : CpC I R B n p b vs) {lt : Int} (hlt : I b 0 = lt) {i : Nat} (hi : i < 12) : ∃ y I1, zrun X (d + 8) 30 [zr (some 3), zr (some (b + 6 + 9 * i))] (c, s, I, L, R) = some (some (zi y), (c, s, I1, L, R)) ∧ RuO I (b + 6 + 9 * i) B n (pRule B n lt vs i p) y I1 := by
  have hT := h.1
  have hR := h.2.1
  have h31 := h.2.2.1
  have hb := h.2.2.2.1
  have tb := (tt_model hb).1
  have hr := tt_rule hb hi
  obtain ⟨hr1, hr2⟩ := rr_ruleT hR hb hi
  have ht1 : zTm (b + 6 + 9 * i + 1) := ⟨b, hb, Or.inl ⟨i, hi, Or.inl rfl⟩⟩
  have ht5 : zTm (b + 6 + 9 * i + 5) := ⟨b, hb, Or.inl ⟨i, hi, Or.inr rfl⟩⟩
  have hrb : b + 6 ≤ b + 6 + 9 * i := by omega
  have q1 := k_clearU (X := X) (d := d + 5) (c := c) (s := s) (I := I) (L := L) hR hb hi
  have hpr : pRule B n lt vs i p = pB (pNum B n 1 lt (tT B n p)) fun z => pB (pSg B n 58 z.2) fun p3 => pB (pCs B n vs p3) fun cs => pB (pSg B n 256 cs.2) fun p5 => pB (pTerms B n vs 1 4 [] p5) fun es => pB (pSg B n 59 es.2) fun p7 => .inr ((z.1, cs.1, es.1), p7) := by
    show (if i = 12 then _ else _) = _
    rw [if_neg (by omega)]
  generalize b + 6 + 9 * i = r at hr hr1 hr2 ht1 ht5 hrb q1 ⊢
  have pr := sx_X3_readRule (X := X) (d := d + 7) (u0 := some 3) (u1 := some r) (σ := (c, s, I, L, R)) (P := fun q => ∃ y I1, q = (some (zi y), (c, s, I1, L, R)) ∧ RuO I r B n (pRule B n lt vs i p) y I1) ?_
  · obtain ⟨rr, g1, y, I1, g2, g3⟩ := pr
    exact ⟨y, I1, by rw [g1, g2], g3⟩
  · have hp1 := (@tT_g n p B hT.2.1).2.1
    have F1 : FrC r (r + 9) I (zu (zu (zu I r 0 0) (r + 1) 0 0) (r + 5) 0 0) := FrC_t (FrC_t (FrC_u (by omega) (by omega) (by omega)) (FrC_u (by omega) (by omega) (by omega))) (FrC_u (by omega) (by omega) (by omega))
    have hT1 : TpC (zu (zu (zu I r 0 0) (r + 1) 0 0) (r + 5) 0 0) B n p := TpC_u (TpC_u (TpC_u hT (by omega)) (by omega)) (by omega)
    have z1 : zu (zu (zu I r 0 0) (r + 1) 0 0) (r + 5) 0 0 (r + 1) 0 = 0 := by rw [zu_n (by omega), zu_s]
    have z5 : zu (zu (zu I r 0 0) (r + 1) 0 0) (r + 5) 0 0 (r + 5) 0 = 0 := by rw [zu_s]
    generalize zu (zu (zu I r 0 0) (r + 1) 0 0) (r + 5) 0 0 = I1 at q1 F1 hT1 z1 z5
    obtain ⟨I2, n1, n2, n3⟩ := k_next (X := X) (d := d + 2) (c := c) (s := s) (L := L) hR hT1.1 hp1 hT1.2.2.2.1
    have F2 : FrC r (r + 9) I I2 := FrC_t F1 (FrC_x n3)
    have hlt2 : I2 b 0 = lt := by rw [FrC_b F2 (by omega) (by omega)]; exact hlt
    have qn := k_isNumber (X := X) (d := d + 5) (c := c) (s := s) (L := L) hR n2 (lo := 1) (hi := lt)
    cases hnum : pNum B n 1 lt (tT B n p) with
    | inl e =>
      rw [pb_l hnum] at hpr
      refine ru_a hR h31 tb hr q1 n1 hlt2 (qn.1 e hnum) ⟨0, _, rfl, FrC_t F2 FrC_e, fun e' he => ⟨rfl, ?_⟩, fun z hz => ?_⟩
      · rw [hpr] at he; rw [← Sum.inl.inj he]; exact ErC_e
      · rw [hpr] at hz; cases hz
    | inr z =>
      rw [pb_r hnum] at hpr
      obtain ⟨r1, r2, r3⟩ := qn.2 z hnum
      have hTu : TpC (zu I2 r 0 z.1) B n (tT B n p) := TpC_u n2 (by omega)
      have hp2 := (@tT_g n (tT B n p) B hp1).2.1
      obtain ⟨I3, m1, m2, m3⟩ := k_next (X := X) (d := d + 2) (c := c) (s := s) (L := L) hR hTu.1 hp2 hTu.2.2.2.1
      rw [← r3] at m2
      have F3 : FrC r (r + 9) I I3 := FrC_t F2 (FrC_t (FrC_u (by omega) (by omega) (by omega)) (FrC_x m3))
      obtain ⟨y4, I4, s1, s2, s3, s4⟩ := k_passes (X := X) (d := d + 1) (c := c) (s := s) (L := L) (lo := r) (hi := r) hR m2 (ch := 58) (Or.inr (by unfold isSg; omega))
      have s1 : zrun X (d + 7) 37 [zr (some 3), zi 58] (c, s, I3, L, R) = some (some (zi y4), (c, s, I4, L, R)) := s1
      have F4 : FrC r (r + 9) I I4 := FrC_t F3 (FrC_w s2 (by omega) (by omega))
      cases hs : pSg B n 58 z.2 with
      | inl e =>
        obtain ⟨w1, w2⟩ := s3 e hs
        rw [w1] at s1
        rw [pb_l hs] at hpr
        refine ru_b hR h31 tb hr q1 n1 hlt2 r1 r2 m1 s1 ⟨0, I4, rfl, F4, fun e' he => ⟨rfl, ?_⟩, fun z hz => ?_⟩
        · rw [hpr] at he; rw [← Sum.inl.inj he]; exact w2
        · rw [hpr] at hz; cases hz
      | inr p3 =>
        obtain ⟨w1, w2⟩ := s4 p3 hs
        rw [w1] at s1
        rw [pb_r hs] at hpr
        have e4 : ∀ k, 4 ≤ k → k ≠ r → I4 k = I1 k := fun k hk hk2 => by rw [FrC_b s2 (by omega) hk, m3.1 k (by omega), zu_n hk2, n3.1 k (by omega)]
        have e4r : I4 r 0 = z.1 := by rw [FrC_b s2 (by omega) (by omega), m3.1 r (by omega), zu_s]
        have e41 : I4 (r + 1) 0 = 0 := by rw [e4 _ (by omega) (by omega)]; exact z1
        have e45 : I4 (r + 5) 0 = 0 := by rw [e4 _ (by omega) (by omega)]; exact z5
        have h4 := CpC_f h F4 hrb w2
        have qs := k_isS (X := X) (d := d + 6) (c := c) (s := s) (L := L) (R := R) w2 (ch := 256) (Or.inl rfl)
        have qs : zrun X (d + 7) 71 [zr (some 1), zi 65] (c, s, I4, L, R) = some (some (zi (if tK B n p3 = 3 ∧ tS B n p3 = 256 then 1 else 0)), (c, s, I4, L, R)) := qs
        by_cases q : tK B n p3 = 3 ∧ tS B n p3 = 256
        · rw [if_pos q] at qs
          have hcs : pCs B n vs p3 = .inr ([], p3) := by unfold pCs; rw [if_pos q]
          rw [pb_r hcs] at hpr
          refine ru_c hR h31 tb hr q1 n1 hlt2 r1 r2 m1 s1 qs ?_
          exact ru_86 (cs := []) h4 hrb hr hr2 ht5 F4 e4r ⟨e41, fun j u hu => by cases hu⟩ e45 hpr (fun y J hh => ⟨y, J, rfl, hh⟩)
        · rw [if_neg q] at qs
          have hcs : pCs B n vs p3 = pTerms B n vs 0 4 [] p3 := by unfold pCs; rw [if_neg q]
          rw [hcs] at hpr
          obtain ⟨y5, I5, t1, t2, t3, t4⟩ := k_readTerms (X := X) (d := d) (c := c) (s := s) (L := L) h4 ht1 (by omega) (k := 0) (Or.inl rfl) e41
          have t1 : zrun X (d + 7) 33 [zr (some 3), zr (some (r + 1)), zx 6, zi 38] (c, s, I4, L, R) = some (some (zi y5), (c, s, I5, L, R)) := t1
          have F5 : FrC r (r + 9) I I5 := FrC_t F4 (FrC_w t2 (by omega) (by omega))
          cases hts : pTerms B n vs 0 4 [] p3 with
          | inl e =>
            obtain ⟨x1, x2⟩ := t3 e hts
            rw [x1] at t1
            rw [pb_l hts] at hpr
            refine ru_d hR h31 tb hr hr1 q1 n1 hlt2 r1 r2 m1 s1 qs t1 ⟨0, I5, rfl, F5, fun e' he => ⟨rfl, ?_⟩, fun z hz => ?_⟩
            · rw [hpr] at he; rw [← Sum.inl.inj he]; exact x2
            · rw [hpr] at hz; cases hz
          | inr cs =>
            obtain ⟨x1, x2, x3⟩ := t4 cs hts
            rw [x1] at t1
            rw [pb_r hts] at hpr
            have h5 := CpC_f h F5 hrb x2
            refine ru_e hR h31 tb hr hr1 q1 n1 hlt2 r1 r2 m1 s1 qs t1 ?_
            exact ru_86 h5 hrb hr hr2 ht5 F5 (by rw [FrC_b t2 (by omega) (by omega)]; exact e4r) x3 (by rw [FrC_b t2 (by omega) (by omega)]; exact e45) hpr (fun y J hh => ⟨y, J, rfl, hh⟩)
/-- isAtEnd -/
theorem ae_0 (hR : Rok R) {kd f : Int} (h4 : I 1 4 = kd) (hk : kd ≠ 0) (h2 : I 1 2 = f) : zrun X (d + 2) 32 [zr (some 3)] (c, s, I, L, R) = some (some (zi 0), (c, s, erC I (1, f), L, R)) := by
  refine st_X3_isAtEnd ?_
  have q := k_fails (X := X) (d := d) (c := c) (s := s) (L := L) hR (y := 1) h2
  simp (disch := omega) only [e_X3_isAtEnd_0, e_X3_isAtEnd_0x, e_X3_isAtEnd_1, e_X3_isAtEnd_4, e_X3_isAtEnd_7, e_X3_isAtEnd_10, e_X3_isAtEnd_10x, e_X3_isAtEnd_11, e_X3_isAtEnd_12, e_X3_isAtEnd_15, e_X3_isAtEnd_16, e_X3_isAtEnd_16x, e_X3_isAtEnd_17, e_X3_isAtEnd_20, e_X3_isAtEnd_23, e_X3_isAtEnd_26, e_X3_isAtEnd_26x, e_X3_isAtEnd_27, e_X3_isAtEnd_28, e_X3_isAtEnd_31, e_X3_isAtEnd_34, e_X3_isAtEnd_35, e_X3_isAtEnd_38, e_X3_isAtEnd_39, zcll_s, zpush_s, zpush_n, zinv_i, zinv_l, zinv_r, zinv_x, zcats_nil, zcats_i, zcats_l, zcats_r, zcats_x, Nat.le_refl, and_self, true_and, and_true, zok_1, zok_20, zok_21, eq_self, Nat.reduceAdd, Nat.reduceLeDiff, Nat.zero_le, if_true, if_false, zw3_id, if_pos, if_neg, zand_t, tg_1, tg_3, rr_3_0 hR, h4, q]
theorem ae_1 (hR : Rok R) (h31 : R 3 1 = some b) (hb : (zT b).1 = 11) {g f : Int} (h4 : I 1 4 = 0) (h3 : I b 3 = g) (hg : g = 0) (h2 : I 1 2 = f) : zrun X (d + 2) 32 [zr (some 3)] (c, s, I, L, R) = some (some (zi 0), (c, s, erC I (4, f), L, R)) := by
  refine st_X3_isAtEnd ?_
  have q := k_fails (X := X) (d := d) (c := c) (s := s) (L := L) hR (y := 4) h2
  simp (disch := omega) only [e_X3_isAtEnd_0, e_X3_isAtEnd_0x, e_X3_isAtEnd_1, e_X3_isAtEnd_4, e_X3_isAtEnd_7, e_X3_isAtEnd_10, e_X3_isAtEnd_10x, e_X3_isAtEnd_11, e_X3_isAtEnd_12, e_X3_isAtEnd_15, e_X3_isAtEnd_16, e_X3_isAtEnd_16x, e_X3_isAtEnd_17, e_X3_isAtEnd_20, e_X3_isAtEnd_23, e_X3_isAtEnd_26, e_X3_isAtEnd_26x, e_X3_isAtEnd_27, e_X3_isAtEnd_28, e_X3_isAtEnd_31, e_X3_isAtEnd_34, e_X3_isAtEnd_35, e_X3_isAtEnd_38, e_X3_isAtEnd_39, zcll_s, zpush_s, zpush_n, zinv_i, zinv_l, zinv_r, zinv_x, zcats_nil, zcats_i, zcats_l, zcats_r, zcats_x, Nat.le_refl, and_self, true_and, and_true, zok_1, zok_20, zok_21, eq_self, Nat.reduceAdd, Nat.reduceLeDiff, Nat.zero_le, if_true, if_false, zw3_id, if_pos, if_neg, zand_t, tg_1, tg_3, rr_3_0 hR, h31, hb, h4, h3, q]
theorem ae_2 (hR : Rok R) (h31 : R 3 1 = some b) (hb : (zT b).1 = 11) {g : Int} (h4 : I 1 4 = 0) (h3 : I b 3 = g) (hg : 0 < g) : zrun X (d + 2) 32 [zr (some 3)] (c, s, I, L, R) = some (some (zi 1), (c, s, I, L, R)) := by
  refine st_X3_isAtEnd ?_
  simp (disch := omega) only [e_X3_isAtEnd_0, e_X3_isAtEnd_0x, e_X3_isAtEnd_1, e_X3_isAtEnd_4, e_X3_isAtEnd_7, e_X3_isAtEnd_10, e_X3_isAtEnd_10x, e_X3_isAtEnd_11, e_X3_isAtEnd_12, e_X3_isAtEnd_15, e_X3_isAtEnd_16, e_X3_isAtEnd_16x, e_X3_isAtEnd_17, e_X3_isAtEnd_20, e_X3_isAtEnd_23, e_X3_isAtEnd_26, e_X3_isAtEnd_26x, e_X3_isAtEnd_27, e_X3_isAtEnd_28, e_X3_isAtEnd_31, e_X3_isAtEnd_34, e_X3_isAtEnd_35, e_X3_isAtEnd_38, e_X3_isAtEnd_39, zcll_s, zpush_s, zpush_n, zinv_i, zinv_l, zinv_r, zinv_x, zcats_nil, zcats_i, zcats_l, zcats_r, zcats_x, Nat.le_refl, and_self, true_and, and_true, zok_1, zok_20, zok_21, eq_self, Nat.reduceAdd, Nat.reduceLeDiff, Nat.zero_le, if_true, if_false, zw3_id, if_pos, if_neg, zand_t, tg_1, tg_3, rr_3_0 hR, h31, hb, h4, h3]
theorem k_isAtEnd (h : CpC I R B n p b vs) {M : MD} (h3 : I b 3 = (M.2.2.2.length : Int)) : ∃ y I1, zrun X (d + 2) 32 [zr (some 3)] (c, s, I, L, R) = some (some (zi y), (c, s, I1, L, R)) ∧ (∀ e, pEnd B n M p = .inl e → y = 0 ∧ ErC I1 e ∧ I1 = erC I e) ∧ ∀ z, pEnd B n M p = .inr z → y = 1 ∧ I1 = I ∧ z = M := by
  obtain ⟨hT, hR, h31, hb, -, -⟩ := h
  have tt := (tt_model hb).1
  have h4 := hT.2.2.2.2.1
  have h2 := hT.2.2.1
  unfold pEnd
  by_cases q : tK B n p = 0
  · rw [if_pos q]
    rw [q] at h4
    by_cases q2 : M.2.2.2.length = 0
    · rw [if_pos q2]
      refine ⟨0, _, ae_1 (d := d) hR h31 tt h4 h3 (by omega) h2, fun e he => ⟨rfl, ?_⟩, fun z hz => (by cases hz)⟩
      rw [← Sum.inl.inj he]
      exact ⟨ErC_e, rfl⟩
    · rw [if_neg q2]
      exact ⟨1, _, ae_2 (d := d) hR h31 tt h4 h3 (by omega), fun e he => (by cases he), fun z hz => ⟨rfl, rfl, (Sum.inr.inj hz).symm⟩⟩
  · rw [if_neg q]
    refine ⟨0, _, ae_0 (d := d) hR h4 q h2, fun e he => ⟨rfl, ?_⟩, fun z hz => (by cases hz)⟩
    rw [← Sum.inl.inj he]
    exact ⟨ErC_e, rfl⟩
end
