/-! The class's reader: lots, a var, a rule, a goal, the end. -/
section
variable {X : ZX} {d c s : Nat} {I L I1 L1 I2 L2 J : ZI} {R R1 R2 : ZR} {call : ZC} {n p b t r lo hi : Nat} {x y : Int} {B : Nat → Int} {vs : List MV} {Q : Option ZV × ZS → Prop}
theorem pb_l {α β : Type} {o : PE ⊕ α} {g : α → PE ⊕ β} {e : PE} (h : o = .inl e) : pB o g = .inl e := by rw [h]; rfl
theorem pb_r {α β : Type} {o : PE ⊕ α} {g : α → PE ⊕ β} {a : α} (h : o = .inr a) : pB o g = g a := by rw [h]; rfl
theorem pS_01 {α : Type} {o : PE ⊕ α} {P : PE → Prop} {S : α → Prop} (h1 : ∀ e, o = .inl e → y = 0 ∧ P e) (h2 : ∀ z, o = .inr z → y = 1 ∧ S z) : y = 0 ∨ y = 1 := by
  cases o with
  | inl e => exact Or.inl (h1 e rfl).1
  | inr z => exact Or.inr (h2 z rfl).1
/-- readLots -/
theorem rl_0 (hR : Rok R) {f : Int} (q1 : zrun X (d + 1) 72 [zr (some 1), zx 3] (c, s, I, L, R) = some (some (zi 0), (c, s, I, L, R))) (h2 : I 1 2 = f) : zrun X (d + 2) 28 [zr (some 3)] (c, s, I, L, R) = some (some (zi 0), (c, s, erC I (1, f), L, R)) := by
  refine st_X3_readLots ?_
  have q := k_fails (X := X) (d := d) (c := c) (s := s) (L := L) hR (y := 1) h2
  simp (disch := omega) only [e_X3_readLots_0, e_X3_readLots_0x, e_X3_readLots_1, e_X3_readLots_4, e_X3_readLots_6, e_X3_readLots_9, e_X3_readLots_12, e_X3_readLots_12x, e_X3_readLots_13, e_X3_readLots_14, e_X3_readLots_17, e_X3_readLots_18, e_X3_readLots_18x, e_X3_readLots_19, e_X3_readLots_22, e_X3_readLots_25, e_X3_readLots_25x, e_X3_readLots_26, e_X3_readLots_27, e_X3_readLots_29, e_X3_readLots_32, e_X3_readLots_35, e_X3_readLots_36, e_X3_readLots_37, e_X3_readLots_37x, e_X3_readLots_38, e_X3_readLots_41, e_X3_readLots_41x, e_X3_readLots_42, e_X3_readLots_45, e_X3_readLots_48, e_X3_readLots_51, e_X3_readLots_51x, e_X3_readLots_52, e_X3_readLots_55, e_X3_readLots_58, e_X3_readLots_58x, e_X3_readLots_59, e_X3_readLots_61, e_X3_readLots_64, zcll_s, zpush_s, zpush_n, zinv_i, zinv_l, zinv_r, zinv_x, zcats_nil, zcats_i, zcats_l, zcats_r, zcats_x, Nat.le_refl, and_self, true_and, and_true, zok_1, zok_20, zok_21, eq_self, Nat.reduceAdd, Nat.reduceLeDiff, Nat.zero_le, if_true, if_false, zw3_id, if_pos, if_neg, zand_t, tg_1, tg_3, rr_3_0 hR, q1, q]
theorem rl_1 (hR : Rok R) (q1 : zrun X (d + 1) 72 [zr (some 1), zx 3] (c, s, I, L, R) = some (some (zi 1), (c, s, I, L, R))) (q2 : zrun X (d + 1) 68 [zr (some 1)] (c, s, I, L, R) = some (none, (c, s, I1, L, R))) (q3 : zrun X (d + 1) 36 [zr (some 3), zi 1, zi 20] (c, s, I1, L, R) = some (some (zi 0), (c, s, J, L, R))) : zrun X (d + 2) 28 [zr (some 3)] (c, s, I, L, R) = some (some (zi 0), (c, s, J, L, R)) := by
  refine st_X3_readLots ?_
  simp (disch := omega) only [e_X3_readLots_0, e_X3_readLots_0x, e_X3_readLots_1, e_X3_readLots_4, e_X3_readLots_6, e_X3_readLots_9, e_X3_readLots_12, e_X3_readLots_12x, e_X3_readLots_13, e_X3_readLots_14, e_X3_readLots_17, e_X3_readLots_18, e_X3_readLots_18x, e_X3_readLots_19, e_X3_readLots_22, e_X3_readLots_25, e_X3_readLots_25x, e_X3_readLots_26, e_X3_readLots_27, e_X3_readLots_29, e_X3_readLots_32, e_X3_readLots_35, e_X3_readLots_36, e_X3_readLots_37, e_X3_readLots_37x, e_X3_readLots_38, e_X3_readLots_41, e_X3_readLots_41x, e_X3_readLots_42, e_X3_readLots_45, e_X3_readLots_48, e_X3_readLots_51, e_X3_readLots_51x, e_X3_readLots_52, e_X3_readLots_55, e_X3_readLots_58, e_X3_readLots_58x, e_X3_readLots_59, e_X3_readLots_61, e_X3_readLots_64, zcll_s, zpush_s, zpush_n, zinv_i, zinv_l, zinv_r, zinv_x, zcats_nil, zcats_i, zcats_l, zcats_r, zcats_x, Nat.le_refl, and_self, true_and, and_true, zok_1, zok_20, zok_21, eq_self, Nat.reduceAdd, Nat.reduceLeDiff, Nat.zero_le, if_true, if_false, zw3_id, if_pos, if_neg, zand_t, tg_1, tg_3, rr_3_0 hR, q1, q2, q3]
theorem rl_2 (hR : Rok R) (h31 : R 3 1 = some b) (hb : (zT b).1 = 11) {nu : Int} (q1 : zrun X (d + 1) 72 [zr (some 1), zx 3] (c, s, I, L, R) = some (some (zi 1), (c, s, I, L, R))) (q2 : zrun X (d + 1) 68 [zr (some 1)] (c, s, I, L, R) = some (none, (c, s, I1, L, R))) (q3 : zrun X (d + 1) 36 [zr (some 3), zi 1, zi 20] (c, s, I1, L, R) = some (some (zi 1), (c, s, I1, L, R))) (h6 : I1 1 6 = nu) (q4 : zrun X (d + 1) 68 [zr (some 1)] (c, s, zu I1 b 0 nu, L, R) = some (none, (c, s, I2, L, R))) (q5 : zrun X (d + 1) 37 [zr (some 3), zi 59] (c, s, I2, L, R) = some (some (zi y), (c, s, J, L, R))) (hy : y = 0 ∨ y = 1) : zrun X (d + 2) 28 [zr (some 3)] (c, s, I, L, R) = some (some (zi y), (c, s, J, L, R)) := by
  refine st_X3_readLots ?_
  have hz : zok 2 y = true := zok_2.mpr hy
  clear hy
  simp (disch := omega) only [e_X3_readLots_0, e_X3_readLots_0x, e_X3_readLots_1, e_X3_readLots_4, e_X3_readLots_6, e_X3_readLots_9, e_X3_readLots_12, e_X3_readLots_12x, e_X3_readLots_13, e_X3_readLots_14, e_X3_readLots_17, e_X3_readLots_18, e_X3_readLots_18x, e_X3_readLots_19, e_X3_readLots_22, e_X3_readLots_25, e_X3_readLots_25x, e_X3_readLots_26, e_X3_readLots_27, e_X3_readLots_29, e_X3_readLots_32, e_X3_readLots_35, e_X3_readLots_36, e_X3_readLots_37, e_X3_readLots_37x, e_X3_readLots_38, e_X3_readLots_41, e_X3_readLots_41x, e_X3_readLots_42, e_X3_readLots_45, e_X3_readLots_48, e_X3_readLots_51, e_X3_readLots_51x, e_X3_readLots_52, e_X3_readLots_55, e_X3_readLots_58, e_X3_readLots_58x, e_X3_readLots_59, e_X3_readLots_61, e_X3_readLots_64, zcll_s, zpush_s, zpush_n, zinv_i, zinv_l, zinv_r, zinv_x, zcats_nil, zcats_i, zcats_l, zcats_r, zcats_x, Nat.le_refl, and_self, true_and, and_true, zok_1, zok_20, zok_21, eq_self, Nat.reduceAdd, Nat.reduceLeDiff, Nat.zero_le, if_true, if_false, zw3_id, if_pos, if_neg, zand_t, tg_1, tg_3, rr_3_0 hR, h31, hb, q1, q2, q3, h6, q4, q5, hz]
theorem FrC_b {lo hi k : Nat} (h : FrC lo hi I I1) (h1 : k < lo ∨ hi ≤ k) (h4 : 4 ≤ k) : I1 k = I k := h.1 k (by omega) (by omega) h1
theorem k_readLots (hR : Rok R) (h31 : R 3 1 = some b) (hb : b = 4 ∨ b = 135) (hT : TpC I B n 0) : ∃ y I1, zrun X (d + 7) 28 [zr (some 3)] (c, s, I, L, R) = some (some (zi y), (c, s, I1, L, R)) ∧ FrC b (b + 1) I I1 ∧ (∀ e, pLots B n = .inl e → y = 0 ∧ ErC I1 e) ∧ ∀ z, pLots B n = .inr z → y = 1 ∧ TpC I1 B n z.2 ∧ I1 b 0 = z.1 ∧ ∀ k, k ≠ 0 → I1 b k = I b k := by
  have tt := (tt_model hb).1
  have qw := k_isWord (X := X) (d := d + 1) (c := c) (s := s) (L := L) hR hT (e := 2) (by omega)
  have h2 := hT.2.2.1
  unfold pLots
  by_cases q1 : isW B n wLots 0
  · rw [if_pos q1]
    have qw : zrun X (d + 6) 72 [zr (some 1), zx 3] (c, s, I, L, R) = some (some (zi 1), (c, s, I, L, R)) := by
      rw [if_pos (show isW B n (zstr (2 - 1)).reverse 0 from q1)] at qw
      exact qw
    have hp1 := (@tT_g n 0 B hT.2.1).2.1
    obtain ⟨I1, n1, n2, n3⟩ := k_next (X := X) (d := d + 1) (c := c) (s := s) (L := L) hR hT.1 hp1 hT.2.2.2.1
    have qn := k_isNumber (X := X) (d := d + 4) (c := c) (s := s) (L := L) hR n2 (lo := 1) (hi := 20)
    cases hnum : pNum B n 1 20 (tT B n 0) with
    | inl e =>
      refine ⟨0, _, rl_1 (d := d + 5) hR qw n1 (qn.1 e hnum), FrC_t (FrC_x n3) FrC_e, fun e' he => ⟨rfl, ?_⟩, fun z hz => ?_⟩
      · rw [pb_l rfl] at he; rw [← Sum.inl.inj he]; exact ErC_e
      · rw [pb_l rfl] at hz; cases hz
    | inr z =>
      obtain ⟨r1, r2, r3⟩ := qn.2 z hnum
      have hTu : TpC (zu I1 b 0 z.1) B n (tT B n 0) := TpC_u n2 (by omega)
      have hp2 := (@tT_g n (tT B n 0) B hp1).2.1
      obtain ⟨I2, m1, m2, m3⟩ := k_next (X := X) (d := d + 1) (c := c) (s := s) (L := L) hR hTu.1 hp2 hTu.2.2.2.1
      obtain ⟨y, J, s1, s2, s3, s4⟩ := k_passes (X := X) (d := d) (c := c) (s := s) (L := L) (lo := b) (hi := b) hR m2 (ch := 59) (Or.inr (by unfold isSg; omega))
      have F : FrC b (b + 1) I J := FrC_t (FrC_x n3) (FrC_t (FrC_u (by omega) (by omega) (by omega)) (FrC_t (FrC_x m3) (FrC_w s2 (by omega) (by omega))))
      refine ⟨y, J, rl_2 (d := d + 5) hR h31 tt qw n1 r1 r2 m1 s1 (pS_01 s3 s4), F, fun e' he => ?_, fun z' hz => ?_⟩
      · rw [pb_r rfl, r3] at he
        cases hs : pSg B n 59 (tT B n (tT B n 0)) with
        | inl e2 => rw [hs] at he; rw [← Sum.inl.inj he]; exact s3 e2 hs
        | inr p3 => rw [hs] at he; cases he
      · rw [pb_r rfl, r3] at hz
        cases hs : pSg B n 59 (tT B n (tT B n 0)) with
        | inl e2 => rw [hs] at hz; cases hz
        | inr p3 =>
          rw [hs] at hz
          rw [← Sum.inr.inj hz]
          obtain ⟨u1, u2⟩ := s4 p3 hs
          have eJ : J b = zu I1 b 0 z.1 b := by rw [FrC_b s2 (by omega) (by omega), m3.1 b (by omega)]
          refine ⟨u1, u2, by rw [eJ, zu_s], fun k hk => ?_⟩
          rw [eJ, zu_k hk, n3.1 b (by omega)]
  · rw [if_neg q1]
    have qw : zrun X (d + 6) 72 [zr (some 1), zx 3] (c, s, I, L, R) = some (some (zi 0), (c, s, I, L, R)) := by
      rw [if_neg (show ¬ isW B n (zstr (2 - 1)).reverse 0 from q1)] at qw
      exact qw
    refine ⟨0, _, rl_0 (d := d + 5) hR qw h2, FrC_e, fun e' he => ⟨rfl, ?_⟩, fun z hz => (by cases hz)⟩
    rw [← Sum.inl.inj he]
    exact ErC_e
/-- readVar -/
theorem rv_0 (hR : Rok R) (q1 : zrun X (d + 1) 68 [zr (some 1)] (c, s, I, L, R) = some (none, (c, s, I1, L, R))) (q2 : zrun X (d + 1) 35 [zr (some 3)] (c, s, I1, L, R) = some (some (zi 0), (c, s, J, L, R))) : zrun X (d + 2) 29 [zr (some 3)] (c, s, I, L, R) = some (some (zi 0), (c, s, J, L, R)) := by
  refine st_X3_readVar ?_
  simp (disch := omega) only [e_X3_readVar_0, e_X3_readVar_0x, e_X3_readVar_1, e_X3_readVar_4, e_X3_readVar_7, e_X3_readVar_7x, e_X3_readVar_8, e_X3_readVar_11, e_X3_readVar_14, e_X3_readVar_15, e_X3_readVar_16, e_X3_readVar_16x, e_X3_readVar_17, e_X3_readVar_20, e_X3_readVar_23, e_X3_readVar_24, e_X3_readVar_24x, e_X3_readVar_25, e_X3_readVar_28, e_X3_readVar_31, e_X3_readVar_31x, e_X3_readVar_32, e_X3_readVar_33, e_X3_readVar_35, e_X3_readVar_38, e_X3_readVar_41, e_X3_readVar_42, e_X3_readVar_43, e_X3_readVar_43x, e_X3_readVar_44, e_X3_readVar_47, e_X3_readVar_50, e_X3_readVar_51, e_X3_readVar_51x, e_X3_readVar_52, e_X3_readVar_55, e_X3_readVar_58, e_X3_readVar_59, e_X3_readVar_60, e_X3_readVar_61, e_X3_readVar_62, e_X3_readVar_65, e_X3_readVar_68, e_X3_readVar_68x, e_X3_readVar_69, e_X3_readVar_70, e_X3_readVar_73, e_X3_readVar_74, e_X3_readVar_74x, e_X3_readVar_75, e_X3_readVar_78, e_X3_readVar_81, e_X3_readVar_81x, e_X3_readVar_82, e_X3_readVar_83, e_X3_readVar_84, e_X3_readVar_87, e_X3_readVar_90, e_X3_readVar_91, e_X3_readVar_92, e_X3_readVar_92x, e_X3_readVar_93, e_X3_readVar_96, e_X3_readVar_97, e_X3_readVar_98, e_X3_readVar_98x, e_X3_readVar_99, e_X3_readVar_102, e_X3_readVar_105, e_X3_readVar_108, e_X3_readVar_108x, e_X3_readVar_109, e_X3_readVar_112, e_X3_readVar_115, e_X3_readVar_115x, e_X3_readVar_116, e_X3_readVar_118, e_X3_readVar_121, zcll_s, zpush_s, zpush_n, zinv_i, zinv_l, zinv_r, zinv_x, zcats_nil, zcats_i, zcats_l, zcats_r, zcats_x, Nat.le_refl, and_self, true_and, and_true, zok_1, zok_20, zok_21, eq_self, Nat.reduceAdd, Nat.reduceLeDiff, Nat.zero_le, if_true, if_false, zw3_id, if_pos, if_neg, zand_t, tg_1, tg_3, rr_3_0 hR, q1, q2]
theorem rv_1 (hR : Rok R) {nm : Int} (q1 : zrun X (d + 1) 68 [zr (some 1)] (c, s, I, L, R) = some (none, (c, s, I1, L, R))) (q2 : zrun X (d + 1) 35 [zr (some 3)] (c, s, I1, L, R) = some (some (zi 1), (c, s, I1, L, R))) (h5 : I1 1 5 = nm) (q3 : zrun X (d + 1) 68 [zr (some 1)] (c, s, I1, L, R) = some (none, (c, s, I2, L, R))) (q4 : zrun X (d + 1) 36 [zr (some 3), zi 0, zi 30] (c, s, I2, L, R) = some (some (zi 0), (c, s, J, L, R))) : zrun X (d + 2) 29 [zr (some 3)] (c, s, I, L, R) = some (some (zi 0), (c, s, J, L, R)) := by
  refine st_X3_readVar ?_
  simp (disch := omega) only [e_X3_readVar_0, e_X3_readVar_0x, e_X3_readVar_1, e_X3_readVar_4, e_X3_readVar_7, e_X3_readVar_7x, e_X3_readVar_8, e_X3_readVar_11, e_X3_readVar_14, e_X3_readVar_15, e_X3_readVar_16, e_X3_readVar_16x, e_X3_readVar_17, e_X3_readVar_20, e_X3_readVar_23, e_X3_readVar_24, e_X3_readVar_24x, e_X3_readVar_25, e_X3_readVar_28, e_X3_readVar_31, e_X3_readVar_31x, e_X3_readVar_32, e_X3_readVar_33, e_X3_readVar_35, e_X3_readVar_38, e_X3_readVar_41, e_X3_readVar_42, e_X3_readVar_43, e_X3_readVar_43x, e_X3_readVar_44, e_X3_readVar_47, e_X3_readVar_50, e_X3_readVar_51, e_X3_readVar_51x, e_X3_readVar_52, e_X3_readVar_55, e_X3_readVar_58, e_X3_readVar_59, e_X3_readVar_60, e_X3_readVar_61, e_X3_readVar_62, e_X3_readVar_65, e_X3_readVar_68, e_X3_readVar_68x, e_X3_readVar_69, e_X3_readVar_70, e_X3_readVar_73, e_X3_readVar_74, e_X3_readVar_74x, e_X3_readVar_75, e_X3_readVar_78, e_X3_readVar_81, e_X3_readVar_81x, e_X3_readVar_82, e_X3_readVar_83, e_X3_readVar_84, e_X3_readVar_87, e_X3_readVar_90, e_X3_readVar_91, e_X3_readVar_92, e_X3_readVar_92x, e_X3_readVar_93, e_X3_readVar_96, e_X3_readVar_97, e_X3_readVar_98, e_X3_readVar_98x, e_X3_readVar_99, e_X3_readVar_102, e_X3_readVar_105, e_X3_readVar_108, e_X3_readVar_108x, e_X3_readVar_109, e_X3_readVar_112, e_X3_readVar_115, e_X3_readVar_115x, e_X3_readVar_116, e_X3_readVar_118, e_X3_readVar_121, zcll_s, zpush_s, zpush_n, zinv_i, zinv_l, zinv_r, zinv_x, zcats_nil, zcats_i, zcats_l, zcats_r, zcats_x, Nat.le_refl, and_self, true_and, and_true, zok_1, zok_20, zok_21, eq_self, Nat.reduceAdd, Nat.reduceLeDiff, Nat.zero_le, if_true, if_false, zw3_id, if_pos, if_neg, zand_t, tg_1, tg_3, rr_3_0 hR, q1, q2, h5, q3, q4]
theorem rv_2 (hR : Rok R) (h31 : R 3 1 = some b) (hb : (zT b).1 = 11) {nm mo st f : Int} (q1 : zrun X (d + 1) 68 [zr (some 1)] (c, s, I, L, R) = some (none, (c, s, I1, L, R))) (q2 : zrun X (d + 1) 35 [zr (some 3)] (c, s, I1, L, R) = some (some (zi 1), (c, s, I1, L, R))) (h5 : I1 1 5 = nm) (q3 : zrun X (d + 1) 68 [zr (some 1)] (c, s, I1, L, R) = some (none, (c, s, I2, L, R))) (q4 : zrun X (d + 1) 36 [zr (some 3), zi 0, zi 30] (c, s, I2, L, R) = some (some (zi 1), (c, s, I2, L, R))) (h6 : I2 1 6 = mo) (hs : I2 b 4 = st) (h0 : 0 ≤ mo) (h1 : mo ≤ 30) (hm : st * (mo + 1) ≤ 31000) (hq : 1000 < st * (mo + 1)) (h2 : I2 1 2 = f) : zrun X (d + 2) 29 [zr (some 3)] (c, s, I, L, R) = some (some (zi 0), (c, s, erC I2 (4, f), L, R)) := by
  refine st_X3_readVar ?_
  have q := k_fails (X := X) (d := d) (c := c) (s := s) (L := L) hR (y := 4) h2
  simp (disch := omega) only [e_X3_readVar_0, e_X3_readVar_0x, e_X3_readVar_1, e_X3_readVar_4, e_X3_readVar_7, e_X3_readVar_7x, e_X3_readVar_8, e_X3_readVar_11, e_X3_readVar_14, e_X3_readVar_15, e_X3_readVar_16, e_X3_readVar_16x, e_X3_readVar_17, e_X3_readVar_20, e_X3_readVar_23, e_X3_readVar_24, e_X3_readVar_24x, e_X3_readVar_25, e_X3_readVar_28, e_X3_readVar_31, e_X3_readVar_31x, e_X3_readVar_32, e_X3_readVar_33, e_X3_readVar_35, e_X3_readVar_38, e_X3_readVar_41, e_X3_readVar_42, e_X3_readVar_43, e_X3_readVar_43x, e_X3_readVar_44, e_X3_readVar_47, e_X3_readVar_50, e_X3_readVar_51, e_X3_readVar_51x, e_X3_readVar_52, e_X3_readVar_55, e_X3_readVar_58, e_X3_readVar_59, e_X3_readVar_60, e_X3_readVar_61, e_X3_readVar_62, e_X3_readVar_65, e_X3_readVar_68, e_X3_readVar_68x, e_X3_readVar_69, e_X3_readVar_70, e_X3_readVar_73, e_X3_readVar_74, e_X3_readVar_74x, e_X3_readVar_75, e_X3_readVar_78, e_X3_readVar_81, e_X3_readVar_81x, e_X3_readVar_82, e_X3_readVar_83, e_X3_readVar_84, e_X3_readVar_87, e_X3_readVar_90, e_X3_readVar_91, e_X3_readVar_92, e_X3_readVar_92x, e_X3_readVar_93, e_X3_readVar_96, e_X3_readVar_97, e_X3_readVar_98, e_X3_readVar_98x, e_X3_readVar_99, e_X3_readVar_102, e_X3_readVar_105, e_X3_readVar_108, e_X3_readVar_108x, e_X3_readVar_109, e_X3_readVar_112, e_X3_readVar_115, e_X3_readVar_115x, e_X3_readVar_116, e_X3_readVar_118, e_X3_readVar_121, zcll_s, zpush_s, zpush_n, zinv_i, zinv_l, zinv_r, zinv_x, zcats_nil, zcats_i, zcats_l, zcats_r, zcats_x, Nat.le_refl, and_self, true_and, and_true, zok_1, zok_20, zok_21, eq_self, Nat.reduceAdd, Nat.reduceLeDiff, Nat.zero_le, if_true, if_false, zw3_id, if_pos, if_neg, zand_t, tg_1, tg_3, rr_3_0 hR, h31, hb, q1, q2, h5, q3, q4, h6, hs, q]
theorem rv_3 (hR : Rok R) (h31 : R 3 1 = some b) (hb : (zT b).1 = 11) {nm mo st : Int} {I3 : ZI} (q1 : zrun X (d + 1) 68 [zr (some 1)] (c, s, I, L, R) = some (none, (c, s, I1, L, R))) (q2 : zrun X (d + 1) 35 [zr (some 3)] (c, s, I1, L, R) = some (some (zi 1), (c, s, I1, L, R))) (h5 : I1 1 5 = nm) (q3 : zrun X (d + 1) 68 [zr (some 1)] (c, s, I1, L, R) = some (none, (c, s, I2, L, R))) (q4 : zrun X (d + 1) 36 [zr (some 3), zi 0, zi 30] (c, s, I2, L, R) = some (some (zi 1), (c, s, I2, L, R))) (h6 : I2 1 6 = mo) (hs : I2 b 4 = st) (h0 : 0 ≤ mo) (h1 : mo ≤ 30) (hm : 0 ≤ st * (mo + 1)) (hq : st * (mo + 1) ≤ 1000) (q5 : zrun X (d + 1) 68 [zr (some 1)] (c, s, I2, L, R) = some (none, (c, s, I3, L, R))) (q6 : zrun X (d + 1) 36 [zr (some 3), zi 0, zi mo] (c, s, I3, L, R) = some (some (zi 0), (c, s, J, L, R))) : zrun X (d + 2) 29 [zr (some 3)] (c, s, I, L, R) = some (some (zi 0), (c, s, J, L, R)) := by
  refine st_X3_readVar ?_
  simp (disch := omega) only [e_X3_readVar_0, e_X3_readVar_0x, e_X3_readVar_1, e_X3_readVar_4, e_X3_readVar_7, e_X3_readVar_7x, e_X3_readVar_8, e_X3_readVar_11, e_X3_readVar_14, e_X3_readVar_15, e_X3_readVar_16, e_X3_readVar_16x, e_X3_readVar_17, e_X3_readVar_20, e_X3_readVar_23, e_X3_readVar_24, e_X3_readVar_24x, e_X3_readVar_25, e_X3_readVar_28, e_X3_readVar_31, e_X3_readVar_31x, e_X3_readVar_32, e_X3_readVar_33, e_X3_readVar_35, e_X3_readVar_38, e_X3_readVar_41, e_X3_readVar_42, e_X3_readVar_43, e_X3_readVar_43x, e_X3_readVar_44, e_X3_readVar_47, e_X3_readVar_50, e_X3_readVar_51, e_X3_readVar_51x, e_X3_readVar_52, e_X3_readVar_55, e_X3_readVar_58, e_X3_readVar_59, e_X3_readVar_60, e_X3_readVar_61, e_X3_readVar_62, e_X3_readVar_65, e_X3_readVar_68, e_X3_readVar_68x, e_X3_readVar_69, e_X3_readVar_70, e_X3_readVar_73, e_X3_readVar_74, e_X3_readVar_74x, e_X3_readVar_75, e_X3_readVar_78, e_X3_readVar_81, e_X3_readVar_81x, e_X3_readVar_82, e_X3_readVar_83, e_X3_readVar_84, e_X3_readVar_87, e_X3_readVar_90, e_X3_readVar_91, e_X3_readVar_92, e_X3_readVar_92x, e_X3_readVar_93, e_X3_readVar_96, e_X3_readVar_97, e_X3_readVar_98, e_X3_readVar_98x, e_X3_readVar_99, e_X3_readVar_102, e_X3_readVar_105, e_X3_readVar_108, e_X3_readVar_108x, e_X3_readVar_109, e_X3_readVar_112, e_X3_readVar_115, e_X3_readVar_115x, e_X3_readVar_116, e_X3_readVar_118, e_X3_readVar_121, zcll_s, zpush_s, zpush_n, zinv_i, zinv_l, zinv_r, zinv_x, zcats_nil, zcats_i, zcats_l, zcats_r, zcats_x, Nat.le_refl, and_self, true_and, and_true, zok_1, zok_20, zok_21, eq_self, Nat.reduceAdd, Nat.reduceLeDiff, Nat.zero_le, if_true, if_false, zw3_id, if_pos, if_neg, zand_t, tg_1, tg_3, rr_3_0 hR, h31, hb, q1, q2, h5, q3, q4, h6, hs, q5, q6]
theorem rv_4 (hR : Rok R) (h31 : R 3 1 = some b) (hb : (zT b).1 = 11) {nm mo st fi : Int} {I3 I4 I5 : ZI} (q1 : zrun X (d + 1) 68 [zr (some 1)] (c, s, I, L, R) = some (none, (c, s, I1, L, R))) (q2 : zrun X (d + 1) 35 [zr (some 3)] (c, s, I1, L, R) = some (some (zi 1), (c, s, I1, L, R))) (h5 : I1 1 5 = nm) (q3 : zrun X (d + 1) 68 [zr (some 1)] (c, s, I1, L, R) = some (none, (c, s, I2, L, R))) (q4 : zrun X (d + 1) 36 [zr (some 3), zi 0, zi 30] (c, s, I2, L, R) = some (some (zi 1), (c, s, I2, L, R))) (h6 : I2 1 6 = mo) (hs : I2 b 4 = st) (h0 : 0 ≤ mo) (h1 : mo ≤ 30) (hm : 0 ≤ st * (mo + 1)) (hq : st * (mo + 1) ≤ 1000) (q5 : zrun X (d + 1) 68 [zr (some 1)] (c, s, I2, L, R) = some (none, (c, s, I3, L, R))) (q6 : zrun X (d + 1) 36 [zr (some 3), zi 0, zi mo] (c, s, I3, L, R) = some (some (zi 1), (c, s, I3, L, R))) (h7 : I3 1 6 = fi) (q7 : zrun X (d + 1) 7 [zr (some b), zi nm, zi mo, zi fi] (c, s, I3, L, R) = some (none, (c, s, I4, L, R))) (q8 : zrun X (d + 1) 68 [zr (some 1)] (c, s, I4, L, R) = some (none, (c, s, I5, L, R))) (q9 : zrun X (d + 1) 37 [zr (some 3), zi 59] (c, s, I5, L, R) = some (some (zi y), (c, s, J, L, R))) (hy : y = 0 ∨ y = 1) : zrun X (d + 2) 29 [zr (some 3)] (c, s, I, L, R) = some (some (zi y), (c, s, J, L, R)) := by
  refine st_X3_readVar ?_
  have hz : zok 2 y = true := zok_2.mpr hy
  clear hy
  simp (disch := omega) only [e_X3_readVar_0, e_X3_readVar_0x, e_X3_readVar_1, e_X3_readVar_4, e_X3_readVar_7, e_X3_readVar_7x, e_X3_readVar_8, e_X3_readVar_11, e_X3_readVar_14, e_X3_readVar_15, e_X3_readVar_16, e_X3_readVar_16x, e_X3_readVar_17, e_X3_readVar_20, e_X3_readVar_23, e_X3_readVar_24, e_X3_readVar_24x, e_X3_readVar_25, e_X3_readVar_28, e_X3_readVar_31, e_X3_readVar_31x, e_X3_readVar_32, e_X3_readVar_33, e_X3_readVar_35, e_X3_readVar_38, e_X3_readVar_41, e_X3_readVar_42, e_X3_readVar_43, e_X3_readVar_43x, e_X3_readVar_44, e_X3_readVar_47, e_X3_readVar_50, e_X3_readVar_51, e_X3_readVar_51x, e_X3_readVar_52, e_X3_readVar_55, e_X3_readVar_58, e_X3_readVar_59, e_X3_readVar_60, e_X3_readVar_61, e_X3_readVar_62, e_X3_readVar_65, e_X3_readVar_68, e_X3_readVar_68x, e_X3_readVar_69, e_X3_readVar_70, e_X3_readVar_73, e_X3_readVar_74, e_X3_readVar_74x, e_X3_readVar_75, e_X3_readVar_78, e_X3_readVar_81, e_X3_readVar_81x, e_X3_readVar_82, e_X3_readVar_83, e_X3_readVar_84, e_X3_readVar_87, e_X3_readVar_90, e_X3_readVar_91, e_X3_readVar_92, e_X3_readVar_92x, e_X3_readVar_93, e_X3_readVar_96, e_X3_readVar_97, e_X3_readVar_98, e_X3_readVar_98x, e_X3_readVar_99, e_X3_readVar_102, e_X3_readVar_105, e_X3_readVar_108, e_X3_readVar_108x, e_X3_readVar_109, e_X3_readVar_112, e_X3_readVar_115, e_X3_readVar_115x, e_X3_readVar_116, e_X3_readVar_118, e_X3_readVar_121, zcll_s, zpush_s, zpush_n, zinv_i, zinv_l, zinv_r, zinv_x, zcats_nil, zcats_i, zcats_l, zcats_r, zcats_x, Nat.le_refl, and_self, true_and, and_true, zok_1, zok_20, zok_21, eq_self, Nat.reduceAdd, Nat.reduceLeDiff, Nat.zero_le, if_true, if_false, zw3_id, if_pos, if_neg, zand_t, tg_1, tg_3, rr_3_0 hR, h31, hb, q1, q2, h5, q3, q4, h6, hs, q5, q6, h7, q7, q8, q9, hz]
theorem CVs_a {y : MV} (h : CVs I b vs) : CVs (zu (zu (zu (zu (zu I (b + 5) vs.length (vR 27 96 y.1)) (b + 1) vs.length y.2.1) (b + 2) vs.length y.2.2) b 1 ((vs.length : Int) + 1)) b 4 (mPr vs * (y.2.1 + 1))) b (vs ++ [y]) := by
  refine ⟨?_, ?_, fun v u hu => ?_⟩
  · rw [zu_k (by omega), zu_s, List.length_append]; show (vs.length : Int) + 1 = ((vs.length + 1 : Nat) : Int); omega
  · rw [zu_s, mPr_app]
  · rw [zu_n (show b + 1 ≠ b by omega), zu_n (show b + 2 ≠ b by omega), zu_n (show b + 5 ≠ b by omega), zu_n (show b + 1 ≠ b by omega), zu_n (show b + 2 ≠ b by omega), zu_n (show b + 5 ≠ b by omega), zu_n (show b + 1 ≠ b + 2 by omega), zu_n (show b + 5 ≠ b + 2 by omega), zu_n (show b + 5 ≠ b + 1 by omega)]
    by_cases q : v < vs.length
    · rw [List.getElem?_append_left q] at hu
      rw [zu_k (by omega), zu_k (by omega), zu_k (by omega), zu_n (show b + 1 ≠ b + 5 by omega), zu_n (show b + 2 ≠ b + 1 by omega), zu_n (show b + 2 ≠ b + 5 by omega)]
      exact h.2.2 v u hu
    · have hj : v < (vs ++ [y]).length := (List.getElem?_eq_some_iff.mp hu).1
      rw [List.length_append] at hj
      have hj : v < vs.length + 1 := hj
      have e : v = vs.length := by omega
      subst e
      rw [List.getElem?_append_right (by omega), Nat.sub_self] at hu
      injection hu with hu
      subst hu
      exact ⟨zu_s, zu_s, zu_s⟩
theorem CVs_x (h : CVs I b vs) (hb : b = 4 ∨ b = 135) (hF : FxT I I1) : CVs I1 b vs := CVs_c h (by rw [hF.1 b (by omega)]) (by rw [hF.1 b (by omega)]) (hF.1 _ (by omega)) (hF.1 _ (by omega)) (hF.1 _ (by omega))
theorem k_readVar (h : CpC I R B n p b vs) (hl : vs.length < 4) : ∃ y I1, zrun X (d + 7) 29 [zr (some 3)] (c, s, I, L, R) = some (some (zi y), (c, s, I1, L, R)) ∧ FrC b (b + 6) I I1 ∧ (∀ e, pVar B n vs p = .inl e → y = 0 ∧ ErC I1 e) ∧ ∀ z, pVar B n vs p = .inr z → y = 1 ∧ CpC I1 R B n z.2 b (vs ++ [z.1]) ∧ ∀ k, k ≠ 1 → k ≠ 4 → I1 b k = I b k := by
  have hpo := @pVar_o n p B vs h.2.2.2.2.2 h.1.2.1
  obtain ⟨hT, hR, h31, hb, hv, hVO, hpr, hl4, hnm⟩ := h
  have tt := (tt_model hb).1
  have hp1 := (@tT_g n p B hT.2.1).2.1
  obtain ⟨I1, n1, n2, n3⟩ := k_next (X := X) (d := d + 1) (c := c) (s := s) (L := L) hR hT.1 hp1 hT.2.2.2.1
  have hv1 := CVs_x hv hb n3
  have hpv : pVar B n vs p = if tK B n (tT B n p) = 1 then (if vIx vs (tN B n (tT B n p)) 0 = -1 then (match pNum B n 0 30 (tT B n (tT B n p)) with
      | .inl e => .inl e
      | .inr z => if 1000 < mPr vs * (z.1 + 1) then .inl (4, (tF B n (tT B n (tT B n p)) : Int)) else match pNum B n 0 z.1 z.2 with
        | .inl e => .inl e
        | .inr y => match pSg B n 59 y.2 with
          | .inl e => .inl e
          | .inr p5 => .inr ((tN B n (tT B n p), z.1, y.1), p5)) else .inl (2, (tF B n (tT B n p) : Int))) else .inl (1, (tF B n (tT B n p) : Int)) := by
    show (if vs.length = 4 then _ else _) = _
    rw [if_neg (by omega)]
    rfl
  generalize tT B n p = p1 at hpv hp1 n2
  have g2 := n2.2.2.1
  have g4 := n2.2.2.2.2.1
  by_cases q1 : tK B n p1 = 1
  · rw [if_pos q1] at hpv
    have g5 := n2.2.2.2.2.2.1 q1
    have g41 : I1 1 4 = 1 := by rw [g4]; exact q1
    have qv := k_varNamed (X := X) (d := d + 4) (c := c) (s := s) (L := L) hR hb hv1 hl4 hnm (tN_l q1)
    by_cases q2 : vIx vs (tN B n p1) 0 = -1
    · rw [if_pos q2] at hpv
      have qw := nn_2 (d := d + 4) hR h31 tt g41 g5 qv q2
      have hp2 := (@tT_g n p1 B hp1).2.1
      obtain ⟨I2, m1, m2, m3⟩ := k_next (X := X) (d := d + 1) (c := c) (s := s) (L := L) hR n2.1 hp2 n2.2.2.2.1
      have hv2 := CVs_x hv1 hb m3
      have qn := k_isNumber (X := X) (d := d + 4) (c := c) (s := s) (L := L) hR m2 (lo := 0) (hi := 30)
      cases hnum : pNum B n 0 30 (tT B n p1) with
      | inl e =>
        rw [hnum] at hpv
        have hpv : pVar B n vs p = .inl e := hpv
        refine ⟨0, _, rv_1 (d := d + 5) hR n1 qw g5 m1 (qn.1 e hnum), FrC_t (FrC_x n3) (FrC_t (FrC_x m3) FrC_e), fun e' he => ⟨rfl, ?_⟩, fun z hz => ?_⟩
        · rw [hpv] at he; rw [← Sum.inl.inj he]; exact ErC_e
        · rw [hpv] at hz; cases hz
      | inr z =>
        rw [hnum] at hpv
        have hzr : 0 ≤ z.1 ∧ z.1 ≤ 30 := by
          unfold pNum at hnum
          split at hnum
          · split at hnum
            · rw [← Sum.inr.inj hnum]; assumption
            · cases hnum
          · cases hnum
        have hpv : pVar B n vs p = (if 1000 < mPr vs * (z.1 + 1) then .inl (4, (tF B n (tT B n p1) : Int)) else match pNum B n 0 z.1 z.2 with
          | .inl e => .inl e
          | .inr y => match pSg B n 59 y.2 with
            | .inl e => .inl e
            | .inr p5 => .inr ((tN B n p1, z.1, y.1), p5)) := hpv
        obtain ⟨r1, r2, r3⟩ := qn.2 z hnum
        have hpos := mPr_pos hVO
        have hm0 : 0 ≤ mPr vs * (z.1 + 1) := Int.mul_nonneg (by omega) (by omega)
        have hm1 : mPr vs * (z.1 + 1) ≤ 1000 * 31 := Int.mul_le_mul (by omega) (by omega) (by omega) (by omega)
        by_cases q3 : 1000 < mPr vs * (z.1 + 1)
        · rw [if_pos q3] at hpv
          refine ⟨0, _, rv_2 (d := d + 5) hR h31 tt n1 qw g5 m1 r1 r2 hv2.2.1 hzr.1 hzr.2 (by omega) q3 m2.2.2.1, FrC_t (FrC_x n3) (FrC_t (FrC_x m3) FrC_e), fun e' he => ⟨rfl, ?_⟩, fun z hz => ?_⟩
          · rw [hpv] at he; rw [← Sum.inl.inj he]; exact ErC_e
          · rw [hpv] at hz; cases hz
        · rw [if_neg q3] at hpv
          rw [r3] at hpv
          have hp3 := (@tT_g n (tT B n p1) B hp2).2.1
          obtain ⟨I3, o1, o2, o3⟩ := k_next (X := X) (d := d + 1) (c := c) (s := s) (L := L) hR m2.1 hp3 m2.2.2.2.1
          have hv3 := CVs_x hv2 hb o3
          generalize tT B n (tT B n p1) = p3 at hpv hp3 o2
          have qn3 := k_isNumber (X := X) (d := d + 4) (c := c) (s := s) (L := L) hR o2 (lo := 0) (hi := z.1)
          cases hnum3 : pNum B n 0 z.1 p3 with
          | inl e =>
            rw [hnum3] at hpv
            have hpv : pVar B n vs p = .inl e := hpv
            refine ⟨0, _, rv_3 (d := d + 5) hR h31 tt n1 qw g5 m1 r1 r2 hv2.2.1 hzr.1 hzr.2 hm0 (by omega) o1 (qn3.1 e hnum3), FrC_t (FrC_x n3) (FrC_t (FrC_x m3) (FrC_t (FrC_x o3) FrC_e)), fun e' he => ⟨rfl, ?_⟩, fun z hz => ?_⟩
            · rw [hpv] at he; rw [← Sum.inl.inj he]; exact ErC_e
            · rw [hpv] at hz; cases hz
          | inr y =>
            rw [hnum3] at hpv
            have hpv : pVar B n vs p = (match pSg B n 59 y.2 with
              | .inl e => .inl e
              | .inr p5 => .inr ((tN B n p1, z.1, y.1), p5)) := hpv
            obtain ⟨t1, t2, t3⟩ := qn3.2 y hnum3
            have qa := k_addVar (X := X) (d := d + 5) (c := c) (s := s) (L := L) hR hb (nm := vR 27 96 (tN B n p1)) (fi := y.1) hv3.1 hl hv3.2.1 hzr.1 hzr.2 hm0 (by omega)
            have hv4 := CVs_a (y := (tN B n p1, z.1, y.1)) hv3
            have FA : FrC b (b + 6) I3 (zu (zu (zu (zu (zu I3 (b + 5) vs.length (vR 27 96 (tN B n p1))) (b + 1) vs.length z.1) (b + 2) vs.length y.1) b 1 ((vs.length : Int) + 1)) b 4 (mPr vs * (z.1 + 1))) := FrC_t (FrC_t (FrC_t (FrC_t (FrC_u (by omega) (by omega) (by omega)) (FrC_u (by omega) (by omega) (by omega))) (FrC_u (by omega) (by omega) (by omega))) (FrC_u (by omega) (by omega) (by omega))) (FrC_u (by omega) (by omega) (by omega))
            have hT4 : TpC (zu (zu (zu (zu (zu I3 (b + 5) vs.length (vR 27 96 (tN B n p1))) (b + 1) vs.length z.1) (b + 2) vs.length y.1) b 1 ((vs.length : Int) + 1)) b 4 (mPr vs * (z.1 + 1))) B n p3 := TpC_u (TpC_u (TpC_u (TpC_u (TpC_u o2 (by omega)) (by omega)) (by omega)) (by omega)) (by omega)
            have hbk : ∀ k, k ≠ 1 → k ≠ 4 → zu (zu (zu (zu (zu I3 (b + 5) vs.length (vR 27 96 (tN B n p1))) (b + 1) vs.length z.1) (b + 2) vs.length y.1) b 1 ((vs.length : Int) + 1)) b 4 (mPr vs * (z.1 + 1)) b k = I b k := by
              intro k w1 w2
              rw [zu_k w2, zu_k w1, zu_n (by omega), zu_n (by omega), zu_n (by omega), o3.1 b (by omega), m3.1 b (by omega), n3.1 b (by omega)]
            have hv4 : CVs (zu (zu (zu (zu (zu I3 (b + 5) vs.length (vR 27 96 (tN B n p1))) (b + 1) vs.length z.1) (b + 2) vs.length y.1) b 1 ((vs.length : Int) + 1)) b 4 (mPr vs * (z.1 + 1))) b (vs ++ [(tN B n p1, z.1, y.1)]) := hv4
            generalize zu (zu (zu (zu (zu I3 (b + 5) vs.length (vR 27 96 (tN B n p1))) (b + 1) vs.length z.1) (b + 2) vs.length y.1) b 1 ((vs.length : Int) + 1)) b 4 (mPr vs * (z.1 + 1)) = I4 at qa hv4 FA hT4 hbk
            have hp4 := (@tT_g n p3 B hp3).2.1
            obtain ⟨I5, u1, u2, u3⟩ := k_next (X := X) (d := d + 1) (c := c) (s := s) (L := L) hR hT4.1 hp4 hT4.2.2.2.1
            obtain ⟨ya, J, v1, v2, v3, v4⟩ := k_passes (X := X) (d := d) (c := c) (s := s) (L := L) (lo := b) (hi := b) hR u2 (ch := 59) (Or.inr (by unfold isSg; omega))
            rw [← t3] at v3 v4
            refine ⟨ya, J, rv_4 (d := d + 5) hR h31 tt n1 qw g5 m1 r1 r2 hv2.2.1 hzr.1 hzr.2 hm0 (by omega) o1 t1 t2 qa u1 v1 (pS_01 v3 v4), FrC_t (FrC_x n3) (FrC_t (FrC_x m3) (FrC_t (FrC_x o3) (FrC_t FA (FrC_t (FrC_x u3) (FrC_w v2 (by omega) (by omega)))))), fun e' he => ?_, fun z' hz => ?_⟩
            · rw [hpv] at he
              cases hs : pSg B n 59 y.2 with
              | inl e2 => rw [hs] at he; rw [← Sum.inl.inj he]; exact v3 e2 hs
              | inr p5 => rw [hs] at he; cases he
            · have hVs := (hpo.2 z' hz).2.1
              rw [hpv] at hz
              cases hs : pSg B n 59 y.2 with
              | inl e2 => rw [hs] at hz; cases hz
              | inr p5 =>
                rw [hs] at hz
                have hz := Sum.inr.inj hz
                rw [← hz] at hVs ⊢
                obtain ⟨x1, x2⟩ := v4 p5 hs
                have eJ : ∀ k, 4 ≤ k → J k = I4 k := fun k hk => by rw [FrC_b v2 (by omega) hk, u3.1 k (by omega)]
                refine ⟨x1, ⟨x2, hR, h31, hb, CVs_c hv4 (by rw [eJ b (by omega)]) (by rw [eJ b (by omega)]) (eJ _ (by omega)) (eJ _ (by omega)) (eJ _ (by omega)), hVs⟩, fun k w1 w2 => ?_⟩
                rw [eJ b (by omega)]
                exact hbk k w1 w2
    · rw [if_neg q2] at hpv
      refine ⟨0, _, rv_0 (d := d + 5) hR n1 (nn_1 (d := d + 4) hR h31 tt g41 g5 g2 qv q2), FrC_t (FrC_x n3) FrC_e, fun e' he => ⟨rfl, ?_⟩, fun z hz => ?_⟩
      · rw [hpv] at he; rw [← Sum.inl.inj he]; exact ErC_e
      · rw [hpv] at hz; cases hz
  · rw [if_neg q1] at hpv
    refine ⟨0, _, rv_0 (d := d + 5) hR n1 (nn_0 (d := d + 4) hR g4 q1 g2), FrC_t (FrC_x n3) FrC_e, fun e' he => ⟨rfl, ?_⟩, fun z hz => ?_⟩
    · rw [hpv] at he; rw [← Sum.inl.inj he]; exact ErC_e
    · rw [hpv] at hz; cases hz
end
