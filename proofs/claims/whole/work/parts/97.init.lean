/-! The objects as they are made: terms, rules, models. -/
section
variable {X : ZX} {d c s : Nat} {I L I1 L1 I2 L2 J : ZI} {R R1 R2 R3 : ZR} {call : ZC} {n p b b1 t r lo hi : Nat} {x y : Int} {B : Nat → Int} {Q : Option ZV × ZS → Prop}
def FrZ (lo hi : Nat) (R R1 : ZR) : Prop := ∀ a, (a < lo ∨ hi ≤ a) → R1 a = R a
theorem FrZ_r : FrZ lo hi R R := fun _ _ => rfl
theorem FrZ_t (h1 : FrZ lo hi R R1) (h2 : FrZ lo hi R1 R2) : FrZ lo hi R R2 := fun a q => (h2 a q).trans (h1 a q)
theorem FrZ_w {lo1 hi1 : Nat} (h : FrZ lo hi R R1) (h1 : lo1 ≤ lo) (h2 : hi ≤ hi1) : FrZ lo1 hi1 R R1 := fun a q => h a (by omega)
theorem FrZ_u {a k : Nat} {v : Option Nat} (h0 : lo ≤ a) (h1 : a < hi) : FrZ lo hi R (zu R a k v) := fun e q => zu_n (by omega)
def QtR (R : ZR) (t : Nat) : Prop := R t 1 = some (t + 1) ∧ R t 2 = some (t + 2) ∧ R t 3 = some (t + 3)
theorem QtR_c (h : QtR R t) (hc : R1 t = R t) : QtR R1 t := by unfold QtR; rw [hc]; exact h
theorem k_iniQ (ht : zTm t) : ∃ R1, zrun X (d + 1) 73 [zr (some t)] (t + 1, s, I, L, R) = some (none, (t + 4, s + 9, I, L, R1)) ∧ QtR R1 t ∧ FrZ t (t + 1) R R1 := by
  obtain ⟨tt0, tt1, tt2, tt3⟩ := tt_terms ht
  have a1 : zT (t + 1) = (1, (3 : Int).toNat) := tt1
  have a2 : zT (t + 1 + 1) = (1, (3 : Int).toNat) := tt2
  have a3 : zT (t + 1 + 1 + 1) = (1, (3 : Int).toNat) := tt3
  clear ht tt1 tt2 tt3
  refine ⟨zu (zu (zu R t 1 (some (t + 1))) t 2 (some (t + 1 + 1))) t 3 (some (t + 1 + 1 + 1)), st_X9_init ?_, ⟨?_, ?_, zu_s⟩, FrZ_t (FrZ_t (FrZ_u (by omega) (by omega)) (FrZ_u (by omega) (by omega))) (FrZ_u (by omega) (by omega))⟩
  · simp (disch := omega) only [e_X9_init_0, e_X9_init_0x, e_X9_init_1, e_X9_init_4, e_X9_init_4x, e_X9_init_5, e_X9_init_6, e_X9_init_8, e_X9_init_11, e_X9_init_11x, e_X9_init_12, e_X9_init_13, e_X9_init_15, e_X9_init_18, e_X9_init_18x, e_X9_init_19, e_X9_init_20, e_X9_init_22, e_X9_init_25, zcll_s, zpush_s, zpush_n, zinv_i, zinv_l, zinv_r, zinv_x, zcats_nil, zcats_i, zcats_l, zcats_r, zcats_x, Nat.le_refl, and_self, true_and, and_true, zok_1, zok_20, zok_21, eq_self, Nat.reduceAdd, Nat.reduceLeDiff, Nat.zero_le, if_true, if_false, zw3_id, if_pos, if_neg, zand_t, tt0, a1, a2, a3]
    first | done | rfl
  · rw [zu_k (by omega), zu_k (by omega), zu_s]
  · rw [zu_k (by omega), zu_s]
def RuR (R : ZR) (r : Nat) : Prop := R r 1 = some (r + 1) ∧ R r 2 = some (r + 5) ∧ QtR R (r + 1) ∧ QtR R (r + 5)
theorem RuR_c (h : RuR R r) (hc : ∀ a, r ≤ a → a < r + 9 → R1 a = R a) : RuR R1 r := by
  obtain ⟨h1, h2, h3, h4⟩ := h
  exact ⟨by rw [hc r (by omega) (by omega)]; exact h1, by rw [hc r (by omega) (by omega)]; exact h2, QtR_c h3 (hc _ (by omega) (by omega)), QtR_c h4 (hc _ (by omega) (by omega))⟩
theorem iu_w (hr : (zT r).1 = 15) (t1 : zT (r + 1) = (19, 4)) (t5 : zT (r + 5) = (19, 4)) (q1 : call 73 [zr (some (r + 1))] (r + 1 + 1, s + 4, I, L, R) = some (none, (r + 5, s + 13, I, L, R1))) (q2 : call 73 [zr (some (r + 5))] (r + 5 + 1, s + 13 + 4, I, L, zu R1 r 1 (some (r + 1))) = some (none, (r + 9, s + 26, I, L, R2))) (l1 : r + 1 + 1 ≤ r + 5) (l2 : s + 4 ≤ s + 13) (l3 : r + 5 + 1 ≤ r + 9) (l4 : s + 13 + 4 ≤ s + 26) (hQ : Q (none, (r + 9, s + 26, I, L, zu R2 r 2 (some (r + 5))))) : V X call mX5_init 0 [zr (some r)] [] (r + 1, s, I, L, R) Q := by
  simp (disch := omega) only [e_X5_init_0, e_X5_init_0x, e_X5_init_1, e_X5_init_4, e_X5_init_4x, e_X5_init_5, e_X5_init_8, e_X5_init_8r, e_X5_init_9, e_X5_init_12, e_X5_init_15, e_X5_init_15x, e_X5_init_16, e_X5_init_19, e_X5_init_19r, e_X5_init_20, e_X5_init_23, e_X5_init_26, zcll_s, zpush_s, zpush_n, zinv_i, zinv_l, zinv_r, zinv_x, zcats_nil, zcats_i, zcats_l, zcats_r, zcats_x, Nat.le_refl, and_self, true_and, and_true, zok_1, zok_20, zok_21, eq_self, Nat.reduceAdd, Nat.reduceLeDiff, Nat.zero_le, if_true, if_false, zw3_id, if_pos, if_neg, zand_t, hr, t1, t5, q1, q2, l1, l2, l3, l4]
  exact hQ
theorem k_iniU (hb : b = 4 ∨ b = 135) {i : Nat} (hi : i < 12) : ∃ R1, zrun X (d + 2) 46 [zr (some (b + 6 + 9 * i))] (b + 6 + 9 * i + 1, s, I, L, R) = some (none, (b + 6 + 9 * i + 9, s + 26, I, L, R1)) ∧ RuR R1 (b + 6 + 9 * i) ∧ FrZ (b + 6 + 9 * i) (b + 6 + 9 * i + 9) R R1 := by
  have hr := tt_rule hb hi
  have t1 := tt_t1 b hb i hi
  have t5 := tt_t3 b hb i hi
  have ht1 : zTm (b + 6 + 9 * i + 1) := ⟨b, hb, Or.inl ⟨i, hi, Or.inl rfl⟩⟩
  have ht5 : zTm (b + 6 + 9 * i + 5) := ⟨b, hb, Or.inl ⟨i, hi, Or.inr rfl⟩⟩
  generalize b + 6 + 9 * i = r at hr t1 t5 ht1 ht5 ⊢
  obtain ⟨Ra, g1, g2, g3⟩ := k_iniQ (X := X) (d := d) (s := s + 4) (I := I) (L := L) (R := R) ht1
  obtain ⟨Rb, h1, h2, h3⟩ := k_iniQ (X := X) (d := d) (s := s + 13 + 4) (I := I) (L := L) (R := zu Ra r 1 (some (r + 1))) ht5
  refine ⟨zu Rb r 2 (some (r + 5)), st_X5_init (iu_w hr t1 t5 g1 h1 (by omega) (by omega) (by omega) (by omega) rfl), ⟨?_, zu_s, QtR_c g2 ?_, QtR_c h2 (zu_n (by omega))⟩, FrZ_t (FrZ_t (FrZ_w g3 (by omega) (by omega)) (FrZ_u (by omega) (by omega))) (FrZ_t (FrZ_w h3 (by omega) (by omega)) (FrZ_u (by omega) (by omega)))⟩
  · rw [zu_k (by omega), h3 r (by omega), zu_s]
  · rw [zu_n (by omega), h3 _ (by omega), zu_n (by omega)]
/-- a model's references, its rules below i, its goals below j -/
def MoR (R : ZR) (b i j : Nat) : Prop := (R b 5 = some (b + 1) ∧ R b 6 = some (b + 2) ∧ R b 7 = some (b + 3) ∧ R b 8 = some (b + 4) ∧ R b 9 = some (b + 5)) ∧ (∀ e, e < i → R (b + 3) e = some (b + 6 + 9 * e) ∧ RuR R (b + 6 + 9 * e)) ∧ ∀ e, e < j → R (b + 4) e = some (b + 114 + 4 * e) ∧ QtR R (b + 114 + 4 * e)
theorem im_r (hb : (zT b).1 = 11) (t3 : zT (b + 3) = (5, 12)) {i : Nat} (hi : i < 12) (h7 : R b 7 = some (b + 3)) (tr : zT (b + 6 + 9 * i) = (15, 3)) (q1 : call 46 [zr (some (b + 6 + 9 * i))] (b + 6 + 9 * i + 1, s + 3, I, L, R) = some (none, (b + 6 + 9 * i + 9, s + 29, I, L, R1))) (l1 : b + 6 + 9 * i + 1 ≤ b + 6 + 9 * i + 9) (l2 : s + 3 ≤ s + 29) (hQ : V X call mX1_init 49 [zr (some b), zi ((i : Int) + 1)] [] (b + 6 + 9 * i + 9, s + 29, I, L, zu R1 (b + 3) i (some (b + 6 + 9 * i))) Q) : V X call mX1_init 49 [zr (some b), zi (i : Int)] [] (b + 6 + 9 * i, s, I, L, R) Q := by
  rw [e_X1_init_49]
  simp (disch := omega) only [e_X1_init_0, e_X1_init_0x, e_X1_init_1, e_X1_init_4, e_X1_init_4x, e_X1_init_5, e_X1_init_6, e_X1_init_9, e_X1_init_9x, e_X1_init_10, e_X1_init_11, e_X1_init_13, e_X1_init_16, e_X1_init_16x, e_X1_init_17, e_X1_init_18, e_X1_init_20, e_X1_init_23, e_X1_init_23x, e_X1_init_24, e_X1_init_26, e_X1_init_29, e_X1_init_32, e_X1_init_32x, e_X1_init_33, e_X1_init_34, e_X1_init_37, e_X1_init_40, e_X1_init_40x, e_X1_init_41, e_X1_init_42, e_X1_init_44, e_X1_init_47, e_X1_init_48, e_X1_init_50, e_X1_init_52, e_X1_init_55, e_X1_init_55x, e_X1_init_56, e_X1_init_59, e_X1_init_60, e_X1_init_63, e_X1_init_63r, e_X1_init_64, e_X1_init_67, e_X1_init_68, e_X1_init_71, e_X1_init_74, e_X1_init_75, e_X1_init_77, e_X1_init_78, e_X1_init_81, e_X1_init_81x, e_X1_init_82, e_X1_init_85, e_X1_init_86, e_X1_init_89, e_X1_init_89r, e_X1_init_90, e_X1_init_93, e_X1_init_94, e_X1_init_97, e_X1_init_100, zcll_s, zpush_s, zpush_n, zinv_i, zinv_l, zinv_r, zinv_x, zcats_nil, zcats_i, zcats_l, zcats_r, zcats_x, Nat.le_refl, and_self, true_and, and_true, zok_1, zok_20, zok_21, eq_self, Nat.reduceAdd, Nat.reduceLeDiff, Nat.zero_le, if_true, if_false, zw3_id, if_pos, if_neg, zand_t, hb, t3, h7, tr, q1, l1, l2, Int.toNat_natCast, or_true, true_or]
  exact hQ
theorem im_g (hb : (zT b).1 = 11) (t3 : zT (b + 4) = (6, 4)) {i : Nat} (hi : i < 4) (h7 : R b 8 = some (b + 4)) (tr : zT (b + 114 + 4 * i) = (19, 4)) (q1 : call 73 [zr (some (b + 114 + 4 * i))] (b + 114 + 4 * i + 1, s + 4, I, L, R) = some (none, (b + 114 + 4 * i + 4, s + 13, I, L, R1))) (l1 : b + 114 + 4 * i + 1 ≤ b + 114 + 4 * i + 4) (l2 : s + 4 ≤ s + 13) (n6 : ¬ (6 : Nat) = 5) (hQ : V X call mX1_init 76 [zr (some b), zi ((i : Int) + 1)] [] (b + 114 + 4 * i + 4, s + 13, I, L, zu R1 (b + 4) i (some (b + 114 + 4 * i))) Q) : V X call mX1_init 76 [zr (some b), zi (i : Int)] [] (b + 114 + 4 * i, s, I, L, R) Q := by
  rw [e_X1_init_76]
  simp (disch := omega) only [e_X1_init_0, e_X1_init_0x, e_X1_init_1, e_X1_init_4, e_X1_init_4x, e_X1_init_5, e_X1_init_6, e_X1_init_9, e_X1_init_9x, e_X1_init_10, e_X1_init_11, e_X1_init_13, e_X1_init_16, e_X1_init_16x, e_X1_init_17, e_X1_init_18, e_X1_init_20, e_X1_init_23, e_X1_init_23x, e_X1_init_24, e_X1_init_26, e_X1_init_29, e_X1_init_32, e_X1_init_32x, e_X1_init_33, e_X1_init_34, e_X1_init_37, e_X1_init_40, e_X1_init_40x, e_X1_init_41, e_X1_init_42, e_X1_init_44, e_X1_init_47, e_X1_init_48, e_X1_init_50, e_X1_init_52, e_X1_init_55, e_X1_init_55x, e_X1_init_56, e_X1_init_59, e_X1_init_60, e_X1_init_63, e_X1_init_63r, e_X1_init_64, e_X1_init_67, e_X1_init_68, e_X1_init_71, e_X1_init_74, e_X1_init_75, e_X1_init_77, e_X1_init_78, e_X1_init_81, e_X1_init_81x, e_X1_init_82, e_X1_init_85, e_X1_init_86, e_X1_init_89, e_X1_init_89r, e_X1_init_90, e_X1_init_93, e_X1_init_94, e_X1_init_97, e_X1_init_100, zcll_s, zpush_s, zpush_n, zinv_i, zinv_l, zinv_r, zinv_x, zcats_nil, zcats_i, zcats_l, zcats_r, zcats_x, Nat.le_refl, and_self, true_and, and_true, zok_1, zok_20, zok_21, eq_self, Nat.reduceAdd, Nat.reduceLeDiff, Nat.zero_le, if_true, if_false, zw3_id, if_pos, if_neg, zand_t, hb, t3, h7, tr, q1, l1, l2, Int.toNat_natCast, or_true, true_or]
  exact hQ
theorem tt_rule2 {i : Nat} (hb : b = 4 ∨ b = 135) (hi : i < 12) : zT (b + 6 + 9 * i) = (15, 3) := by
  have : ∀ b, b = 4 ∨ b = 135 → ∀ i, i < 12 → zT (b + 6 + 9 * i) = (15, 3) := by
    intro b hb
    rcases hb with rfl | rfl <;> decide +kernel
  exact this b hb i hi
theorem q_iniR (hb : b = 4 ∨ b = 135) {R0 : ZR} : ∀ (j i s : Nat) (R : ZR), i + j = 12 → MoR R b i 0 → FrZ b (b + 130) R0 R → (∀ R1, MoR R1 b 12 0 → FrZ b (b + 130) R0 R1 → V X (zrun X (d + 2)) mX1_init 76 [zr (some b), zi 0] [] (b + 114, s + 29 * j, I, L, R1) Q) → V X (zrun X (d + 2)) mX1_init 49 [zr (some b), zi (i : Int)] [] (b + 6 + 9 * i, s, I, L, R) Q := by
  have tt := tt_model hb
  intro j
  induction j with
  | zero =>
    intro i s R h1 h2 h3 hQ
    have e : i = 12 := by omega
    subst e
    have nx := hQ R h2 h3
    have nx : V X (zrun X (d + 2)) mX1_init 76 [zr (some b), zi 0] [] (b + 6 + 9 * 12, s, I, L, R) Q := nx
    rw [e_X1_init_49]
    clear hb h2 h3 hQ
    simp (disch := omega) only [e_X1_init_0, e_X1_init_0x, e_X1_init_1, e_X1_init_4, e_X1_init_4x, e_X1_init_5, e_X1_init_6, e_X1_init_9, e_X1_init_9x, e_X1_init_10, e_X1_init_11, e_X1_init_13, e_X1_init_16, e_X1_init_16x, e_X1_init_17, e_X1_init_18, e_X1_init_20, e_X1_init_23, e_X1_init_23x, e_X1_init_24, e_X1_init_26, e_X1_init_29, e_X1_init_32, e_X1_init_32x, e_X1_init_33, e_X1_init_34, e_X1_init_37, e_X1_init_40, e_X1_init_40x, e_X1_init_41, e_X1_init_42, e_X1_init_44, e_X1_init_47, e_X1_init_48, e_X1_init_50, e_X1_init_52, e_X1_init_55, e_X1_init_55x, e_X1_init_56, e_X1_init_59, e_X1_init_60, e_X1_init_63, e_X1_init_63r, e_X1_init_64, e_X1_init_67, e_X1_init_68, e_X1_init_71, e_X1_init_74, e_X1_init_75, e_X1_init_77, e_X1_init_78, e_X1_init_81, e_X1_init_81x, e_X1_init_82, e_X1_init_85, e_X1_init_86, e_X1_init_89, e_X1_init_89r, e_X1_init_90, e_X1_init_93, e_X1_init_94, e_X1_init_97, e_X1_init_100, zcll_s, zpush_s, zpush_n, zinv_i, zinv_l, zinv_r, zinv_x, zcats_nil, zcats_i, zcats_l, zcats_r, zcats_x, Nat.le_refl, and_self, true_and, and_true, zok_1, zok_20, zok_21, eq_self, Nat.reduceAdd, Nat.reduceLeDiff, Nat.zero_le, if_true, if_false, zw3_id, if_pos, if_neg, zand_t]
    exact nx
  | succ j ih =>
    intro i s R h1 h2 h3 hQ
    obtain ⟨R1, g1, g2, g3⟩ := k_iniU (X := X) (d := d) (s := s + 3) (I := I) (L := L) (R := R) hb (i := i) (by omega)
    have hM : MoR (zu R1 (b + 3) i (some (b + 6 + 9 * i))) b (i + 1) 0 := by
      obtain ⟨m1, m2, m3⟩ := h2
      have eb : ∀ a, a < b + 6 + 9 * i → R1 a = R a := fun a q => g3 a (by omega)
      refine ⟨?_, fun e he => ?_, fun e he => absurd he (by omega)⟩
      · rw [zu_n (by omega), eb b (by omega)]; exact m1
      · by_cases q : e = i
        · subst q
          exact ⟨zu_s, RuR_c g2 (fun a q1 q2 => zu_n (by omega))⟩
        · rw [zu_k q, eb _ (by omega)]
          exact ⟨(m2 e (by omega)).1, RuR_c (m2 e (by omega)).2 (fun a q1 q2 => by rw [zu_n (by omega), eb a (by omega)])⟩
    have nx := ih (i + 1) (s + 29) (zu R1 (b + 3) i (some (b + 6 + 9 * i))) (by omega) hM (FrZ_t h3 (FrZ_t (FrZ_w g3 (by omega) (by omega)) (FrZ_u (by omega) (by omega)))) (fun R2 k1 k2 => by
      have := hQ R2 k1 k2
      rw [show s + 29 + 29 * j = s + 29 * (j + 1) by omega]
      exact this)
    rw [show ((i + 1 : Nat) : Int) = (i : Int) + 1 by omega, show b + 6 + 9 * (i + 1) = b + 6 + 9 * i + 9 by omega] at nx
    exact im_r tt.1 tt.2.2.2.1 (by omega) h2.1.2.2.1 (tt_rule2 hb (by omega)) g1 (by omega) (by omega) nx
theorem q_iniG (hb : b = 4 ∨ b = 135) {R0 : ZR} : ∀ (j i s : Nat) (R : ZR), i + j = 4 → MoR R b 12 i → FrZ b (b + 130) R0 R → (∀ R1, MoR R1 b 12 4 → FrZ b (b + 130) R0 R1 → Q (none, (b + 130, s + 13 * j, I, L, R1))) → V X (zrun X (d + 1)) mX1_init 76 [zr (some b), zi (i : Int)] [] (b + 114 + 4 * i, s, I, L, R) Q := by
  have tt := tt_model hb
  intro j
  induction j with
  | zero =>
    intro i s R h1 h2 h3 hQ
    have e : i = 4 := by omega
    subst e
    have nx := hQ R h2 h3
    rw [e_X1_init_76]
    clear hb h2 h3 hQ
    simp (disch := omega) only [e_X1_init_0, e_X1_init_0x, e_X1_init_1, e_X1_init_4, e_X1_init_4x, e_X1_init_5, e_X1_init_6, e_X1_init_9, e_X1_init_9x, e_X1_init_10, e_X1_init_11, e_X1_init_13, e_X1_init_16, e_X1_init_16x, e_X1_init_17, e_X1_init_18, e_X1_init_20, e_X1_init_23, e_X1_init_23x, e_X1_init_24, e_X1_init_26, e_X1_init_29, e_X1_init_32, e_X1_init_32x, e_X1_init_33, e_X1_init_34, e_X1_init_37, e_X1_init_40, e_X1_init_40x, e_X1_init_41, e_X1_init_42, e_X1_init_44, e_X1_init_47, e_X1_init_48, e_X1_init_50, e_X1_init_52, e_X1_init_55, e_X1_init_55x, e_X1_init_56, e_X1_init_59, e_X1_init_60, e_X1_init_63, e_X1_init_63r, e_X1_init_64, e_X1_init_67, e_X1_init_68, e_X1_init_71, e_X1_init_74, e_X1_init_75, e_X1_init_77, e_X1_init_78, e_X1_init_81, e_X1_init_81x, e_X1_init_82, e_X1_init_85, e_X1_init_86, e_X1_init_89, e_X1_init_89r, e_X1_init_90, e_X1_init_93, e_X1_init_94, e_X1_init_97, e_X1_init_100, zcll_s, zpush_s, zpush_n, zinv_i, zinv_l, zinv_r, zinv_x, zcats_nil, zcats_i, zcats_l, zcats_r, zcats_x, Nat.le_refl, and_self, true_and, and_true, zok_1, zok_20, zok_21, eq_self, Nat.reduceAdd, Nat.reduceLeDiff, Nat.zero_le, if_true, if_false, zw3_id, if_pos, if_neg, zand_t]
    exact nx
  | succ j ih =>
    intro i s R h1 h2 h3 hQ
    obtain ⟨R1, g1, g2, g3⟩ := k_iniQ (X := X) (d := d) (s := s + 4) (I := I) (L := L) (R := R) (t := b + 114 + 4 * i) ⟨b, hb, Or.inr ⟨i, by omega, rfl⟩⟩
    have hM : MoR (zu R1 (b + 4) i (some (b + 114 + 4 * i))) b 12 (i + 1) := by
      obtain ⟨m1, m2, m3⟩ := h2
      have eb : ∀ a, a < b + 114 + 4 * i → R1 a = R a := fun a q => g3 a (by omega)
      refine ⟨?_, fun e he => ?_, fun e he => ?_⟩
      · rw [zu_n (by omega), eb b (by omega)]; exact m1
      · rw [zu_n (by omega), eb _ (by omega)]
        exact ⟨(m2 e he).1, RuR_c (m2 e he).2 (fun a q1 q2 => by rw [zu_n (by omega), eb a (by omega)])⟩
      · by_cases q : e = i
        · subst q
          exact ⟨zu_s, QtR_c g2 (zu_n (by omega))⟩
        · rw [zu_k q, eb _ (by omega)]
          exact ⟨(m3 e (by omega)).1, QtR_c (m3 e (by omega)).2 (by rw [zu_n (by omega), eb _ (by omega)])⟩
    have nx := ih (i + 1) (s + 13) (zu R1 (b + 4) i (some (b + 114 + 4 * i))) (by omega) hM (FrZ_t h3 (FrZ_t (FrZ_w g3 (by omega) (by omega)) (FrZ_u (by omega) (by omega)))) (fun R2 k1 k2 => by
      have := hQ R2 k1 k2
      rw [show s + 13 + 13 * j = s + 13 * (j + 1) by omega]
      exact this)
    rw [show ((i + 1 : Nat) : Int) = (i : Int) + 1 by omega, show b + 114 + 4 * (i + 1) = b + 114 + 4 * i + 4 by omega] at nx
    exact im_g tt.1 tt.2.2.2.2.1 (by omega) h2.1.2.2.2.1 (tt_t5 b hb i (by omega)) g1 (by omega) (by omega) (by omega) nx
theorem im_0 (hb : (zT b).1 = 11) (a1 : zT (b + 1) = (1, (4 : Int).toNat)) (a2 : zT (b + 1 + 1) = (1, (4 : Int).toNat)) (a3 : zT (b + 1 + 1 + 1) = (5, (12 : Int).toNat)) (a4 : zT (b + 1 + 1 + 1 + 1) = (6, (4 : Int).toNat)) (a5 : zT (b + 1 + 1 + 1 + 1 + 1) = (1, (4 : Int).toNat)) (hQ : V X call mX1_init 49 [zr (some b), zi 0] [] (b + 1 + 1 + 1 + 1 + 1 + 1, s + (4 : Int).toNat + (4 : Int).toNat + (12 : Int).toNat + (4 : Int).toNat + (4 : Int).toNat, zu I b 4 1, L, zu (zu (zu (zu (zu R b 5 (some (b + 1))) b 6 (some (b + 1 + 1))) b 7 (some (b + 1 + 1 + 1))) b 8 (some (b + 1 + 1 + 1 + 1))) b 9 (some (b + 1 + 1 + 1 + 1 + 1))) Q) : V X call mX1_init 0 [zr (some b), zx 0] [] (b + 1, s, I, L, R) Q := by
  simp (disch := omega) only [e_X1_init_0, e_X1_init_0x, e_X1_init_1, e_X1_init_4, e_X1_init_4x, e_X1_init_5, e_X1_init_6, e_X1_init_9, e_X1_init_9x, e_X1_init_10, e_X1_init_11, e_X1_init_13, e_X1_init_16, e_X1_init_16x, e_X1_init_17, e_X1_init_18, e_X1_init_20, e_X1_init_23, e_X1_init_23x, e_X1_init_24, e_X1_init_26, e_X1_init_29, e_X1_init_32, e_X1_init_32x, e_X1_init_33, e_X1_init_34, e_X1_init_37, e_X1_init_40, e_X1_init_40x, e_X1_init_41, e_X1_init_42, e_X1_init_44, e_X1_init_47, e_X1_init_48, e_X1_init_50, e_X1_init_52, e_X1_init_55, e_X1_init_55x, e_X1_init_56, e_X1_init_59, e_X1_init_60, e_X1_init_63, e_X1_init_63r, e_X1_init_64, e_X1_init_67, e_X1_init_68, e_X1_init_71, e_X1_init_74, e_X1_init_75, e_X1_init_77, e_X1_init_78, e_X1_init_81, e_X1_init_81x, e_X1_init_82, e_X1_init_85, e_X1_init_86, e_X1_init_89, e_X1_init_89r, e_X1_init_90, e_X1_init_93, e_X1_init_94, e_X1_init_97, e_X1_init_100, zcll_s, zpush_s, zpush_n, zinv_i, zinv_l, zinv_r, zinv_x, zcats_nil, zcats_i, zcats_l, zcats_r, zcats_x, Nat.le_refl, and_self, true_and, and_true, zok_1, zok_20, zok_21, eq_self, Nat.reduceAdd, Nat.reduceLeDiff, Nat.zero_le, if_true, if_false, zw3_id, if_pos, if_neg, zand_t, hb, a1, a2, a3, a4, a5]
  exact hQ
theorem k_iniM (hb : b = 4 ∨ b = 135) : ∃ R1, zrun X (d + 3) 5 [zr (some b)] (b + 1, s, I, L, R) = some (none, (b + 130, s + 428, zu I b 4 1, L, R1)) ∧ MoR R1 b 12 4 ∧ FrZ b (b + 130) R R1 := by
  have pr := sx_X1_init (X := X) (d := d + 2) (u0 := some b) (σ := (b + 1, s, I, L, R)) (P := fun q => ∃ R1, q = (none, (b + 130, s + 428, zu I b 4 1, L, R1)) ∧ MoR R1 b 12 4 ∧ FrZ b (b + 130) R R1) ?_
  · obtain ⟨r, q1, R1, q2, q3⟩ := pr
    exact ⟨R1, by rw [q1, q2], q3⟩
  · obtain ⟨tt0, tt1, tt2, tt3, tt4, tt5⟩ := tt_model hb
    refine im_0 tt0 tt1 tt2 tt3 tt4 tt5 ?_
    have m0 : MoR (zu (zu (zu (zu (zu R b 5 (some (b + 1))) b 6 (some (b + 1 + 1))) b 7 (some (b + 1 + 1 + 1))) b 8 (some (b + 1 + 1 + 1 + 1))) b 9 (some (b + 1 + 1 + 1 + 1 + 1))) b 0 0 := by
      refine ⟨⟨?_, ?_, ?_, ?_, zu_s⟩, fun e he => absurd he (by omega), fun e he => absurd he (by omega)⟩
      · rw [zu_k (by omega), zu_k (by omega), zu_k (by omega), zu_k (by omega), zu_s]
      · rw [zu_k (by omega), zu_k (by omega), zu_k (by omega), zu_s]
      · rw [zu_k (by omega), zu_k (by omega), zu_s]
      · rw [zu_k (by omega), zu_s]
    have f0 : FrZ b (b + 130) R (zu (zu (zu (zu (zu R b 5 (some (b + 1))) b 6 (some (b + 1 + 1))) b 7 (some (b + 1 + 1 + 1))) b 8 (some (b + 1 + 1 + 1 + 1))) b 9 (some (b + 1 + 1 + 1 + 1 + 1))) := FrZ_t (FrZ_t (FrZ_t (FrZ_t (FrZ_u (by omega) (by omega)) (FrZ_u (by omega) (by omega))) (FrZ_u (by omega) (by omega))) (FrZ_u (by omega) (by omega))) (FrZ_u (by omega) (by omega))
    have nx := q_iniR (X := X) (d := d) (I := zu I b 4 1) (L := L) (Q := fun q => ∃ R1, q = (none, (b + 130, s + 428, zu I b 4 1, L, R1)) ∧ MoR R1 b 12 4 ∧ FrZ b (b + 130) R R1) hb 12 0 (s + 28) _ rfl m0 f0 (fun R1 k1 k2 => q_iniG (X := X) (d := d + 1) hb 4 0 (s + 28 + 29 * 12) R1 rfl k1 k2 (fun R2 k3 k4 => ⟨R2, rfl, k3, k4⟩))
    exact nx
end
