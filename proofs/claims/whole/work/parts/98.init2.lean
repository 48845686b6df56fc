/-! The class's object as it is made: sums' tables, the other parts. -/
section
variable {X : ZX} {d c s : Nat} {I L I1 L1 I2 L2 J : ZI} {R R1 R2 R3 : ZR} {call : ZC} {n p b b1 t r lo hi : Nat} {x y : Int} {B : Nat → Int} {Q : Option ZV × ZS → Prop}
theorem tt_pow2 {i : Nat} (hi : i ≤ 10) : zT (279 + i) = (2, 17) := by
  have : ∀ i, i < 11 → zT (279 + i) = (2, 17) := by decide +kernel
  exact this i (by omega)
theorem tt_cho2 {i : Nat} (hi : i ≤ 14) : zT (291 + i) = (2, 15) := by
  have : ∀ i, i < 15 → zT (291 + i) = (2, 15) := by decide +kernel
  exact this i (by omega)
theorem w_pow {i k : Nat} {v w : Int} (hi : i ≤ 10) (hk0 : 1 ≤ k) (hk : k ≤ 16) (h0 : R 277 0 = some 278) (hr : R 278 i = some (279 + i)) (ti : zT (279 + i) = (2, 17)) (hv : L (279 + i) ((k : Int) - 1).toNat = v) (hw : zw6 (v * (i : Int)) = w) (hQ : V X call mX2_init 47 [zr (some 277), zi (i : Int), zi ((k : Int) + 1)] [] (c, s, I, zu L (279 + i) k w, R) Q) : V X call mX2_init 47 [zr (some 277), zi (i : Int), zi (k : Int)] [] (c, s, I, L, R) Q := by
  rw [e_X2_init_47]
  simp (disch := omega) only [e_X2_init_0, e_X2_init_0x, e_X2_init_1, e_X2_init_4, e_X2_init_4x, e_X2_init_5, e_X2_init_7, e_X2_init_9, e_X2_init_13, e_X2_init_16, e_X2_init_16x, e_X2_init_17, e_X2_init_19, e_X2_init_21, e_X2_init_25, e_X2_init_28, e_X2_init_29, e_X2_init_31, e_X2_init_33, e_X2_init_36, e_X2_init_36x, e_X2_init_37, e_X2_init_40, e_X2_init_41, e_X2_init_42, e_X2_init_43, e_X2_init_44, e_X2_init_45, e_X2_init_46, e_X2_init_48, e_X2_init_50, e_X2_init_53, e_X2_init_53x, e_X2_init_54, e_X2_init_57, e_X2_init_58, e_X2_init_59, e_X2_init_60, e_X2_init_60x, e_X2_init_61, e_X2_init_64, e_X2_init_65, e_X2_init_66, e_X2_init_67, e_X2_init_68, e_X2_init_69, e_X2_init_70, e_X2_init_71, e_X2_init_72, e_X2_init_73, e_X2_init_74, e_X2_init_77, e_X2_init_80, e_X2_init_83, e_X2_init_86, e_X2_init_87, e_X2_init_89, e_X2_init_91, e_X2_init_94, e_X2_init_94x, e_X2_init_95, e_X2_init_98, e_X2_init_99, e_X2_init_100, e_X2_init_101, e_X2_init_102, e_X2_init_103, e_X2_init_104, e_X2_init_106, e_X2_init_107, e_X2_init_110, e_X2_init_110x, e_X2_init_111, e_X2_init_114, e_X2_init_115, e_X2_init_116, e_X2_init_117, e_X2_init_117x, e_X2_init_118, e_X2_init_121, e_X2_init_122, e_X2_init_123, e_X2_init_124, e_X2_init_125, e_X2_init_126, e_X2_init_127, e_X2_init_128, e_X2_init_129, e_X2_init_129x, e_X2_init_130, e_X2_init_133, e_X2_init_134, e_X2_init_135, e_X2_init_136, e_X2_init_137, e_X2_init_138, e_X2_init_139, e_X2_init_140, e_X2_init_141, e_X2_init_144, e_X2_init_147, e_X2_init_150, e_X2_init_153, zcll_s, zpush_s, zpush_n, zinv_i, zinv_l, zinv_r, zinv_x, zcats_nil, zcats_i, zcats_l, zcats_r, zcats_x, Nat.le_refl, and_self, true_and, and_true, zok_1, zok_20, zok_21, eq_self, Nat.reduceAdd, Nat.reduceLeDiff, Nat.zero_le, if_true, if_false, zw3_id, if_pos, if_neg, zand_t, tg_277, tg_278, tn_278, h0, Int.toNat_natCast, hr, ti, hv, hw]
  exact hQ
theorem w_pow0 {i : Nat} (hi : i ≤ 10) (h0 : R 277 0 = some 278) (hr : R 278 i = some (279 + i)) (ti : zT (279 + i) = (2, 17)) {v2 : ZV} (e0 : (0 : Int).toNat = 0) (hQ : V X call mX2_init 47 [zr (some 277), zi (i : Int), zi 1] [] (c, s, I, zu L (279 + i) 0 1, R) Q) : V X call mX2_init 30 [zr (some 277), zi (i : Int), v2] [] (c, s, I, L, R) Q := by
  rw [e_X2_init_30]
  simp (disch := omega) only [e_X2_init_0, e_X2_init_0x, e_X2_init_1, e_X2_init_4, e_X2_init_4x, e_X2_init_5, e_X2_init_7, e_X2_init_9, e_X2_init_13, e_X2_init_16, e_X2_init_16x, e_X2_init_17, e_X2_init_19, e_X2_init_21, e_X2_init_25, e_X2_init_28, e_X2_init_29, e_X2_init_31, e_X2_init_33, e_X2_init_36, e_X2_init_36x, e_X2_init_37, e_X2_init_40, e_X2_init_41, e_X2_init_42, e_X2_init_43, e_X2_init_44, e_X2_init_45, e_X2_init_46, e_X2_init_48, e_X2_init_50, e_X2_init_53, e_X2_init_53x, e_X2_init_54, e_X2_init_57, e_X2_init_58, e_X2_init_59, e_X2_init_60, e_X2_init_60x, e_X2_init_61, e_X2_init_64, e_X2_init_65, e_X2_init_66, e_X2_init_67, e_X2_init_68, e_X2_init_69, e_X2_init_70, e_X2_init_71, e_X2_init_72, e_X2_init_73, e_X2_init_74, e_X2_init_77, e_X2_init_80, e_X2_init_83, e_X2_init_86, e_X2_init_87, e_X2_init_89, e_X2_init_91, e_X2_init_94, e_X2_init_94x, e_X2_init_95, e_X2_init_98, e_X2_init_99, e_X2_init_100, e_X2_init_101, e_X2_init_102, e_X2_init_103, e_X2_init_104, e_X2_init_106, e_X2_init_107, e_X2_init_110, e_X2_init_110x, e_X2_init_111, e_X2_init_114, e_X2_init_115, e_X2_init_116, e_X2_init_117, e_X2_init_117x, e_X2_init_118, e_X2_init_121, e_X2_init_122, e_X2_init_123, e_X2_init_124, e_X2_init_125, e_X2_init_126, e_X2_init_127, e_X2_init_128, e_X2_init_129, e_X2_init_129x, e_X2_init_130, e_X2_init_133, e_X2_init_134, e_X2_init_135, e_X2_init_136, e_X2_init_137, e_X2_init_138, e_X2_init_139, e_X2_init_140, e_X2_init_141, e_X2_init_144, e_X2_init_147, e_X2_init_150, e_X2_init_153, zcll_s, zpush_s, zpush_n, zinv_i, zinv_l, zinv_r, zinv_x, zcats_nil, zcats_i, zcats_l, zcats_r, zcats_x, Nat.le_refl, and_self, true_and, and_true, zok_1, zok_20, zok_21, eq_self, Nat.reduceAdd, Nat.reduceLeDiff, Nat.zero_le, if_true, if_false, zw3_id, if_pos, if_neg, zand_t, tg_277, tg_278, tn_278, h0, Int.toNat_natCast, hr, ti, e0]
  exact hQ
theorem w_pow1 {i k : Int} (hk : 16 < k) (hi0 : 0 ≤ i) (hi : i ≤ 10) (hQ : V X call mX2_init 30 [zr (some 277), zi (i + 1), zi k] [] (c, s, I, L, R) Q) : V X call mX2_init 47 [zr (some 277), zi i, zi k] [] (c, s, I, L, R) Q := by
  rw [e_X2_init_47]
  simp (disch := omega) only [e_X2_init_0, e_X2_init_0x, e_X2_init_1, e_X2_init_4, e_X2_init_4x, e_X2_init_5, e_X2_init_7, e_X2_init_9, e_X2_init_13, e_X2_init_16, e_X2_init_16x, e_X2_init_17, e_X2_init_19, e_X2_init_21, e_X2_init_25, e_X2_init_28, e_X2_init_29, e_X2_init_31, e_X2_init_33, e_X2_init_36, e_X2_init_36x, e_X2_init_37, e_X2_init_40, e_X2_init_41, e_X2_init_42, e_X2_init_43, e_X2_init_44, e_X2_init_45, e_X2_init_46, e_X2_init_48, e_X2_init_50, e_X2_init_53, e_X2_init_53x, e_X2_init_54, e_X2_init_57, e_X2_init_58, e_X2_init_59, e_X2_init_60, e_X2_init_60x, e_X2_init_61, e_X2_init_64, e_X2_init_65, e_X2_init_66, e_X2_init_67, e_X2_init_68, e_X2_init_69, e_X2_init_70, e_X2_init_71, e_X2_init_72, e_X2_init_73, e_X2_init_74, e_X2_init_77, e_X2_init_80, e_X2_init_83, e_X2_init_86, e_X2_init_87, e_X2_init_89, e_X2_init_91, e_X2_init_94, e_X2_init_94x, e_X2_init_95, e_X2_init_98, e_X2_init_99, e_X2_init_100, e_X2_init_101, e_X2_init_102, e_X2_init_103, e_X2_init_104, e_X2_init_106, e_X2_init_107, e_X2_init_110, e_X2_init_110x, e_X2_init_111, e_X2_init_114, e_X2_init_115, e_X2_init_116, e_X2_init_117, e_X2_init_117x, e_X2_init_118, e_X2_init_121, e_X2_init_122, e_X2_init_123, e_X2_init_124, e_X2_init_125, e_X2_init_126, e_X2_init_127, e_X2_init_128, e_X2_init_129, e_X2_init_129x, e_X2_init_130, e_X2_init_133, e_X2_init_134, e_X2_init_135, e_X2_init_136, e_X2_init_137, e_X2_init_138, e_X2_init_139, e_X2_init_140, e_X2_init_141, e_X2_init_144, e_X2_init_147, e_X2_init_150, e_X2_init_153, zcll_s, zpush_s, zpush_n, zinv_i, zinv_l, zinv_r, zinv_x, zcats_nil, zcats_i, zcats_l, zcats_r, zcats_x, Nat.le_refl, and_self, true_and, and_true, zok_1, zok_20, zok_21, eq_self, Nat.reduceAdd, Nat.reduceLeDiff, Nat.zero_le, if_true, if_false, zw3_id, if_pos, if_neg, zand_t]
  exact hQ
theorem w_pow2 {i : Int} (hi : 10 < i) {v2 : ZV} (hQ : V X call mX2_init 88 [zr (some 277), zi 0, v2] [] (c, s, I, L, R) Q) : V X call mX2_init 30 [zr (some 277), zi i, v2] [] (c, s, I, L, R) Q := by
  rw [e_X2_init_30]
  simp (disch := omega) only [e_X2_init_0, e_X2_init_0x, e_X2_init_1, e_X2_init_4, e_X2_init_4x, e_X2_init_5, e_X2_init_7, e_X2_init_9, e_X2_init_13, e_X2_init_16, e_X2_init_16x, e_X2_init_17, e_X2_init_19, e_X2_init_21, e_X2_init_25, e_X2_init_28, e_X2_init_29, e_X2_init_31, e_X2_init_33, e_X2_init_36, e_X2_init_36x, e_X2_init_37, e_X2_init_40, e_X2_init_41, e_X2_init_42, e_X2_init_43, e_X2_init_44, e_X2_init_45, e_X2_init_46, e_X2_init_48, e_X2_init_50, e_X2_init_53, e_X2_init_53x, e_X2_init_54, e_X2_init_57, e_X2_init_58, e_X2_init_59, e_X2_init_60, e_X2_init_60x, e_X2_init_61, e_X2_init_64, e_X2_init_65, e_X2_init_66, e_X2_init_67, e_X2_init_68, e_X2_init_69, e_X2_init_70, e_X2_init_71, e_X2_init_72, e_X2_init_73, e_X2_init_74, e_X2_init_77, e_X2_init_80, e_X2_init_83, e_X2_init_86, e_X2_init_87, e_X2_init_89, e_X2_init_91, e_X2_init_94, e_X2_init_94x, e_X2_init_95, e_X2_init_98, e_X2_init_99, e_X2_init_100, e_X2_init_101, e_X2_init_102, e_X2_init_103, e_X2_init_104, e_X2_init_106, e_X2_init_107, e_X2_init_110, e_X2_init_110x, e_X2_init_111, e_X2_init_114, e_X2_init_115, e_X2_init_116, e_X2_init_117, e_X2_init_117x, e_X2_init_118, e_X2_init_121, e_X2_init_122, e_X2_init_123, e_X2_init_124, e_X2_init_125, e_X2_init_126, e_X2_init_127, e_X2_init_128, e_X2_init_129, e_X2_init_129x, e_X2_init_130, e_X2_init_133, e_X2_init_134, e_X2_init_135, e_X2_init_136, e_X2_init_137, e_X2_init_138, e_X2_init_139, e_X2_init_140, e_X2_init_141, e_X2_init_144, e_X2_init_147, e_X2_init_150, e_X2_init_153, zcll_s, zpush_s, zpush_n, zinv_i, zinv_l, zinv_r, zinv_x, zcats_nil, zcats_i, zcats_l, zcats_r, zcats_x, Nat.le_refl, and_self, true_and, and_true, zok_1, zok_20, zok_21, eq_self, Nat.reduceAdd, Nat.reduceLeDiff, Nat.zero_le, if_true, if_false, zw3_id, if_pos, if_neg, zand_t]
  exact hQ
theorem pow_r : ∀ b : Nat, b < 11 → ∀ k : Nat, k < 17 → 0 ≤ (b : Int) ^ k ∧ (b : Int) ^ k ≤ 10000000000000000 := by decide +kernel
/-- the powers below base i -/
def PwL (L0 L : ZI) (i : Nat) : Prop := (∀ b k : Nat, b < i → k ≤ 16 → L (279 + b) k = (b : Int) ^ k) ∧ ∀ a, (a < 279 ∨ 290 ≤ a) → L a = L0 a
theorem q_pow1 (h0 : R 277 0 = some 278) (hr : ∀ i, i ≤ 10 → R 278 i = some (279 + i)) {L0 : ZI} {i : Nat} (hi : i ≤ 10) : ∀ (j k : Nat) (L : ZI), k + j = 17 → 1 ≤ k → PwL L0 L i → (∀ e, e < k → L (279 + i) e = (i : Int) ^ e) → (∀ L1 v2, PwL L0 L1 (i + 1) → V X call mX2_init 30 [zr (some 277), zi ((i : Int) + 1), v2] [] (c, s, I, L1, R) Q) → V X call mX2_init 47 [zr (some 277), zi (i : Int), zi (k : Int)] [] (c, s, I, L, R) Q := by
  intro j
  induction j with
  | zero =>
    intro k L h1 h2 h3 h4 hQ
    refine w_pow1 (by omega) (by omega) (by omega) (hQ L _ ⟨fun b e q1 q2 => ?_, h3.2⟩)
    by_cases q : b = i
    · subst q; exact h4 e (by omega)
    · exact h3.1 b e (by omega) q2
  | succ j ih =>
    intro k L h1 h2 h3 h4 hQ
    have hv : L (279 + i) ((k : Int) - 1).toNat = (i : Int) ^ (k - 1) := by
      rw [show ((k : Int) - 1).toNat = k - 1 by omega]
      exact h4 (k - 1) (by omega)
    have ep : (i : Int) ^ (k - 1) * (i : Int) = (i : Int) ^ k := by
      rw [show k = (k - 1) + 1 by omega, Int.pow_succ, show k - 1 + 1 - 1 = k - 1 by omega]
    have hb := pow_r i (by omega) k (by omega)
    have hw : zw6 ((i : Int) ^ (k - 1) * (i : Int)) = (i : Int) ^ k := by rw [ep]; exact zw6_id (by omega) (by omega)
    have nx := ih (k + 1) (zu L (279 + i) k ((i : Int) ^ k)) (by omega) (by omega) ⟨fun b e q1 q2 => by rw [zu_n (by omega)]; exact h3.1 b e q1 q2, fun a q => by rw [zu_n (by omega)]; exact h3.2 a q⟩ (fun e q => by
      by_cases z : e = k
      · rw [z, zu_s]
      · rw [zu_k z]; exact h4 e (by omega)) hQ
    exact w_pow hi h2 (by omega) h0 (hr i hi) (tt_pow2 hi) hv hw nx
theorem q_pow (h0 : R 277 0 = some 278) (hr : ∀ i, i ≤ 10 → R 278 i = some (279 + i)) {L0 : ZI} : ∀ (j i : Nat) (L : ZI) (v2 : ZV), i + j = 11 → PwL L0 L i → (∀ L1 v2, PwL L0 L1 11 → V X call mX2_init 88 [zr (some 277), zi 0, v2] [] (c, s, I, L1, R) Q) → V X call mX2_init 30 [zr (some 277), zi (i : Int), v2] [] (c, s, I, L, R) Q := by
  intro j
  induction j with
  | zero =>
    intro i L v2 h1 h2 hQ
    have e : i = 11 := by omega
    subst e
    exact w_pow2 (by omega) (hQ L v2 h2)
  | succ j ih =>
    intro i L v2 h1 h2 hQ
    refine w_pow0 (by omega) h0 (hr i (by omega)) (tt_pow2 (by omega)) rfl ?_
    refine q_pow1 h0 hr (by omega) 16 1 _ rfl (by omega) (L0 := L0) ⟨fun b e q1 q2 => by rw [zu_n (by omega)]; exact h2.1 b e q1 q2, fun a q => by rw [zu_n (by omega)]; exact h2.2 a q⟩ (fun e q => ?_) (fun L1 v2 k => ?_)
    · have z : e = 0 := by omega
      subst z
      rw [zu_s, Int.pow_zero]
    · have := ih (i + 1) L1 v2 (by omega) k hQ
      rw [show ((i + 1 : Nat) : Int) = (i : Int) + 1 by omega] at this
      exact this
/-- rows of chooses -/
theorem w_cho {m k : Nat} {u v w : Int} (hm : m ≤ 13) (hk0 : 1 ≤ k) (hk : k ≤ m + 1) (h1 : R 277 1 = some 290) (hr : R 290 (m + 1) = some (291 + m + 1)) (hr0 : R 290 ((m : Int) + 1 - 1).toNat = some (291 + m)) (ti : zT (291 + m + 1) = (2, 15)) (t0 : zT (291 + m) = (2, 15)) (em : ((m : Int) + 1).toNat = m + 1) (hu : L (291 + m) ((k : Int) - 1).toNat = u) (hv : L (291 + m) k = v) (hw : zw6 (u + v) = w) (hQ : V X call mX2_init 105 [zr (some 277), zi ((m : Int) + 1), zi ((k : Int) + 1)] [] (c, s, I, zu L (291 + m + 1) k w, R) Q) : V X call mX2_init 105 [zr (some 277), zi ((m : Int) + 1), zi (k : Int)] [] (c, s, I, L, R) Q := by
  rw [e_X2_init_105]
  simp (disch := omega) only [e_X2_init_0, e_X2_init_0x, e_X2_init_1, e_X2_init_4, e_X2_init_4x, e_X2_init_5, e_X2_init_7, e_X2_init_9, e_X2_init_13, e_X2_init_16, e_X2_init_16x, e_X2_init_17, e_X2_init_19, e_X2_init_21, e_X2_init_25, e_X2_init_28, e_X2_init_29, e_X2_init_31, e_X2_init_33, e_X2_init_36, e_X2_init_36x, e_X2_init_37, e_X2_init_40, e_X2_init_41, e_X2_init_42, e_X2_init_43, e_X2_init_44, e_X2_init_45, e_X2_init_46, e_X2_init_48, e_X2_init_50, e_X2_init_53, e_X2_init_53x, e_X2_init_54, e_X2_init_57, e_X2_init_58, e_X2_init_59, e_X2_init_60, e_X2_init_60x, e_X2_init_61, e_X2_init_64, e_X2_init_65, e_X2_init_66, e_X2_init_67, e_X2_init_68, e_X2_init_69, e_X2_init_70, e_X2_init_71, e_X2_init_72, e_X2_init_73, e_X2_init_74, e_X2_init_77, e_X2_init_80, e_X2_init_83, e_X2_init_86, e_X2_init_87, e_X2_init_89, e_X2_init_91, e_X2_init_94, e_X2_init_94x, e_X2_init_95, e_X2_init_98, e_X2_init_99, e_X2_init_100, e_X2_init_101, e_X2_init_102, e_X2_init_103, e_X2_init_104, e_X2_init_106, e_X2_init_107, e_X2_init_110, e_X2_init_110x, e_X2_init_111, e_X2_init_114, e_X2_init_115, e_X2_init_116, e_X2_init_117, e_X2_init_117x, e_X2_init_118, e_X2_init_121, e_X2_init_122, e_X2_init_123, e_X2_init_124, e_X2_init_125, e_X2_init_126, e_X2_init_127, e_X2_init_128, e_X2_init_129, e_X2_init_129x, e_X2_init_130, e_X2_init_133, e_X2_init_134, e_X2_init_135, e_X2_init_136, e_X2_init_137, e_X2_init_138, e_X2_init_139, e_X2_init_140, e_X2_init_141, e_X2_init_144, e_X2_init_147, e_X2_init_150, e_X2_init_153, zcll_s, zpush_s, zpush_n, zinv_i, zinv_l, zinv_r, zinv_x, zcats_nil, zcats_i, zcats_l, zcats_r, zcats_x, Nat.le_refl, and_self, true_and, and_true, zok_1, zok_20, zok_21, eq_self, Nat.reduceAdd, Nat.reduceLeDiff, Nat.zero_le, if_true, if_false, zw3_id, if_pos, if_neg, zand_t, tg_277, tg_290, tn_290, h1, Int.toNat_natCast, em, hr, hr0, ti, t0, hu, hv, hw]
  exact hQ
theorem w_cho0 {m : Nat} (hm : m ≤ 14) (h1 : R 277 1 = some 290) (hr : R 290 m = some (291 + m)) (ti : zT (291 + m) = (2, 15)) {v2 : ZV} (e0 : (0 : Int).toNat = 0) (hQ : V X call mX2_init 105 [zr (some 277), zi (m : Int), zi 1] [] (c, s, I, zu L (291 + m) 0 1, R) Q) : V X call mX2_init 88 [zr (some 277), zi (m : Int), v2] [] (c, s, I, L, R) Q := by
  rw [e_X2_init_88]
  simp (disch := omega) only [e_X2_init_0, e_X2_init_0x, e_X2_init_1, e_X2_init_4, e_X2_init_4x, e_X2_init_5, e_X2_init_7, e_X2_init_9, e_X2_init_13, e_X2_init_16, e_X2_init_16x, e_X2_init_17, e_X2_init_19, e_X2_init_21, e_X2_init_25, e_X2_init_28, e_X2_init_29, e_X2_init_31, e_X2_init_33, e_X2_init_36, e_X2_init_36x, e_X2_init_37, e_X2_init_40, e_X2_init_41, e_X2_init_42, e_X2_init_43, e_X2_init_44, e_X2_init_45, e_X2_init_46, e_X2_init_48, e_X2_init_50, e_X2_init_53, e_X2_init_53x, e_X2_init_54, e_X2_init_57, e_X2_init_58, e_X2_init_59, e_X2_init_60, e_X2_init_60x, e_X2_init_61, e_X2_init_64, e_X2_init_65, e_X2_init_66, e_X2_init_67, e_X2_init_68, e_X2_init_69, e_X2_init_70, e_X2_init_71, e_X2_init_72, e_X2_init_73, e_X2_init_74, e_X2_init_77, e_X2_init_80, e_X2_init_83, e_X2_init_86, e_X2_init_87, e_X2_init_89, e_X2_init_91, e_X2_init_94, e_X2_init_94x, e_X2_init_95, e_X2_init_98, e_X2_init_99, e_X2_init_100, e_X2_init_101, e_X2_init_102, e_X2_init_103, e_X2_init_104, e_X2_init_106, e_X2_init_107, e_X2_init_110, e_X2_init_110x, e_X2_init_111, e_X2_init_114, e_X2_init_115, e_X2_init_116, e_X2_init_117, e_X2_init_117x, e_X2_init_118, e_X2_init_121, e_X2_init_122, e_X2_init_123, e_X2_init_124, e_X2_init_125, e_X2_init_126, e_X2_init_127, e_X2_init_128, e_X2_init_129, e_X2_init_129x, e_X2_init_130, e_X2_init_133, e_X2_init_134, e_X2_init_135, e_X2_init_136, e_X2_init_137, e_X2_init_138, e_X2_init_139, e_X2_init_140, e_X2_init_141, e_X2_init_144, e_X2_init_147, e_X2_init_150, e_X2_init_153, zcll_s, zpush_s, zpush_n, zinv_i, zinv_l, zinv_r, zinv_x, zcats_nil, zcats_i, zcats_l, zcats_r, zcats_x, Nat.le_refl, and_self, true_and, and_true, zok_1, zok_20, zok_21, eq_self, Nat.reduceAdd, Nat.reduceLeDiff, Nat.zero_le, if_true, if_false, zw3_id, if_pos, if_neg, zand_t, tg_277, tg_290, tn_290, h1, Int.toNat_natCast, hr, ti, e0]
  exact hQ
theorem w_cho1 {m k : Int} (hk : m < k) (h0 : 0 ≤ m) (h1 : m ≤ 14) (hQ : V X call mX2_init 88 [zr (some 277), zi (m + 1), zi k] [] (c, s, I, L, R) Q) : V X call mX2_init 105 [zr (some 277), zi m, zi k] [] (c, s, I, L, R) Q := by
  rw [e_X2_init_105]
  simp (disch := omega) only [e_X2_init_0, e_X2_init_0x, e_X2_init_1, e_X2_init_4, e_X2_init_4x, e_X2_init_5, e_X2_init_7, e_X2_init_9, e_X2_init_13, e_X2_init_16, e_X2_init_16x, e_X2_init_17, e_X2_init_19, e_X2_init_21, e_X2_init_25, e_X2_init_28, e_X2_init_29, e_X2_init_31, e_X2_init_33, e_X2_init_36, e_X2_init_36x, e_X2_init_37, e_X2_init_40, e_X2_init_41, e_X2_init_42, e_X2_init_43, e_X2_init_44, e_X2_init_45, e_X2_init_46, e_X2_init_48, e_X2_init_50, e_X2_init_53, e_X2_init_53x, e_X2_init_54, e_X2_init_57, e_X2_init_58, e_X2_init_59, e_X2_init_60, e_X2_init_60x, e_X2_init_61, e_X2_init_64, e_X2_init_65, e_X2_init_66, e_X2_init_67, e_X2_init_68, e_X2_init_69, e_X2_init_70, e_X2_init_71, e_X2_init_72, e_X2_init_73, e_X2_init_74, e_X2_init_77, e_X2_init_80, e_X2_init_83, e_X2_init_86, e_X2_init_87, e_X2_init_89, e_X2_init_91, e_X2_init_94, e_X2_init_94x, e_X2_init_95, e_X2_init_98, e_X2_init_99, e_X2_init_100, e_X2_init_101, e_X2_init_102, e_X2_init_103, e_X2_init_104, e_X2_init_106, e_X2_init_107, e_X2_init_110, e_X2_init_110x, e_X2_init_111, e_X2_init_114, e_X2_init_115, e_X2_init_116, e_X2_init_117, e_X2_init_117x, e_X2_init_118, e_X2_init_121, e_X2_init_122, e_X2_init_123, e_X2_init_124, e_X2_init_125, e_X2_init_126, e_X2_init_127, e_X2_init_128, e_X2_init_129, e_X2_init_129x, e_X2_init_130, e_X2_init_133, e_X2_init_134, e_X2_init_135, e_X2_init_136, e_X2_init_137, e_X2_init_138, e_X2_init_139, e_X2_init_140, e_X2_init_141, e_X2_init_144, e_X2_init_147, e_X2_init_150, e_X2_init_153, zcll_s, zpush_s, zpush_n, zinv_i, zinv_l, zinv_r, zinv_x, zcats_nil, zcats_i, zcats_l, zcats_r, zcats_x, Nat.le_refl, and_self, true_and, and_true, zok_1, zok_20, zok_21, eq_self, Nat.reduceAdd, Nat.reduceLeDiff, Nat.zero_le, if_true, if_false, zw3_id, if_pos, if_neg, zand_t]
  exact hQ
theorem w_cho2 {m : Int} (hi : 14 < m) {v2 : ZV} (hQ : Q (none, (c, s, I, L, R))) : V X call mX2_init 88 [zr (some 277), zi m, v2] [] (c, s, I, L, R) Q := by
  rw [e_X2_init_88]
  simp (disch := omega) only [e_X2_init_0, e_X2_init_0x, e_X2_init_1, e_X2_init_4, e_X2_init_4x, e_X2_init_5, e_X2_init_7, e_X2_init_9, e_X2_init_13, e_X2_init_16, e_X2_init_16x, e_X2_init_17, e_X2_init_19, e_X2_init_21, e_X2_init_25, e_X2_init_28, e_X2_init_29, e_X2_init_31, e_X2_init_33, e_X2_init_36, e_X2_init_36x, e_X2_init_37, e_X2_init_40, e_X2_init_41, e_X2_init_42, e_X2_init_43, e_X2_init_44, e_X2_init_45, e_X2_init_46, e_X2_init_48, e_X2_init_50, e_X2_init_53, e_X2_init_53x, e_X2_init_54, e_X2_init_57, e_X2_init_58, e_X2_init_59, e_X2_init_60, e_X2_init_60x, e_X2_init_61, e_X2_init_64, e_X2_init_65, e_X2_init_66, e_X2_init_67, e_X2_init_68, e_X2_init_69, e_X2_init_70, e_X2_init_71, e_X2_init_72, e_X2_init_73, e_X2_init_74, e_X2_init_77, e_X2_init_80, e_X2_init_83, e_X2_init_86, e_X2_init_87, e_X2_init_89, e_X2_init_91, e_X2_init_94, e_X2_init_94x, e_X2_init_95, e_X2_init_98, e_X2_init_99, e_X2_init_100, e_X2_init_101, e_X2_init_102, e_X2_init_103, e_X2_init_104, e_X2_init_106, e_X2_init_107, e_X2_init_110, e_X2_init_110x, e_X2_init_111, e_X2_init_114, e_X2_init_115, e_X2_init_116, e_X2_init_117, e_X2_init_117x, e_X2_init_118, e_X2_init_121, e_X2_init_122, e_X2_init_123, e_X2_init_124, e_X2_init_125, e_X2_init_126, e_X2_init_127, e_X2_init_128, e_X2_init_129, e_X2_init_129x, e_X2_init_130, e_X2_init_133, e_X2_init_134, e_X2_init_135, e_X2_init_136, e_X2_init_137, e_X2_init_138, e_X2_init_139, e_X2_init_140, e_X2_init_141, e_X2_init_144, e_X2_init_147, e_X2_init_150, e_X2_init_153, zcll_s, zpush_s, zpush_n, zinv_i, zinv_l, zinv_r, zinv_x, zcats_nil, zcats_i, zcats_l, zcats_r, zcats_x, Nat.le_refl, and_self, true_and, and_true, zok_1, zok_20, zok_21, eq_self, Nat.reduceAdd, Nat.reduceLeDiff, Nat.zero_le, if_true, if_false, zw3_id, if_pos, if_neg, zand_t]
  exact hQ
theorem zch_z : ∀ m, m < 15 → ∀ e, e < 15 → m < e → zch m e = 0 := by decide +kernel
theorem zch_b : ∀ m, m < 15 → ∀ e, e < 15 → zch m e < 4000 := by decide +kernel
/-- the rows below m, and nothing in the others -/
def ChL (L0 L : ZI) (m : Nat) : Prop := (∀ a k : Nat, a < m → k ≤ 14 → L (291 + a) k = (zch a k : Int)) ∧ (∀ a k : Nat, m ≤ a → a ≤ 14 → k ≤ 14 → L (291 + a) k = 0) ∧ ∀ a, (a < 291 ∨ 306 ≤ a) → L a = L0 a
theorem q_cho1 (h1 : R 277 1 = some 290) (hr : ∀ i, i ≤ 14 → R 290 i = some (291 + i)) {L0 : ZI} {m : Nat} (hm : m ≤ 14) : ∀ (j k : Nat) (L : ZI), k + j = m + 1 → 1 ≤ k → (∀ a e : Nat, a < m → e ≤ 14 → L (291 + a) e = (zch a e : Int)) → (∀ a e : Nat, m < a → a ≤ 14 → e ≤ 14 → L (291 + a) e = 0) → (∀ a, (a < 291 ∨ 306 ≤ a) → L a = L0 a) → (∀ e, e < k → L (291 + m) e = (zch m e : Int)) → (∀ e, k ≤ e → e ≤ 14 → L (291 + m) e = 0) → (∀ L1 v2, ChL L0 L1 (m + 1) → V X call mX2_init 88 [zr (some 277), zi ((m : Int) + 1), v2] [] (c, s, I, L1, R) Q) → V X call mX2_init 105 [zr (some 277), zi (m : Int), zi (k : Int)] [] (c, s, I, L, R) Q := by
  intro j
  induction j with
  | zero =>
    intro k L g1 g2 g3 g4 g5 g6 g7 hQ
    refine w_cho1 (by omega) (by omega) (by omega) (hQ L _ ⟨fun a e q1 q2 => ?_, fun a e q1 q2 q3 => g4 a e (by omega) q2 q3, g5⟩)
    by_cases q : a = m
    · subst q
      by_cases z : e < k
      · exact g6 e z
      · rw [g7 e (by omega) q2, zch_z a (by omega) e (by omega) (by omega)]; rfl
    · exact g3 a e (by omega) q2
  | succ j ih =>
    intro k L g1 g2 g3 g4 g5 g6 g7 hQ
    obtain ⟨m', rfl⟩ : ∃ m', m = m' + 1 := ⟨m - 1, by omega⟩
    obtain ⟨k', rfl⟩ : ∃ k', k = k' + 1 := ⟨k - 1, by omega⟩
    have hu : L (291 + m') (((k' + 1 : Nat) : Int) - 1).toNat = (zch m' k' : Int) := by
      rw [show (((k' + 1 : Nat) : Int) - 1).toNat = k' by omega]
      exact g3 m' k' (by omega) (by omega)
    have hv : L (291 + m') (k' + 1) = (zch m' (k' + 1) : Int) := g3 m' (k' + 1) (by omega) (by omega)
    have b1 := zch_b m' (by omega) k' (by omega)
    have b2 := zch_b m' (by omega) (k' + 1) (by omega)
    have hw : zw6 ((zch m' k' : Int) + (zch m' (k' + 1) : Int)) = (zch (m' + 1) (k' + 1) : Int) := by
      rw [zw6_id (by omega) (by omega)]
      show _ = ((zch m' k' + zch m' (k' + 1) : Nat) : Int)
      omega
    have e3 : 291 + (m' + 1) = 291 + m' + 1 := by omega
    have nx := ih (k' + 1 + 1) (zu L (291 + m' + 1) (k' + 1) (zch (m' + 1) (k' + 1) : Int)) (by omega) (by omega) (fun a e q1 q2 => by rw [zu_n (by omega)]; exact g3 a e q1 q2) (fun a e q1 q2 q3 => by rw [zu_n (by omega)]; exact g4 a e q1 q2 q3) (fun a q => by rw [zu_n (by omega)]; exact g5 a q) (fun e q => by
      rw [e3]
      by_cases z : e = k' + 1
      · rw [z, zu_s]
      · rw [zu_k z, ← e3]; exact g6 e (by omega)) (fun e q1 q2 => by rw [e3, zu_k (by omega), ← e3]; exact g7 e (by omega) q2) hQ
    have hr1 := hr (m' + 1) hm
    rw [e3] at hr1
    have t1 := tt_cho2 (i := m' + 1) hm
    rw [e3] at t1
    have := w_cho (X := X) (call := call) (c := c) (s := s) (I := I) (L := L) (Q := Q) (m := m') (k := k' + 1) (by omega) (by omega) (by omega) h1 hr1 (by rw [show ((m' : Int) + 1 - 1).toNat = m' by omega]; exact hr m' (by omega)) t1 (tt_cho2 (by omega)) (by omega) hu hv hw nx
    exact this
theorem q_cho (h1 : R 277 1 = some 290) (hr : ∀ i, i ≤ 14 → R 290 i = some (291 + i)) {L0 : ZI} : ∀ (j m : Nat) (L : ZI) (v2 : ZV), m + j = 15 → ChL L0 L m → (∀ L1, ChL L0 L1 15 → Q (none, (c, s, I, L1, R))) → V X call mX2_init 88 [zr (some 277), zi (m : Int), v2] [] (c, s, I, L, R) Q := by
  intro j
  induction j with
  | zero =>
    intro m L v2 g1 g2 hQ
    have e : m = 15 := by omega
    subst e
    exact w_cho2 (by omega) (hQ L g2)
  | succ j ih =>
    intro m L v2 g1 g2 hQ
    refine w_cho0 (by omega) h1 (hr m (by omega)) (tt_cho2 (by omega)) rfl ?_
    refine q_cho1 h1 hr (L0 := L0) (by omega) m 1 _ (by omega) (by omega) (fun a e q1 q2 => by rw [zu_n (by omega)]; exact g2.1 a e q1 q2) (fun a e q1 q2 q3 => by rw [zu_n (by omega)]; exact g2.2.1 a e (by omega) q2 q3) (fun a q => by rw [zu_n (by omega)]; exact g2.2.2 a q) (fun e q => ?_) (fun e q1 q2 => by rw [zu_k (by omega)]; exact g2.2.1 m e (by omega) (by omega) q2) (fun L1 v2 k => ?_)
    · have z : e = 0 := by omega
      subst z
      rw [zu_s]
      cases m <;> rfl
    · have := ih (m + 1) L1 v2 (by omega) k hQ
      rw [show ((m + 1 : Nat) : Int) = (m : Int) + 1 by omega] at this
      exact this
def OdR (R : ZR) : Prop := R 277 0 = some 278 ∧ R 277 1 = some 290 ∧ (∀ i, i ≤ 10 → R 278 i = some (279 + i)) ∧ ∀ i, i ≤ 14 → R 290 i = some (291 + i)
theorem k_ini2 (hL : ∀ a k, 291 ≤ a → a < 306 → L a k = 0) : ∃ L1 R1, zrun X (d + 1) 13 [zr (some 277)] (278, s, I, L, R) = some (none, (306, s + 438, I, L1, R1)) ∧ OdR R1 ∧ FrZ 277 306 R R1 ∧ Odd L1 ∧ ∀ a, (a < 279 ∨ 306 ≤ a) → L1 a = L a := by
  have pr := sx_X2_init (X := X) (d := d) (u0 := some 277) (σ := (278, s, I, L, R)) (P := fun q => ∃ L1 R1, q = (none, (306, s + 438, I, L1, R1)) ∧ OdR R1 ∧ FrZ 277 306 R R1 ∧ Odd L1 ∧ ∀ a, (a < 279 ∨ 306 ≤ a) → L1 a = L a) ?_
  · obtain ⟨r, q1, L1, R1, q2, q3⟩ := pr
    exact ⟨L1, R1, by rw [q1, q2], q3⟩
  · simp (disch := omega) only [e_X2_init_0, e_X2_init_0x, e_X2_init_1, e_X2_init_4, e_X2_init_4x, e_X2_init_5, e_X2_init_7, e_X2_init_13, e_X2_init_16, e_X2_init_16x, e_X2_init_17, e_X2_init_19, e_X2_init_21, e_X2_init_25, e_X2_init_28, e_X2_init_29, e_X2_init_31, e_X2_init_33, e_X2_init_36, e_X2_init_36x, e_X2_init_37, e_X2_init_40, e_X2_init_41, e_X2_init_42, e_X2_init_43, e_X2_init_44, e_X2_init_45, e_X2_init_46, e_X2_init_48, e_X2_init_50, e_X2_init_53, e_X2_init_53x, e_X2_init_54, e_X2_init_57, e_X2_init_58, e_X2_init_59, e_X2_init_60, e_X2_init_60x, e_X2_init_61, e_X2_init_64, e_X2_init_65, e_X2_init_66, e_X2_init_67, e_X2_init_68, e_X2_init_69, e_X2_init_70, e_X2_init_71, e_X2_init_72, e_X2_init_73, e_X2_init_74, e_X2_init_77, e_X2_init_80, e_X2_init_83, e_X2_init_86, e_X2_init_87, e_X2_init_89, e_X2_init_91, e_X2_init_94, e_X2_init_94x, e_X2_init_95, e_X2_init_98, e_X2_init_99, e_X2_init_100, e_X2_init_101, e_X2_init_102, e_X2_init_103, e_X2_init_104, e_X2_init_106, e_X2_init_107, e_X2_init_110, e_X2_init_110x, e_X2_init_111, e_X2_init_114, e_X2_init_115, e_X2_init_116, e_X2_init_117, e_X2_init_117x, e_X2_init_118, e_X2_init_121, e_X2_init_122, e_X2_init_123, e_X2_init_124, e_X2_init_125, e_X2_init_126, e_X2_init_127, e_X2_init_128, e_X2_init_129, e_X2_init_129x, e_X2_init_130, e_X2_init_133, e_X2_init_134, e_X2_init_135, e_X2_init_136, e_X2_init_137, e_X2_init_138, e_X2_init_139, e_X2_init_140, e_X2_init_141, e_X2_init_144, e_X2_init_147, e_X2_init_150, e_X2_init_153, zcll_s, zpush_s, zpush_n, zinv_i, zinv_l, zinv_r, zinv_x, zcats_nil, zcats_i, zcats_l, zcats_r, zcats_x, Nat.le_refl, and_self, true_and, and_true, zok_1, zok_20, zok_21, eq_self, Nat.reduceAdd, Nat.reduceLeDiff, Nat.zero_le, if_true, if_false, zw3_id, if_pos, if_neg, zand_t]
    rw [e_X2_init_9 (by omega) (by omega)]
    have m1 : zT 278 = (7, 11) ∧ ∀ j, j < 11 → zT (278 + 1 + j) = (2, 17) := by decide +kernel
    refine ⟨m1, ?_⟩
    show V X (zrun X d) mX2_init 13 _ _ (290, s + 198, I, L, fun b j => if b = 278 ∧ j < 11 then some (279 + j) else R b j) _
    have f1 : FrZ 277 306 R (fun b j => if b = 278 ∧ j < 11 then some (279 + j) else R b j) := by
      intro a q
      funext k
      exact if_neg (by omega)
    have g1 : ∀ i, i ≤ 10 → (fun b j => if b = 278 ∧ j < 11 then some (279 + j) else R b j : ZR) 278 i = some (279 + i) := fun i q => if_pos ⟨rfl, by omega⟩
    generalize (fun b j => if b = 278 ∧ j < 11 then some (279 + j) else R b j : ZR) = Ra at f1 g1
    simp (disch := omega) only [e_X2_init_0, e_X2_init_0x, e_X2_init_1, e_X2_init_4, e_X2_init_4x, e_X2_init_5, e_X2_init_7, e_X2_init_13, e_X2_init_16, e_X2_init_16x, e_X2_init_17, e_X2_init_19, e_X2_init_25, e_X2_init_28, e_X2_init_29, e_X2_init_31, e_X2_init_33, e_X2_init_36, e_X2_init_36x, e_X2_init_37, e_X2_init_40, e_X2_init_41, e_X2_init_42, e_X2_init_43, e_X2_init_44, e_X2_init_45, e_X2_init_46, e_X2_init_48, e_X2_init_50, e_X2_init_53, e_X2_init_53x, e_X2_init_54, e_X2_init_57, e_X2_init_58, e_X2_init_59, e_X2_init_60, e_X2_init_60x, e_X2_init_61, e_X2_init_64, e_X2_init_65, e_X2_init_66, e_X2_init_67, e_X2_init_68, e_X2_init_69, e_X2_init_70, e_X2_init_71, e_X2_init_72, e_X2_init_73, e_X2_init_74, e_X2_init_77, e_X2_init_80, e_X2_init_83, e_X2_init_86, e_X2_init_87, e_X2_init_89, e_X2_init_91, e_X2_init_94, e_X2_init_94x, e_X2_init_95, e_X2_init_98, e_X2_init_99, e_X2_init_100, e_X2_init_101, e_X2_init_102, e_X2_init_103, e_X2_init_104, e_X2_init_106, e_X2_init_107, e_X2_init_110, e_X2_init_110x, e_X2_init_111, e_X2_init_114, e_X2_init_115, e_X2_init_116, e_X2_init_117, e_X2_init_117x, e_X2_init_118, e_X2_init_121, e_X2_init_122, e_X2_init_123, e_X2_init_124, e_X2_init_125, e_X2_init_126, e_X2_init_127, e_X2_init_128, e_X2_init_129, e_X2_init_129x, e_X2_init_130, e_X2_init_133, e_X2_init_134, e_X2_init_135, e_X2_init_136, e_X2_init_137, e_X2_init_138, e_X2_init_139, e_X2_init_140, e_X2_init_141, e_X2_init_144, e_X2_init_147, e_X2_init_150, e_X2_init_153, zcll_s, zpush_s, zpush_n, zinv_i, zinv_l, zinv_r, zinv_x, zcats_nil, zcats_i, zcats_l, zcats_r, zcats_x, Nat.le_refl, and_self, true_and, and_true, zok_1, zok_20, zok_21, eq_self, Nat.reduceAdd, Nat.reduceLeDiff, Nat.zero_le, if_true, if_false, zw3_id, if_pos, if_neg, zand_t, tg_277]
    rw [e_X2_init_21 (by omega) (by omega)]
    have m2 : zT 290 = (7, 15) ∧ ∀ j, j < 15 → zT (290 + 1 + j) = (2, 15) := by decide +kernel
    refine ⟨m2, ?_⟩
    show V X (zrun X d) mX2_init 25 _ _ (306, s + 198 + 15 + 225, I, L, fun b j => if b = 290 ∧ j < 15 then some (291 + j) else zu Ra 277 0 (some 278) b j) _
    have f2 : FrZ 277 306 R (fun b j => if b = 290 ∧ j < 15 then some (291 + j) else zu Ra 277 0 (some 278) b j) := by
      intro a q
      rw [← f1 a q]
      funext k
      show (if a = 290 ∧ k < 15 then _ else _) = _
      rw [if_neg (by omega), zu_n (by omega)]
    have g2 : ∀ i, i ≤ 14 → (fun b j => if b = 290 ∧ j < 15 then some (291 + j) else zu Ra 277 0 (some 278) b j : ZR) 290 i = some (291 + i) := fun i q => if_pos ⟨rfl, by omega⟩
    have g3 : ∀ i, i ≤ 10 → (fun b j => if b = 290 ∧ j < 15 then some (291 + j) else zu Ra 277 0 (some 278) b j : ZR) 278 i = some (279 + i) := fun i q => by
      show (if 278 = 290 ∧ i < 15 then _ else _) = _
      rw [if_neg (by omega), zu_n (by omega)]
      exact g1 i q
    have g4 : (fun b j => if b = 290 ∧ j < 15 then some (291 + j) else zu Ra 277 0 (some 278) b j : ZR) 277 0 = some 278 := by
      show (if 277 = 290 ∧ 0 < 15 then _ else _) = _
      rw [if_neg (by omega), zu_s]
    generalize (fun b j => if b = 290 ∧ j < 15 then some (291 + j) else zu Ra 277 0 (some 278) b j : ZR) = Rb at f2 g2 g3 g4
    simp (disch := omega) only [e_X2_init_0, e_X2_init_0x, e_X2_init_1, e_X2_init_4, e_X2_init_4x, e_X2_init_5, e_X2_init_7, e_X2_init_13, e_X2_init_16, e_X2_init_16x, e_X2_init_17, e_X2_init_19, e_X2_init_25, e_X2_init_28, e_X2_init_29, e_X2_init_31, e_X2_init_33, e_X2_init_36, e_X2_init_36x, e_X2_init_37, e_X2_init_40, e_X2_init_41, e_X2_init_42, e_X2_init_43, e_X2_init_44, e_X2_init_45, e_X2_init_46, e_X2_init_48, e_X2_init_50, e_X2_init_53, e_X2_init_53x, e_X2_init_54, e_X2_init_57, e_X2_init_58, e_X2_init_59, e_X2_init_60, e_X2_init_60x, e_X2_init_61, e_X2_init_64, e_X2_init_65, e_X2_init_66, e_X2_init_67, e_X2_init_68, e_X2_init_69, e_X2_init_70, e_X2_init_71, e_X2_init_72, e_X2_init_73, e_X2_init_74, e_X2_init_77, e_X2_init_80, e_X2_init_83, e_X2_init_86, e_X2_init_87, e_X2_init_89, e_X2_init_91, e_X2_init_94, e_X2_init_94x, e_X2_init_95, e_X2_init_98, e_X2_init_99, e_X2_init_100, e_X2_init_101, e_X2_init_102, e_X2_init_103, e_X2_init_104, e_X2_init_106, e_X2_init_107, e_X2_init_110, e_X2_init_110x, e_X2_init_111, e_X2_init_114, e_X2_init_115, e_X2_init_116, e_X2_init_117, e_X2_init_117x, e_X2_init_118, e_X2_init_121, e_X2_init_122, e_X2_init_123, e_X2_init_124, e_X2_init_125, e_X2_init_126, e_X2_init_127, e_X2_init_128, e_X2_init_129, e_X2_init_129x, e_X2_init_130, e_X2_init_133, e_X2_init_134, e_X2_init_135, e_X2_init_136, e_X2_init_137, e_X2_init_138, e_X2_init_139, e_X2_init_140, e_X2_init_141, e_X2_init_144, e_X2_init_147, e_X2_init_150, e_X2_init_153, zcll_s, zpush_s, zpush_n, zinv_i, zinv_l, zinv_r, zinv_x, zcats_nil, zcats_i, zcats_l, zcats_r, zcats_x, Nat.le_refl, and_self, true_and, and_true, zok_1, zok_20, zok_21, eq_self, Nat.reduceAdd, Nat.reduceLeDiff, Nat.zero_le, if_true, if_false, zw3_id, if_pos, if_neg, zand_t, tg_277]
    have o : OdR (zu Rb 277 1 (some 290)) := ⟨by rw [zu_k (by omega)]; exact g4, zu_s, fun i q => by rw [zu_n (by omega)]; exact g3 i q, fun i q => by rw [zu_n (by omega)]; exact g2 i q⟩
    have f3 : FrZ 277 306 R (zu Rb 277 1 (some 290)) := FrZ_t f2 (FrZ_u (by omega) (by omega))
    generalize zu Rb 277 1 (some 290) = Rc at o f3
    refine q_pow o.1 o.2.2.1 (L0 := L) 11 0 L _ rfl ⟨fun b k q1 _ => absurd q1 (by omega), fun _ _ => rfl⟩ (fun L1 v2 h1 => ?_)
    refine q_cho o.2.1 o.2.2.2 (L0 := L1) 15 0 L1 v2 rfl ⟨fun a k q1 _ => absurd q1 (by omega), fun a k q1 q2 q3 => by rw [h1.2 _ (by omega)]; exact hL _ _ (by omega) (by omega), fun _ _ => rfl⟩ (fun L2 h2 => ?_)
    refine ⟨L2, Rc, rfl, o, f3, ⟨fun b k q1 q2 => ?_, fun m k q1 q2 => h2.1 m k (by omega) (by omega)⟩, fun a q => ?_⟩
    · rw [h2.2.2 _ (by omega)]
      exact h1.1 b k (by omega) q2
    · rw [h2.2.2 a (by omega), h1.2 a (by omega)]
end
