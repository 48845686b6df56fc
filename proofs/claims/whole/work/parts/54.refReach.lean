/-! The reference: reached. -/
section
variable {X : ZX} {d c s : Nat} {I L I1 L1 I2 L2 : ZI} {R : ZR} {call : ZC} {w : Nat} {M : MD} {f : Nat → Int} {x t : Int}
def cnt (m : Nat → Int) : Nat → Nat
  | 0 => 0
  | k + 1 => cnt m k + (if m k = 0 then 0 else 1)
theorem cnt_le {m : Nat → Int} : ∀ n, cnt m n ≤ n := by
  intro n
  induction n with
  | zero => exact Nat.le_refl _
  | succ n ih => unfold cnt; split <;> omega
theorem cnt_lt {m : Nat → Int} {i : Nat} (hi : m i = 0) : ∀ n, i < n → cnt m n < n := by
  intro n
  induction n with
  | zero => intro h; omega
  | succ n ih =>
    intro h
    unfold cnt
    by_cases e : i = n
    · rw [← e, if_pos hi]
      have := @cnt_le m i
      omega
    · have := ih (by omega)
      split <;> omega
theorem cnt_u {m : Nat → Int} {i : Nat} (hi : m i = 0) : ∀ n, cnt (fU m i 1) n = cnt m n + (if i < n then 1 else 0) := by
  intro n
  induction n with
  | zero => rw [if_neg (by omega)]; rfl
  | succ n ih =>
    unfold cnt
    rw [ih]
    by_cases e : n = i
    · subst e
      rw [show fU m n 1 n = 1 from if_pos rfl, hi, if_neg (show ¬ n < n by omega), if_neg (show ¬ (1 : Int) = 0 by decide), if_pos (show n < n + 1 by omega), if_pos (show (0 : Int) = 0 from rfl)]
    · rw [show fU m i 1 n = m n from if_neg e]
      by_cases h : i < n
      · rw [if_pos h, if_pos (show i < n + 1 by omega)]; omega
      · rw [if_neg h, if_neg (show ¬ i < n + 1 by omega)]; omega
/-- known states: how many, in their order, which -/
abbrev BF : Type := Nat × (Nat → Int) × (Nat → Int)
def mSee (st : Int) (z : BF) : BF := if z.2.2 st.toNat = 0 then (z.1 + 1, fU z.2.1 z.1 st, fU z.2.2 st.toNat 1) else z
noncomputable def mSeeD (M : MD) (t : Int) : Nat → Int → BF → BF
  | 0, _, z => z
  | j + 1, e, z => mSeeD M t j (e + 1) (mSee (mS M t e) z)
noncomputable def mBfs (M : MD) : Nat → Nat → BF → Nat
  | 0, _, z => z.1
  | j + 1, k, z => if k < z.1 then mBfs M j (k + 1) (mSeeD M (z.2.1 k) M.1.toNat 0 z) else z.1
def BZ (M : MD) (z : BF) : Prop := z.1 ≤ mN M ∧ (∀ i, i < z.1 → 0 ≤ z.2.1 i ∧ z.2.1 i < mPr M.2.1) ∧ (∀ i, i < mN M → z.2.2 i = 0 ∨ z.2.2 i = 1) ∧ cnt z.2.2 (mN M) = z.1
theorem BZ_n {z : BF} (h : BZ M z) {st : Nat} (hs : st < mN M) (h0 : z.2.2 st = 0) : z.1 < mN M := by
  have := cnt_lt h0 (mN M) hs
  rw [h.2.2.2] at this
  exact this
theorem BZ_s {z : BF} (h : BZ M z) {st : Int} (h0 : 0 ≤ st) (h1 : st < mPr M.2.1) : BZ M (mSee st z) ∧ z.1 ≤ (mSee st z).1 ∧ ∀ i, i < z.1 → (mSee st z).2.1 i = z.2.1 i := by
  unfold mSee
  split
  · rename_i h2
    have hN : st.toNat < mN M := by unfold mN; omega
    have h3 := BZ_n h hN h2
    refine ⟨⟨h3, ?_, ?_, ?_⟩, by show z.1 ≤ z.1 + 1; omega, ?_⟩
    · intro i hi
      show 0 ≤ fU z.2.1 z.1 st i ∧ fU z.2.1 z.1 st i < _
      unfold fU
      have hi : i < z.1 + 1 := hi
      by_cases e : i = z.1
      · rw [if_pos e]; exact ⟨h0, h1⟩
      · rw [if_neg e]; exact h.2.1 i (by omega)
    · intro i hi
      show fU z.2.2 st.toNat 1 i = 0 ∨ fU z.2.2 st.toNat 1 i = 1
      unfold fU
      by_cases e : i = st.toNat
      · rw [if_pos e]; exact Or.inr rfl
      · rw [if_neg e]; exact h.2.2.1 i hi
    · show cnt (fU z.2.2 st.toNat 1) (mN M) = z.1 + 1
      rw [cnt_u h2, if_pos hN, h.2.2.2]
    · intro i hi
      exact if_neg (by omega)
  · exact ⟨h, Nat.le_refl _, fun _ _ => rfl⟩
/-- the reference's arrays hold z -/
def BR (M : MD) (I : ZI) (z : BF) : Prop := (∀ i, i < z.1 → I 331 i = z.2.1 i) ∧ Ag (mN M) (I 332) z.2.2
def FrB (I I1 : ZI) : Prop := ∀ a, a ≠ 328 → a ≠ 331 → a ≠ 332 → I1 a = I a
theorem FrB_S (h : FrB I I1) (hS : RefS I w M) : RefS I1 w M := RefS_c (fun a h1 h2 => h a (by omega) (by omega) (by omega)) (by rw [h 310 (by omega) (by omega) (by omega)]) hS
theorem p_reach2 (hR : Rok R) (h : RefS I w M) (k : Nat) (t : Int) {Q : Option ZV × ZS → Prop} : ∀ (j : Nat) (e : Int) (z : BF) (I1 : ZI) (v4 : ZV), (M.1 - e).toNat = j → 0 ≤ e → e ≤ M.1 → FrB I I1 → BZ M z → BR M I1 z → k < z.1 → z.2.1 k = t → (∀ I1 z1 v4, z1 = mSeeD M t j e z → FrB I I1 → BZ M z1 → BR M I1 z1 → V X (zrun X (d + 2)) mX12_reached 147 [zr (some 310), zi (z1.1 : Int), zi (k : Int), zi M.1, v4] [] (c, s, I1, L, R) Q) → V X (zrun X (d + 2)) mX12_reached 74 [zr (some 310), zi (z.1 : Int), zi (k : Int), zi e, v4] [] (c, s, I1, L, R) Q := by
  intro j
  obtain ⟨hw, hw2, hM, hk⟩ := id h
  have hp := hk.2.2.2.1
  have hl := hk.1
  induction j with
  | zero =>
    intro e z I1 v4 h1 h2 h3 hF hZ hB hkz ht hQ
    have hS1 := FrB_S hF h
    have h12 := hS1.1
    have h312 : I1 312 w = M.1 := hS1.2.2.1.1
    have ee : e = M.1 := by omega
    rw [e_X12_reached_74]
    simp (disch := omega) only [e_X12_reached_0, e_X12_reached_0x, e_X12_reached_1, e_X12_reached_2, e_X12_reached_5, e_X12_reached_5x, e_X12_reached_6, e_X12_reached_9, e_X12_reached_12, e_X12_reached_14, e_X12_reached_15, e_X12_reached_16, e_X12_reached_18, e_X12_reached_21, e_X12_reached_24, e_X12_reached_24x, e_X12_reached_25, e_X12_reached_28, e_X12_reached_29, e_X12_reached_30, e_X12_reached_31, e_X12_reached_34, e_X12_reached_37, e_X12_reached_37x, e_X12_reached_38, e_X12_reached_41, e_X12_reached_41x, e_X12_reached_42, e_X12_reached_45, e_X12_reached_46, e_X12_reached_46x, e_X12_reached_47, e_X12_reached_50, e_X12_reached_51, e_X12_reached_51x, e_X12_reached_52, e_X12_reached_55, e_X12_reached_55x, e_X12_reached_56, e_X12_reached_59, e_X12_reached_60, e_X12_reached_61, e_X12_reached_62, e_X12_reached_63, e_X12_reached_64, e_X12_reached_65, e_X12_reached_66, e_X12_reached_68, e_X12_reached_69, e_X12_reached_72, e_X12_reached_73, e_X12_reached_75, e_X12_reached_75x, e_X12_reached_76, e_X12_reached_79, e_X12_reached_79x, e_X12_reached_80, e_X12_reached_83, e_X12_reached_84, e_X12_reached_87, e_X12_reached_87x, e_X12_reached_88, e_X12_reached_88x, e_X12_reached_89, e_X12_reached_92, e_X12_reached_93, e_X12_reached_94, e_X12_reached_97, e_X12_reached_97x, e_X12_reached_98, e_X12_reached_98x, e_X12_reached_99, e_X12_reached_100, e_X12_reached_103, e_X12_reached_106, e_X12_reached_106x, e_X12_reached_107, e_X12_reached_110, e_X12_reached_112, e_X12_reached_112x, e_X12_reached_113, e_X12_reached_116, e_X12_reached_118, e_X12_reached_119, e_X12_reached_122, e_X12_reached_122x, e_X12_reached_123, e_X12_reached_126, e_X12_reached_128, e_X12_reached_129, e_X12_reached_130, e_X12_reached_130x, e_X12_reached_131, e_X12_reached_134, e_X12_reached_135, e_X12_reached_137, e_X12_reached_138, e_X12_reached_141, e_X12_reached_144, e_X12_reached_150, e_X12_reached_153, e_X12_reached_154, zcll_s, zpush_s, zpush_n, zinv_i, zinv_l, zinv_r, zinv_x, zcats_nil, zcats_i, zcats_l, zcats_r, zcats_x, Nat.le_refl, and_self, true_and, and_true, zok_1, zok_20, zok_21, eq_self, Nat.reduceAdd, Nat.reduceLeDiff, Nat.zero_le, if_true, if_false, zw3_id, if_pos, if_neg, zand_t, tg_310, tg_312, tn_312, rr_310_15 hR, Int.toNat_natCast, h12, h312]
    rw [ee]
    exact hQ I1 z v4 rfl hF hZ hB
  | succ j ih =>
    intro e z I1 v4 h1 h2 h3 hF hZ hB hkz ht hQ
    have hS1 := FrB_S hF h
    have h12 := hS1.1
    have h312 : I1 312 w = M.1 := hS1.2.2.1.1
    have hz := hZ.2.1 k hkz
    have hzN := hZ.1
    have eN : ((mN M : Nat) : Int) = mPr M.2.1 := by unfold mN; omega
    rw [ht] at hz
    have hq : I1 331 k = t := by rw [hB.1 k hkz, ht]
    obtain ⟨f1, p1, p2⟩ := c_be (X := X) (d := d + 1) (c := c) (s := s) (L := L) hR hS1 t hz.1 hz.2
    have hs := mS_in (M := M) hk.2.2.1 (d := e) hz.1
    have p3 := d_stateNumber (X := X) (d := d + 1) (c := c) (s := s) (L := L) hR hS1 (Now_s hk p2 e)
    have hsN : (mS M t e).toNat < mN M := by omega
    have hm := hB.2 _ hsN
    have hm01 := hZ.2.2.1 _ hsN
    have hZs := BZ_s hZ hs.1 hs.2
    unfold mSeeD at hQ
    rw [e_X12_reached_74]
    by_cases h0 : z.2.2 (mS M t e).toNat = 0
    · have hlt := BZ_n hZ hsN h0
      have esee : mSee (mS M t e) z = (z.1 + 1, fU z.2.1 z.1 (mS M t e), fU z.2.2 (mS M t e).toNat 1) := if_pos h0
      rw [h0] at hm
      simp (disch := omega) only [e_X12_reached_0, e_X12_reached_0x, e_X12_reached_1, e_X12_reached_2, e_X12_reached_5, e_X12_reached_5x, e_X12_reached_6, e_X12_reached_9, e_X12_reached_12, e_X12_reached_14, e_X12_reached_15, e_X12_reached_16, e_X12_reached_18, e_X12_reached_21, e_X12_reached_24, e_X12_reached_24x, e_X12_reached_25, e_X12_reached_28, e_X12_reached_29, e_X12_reached_30, e_X12_reached_31, e_X12_reached_34, e_X12_reached_37, e_X12_reached_37x, e_X12_reached_38, e_X12_reached_41, e_X12_reached_41x, e_X12_reached_42, e_X12_reached_45, e_X12_reached_46, e_X12_reached_46x, e_X12_reached_47, e_X12_reached_50, e_X12_reached_51, e_X12_reached_51x, e_X12_reached_52, e_X12_reached_55, e_X12_reached_55x, e_X12_reached_56, e_X12_reached_59, e_X12_reached_60, e_X12_reached_61, e_X12_reached_62, e_X12_reached_63, e_X12_reached_64, e_X12_reached_65, e_X12_reached_66, e_X12_reached_68, e_X12_reached_69, e_X12_reached_72, e_X12_reached_73, e_X12_reached_75, e_X12_reached_75x, e_X12_reached_76, e_X12_reached_79, e_X12_reached_79x, e_X12_reached_80, e_X12_reached_83, e_X12_reached_84, e_X12_reached_87, e_X12_reached_87x, e_X12_reached_88, e_X12_reached_88x, e_X12_reached_89, e_X12_reached_92, e_X12_reached_93, e_X12_reached_94, e_X12_reached_97, e_X12_reached_97x, e_X12_reached_98, e_X12_reached_98x, e_X12_reached_99, e_X12_reached_100, e_X12_reached_103, e_X12_reached_106, e_X12_reached_106x, e_X12_reached_107, e_X12_reached_110, e_X12_reached_112, e_X12_reached_112x, e_X12_reached_113, e_X12_reached_116, e_X12_reached_118, e_X12_reached_119, e_X12_reached_122, e_X12_reached_122x, e_X12_reached_123, e_X12_reached_126, e_X12_reached_128, e_X12_reached_129, e_X12_reached_130, e_X12_reached_130x, e_X12_reached_131, e_X12_reached_134, e_X12_reached_135, e_X12_reached_137, e_X12_reached_138, e_X12_reached_141, e_X12_reached_144, e_X12_reached_150, e_X12_reached_153, e_X12_reached_154, zcll_s, zpush_s, zpush_n, zinv_i, zinv_l, zinv_r, zinv_x, zcats_nil, zcats_i, zcats_l, zcats_r, zcats_x, Nat.le_refl, and_self, true_and, and_true, zok_1, zok_20, zok_21, eq_self, Nat.reduceAdd, Nat.reduceLeDiff, Nat.zero_le, if_true, if_false, zw3_id, if_pos, if_neg, zand_t, tg_310, tg_312, tn_312, tg_331, tn_331, tg_332, tn_332, rr_310_15 hR, rr_310_36 hR, rr_310_37 hR, zW_n, Int.toNat_natCast, h12, h312, hq, p1, d_ruleBy hR hS1 p2, d_go hR hS1 p2, p3, hm, or_true, true_or]
      rw [show (z.1 : Int) + 1 = ((mSee (mS M t e) z).1 : Int) by rw [esee]; show (z.1 : Int) + 1 = ((z.1 + 1 : Nat) : Int); omega]
      refine ih (e + 1) (mSee (mS M t e) z) _ _ (by omega) (by omega) (by omega) ?_ hZs.1 ?_ (by omega) (by rw [hZs.2.2 k hkz, ht]) hQ
      · intro a ha hb hc
        rw [zu_n hb, zu_n hc, zW_n ha]
        exact hF a ha hb hc
      · rw [esee]
        refine ⟨?_, ?_⟩
        · intro i hi
          have hi : i < z.1 + 1 := hi
          show _ = fU z.2.1 z.1 (mS M t e) i
          unfold fU
          by_cases e1 : i = z.1
          · rw [if_pos e1, e1, zu_s]
          · rw [if_neg e1, zu_k e1, zu_a (by omega), zW_n (by omega)]
            exact hB.1 i (by omega)
        · intro i hi
          show _ = fU z.2.2 (mS M t e).toNat 1 i
          unfold fU
          rw [zu_a (by omega)]
          by_cases e1 : i = (mS M t e).toNat
          · rw [if_pos e1, e1, zu_s]
          · rw [if_neg e1, zu_k e1, zW_n (by omega)]
            exact hB.2 i hi
    · have esee : mSee (mS M t e) z = z := if_neg h0
      have hm1 : I1 332 (mS M t e).toNat = 1 := by omega
      simp (disch := omega) only [e_X12_reached_0, e_X12_reached_0x, e_X12_reached_1, e_X12_reached_2, e_X12_reached_5, e_X12_reached_5x, e_X12_reached_6, e_X12_reached_9, e_X12_reached_12, e_X12_reached_14, e_X12_reached_15, e_X12_reached_16, e_X12_reached_18, e_X12_reached_21, e_X12_reached_24, e_X12_reached_24x, e_X12_reached_25, e_X12_reached_28, e_X12_reached_29, e_X12_reached_30, e_X12_reached_31, e_X12_reached_34, e_X12_reached_37, e_X12_reached_37x, e_X12_reached_38, e_X12_reached_41, e_X12_reached_41x, e_X12_reached_42, e_X12_reached_45, e_X12_reached_46, e_X12_reached_46x, e_X12_reached_47, e_X12_reached_50, e_X12_reached_51, e_X12_reached_51x, e_X12_reached_52, e_X12_reached_55, e_X12_reached_55x, e_X12_reached_56, e_X12_reached_59, e_X12_reached_60, e_X12_reached_61, e_X12_reached_62, e_X12_reached_63, e_X12_reached_64, e_X12_reached_65, e_X12_reached_66, e_X12_reached_68, e_X12_reached_69, e_X12_reached_72, e_X12_reached_73, e_X12_reached_75, e_X12_reached_75x, e_X12_reached_76, e_X12_reached_79, e_X12_reached_79x, e_X12_reached_80, e_X12_reached_83, e_X12_reached_84, e_X12_reached_87, e_X12_reached_87x, e_X12_reached_88, e_X12_reached_88x, e_X12_reached_89, e_X12_reached_92, e_X12_reached_93, e_X12_reached_94, e_X12_reached_97, e_X12_reached_97x, e_X12_reached_98, e_X12_reached_98x, e_X12_reached_99, e_X12_reached_100, e_X12_reached_103, e_X12_reached_106, e_X12_reached_106x, e_X12_reached_107, e_X12_reached_110, e_X12_reached_112, e_X12_reached_112x, e_X12_reached_113, e_X12_reached_116, e_X12_reached_118, e_X12_reached_119, e_X12_reached_122, e_X12_reached_122x, e_X12_reached_123, e_X12_reached_126, e_X12_reached_128, e_X12_reached_129, e_X12_reached_130, e_X12_reached_130x, e_X12_reached_131, e_X12_reached_134, e_X12_reached_135, e_X12_reached_137, e_X12_reached_138, e_X12_reached_141, e_X12_reached_144, e_X12_reached_150, e_X12_reached_153, e_X12_reached_154, zcll_s, zpush_s, zpush_n, zinv_i, zinv_l, zinv_r, zinv_x, zcats_nil, zcats_i, zcats_l, zcats_r, zcats_x, Nat.le_refl, and_self, true_and, and_true, zok_1, zok_20, zok_21, eq_self, Nat.reduceAdd, Nat.reduceLeDiff, Nat.zero_le, if_true, if_false, zw3_id, if_pos, if_neg, zand_t, tg_310, tg_312, tn_312, tg_331, tn_331, tg_332, tn_332, rr_310_15 hR, rr_310_36 hR, rr_310_37 hR, zW_n, Int.toNat_natCast, h12, h312, hq, p1, d_ruleBy hR hS1 p2, d_go hR hS1 p2, p3, hm1, or_true, true_or]
      rw [esee] at hQ
      refine ih (e + 1) z _ _ (by omega) (by omega) (by omega) ?_ hZ ?_ hkz ht hQ
      · intro a ha hb hc
        rw [zW_n ha]
        exact hF a ha hb hc
      · exact ⟨fun i hi => by rw [zW_n (by omega)]; exact hB.1 i hi, fun i hi => by rw [zW_n (by omega)]; exact hB.2 i hi⟩
theorem mSeeD_g {t : Int} (hk : MOK M) (ht : 0 ≤ t) : ∀ (j : Nat) (e : Int) (z : BF), BZ M z → BZ M (mSeeD M t j e z) ∧ z.1 ≤ (mSeeD M t j e z).1 := by
  intro j
  induction j with
  | zero => intro e z h; exact ⟨h, Nat.le_refl _⟩
  | succ j ih =>
    intro e z h
    unfold mSeeD
    have hs := mS_in (M := M) hk.2.2.1 (d := e) ht
    have h1 := BZ_s h hs.1 hs.2
    have h2 := ih (e + 1) _ h1.1
    exact ⟨h2.1, Nat.le_trans h1.2.1 h2.2⟩
theorem p_reach1 (hR : Rok R) (h : RefS I w M) {Q : Option ZV × ZS → Prop} : ∀ (j k : Nat) (z : BF) (I1 : ZI) (v3 v4 : ZV), 1000 - k = j → k ≤ 1000 → FrB I I1 → BZ M z → BR M I1 z → (∀ I1, FrB I I1 → Q (some (zi (mBfs M j k z : Int)), (c, s, I1, L, R))) → V X (zrun X (d + 2)) mX12_reached 67 [zr (some 310), zi (z.1 : Int), zi (k : Int), v3, v4] [] (c, s, I1, L, R) Q := by
  intro j
  obtain ⟨hw, hw2, hM, hk⟩ := id h
  have hp := hk.2.2.2.1
  have hp1 := mPr_pos hk.2.2.1
  have hl := hk.1
  have eN : ((mN M : Nat) : Int) = mPr M.2.1 := by unfold mN; omega
  induction j with
  | zero =>
    intro k z I1 v3 v4 h1 h2 hF hZ hB hQ
    have hz := hZ.1
    rw [e_X12_reached_67]
    simp (disch := omega) only [e_X12_reached_0, e_X12_reached_0x, e_X12_reached_1, e_X12_reached_2, e_X12_reached_5, e_X12_reached_5x, e_X12_reached_6, e_X12_reached_9, e_X12_reached_12, e_X12_reached_14, e_X12_reached_15, e_X12_reached_16, e_X12_reached_18, e_X12_reached_21, e_X12_reached_24, e_X12_reached_24x, e_X12_reached_25, e_X12_reached_28, e_X12_reached_29, e_X12_reached_30, e_X12_reached_31, e_X12_reached_34, e_X12_reached_37, e_X12_reached_37x, e_X12_reached_38, e_X12_reached_41, e_X12_reached_41x, e_X12_reached_42, e_X12_reached_45, e_X12_reached_46, e_X12_reached_46x, e_X12_reached_47, e_X12_reached_50, e_X12_reached_51, e_X12_reached_51x, e_X12_reached_52, e_X12_reached_55, e_X12_reached_55x, e_X12_reached_56, e_X12_reached_59, e_X12_reached_60, e_X12_reached_61, e_X12_reached_62, e_X12_reached_63, e_X12_reached_64, e_X12_reached_65, e_X12_reached_66, e_X12_reached_68, e_X12_reached_69, e_X12_reached_72, e_X12_reached_73, e_X12_reached_75, e_X12_reached_75x, e_X12_reached_76, e_X12_reached_79, e_X12_reached_79x, e_X12_reached_80, e_X12_reached_83, e_X12_reached_84, e_X12_reached_87, e_X12_reached_87x, e_X12_reached_88, e_X12_reached_88x, e_X12_reached_89, e_X12_reached_92, e_X12_reached_93, e_X12_reached_94, e_X12_reached_97, e_X12_reached_97x, e_X12_reached_98, e_X12_reached_98x, e_X12_reached_99, e_X12_reached_100, e_X12_reached_103, e_X12_reached_106, e_X12_reached_106x, e_X12_reached_107, e_X12_reached_110, e_X12_reached_112, e_X12_reached_112x, e_X12_reached_113, e_X12_reached_116, e_X12_reached_118, e_X12_reached_119, e_X12_reached_122, e_X12_reached_122x, e_X12_reached_123, e_X12_reached_126, e_X12_reached_128, e_X12_reached_129, e_X12_reached_130, e_X12_reached_130x, e_X12_reached_131, e_X12_reached_134, e_X12_reached_135, e_X12_reached_137, e_X12_reached_138, e_X12_reached_141, e_X12_reached_144, e_X12_reached_150, e_X12_reached_153, e_X12_reached_154, zcll_s, zpush_s, zpush_n, zinv_i, zinv_l, zinv_r, zinv_x, zcats_nil, zcats_i, zcats_l, zcats_r, zcats_x, Nat.le_refl, and_self, true_and, and_true, zok_1, zok_20, zok_21, eq_self, Nat.reduceAdd, Nat.reduceLeDiff, Nat.zero_le, if_true, if_false, zw3_id, if_pos, if_neg, zand_t, tg_310]
    exact hQ I1 hF
  | succ j ih =>
    intro k z I1 v3 v4 h1 h2 hF hZ hB hQ
    have hz := hZ.1
    rw [e_X12_reached_67]
    unfold mBfs at hQ
    by_cases hkz : k < z.1
    · rw [if_pos hkz] at hQ
      simp (disch := omega) only [e_X12_reached_0, e_X12_reached_0x, e_X12_reached_1, e_X12_reached_2, e_X12_reached_5, e_X12_reached_5x, e_X12_reached_6, e_X12_reached_9, e_X12_reached_12, e_X12_reached_14, e_X12_reached_15, e_X12_reached_16, e_X12_reached_18, e_X12_reached_21, e_X12_reached_24, e_X12_reached_24x, e_X12_reached_25, e_X12_reached_28, e_X12_reached_29, e_X12_reached_30, e_X12_reached_31, e_X12_reached_34, e_X12_reached_37, e_X12_reached_37x, e_X12_reached_38, e_X12_reached_41, e_X12_reached_41x, e_X12_reached_42, e_X12_reached_45, e_X12_reached_46, e_X12_reached_46x, e_X12_reached_47, e_X12_reached_50, e_X12_reached_51, e_X12_reached_51x, e_X12_reached_52, e_X12_reached_55, e_X12_reached_55x, e_X12_reached_56, e_X12_reached_59, e_X12_reached_60, e_X12_reached_61, e_X12_reached_62, e_X12_reached_63, e_X12_reached_64, e_X12_reached_65, e_X12_reached_66, e_X12_reached_68, e_X12_reached_69, e_X12_reached_72, e_X12_reached_73, e_X12_reached_75, e_X12_reached_75x, e_X12_reached_76, e_X12_reached_79, e_X12_reached_79x, e_X12_reached_80, e_X12_reached_83, e_X12_reached_84, e_X12_reached_87, e_X12_reached_87x, e_X12_reached_88, e_X12_reached_88x, e_X12_reached_89, e_X12_reached_92, e_X12_reached_93, e_X12_reached_94, e_X12_reached_97, e_X12_reached_97x, e_X12_reached_98, e_X12_reached_98x, e_X12_reached_99, e_X12_reached_100, e_X12_reached_103, e_X12_reached_106, e_X12_reached_106x, e_X12_reached_107, e_X12_reached_110, e_X12_reached_112, e_X12_reached_112x, e_X12_reached_113, e_X12_reached_116, e_X12_reached_118, e_X12_reached_119, e_X12_reached_122, e_X12_reached_122x, e_X12_reached_123, e_X12_reached_126, e_X12_reached_128, e_X12_reached_129, e_X12_reached_130, e_X12_reached_130x, e_X12_reached_131, e_X12_reached_134, e_X12_reached_135, e_X12_reached_137, e_X12_reached_138, e_X12_reached_141, e_X12_reached_144, e_X12_reached_150, e_X12_reached_153, e_X12_reached_154, zcll_s, zpush_s, zpush_n, zinv_i, zinv_l, zinv_r, zinv_x, zcats_nil, zcats_i, zcats_l, zcats_r, zcats_x, Nat.le_refl, and_self, true_and, and_true, zok_1, zok_20, zok_21, eq_self, Nat.reduceAdd, Nat.reduceLeDiff, Nat.zero_le, if_true, if_false, zw3_id, if_pos, if_neg, zand_t, tg_310]
      refine p_reach2 (X := X) (d := d) (L := L) hR h k (z.2.1 k) M.1.toNat 0 z I1 _ (by omega) (by omega) (by omega) hF hZ hB hkz rfl ?_
      intro I2 z2 v4 hz2 hF2 hZ2 hB2
      have hz21 := hZ2.1
      rw [e_X12_reached_147]
      simp (disch := omega) only [e_X12_reached_0, e_X12_reached_0x, e_X12_reached_1, e_X12_reached_2, e_X12_reached_5, e_X12_reached_5x, e_X12_reached_6, e_X12_reached_9, e_X12_reached_12, e_X12_reached_14, e_X12_reached_15, e_X12_reached_16, e_X12_reached_18, e_X12_reached_21, e_X12_reached_24, e_X12_reached_24x, e_X12_reached_25, e_X12_reached_28, e_X12_reached_29, e_X12_reached_30, e_X12_reached_31, e_X12_reached_34, e_X12_reached_37, e_X12_reached_37x, e_X12_reached_38, e_X12_reached_41, e_X12_reached_41x, e_X12_reached_42, e_X12_reached_45, e_X12_reached_46, e_X12_reached_46x, e_X12_reached_47, e_X12_reached_50, e_X12_reached_51, e_X12_reached_51x, e_X12_reached_52, e_X12_reached_55, e_X12_reached_55x, e_X12_reached_56, e_X12_reached_59, e_X12_reached_60, e_X12_reached_61, e_X12_reached_62, e_X12_reached_63, e_X12_reached_64, e_X12_reached_65, e_X12_reached_66, e_X12_reached_68, e_X12_reached_69, e_X12_reached_72, e_X12_reached_73, e_X12_reached_75, e_X12_reached_75x, e_X12_reached_76, e_X12_reached_79, e_X12_reached_79x, e_X12_reached_80, e_X12_reached_83, e_X12_reached_84, e_X12_reached_87, e_X12_reached_87x, e_X12_reached_88, e_X12_reached_88x, e_X12_reached_89, e_X12_reached_92, e_X12_reached_93, e_X12_reached_94, e_X12_reached_97, e_X12_reached_97x, e_X12_reached_98, e_X12_reached_98x, e_X12_reached_99, e_X12_reached_100, e_X12_reached_103, e_X12_reached_106, e_X12_reached_106x, e_X12_reached_107, e_X12_reached_110, e_X12_reached_112, e_X12_reached_112x, e_X12_reached_113, e_X12_reached_116, e_X12_reached_118, e_X12_reached_119, e_X12_reached_122, e_X12_reached_122x, e_X12_reached_123, e_X12_reached_126, e_X12_reached_128, e_X12_reached_129, e_X12_reached_130, e_X12_reached_130x, e_X12_reached_131, e_X12_reached_134, e_X12_reached_135, e_X12_reached_137, e_X12_reached_138, e_X12_reached_141, e_X12_reached_144, e_X12_reached_150, e_X12_reached_153, e_X12_reached_154, zcll_s, zpush_s, zpush_n, zinv_i, zinv_l, zinv_r, zinv_x, zcats_nil, zcats_i, zcats_l, zcats_r, zcats_x, Nat.le_refl, and_self, true_and, and_true, zok_1, zok_20, zok_21, eq_self, Nat.reduceAdd, Nat.reduceLeDiff, Nat.zero_le, if_true, if_false, zw3_id, if_pos, if_neg, zand_t, tg_310]
      rw [show (k : Int) + 1 = ((k + 1 : Nat) : Int) by omega]
      refine ih (k + 1) z2 I2 _ _ (by omega) (by omega) hF2 hZ2 hB2 ?_
      rw [hz2]
      exact hQ
    · rw [if_neg hkz] at hQ
      simp (disch := omega) only [e_X12_reached_0, e_X12_reached_0x, e_X12_reached_1, e_X12_reached_2, e_X12_reached_5, e_X12_reached_5x, e_X12_reached_6, e_X12_reached_9, e_X12_reached_12, e_X12_reached_14, e_X12_reached_15, e_X12_reached_16, e_X12_reached_18, e_X12_reached_21, e_X12_reached_24, e_X12_reached_24x, e_X12_reached_25, e_X12_reached_28, e_X12_reached_29, e_X12_reached_30, e_X12_reached_31, e_X12_reached_34, e_X12_reached_37, e_X12_reached_37x, e_X12_reached_38, e_X12_reached_41, e_X12_reached_41x, e_X12_reached_42, e_X12_reached_45, e_X12_reached_46, e_X12_reached_46x, e_X12_reached_47, e_X12_reached_50, e_X12_reached_51, e_X12_reached_51x, e_X12_reached_52, e_X12_reached_55, e_X12_reached_55x, e_X12_reached_56, e_X12_reached_59, e_X12_reached_60, e_X12_reached_61, e_X12_reached_62, e_X12_reached_63, e_X12_reached_64, e_X12_reached_65, e_X12_reached_66, e_X12_reached_68, e_X12_reached_69, e_X12_reached_72, e_X12_reached_73, e_X12_reached_75, e_X12_reached_75x, e_X12_reached_76, e_X12_reached_79, e_X12_reached_79x, e_X12_reached_80, e_X12_reached_83, e_X12_reached_84, e_X12_reached_87, e_X12_reached_87x, e_X12_reached_88, e_X12_reached_88x, e_X12_reached_89, e_X12_reached_92, e_X12_reached_93, e_X12_reached_94, e_X12_reached_97, e_X12_reached_97x, e_X12_reached_98, e_X12_reached_98x, e_X12_reached_99, e_X12_reached_100, e_X12_reached_103, e_X12_reached_106, e_X12_reached_106x, e_X12_reached_107, e_X12_reached_110, e_X12_reached_112, e_X12_reached_112x, e_X12_reached_113, e_X12_reached_116, e_X12_reached_118, e_X12_reached_119, e_X12_reached_122, e_X12_reached_122x, e_X12_reached_123, e_X12_reached_126, e_X12_reached_128, e_X12_reached_129, e_X12_reached_130, e_X12_reached_130x, e_X12_reached_131, e_X12_reached_134, e_X12_reached_135, e_X12_reached_137, e_X12_reached_138, e_X12_reached_141, e_X12_reached_144, e_X12_reached_150, e_X12_reached_153, e_X12_reached_154, zcll_s, zpush_s, zpush_n, zinv_i, zinv_l, zinv_r, zinv_x, zcats_nil, zcats_i, zcats_l, zcats_r, zcats_x, Nat.le_refl, and_self, true_and, and_true, zok_1, zok_20, zok_21, eq_self, Nat.reduceAdd, Nat.reduceLeDiff, Nat.zero_le, if_true, if_false, zw3_id, if_pos, if_neg, zand_t, tg_310]
      exact hQ I1 hF
theorem p_reach0 (hR : Rok R) {Q : Option ZV × ZS → Prop} : ∀ (j k : Nat) (g : Nat → Int) (v2 v3 v4 : ZV), 1000 - k = j → k ≤ 1000 → Ag k g (fun _ => 0) → (∀ g, Ag 1000 g (fun _ => 0) → V X call mX12_reached 37 [zr (some 310), zi 1000, v2, v3, v4] [] (c, s, zW I 332 g, L, R) Q) → V X call mX12_reached 17 [zr (some 310), zi (k : Int), v2, v3, v4] [] (c, s, zW I 332 g, L, R) Q := by
  intro j
  induction j with
  | zero =>
    intro k g v2 v3 v4 h1 h2 hg hQ
    have e : k = 1000 := by omega
    subst e
    rw [e_X12_reached_17]
    simp (disch := omega) only [e_X12_reached_0, e_X12_reached_0x, e_X12_reached_1, e_X12_reached_2, e_X12_reached_5, e_X12_reached_5x, e_X12_reached_6, e_X12_reached_9, e_X12_reached_12, e_X12_reached_14, e_X12_reached_15, e_X12_reached_16, e_X12_reached_18, e_X12_reached_21, e_X12_reached_24, e_X12_reached_24x, e_X12_reached_25, e_X12_reached_28, e_X12_reached_29, e_X12_reached_30, e_X12_reached_31, e_X12_reached_34, e_X12_reached_38, e_X12_reached_41, e_X12_reached_41x, e_X12_reached_42, e_X12_reached_45, e_X12_reached_46, e_X12_reached_46x, e_X12_reached_47, e_X12_reached_50, e_X12_reached_51, e_X12_reached_51x, e_X12_reached_52, e_X12_reached_55, e_X12_reached_55x, e_X12_reached_56, e_X12_reached_59, e_X12_reached_60, e_X12_reached_61, e_X12_reached_62, e_X12_reached_63, e_X12_reached_64, e_X12_reached_65, e_X12_reached_66, e_X12_reached_68, e_X12_reached_69, e_X12_reached_72, e_X12_reached_73, e_X12_reached_75, e_X12_reached_75x, e_X12_reached_76, e_X12_reached_79, e_X12_reached_79x, e_X12_reached_80, e_X12_reached_83, e_X12_reached_84, e_X12_reached_87, e_X12_reached_87x, e_X12_reached_88, e_X12_reached_88x, e_X12_reached_89, e_X12_reached_92, e_X12_reached_93, e_X12_reached_94, e_X12_reached_97, e_X12_reached_97x, e_X12_reached_98, e_X12_reached_98x, e_X12_reached_99, e_X12_reached_100, e_X12_reached_103, e_X12_reached_106, e_X12_reached_106x, e_X12_reached_107, e_X12_reached_110, e_X12_reached_112, e_X12_reached_112x, e_X12_reached_113, e_X12_reached_116, e_X12_reached_118, e_X12_reached_119, e_X12_reached_122, e_X12_reached_122x, e_X12_reached_123, e_X12_reached_126, e_X12_reached_128, e_X12_reached_129, e_X12_reached_130, e_X12_reached_130x, e_X12_reached_131, e_X12_reached_134, e_X12_reached_135, e_X12_reached_137, e_X12_reached_138, e_X12_reached_141, e_X12_reached_144, e_X12_reached_150, e_X12_reached_153, e_X12_reached_154, zcll_s, zpush_s, zpush_n, zinv_i, zinv_l, zinv_r, zinv_x, zcats_nil, zcats_i, zcats_l, zcats_r, zcats_x, Nat.le_refl, and_self, true_and, and_true, zok_1, zok_20, zok_21, eq_self, Nat.reduceAdd, Nat.reduceLeDiff, Nat.zero_le, if_true, if_false, zw3_id, if_pos, if_neg, zand_t, tg_310]
    exact hQ g hg
  | succ j ih =>
    intro k g v2 v3 v4 h1 h2 hg hQ
    rw [e_X12_reached_17]
    simp (disch := omega) only [e_X12_reached_0, e_X12_reached_0x, e_X12_reached_1, e_X12_reached_2, e_X12_reached_5, e_X12_reached_5x, e_X12_reached_6, e_X12_reached_9, e_X12_reached_12, e_X12_reached_14, e_X12_reached_15, e_X12_reached_16, e_X12_reached_18, e_X12_reached_21, e_X12_reached_24, e_X12_reached_24x, e_X12_reached_25, e_X12_reached_28, e_X12_reached_29, e_X12_reached_30, e_X12_reached_31, e_X12_reached_34, e_X12_reached_38, e_X12_reached_41, e_X12_reached_41x, e_X12_reached_42, e_X12_reached_45, e_X12_reached_46, e_X12_reached_46x, e_X12_reached_47, e_X12_reached_50, e_X12_reached_51, e_X12_reached_51x, e_X12_reached_52, e_X12_reached_55, e_X12_reached_55x, e_X12_reached_56, e_X12_reached_59, e_X12_reached_60, e_X12_reached_61, e_X12_reached_62, e_X12_reached_63, e_X12_reached_64, e_X12_reached_65, e_X12_reached_66, e_X12_reached_68, e_X12_reached_69, e_X12_reached_72, e_X12_reached_73, e_X12_reached_75, e_X12_reached_75x, e_X12_reached_76, e_X12_reached_79, e_X12_reached_79x, e_X12_reached_80, e_X12_reached_83, e_X12_reached_84, e_X12_reached_87, e_X12_reached_87x, e_X12_reached_88, e_X12_reached_88x, e_X12_reached_89, e_X12_reached_92, e_X12_reached_93, e_X12_reached_94, e_X12_reached_97, e_X12_reached_97x, e_X12_reached_98, e_X12_reached_98x, e_X12_reached_99, e_X12_reached_100, e_X12_reached_103, e_X12_reached_106, e_X12_reached_106x, e_X12_reached_107, e_X12_reached_110, e_X12_reached_112, e_X12_reached_112x, e_X12_reached_113, e_X12_reached_116, e_X12_reached_118, e_X12_reached_119, e_X12_reached_122, e_X12_reached_122x, e_X12_reached_123, e_X12_reached_126, e_X12_reached_128, e_X12_reached_129, e_X12_reached_130, e_X12_reached_130x, e_X12_reached_131, e_X12_reached_134, e_X12_reached_135, e_X12_reached_137, e_X12_reached_138, e_X12_reached_141, e_X12_reached_144, e_X12_reached_150, e_X12_reached_153, e_X12_reached_154, zcll_s, zpush_s, zpush_n, zinv_i, zinv_l, zinv_r, zinv_x, zcats_nil, zcats_i, zcats_l, zcats_r, zcats_x, Nat.le_refl, and_self, true_and, and_true, zok_1, zok_20, zok_21, eq_self, Nat.reduceAdd, Nat.reduceLeDiff, Nat.zero_le, if_true, if_false, zw3_id, if_pos, if_neg, zand_t, tg_310, tg_332, tn_332, rr_310_37 hR, zW_s, zu_W, zW_W, Int.toNat_natCast, or_true, true_or]
    rw [show (k : Int) + 1 = ((k + 1 : Nat) : Int) by omega]
    refine ih (k + 1) _ v2 v3 v4 (by omega) (by omega) ?_ hQ
    exact Ag_e hg rfl
def mZ0 (M : MD) : BF := (1, fun _ => mS0 M, fU (fun _ => 0) (mS0 M).toNat 1)
theorem BZ_0 (hk : MOK M) : BZ M (mZ0 M) := by
  have hs := mS0_in (M := M) hk.2.2.1
  have hN : (mS0 M).toNat < mN M := by unfold mN; omega
  refine ⟨by show 1 ≤ mN M; omega, fun i _ => hs, ?_, ?_⟩
  · intro i _
    show fU (fun _ => 0) (mS0 M).toNat 1 i = 0 ∨ fU (fun _ => 0) (mS0 M).toNat 1 i = 1
    unfold fU
    split
    · exact Or.inr rfl
    · exact Or.inl rfl
  · show cnt (fU (fun _ => 0) (mS0 M).toNat 1) (mN M) = 1
    rw [cnt_u (m := fun _ => 0) (i := (mS0 M).toNat) rfl, if_pos hN]
    have : ∀ n, cnt (fun _ => (0 : Int)) n = 0 := by
      intro n
      induction n with
      | zero => rfl
      | succ n ih => unfold cnt; rw [ih]; rfl
    rw [this]
noncomputable def aReached (b : Prop) (M : MD) : Int := @ite _ b (Classical.propDecidable _) (mBfs M 1000 0 (mZ0 M) : Int) (-3)
theorem RF_B (h : FrB I I1) : RF I L I1 L := ⟨⟨fun a ha => ⟨h a (by omega) (by omega) (by omega), rfl⟩, fun a ha hb => h a (by omega) (by omega) (by omega), fun j hj => by rw [h 310 (by omega) (by omega) (by omega)], rfl⟩, h 333 (by omega) (by omega) (by omega), fun j hj => by rw [h 310 (by omega) (by omega) (by omega)]⟩
theorem c_reached (hR : Rok R) (h : RefT I w M) : ∃ I1, zrun X (d + 3) 159 [zr (some 310)] (c, s, I, L, R) = some (some (zi (aReached (I 310 14 = 1) M)), (c, s, I1, L, R)) ∧ RF I L I1 L := by
  have hT : RefT (zu I 310 0 0) w M := RefT_u (by omega) (by omega) h
  have e14 : zu I 310 0 0 310 14 = I 310 14 := zu_k (by omega)
  unfold aReached
  rcases hT with ⟨h1, hS⟩ | ⟨h1, _⟩
  · rw [e14] at h1
    rw [if_pos h1]
    obtain ⟨hw, hw2, hM, hk⟩ := id hS
    have hp := hk.2.2.2.1
    have hs := mS0_in (M := M) hk.2.2.1
    have p := sx_X12_reached (X := X) (d := d + 2) (u0 := some 310) (σ := (c, s, I, L, R)) (P := fun q => ∃ I1, q = (some (zi (mBfs M 1000 0 (mZ0 M) : Int)), (c, s, I1, L, R)) ∧ RF I L I1 L) ?_
    · obtain ⟨r, p1, I1, p2, p3⟩ := p
      exact ⟨I1, by rw [p1, p2], p3⟩
    · simp (disch := omega) only [e_X12_reached_0, e_X12_reached_0x, e_X12_reached_1, e_X12_reached_2, e_X12_reached_5, e_X12_reached_5x, e_X12_reached_6, e_X12_reached_9, e_X12_reached_12, e_X12_reached_14, e_X12_reached_15, e_X12_reached_16, e_X12_reached_18, e_X12_reached_21, e_X12_reached_24, e_X12_reached_24x, e_X12_reached_25, e_X12_reached_28, e_X12_reached_29, e_X12_reached_30, e_X12_reached_31, e_X12_reached_34, e_X12_reached_38, e_X12_reached_41, e_X12_reached_41x, e_X12_reached_42, e_X12_reached_45, e_X12_reached_46, e_X12_reached_46x, e_X12_reached_47, e_X12_reached_50, e_X12_reached_51, e_X12_reached_51x, e_X12_reached_52, e_X12_reached_55, e_X12_reached_55x, e_X12_reached_56, e_X12_reached_59, e_X12_reached_60, e_X12_reached_61, e_X12_reached_62, e_X12_reached_63, e_X12_reached_64, e_X12_reached_65, e_X12_reached_66, e_X12_reached_68, e_X12_reached_69, e_X12_reached_72, e_X12_reached_73, e_X12_reached_75, e_X12_reached_75x, e_X12_reached_76, e_X12_reached_79, e_X12_reached_79x, e_X12_reached_80, e_X12_reached_83, e_X12_reached_84, e_X12_reached_87, e_X12_reached_87x, e_X12_reached_88, e_X12_reached_88x, e_X12_reached_89, e_X12_reached_92, e_X12_reached_93, e_X12_reached_94, e_X12_reached_97, e_X12_reached_97x, e_X12_reached_98, e_X12_reached_98x, e_X12_reached_99, e_X12_reached_100, e_X12_reached_103, e_X12_reached_106, e_X12_reached_106x, e_X12_reached_107, e_X12_reached_110, e_X12_reached_112, e_X12_reached_112x, e_X12_reached_113, e_X12_reached_116, e_X12_reached_118, e_X12_reached_119, e_X12_reached_122, e_X12_reached_122x, e_X12_reached_123, e_X12_reached_126, e_X12_reached_128, e_X12_reached_129, e_X12_reached_130, e_X12_reached_130x, e_X12_reached_131, e_X12_reached_134, e_X12_reached_135, e_X12_reached_137, e_X12_reached_138, e_X12_reached_141, e_X12_reached_144, e_X12_reached_150, e_X12_reached_153, e_X12_reached_154, zcll_s, zpush_s, zpush_n, zinv_i, zinv_l, zinv_r, zinv_x, zcats_nil, zcats_i, zcats_l, zcats_r, zcats_x, Nat.le_refl, and_self, true_and, and_true, zok_1, zok_20, zok_21, eq_self, Nat.reduceAdd, Nat.reduceLeDiff, Nat.zero_le, if_true, if_false, zw3_id, if_pos, if_neg, zand_t, tg_310, e14, h1]
      have p := p_reach0 (X := X) (call := zrun X (d + 2)) (c := c) (s := s) (I := zu I 310 0 0) (L := L) (Q := fun q => ∃ I1, q = (some (zi (mBfs M 1000 0 (mZ0 M) : Int)), (c, s, I1, L, R)) ∧ RF I L I1 L) hR 1000 0 (zu I 310 0 0 332) (zx 0) (zx 0) (zx 0) rfl (by omega) (fun k hk => absurd hk (by omega)) ?_
      · rw [zW_id] at p
        exact p
      · intro g hg
        have hS1 : RefS (zW (zu I 310 0 0) 332 g) w M := RefS_W (by omega) hS
        obtain ⟨f1, p1, p2⟩ := c_begin (X := X) (d := d + 1) (c := c) (s := s) (L := L) hR hS1
        have p2 := Now_0 hk p2
        have p3 := d_stateNumber (X := X) (d := d + 1) (c := c) (s := s) (L := L) hR hS1 p2
        rw [e_X12_reached_37]
        simp (disch := omega) only [e_X12_reached_0, e_X12_reached_0x, e_X12_reached_1, e_X12_reached_2, e_X12_reached_5, e_X12_reached_5x, e_X12_reached_6, e_X12_reached_9, e_X12_reached_12, e_X12_reached_14, e_X12_reached_15, e_X12_reached_16, e_X12_reached_18, e_X12_reached_21, e_X12_reached_24, e_X12_reached_24x, e_X12_reached_25, e_X12_reached_28, e_X12_reached_29, e_X12_reached_30, e_X12_reached_31, e_X12_reached_34, e_X12_reached_38, e_X12_reached_41, e_X12_reached_41x, e_X12_reached_42, e_X12_reached_45, e_X12_reached_46, e_X12_reached_46x, e_X12_reached_47, e_X12_reached_50, e_X12_reached_51, e_X12_reached_51x, e_X12_reached_52, e_X12_reached_55, e_X12_reached_55x, e_X12_reached_56, e_X12_reached_59, e_X12_reached_60, e_X12_reached_61, e_X12_reached_62, e_X12_reached_63, e_X12_reached_64, e_X12_reached_65, e_X12_reached_66, e_X12_reached_68, e_X12_reached_69, e_X12_reached_72, e_X12_reached_73, e_X12_reached_75, e_X12_reached_75x, e_X12_reached_76, e_X12_reached_79, e_X12_reached_79x, e_X12_reached_80, e_X12_reached_83, e_X12_reached_84, e_X12_reached_87, e_X12_reached_87x, e_X12_reached_88, e_X12_reached_88x, e_X12_reached_89, e_X12_reached_92, e_X12_reached_93, e_X12_reached_94, e_X12_reached_97, e_X12_reached_97x, e_X12_reached_98, e_X12_reached_98x, e_X12_reached_99, e_X12_reached_100, e_X12_reached_103, e_X12_reached_106, e_X12_reached_106x, e_X12_reached_107, e_X12_reached_110, e_X12_reached_112, e_X12_reached_112x, e_X12_reached_113, e_X12_reached_116, e_X12_reached_118, e_X12_reached_119, e_X12_reached_122, e_X12_reached_122x, e_X12_reached_123, e_X12_reached_126, e_X12_reached_128, e_X12_reached_129, e_X12_reached_130, e_X12_reached_130x, e_X12_reached_131, e_X12_reached_134, e_X12_reached_135, e_X12_reached_137, e_X12_reached_138, e_X12_reached_141, e_X12_reached_144, e_X12_reached_150, e_X12_reached_153, e_X12_reached_154, zcll_s, zpush_s, zpush_n, zinv_i, zinv_l, zinv_r, zinv_x, zcats_nil, zcats_i, zcats_l, zcats_r, zcats_x, Nat.le_refl, and_self, true_and, and_true, zok_1, zok_20, zok_21, eq_self, Nat.reduceAdd, Nat.reduceLeDiff, Nat.zero_le, if_true, if_false, zw3_id, if_pos, if_neg, zand_t, tg_310, tg_331, tn_331, tg_332, tn_332, rr_310_36 hR, rr_310_37 hR, zu_s, p1, p3, or_true, true_or, Int.toNat_zero]
        refine p_reach1 (X := X) (d := d) (L := L) hR hS 1000 0 (mZ0 M) _ _ _ rfl (by omega) ?_ (BZ_0 hk) ?_ ?_
        · intro a ha hb hc
          rw [zu_n hc, zu_n hb, zW_n ha, zW_n hc]
        · refine ⟨?_, ?_⟩
          · intro i hi
            have hi : i < 1 := hi
            have e : i = 0 := by omega
            rw [e, zu_a (by omega), zu_s]
            rfl
          · intro i hi
            show _ = fU (fun _ => 0) (mS0 M).toNat 1 i
            unfold fU
            by_cases e1 : i = (mS0 M).toNat
            · rw [if_pos e1, e1, zu_s]
            · rw [if_neg e1, zu_k e1, zu_a (by omega), zW_n (by omega), zW_s]
              exact hg i (by unfold mN at hi; omega)
        · intro I1 hI1
          exact ⟨I1, rfl, RF_t RF_u0 (RF_B hI1)⟩
  · rw [e14] at h1
    rw [if_neg (by omega)]
    refine ⟨zu I 310 0 0, st_X12_reached ?_, RF_u0⟩
    simp (disch := omega) only [e_X12_reached_0, e_X12_reached_0x, e_X12_reached_1, e_X12_reached_2, e_X12_reached_5, e_X12_reached_5x, e_X12_reached_6, e_X12_reached_9, e_X12_reached_12, e_X12_reached_14, e_X12_reached_15, e_X12_reached_16, e_X12_reached_18, e_X12_reached_21, e_X12_reached_24, e_X12_reached_24x, e_X12_reached_25, e_X12_reached_28, e_X12_reached_29, e_X12_reached_30, e_X12_reached_31, e_X12_reached_34, e_X12_reached_38, e_X12_reached_41, e_X12_reached_41x, e_X12_reached_42, e_X12_reached_45, e_X12_reached_46, e_X12_reached_46x, e_X12_reached_47, e_X12_reached_50, e_X12_reached_51, e_X12_reached_51x, e_X12_reached_52, e_X12_reached_55, e_X12_reached_55x, e_X12_reached_56, e_X12_reached_59, e_X12_reached_60, e_X12_reached_61, e_X12_reached_62, e_X12_reached_63, e_X12_reached_64, e_X12_reached_65, e_X12_reached_66, e_X12_reached_68, e_X12_reached_69, e_X12_reached_72, e_X12_reached_73, e_X12_reached_75, e_X12_reached_75x, e_X12_reached_76, e_X12_reached_79, e_X12_reached_79x, e_X12_reached_80, e_X12_reached_83, e_X12_reached_84, e_X12_reached_87, e_X12_reached_87x, e_X12_reached_88, e_X12_reached_88x, e_X12_reached_89, e_X12_reached_92, e_X12_reached_93, e_X12_reached_94, e_X12_reached_97, e_X12_reached_97x, e_X12_reached_98, e_X12_reached_98x, e_X12_reached_99, e_X12_reached_100, e_X12_reached_103, e_X12_reached_106, e_X12_reached_106x, e_X12_reached_107, e_X12_reached_110, e_X12_reached_112, e_X12_reached_112x, e_X12_reached_113, e_X12_reached_116, e_X12_reached_118, e_X12_reached_119, e_X12_reached_122, e_X12_reached_122x, e_X12_reached_123, e_X12_reached_126, e_X12_reached_128, e_X12_reached_129, e_X12_reached_130, e_X12_reached_130x, e_X12_reached_131, e_X12_reached_134, e_X12_reached_135, e_X12_reached_137, e_X12_reached_138, e_X12_reached_141, e_X12_reached_144, e_X12_reached_150, e_X12_reached_153, e_X12_reached_154, zcll_s, zpush_s, zpush_n, zinv_i, zinv_l, zinv_r, zinv_x, zcats_nil, zcats_i, zcats_l, zcats_r, zcats_x, Nat.le_refl, and_self, true_and, and_true, zok_1, zok_20, zok_21, eq_self, Nat.reduceAdd, Nat.reduceLeDiff, Nat.zero_le, if_true, if_false, zw3_id, if_pos, if_neg, zand_t, tg_310, e14, h1]
end
