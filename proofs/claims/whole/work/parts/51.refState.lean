/-! The reference: moves, states and their numbers. -/
section
variable {X : ZX} {d c s : Nat} {I L I1 L1 I2 L2 : ZI} {R : ZR} {call : ZC} {w : Nat} {M : MD} {f : Nat → Int} {x t : Int}
def mNm (v : Int) (l : List TT) : Prop := ∃ t ∈ l, (t.1 : Int) = v
noncomputable def mMv (v : Int) : List MR → Int → Int
  | [], p => p
  | x :: l, p => mMv v l (p + zB (mNm v x.2.2))
theorem mNm_cons {v : Int} {t : TT} {l : List TT} : mNm v (t :: l) ↔ (t.1 : Int) = v ∨ mNm v l := by
  unfold mNm
  constructor
  · rintro ⟨u, hu, hv⟩
    rcases List.mem_cons.mp hu with h | h
    · exact Or.inl (h ▸ hv)
    · exact Or.inr ⟨u, h, hv⟩
  · rintro (h | ⟨u, hu, hv⟩)
    · exact ⟨t, List.mem_cons_self .., h⟩
    · exact ⟨u, List.mem_cons_of_mem _ hu, hv⟩
theorem p_moves1 (hR : Rok R) (hw : w < 2) (v p : Int) (rule : Nat) (hr : rule < 12) (l : List TT) (hl : RT I 324 325 326 327 (12 * w + rule) sge l) (hl3 : l.length ≤ 3) {Q : Option ZV × ZS → Prop} : ∀ (l' : List TT) (j : Nat) (P : Prop) (y : Int), l.drop j = l' → j ≤ l.length → y = zB P → V X call mX12_moves 99 [zr (some 310), zi v, zi p, zi (12 * (w : Int) + rule), zi (zB (P ∨ mNm v l')), zi (3 * (12 * (w : Int) + rule) + l.length)] [] (c, s, I, L, R) Q → V X call mX12_moves 55 [zr (some 310), zi v, zi p, zi (12 * (w : Int) + rule), zi y, zi (3 * (12 * (w : Int) + rule) + j)] [] (c, s, I, L, R) Q := by
  intro l'
  have e0 : (12 * (w : Int) + rule).toNat = 12 * w + rule := by omega
  induction l' with
  | nil =>
    intro j P y h hj hy hQ
    have e := zdropn h hj
    rw [e_X12_moves_55]
    simp (disch := omega) only [e_X12_moves_0, e_X12_moves_0x, e_X12_moves_1, e_X12_moves_2, e_X12_moves_5, e_X12_moves_5x, e_X12_moves_6, e_X12_moves_7, e_X12_moves_10, e_X12_moves_13, e_X12_moves_15, e_X12_moves_16, e_X12_moves_17, e_X12_moves_18, e_X12_moves_20, e_X12_moves_20x, e_X12_moves_21, e_X12_moves_24, e_X12_moves_25, e_X12_moves_27, e_X12_moves_29, e_X12_moves_29x, e_X12_moves_30, e_X12_moves_33, e_X12_moves_34, e_X12_moves_34x, e_X12_moves_35, e_X12_moves_38, e_X12_moves_38x, e_X12_moves_39, e_X12_moves_42, e_X12_moves_43, e_X12_moves_44, e_X12_moves_47, e_X12_moves_48, e_X12_moves_50, e_X12_moves_51, e_X12_moves_52, e_X12_moves_53, e_X12_moves_57, e_X12_moves_58, e_X12_moves_59, e_X12_moves_60, e_X12_moves_60x, e_X12_moves_61, e_X12_moves_64, e_X12_moves_65, e_X12_moves_66, e_X12_moves_67, e_X12_moves_70, e_X12_moves_72, e_X12_moves_75, e_X12_moves_75x, e_X12_moves_76, e_X12_moves_79, e_X12_moves_81, e_X12_moves_82, e_X12_moves_83, e_X12_moves_86, e_X12_moves_87, e_X12_moves_90, e_X12_moves_91, e_X12_moves_93, e_X12_moves_96, e_X12_moves_100, e_X12_moves_102, e_X12_moves_105, e_X12_moves_106, e_X12_moves_109, e_X12_moves_110, e_X12_moves_111, e_X12_moves_112, e_X12_moves_115, e_X12_moves_118, e_X12_moves_119, zcll_s, zpush_s, zpush_n, zinv_i, zinv_l, zinv_r, zinv_x, zcats_nil, zcats_i, zcats_l, zcats_r, zcats_x, Nat.le_refl, and_self, true_and, and_true, zok_1, zok_20, zok_21, eq_self, Nat.reduceAdd, Nat.reduceLeDiff, Nat.zero_le, if_true, if_false, zw3_id, if_pos, if_neg, zand_t, tg_310, tg_324, tn_324, rr_310_27 hR, e0, hl.1]
    rw [show zB (P ∨ mNm v []) = y by rw [hy]; exact zB_c ⟨fun q => q.elim id (fun ⟨_, hu, _⟩ => nomatch hu), Or.inl⟩] at hQ
    rw [e]
    exact hQ
  | cons t l' ih =>
    intro j P y h hj hy hQ
    obtain ⟨h1, h2, h3, h4⟩ := zdrop h
    have hm := hl.2 j t h2
    have e : (3 * (12 * (w : Int) + rule) + j).toNat = 3 * (12 * w + rule) + j := by omega
    have key : ∀ (P1 : Prop) (y : Int), y = zB P1 → (P1 ↔ P ∨ (t.1 : Int) = v) → V X call mX12_moves 55 [zr (some 310), zi v, zi p, zi (12 * (w : Int) + rule), zi y, zi (3 * (12 * (w : Int) + rule) + j + 1)] [] (c, s, I, L, R) Q := by
      intro P1 y hy hP1
      have e1 : 3 * (12 * (w : Int) + rule) + j + 1 = 3 * (12 * (w : Int) + rule) + ((j + 1 : Nat) : Int) := by omega
      rw [e1]
      refine ih (j + 1) P1 y h3 (by omega) hy ?_
      rw [show zB (P1 ∨ mNm v l') = zB (P ∨ mNm v (t :: l')) from zB_c (by rw [mNm_cons, hP1, or_assoc])]
      exact hQ
    rw [e_X12_moves_55]
    by_cases hP : P
    · rw [zB_t hP] at hy
      subst hy
      simp (disch := omega) only [e_X12_moves_0, e_X12_moves_0x, e_X12_moves_1, e_X12_moves_2, e_X12_moves_5, e_X12_moves_5x, e_X12_moves_6, e_X12_moves_7, e_X12_moves_10, e_X12_moves_13, e_X12_moves_15, e_X12_moves_16, e_X12_moves_17, e_X12_moves_18, e_X12_moves_20, e_X12_moves_20x, e_X12_moves_21, e_X12_moves_24, e_X12_moves_25, e_X12_moves_27, e_X12_moves_29, e_X12_moves_29x, e_X12_moves_30, e_X12_moves_33, e_X12_moves_34, e_X12_moves_34x, e_X12_moves_35, e_X12_moves_38, e_X12_moves_38x, e_X12_moves_39, e_X12_moves_42, e_X12_moves_43, e_X12_moves_44, e_X12_moves_47, e_X12_moves_48, e_X12_moves_50, e_X12_moves_51, e_X12_moves_52, e_X12_moves_53, e_X12_moves_57, e_X12_moves_58, e_X12_moves_59, e_X12_moves_60, e_X12_moves_60x, e_X12_moves_61, e_X12_moves_64, e_X12_moves_65, e_X12_moves_66, e_X12_moves_67, e_X12_moves_70, e_X12_moves_72, e_X12_moves_75, e_X12_moves_75x, e_X12_moves_76, e_X12_moves_79, e_X12_moves_81, e_X12_moves_82, e_X12_moves_83, e_X12_moves_86, e_X12_moves_87, e_X12_moves_90, e_X12_moves_91, e_X12_moves_93, e_X12_moves_96, e_X12_moves_100, e_X12_moves_102, e_X12_moves_105, e_X12_moves_106, e_X12_moves_109, e_X12_moves_110, e_X12_moves_111, e_X12_moves_112, e_X12_moves_115, e_X12_moves_118, e_X12_moves_119, zcll_s, zpush_s, zpush_n, zinv_i, zinv_l, zinv_r, zinv_x, zcats_nil, zcats_i, zcats_l, zcats_r, zcats_x, Nat.le_refl, and_self, true_and, and_true, zok_1, zok_20, zok_21, eq_self, Nat.reduceAdd, Nat.reduceLeDiff, Nat.zero_le, if_true, if_false, zw3_id, if_pos, if_neg, zand_t, tg_310, tg_324, tn_324, rr_310_27 hR, e0, hl.1]
      exact key True 1 (by rw [zB_t True.intro]) ⟨fun _ => Or.inl hP, fun _ => True.intro⟩
    · rw [zB_f hP] at hy
      subst hy
      simp (disch := omega) only [e_X12_moves_0, e_X12_moves_0x, e_X12_moves_1, e_X12_moves_2, e_X12_moves_5, e_X12_moves_5x, e_X12_moves_6, e_X12_moves_7, e_X12_moves_10, e_X12_moves_13, e_X12_moves_15, e_X12_moves_16, e_X12_moves_17, e_X12_moves_18, e_X12_moves_20, e_X12_moves_20x, e_X12_moves_21, e_X12_moves_24, e_X12_moves_25, e_X12_moves_27, e_X12_moves_29, e_X12_moves_29x, e_X12_moves_30, e_X12_moves_33, e_X12_moves_34, e_X12_moves_34x, e_X12_moves_35, e_X12_moves_38, e_X12_moves_38x, e_X12_moves_39, e_X12_moves_42, e_X12_moves_43, e_X12_moves_44, e_X12_moves_47, e_X12_moves_48, e_X12_moves_50, e_X12_moves_51, e_X12_moves_52, e_X12_moves_53, e_X12_moves_57, e_X12_moves_58, e_X12_moves_59, e_X12_moves_60, e_X12_moves_60x, e_X12_moves_61, e_X12_moves_64, e_X12_moves_65, e_X12_moves_66, e_X12_moves_67, e_X12_moves_70, e_X12_moves_72, e_X12_moves_75, e_X12_moves_75x, e_X12_moves_76, e_X12_moves_79, e_X12_moves_81, e_X12_moves_82, e_X12_moves_83, e_X12_moves_86, e_X12_moves_87, e_X12_moves_90, e_X12_moves_91, e_X12_moves_93, e_X12_moves_96, e_X12_moves_100, e_X12_moves_102, e_X12_moves_105, e_X12_moves_106, e_X12_moves_109, e_X12_moves_110, e_X12_moves_111, e_X12_moves_112, e_X12_moves_115, e_X12_moves_118, e_X12_moves_119, zcll_s, zpush_s, zpush_n, zinv_i, zinv_l, zinv_r, zinv_x, zcats_nil, zcats_i, zcats_l, zcats_r, zcats_x, Nat.le_refl, and_self, true_and, and_true, zok_1, zok_20, zok_21, eq_self, Nat.reduceAdd, Nat.reduceLeDiff, Nat.zero_le, if_true, if_false, zw3_id, if_pos, if_neg, zand_t, tg_310, tg_324, tn_324, tg_325, tn_325, rr_310_27 hR, rr_310_28 hR, e0, e, hl.1, hm.1]
      split
      · exact key False 0 (by rw [zB_f id]) ⟨fun q => q.elim, fun q => by rcases q with q | q; exact hP q; omega⟩
      · exact key True 1 (by rw [zB_t True.intro]) ⟨fun _ => Or.inr (by omega), fun _ => True.intro⟩
theorem p_moves (hR : Rok R) (h : RefS I w M) (v : Int) {Q : Option ZV × ZS → Prop} : ∀ (l : List MR) (r : Nat) (p : Int) (v4 v5 : ZV), M.2.2.1.drop r = l → r ≤ M.2.2.1.length → 0 ≤ p → p ≤ r → Q (some (zi (mMv v l p)), (c, s, I, L, R)) → V X call mX12_moves 26 [zr (some 310), zi v, zi p, zi (12 * (w : Int) + r), v4, v5] [] (c, s, I, L, R) Q := by
  intro l
  obtain ⟨hw, hw2, hM, hk⟩ := h
  have hn := hk.2.2.2.2.1
  induction l with
  | nil =>
    intro r p v4 v5 h hr h1 h2 hQ
    have e := zdropn h hr
    rw [e_X12_moves_26]
    simp (disch := omega) only [e_X12_moves_0, e_X12_moves_0x, e_X12_moves_1, e_X12_moves_2, e_X12_moves_5, e_X12_moves_5x, e_X12_moves_6, e_X12_moves_7, e_X12_moves_10, e_X12_moves_13, e_X12_moves_15, e_X12_moves_16, e_X12_moves_17, e_X12_moves_18, e_X12_moves_20, e_X12_moves_20x, e_X12_moves_21, e_X12_moves_24, e_X12_moves_25, e_X12_moves_27, e_X12_moves_29, e_X12_moves_29x, e_X12_moves_30, e_X12_moves_33, e_X12_moves_34, e_X12_moves_34x, e_X12_moves_35, e_X12_moves_38, e_X12_moves_38x, e_X12_moves_39, e_X12_moves_42, e_X12_moves_43, e_X12_moves_44, e_X12_moves_47, e_X12_moves_48, e_X12_moves_50, e_X12_moves_51, e_X12_moves_52, e_X12_moves_53, e_X12_moves_57, e_X12_moves_58, e_X12_moves_59, e_X12_moves_60, e_X12_moves_60x, e_X12_moves_61, e_X12_moves_64, e_X12_moves_65, e_X12_moves_66, e_X12_moves_67, e_X12_moves_70, e_X12_moves_72, e_X12_moves_75, e_X12_moves_75x, e_X12_moves_76, e_X12_moves_79, e_X12_moves_81, e_X12_moves_82, e_X12_moves_83, e_X12_moves_86, e_X12_moves_87, e_X12_moves_90, e_X12_moves_91, e_X12_moves_93, e_X12_moves_96, e_X12_moves_100, e_X12_moves_102, e_X12_moves_105, e_X12_moves_106, e_X12_moves_109, e_X12_moves_110, e_X12_moves_111, e_X12_moves_112, e_X12_moves_115, e_X12_moves_118, e_X12_moves_119, zcll_s, zpush_s, zpush_n, zinv_i, zinv_l, zinv_r, zinv_x, zcats_nil, zcats_i, zcats_l, zcats_r, zcats_x, Nat.le_refl, and_self, true_and, and_true, zok_1, zok_20, zok_21, eq_self, Nat.reduceAdd, Nat.reduceLeDiff, Nat.zero_le, if_true, if_false, zw3_id, if_pos, if_neg, zand_t, tg_310, tg_317, tn_317, rr_310_20 hR, hw, Int.toNat_natCast, hM.2.2.2.1]
    exact hQ
  | cons x l ih =>
    intro r p v4 v5 h hr h1 h2 hQ
    obtain ⟨h3, h4, h5, h6⟩ := zdrop h
    have hx := hM.2.2.2.2.1 r x h4
    have hxk := hk.2.2.2.2.2.1 x h6
    unfold mMv at hQ
    have e3 : 12 * (w : Int) + r + 1 = 12 * (w : Int) + ((r + 1 : Nat) : Int) := by omega
    have hz := @zB_01 (mNm v x.2.2)
    have key : ∀ (v4 v5 : ZV), V X call mX12_moves 26 [zr (some 310), zi v, zi (p + zB (mNm v x.2.2)), zi (12 * (w : Int) + ((r + 1 : Nat) : Int)), v4, v5] [] (c, s, I, L, R) Q := fun v4 v5 => ih (r + 1) _ v4 v5 h5 (by omega) (by omega) (by omega) hQ
    rw [e_X12_moves_26]
    simp (disch := omega) only [e_X12_moves_0, e_X12_moves_0x, e_X12_moves_1, e_X12_moves_2, e_X12_moves_5, e_X12_moves_5x, e_X12_moves_6, e_X12_moves_7, e_X12_moves_10, e_X12_moves_13, e_X12_moves_15, e_X12_moves_16, e_X12_moves_17, e_X12_moves_18, e_X12_moves_20, e_X12_moves_20x, e_X12_moves_21, e_X12_moves_24, e_X12_moves_25, e_X12_moves_27, e_X12_moves_29, e_X12_moves_29x, e_X12_moves_30, e_X12_moves_33, e_X12_moves_34, e_X12_moves_34x, e_X12_moves_35, e_X12_moves_38, e_X12_moves_38x, e_X12_moves_39, e_X12_moves_42, e_X12_moves_43, e_X12_moves_44, e_X12_moves_47, e_X12_moves_48, e_X12_moves_50, e_X12_moves_51, e_X12_moves_52, e_X12_moves_53, e_X12_moves_57, e_X12_moves_58, e_X12_moves_59, e_X12_moves_60, e_X12_moves_60x, e_X12_moves_61, e_X12_moves_64, e_X12_moves_65, e_X12_moves_66, e_X12_moves_67, e_X12_moves_70, e_X12_moves_72, e_X12_moves_75, e_X12_moves_75x, e_X12_moves_76, e_X12_moves_79, e_X12_moves_81, e_X12_moves_82, e_X12_moves_83, e_X12_moves_86, e_X12_moves_87, e_X12_moves_90, e_X12_moves_91, e_X12_moves_93, e_X12_moves_96, e_X12_moves_100, e_X12_moves_102, e_X12_moves_105, e_X12_moves_106, e_X12_moves_109, e_X12_moves_110, e_X12_moves_111, e_X12_moves_112, e_X12_moves_115, e_X12_moves_118, e_X12_moves_119, zcll_s, zpush_s, zpush_n, zinv_i, zinv_l, zinv_r, zinv_x, zcats_nil, zcats_i, zcats_l, zcats_r, zcats_x, Nat.le_refl, and_self, true_and, and_true, zok_1, zok_20, zok_21, eq_self, Nat.reduceAdd, Nat.reduceLeDiff, Nat.zero_le, if_true, if_false, zw3_id, if_pos, if_neg, zand_t, tg_310, tg_317, tn_317, rr_310_20 hR, hw, Int.toNat_natCast, hM.2.2.2.1]
    have p := p_moves1 (X := X) (call := call) (c := c) (s := s) (L := L) (Q := Q) hR hw2 v p r (by omega) x.2.2 hx.2.2 hxk.2.2.1 x.2.2 0 False 0 rfl (by omega) (by rw [zB_f id]) ?_
    · rw [show (3 * (12 * (w : Int) + r) + ((0 : Nat) : Int)) = 3 * (12 * (w : Int) + r) by omega] at p
      exact p
    · rw [show zB (False ∨ mNm v x.2.2) = zB (mNm v x.2.2) from zB_c ⟨fun q => q.elim False.elim id, Or.inr⟩, e_X12_moves_99]
      by_cases hb : mNm v x.2.2
      · rw [zB_t hb] at key ⊢
        simp (disch := omega) only [e_X12_moves_0, e_X12_moves_0x, e_X12_moves_1, e_X12_moves_2, e_X12_moves_5, e_X12_moves_5x, e_X12_moves_6, e_X12_moves_7, e_X12_moves_10, e_X12_moves_13, e_X12_moves_15, e_X12_moves_16, e_X12_moves_17, e_X12_moves_18, e_X12_moves_20, e_X12_moves_20x, e_X12_moves_21, e_X12_moves_24, e_X12_moves_25, e_X12_moves_27, e_X12_moves_29, e_X12_moves_29x, e_X12_moves_30, e_X12_moves_33, e_X12_moves_34, e_X12_moves_34x, e_X12_moves_35, e_X12_moves_38, e_X12_moves_38x, e_X12_moves_39, e_X12_moves_42, e_X12_moves_43, e_X12_moves_44, e_X12_moves_47, e_X12_moves_48, e_X12_moves_50, e_X12_moves_51, e_X12_moves_52, e_X12_moves_53, e_X12_moves_57, e_X12_moves_58, e_X12_moves_59, e_X12_moves_60, e_X12_moves_60x, e_X12_moves_61, e_X12_moves_64, e_X12_moves_65, e_X12_moves_66, e_X12_moves_67, e_X12_moves_70, e_X12_moves_72, e_X12_moves_75, e_X12_moves_75x, e_X12_moves_76, e_X12_moves_79, e_X12_moves_81, e_X12_moves_82, e_X12_moves_83, e_X12_moves_86, e_X12_moves_87, e_X12_moves_90, e_X12_moves_91, e_X12_moves_93, e_X12_moves_96, e_X12_moves_100, e_X12_moves_102, e_X12_moves_105, e_X12_moves_106, e_X12_moves_109, e_X12_moves_110, e_X12_moves_111, e_X12_moves_112, e_X12_moves_115, e_X12_moves_118, e_X12_moves_119, zcll_s, zpush_s, zpush_n, zinv_i, zinv_l, zinv_r, zinv_x, zcats_nil, zcats_i, zcats_l, zcats_r, zcats_x, Nat.le_refl, and_self, true_and, and_true, zok_1, zok_20, zok_21, eq_self, Nat.reduceAdd, Nat.reduceLeDiff, Nat.zero_le, if_true, if_false, zw3_id, if_pos, if_neg, zand_t, e3]
        exact key _ _
      · rw [zB_f hb] at key ⊢
        simp (disch := omega) only [e_X12_moves_0, e_X12_moves_0x, e_X12_moves_1, e_X12_moves_2, e_X12_moves_5, e_X12_moves_5x, e_X12_moves_6, e_X12_moves_7, e_X12_moves_10, e_X12_moves_13, e_X12_moves_15, e_X12_moves_16, e_X12_moves_17, e_X12_moves_18, e_X12_moves_20, e_X12_moves_20x, e_X12_moves_21, e_X12_moves_24, e_X12_moves_25, e_X12_moves_27, e_X12_moves_29, e_X12_moves_29x, e_X12_moves_30, e_X12_moves_33, e_X12_moves_34, e_X12_moves_34x, e_X12_moves_35, e_X12_moves_38, e_X12_moves_38x, e_X12_moves_39, e_X12_moves_42, e_X12_moves_43, e_X12_moves_44, e_X12_moves_47, e_X12_moves_48, e_X12_moves_50, e_X12_moves_51, e_X12_moves_52, e_X12_moves_53, e_X12_moves_57, e_X12_moves_58, e_X12_moves_59, e_X12_moves_60, e_X12_moves_60x, e_X12_moves_61, e_X12_moves_64, e_X12_moves_65, e_X12_moves_66, e_X12_moves_67, e_X12_moves_70, e_X12_moves_72, e_X12_moves_75, e_X12_moves_75x, e_X12_moves_76, e_X12_moves_79, e_X12_moves_81, e_X12_moves_82, e_X12_moves_83, e_X12_moves_86, e_X12_moves_87, e_X12_moves_90, e_X12_moves_91, e_X12_moves_93, e_X12_moves_96, e_X12_moves_100, e_X12_moves_102, e_X12_moves_105, e_X12_moves_106, e_X12_moves_109, e_X12_moves_110, e_X12_moves_111, e_X12_moves_112, e_X12_moves_115, e_X12_moves_118, e_X12_moves_119, zcll_s, zpush_s, zpush_n, zinv_i, zinv_l, zinv_r, zinv_x, zcats_nil, zcats_i, zcats_l, zcats_r, zcats_x, Nat.le_refl, and_self, true_and, and_true, zok_1, zok_20, zok_21, eq_self, Nat.reduceAdd, Nat.reduceLeDiff, Nat.zero_le, if_true, if_false, zw3_id, if_pos, if_neg, zand_t, e3]
        exact key _ _
noncomputable def aMoves (b : Prop) (M : MD) (v : Int) : Int := @ite _ (mIsV b M v) (Classical.propDecidable _) (mMv v M.2.2.1 0) (-2)
theorem c_moves (hR : Rok R) (h : RefT I w M) (v : Int) : zrun X (d + 3) 174 [zr (some 310), zi v] (c, s, I, L, R) = some (some (zi (aMoves (I 310 14 = 1) M v)), (c, s, zu I 310 0 0, L, R)) := by
  have hT : RefT (zu I 310 0 0) w M := RefT_u (by omega) (by omega) h
  have e14 : zu I 310 0 0 310 14 = I 310 14 := zu_k (by omega)
  have hA := c_isVar (X := X) (d := d) (c := c) (s := s) (L := L) hR hT v
  rw [e14] at hA
  refine st_X12_moves ?_
  unfold aMoves
  by_cases h1 : mIsV (I 310 14 = 1) M v
  · rw [zB_t h1] at hA
    rw [if_pos h1]
    have hS := RefT_S hT (by rw [e14]; exact h1.1)
    have hw := hS.1
    have hw2 := hS.2.1
    simp (disch := omega) only [e_X12_moves_0, e_X12_moves_0x, e_X12_moves_1, e_X12_moves_2, e_X12_moves_5, e_X12_moves_5x, e_X12_moves_6, e_X12_moves_7, e_X12_moves_10, e_X12_moves_13, e_X12_moves_15, e_X12_moves_16, e_X12_moves_17, e_X12_moves_18, e_X12_moves_20, e_X12_moves_20x, e_X12_moves_21, e_X12_moves_24, e_X12_moves_25, e_X12_moves_27, e_X12_moves_29, e_X12_moves_29x, e_X12_moves_30, e_X12_moves_33, e_X12_moves_34, e_X12_moves_34x, e_X12_moves_35, e_X12_moves_38, e_X12_moves_38x, e_X12_moves_39, e_X12_moves_42, e_X12_moves_43, e_X12_moves_44, e_X12_moves_47, e_X12_moves_48, e_X12_moves_50, e_X12_moves_51, e_X12_moves_52, e_X12_moves_53, e_X12_moves_57, e_X12_moves_58, e_X12_moves_59, e_X12_moves_60, e_X12_moves_60x, e_X12_moves_61, e_X12_moves_64, e_X12_moves_65, e_X12_moves_66, e_X12_moves_67, e_X12_moves_70, e_X12_moves_72, e_X12_moves_75, e_X12_moves_75x, e_X12_moves_76, e_X12_moves_79, e_X12_moves_81, e_X12_moves_82, e_X12_moves_83, e_X12_moves_86, e_X12_moves_87, e_X12_moves_90, e_X12_moves_91, e_X12_moves_93, e_X12_moves_96, e_X12_moves_99, e_X12_moves_100, e_X12_moves_102, e_X12_moves_105, e_X12_moves_106, e_X12_moves_109, e_X12_moves_110, e_X12_moves_111, e_X12_moves_112, e_X12_moves_115, e_X12_moves_118, e_X12_moves_119, zcll_s, zpush_s, zpush_n, zinv_i, zinv_l, zinv_r, zinv_x, zcats_nil, zcats_i, zcats_l, zcats_r, zcats_x, Nat.le_refl, and_self, true_and, and_true, zok_1, zok_20, zok_21, eq_self, Nat.reduceAdd, Nat.reduceLeDiff, Nat.zero_le, if_true, if_false, zw3_id, if_pos, if_neg, zand_t, tg_310, hA, hw]
    rw [show (12 * (w : Int)) = 12 * (w : Int) + ((0 : Nat) : Int) by omega]
    exact p_moves (X := X) (call := zrun X (d + 2)) hR hS v M.2.2.1 0 0 _ _ rfl (by omega) (by omega) (by omega) rfl
  · rw [zB_f h1] at hA
    rw [if_neg h1]
    simp (disch := omega) only [e_X12_moves_0, e_X12_moves_0x, e_X12_moves_1, e_X12_moves_2, e_X12_moves_5, e_X12_moves_5x, e_X12_moves_6, e_X12_moves_7, e_X12_moves_10, e_X12_moves_13, e_X12_moves_15, e_X12_moves_16, e_X12_moves_17, e_X12_moves_18, e_X12_moves_20, e_X12_moves_20x, e_X12_moves_21, e_X12_moves_24, e_X12_moves_25, e_X12_moves_27, e_X12_moves_29, e_X12_moves_29x, e_X12_moves_30, e_X12_moves_33, e_X12_moves_34, e_X12_moves_34x, e_X12_moves_35, e_X12_moves_38, e_X12_moves_38x, e_X12_moves_39, e_X12_moves_42, e_X12_moves_43, e_X12_moves_44, e_X12_moves_47, e_X12_moves_48, e_X12_moves_50, e_X12_moves_51, e_X12_moves_52, e_X12_moves_53, e_X12_moves_57, e_X12_moves_58, e_X12_moves_59, e_X12_moves_60, e_X12_moves_60x, e_X12_moves_61, e_X12_moves_64, e_X12_moves_65, e_X12_moves_66, e_X12_moves_67, e_X12_moves_70, e_X12_moves_72, e_X12_moves_75, e_X12_moves_75x, e_X12_moves_76, e_X12_moves_79, e_X12_moves_81, e_X12_moves_82, e_X12_moves_83, e_X12_moves_86, e_X12_moves_87, e_X12_moves_90, e_X12_moves_91, e_X12_moves_93, e_X12_moves_96, e_X12_moves_99, e_X12_moves_100, e_X12_moves_102, e_X12_moves_105, e_X12_moves_106, e_X12_moves_109, e_X12_moves_110, e_X12_moves_111, e_X12_moves_112, e_X12_moves_115, e_X12_moves_118, e_X12_moves_119, zcll_s, zpush_s, zpush_n, zinv_i, zinv_l, zinv_r, zinv_x, zcats_nil, zcats_i, zcats_l, zcats_r, zcats_x, Nat.le_refl, and_self, true_and, and_true, zok_1, zok_20, zok_21, eq_self, Nat.reduceAdd, Nat.reduceLeDiff, Nat.zero_le, if_true, if_false, zw3_id, if_pos, if_neg, zand_t, tg_310, hA]
theorem mPr_drop {vs : List MV} (h : VOK vs) : ∀ j, VOK (vs.drop j) ∧ mPr (vs.drop j) ≤ mPr vs := by
  induction vs with
  | nil => intro j; rw [List.drop_nil]; exact ⟨h, Int.le_refl _⟩
  | cons x xs ih =>
    intro j
    have h1 := VOK_t h
    cases j with
    | zero => exact ⟨h, Int.le_refl _⟩
    | succ j =>
      rw [List.drop_succ_cons]
      have h2 := ih h1.2 j
      refine ⟨h2.1, Int.le_trans h2.2 ?_⟩
      have h3 := mPr_pos h1.2
      have h4 := Int.mul_le_mul_of_nonneg_left (show 1 ≤ x.2.1 + 1 by omega) (show 0 ≤ mPr xs by omega)
      rw [Int.mul_one] at h4
      exact h4
theorem mIn_drop {vs : List MV} {val : Nat → Int} (h : mIn vs val 0) (j : Nat) : mIn (vs.drop j) val j := by
  intro v hv
  rw [List.length_drop] at hv
  have := h (j + v) (by omega)
  rw [Nat.zero_add] at this
  have e : mg (vs.drop j) v = mg vs (j + v) := by
    unfold mg
    rw [List.getD_eq_getElem?_getD, List.getD_eq_getElem?_getD, List.getElem?_drop]
  rw [e]
  exact this
theorem zdropD {vs : List MV} {j : Nat} (hj : j < vs.length) : vs.drop j = vs.getD j ([], 0, 0) :: vs.drop (j + 1) := by
  rw [List.drop_eq_getElem_cons hj, zgetD (List.getElem?_eq_getElem hj)]
theorem p_stateNumber (hR : Rok R) (h : RefS I w M) (hi : mIn M.2.1 (I 328) 0) {Q : Option ZV × ZS → Prop} (hQ : Q (some (zi (mEn M.2.1 (I 328) 0)), (c, s, I, L, R))) : ∀ (j : Nat), j ≤ M.2.1.length → V X call mX12_stateNumber 14 [zr (some 310), zi (mEn (M.2.1.drop j) (I 328) j), zi ((j : Int) - 1)] [] (c, s, I, L, R) Q := by
  intro j
  obtain ⟨hw, hw2, hM, hk⟩ := id h
  induction j with
  | zero =>
    intro hj
    rw [e_X12_stateNumber_14]
    simp (disch := omega) only [e_X12_stateNumber_0, e_X12_stateNumber_1, e_X12_stateNumber_2, e_X12_stateNumber_2x, e_X12_stateNumber_3, e_X12_stateNumber_6, e_X12_stateNumber_6x, e_X12_stateNumber_7, e_X12_stateNumber_10, e_X12_stateNumber_11, e_X12_stateNumber_12, e_X12_stateNumber_13, e_X12_stateNumber_15, e_X12_stateNumber_18, e_X12_stateNumber_19, e_X12_stateNumber_19x, e_X12_stateNumber_20, e_X12_stateNumber_23, e_X12_stateNumber_24, e_X12_stateNumber_24x, e_X12_stateNumber_25, e_X12_stateNumber_28, e_X12_stateNumber_29, e_X12_stateNumber_30, e_X12_stateNumber_31, e_X12_stateNumber_32, e_X12_stateNumber_33, e_X12_stateNumber_34, e_X12_stateNumber_35, e_X12_stateNumber_35x, e_X12_stateNumber_36, e_X12_stateNumber_39, e_X12_stateNumber_40, e_X12_stateNumber_41, e_X12_stateNumber_42, e_X12_stateNumber_43, e_X12_stateNumber_46, e_X12_stateNumber_49, e_X12_stateNumber_50, zcll_s, zpush_s, zpush_n, zinv_i, zinv_l, zinv_r, zinv_x, zcats_nil, zcats_i, zcats_l, zcats_r, zcats_x, Nat.le_refl, and_self, true_and, and_true, zok_1, zok_20, zok_21, eq_self, Nat.reduceAdd, Nat.reduceLeDiff, Nat.zero_le, if_true, if_false, zw3_id, if_pos, if_neg, zand_t, tg_310]
    exact hQ
  | succ j ih =>
    intro hj
    have hn4 := hk.2.1
    have hvv := RefS_v h (show j < _ by omega)
    have hg := mg_nn hk.2.2.1 j
    have hd := mPr_drop hk.2.2.1 (j + 1)
    have hb := mEn_lt hd.1 (mIn_drop hi (j + 1))
    have hp := hk.2.2.2.1
    have hij := hi j (by omega)
    rw [Nat.zero_add] at hij
    have eD := zdropD (show j < M.2.1.length by omega)
    have e : mEn (M.2.1.drop j) (I 328) j = mEn (M.2.1.drop (j + 1)) (I 328) (j + 1) * (mg M.2.1 j + 1) + I 328 j := by
      rw [eD]; rfl
    have q := ih (by omega)
    rw [e] at q
    generalize mEn (M.2.1.drop (j + 1)) (I 328) (j + 1) = y at q hb ⊢
    have hy : 0 ≤ y * (mg M.2.1 j + 1) := Int.mul_nonneg hb.1 (by omega)
    have hy2 : y * (mg M.2.1 j + 1) ≤ 1000 * 31 := Int.mul_le_mul (by omega) (by omega) (by omega) (by omega)
    rw [e_X12_stateNumber_14]
    have e4 : (4 * (w : Int) + (((j + 1 : Nat) : Int) - 1)).toNat = 4 * w + j := by omega
    have e5 : (((j + 1 : Nat) : Int) - 1).toNat = j := by omega
    have e6 : ((j + 1 : Nat) : Int) - 1 + -1 = (j : Int) - 1 := by omega
    simp (disch := omega) only [e_X12_stateNumber_0, e_X12_stateNumber_1, e_X12_stateNumber_2, e_X12_stateNumber_2x, e_X12_stateNumber_3, e_X12_stateNumber_6, e_X12_stateNumber_6x, e_X12_stateNumber_7, e_X12_stateNumber_10, e_X12_stateNumber_11, e_X12_stateNumber_12, e_X12_stateNumber_13, e_X12_stateNumber_15, e_X12_stateNumber_18, e_X12_stateNumber_19, e_X12_stateNumber_19x, e_X12_stateNumber_20, e_X12_stateNumber_23, e_X12_stateNumber_24, e_X12_stateNumber_24x, e_X12_stateNumber_25, e_X12_stateNumber_28, e_X12_stateNumber_29, e_X12_stateNumber_30, e_X12_stateNumber_31, e_X12_stateNumber_32, e_X12_stateNumber_33, e_X12_stateNumber_34, e_X12_stateNumber_35, e_X12_stateNumber_35x, e_X12_stateNumber_36, e_X12_stateNumber_39, e_X12_stateNumber_40, e_X12_stateNumber_41, e_X12_stateNumber_42, e_X12_stateNumber_43, e_X12_stateNumber_46, e_X12_stateNumber_49, e_X12_stateNumber_50, zcll_s, zpush_s, zpush_n, zinv_i, zinv_l, zinv_r, zinv_x, zcats_nil, zcats_i, zcats_l, zcats_r, zcats_x, Nat.le_refl, and_self, true_and, and_true, zok_1, zok_20, zok_21, eq_self, Nat.reduceAdd, Nat.reduceLeDiff, Nat.zero_le, if_true, if_false, zw3_id, if_pos, if_neg, zand_t, tg_310, tg_315, tn_315, tg_328, tn_328, rr_310_18 hR, rr_310_32 hR, hw, e4, e5, hvv.1, e6]
    exact q
theorem c_stateNumber (hR : Rok R) (h : RefS I w M) (hi : mIn M.2.1 (I 328) 0) : zrun X (d + 1) 152 [zr (some 310)] (c, s, I, L, R) = some (some (zi (mEn M.2.1 (I 328) 0)), (c, s, I, L, R)) := by
  refine st_X12_stateNumber ?_
  obtain ⟨hw, hw2, hM, hk⟩ := id h
  have hn4 := hk.2.1
  simp (disch := omega) only [e_X12_stateNumber_0, e_X12_stateNumber_1, e_X12_stateNumber_2, e_X12_stateNumber_2x, e_X12_stateNumber_3, e_X12_stateNumber_6, e_X12_stateNumber_6x, e_X12_stateNumber_7, e_X12_stateNumber_10, e_X12_stateNumber_11, e_X12_stateNumber_12, e_X12_stateNumber_13, e_X12_stateNumber_15, e_X12_stateNumber_18, e_X12_stateNumber_19, e_X12_stateNumber_19x, e_X12_stateNumber_20, e_X12_stateNumber_23, e_X12_stateNumber_24, e_X12_stateNumber_24x, e_X12_stateNumber_25, e_X12_stateNumber_28, e_X12_stateNumber_29, e_X12_stateNumber_30, e_X12_stateNumber_31, e_X12_stateNumber_32, e_X12_stateNumber_33, e_X12_stateNumber_34, e_X12_stateNumber_35, e_X12_stateNumber_35x, e_X12_stateNumber_36, e_X12_stateNumber_39, e_X12_stateNumber_40, e_X12_stateNumber_41, e_X12_stateNumber_42, e_X12_stateNumber_43, e_X12_stateNumber_46, e_X12_stateNumber_49, e_X12_stateNumber_50, zcll_s, zpush_s, zpush_n, zinv_i, zinv_l, zinv_r, zinv_x, zcats_nil, zcats_i, zcats_l, zcats_r, zcats_x, Nat.le_refl, and_self, true_and, and_true, zok_1, zok_20, zok_21, eq_self, Nat.reduceAdd, Nat.reduceLeDiff, Nat.zero_le, if_true, if_false, zw3_id, if_pos, if_neg, zand_t, tg_310, tg_313, tn_313, rr_310_16 hR, hw, Int.toNat_natCast, hM.2.1]
  have p := p_stateNumber (X := X) (call := zrun X d) (c := c) (s := s) (L := L) (Q := fun q => q = (some (zi (mEn M.2.1 (I 328) 0)), c, s, I, L, R)) hR h hi rfl M.2.1.length (by omega)
  rw [List.drop_length] at p
  exact p
theorem p_be (hR : Rok R) (h : RefS I w M) (st : Int) (h0 : 0 ≤ st) (hst : st < 100000) {Q : Option ZV × ZS → Prop} (hQ : ∀ f, (∀ v, v < M.2.1.length → f v = mDe M.2.1 st v) → Q (none, (c, s, zW I 328 f, L, R))) : ∀ (l : List MV) (j : Nat) (f : Nat → Int) (left : Int) (v4 : ZV), M.2.1.drop j = l → j ≤ M.2.1.length → 0 ≤ left → left ≤ st → (∀ u, u < j → f u = mDe M.2.1 st u) → (∀ u, mDe l left u = mDe M.2.1 st (j + u)) → V X call mX12_be 4 [zr (some 310), zi st, zi left, zi (j : Int), v4] [] (c, s, zW I 328 f, L, R) Q := by
  intro l
  obtain ⟨hw, hw2, hM, hk⟩ := id h
  have hn4 := hk.2.1
  induction l with
  | nil =>
    intro j f left v4 h1 h2 h3 h4 h5 h6
    have e := zdropn h1 h2
    rw [e_X12_be_4]
    simp (disch := omega) only [e_X12_be_0, e_X12_be_1, e_X12_be_2, e_X12_be_3, e_X12_be_5, e_X12_be_5x, e_X12_be_6, e_X12_be_9, e_X12_be_9x, e_X12_be_10, e_X12_be_13, e_X12_be_14, e_X12_be_17, e_X12_be_17x, e_X12_be_18, e_X12_be_21, e_X12_be_22, e_X12_be_22x, e_X12_be_23, e_X12_be_26, e_X12_be_27, e_X12_be_28, e_X12_be_29, e_X12_be_30, e_X12_be_31, e_X12_be_32, e_X12_be_34, e_X12_be_34x, e_X12_be_35, e_X12_be_38, e_X12_be_39, e_X12_be_40, e_X12_be_42, e_X12_be_43, e_X12_be_44, e_X12_be_45, e_X12_be_47, e_X12_be_48, e_X12_be_49, e_X12_be_52, e_X12_be_55, zcll_s, zpush_s, zpush_n, zinv_i, zinv_l, zinv_r, zinv_x, zcats_nil, zcats_i, zcats_l, zcats_r, zcats_x, Nat.le_refl, and_self, true_and, and_true, zok_1, zok_20, zok_21, eq_self, Nat.reduceAdd, Nat.reduceLeDiff, Nat.zero_le, if_true, if_false, zw3_id, if_pos, if_neg, zand_t, tg_310, tg_313, tn_313, rr_310_16 hR, zW_n, hw, Int.toNat_natCast, hM.2.1]
    exact hQ f (fun v hv => h5 v (by omega))
  | cons y l ih =>
    intro j f left v4 h1 h2 h3 h4 h5 h6
    obtain ⟨k1, k2, k3, k4⟩ := zdrop h1
    have hvv := RefS_v h k1
    have hy := hk.2.2.1 y k4
    have eg : mg M.2.1 j = y.2.1 := by unfold mg; rw [zgetD k2]
    have e4 : (4 * (w : Int) + (j : Int)).toNat = 4 * w + j := by omega
    rw [eg] at hvv
    have hd0 := Int.ediv_nonneg h3 (show 0 ≤ y.2.1 + 1 by omega)
    have hd1 := Int.ediv_le_self (y.2.1 + 1) h3
    have z1 : zrem3 left (y.2.1 + 1) = left % (y.2.1 + 1) := zq_rem3 (by unfold zi3; omega) h3 (by omega) (by unfold zi3; omega)
    have z2 : zdiv3 left (y.2.1 + 1) = left / (y.2.1 + 1) := zq_div3 (by unfold zi3; omega) h3 (by omega) (by unfold zi3; omega)
    have key : ∀ v4, V X call mX12_be 4 [zr (some 310), zi st, zi (left / (y.2.1 + 1)), zi ((j : Int) + 1), v4] [] (c, s, zW I 328 (fun k => if k = j then left % (y.2.1 + 1) else f k), L, R) Q := by
      intro v4
      rw [show (j : Int) + 1 = ((j + 1 : Nat) : Int) by omega]
      refine ih (j + 1) _ _ v4 k3 (by omega) hd0 (by omega) ?_ ?_
      · intro u hu
        by_cases hj : u = j
        · rw [if_pos hj, hj]
          have := h6 0
          exact this
        · rw [if_neg hj]
          exact h5 u (by omega)
      · intro u
        have := h6 (u + 1)
        rw [show j + 1 + u = j + (u + 1) by omega, ← this]
        rfl
    rw [e_X12_be_4]
    simp (disch := omega) only [e_X12_be_0, e_X12_be_1, e_X12_be_2, e_X12_be_3, e_X12_be_5, e_X12_be_5x, e_X12_be_6, e_X12_be_9, e_X12_be_9x, e_X12_be_10, e_X12_be_13, e_X12_be_14, e_X12_be_17, e_X12_be_17x, e_X12_be_18, e_X12_be_21, e_X12_be_22, e_X12_be_22x, e_X12_be_23, e_X12_be_26, e_X12_be_27, e_X12_be_28, e_X12_be_29, e_X12_be_30, e_X12_be_31, e_X12_be_32, e_X12_be_34, e_X12_be_34x, e_X12_be_35, e_X12_be_38, e_X12_be_39, e_X12_be_40, e_X12_be_42, e_X12_be_43, e_X12_be_44, e_X12_be_45, e_X12_be_47, e_X12_be_48, e_X12_be_49, e_X12_be_52, e_X12_be_55, zcll_s, zpush_s, zpush_n, zinv_i, zinv_l, zinv_r, zinv_x, zcats_nil, zcats_i, zcats_l, zcats_r, zcats_x, Nat.le_refl, and_self, true_and, and_true, zok_1, zok_20, zok_21, eq_self, Nat.reduceAdd, Nat.reduceLeDiff, Nat.zero_le, if_true, if_false, zw3_id, if_pos, if_neg, zand_t, tg_310, tg_313, tn_313, tg_315, tn_315, tg_328, tn_328, rr_310_16 hR, rr_310_18 hR, rr_310_32 hR, zW_n, zW_s, zu_W, zW_W, hw, Int.toNat_natCast, hM.2.1, e4, hvv.1, z1, z2]
    exact key _
theorem c_be (hR : Rok R) (h : RefS I w M) (st : Int) (h0 : 0 ≤ st) (hst : st < mPr M.2.1) : ∃ f, zrun X (d + 1) 153 [zr (some 310), zi st] (c, s, I, L, R) = some (none, (c, s, zW I 328 f, L, R)) ∧ Now M f st := by
  have hp := h.2.2.2.2.2.2.1
  have p := sx_X12_be (X := X) (d := d) (u0 := some 310) (x1 := st) (σ := (c, s, I, L, R)) (P := fun q => ∃ f, q = (none, (c, s, zW I 328 f, L, R)) ∧ Now M f st) ?_
  · obtain ⟨r, h1, f, h2, h3⟩ := p
    exact ⟨f, by rw [h1, h2], h3⟩
  · simp (disch := omega) only [e_X12_be_0, e_X12_be_1, e_X12_be_2, e_X12_be_3, e_X12_be_5, e_X12_be_5x, e_X12_be_6, e_X12_be_9, e_X12_be_9x, e_X12_be_10, e_X12_be_13, e_X12_be_14, e_X12_be_17, e_X12_be_17x, e_X12_be_18, e_X12_be_21, e_X12_be_22, e_X12_be_22x, e_X12_be_23, e_X12_be_26, e_X12_be_27, e_X12_be_28, e_X12_be_29, e_X12_be_30, e_X12_be_31, e_X12_be_32, e_X12_be_34, e_X12_be_34x, e_X12_be_35, e_X12_be_38, e_X12_be_39, e_X12_be_40, e_X12_be_42, e_X12_be_43, e_X12_be_44, e_X12_be_45, e_X12_be_47, e_X12_be_48, e_X12_be_49, e_X12_be_52, e_X12_be_55, zcll_s, zpush_s, zpush_n, zinv_i, zinv_l, zinv_r, zinv_x, zcats_nil, zcats_i, zcats_l, zcats_r, zcats_x, Nat.le_refl, and_self, true_and, and_true, zok_1, zok_20, zok_21, eq_self, Nat.reduceAdd, Nat.reduceLeDiff, Nat.zero_le, if_true, if_false, zw3_id, if_pos, if_neg, zand_t]
    have p := p_be (X := X) (call := zrun X d) (c := c) (s := s) (L := L) (Q := fun q => ∃ f, q = (none, (c, s, zW I 328 f, L, R)) ∧ Now M f st) hR h st h0 (by omega) (fun f hf => ⟨f, rfl, hf, h0, hst⟩) M.2.1 0 (I 328) st (zx 0) rfl (by omega) h0 (by omega) (fun u hu => absurd hu (by omega)) (fun u => by rw [Nat.zero_add])
    rw [zW_id] at p
    exact p
theorem p_statesOf (hR : Rok R) (h : RefS I w M) {Q : Option ZV × ZS → Prop} (hQ : Q (some (zi (mPr M.2.1)), (c, s, I, L, R))) : ∀ (l : List MV) (j : Nat) (n : Int), M.2.1.drop j = l → j ≤ M.2.1.length → 0 ≤ n → n * mPr l = mPr M.2.1 → V X call mX12_statesOf 4 [zr (some 310), zi (w : Int), zi n, zi (j : Int)] [] (c, s, I, L, R) Q := by
  intro l
  obtain ⟨hw, hw2, hM, hk⟩ := id h
  have hn4 := hk.2.1
  induction l with
  | nil =>
    intro j n h1 h2 h3 h4
    have e := zdropn h1 h2
    rw [e_X12_statesOf_4]
    simp (disch := omega) only [e_X12_statesOf_0, e_X12_statesOf_1, e_X12_statesOf_2, e_X12_statesOf_3, e_X12_statesOf_5, e_X12_statesOf_5x, e_X12_statesOf_6, e_X12_statesOf_9, e_X12_statesOf_10, e_X12_statesOf_11, e_X12_statesOf_14, e_X12_statesOf_15, e_X12_statesOf_15x, e_X12_statesOf_16, e_X12_statesOf_19, e_X12_statesOf_20, e_X12_statesOf_21, e_X12_statesOf_22, e_X12_statesOf_23, e_X12_statesOf_24, e_X12_statesOf_25, e_X12_statesOf_26, e_X12_statesOf_27, e_X12_statesOf_28, e_X12_statesOf_29, e_X12_statesOf_32, e_X12_statesOf_35, e_X12_statesOf_36, zcll_s, zpush_s, zpush_n, zinv_i, zinv_l, zinv_r, zinv_x, zcats_nil, zcats_i, zcats_l, zcats_r, zcats_x, Nat.le_refl, and_self, true_and, and_true, zok_1, zok_20, zok_21, eq_self, Nat.reduceAdd, Nat.reduceLeDiff, Nat.zero_le, if_true, if_false, zw3_id, if_pos, if_neg, zand_t, tg_310, tg_313, tn_313, rr_310_16 hR, hw, Int.toNat_natCast, hM.2.1]
    rw [show mPr [] = 1 from rfl, Int.mul_one] at h4
    rw [h4]
    exact hQ
  | cons y l ih =>
    intro j n h1 h2 h3 h4
    obtain ⟨k1, k2, k3, k4⟩ := zdrop h1
    have hvv := RefS_v h k1
    have hy := hk.2.2.1 y k4
    have eg : mg M.2.1 j = y.2.1 := by unfold mg; rw [zgetD k2]
    rw [eg] at hvv
    have e4 : (4 * (w : Int) + (j : Int)).toNat = 4 * w + j := by omega
    have hp := hk.2.2.2.1
    have hl := mPr_pos (mPr_drop hk.2.2.1 (j + 1)).1
    rw [k3] at hl
    rw [show mPr (y :: l) = mPr l * (y.2.1 + 1) from rfl, Int.mul_comm (mPr l), ← Int.mul_assoc] at h4
    have hn0 : 0 ≤ n * (y.2.1 + 1) := Int.mul_nonneg h3 (by omega)
    have hn1 : n * (y.2.1 + 1) ≤ 1000 := by
      have := Int.mul_le_mul_of_nonneg_left hl hn0
      rw [Int.mul_one] at this
      omega
    rw [e_X12_statesOf_4]
    simp (disch := omega) only [e_X12_statesOf_0, e_X12_statesOf_1, e_X12_statesOf_2, e_X12_statesOf_3, e_X12_statesOf_5, e_X12_statesOf_5x, e_X12_statesOf_6, e_X12_statesOf_9, e_X12_statesOf_10, e_X12_statesOf_11, e_X12_statesOf_14, e_X12_statesOf_15, e_X12_statesOf_15x, e_X12_statesOf_16, e_X12_statesOf_19, e_X12_statesOf_20, e_X12_statesOf_21, e_X12_statesOf_22, e_X12_statesOf_23, e_X12_statesOf_24, e_X12_statesOf_25, e_X12_statesOf_26, e_X12_statesOf_27, e_X12_statesOf_28, e_X12_statesOf_29, e_X12_statesOf_32, e_X12_statesOf_35, e_X12_statesOf_36, zcll_s, zpush_s, zpush_n, zinv_i, zinv_l, zinv_r, zinv_x, zcats_nil, zcats_i, zcats_l, zcats_r, zcats_x, Nat.le_refl, and_self, true_and, and_true, zok_1, zok_20, zok_21, eq_self, Nat.reduceAdd, Nat.reduceLeDiff, Nat.zero_le, if_true, if_false, zw3_id, if_pos, if_neg, zand_t, tg_310, tg_313, tn_313, tg_315, tn_315, rr_310_16 hR, rr_310_18 hR, hw, Int.toNat_natCast, hM.2.1, e4, hvv.1]
    rw [show (j : Int) + 1 = ((j + 1 : Nat) : Int) by omega]
    exact ih (j + 1) _ k3 (by omega) hn0 h4
theorem c_statesOf (hR : Rok R) (h : RefS I w M) : zrun X (d + 1) 127 [zr (some 310), zi (w : Int)] (c, s, I, L, R) = some (some (zi (mPr M.2.1)), (c, s, I, L, R)) := by
  refine st_X12_statesOf ?_
  simp (disch := omega) only [e_X12_statesOf_0, e_X12_statesOf_1, e_X12_statesOf_2, e_X12_statesOf_3, e_X12_statesOf_5, e_X12_statesOf_5x, e_X12_statesOf_6, e_X12_statesOf_9, e_X12_statesOf_10, e_X12_statesOf_11, e_X12_statesOf_14, e_X12_statesOf_15, e_X12_statesOf_15x, e_X12_statesOf_16, e_X12_statesOf_19, e_X12_statesOf_20, e_X12_statesOf_21, e_X12_statesOf_22, e_X12_statesOf_23, e_X12_statesOf_24, e_X12_statesOf_25, e_X12_statesOf_26, e_X12_statesOf_27, e_X12_statesOf_28, e_X12_statesOf_29, e_X12_statesOf_32, e_X12_statesOf_35, e_X12_statesOf_36, zcll_s, zpush_s, zpush_n, zinv_i, zinv_l, zinv_r, zinv_x, zcats_nil, zcats_i, zcats_l, zcats_r, zcats_x, Nat.le_refl, and_self, true_and, and_true, zok_1, zok_20, zok_21, eq_self, Nat.reduceAdd, Nat.reduceLeDiff, Nat.zero_le, if_true, if_false, zw3_id, if_pos, if_neg, zand_t]
  exact p_statesOf (X := X) (call := zrun X d) (Q := fun q => q = (some (zi (mPr M.2.1)), (c, s, I, L, R))) hR h rfl M.2.1 0 1 rfl (by omega) (by omega) (by rw [Int.one_mul])
end
