/-! The reference: ways. -/
section
variable {X : ZX} {d c s : Nat} {I L I1 L1 I2 L2 : ZI} {R : ZR} {call : ZC} {w : Nat} {M : MD} {f : Nat → Int} {x t : Int}
def Ag (n : Nat) (f F : Nat → Int) : Prop := ∀ k, k < n → f k = F k
def fU (f : Nat → Int) (k : Nat) (y : Int) : Nat → Int := fun j => if j = k then y else f j
def mN (M : MD) : Nat := (mPr M.2.1).toNat
theorem Ag_u {n k : Nat} {f F : Nat → Int} {y z : Int} (h : Ag n f F) (hy : y = z) : Ag n (fun j => if j = k then y else f j) (fU F k z) := by
  intro j hj
  show (if j = k then y else f j) = (if j = k then z else F j)
  by_cases hk : j = k
  · rw [if_pos hk, if_pos hk, hy]
  · rw [if_neg hk, if_neg hk, h j hj]
theorem Ag_e {k : Nat} {g F : Nat → Int} {y : Int} (h : Ag k g F) (hy : y = F k) : Ag (k + 1) (fun j => if j = k then y else g j) F := by
  intro j hj
  show (if j = k then y else g j) = F j
  by_cases hk : j = k
  · rw [if_pos hk, hk, hy]
  · rw [if_neg hk, h j (by omega)]
theorem d_be (hR : Rok R) (h : RefS I w M) (t : Int) (h0 : 0 ≤ t) (ht : t < mPr M.2.1) : ∃ f1, zrun X (d + 1) 153 [zr (some 310), zi t] (c, s, zW I 328 f, L, R) = some (none, (c, s, zW I 328 f1, L, R)) ∧ Now M f1 t := by
  obtain ⟨f1, p1, p2⟩ := c_be (X := X) (d := d) (c := c) (s := s) (L := L) hR (RefS_W (a := 328) (f := f) (by omega) h) t h0 ht
  rw [zW_W] at p1
  exact ⟨f1, p1, p2⟩
theorem d_stateNumber (hR : Rok R) (h : RefS I w M) (hN : Now M f t) : zrun X (d + 1) 152 [zr (some 310)] (c, s, zW I 328 f, L, R) = some (some (zi t), (c, s, zW I 328 f, L, R)) := by
  have p := c_stateNumber (X := X) (d := d) (c := c) (s := s) (L := L) hR (RefS_W (a := 328) (f := f) (by omega) h) (by rw [zW_s]; exact Now_in h.2.2.2 hN)
  rw [zW_s, mEn_mDe h.2.2.2.2.2.1 (fun v hv => by rw [Nat.zero_add]; exact hN.1 v hv) hN.2.1 hN.2.2] at p
  exact p
theorem d_statesOf (hR : Rok R) (h : RefS I w M) : zrun X (d + 1) 127 [zr (some 310), zi (w : Int)] (c, s, zW I 328 f, L, R) = some (some (zi (mPr M.2.1)), (c, s, zW I 328 f, L, R)) := c_statesOf hR (RefS_W (a := 328) (f := f) (by omega) h)
theorem d_begin (hR : Rok R) (h : RefS I w M) : ∃ f1, zrun X (d + 1) 138 [zr (some 310)] (c, s, zW I 328 f, L, R) = some (none, (c, s, zW I 328 f1, L, R)) ∧ Now M f1 (mS0 M) := by
  obtain ⟨f1, p1, p2⟩ := c_begin (X := X) (d := d) (c := c) (s := s) (L := L) hR (RefS_W (a := 328) (f := f) (by omega) h)
  rw [zW_W] at p1
  exact ⟨f1, p1, Now_0 h.2.2.2 p2⟩
/-- then, with y added at the states that lots d from e on lead to from t -/
noncomputable def mAd (M : MD) (t y : Int) : Nat → Int → (Nat → Int) → Nat → Int
  | 0, _, F => F
  | j + 1, e, F => mAd M t y j (e + 1) (fU F (mS M t e).toNat (zw6 (F (mS M t e).toNat + y)))
theorem p_step2 (hR : Rok R) (h : RefS I w M) (t : Int) (h0 : 0 ≤ t) (ht : t < mPr M.2.1) {Q : Option ZV × ZS → Prop} : ∀ (j : Nat) (e : Int) (f g F : Nat → Int), (M.1 - e).toNat = j → 0 ≤ e → e ≤ M.1 → Ag (mN M) g F → (∀ f g v3, Ag (mN M) g (mAd M t (L 329 t.toNat) j e F) → V X (zrun X (d + 2)) mX12_step 100 [zr (some 310), zi (mPr M.2.1), zi t, v3] [] (c, s, zW I 328 f, zW L 330 g, R) Q) → V X (zrun X (d + 2)) mX12_step 49 [zr (some 310), zi (mPr M.2.1), zi t, zi e] [] (c, s, zW I 328 f, zW L 330 g, R) Q := by
  intro j
  obtain ⟨hw, hw2, hM, hk⟩ := id h
  have hp := hk.2.2.2.1
  have hl := hk.1
  have h312 : I 312 ((w : Int)).toNat = M.1 := by rw [Int.toNat_natCast]; exact hM.1
  induction j with
  | zero =>
    intro e f g F h1 h2 h3 hg hQ
    rw [e_X12_step_49]
    simp (disch := omega) only [e_X12_step_0, e_X12_step_0x, e_X12_step_1, e_X12_step_1x, e_X12_step_2, e_X12_step_5, e_X12_step_8, e_X12_step_9, e_X12_step_10, e_X12_step_12, e_X12_step_13, e_X12_step_16, e_X12_step_16x, e_X12_step_17, e_X12_step_20, e_X12_step_21, e_X12_step_22, e_X12_step_23, e_X12_step_26, e_X12_step_29, e_X12_step_30, e_X12_step_32, e_X12_step_33, e_X12_step_36, e_X12_step_36x, e_X12_step_37, e_X12_step_40, e_X12_step_41, e_X12_step_42, e_X12_step_43, e_X12_step_44, e_X12_step_47, e_X12_step_48, e_X12_step_50, e_X12_step_50x, e_X12_step_51, e_X12_step_54, e_X12_step_54x, e_X12_step_55, e_X12_step_58, e_X12_step_59, e_X12_step_62, e_X12_step_62x, e_X12_step_63, e_X12_step_64, e_X12_step_67, e_X12_step_67x, e_X12_step_68, e_X12_step_68x, e_X12_step_69, e_X12_step_70, e_X12_step_73, e_X12_step_76, e_X12_step_76x, e_X12_step_77, e_X12_step_80, e_X12_step_80x, e_X12_step_81, e_X12_step_84, e_X12_step_85, e_X12_step_86, e_X12_step_86x, e_X12_step_87, e_X12_step_90, e_X12_step_91, e_X12_step_92, e_X12_step_93, e_X12_step_94, e_X12_step_97, e_X12_step_103, e_X12_step_106, e_X12_step_107, e_X12_step_109, e_X12_step_110, e_X12_step_113, e_X12_step_113x, e_X12_step_114, e_X12_step_117, e_X12_step_118, e_X12_step_118x, e_X12_step_119, e_X12_step_122, e_X12_step_123, e_X12_step_124, e_X12_step_125, e_X12_step_128, e_X12_step_131, zcll_s, zpush_s, zpush_n, zinv_i, zinv_l, zinv_r, zinv_x, zcats_nil, zcats_i, zcats_l, zcats_r, zcats_x, Nat.le_refl, and_self, true_and, and_true, zok_1, zok_20, zok_21, eq_self, Nat.reduceAdd, Nat.reduceLeDiff, Nat.zero_le, if_true, if_false, zw3_id, if_pos, if_neg, zand_t, tg_310, tg_312, tn_312, rr_310_15 hR, zW_n, hw, h312]
    exact hQ f g _ hg
  | succ j ih =>
    intro e f g F h1 h2 h3 hg hQ
    obtain ⟨f1, p1, p2⟩ := d_be (X := X) (d := d + 1) (c := c) (s := s) (f := f) (L := zW L 330 g) hR h t h0 ht
    have hs := mS_in (M := M) hk.2.2.1 (d := e) h0
    have p3 := d_stateNumber (X := X) (d := d + 1) (c := c) (s := s) (L := zW L 330 g) hR h (Now_s hk p2 e)
    rw [e_X12_step_49]
    simp (disch := omega) only [e_X12_step_0, e_X12_step_0x, e_X12_step_1, e_X12_step_1x, e_X12_step_2, e_X12_step_5, e_X12_step_8, e_X12_step_9, e_X12_step_10, e_X12_step_12, e_X12_step_13, e_X12_step_16, e_X12_step_16x, e_X12_step_17, e_X12_step_20, e_X12_step_21, e_X12_step_22, e_X12_step_23, e_X12_step_26, e_X12_step_29, e_X12_step_30, e_X12_step_32, e_X12_step_33, e_X12_step_36, e_X12_step_36x, e_X12_step_37, e_X12_step_40, e_X12_step_41, e_X12_step_42, e_X12_step_43, e_X12_step_44, e_X12_step_47, e_X12_step_48, e_X12_step_50, e_X12_step_50x, e_X12_step_51, e_X12_step_54, e_X12_step_54x, e_X12_step_55, e_X12_step_58, e_X12_step_59, e_X12_step_62, e_X12_step_62x, e_X12_step_63, e_X12_step_64, e_X12_step_67, e_X12_step_67x, e_X12_step_68, e_X12_step_68x, e_X12_step_69, e_X12_step_70, e_X12_step_73, e_X12_step_76, e_X12_step_76x, e_X12_step_77, e_X12_step_80, e_X12_step_80x, e_X12_step_81, e_X12_step_84, e_X12_step_85, e_X12_step_86, e_X12_step_86x, e_X12_step_87, e_X12_step_90, e_X12_step_91, e_X12_step_92, e_X12_step_93, e_X12_step_94, e_X12_step_97, e_X12_step_103, e_X12_step_106, e_X12_step_107, e_X12_step_109, e_X12_step_110, e_X12_step_113, e_X12_step_113x, e_X12_step_114, e_X12_step_117, e_X12_step_118, e_X12_step_118x, e_X12_step_119, e_X12_step_122, e_X12_step_123, e_X12_step_124, e_X12_step_125, e_X12_step_128, e_X12_step_131, zcll_s, zpush_s, zpush_n, zinv_i, zinv_l, zinv_r, zinv_x, zcats_nil, zcats_i, zcats_l, zcats_r, zcats_x, Nat.le_refl, and_self, true_and, and_true, zok_1, zok_20, zok_21, eq_self, Nat.reduceAdd, Nat.reduceLeDiff, Nat.zero_le, if_true, if_false, zw3_id, if_pos, if_neg, zand_t, tg_310, tg_312, tn_312, tg_329, tn_329, tg_330, tn_330, rr_310_15 hR, rr_310_34 hR, rr_310_35 hR, zW_n, zW_s, zu_W, zW_W, hw, h312, p1, d_ruleBy hR h p2, d_go hR h p2, p3]
    refine ih (e + 1) _ _ (fU F (mS M t e).toNat (zw6 (F (mS M t e).toNat + L 329 t.toNat))) (by omega) (by omega) (by omega) ?_ hQ
    exact Ag_u hg (by rw [hg (mS M t e).toNat (by unfold mN; omega)])
/-- a step of the ways from state k on -/
noncomputable def mSt (M : MD) (W : Nat → Int) : Nat → Nat → (Nat → Int) → Nat → Int
  | 0, _, F => F
  | j + 1, k, F => mSt M W j (k + 1) (if 0 < W k then mAd M (k : Int) (W k) M.1.toNat 0 F else F)
theorem p_step1 (hR : Rok R) (h : RefS I w M) {Q : Option ZV × ZS → Prop} : ∀ (j k : Nat) (f g F : Nat → Int) (v3 : ZV), mN M - k = j → k ≤ mN M → Ag (mN M) g F → (∀ f g v3, Ag (mN M) g (mSt M (L 329) j k F) → V X (zrun X (d + 2)) mX12_step 106 [zr (some 310), zi (mPr M.2.1), zi (mN M : Int), v3] [] (c, s, zW I 328 f, zW L 330 g, R) Q) → V X (zrun X (d + 2)) mX12_step 31 [zr (some 310), zi (mPr M.2.1), zi (k : Int), v3] [] (c, s, zW I 328 f, zW L 330 g, R) Q := by
  intro j
  obtain ⟨hw, hw2, hM, hk⟩ := id h
  have hp := hk.2.2.2.1
  have hl := hk.1
  have hp1 := mPr_pos hk.2.2.1
  have eN : ((mN M : Nat) : Int) = mPr M.2.1 := by unfold mN; omega
  induction j with
  | zero =>
    intro k f g F v3 h1 h2 hg hQ
    have e : k = mN M := by omega
    rw [e_X12_step_31]
    simp (disch := omega) only [e_X12_step_0, e_X12_step_0x, e_X12_step_1, e_X12_step_1x, e_X12_step_2, e_X12_step_5, e_X12_step_8, e_X12_step_9, e_X12_step_10, e_X12_step_12, e_X12_step_13, e_X12_step_16, e_X12_step_16x, e_X12_step_17, e_X12_step_20, e_X12_step_21, e_X12_step_22, e_X12_step_23, e_X12_step_26, e_X12_step_29, e_X12_step_30, e_X12_step_32, e_X12_step_33, e_X12_step_36, e_X12_step_36x, e_X12_step_37, e_X12_step_40, e_X12_step_41, e_X12_step_42, e_X12_step_43, e_X12_step_44, e_X12_step_47, e_X12_step_48, e_X12_step_50, e_X12_step_50x, e_X12_step_51, e_X12_step_54, e_X12_step_54x, e_X12_step_55, e_X12_step_58, e_X12_step_59, e_X12_step_62, e_X12_step_62x, e_X12_step_63, e_X12_step_64, e_X12_step_67, e_X12_step_67x, e_X12_step_68, e_X12_step_68x, e_X12_step_69, e_X12_step_70, e_X12_step_73, e_X12_step_76, e_X12_step_76x, e_X12_step_77, e_X12_step_80, e_X12_step_80x, e_X12_step_81, e_X12_step_84, e_X12_step_85, e_X12_step_86, e_X12_step_86x, e_X12_step_87, e_X12_step_90, e_X12_step_91, e_X12_step_92, e_X12_step_93, e_X12_step_94, e_X12_step_97, e_X12_step_103, e_X12_step_107, e_X12_step_109, e_X12_step_110, e_X12_step_113, e_X12_step_113x, e_X12_step_114, e_X12_step_117, e_X12_step_118, e_X12_step_118x, e_X12_step_119, e_X12_step_122, e_X12_step_123, e_X12_step_124, e_X12_step_125, e_X12_step_128, e_X12_step_131, zcll_s, zpush_s, zpush_n, zinv_i, zinv_l, zinv_r, zinv_x, zcats_nil, zcats_i, zcats_l, zcats_r, zcats_x, Nat.le_refl, and_self, true_and, and_true, zok_1, zok_20, zok_21, eq_self, Nat.reduceAdd, Nat.reduceLeDiff, Nat.zero_le, if_true, if_false, zw3_id, if_pos, if_neg, zand_t, tg_310]
    rw [e]
    exact hQ f g _ hg
  | succ j ih =>
    intro k f g F v3 h1 h2 hg hQ
    rw [e_X12_step_31]
    unfold mSt at hQ
    have fin : ∀ (f g G : Nat → Int) (v3 : ZV), G = (if 0 < L 329 k then mAd M (k : Int) (L 329 k) M.1.toNat 0 F else F) → Ag (mN M) g G → V X (zrun X (d + 2)) mX12_step 100 [zr (some 310), zi (mPr M.2.1), zi (k : Int), v3] [] (c, s, zW I 328 f, zW L 330 g, R) Q := by
      intro f g G v3 hG hg1
      rw [e_X12_step_100]
      simp (disch := omega) only [e_X12_step_0, e_X12_step_0x, e_X12_step_1, e_X12_step_1x, e_X12_step_2, e_X12_step_5, e_X12_step_8, e_X12_step_9, e_X12_step_10, e_X12_step_12, e_X12_step_13, e_X12_step_16, e_X12_step_16x, e_X12_step_17, e_X12_step_20, e_X12_step_21, e_X12_step_22, e_X12_step_23, e_X12_step_26, e_X12_step_29, e_X12_step_30, e_X12_step_32, e_X12_step_33, e_X12_step_36, e_X12_step_36x, e_X12_step_37, e_X12_step_40, e_X12_step_41, e_X12_step_42, e_X12_step_43, e_X12_step_44, e_X12_step_47, e_X12_step_48, e_X12_step_50, e_X12_step_50x, e_X12_step_51, e_X12_step_54, e_X12_step_54x, e_X12_step_55, e_X12_step_58, e_X12_step_59, e_X12_step_62, e_X12_step_62x, e_X12_step_63, e_X12_step_64, e_X12_step_67, e_X12_step_67x, e_X12_step_68, e_X12_step_68x, e_X12_step_69, e_X12_step_70, e_X12_step_73, e_X12_step_76, e_X12_step_76x, e_X12_step_77, e_X12_step_80, e_X12_step_80x, e_X12_step_81, e_X12_step_84, e_X12_step_85, e_X12_step_86, e_X12_step_86x, e_X12_step_87, e_X12_step_90, e_X12_step_91, e_X12_step_92, e_X12_step_93, e_X12_step_94, e_X12_step_97, e_X12_step_103, e_X12_step_107, e_X12_step_109, e_X12_step_110, e_X12_step_113, e_X12_step_113x, e_X12_step_114, e_X12_step_117, e_X12_step_118, e_X12_step_118x, e_X12_step_119, e_X12_step_122, e_X12_step_123, e_X12_step_124, e_X12_step_125, e_X12_step_128, e_X12_step_131, zcll_s, zpush_s, zpush_n, zinv_i, zinv_l, zinv_r, zinv_x, zcats_nil, zcats_i, zcats_l, zcats_r, zcats_x, Nat.le_refl, and_self, true_and, and_true, zok_1, zok_20, zok_21, eq_self, Nat.reduceAdd, Nat.reduceLeDiff, Nat.zero_le, if_true, if_false, zw3_id, if_pos, if_neg, zand_t, tg_310]
      rw [show (k : Int) + 1 = ((k + 1 : Nat) : Int) by omega]
      rw [← hG] at hQ
      exact ih (k + 1) f g G v3 (by omega) (by omega) hg1 hQ
    by_cases hW : 0 < L 329 k
    · rw [if_pos hW] at fin
      simp (disch := omega) only [e_X12_step_0, e_X12_step_0x, e_X12_step_1, e_X12_step_1x, e_X12_step_2, e_X12_step_5, e_X12_step_8, e_X12_step_9, e_X12_step_10, e_X12_step_12, e_X12_step_13, e_X12_step_16, e_X12_step_16x, e_X12_step_17, e_X12_step_20, e_X12_step_21, e_X12_step_22, e_X12_step_23, e_X12_step_26, e_X12_step_29, e_X12_step_30, e_X12_step_32, e_X12_step_33, e_X12_step_36, e_X12_step_36x, e_X12_step_37, e_X12_step_40, e_X12_step_41, e_X12_step_42, e_X12_step_43, e_X12_step_44, e_X12_step_47, e_X12_step_48, e_X12_step_50, e_X12_step_50x, e_X12_step_51, e_X12_step_54, e_X12_step_54x, e_X12_step_55, e_X12_step_58, e_X12_step_59, e_X12_step_62, e_X12_step_62x, e_X12_step_63, e_X12_step_64, e_X12_step_67, e_X12_step_67x, e_X12_step_68, e_X12_step_68x, e_X12_step_69, e_X12_step_70, e_X12_step_73, e_X12_step_76, e_X12_step_76x, e_X12_step_77, e_X12_step_80, e_X12_step_80x, e_X12_step_81, e_X12_step_84, e_X12_step_85, e_X12_step_86, e_X12_step_86x, e_X12_step_87, e_X12_step_90, e_X12_step_91, e_X12_step_92, e_X12_step_93, e_X12_step_94, e_X12_step_97, e_X12_step_103, e_X12_step_107, e_X12_step_109, e_X12_step_110, e_X12_step_113, e_X12_step_113x, e_X12_step_114, e_X12_step_117, e_X12_step_118, e_X12_step_118x, e_X12_step_119, e_X12_step_122, e_X12_step_123, e_X12_step_124, e_X12_step_125, e_X12_step_128, e_X12_step_131, zcll_s, zpush_s, zpush_n, zinv_i, zinv_l, zinv_r, zinv_x, zcats_nil, zcats_i, zcats_l, zcats_r, zcats_x, Nat.le_refl, and_self, true_and, and_true, zok_1, zok_20, zok_21, eq_self, Nat.reduceAdd, Nat.reduceLeDiff, Nat.zero_le, if_true, if_false, zw3_id, if_pos, if_neg, zand_t, tg_310, tg_329, tn_329, rr_310_34 hR, zW_n, Int.toNat_natCast, zcmpl_le, zcmpl_gt]
      refine p_step2 (X := X) (d := d) (L := L) hR h (k : Int) (by omega) (by omega) M.1.toNat 0 f g F (by omega) (by omega) (by omega) hg ?_
      intro f g v3 hg1
      rw [Int.toNat_natCast] at hg1
      exact fin f g _ v3 rfl hg1
    · rw [if_neg hW] at fin
      simp (disch := omega) only [e_X12_step_0, e_X12_step_0x, e_X12_step_1, e_X12_step_1x, e_X12_step_2, e_X12_step_5, e_X12_step_8, e_X12_step_9, e_X12_step_10, e_X12_step_12, e_X12_step_13, e_X12_step_16, e_X12_step_16x, e_X12_step_17, e_X12_step_20, e_X12_step_21, e_X12_step_22, e_X12_step_23, e_X12_step_26, e_X12_step_29, e_X12_step_30, e_X12_step_32, e_X12_step_33, e_X12_step_36, e_X12_step_36x, e_X12_step_37, e_X12_step_40, e_X12_step_41, e_X12_step_42, e_X12_step_43, e_X12_step_44, e_X12_step_47, e_X12_step_48, e_X12_step_50, e_X12_step_50x, e_X12_step_51, e_X12_step_54, e_X12_step_54x, e_X12_step_55, e_X12_step_58, e_X12_step_59, e_X12_step_62, e_X12_step_62x, e_X12_step_63, e_X12_step_64, e_X12_step_67, e_X12_step_67x, e_X12_step_68, e_X12_step_68x, e_X12_step_69, e_X12_step_70, e_X12_step_73, e_X12_step_76, e_X12_step_76x, e_X12_step_77, e_X12_step_80, e_X12_step_80x, e_X12_step_81, e_X12_step_84, e_X12_step_85, e_X12_step_86, e_X12_step_86x, e_X12_step_87, e_X12_step_90, e_X12_step_91, e_X12_step_92, e_X12_step_93, e_X12_step_94, e_X12_step_97, e_X12_step_103, e_X12_step_107, e_X12_step_109, e_X12_step_110, e_X12_step_113, e_X12_step_113x, e_X12_step_114, e_X12_step_117, e_X12_step_118, e_X12_step_118x, e_X12_step_119, e_X12_step_122, e_X12_step_123, e_X12_step_124, e_X12_step_125, e_X12_step_128, e_X12_step_131, zcll_s, zpush_s, zpush_n, zinv_i, zinv_l, zinv_r, zinv_x, zcats_nil, zcats_i, zcats_l, zcats_r, zcats_x, Nat.le_refl, and_self, true_and, and_true, zok_1, zok_20, zok_21, eq_self, Nat.reduceAdd, Nat.reduceLeDiff, Nat.zero_le, if_true, if_false, zw3_id, if_pos, if_neg, zand_t, tg_310, tg_329, tn_329, rr_310_34 hR, zW_n, Int.toNat_natCast, zcmpl_le, zcmpl_gt]
      exact fin f g F v3 rfl hg
theorem p_step0 (hR : Rok R) (n : Nat) (hn : n ≤ 1000) {Q : Option ZV × ZS → Prop} : ∀ (j k : Nat) (g : Nat → Int) (v3 : ZV), n - k = j → k ≤ n → Ag k g (fun _ => 0) → (∀ g, Ag n g (fun _ => 0) → V X call mX12_step 29 [zr (some 310), zi (n : Int), zi (n : Int), v3] [] (c, s, I, zW L 330 g, R) Q) → V X call mX12_step 11 [zr (some 310), zi (n : Int), zi (k : Int), v3] [] (c, s, I, zW L 330 g, R) Q := by
  intro j
  induction j with
  | zero =>
    intro k g v3 h1 h2 hg hQ
    have e : k = n := by omega
    subst e
    rw [e_X12_step_11]
    simp (disch := omega) only [e_X12_step_0, e_X12_step_0x, e_X12_step_1, e_X12_step_1x, e_X12_step_2, e_X12_step_5, e_X12_step_8, e_X12_step_9, e_X12_step_10, e_X12_step_12, e_X12_step_13, e_X12_step_16, e_X12_step_16x, e_X12_step_17, e_X12_step_20, e_X12_step_21, e_X12_step_22, e_X12_step_23, e_X12_step_26, e_X12_step_30, e_X12_step_32, e_X12_step_33, e_X12_step_36, e_X12_step_36x, e_X12_step_37, e_X12_step_40, e_X12_step_41, e_X12_step_42, e_X12_step_43, e_X12_step_44, e_X12_step_47, e_X12_step_48, e_X12_step_50, e_X12_step_50x, e_X12_step_51, e_X12_step_54, e_X12_step_54x, e_X12_step_55, e_X12_step_58, e_X12_step_59, e_X12_step_62, e_X12_step_62x, e_X12_step_63, e_X12_step_64, e_X12_step_67, e_X12_step_67x, e_X12_step_68, e_X12_step_68x, e_X12_step_69, e_X12_step_70, e_X12_step_73, e_X12_step_76, e_X12_step_76x, e_X12_step_77, e_X12_step_80, e_X12_step_80x, e_X12_step_81, e_X12_step_84, e_X12_step_85, e_X12_step_86, e_X12_step_86x, e_X12_step_87, e_X12_step_90, e_X12_step_91, e_X12_step_92, e_X12_step_93, e_X12_step_94, e_X12_step_97, e_X12_step_103, e_X12_step_107, e_X12_step_109, e_X12_step_110, e_X12_step_113, e_X12_step_113x, e_X12_step_114, e_X12_step_117, e_X12_step_118, e_X12_step_118x, e_X12_step_119, e_X12_step_122, e_X12_step_123, e_X12_step_124, e_X12_step_125, e_X12_step_128, e_X12_step_131, zcll_s, zpush_s, zpush_n, zinv_i, zinv_l, zinv_r, zinv_x, zcats_nil, zcats_i, zcats_l, zcats_r, zcats_x, Nat.le_refl, and_self, true_and, and_true, zok_1, zok_20, zok_21, eq_self, Nat.reduceAdd, Nat.reduceLeDiff, Nat.zero_le, if_true, if_false, zw3_id, if_pos, if_neg, zand_t, tg_310]
    exact hQ g hg
  | succ j ih =>
    intro k g v3 h1 h2 hg hQ
    rw [e_X12_step_11]
    simp (disch := omega) only [e_X12_step_0, e_X12_step_0x, e_X12_step_1, e_X12_step_1x, e_X12_step_2, e_X12_step_5, e_X12_step_8, e_X12_step_9, e_X12_step_10, e_X12_step_12, e_X12_step_13, e_X12_step_16, e_X12_step_16x, e_X12_step_17, e_X12_step_20, e_X12_step_21, e_X12_step_22, e_X12_step_23, e_X12_step_26, e_X12_step_30, e_X12_step_32, e_X12_step_33, e_X12_step_36, e_X12_step_36x, e_X12_step_37, e_X12_step_40, e_X12_step_41, e_X12_step_42, e_X12_step_43, e_X12_step_44, e_X12_step_47, e_X12_step_48, e_X12_step_50, e_X12_step_50x, e_X12_step_51, e_X12_step_54, e_X12_step_54x, e_X12_step_55, e_X12_step_58, e_X12_step_59, e_X12_step_62, e_X12_step_62x, e_X12_step_63, e_X12_step_64, e_X12_step_67, e_X12_step_67x, e_X12_step_68, e_X12_step_68x, e_X12_step_69, e_X12_step_70, e_X12_step_73, e_X12_step_76, e_X12_step_76x, e_X12_step_77, e_X12_step_80, e_X12_step_80x, e_X12_step_81, e_X12_step_84, e_X12_step_85, e_X12_step_86, e_X12_step_86x, e_X12_step_87, e_X12_step_90, e_X12_step_91, e_X12_step_92, e_X12_step_93, e_X12_step_94, e_X12_step_97, e_X12_step_103, e_X12_step_107, e_X12_step_109, e_X12_step_110, e_X12_step_113, e_X12_step_113x, e_X12_step_114, e_X12_step_117, e_X12_step_118, e_X12_step_118x, e_X12_step_119, e_X12_step_122, e_X12_step_123, e_X12_step_124, e_X12_step_125, e_X12_step_128, e_X12_step_131, zcll_s, zpush_s, zpush_n, zinv_i, zinv_l, zinv_r, zinv_x, zcats_nil, zcats_i, zcats_l, zcats_r, zcats_x, Nat.le_refl, and_self, true_and, and_true, zok_1, zok_20, zok_21, eq_self, Nat.reduceAdd, Nat.reduceLeDiff, Nat.zero_le, if_true, if_false, zw3_id, if_pos, if_neg, zand_t, tg_310, tg_330, tn_330, rr_310_35 hR, zW_s, zu_W, zW_W, Int.toNat_natCast]
    rw [show (k : Int) + 1 = ((k + 1 : Nat) : Int) by omega]
    refine ih (k + 1) _ v3 (by omega) (by omega) ?_ hQ
    exact Ag_e hg rfl
theorem p_step3 (hR : Rok R) (n : Nat) (hn : n ≤ 1000) {Q : Option ZV × ZS → Prop} : ∀ (j k : Nat) (g : Nat → Int) (v3 : ZV), n - k = j → k ≤ n → Ag k g (L 330) → (∀ g, Ag n g (L 330) → Q (none, (c, s, I, zW L 329 g, R))) → V X call mX12_step 108 [zr (some 310), zi (n : Int), zi (k : Int), v3] [] (c, s, I, zW L 329 g, R) Q := by
  intro j
  induction j with
  | zero =>
    intro k g v3 h1 h2 hg hQ
    have e : k = n := by omega
    subst e
    rw [e_X12_step_108]
    simp (disch := omega) only [e_X12_step_0, e_X12_step_0x, e_X12_step_1, e_X12_step_1x, e_X12_step_2, e_X12_step_5, e_X12_step_8, e_X12_step_9, e_X12_step_10, e_X12_step_12, e_X12_step_13, e_X12_step_16, e_X12_step_16x, e_X12_step_17, e_X12_step_20, e_X12_step_21, e_X12_step_22, e_X12_step_23, e_X12_step_26, e_X12_step_30, e_X12_step_32, e_X12_step_33, e_X12_step_36, e_X12_step_36x, e_X12_step_37, e_X12_step_40, e_X12_step_41, e_X12_step_42, e_X12_step_43, e_X12_step_44, e_X12_step_47, e_X12_step_48, e_X12_step_50, e_X12_step_50x, e_X12_step_51, e_X12_step_54, e_X12_step_54x, e_X12_step_55, e_X12_step_58, e_X12_step_59, e_X12_step_62, e_X12_step_62x, e_X12_step_63, e_X12_step_64, e_X12_step_67, e_X12_step_67x, e_X12_step_68, e_X12_step_68x, e_X12_step_69, e_X12_step_70, e_X12_step_73, e_X12_step_76, e_X12_step_76x, e_X12_step_77, e_X12_step_80, e_X12_step_80x, e_X12_step_81, e_X12_step_84, e_X12_step_85, e_X12_step_86, e_X12_step_86x, e_X12_step_87, e_X12_step_90, e_X12_step_91, e_X12_step_92, e_X12_step_93, e_X12_step_94, e_X12_step_97, e_X12_step_103, e_X12_step_107, e_X12_step_109, e_X12_step_110, e_X12_step_113, e_X12_step_113x, e_X12_step_114, e_X12_step_117, e_X12_step_118, e_X12_step_118x, e_X12_step_119, e_X12_step_122, e_X12_step_123, e_X12_step_124, e_X12_step_125, e_X12_step_128, e_X12_step_131, zcll_s, zpush_s, zpush_n, zinv_i, zinv_l, zinv_r, zinv_x, zcats_nil, zcats_i, zcats_l, zcats_r, zcats_x, Nat.le_refl, and_self, true_and, and_true, zok_1, zok_20, zok_21, eq_self, Nat.reduceAdd, Nat.reduceLeDiff, Nat.zero_le, if_true, if_false, zw3_id, if_pos, if_neg, zand_t, tg_310]
    exact hQ g hg
  | succ j ih =>
    intro k g v3 h1 h2 hg hQ
    rw [e_X12_step_108]
    simp (disch := omega) only [e_X12_step_0, e_X12_step_0x, e_X12_step_1, e_X12_step_1x, e_X12_step_2, e_X12_step_5, e_X12_step_8, e_X12_step_9, e_X12_step_10, e_X12_step_12, e_X12_step_13, e_X12_step_16, e_X12_step_16x, e_X12_step_17, e_X12_step_20, e_X12_step_21, e_X12_step_22, e_X12_step_23, e_X12_step_26, e_X12_step_30, e_X12_step_32, e_X12_step_33, e_X12_step_36, e_X12_step_36x, e_X12_step_37, e_X12_step_40, e_X12_step_41, e_X12_step_42, e_X12_step_43, e_X12_step_44, e_X12_step_47, e_X12_step_48, e_X12_step_50, e_X12_step_50x, e_X12_step_51, e_X12_step_54, e_X12_step_54x, e_X12_step_55, e_X12_step_58, e_X12_step_59, e_X12_step_62, e_X12_step_62x, e_X12_step_63, e_X12_step_64, e_X12_step_67, e_X12_step_67x, e_X12_step_68, e_X12_step_68x, e_X12_step_69, e_X12_step_70, e_X12_step_73, e_X12_step_76, e_X12_step_76x, e_X12_step_77, e_X12_step_80, e_X12_step_80x, e_X12_step_81, e_X12_step_84, e_X12_step_85, e_X12_step_86, e_X12_step_86x, e_X12_step_87, e_X12_step_90, e_X12_step_91, e_X12_step_92, e_X12_step_93, e_X12_step_94, e_X12_step_97, e_X12_step_103, e_X12_step_107, e_X12_step_109, e_X12_step_110, e_X12_step_113, e_X12_step_113x, e_X12_step_114, e_X12_step_117, e_X12_step_118, e_X12_step_118x, e_X12_step_119, e_X12_step_122, e_X12_step_123, e_X12_step_124, e_X12_step_125, e_X12_step_128, e_X12_step_131, zcll_s, zpush_s, zpush_n, zinv_i, zinv_l, zinv_r, zinv_x, zcats_nil, zcats_i, zcats_l, zcats_r, zcats_x, Nat.le_refl, and_self, true_and, and_true, zok_1, zok_20, zok_21, eq_self, Nat.reduceAdd, Nat.reduceLeDiff, Nat.zero_le, if_true, if_false, zw3_id, if_pos, if_neg, zand_t, tg_310, tg_329, tn_329, tg_330, tn_330, rr_310_34 hR, rr_310_35 hR, zW_n, zW_s, zu_W, zW_W, Int.toNat_natCast]
    rw [show (k : Int) + 1 = ((k + 1 : Nat) : Int) by omega]
    refine ih (k + 1) _ v3 (by omega) (by omega) ?_ hQ
    exact Ag_e hg rfl
noncomputable def mStep (M : MD) (W : Nat → Int) : Nat → Int := mSt M W (mN M) 0 (fun _ => 0)
theorem mSt_c {W U : Nat → Int} {n : Nat} (hW : Ag n W U) : ∀ (j k : Nat) (F : Nat → Int), n - k = j → k ≤ n → mSt M W j k F = mSt M U j k F := by
  intro j
  induction j with
  | zero => intro k F _ _; rfl
  | succ j ih =>
    intro k F h1 h2
    unfold mSt
    rw [hW k (by omega)]
    exact ih (k + 1) _ (by omega) (by omega)
theorem zW_idL {α : Type} {f : Nat → Nat → α} {a b : Nat} {g : Nat → α} (h : a ≠ b) : zW (zW f b g) a (f a) = zW f b g := by
  have e : f a = zW f b g a := (zW_n h).symm
  rw [e, zW_id]
theorem c_step {f1 : Nat → Int} (hR : Rok R) (h : RefS I w M) {W : Nat → Int} (hW : Ag (mN M) (L 329) W) : ∃ f g u, zrun X (d + 3) 155 [zr (some 310)] (c, s, zW I 328 f1, L, R) = some (none, (c, s, zW I 328 f, zW (zW L 330 g) 329 u, R)) ∧ Ag (mN M) u (mStep M W) := by
  obtain ⟨hw, hw2, hM, hk⟩ := id h
  have hp := hk.2.2.2.1
  have hp1 := mPr_pos hk.2.2.1
  have eN : ((mN M : Nat) : Int) = mPr M.2.1 := by unfold mN; omega
  have hst := d_statesOf (X := X) (d := d + 1) (c := c) (s := s) (f := f1) (L := L) hR h
  have p := sx_X12_step (X := X) (d := d + 2) (u0 := some 310) (σ := (c, s, zW I 328 f1, L, R)) (P := fun q => ∃ f g u, q = (none, (c, s, zW I 328 f, zW (zW L 330 g) 329 u, R)) ∧ Ag (mN M) u (mStep M W)) ?_
  · obtain ⟨r, q1, f, g, u, q2, q3⟩ := p
    exact ⟨f, g, u, by rw [q1, q2], q3⟩
  · simp (disch := omega) only [e_X12_step_0, e_X12_step_0x, e_X12_step_1, e_X12_step_1x, e_X12_step_2, e_X12_step_5, e_X12_step_8, e_X12_step_9, e_X12_step_10, e_X12_step_12, e_X12_step_13, e_X12_step_16, e_X12_step_16x, e_X12_step_17, e_X12_step_20, e_X12_step_21, e_X12_step_22, e_X12_step_23, e_X12_step_26, e_X12_step_30, e_X12_step_32, e_X12_step_33, e_X12_step_36, e_X12_step_36x, e_X12_step_37, e_X12_step_40, e_X12_step_41, e_X12_step_42, e_X12_step_43, e_X12_step_44, e_X12_step_47, e_X12_step_48, e_X12_step_50, e_X12_step_50x, e_X12_step_51, e_X12_step_54, e_X12_step_54x, e_X12_step_55, e_X12_step_58, e_X12_step_59, e_X12_step_62, e_X12_step_62x, e_X12_step_63, e_X12_step_64, e_X12_step_67, e_X12_step_67x, e_X12_step_68, e_X12_step_68x, e_X12_step_69, e_X12_step_70, e_X12_step_73, e_X12_step_76, e_X12_step_76x, e_X12_step_77, e_X12_step_80, e_X12_step_80x, e_X12_step_81, e_X12_step_84, e_X12_step_85, e_X12_step_86, e_X12_step_86x, e_X12_step_87, e_X12_step_90, e_X12_step_91, e_X12_step_92, e_X12_step_93, e_X12_step_94, e_X12_step_97, e_X12_step_103, e_X12_step_107, e_X12_step_109, e_X12_step_110, e_X12_step_113, e_X12_step_113x, e_X12_step_114, e_X12_step_117, e_X12_step_118, e_X12_step_118x, e_X12_step_119, e_X12_step_122, e_X12_step_123, e_X12_step_124, e_X12_step_125, e_X12_step_128, e_X12_step_131, zcll_s, zpush_s, zpush_n, zinv_i, zinv_l, zinv_r, zinv_x, zcats_nil, zcats_i, zcats_l, zcats_r, zcats_x, Nat.le_refl, and_self, true_and, and_true, zok_1, zok_20, zok_21, eq_self, Nat.reduceAdd, Nat.reduceLeDiff, Nat.zero_le, if_true, if_false, zw3_id, if_pos, if_neg, zand_t, tg_310, zW_n, hw, hst]
    have p := p_step0 (X := X) (call := zrun X (d + 2)) (c := c) (s := s) (I := zW I 328 f1) (L := L) (Q := fun q => ∃ f g u, q = (none, (c, s, zW I 328 f, zW (zW L 330 g) 329 u, R)) ∧ Ag (mN M) u (mStep M W)) hR (mN M) (by omega) (mN M) 0 (L 330) (zx 0) (by omega) (by omega) (fun k hk => absurd hk (by omega)) ?_
    · rw [zW_id, eN] at p
      exact p
    · intro g hg
      rw [e_X12_step_29, eN]
      simp (disch := omega) only [e_X12_step_0, e_X12_step_0x, e_X12_step_1, e_X12_step_1x, e_X12_step_2, e_X12_step_5, e_X12_step_8, e_X12_step_9, e_X12_step_10, e_X12_step_12, e_X12_step_13, e_X12_step_16, e_X12_step_16x, e_X12_step_17, e_X12_step_20, e_X12_step_21, e_X12_step_22, e_X12_step_23, e_X12_step_26, e_X12_step_30, e_X12_step_32, e_X12_step_33, e_X12_step_36, e_X12_step_36x, e_X12_step_37, e_X12_step_40, e_X12_step_41, e_X12_step_42, e_X12_step_43, e_X12_step_44, e_X12_step_47, e_X12_step_48, e_X12_step_50, e_X12_step_50x, e_X12_step_51, e_X12_step_54, e_X12_step_54x, e_X12_step_55, e_X12_step_58, e_X12_step_59, e_X12_step_62, e_X12_step_62x, e_X12_step_63, e_X12_step_64, e_X12_step_67, e_X12_step_67x, e_X12_step_68, e_X12_step_68x, e_X12_step_69, e_X12_step_70, e_X12_step_73, e_X12_step_76, e_X12_step_76x, e_X12_step_77, e_X12_step_80, e_X12_step_80x, e_X12_step_81, e_X12_step_84, e_X12_step_85, e_X12_step_86, e_X12_step_86x, e_X12_step_87, e_X12_step_90, e_X12_step_91, e_X12_step_92, e_X12_step_93, e_X12_step_94, e_X12_step_97, e_X12_step_103, e_X12_step_107, e_X12_step_109, e_X12_step_110, e_X12_step_113, e_X12_step_113x, e_X12_step_114, e_X12_step_117, e_X12_step_118, e_X12_step_118x, e_X12_step_119, e_X12_step_122, e_X12_step_123, e_X12_step_124, e_X12_step_125, e_X12_step_128, e_X12_step_131, zcll_s, zpush_s, zpush_n, zinv_i, zinv_l, zinv_r, zinv_x, zcats_nil, zcats_i, zcats_l, zcats_r, zcats_x, Nat.le_refl, and_self, true_and, and_true, zok_1, zok_20, zok_21, eq_self, Nat.reduceAdd, Nat.reduceLeDiff, Nat.zero_le, if_true, if_false, zw3_id, if_pos, if_neg, zand_t, tg_310]
      refine p_step1 (X := X) (d := d) (L := L) hR h (mN M) 0 f1 g (fun _ => 0) _ (by omega) (by omega) hg ?_
      intro f2 g2 v3 hg2
      rw [e_X12_step_106, eN]
      simp (disch := omega) only [e_X12_step_0, e_X12_step_0x, e_X12_step_1, e_X12_step_1x, e_X12_step_2, e_X12_step_5, e_X12_step_8, e_X12_step_9, e_X12_step_10, e_X12_step_12, e_X12_step_13, e_X12_step_16, e_X12_step_16x, e_X12_step_17, e_X12_step_20, e_X12_step_21, e_X12_step_22, e_X12_step_23, e_X12_step_26, e_X12_step_30, e_X12_step_32, e_X12_step_33, e_X12_step_36, e_X12_step_36x, e_X12_step_37, e_X12_step_40, e_X12_step_41, e_X12_step_42, e_X12_step_43, e_X12_step_44, e_X12_step_47, e_X12_step_48, e_X12_step_50, e_X12_step_50x, e_X12_step_51, e_X12_step_54, e_X12_step_54x, e_X12_step_55, e_X12_step_58, e_X12_step_59, e_X12_step_62, e_X12_step_62x, e_X12_step_63, e_X12_step_64, e_X12_step_67, e_X12_step_67x, e_X12_step_68, e_X12_step_68x, e_X12_step_69, e_X12_step_70, e_X12_step_73, e_X12_step_76, e_X12_step_76x, e_X12_step_77, e_X12_step_80, e_X12_step_80x, e_X12_step_81, e_X12_step_84, e_X12_step_85, e_X12_step_86, e_X12_step_86x, e_X12_step_87, e_X12_step_90, e_X12_step_91, e_X12_step_92, e_X12_step_93, e_X12_step_94, e_X12_step_97, e_X12_step_103, e_X12_step_107, e_X12_step_109, e_X12_step_110, e_X12_step_113, e_X12_step_113x, e_X12_step_114, e_X12_step_117, e_X12_step_118, e_X12_step_118x, e_X12_step_119, e_X12_step_122, e_X12_step_123, e_X12_step_124, e_X12_step_125, e_X12_step_128, e_X12_step_131, zcll_s, zpush_s, zpush_n, zinv_i, zinv_l, zinv_r, zinv_x, zcats_nil, zcats_i, zcats_l, zcats_r, zcats_x, Nat.le_refl, and_self, true_and, and_true, zok_1, zok_20, zok_21, eq_self, Nat.reduceAdd, Nat.reduceLeDiff, Nat.zero_le, if_true, if_false, zw3_id, if_pos, if_neg, zand_t, tg_310]
      have p := p_step3 (X := X) (call := zrun X (d + 2)) (c := c) (s := s) (I := zW I 328 f2) (L := zW L 330 g2) (Q := fun q => ∃ f g u, q = (none, (c, s, zW I 328 f, zW (zW L 330 g) 329 u, R)) ∧ Ag (mN M) u (mStep M W)) hR (mN M) (by omega) (mN M) 0 (L 329) v3 (by omega) (by omega) (fun k hk => absurd hk (by omega)) ?_
      · rw [zW_idL (by omega), eN] at p
        exact p
      · intro u hu
        refine ⟨f2, g2, u, rfl, ?_⟩
        intro k hk
        rw [hu k hk, zW_s, hg2 k hk]
        unfold mStep
        rw [mSt_c hW (mN M) 0 _ (by omega) (by omega)]
end
