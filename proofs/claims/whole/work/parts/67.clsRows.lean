/-! The class: rows of numbers. -/
section
variable {X : ZX} {d c s : Nat} {I L I1 L1 I2 L2 : ZI} {R R1 R2 : ZR} {call : ZC} {w b p q : Nat} {M : MD} {f : Nat → Int} {x t : Int} {B : Prop}
/-- the two arrays of ways, in some order -/
def SwR (R R1 : ZR) (p q : Nat) : Prop := R1 270 1 = some p ∧ R1 270 2 = some q ∧ ((p = 271 ∧ q = 272) ∨ (p = 272 ∧ q = 271)) ∧ ∀ a k, ¬ (a = 270 ∧ (k = 1 ∨ k = 2)) → R1 a k = R a k
theorem zRL_270 : ∀ e ∈ zRL, ¬ (e.1 = 270 ∧ (e.2.1 = 1 ∨ e.2.1 = 2)) := by decide +kernel
theorem SwR_ok (h : SwR R R1 p q) (hR : Rok R) : Rok R1 := fun e he => by rw [h.2.2.2 e.1 e.2.1 (zRL_270 e he)]; exact hR e he
theorem SwR_S (h : SwR R R1 p q) (hS : ClS I R b M) : ClS I R1 b M := ⟨SwR_ok h hS.1, hS.2.1, by rw [h.2.2.2 0 8 (by omega)]; exact hS.2.2.1, by rw [h.2.2.2 134 0 (by omega)]; exact hS.2.2.2.1, by rw [h.2.2.2 134 1 (by omega)]; exact hS.2.2.2.2.1, hS.2.2.2.2.2⟩
theorem SwR_tt (h : SwR R R1 p q) : zT p = (2, 1000) ∧ zT q = (2, 1000) ∧ p ≠ q ∧ 271 ≤ p ∧ p ≤ 272 ∧ 271 ≤ q ∧ q ≤ 272 := by
  have a : zT 271 = (2, 1000) := by decide +kernel
  have b : zT 272 = (2, 1000) := by decide +kernel
  rcases h.2.2.1 with ⟨rfl, rfl⟩ | ⟨rfl, rfl⟩
  · exact ⟨a, b, by omega, by omega, by omega, by omega, by omega⟩
  · exact ⟨b, a, by omega, by omega, by omega, by omega, by omega⟩
theorem SwR_x (h : SwR R R1 p q) : SwR R (zu (zu R1 270 1 (some q)) 270 2 (some p)) q p := by
  refine ⟨by rw [zu_k (by omega), zu_s], zu_s, h.2.2.1.symm.imp (fun z => ⟨z.2, z.1⟩) (fun z => ⟨z.2, z.1⟩), ?_⟩
  intro a k hk
  unfold zu
  rw [if_neg (fun z => hk ⟨z.1, Or.inr z.2⟩), if_neg (fun z => hk ⟨z.1, Or.inl z.2⟩)]
  exact h.2.2.2 a k hk
theorem k_stateCount (h : ClS I R b M) : zrun X (d + 1) 43 [zr (some 270)] (c, s, I, L, R) = some (some (zi (mPr M.2.1)), (c, s, I, L, R)) := by
  refine st_X4_stateCount ?_
  obtain ⟨hR, hb, h1, h2, h3, hM, hk, hT⟩ := h
  have tt := tt_model hb
  have hp := hk.2.2.2.1
  have e := hM.2.2.2.2.1
  have hmin : (if (1000 : Int) < mPr M.2.1 then 1000 else mPr M.2.1) = mPr M.2.1 := if_neg (by omega)
  simp (disch := omega) only [e_X4_stateCount_0, e_X4_stateCount_0x, e_X4_stateCount_1, e_X4_stateCount_4, e_X4_stateCount_7, e_X4_stateCount_10, e_X4_stateCount_13, e_X4_stateCount_16, zcll_s, zpush_s, zpush_n, zinv_i, zinv_l, zinv_r, zinv_x, zcats_nil, zcats_i, zcats_l, zcats_r, zcats_x, Nat.le_refl, and_self, true_and, and_true, zok_1, zok_20, zok_21, eq_self, Nat.reduceAdd, Nat.reduceLeDiff, Nat.zero_le, if_true, if_false, zw3_id, if_pos, if_neg, zand_t, tg_134, tg_270, rr_270_0 hR, h2, tt.1, e, hmin]
noncomputable def cSf (M : MD) (g st y : Int) (F : Nat → Int) : Nat → Int := @ite _ (g ≠ -1 ∧ mGoal M g.toNat st) (Classical.propDecidable _) (fU F st.toNat (zw6 (F st.toNat + zw6 (y * M.1)))) (mAd M st y M.1.toNat 0 F)
theorem q_spreadFrom (hSw : SwR R R1 p q) (st g y : Int) (hst : 0 ≤ st) (hst1 : st < mPr M.2.1) {Q : Option ZV × ZS → Prop} : ∀ (j : Nat) (e : Int) (I : ZI) (u F : Nat → Int) (v7 : ZV), (M.1 - e).toNat = j → 0 ≤ e → e ≤ M.1 → ClS I R1 b M → Ag 1000 u F → (∀ I1 u, KT I I1 → Tab I1 M → Ag 1000 u (mAd M st y j e F) → Q (none, (c, s, I1, zW L q u, R1))) → V X (zrun X (d + 4)) mX4_spreadFrom 54 [zr (some 270), zi st, zi g, zi M.1, zl y, zx 0, zi e, v7] [] (c, s, I, zW L q u, R1) Q := by
  intro j
  have tp := SwR_tt hSw
  induction j with
  | zero =>
    intro e I u F v7 h1 h2 h3 hS hu hQ
    have hl := hS.2.2.2.2.2.2.1.1
    rw [e_X4_spreadFrom_54]
    simp (disch := omega) only [e_X4_spreadFrom_0, e_X4_spreadFrom_0x, e_X4_spreadFrom_1, e_X4_spreadFrom_4, e_X4_spreadFrom_7, e_X4_spreadFrom_10, e_X4_spreadFrom_11, e_X4_spreadFrom_11x, e_X4_spreadFrom_12, e_X4_spreadFrom_15, e_X4_spreadFrom_16, e_X4_spreadFrom_17, e_X4_spreadFrom_19, e_X4_spreadFrom_20, e_X4_spreadFrom_21, e_X4_spreadFrom_24, e_X4_spreadFrom_24x, e_X4_spreadFrom_25, e_X4_spreadFrom_28, e_X4_spreadFrom_29, e_X4_spreadFrom_30, e_X4_spreadFrom_33, e_X4_spreadFrom_36, e_X4_spreadFrom_36x, e_X4_spreadFrom_37, e_X4_spreadFrom_40, e_X4_spreadFrom_41, e_X4_spreadFrom_42, e_X4_spreadFrom_43, e_X4_spreadFrom_45, e_X4_spreadFrom_46, e_X4_spreadFrom_47, e_X4_spreadFrom_48, e_X4_spreadFrom_49, e_X4_spreadFrom_50, e_X4_spreadFrom_51, e_X4_spreadFrom_52, e_X4_spreadFrom_56, e_X4_spreadFrom_57, e_X4_spreadFrom_60, e_X4_spreadFrom_60x, e_X4_spreadFrom_61, e_X4_spreadFrom_64, e_X4_spreadFrom_65, e_X4_spreadFrom_67, e_X4_spreadFrom_70, e_X4_spreadFrom_73, e_X4_spreadFrom_75, e_X4_spreadFrom_77, e_X4_spreadFrom_80, e_X4_spreadFrom_82, e_X4_spreadFrom_85, e_X4_spreadFrom_88, e_X4_spreadFrom_88x, e_X4_spreadFrom_89, e_X4_spreadFrom_92, e_X4_spreadFrom_94, e_X4_spreadFrom_95, e_X4_spreadFrom_96, e_X4_spreadFrom_98, e_X4_spreadFrom_99, e_X4_spreadFrom_100, e_X4_spreadFrom_103, e_X4_spreadFrom_106, zcll_s, zpush_s, zpush_n, zinv_i, zinv_l, zinv_r, zinv_x, zcats_nil, zcats_i, zcats_l, zcats_r, zcats_x, Nat.le_refl, and_self, true_and, and_true, zok_1, zok_20, zok_21, eq_self, Nat.reduceAdd, Nat.reduceLeDiff, Nat.zero_le, if_true, if_false, zw3_id, if_pos, if_neg, zand_t]
    exact hQ I u KT_r hS.2.2.2.2.2.2.2 hu
  | succ j ih =>
    intro e I u F v7 h1 h2 h3 hS hu hQ
    have hR := hS.1
    have hk := hS.2.2.2.2.2.2.1
    have hl := hk.1
    have hp := hk.2.2.2.1
    obtain ⟨I1, q1, q2, q3⟩ := k_cell (X := X) (d := d) (c := c) (s := s) (L := zW L q u) hS st e hst hst1 h2 (by omega)
    have e1 := (cellV_g hk (e := e) hst).1
    have hms := mS_in (M := M) hk.2.2.1 (d := e) hst
    have hq := hSw.2.1
    rw [e_X4_spreadFrom_54]
    simp (disch := omega) only [e_X4_spreadFrom_0, e_X4_spreadFrom_0x, e_X4_spreadFrom_1, e_X4_spreadFrom_4, e_X4_spreadFrom_7, e_X4_spreadFrom_10, e_X4_spreadFrom_11, e_X4_spreadFrom_11x, e_X4_spreadFrom_12, e_X4_spreadFrom_15, e_X4_spreadFrom_16, e_X4_spreadFrom_17, e_X4_spreadFrom_19, e_X4_spreadFrom_20, e_X4_spreadFrom_21, e_X4_spreadFrom_24, e_X4_spreadFrom_24x, e_X4_spreadFrom_25, e_X4_spreadFrom_28, e_X4_spreadFrom_29, e_X4_spreadFrom_30, e_X4_spreadFrom_33, e_X4_spreadFrom_36, e_X4_spreadFrom_36x, e_X4_spreadFrom_37, e_X4_spreadFrom_40, e_X4_spreadFrom_41, e_X4_spreadFrom_42, e_X4_spreadFrom_43, e_X4_spreadFrom_45, e_X4_spreadFrom_46, e_X4_spreadFrom_47, e_X4_spreadFrom_48, e_X4_spreadFrom_49, e_X4_spreadFrom_50, e_X4_spreadFrom_51, e_X4_spreadFrom_52, e_X4_spreadFrom_56, e_X4_spreadFrom_57, e_X4_spreadFrom_60, e_X4_spreadFrom_60x, e_X4_spreadFrom_61, e_X4_spreadFrom_64, e_X4_spreadFrom_65, e_X4_spreadFrom_67, e_X4_spreadFrom_70, e_X4_spreadFrom_73, e_X4_spreadFrom_75, e_X4_spreadFrom_77, e_X4_spreadFrom_80, e_X4_spreadFrom_82, e_X4_spreadFrom_85, e_X4_spreadFrom_88, e_X4_spreadFrom_88x, e_X4_spreadFrom_89, e_X4_spreadFrom_92, e_X4_spreadFrom_94, e_X4_spreadFrom_95, e_X4_spreadFrom_96, e_X4_spreadFrom_98, e_X4_spreadFrom_99, e_X4_spreadFrom_100, e_X4_spreadFrom_103, e_X4_spreadFrom_106, zcll_s, zpush_s, zpush_n, zinv_i, zinv_l, zinv_r, zinv_x, zcats_nil, zcats_i, zcats_l, zcats_r, zcats_x, Nat.le_refl, and_self, true_and, and_true, zok_1, zok_20, zok_21, eq_self, Nat.reduceAdd, Nat.reduceLeDiff, Nat.zero_le, if_true, if_false, zw3_id, if_pos, if_neg, zand_t, tg_134, tg_270, rr_270_0 hR, hq, tp.2.1, q1, k_stateIn, e1, zW_s, zu_W, zW_W]
    refine ih (e + 1) I1 _ (fU F (mS M st e).toNat (zw6 (F (mS M st e).toNat + y))) _ (by omega) (by omega) (by omega) (ClS_k hS q2 q3) (Ag_u hu (by rw [hu (mS M st e).toNat (by omega)])) ?_
    intro I3 u3 r1 r2 r3
    exact hQ I3 u3 (KT_t q2 r1) r2 r3
theorem k_spreadFrom (hSw : SwR R R1 p q) (hS : ClS I R1 b M) (st g : Int) (hst : 0 ≤ st) (hst1 : st < mPr M.2.1) (hg : g = -1 ∨ (0 ≤ g ∧ g < M.2.2.2.length)) {F : Nat → Int} (hF : Ag 1000 (L q) F) : ∃ I1 u, zrun X (d + 5) 45 [zr (some 270), zi st, zi g] (c, s, I, L, R1) = some (none, (c, s, I1, zW L q u, R1)) ∧ KT I I1 ∧ Tab I1 M ∧ Ag 1000 u (cSf M g st (L p st.toNat) F) := by
  have tp := SwR_tt hSw
  obtain ⟨hR, hb, h1, h2, h3, hM, hk, hT⟩ := id hS
  have tt := tt_model hb
  have hl := hk.1
  have hp := hk.2.2.2.1
  have e0 := hM.1
  have hp1 := hSw.1
  have hq1 := hSw.2.1
  have pr := sx_X4_spreadFrom (X := X) (d := d + 4) (u0 := some 270) (x1 := st) (x2 := g) (σ := (c, s, I, L, R1)) (P := fun r => ∃ I1 u, r = (none, (c, s, I1, zW L q u, R1)) ∧ KT I I1 ∧ Tab I1 M ∧ Ag 1000 u (cSf M g st (L p st.toNat) F)) ?_
  · obtain ⟨r, q1, I1, u, q2, q3⟩ := pr
    exact ⟨I1, u, by rw [q1, q2], q3⟩
  · have run : ∀ (I : ZI) (v7 : ZV) (P : Option ZV × ZS → Prop), ClS I R1 b M → (∀ I1 u, KT I I1 → Tab I1 M → Ag 1000 u (mAd M st (L p st.toNat) M.1.toNat 0 F) → P (none, (c, s, I1, zW L q u, R1))) → V X (zrun X (d + 4)) mX4_spreadFrom 54 [zr (some 270), zi st, zi g, zi M.1, zl (L p st.toNat), zx 0, zi 0, v7] [] (c, s, I, L, R1) P := by
      intro I v7 P hS1 hP
      have := q_spreadFrom (X := X) (d := d) (c := c) (s := s) (L := L) hSw st g (L p st.toNat) hst hst1 M.1.toNat 0 I (L q) F v7 (by omega) (by omega) (by omega) hS1 hF hP
      rw [zW_id] at this
      exact this
    unfold cSf
    by_cases hg1 : g = -1
    · rw [if_neg (fun z => z.1 hg1)]
      simp (disch := omega) only [e_X4_spreadFrom_0, e_X4_spreadFrom_0x, e_X4_spreadFrom_1, e_X4_spreadFrom_4, e_X4_spreadFrom_7, e_X4_spreadFrom_10, e_X4_spreadFrom_11, e_X4_spreadFrom_11x, e_X4_spreadFrom_12, e_X4_spreadFrom_15, e_X4_spreadFrom_16, e_X4_spreadFrom_17, e_X4_spreadFrom_19, e_X4_spreadFrom_20, e_X4_spreadFrom_21, e_X4_spreadFrom_24, e_X4_spreadFrom_24x, e_X4_spreadFrom_25, e_X4_spreadFrom_28, e_X4_spreadFrom_29, e_X4_spreadFrom_30, e_X4_spreadFrom_33, e_X4_spreadFrom_36, e_X4_spreadFrom_36x, e_X4_spreadFrom_37, e_X4_spreadFrom_40, e_X4_spreadFrom_41, e_X4_spreadFrom_42, e_X4_spreadFrom_43, e_X4_spreadFrom_45, e_X4_spreadFrom_46, e_X4_spreadFrom_47, e_X4_spreadFrom_48, e_X4_spreadFrom_49, e_X4_spreadFrom_50, e_X4_spreadFrom_51, e_X4_spreadFrom_52, e_X4_spreadFrom_56, e_X4_spreadFrom_57, e_X4_spreadFrom_60, e_X4_spreadFrom_60x, e_X4_spreadFrom_61, e_X4_spreadFrom_64, e_X4_spreadFrom_65, e_X4_spreadFrom_67, e_X4_spreadFrom_70, e_X4_spreadFrom_73, e_X4_spreadFrom_75, e_X4_spreadFrom_77, e_X4_spreadFrom_80, e_X4_spreadFrom_82, e_X4_spreadFrom_85, e_X4_spreadFrom_88, e_X4_spreadFrom_88x, e_X4_spreadFrom_89, e_X4_spreadFrom_92, e_X4_spreadFrom_94, e_X4_spreadFrom_95, e_X4_spreadFrom_96, e_X4_spreadFrom_98, e_X4_spreadFrom_99, e_X4_spreadFrom_100, e_X4_spreadFrom_103, e_X4_spreadFrom_106, zcll_s, zpush_s, zpush_n, zinv_i, zinv_l, zinv_r, zinv_x, zcats_nil, zcats_i, zcats_l, zcats_r, zcats_x, Nat.le_refl, and_self, true_and, and_true, zok_1, zok_20, zok_21, eq_self, Nat.reduceAdd, Nat.reduceLeDiff, Nat.zero_le, if_true, if_false, zw3_id, if_pos, if_neg, zand_t, tg_134, tg_270, rr_270_0 hR, h2, tt.1, e0, hp1, tp.1]
      exact run I _ _ hS (fun I1 u r1 r2 r3 => ⟨I1, u, rfl, r1, r2, r3⟩)
    · obtain ⟨I1, q1, q2, q3⟩ := k_hasGoal (X := X) (d := d) (c := c) (s := s) (L := L) hS st g hst hst1 (by omega) (by omega)
      have hS1 := ClS_k hS q2 q3
      by_cases hgo : mGoal M g.toNat st
      · rw [if_pos ⟨hg1, hgo⟩]
        rw [zB_t hgo] at q1
        simp (disch := omega) only [e_X4_spreadFrom_0, e_X4_spreadFrom_0x, e_X4_spreadFrom_1, e_X4_spreadFrom_4, e_X4_spreadFrom_7, e_X4_spreadFrom_10, e_X4_spreadFrom_11, e_X4_spreadFrom_11x, e_X4_spreadFrom_12, e_X4_spreadFrom_15, e_X4_spreadFrom_16, e_X4_spreadFrom_17, e_X4_spreadFrom_19, e_X4_spreadFrom_20, e_X4_spreadFrom_21, e_X4_spreadFrom_24, e_X4_spreadFrom_24x, e_X4_spreadFrom_25, e_X4_spreadFrom_28, e_X4_spreadFrom_29, e_X4_spreadFrom_30, e_X4_spreadFrom_33, e_X4_spreadFrom_36, e_X4_spreadFrom_36x, e_X4_spreadFrom_37, e_X4_spreadFrom_40, e_X4_spreadFrom_41, e_X4_spreadFrom_42, e_X4_spreadFrom_43, e_X4_spreadFrom_45, e_X4_spreadFrom_46, e_X4_spreadFrom_47, e_X4_spreadFrom_48, e_X4_spreadFrom_49, e_X4_spreadFrom_50, e_X4_spreadFrom_51, e_X4_spreadFrom_52, e_X4_spreadFrom_56, e_X4_spreadFrom_57, e_X4_spreadFrom_60, e_X4_spreadFrom_60x, e_X4_spreadFrom_61, e_X4_spreadFrom_64, e_X4_spreadFrom_65, e_X4_spreadFrom_67, e_X4_spreadFrom_70, e_X4_spreadFrom_73, e_X4_spreadFrom_75, e_X4_spreadFrom_77, e_X4_spreadFrom_80, e_X4_spreadFrom_82, e_X4_spreadFrom_85, e_X4_spreadFrom_88, e_X4_spreadFrom_88x, e_X4_spreadFrom_89, e_X4_spreadFrom_92, e_X4_spreadFrom_94, e_X4_spreadFrom_95, e_X4_spreadFrom_96, e_X4_spreadFrom_98, e_X4_spreadFrom_99, e_X4_spreadFrom_100, e_X4_spreadFrom_103, e_X4_spreadFrom_106, zcll_s, zpush_s, zpush_n, zinv_i, zinv_l, zinv_r, zinv_x, zcats_nil, zcats_i, zcats_l, zcats_r, zcats_x, Nat.le_refl, and_self, true_and, and_true, zok_1, zok_20, zok_21, eq_self, Nat.reduceAdd, Nat.reduceLeDiff, Nat.zero_le, if_true, if_false, zw3_id, if_pos, if_neg, zand_t, tg_134, tg_270, rr_270_0 hR, h2, tt.1, e0, hp1, hq1, tp.1, tp.2.1, q1, zu_W]
        exact ⟨I1, _, rfl, q2, q3, Ag_u hF (by rw [hF st.toNat (by omega)])⟩
      · rw [if_neg (fun z => hgo z.2)]
        rw [zB_f hgo] at q1
        simp (disch := omega) only [e_X4_spreadFrom_0, e_X4_spreadFrom_0x, e_X4_spreadFrom_1, e_X4_spreadFrom_4, e_X4_spreadFrom_7, e_X4_spreadFrom_10, e_X4_spreadFrom_11, e_X4_spreadFrom_11x, e_X4_spreadFrom_12, e_X4_spreadFrom_15, e_X4_spreadFrom_16, e_X4_spreadFrom_17, e_X4_spreadFrom_19, e_X4_spreadFrom_20, e_X4_spreadFrom_21, e_X4_spreadFrom_24, e_X4_spreadFrom_24x, e_X4_spreadFrom_25, e_X4_spreadFrom_28, e_X4_spreadFrom_29, e_X4_spreadFrom_30, e_X4_spreadFrom_33, e_X4_spreadFrom_36, e_X4_spreadFrom_36x, e_X4_spreadFrom_37, e_X4_spreadFrom_40, e_X4_spreadFrom_41, e_X4_spreadFrom_42, e_X4_spreadFrom_43, e_X4_spreadFrom_45, e_X4_spreadFrom_46, e_X4_spreadFrom_47, e_X4_spreadFrom_48, e_X4_spreadFrom_49, e_X4_spreadFrom_50, e_X4_spreadFrom_51, e_X4_spreadFrom_52, e_X4_spreadFrom_56, e_X4_spreadFrom_57, e_X4_spreadFrom_60, e_X4_spreadFrom_60x, e_X4_spreadFrom_61, e_X4_spreadFrom_64, e_X4_spreadFrom_65, e_X4_spreadFrom_67, e_X4_spreadFrom_70, e_X4_spreadFrom_73, e_X4_spreadFrom_75, e_X4_spreadFrom_77, e_X4_spreadFrom_80, e_X4_spreadFrom_82, e_X4_spreadFrom_85, e_X4_spreadFrom_88, e_X4_spreadFrom_88x, e_X4_spreadFrom_89, e_X4_spreadFrom_92, e_X4_spreadFrom_94, e_X4_spreadFrom_95, e_X4_spreadFrom_96, e_X4_spreadFrom_98, e_X4_spreadFrom_99, e_X4_spreadFrom_100, e_X4_spreadFrom_103, e_X4_spreadFrom_106, zcll_s, zpush_s, zpush_n, zinv_i, zinv_l, zinv_r, zinv_x, zcats_nil, zcats_i, zcats_l, zcats_r, zcats_x, Nat.le_refl, and_self, true_and, and_true, zok_1, zok_20, zok_21, eq_self, Nat.reduceAdd, Nat.reduceLeDiff, Nat.zero_le, if_true, if_false, zw3_id, if_pos, if_neg, zand_t, tg_134, tg_270, rr_270_0 hR, h2, tt.1, e0, hp1, tp.1, q1]
        exact run I1 _ _ hS1 (fun I2 u r1 r2 r3 => ⟨I2, u, rfl, KT_t q2 r1, r2, r3⟩)
noncomputable def cSt (M : MD) (g : Int) (W : Nat → Int) : Nat → Nat → (Nat → Int) → Nat → Int
  | 0, _, F => F
  | j + 1, k, F => cSt M g W j (k + 1) (if W k = 0 then F else cSf M g (k : Int) (W k) F)
noncomputable def cStep (M : MD) (g : Int) (W : Nat → Int) : Nat → Int := cSt M g W (mN M) 0 (fun _ => 0)
noncomputable def cSteps (M : MD) (g : Int) : Nat → (Nat → Int) → Nat → Int
  | 0, W => W
  | j + 1, W => cSteps M g j (cStep M g W)
theorem q_spread2 (hSw : SwR R R1 p q) (g n first kk : Int) (hg : g = -1 ∨ (0 ≤ g ∧ g < M.2.2.2.length)) (W : Nat → Int) {Q : Option ZV × ZS → Prop} : ∀ (j k : Nat) (I L1 : ZI) (F : Nat → Int), mN M - k = j → k ≤ mN M → ClS I R1 b M → (∀ i, i < 1000 → L1 p i = if i < k then 0 else W i) → Ag 1000 (L1 q) F → (∀ a, a ≠ p → a ≠ q → L1 a = L a) → (∀ I1 L1, KT I I1 → Tab I1 M → (∀ i, i < 1000 → L1 p i = if i < mN M then 0 else W i) → Ag 1000 (L1 q) (cSt M g W j k F) → (∀ a, a ≠ p → a ≠ q → L1 a = L a) → V X (zrun X (d + 5)) mX4_spread 102 [zr (some 270), zi g, zi n, zi (mPr M.2.1), zi first, zi kk, zi (mPr M.2.1)] [] (c, s, I1, L1, R1) Q) → V X (zrun X (d + 5)) mX4_spread 63 [zr (some 270), zi g, zi n, zi (mPr M.2.1), zi first, zi kk, zi (k : Int)] [] (c, s, I, L1, R1) Q := by
  intro j
  have tp := SwR_tt hSw
  have hp1 := hSw.1
  induction j with
  | zero =>
    intro k I L1 F h1 h2 hS hW hF hL hQ
    have hk := hS.2.2.2.2.2.2.1
    have hpp := mPr_pos hk.2.2.1
    have eN : ((mN M : Nat) : Int) = mPr M.2.1 := by unfold mN; omega
    have ek : k = mN M := by omega
    have z := hQ I L1 KT_r hS.2.2.2.2.2.2.2 (by rw [← ek]; exact hW) hF hL
    rw [e_X4_spread_63]
    simp (disch := omega) only [e_X4_spread_0, e_X4_spread_0x, e_X4_spread_1, e_X4_spread_4, e_X4_spread_5, e_X4_spread_5x, e_X4_spread_6, e_X4_spread_9, e_X4_spread_10, e_X4_spread_13, e_X4_spread_13x, e_X4_spread_14, e_X4_spread_17, e_X4_spread_18, e_X4_spread_21, e_X4_spread_21x, e_X4_spread_22, e_X4_spread_25, e_X4_spread_28, e_X4_spread_30, e_X4_spread_32, e_X4_spread_35, e_X4_spread_37, e_X4_spread_40, e_X4_spread_43, e_X4_spread_43x, e_X4_spread_44, e_X4_spread_47, e_X4_spread_49, e_X4_spread_50, e_X4_spread_51, e_X4_spread_52, e_X4_spread_56, e_X4_spread_57, e_X4_spread_60, e_X4_spread_61, e_X4_spread_65, e_X4_spread_66, e_X4_spread_69, e_X4_spread_69x, e_X4_spread_70, e_X4_spread_73, e_X4_spread_75, e_X4_spread_76, e_X4_spread_77, e_X4_spread_78, e_X4_spread_81, e_X4_spread_81x, e_X4_spread_82, e_X4_spread_84, e_X4_spread_85, e_X4_spread_88, e_X4_spread_88x, e_X4_spread_89, e_X4_spread_92, e_X4_spread_94, e_X4_spread_95, e_X4_spread_96, e_X4_spread_99, e_X4_spread_103, e_X4_spread_106, e_X4_spread_108, e_X4_spread_108x, e_X4_spread_109, e_X4_spread_109x, e_X4_spread_110, e_X4_spread_113, e_X4_spread_116, e_X4_spread_116x, e_X4_spread_117, e_X4_spread_117x, e_X4_spread_119, e_X4_spread_122, e_X4_spread_125, e_X4_spread_128, zcll_s, zpush_s, zpush_n, zinv_i, zinv_l, zinv_r, zinv_x, zcats_nil, zcats_i, zcats_l, zcats_r, zcats_x, Nat.le_refl, and_self, true_and, and_true, zok_1, zok_20, zok_21, eq_self, Nat.reduceAdd, Nat.reduceLeDiff, Nat.zero_le, if_true, if_false, zw3_id, if_pos, if_neg, zand_t]
    rw [ek, eN]
    exact z
  | succ j ih =>
    intro k I L1 F h1 h2 hS hW hF hL hQ
    have hk := hS.2.2.2.2.2.2.1
    have hpp := mPr_pos hk.2.2.1
    have hp := hk.2.2.2.1
    have eN : ((mN M : Nat) : Int) = mPr M.2.1 := by unfold mN; omega
    have hWk : L1 p k = W k := by rw [hW k (by omega), if_neg (by omega)]
    unfold cSt at hQ
    rw [e_X4_spread_63]
    by_cases h0 : W k = 0
    · rw [if_pos h0] at hQ
      rw [h0] at hWk
      simp (disch := omega) only [e_X4_spread_0, e_X4_spread_0x, e_X4_spread_1, e_X4_spread_4, e_X4_spread_5, e_X4_spread_5x, e_X4_spread_6, e_X4_spread_9, e_X4_spread_10, e_X4_spread_13, e_X4_spread_13x, e_X4_spread_14, e_X4_spread_17, e_X4_spread_18, e_X4_spread_21, e_X4_spread_21x, e_X4_spread_22, e_X4_spread_25, e_X4_spread_28, e_X4_spread_30, e_X4_spread_32, e_X4_spread_35, e_X4_spread_37, e_X4_spread_40, e_X4_spread_43, e_X4_spread_43x, e_X4_spread_44, e_X4_spread_47, e_X4_spread_49, e_X4_spread_50, e_X4_spread_51, e_X4_spread_52, e_X4_spread_56, e_X4_spread_57, e_X4_spread_60, e_X4_spread_61, e_X4_spread_65, e_X4_spread_66, e_X4_spread_69, e_X4_spread_69x, e_X4_spread_70, e_X4_spread_73, e_X4_spread_75, e_X4_spread_76, e_X4_spread_77, e_X4_spread_78, e_X4_spread_81, e_X4_spread_81x, e_X4_spread_82, e_X4_spread_84, e_X4_spread_85, e_X4_spread_88, e_X4_spread_88x, e_X4_spread_89, e_X4_spread_92, e_X4_spread_94, e_X4_spread_95, e_X4_spread_96, e_X4_spread_99, e_X4_spread_103, e_X4_spread_106, e_X4_spread_108, e_X4_spread_108x, e_X4_spread_109, e_X4_spread_109x, e_X4_spread_110, e_X4_spread_113, e_X4_spread_116, e_X4_spread_116x, e_X4_spread_117, e_X4_spread_117x, e_X4_spread_119, e_X4_spread_122, e_X4_spread_125, e_X4_spread_128, zcll_s, zpush_s, zpush_n, zinv_i, zinv_l, zinv_r, zinv_x, zcats_nil, zcats_i, zcats_l, zcats_r, zcats_x, Nat.le_refl, and_self, true_and, and_true, zok_1, zok_20, zok_21, eq_self, Nat.reduceAdd, Nat.reduceLeDiff, Nat.zero_le, if_true, if_false, zw3_id, if_pos, if_neg, zand_t, tg_270, hp1, tp.1, Int.toNat_natCast, hWk, zcmpl_eq]
      rw [show (k : Int) + 1 = ((k + 1 : Nat) : Int) by omega]
      refine ih (k + 1) I L1 F (by omega) (by omega) hS ?_ hF hL hQ
      intro i hi
      rw [hW i hi]
      by_cases e1 : i < k
      · rw [if_pos e1, if_pos (by omega)]
      · by_cases e2 : i = k
        · rw [if_neg e1, if_pos (by omega), e2, h0]
        · rw [if_neg e1, if_neg (by omega)]
    · rw [if_neg h0] at hQ
      obtain ⟨I1, u, q1, q2, q3, q4⟩ := k_spreadFrom (X := X) (d := d) (c := c) (s := s) (L := L1) hSw hS (k : Int) g (by omega) (by omega) hg hF
      rw [Int.toNat_natCast, hWk] at q4
      simp (disch := omega) only [e_X4_spread_0, e_X4_spread_0x, e_X4_spread_1, e_X4_spread_4, e_X4_spread_5, e_X4_spread_5x, e_X4_spread_6, e_X4_spread_9, e_X4_spread_10, e_X4_spread_13, e_X4_spread_13x, e_X4_spread_14, e_X4_spread_17, e_X4_spread_18, e_X4_spread_21, e_X4_spread_21x, e_X4_spread_22, e_X4_spread_25, e_X4_spread_28, e_X4_spread_30, e_X4_spread_32, e_X4_spread_35, e_X4_spread_37, e_X4_spread_40, e_X4_spread_43, e_X4_spread_43x, e_X4_spread_44, e_X4_spread_47, e_X4_spread_49, e_X4_spread_50, e_X4_spread_51, e_X4_spread_52, e_X4_spread_56, e_X4_spread_57, e_X4_spread_60, e_X4_spread_61, e_X4_spread_65, e_X4_spread_66, e_X4_spread_69, e_X4_spread_69x, e_X4_spread_70, e_X4_spread_73, e_X4_spread_75, e_X4_spread_76, e_X4_spread_77, e_X4_spread_78, e_X4_spread_81, e_X4_spread_81x, e_X4_spread_82, e_X4_spread_84, e_X4_spread_85, e_X4_spread_88, e_X4_spread_88x, e_X4_spread_89, e_X4_spread_92, e_X4_spread_94, e_X4_spread_95, e_X4_spread_96, e_X4_spread_99, e_X4_spread_103, e_X4_spread_106, e_X4_spread_108, e_X4_spread_108x, e_X4_spread_109, e_X4_spread_109x, e_X4_spread_110, e_X4_spread_113, e_X4_spread_116, e_X4_spread_116x, e_X4_spread_117, e_X4_spread_117x, e_X4_spread_119, e_X4_spread_122, e_X4_spread_125, e_X4_spread_128, zcll_s, zpush_s, zpush_n, zinv_i, zinv_l, zinv_r, zinv_x, zcats_nil, zcats_i, zcats_l, zcats_r, zcats_x, Nat.le_refl, and_self, true_and, and_true, zok_1, zok_20, zok_21, eq_self, Nat.reduceAdd, Nat.reduceLeDiff, Nat.zero_le, if_true, if_false, zw3_id, if_pos, if_neg, zand_t, tg_270, hp1, tp.1, Int.toNat_natCast, hWk, zcmpl_eq, q1]
      rw [show (k : Int) + 1 = ((k + 1 : Nat) : Int) by omega]
      refine ih (k + 1) I1 _ _ (by omega) (by omega) (ClS_k hS q2 q3) ?_ ?_ ?_ (fun I2 L2 r1 r2 => hQ I2 L2 (KT_t q2 r1) r2)
      · intro i hi
        by_cases e2 : i = k
        · rw [e2, zu_s, if_pos (by omega)]
        · rw [zu_k e2, zW_n tp.2.2.1, hW i hi]
          by_cases e1 : i < k
          · rw [if_pos e1, if_pos (by omega)]
          · rw [if_neg e1, if_neg (by omega)]
      · rw [zu_n (Ne.symm tp.2.2.1), zW_s]
        exact q4
      · intro a ha hb
        rw [zu_n ha, zW_n hb]
        exact hL a ha hb
theorem mAd_hi (hk : MOK M) {t y : Int} (ht : 0 ≤ t) {i : Nat} (hi : mN M ≤ i) : ∀ (j : Nat) (e : Int) (F : Nat → Int), mAd M t y j e F i = F i := by
  intro j
  induction j with
  | zero => intro e F; rfl
  | succ j ih =>
    intro e F
    unfold mAd
    rw [ih]
    have hms := mS_in (M := M) hk.2.2.1 (d := e) ht
    unfold mN at hi
    exact if_neg (by omega)
theorem cSt_hi (hk : MOK M) {g : Int} {W : Nat → Int} {i : Nat} (hi : mN M ≤ i) : ∀ (j k : Nat) (F : Nat → Int), mN M - k = j → cSt M g W j k F i = F i := by
  intro j
  induction j with
  | zero => intro k F _; rfl
  | succ j ih =>
    intro k F h1
    unfold cSt
    rw [ih (k + 1) _ (by omega)]
    split
    · rfl
    · unfold cSf
      split
      · exact if_neg (by omega)
      · exact mAd_hi hk (by omega) hi _ _ _
/-- what rows leave as they are -/
def KR (I L : ZI) (I1 L1 : ZI) : Prop := KT I I1 ∧ ∀ a, a ≠ 271 → a ≠ 272 → L1 a = L a
theorem q_spread1 (g n first : Int) (hg : g = -1 ∨ (0 ≤ g ∧ g < M.2.2.2.length)) (hn : n < 1000) {Q : Option ZV × ZS → Prop} : ∀ (j : Nat) (kk : Int) (I L : ZI) (R1 : ZR) (p q : Nat) (W : Nat → Int) (v6 : ZV), (n - kk).toNat = j → 0 ≤ kk → kk ≤ n → SwR R R1 p q → ClS I R1 b M → Ag 1000 (L p) W → Ag 1000 (L q) (fun _ => 0) → (∀ i, mN M ≤ i → W i = 0) → (∀ I1 L1 R1 p q, SwR R R1 p q → KR I L I1 L1 → Tab I1 M → Ag 1000 (L1 p) (cSteps M g j W) → Q (none, (c, s, I1, L1, R1))) → V X (zrun X (d + 5)) mX4_spread 54 [zr (some 270), zi g, zi n, zi (mPr M.2.1), zi first, zi kk, v6] [] (c, s, I, L, R1) Q := by
  intro j
  induction j with
  | zero =>
    intro kk I L R1 p q W v6 h1 h2 h3 hSw hS hW hF h0 hQ
    have z := hQ I L R1 p q hSw ⟨KT_r, fun _ _ _ => rfl⟩ hS.2.2.2.2.2.2.2 hW
    rw [e_X4_spread_54]
    simp (disch := omega) only [e_X4_spread_0, e_X4_spread_0x, e_X4_spread_1, e_X4_spread_4, e_X4_spread_5, e_X4_spread_5x, e_X4_spread_6, e_X4_spread_9, e_X4_spread_10, e_X4_spread_13, e_X4_spread_13x, e_X4_spread_14, e_X4_spread_17, e_X4_spread_18, e_X4_spread_21, e_X4_spread_21x, e_X4_spread_22, e_X4_spread_25, e_X4_spread_28, e_X4_spread_30, e_X4_spread_32, e_X4_spread_35, e_X4_spread_37, e_X4_spread_40, e_X4_spread_43, e_X4_spread_43x, e_X4_spread_44, e_X4_spread_47, e_X4_spread_49, e_X4_spread_50, e_X4_spread_51, e_X4_spread_52, e_X4_spread_56, e_X4_spread_57, e_X4_spread_60, e_X4_spread_61, e_X4_spread_65, e_X4_spread_66, e_X4_spread_69, e_X4_spread_69x, e_X4_spread_70, e_X4_spread_73, e_X4_spread_75, e_X4_spread_76, e_X4_spread_77, e_X4_spread_78, e_X4_spread_81, e_X4_spread_81x, e_X4_spread_82, e_X4_spread_84, e_X4_spread_85, e_X4_spread_88, e_X4_spread_88x, e_X4_spread_89, e_X4_spread_92, e_X4_spread_94, e_X4_spread_95, e_X4_spread_96, e_X4_spread_99, e_X4_spread_103, e_X4_spread_106, e_X4_spread_108, e_X4_spread_108x, e_X4_spread_109, e_X4_spread_109x, e_X4_spread_110, e_X4_spread_113, e_X4_spread_116, e_X4_spread_116x, e_X4_spread_117, e_X4_spread_117x, e_X4_spread_119, e_X4_spread_122, e_X4_spread_125, e_X4_spread_128, zcll_s, zpush_s, zpush_n, zinv_i, zinv_l, zinv_r, zinv_x, zcats_nil, zcats_i, zcats_l, zcats_r, zcats_x, Nat.le_refl, and_self, true_and, and_true, zok_1, zok_20, zok_21, eq_self, Nat.reduceAdd, Nat.reduceLeDiff, Nat.zero_le, if_true, if_false, zw3_id, if_pos, if_neg, zand_t]
    exact z
  | succ j ih =>
    intro kk I L R1 p q W v6 h1 h2 h3 hSw hS hW hF h0 hQ
    have hk := hS.2.2.2.2.2.2.1
    have hp := hk.2.2.2.1
    have tp := SwR_tt hSw
    have hp1 := hSw.1
    have hq1 := hSw.2.1
    rw [e_X4_spread_54]
    simp (disch := omega) only [e_X4_spread_0, e_X4_spread_0x, e_X4_spread_1, e_X4_spread_4, e_X4_spread_5, e_X4_spread_5x, e_X4_spread_6, e_X4_spread_9, e_X4_spread_10, e_X4_spread_13, e_X4_spread_13x, e_X4_spread_14, e_X4_spread_17, e_X4_spread_18, e_X4_spread_21, e_X4_spread_21x, e_X4_spread_22, e_X4_spread_25, e_X4_spread_28, e_X4_spread_30, e_X4_spread_32, e_X4_spread_35, e_X4_spread_37, e_X4_spread_40, e_X4_spread_43, e_X4_spread_43x, e_X4_spread_44, e_X4_spread_47, e_X4_spread_49, e_X4_spread_50, e_X4_spread_51, e_X4_spread_52, e_X4_spread_56, e_X4_spread_57, e_X4_spread_60, e_X4_spread_61, e_X4_spread_65, e_X4_spread_66, e_X4_spread_69, e_X4_spread_69x, e_X4_spread_70, e_X4_spread_73, e_X4_spread_75, e_X4_spread_76, e_X4_spread_77, e_X4_spread_78, e_X4_spread_81, e_X4_spread_81x, e_X4_spread_82, e_X4_spread_84, e_X4_spread_85, e_X4_spread_88, e_X4_spread_88x, e_X4_spread_89, e_X4_spread_92, e_X4_spread_94, e_X4_spread_95, e_X4_spread_96, e_X4_spread_99, e_X4_spread_103, e_X4_spread_106, e_X4_spread_108, e_X4_spread_108x, e_X4_spread_109, e_X4_spread_109x, e_X4_spread_110, e_X4_spread_113, e_X4_spread_116, e_X4_spread_116x, e_X4_spread_117, e_X4_spread_117x, e_X4_spread_119, e_X4_spread_122, e_X4_spread_125, e_X4_spread_128, zcll_s, zpush_s, zpush_n, zinv_i, zinv_l, zinv_r, zinv_x, zcats_nil, zcats_i, zcats_l, zcats_r, zcats_x, Nat.le_refl, and_self, true_and, and_true, zok_1, zok_20, zok_21, eq_self, Nat.reduceAdd, Nat.reduceLeDiff, Nat.zero_le, if_true, if_false, zw3_id, if_pos, if_neg, zand_t]
    refine q_spread2 (X := X) (d := d) (L := L) hSw g n first kk hg W (mN M) 0 I L (fun _ => 0) (by omega) (by omega) hS (fun i hi => by rw [if_neg (by omega)]; exact hW i hi) hF (fun _ _ _ => rfl) ?_
    intro I1 L1 r1 r2 r3 r4 r5
    rw [e_X4_spread_102]
    have hq2 : zu R1 270 1 (some q) 270 2 = some q := by rw [zu_k (by omega)]; exact hq1
    simp (disch := omega) only [e_X4_spread_0, e_X4_spread_0x, e_X4_spread_1, e_X4_spread_4, e_X4_spread_5, e_X4_spread_5x, e_X4_spread_6, e_X4_spread_9, e_X4_spread_10, e_X4_spread_13, e_X4_spread_13x, e_X4_spread_14, e_X4_spread_17, e_X4_spread_18, e_X4_spread_21, e_X4_spread_21x, e_X4_spread_22, e_X4_spread_25, e_X4_spread_28, e_X4_spread_30, e_X4_spread_32, e_X4_spread_35, e_X4_spread_37, e_X4_spread_40, e_X4_spread_43, e_X4_spread_43x, e_X4_spread_44, e_X4_spread_47, e_X4_spread_49, e_X4_spread_50, e_X4_spread_51, e_X4_spread_52, e_X4_spread_56, e_X4_spread_57, e_X4_spread_60, e_X4_spread_61, e_X4_spread_65, e_X4_spread_66, e_X4_spread_69, e_X4_spread_69x, e_X4_spread_70, e_X4_spread_73, e_X4_spread_75, e_X4_spread_76, e_X4_spread_77, e_X4_spread_78, e_X4_spread_81, e_X4_spread_81x, e_X4_spread_82, e_X4_spread_84, e_X4_spread_85, e_X4_spread_88, e_X4_spread_88x, e_X4_spread_89, e_X4_spread_92, e_X4_spread_94, e_X4_spread_95, e_X4_spread_96, e_X4_spread_99, e_X4_spread_103, e_X4_spread_106, e_X4_spread_108, e_X4_spread_108x, e_X4_spread_109, e_X4_spread_109x, e_X4_spread_110, e_X4_spread_113, e_X4_spread_116, e_X4_spread_116x, e_X4_spread_117, e_X4_spread_117x, e_X4_spread_119, e_X4_spread_122, e_X4_spread_125, e_X4_spread_128, zcll_s, zpush_s, zpush_n, zinv_i, zinv_l, zinv_r, zinv_x, zcats_nil, zcats_i, zcats_l, zcats_r, zcats_x, Nat.le_refl, and_self, true_and, and_true, zok_1, zok_20, zok_21, eq_self, Nat.reduceAdd, Nat.reduceLeDiff, Nat.zero_le, if_true, if_false, zw3_id, if_pos, if_neg, zand_t, tg_270, hp1, hq1]
    have hSw2 := SwR_x hSw
    have hS2 : ClS I1 (zu (zu R1 270 1 (some q)) 270 2 (some p)) b M := by
      have a : SwR R1 (zu (zu R1 270 1 (some q)) 270 2 (some p)) q p := ⟨hSw2.1, hSw2.2.1, hSw2.2.2.1, fun a k hh => by
        unfold zu
        rw [if_neg (fun z => hh ⟨z.1, Or.inr z.2⟩), if_neg (fun z => hh ⟨z.1, Or.inl z.2⟩)]⟩
      exact SwR_S a (ClS_k hS r1 r2)
    refine ih (kk + 1) I1 L1 _ q p (cStep M g W) _ (by omega) (by omega) (by omega) hSw2 hS2 r4 ?_ ?_ ?_
    · intro i hi
      rw [r3 i hi]
      by_cases e : i < mN M
      · rw [if_pos e]
      · rw [if_neg e]; exact h0 i (by omega)
    · intro i hi
      exact cSt_hi hk hi _ _ _ (by omega)
    · intro I2 L2 R2 p2 q2 u1 u2 u3 u4
      refine hQ I2 L2 R2 p2 q2 u1 ⟨KT_t r1 u2.1, fun a ha hb => ?_⟩ u3 u4
      rw [u2.2 a ha hb]
      exact r5 a (by omega) (by omega)
theorem k_spread (hSw : SwR R R1 p q) (hS : ClS I R1 b M) (g n : Int) (hg : g = -1 ∨ (0 ≤ g ∧ g < M.2.2.2.length)) (hn0 : 0 ≤ n) (hn : n < 1000) : ∃ I1 L1 R2 p q, zrun X (d + 6) 44 [zr (some 270), zi g, zi n] (c, s, I, L, R1) = some (none, (c, s, I1, L1, R2)) ∧ SwR R R2 p q ∧ KR I L I1 L1 ∧ Tab I1 M ∧ Ag 1000 (L1 p) (cSteps M g n.toNat (mW0 M)) := by
  have tp := SwR_tt hSw
  obtain ⟨hR, hb, h1, h2, h3, hM, hk, hT⟩ := id hS
  have hp := hk.2.2.2.1
  have hs0 := mS0_in (M := M) hk.2.2.1
  have hp1 := hSw.1
  have hq1 := hSw.2.1
  have pr := sx_X4_spread (X := X) (d := d + 5) (u0 := some 270) (x1 := g) (x2 := n) (σ := (c, s, I, L, R1)) (P := fun r => ∃ I1 L1 R2 p q, r = (none, (c, s, I1, L1, R2)) ∧ SwR R R2 p q ∧ KR I L I1 L1 ∧ Tab I1 M ∧ Ag 1000 (L1 p) (cSteps M g n.toNat (mW0 M))) ?_
  · obtain ⟨r, q1, I1, L1, R2, p2, q2, q3, q4⟩ := pr
    exact ⟨I1, L1, R2, p2, q2, by rw [q1, q3], q4⟩
  · have c1 := k_stateCount (X := X) (d := d + 4) (c := c) (s := s) (L := L) hS
    obtain ⟨g1, f1, f2⟩ := k_fillL (X := X) (d := d + 4) (c := c) (s := s) (I := I) (L := L) (R := R1) tp.1 (by omega) 0
    obtain ⟨g2, f3, f4⟩ := k_fillL (X := X) (d := d + 4) (c := c) (s := s) (I := I) (L := zW L p g1) (R := R1) tp.2.1 (by omega) 0
    have c2 := k_firstState (X := X) (d := d + 3) (c := c) (s := s) (L := zW (zW L p g1) q g2) hS
    simp (disch := omega) only [e_X4_spread_0, e_X4_spread_0x, e_X4_spread_1, e_X4_spread_4, e_X4_spread_5, e_X4_spread_5x, e_X4_spread_6, e_X4_spread_9, e_X4_spread_10, e_X4_spread_13, e_X4_spread_13x, e_X4_spread_14, e_X4_spread_17, e_X4_spread_18, e_X4_spread_21, e_X4_spread_21x, e_X4_spread_22, e_X4_spread_25, e_X4_spread_28, e_X4_spread_30, e_X4_spread_32, e_X4_spread_35, e_X4_spread_37, e_X4_spread_40, e_X4_spread_43, e_X4_spread_43x, e_X4_spread_44, e_X4_spread_47, e_X4_spread_49, e_X4_spread_50, e_X4_spread_51, e_X4_spread_52, e_X4_spread_56, e_X4_spread_57, e_X4_spread_60, e_X4_spread_61, e_X4_spread_65, e_X4_spread_66, e_X4_spread_69, e_X4_spread_69x, e_X4_spread_70, e_X4_spread_73, e_X4_spread_75, e_X4_spread_76, e_X4_spread_77, e_X4_spread_78, e_X4_spread_81, e_X4_spread_81x, e_X4_spread_82, e_X4_spread_84, e_X4_spread_85, e_X4_spread_88, e_X4_spread_88x, e_X4_spread_89, e_X4_spread_92, e_X4_spread_94, e_X4_spread_95, e_X4_spread_96, e_X4_spread_99, e_X4_spread_103, e_X4_spread_106, e_X4_spread_108, e_X4_spread_108x, e_X4_spread_109, e_X4_spread_109x, e_X4_spread_110, e_X4_spread_113, e_X4_spread_116, e_X4_spread_116x, e_X4_spread_117, e_X4_spread_117x, e_X4_spread_119, e_X4_spread_122, e_X4_spread_125, e_X4_spread_128, zcll_s, zpush_s, zpush_n, zinv_i, zinv_l, zinv_r, zinv_x, zcats_nil, zcats_i, zcats_l, zcats_r, zcats_x, Nat.le_refl, and_self, true_and, and_true, zok_1, zok_20, zok_21, eq_self, Nat.reduceAdd, Nat.reduceLeDiff, Nat.zero_le, if_true, if_false, zw3_id, if_pos, if_neg, zand_t, tg_134, tg_270, rr_270_0 hR, hp1, hq1, tp.1, c1, f1, f3, c2]
    refine q_spread1 (X := X) (d := d) g n (mS0 M) hg hn n.toNat 0 I _ R1 p q (mW0 M) _ (by omega) (by omega) (by omega) hSw hS ?_ ?_ ?_ ?_
    · intro i hi
      unfold mW0 fU
      by_cases e : i = (mS0 M).toNat
      · rw [e, zu_s, if_pos rfl]
      · rw [zu_k e, zW_n tp.2.2.1, zW_s, if_neg e]
        exact f2 i hi
    · intro i hi
      rw [zu_n (Ne.symm tp.2.2.1), zW_s]
      exact f4 i hi
    · intro i hi
      unfold mN at hi
      exact if_neg (by omega)
    · intro I2 L2 R2 p2 q2 u1 u2 u3 u4
      refine ⟨I2, L2, R2, p2, q2, rfl, u1, ⟨u2.1, fun a ha hb => ?_⟩, u3, u4⟩
      rw [u2.2 a ha hb, zu_n (by omega), zW_n (by omega), zW_n (by omega)]
noncomputable def cHo (M : MD) (g : Nat) (W : Nat → Int) : Nat → Nat → Int → Int
  | 0, _, y => y
  | j + 1, k, y => cHo M g W j (k + 1) (@ite _ (W k ≠ 0 ∧ mGoal M g (k : Int)) (Classical.propDecidable _) (zw6 (y + W k)) y)
theorem q_holding (hSw : SwR R R1 p q) (g n : Int) (hg0 : 0 ≤ g) (hg : g < M.2.2.2.length) (W : Nat → Int) (hW : Ag 1000 (L p) W) {Q : Option ZV × ZS → Prop} : ∀ (j k : Nat) (y : Int) (I : ZI), mN M - k = j → k ≤ mN M → ClS I R1 b M → (∀ I1, KT I I1 → Tab I1 M → Q (some (zl (cHo M g.toNat W j k y)), (c, s, I1, L, R1))) → V X (zrun X (d + 5)) mX4_holding 17 [zr (some 270), zi g, zi n, zi (mPr M.2.1), zl y, zx 0, zi (k : Int)] [] (c, s, I, L, R1) Q := by
  intro j
  have tp := SwR_tt hSw
  have hp1 := hSw.1
  induction j with
  | zero =>
    intro k y I h1 h2 hS hQ
    have hpp := mPr_pos hS.2.2.2.2.2.2.1.2.2.1
    have eN : ((mN M : Nat) : Int) = mPr M.2.1 := by unfold mN; omega
    have z := hQ I KT_r hS.2.2.2.2.2.2.2
    rw [e_X4_holding_17]
    simp (disch := omega) only [e_X4_holding_0, e_X4_holding_0x, e_X4_holding_1, e_X4_holding_2, e_X4_holding_3, e_X4_holding_6, e_X4_holding_6x, e_X4_holding_7, e_X4_holding_10, e_X4_holding_11, e_X4_holding_12, e_X4_holding_14, e_X4_holding_15, e_X4_holding_19, e_X4_holding_20, e_X4_holding_23, e_X4_holding_23x, e_X4_holding_24, e_X4_holding_27, e_X4_holding_29, e_X4_holding_30, e_X4_holding_31, e_X4_holding_32, e_X4_holding_35, e_X4_holding_35x, e_X4_holding_36, e_X4_holding_39, e_X4_holding_41, e_X4_holding_42, e_X4_holding_45, e_X4_holding_48, e_X4_holding_50, e_X4_holding_50x, e_X4_holding_51, e_X4_holding_54, e_X4_holding_56, e_X4_holding_57, e_X4_holding_58, e_X4_holding_60, e_X4_holding_63, e_X4_holding_66, e_X4_holding_68, zcll_s, zpush_s, zpush_n, zinv_i, zinv_l, zinv_r, zinv_x, zcats_nil, zcats_i, zcats_l, zcats_r, zcats_x, Nat.le_refl, and_self, true_and, and_true, zok_1, zok_20, zok_21, eq_self, Nat.reduceAdd, Nat.reduceLeDiff, Nat.zero_le, if_true, if_false, zw3_id, if_pos, if_neg, zand_t]
    exact z
  | succ j ih =>
    intro k y I h1 h2 hS hQ
    have hk := hS.2.2.2.2.2.2.1
    have hR := hS.1
    have hpp := mPr_pos hk.2.2.1
    have hp := hk.2.2.2.1
    have eN : ((mN M : Nat) : Int) = mPr M.2.1 := by unfold mN; omega
    have hWk := hW k (by omega)
    unfold cHo at hQ
    have e1 : (k : Int) + 1 = ((k + 1 : Nat) : Int) := by omega
    rw [e_X4_holding_17]
    by_cases h0 : W k = 0
    · rw [if_neg (fun z => z.1 h0)] at hQ
      rw [h0] at hWk
      simp (disch := omega) only [e_X4_holding_0, e_X4_holding_0x, e_X4_holding_1, e_X4_holding_2, e_X4_holding_3, e_X4_holding_6, e_X4_holding_6x, e_X4_holding_7, e_X4_holding_10, e_X4_holding_11, e_X4_holding_12, e_X4_holding_14, e_X4_holding_15, e_X4_holding_19, e_X4_holding_20, e_X4_holding_23, e_X4_holding_23x, e_X4_holding_24, e_X4_holding_27, e_X4_holding_29, e_X4_holding_30, e_X4_holding_31, e_X4_holding_32, e_X4_holding_35, e_X4_holding_35x, e_X4_holding_36, e_X4_holding_39, e_X4_holding_41, e_X4_holding_42, e_X4_holding_45, e_X4_holding_48, e_X4_holding_50, e_X4_holding_50x, e_X4_holding_51, e_X4_holding_54, e_X4_holding_56, e_X4_holding_57, e_X4_holding_58, e_X4_holding_60, e_X4_holding_63, e_X4_holding_66, e_X4_holding_68, zcll_s, zpush_s, zpush_n, zinv_i, zinv_l, zinv_r, zinv_x, zcats_nil, zcats_i, zcats_l, zcats_r, zcats_x, Nat.le_refl, and_self, true_and, and_true, zok_1, zok_20, zok_21, eq_self, Nat.reduceAdd, Nat.reduceLeDiff, Nat.zero_le, if_true, if_false, zw3_id, if_pos, if_neg, zand_t, tg_270, hp1, tp.1, Int.toNat_natCast, hWk, zcmpl_eq]
      rw [e1]
      exact ih (k + 1) _ I (by omega) (by omega) hS hQ
    · obtain ⟨I1, q1, q2, q3⟩ := k_hasGoal (X := X) (d := d + 1) (c := c) (s := s) (L := L) hS (k : Int) g (by omega) (by omega) hg0 hg
      by_cases hgo : mGoal M g.toNat (k : Int)
      · rw [if_pos ⟨h0, hgo⟩] at hQ
        rw [zB_t hgo] at q1
        simp (disch := omega) only [e_X4_holding_0, e_X4_holding_0x, e_X4_holding_1, e_X4_holding_2, e_X4_holding_3, e_X4_holding_6, e_X4_holding_6x, e_X4_holding_7, e_X4_holding_10, e_X4_holding_11, e_X4_holding_12, e_X4_holding_14, e_X4_holding_15, e_X4_holding_19, e_X4_holding_20, e_X4_holding_23, e_X4_holding_23x, e_X4_holding_24, e_X4_holding_27, e_X4_holding_29, e_X4_holding_30, e_X4_holding_31, e_X4_holding_32, e_X4_holding_35, e_X4_holding_35x, e_X4_holding_36, e_X4_holding_39, e_X4_holding_41, e_X4_holding_42, e_X4_holding_45, e_X4_holding_48, e_X4_holding_50, e_X4_holding_50x, e_X4_holding_51, e_X4_holding_54, e_X4_holding_56, e_X4_holding_57, e_X4_holding_58, e_X4_holding_60, e_X4_holding_63, e_X4_holding_66, e_X4_holding_68, zcll_s, zpush_s, zpush_n, zinv_i, zinv_l, zinv_r, zinv_x, zcats_nil, zcats_i, zcats_l, zcats_r, zcats_x, Nat.le_refl, and_self, true_and, and_true, zok_1, zok_20, zok_21, eq_self, Nat.reduceAdd, Nat.reduceLeDiff, Nat.zero_le, if_true, if_false, zw3_id, if_pos, if_neg, zand_t, tg_134, tg_270, rr_270_0 hR, hp1, tp.1, Int.toNat_natCast, hWk, zcmpl_eq, q1]
        rw [e1]
        exact ih (k + 1) _ I1 (by omega) (by omega) (ClS_k hS q2 q3) (fun I2 r1 r2 => hQ I2 (KT_t q2 r1) r2)
      · rw [if_neg (fun z => hgo z.2)] at hQ
        rw [zB_f hgo] at q1
        simp (disch := omega) only [e_X4_holding_0, e_X4_holding_0x, e_X4_holding_1, e_X4_holding_2, e_X4_holding_3, e_X4_holding_6, e_X4_holding_6x, e_X4_holding_7, e_X4_holding_10, e_X4_holding_11, e_X4_holding_12, e_X4_holding_14, e_X4_holding_15, e_X4_holding_19, e_X4_holding_20, e_X4_holding_23, e_X4_holding_23x, e_X4_holding_24, e_X4_holding_27, e_X4_holding_29, e_X4_holding_30, e_X4_holding_31, e_X4_holding_32, e_X4_holding_35, e_X4_holding_35x, e_X4_holding_36, e_X4_holding_39, e_X4_holding_41, e_X4_holding_42, e_X4_holding_45, e_X4_holding_48, e_X4_holding_50, e_X4_holding_50x, e_X4_holding_51, e_X4_holding_54, e_X4_holding_56, e_X4_holding_57, e_X4_holding_58, e_X4_holding_60, e_X4_holding_63, e_X4_holding_66, e_X4_holding_68, zcll_s, zpush_s, zpush_n, zinv_i, zinv_l, zinv_r, zinv_x, zcats_nil, zcats_i, zcats_l, zcats_r, zcats_x, Nat.le_refl, and_self, true_and, and_true, zok_1, zok_20, zok_21, eq_self, Nat.reduceAdd, Nat.reduceLeDiff, Nat.zero_le, if_true, if_false, zw3_id, if_pos, if_neg, zand_t, tg_134, tg_270, rr_270_0 hR, hp1, tp.1, Int.toNat_natCast, hWk, zcmpl_eq, q1]
        rw [e1]
        exact ih (k + 1) _ I1 (by omega) (by omega) (ClS_k hS q2 q3) (fun I2 r1 r2 => hQ I2 (KT_t q2 r1) r2)
theorem k_holding (hSw : SwR R R1 p q) (hS : ClS I R1 b M) (g n : Int) (hg0 : 0 ≤ g) (hg : g < M.2.2.2.length) (hn0 : 0 ≤ n) (hn : n < 1000) : ∃ I1 L1 R2 p q, zrun X (d + 7) 39 [zr (some 270), zi g, zi n] (c, s, I, L, R1) = some (some (zl (cHo M g.toNat (cSteps M g n.toNat (mW0 M)) (mN M) 0 0)), (c, s, I1, L1, R2)) ∧ SwR R R2 p q ∧ KR I L I1 L1 ∧ Tab I1 M := by
  obtain ⟨I1, L1, R2, p2, q2, r1, r2, r3, r4, r5⟩ := k_spread (X := X) (d := d) (c := c) (s := s) (L := L) hSw hS g n (Or.inr ⟨hg0, hg⟩) hn0 hn
  have hS1 : ClS I1 R2 b M := by
    have a : SwR R1 R2 p2 q2 := ⟨r2.1, r2.2.1, r2.2.2.1, fun a k hh => by rw [r2.2.2.2 a k hh, hSw.2.2.2 a k hh]⟩
    exact SwR_S a (ClS_k hS r3.1 r4)
  have c1 := k_stateCount (X := X) (d := d + 5) (c := c) (s := s) (L := L1) hS1
  have pr := sx_X4_holding (X := X) (d := d + 6) (u0 := some 270) (x1 := g) (x2 := n) (σ := (c, s, I, L, R1)) (P := fun r => ∃ I1 L1 R2 p q, r = (some (zl (cHo M g.toNat (cSteps M g n.toNat (mW0 M)) (mN M) 0 0)), (c, s, I1, L1, R2)) ∧ SwR R R2 p q ∧ KR I L I1 L1 ∧ Tab I1 M) ?_
  · obtain ⟨r, z1, I1, L1, R2, p2, q2, z3, z4⟩ := pr
    exact ⟨I1, L1, R2, p2, q2, by rw [z1, z3], z4⟩
  · simp (disch := omega) only [e_X4_holding_0, e_X4_holding_0x, e_X4_holding_1, e_X4_holding_2, e_X4_holding_3, e_X4_holding_6, e_X4_holding_6x, e_X4_holding_7, e_X4_holding_10, e_X4_holding_11, e_X4_holding_12, e_X4_holding_14, e_X4_holding_15, e_X4_holding_19, e_X4_holding_20, e_X4_holding_23, e_X4_holding_23x, e_X4_holding_24, e_X4_holding_27, e_X4_holding_29, e_X4_holding_30, e_X4_holding_31, e_X4_holding_32, e_X4_holding_35, e_X4_holding_35x, e_X4_holding_36, e_X4_holding_39, e_X4_holding_41, e_X4_holding_42, e_X4_holding_45, e_X4_holding_48, e_X4_holding_50, e_X4_holding_50x, e_X4_holding_51, e_X4_holding_54, e_X4_holding_56, e_X4_holding_57, e_X4_holding_58, e_X4_holding_60, e_X4_holding_63, e_X4_holding_66, e_X4_holding_68, zcll_s, zpush_s, zpush_n, zinv_i, zinv_l, zinv_r, zinv_x, zcats_nil, zcats_i, zcats_l, zcats_r, zcats_x, Nat.le_refl, and_self, true_and, and_true, zok_1, zok_20, zok_21, eq_self, Nat.reduceAdd, Nat.reduceLeDiff, Nat.zero_le, if_true, if_false, zw3_id, if_pos, if_neg, zand_t, tg_270, r1, c1]
    refine q_holding (X := X) (d := d + 1) r2 g n hg0 hg _ r5 (mN M) 0 0 I1 (by omega) (by omega) hS1 ?_
    intro I3 u1 u2
    exact ⟨I3, L1, R2, p2, q2, rfl, r2, ⟨KT_t r3.1 u1, r3.2⟩, u2⟩
def cTo (M : MD) (v : Nat) (W : Nat → Int) : Nat → Nat → Int → Int
  | 0, _, y => y
  | j + 1, k, y => cTo M v W j (k + 1) (if W k = 0 then y else zw6 (y + zw6 (W k * mDe M.2.1 (k : Int) v)))
theorem q_total (hSw : SwR R R1 p q) (hS : ClS I R1 b M) (v n : Int) (hv0 : 0 ≤ v) (hv : v < M.2.1.length) (W : Nat → Int) (hW : Ag 1000 (L p) W) : ∀ (j k : Nat) (y : Int), mN M - k = j → k ≤ mN M → V X (zrun X (d + 5)) mX4_total 17 [zr (some 270), zi v, zi n, zi (mPr M.2.1), zl y, zx 0, zi (k : Int)] [] (c, s, I, L, R1) (fun r => r = (some (zl (cTo M v.toNat W j k y)), (c, s, I, L, R1))) := by
  intro j
  have tp := SwR_tt hSw
  have hp1 := hSw.1
  obtain ⟨hR, hb, h1', h2', h3', hM, hk, hT⟩ := id hS
  have tt := tt_model hb
  have hpp := mPr_pos hk.2.2.1
  have hp := hk.2.2.2.1
  have eN : ((mN M : Nat) : Int) = mPr M.2.1 := by unfold mN; omega
  induction j with
  | zero =>
    intro k y h1 h2
    rw [e_X4_total_17]
    simp (disch := omega) only [e_X4_total_0, e_X4_total_0x, e_X4_total_1, e_X4_total_2, e_X4_total_3, e_X4_total_6, e_X4_total_6x, e_X4_total_7, e_X4_total_10, e_X4_total_11, e_X4_total_12, e_X4_total_14, e_X4_total_15, e_X4_total_19, e_X4_total_20, e_X4_total_23, e_X4_total_23x, e_X4_total_24, e_X4_total_27, e_X4_total_29, e_X4_total_30, e_X4_total_31, e_X4_total_32, e_X4_total_35, e_X4_total_37, e_X4_total_37x, e_X4_total_38, e_X4_total_41, e_X4_total_43, e_X4_total_44, e_X4_total_44x, e_X4_total_45, e_X4_total_48, e_X4_total_51, e_X4_total_53, e_X4_total_54, e_X4_total_57, e_X4_total_58, e_X4_total_59, e_X4_total_60, e_X4_total_62, e_X4_total_65, e_X4_total_68, e_X4_total_70, zcll_s, zpush_s, zpush_n, zinv_i, zinv_l, zinv_r, zinv_x, zcats_nil, zcats_i, zcats_l, zcats_r, zcats_x, Nat.le_refl, and_self, true_and, and_true, zok_1, zok_20, zok_21, eq_self, Nat.reduceAdd, Nat.reduceLeDiff, Nat.zero_le, if_true, if_false, zw3_id, if_pos, if_neg, zand_t]
    rfl
  | succ j ih =>
    intro k y h1 h2
    have hWk := hW k (by omega)
    unfold cTo
    have e1 : (k : Int) + 1 = ((k + 1 : Nat) : Int) := by omega
    rw [e_X4_total_17]
    by_cases h0 : W k = 0
    · rw [if_pos h0]
      rw [h0] at hWk
      simp (disch := omega) only [e_X4_total_0, e_X4_total_0x, e_X4_total_1, e_X4_total_2, e_X4_total_3, e_X4_total_6, e_X4_total_6x, e_X4_total_7, e_X4_total_10, e_X4_total_11, e_X4_total_12, e_X4_total_14, e_X4_total_15, e_X4_total_19, e_X4_total_20, e_X4_total_23, e_X4_total_23x, e_X4_total_24, e_X4_total_27, e_X4_total_29, e_X4_total_30, e_X4_total_31, e_X4_total_32, e_X4_total_35, e_X4_total_37, e_X4_total_37x, e_X4_total_38, e_X4_total_41, e_X4_total_43, e_X4_total_44, e_X4_total_44x, e_X4_total_45, e_X4_total_48, e_X4_total_51, e_X4_total_53, e_X4_total_54, e_X4_total_57, e_X4_total_58, e_X4_total_59, e_X4_total_60, e_X4_total_62, e_X4_total_65, e_X4_total_68, e_X4_total_70, zcll_s, zpush_s, zpush_n, zinv_i, zinv_l, zinv_r, zinv_x, zcats_nil, zcats_i, zcats_l, zcats_r, zcats_x, Nat.le_refl, and_self, true_and, and_true, zok_1, zok_20, zok_21, eq_self, Nat.reduceAdd, Nat.reduceLeDiff, Nat.zero_le, if_true, if_false, zw3_id, if_pos, if_neg, zand_t, tg_270, hp1, tp.1, Int.toNat_natCast, hWk, zcmpl_eq]
      rw [e1]
      exact ih (k + 1) _ (by omega) (by omega)
    · rw [if_neg h0]
      have q1 := k_valueIn (X := X) (d := d + 4) (c := c) (s := s) (L := L) hR hb hM hk (k : Int) v (by omega) (by omega) hv0 hv
      simp (disch := omega) only [e_X4_total_0, e_X4_total_0x, e_X4_total_1, e_X4_total_2, e_X4_total_3, e_X4_total_6, e_X4_total_6x, e_X4_total_7, e_X4_total_10, e_X4_total_11, e_X4_total_12, e_X4_total_14, e_X4_total_15, e_X4_total_19, e_X4_total_20, e_X4_total_23, e_X4_total_23x, e_X4_total_24, e_X4_total_27, e_X4_total_29, e_X4_total_30, e_X4_total_31, e_X4_total_32, e_X4_total_35, e_X4_total_37, e_X4_total_37x, e_X4_total_38, e_X4_total_41, e_X4_total_43, e_X4_total_44, e_X4_total_44x, e_X4_total_45, e_X4_total_48, e_X4_total_51, e_X4_total_53, e_X4_total_54, e_X4_total_57, e_X4_total_58, e_X4_total_59, e_X4_total_60, e_X4_total_62, e_X4_total_65, e_X4_total_68, e_X4_total_70, zcll_s, zpush_s, zpush_n, zinv_i, zinv_l, zinv_r, zinv_x, zcats_nil, zcats_i, zcats_l, zcats_r, zcats_x, Nat.le_refl, and_self, true_and, and_true, zok_1, zok_20, zok_21, eq_self, Nat.reduceAdd, Nat.reduceLeDiff, Nat.zero_le, if_true, if_false, zw3_id, if_pos, if_neg, zand_t, tg_134, tg_270, rr_270_0 hR, h2', tt.1, hp1, tp.1, Int.toNat_natCast, hWk, zcmpl_eq, q1]
      rw [e1]
      exact ih (k + 1) _ (by omega) (by omega)
theorem k_total (hSw : SwR R R1 p q) (hS : ClS I R1 b M) (v n : Int) (hv0 : 0 ≤ v) (hv : v < M.2.1.length) (hn0 : 0 ≤ n) (hn : n < 1000) : ∃ I1 L1 R2 p q, zrun X (d + 7) 40 [zr (some 270), zi v, zi n] (c, s, I, L, R1) = some (some (zl (cTo M v.toNat (cSteps M (-1) n.toNat (mW0 M)) (mN M) 0 0)), (c, s, I1, L1, R2)) ∧ SwR R R2 p q ∧ KR I L I1 L1 ∧ Tab I1 M := by
  obtain ⟨I1, L1, R2, p2, q2, r1, r2, r3, r4, r5⟩ := k_spread (X := X) (d := d) (c := c) (s := s) (L := L) hSw hS (-1) n (Or.inl rfl) hn0 hn
  have hS1 : ClS I1 R2 b M := by
    have a : SwR R1 R2 p2 q2 := ⟨r2.1, r2.2.1, r2.2.2.1, fun a k hh => by rw [r2.2.2.2 a k hh, hSw.2.2.2 a k hh]⟩
    exact SwR_S a (ClS_k hS r3.1 r4)
  have c1 := k_stateCount (X := X) (d := d + 5) (c := c) (s := s) (L := L1) hS1
  refine ⟨I1, L1, R2, p2, q2, st_X4_total ?_, r2, r3, r4⟩
  simp (disch := omega) only [e_X4_total_0, e_X4_total_0x, e_X4_total_1, e_X4_total_2, e_X4_total_3, e_X4_total_6, e_X4_total_6x, e_X4_total_7, e_X4_total_10, e_X4_total_11, e_X4_total_12, e_X4_total_14, e_X4_total_15, e_X4_total_19, e_X4_total_20, e_X4_total_23, e_X4_total_23x, e_X4_total_24, e_X4_total_27, e_X4_total_29, e_X4_total_30, e_X4_total_31, e_X4_total_32, e_X4_total_35, e_X4_total_37, e_X4_total_37x, e_X4_total_38, e_X4_total_41, e_X4_total_43, e_X4_total_44, e_X4_total_44x, e_X4_total_45, e_X4_total_48, e_X4_total_51, e_X4_total_53, e_X4_total_54, e_X4_total_57, e_X4_total_58, e_X4_total_59, e_X4_total_60, e_X4_total_62, e_X4_total_65, e_X4_total_68, e_X4_total_70, zcll_s, zpush_s, zpush_n, zinv_i, zinv_l, zinv_r, zinv_x, zcats_nil, zcats_i, zcats_l, zcats_r, zcats_x, Nat.le_refl, and_self, true_and, and_true, zok_1, zok_20, zok_21, eq_self, Nat.reduceAdd, Nat.reduceLeDiff, Nat.zero_le, if_true, if_false, zw3_id, if_pos, if_neg, zand_t, tg_270, r1, c1]
  exact q_total (X := X) (d := d + 1) r2 hS1 v n hv0 hv _ r5 (mN M) 0 0 (by omega) (by omega)
end
