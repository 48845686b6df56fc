/-! The class: its table. -/
section
variable {X : ZX} {d c s : Nat} {I L I1 L1 I2 L2 : ZI} {R : ZR} {call : ZC} {w b : Nat} {M : MD} {f : Nat → Int} {x t : Int}
noncomputable def mRu (M : MD) (st e : Int) : Int := mR M (mDe M.2.1 st) e
noncomputable def cellV (M : MD) (st e : Int) : Int := 16 * mS M st e + (if mRu M st e = -1 then 15 else mRu M st e)
def TabR (I : ZI) (M : MD) (st : Nat) : Prop := I 266 st ≠ 0 ∧ (∀ g : Nat, g < M.2.2.2.length → zand3 (zshr3 (I 266 st) (g : Int)) 1 = zB (mGoal M g (st : Int))) ∧ ∀ e : Int, 0 ≤ e → e < M.1 → I 337 ((st : Int) * M.1 + e).toNat = cellV M (st : Int) e
def Tab (I : ZI) (M : MD) : Prop := ∀ st, st < mN M → I 266 st = 0 ∨ TabR I M st
def KT (I I1 : ZI) : Prop := ∀ a, a ≠ 266 → a ≠ 267 → a ≠ 268 → a ≠ 337 → I1 a = I a
theorem KT_r : KT I I := fun _ _ _ _ _ => rfl
theorem KT_t (h1 : KT I I1) (h2 : KT I1 I2) : KT I I2 := fun a h3 h4 h5 h6 => (h2 a h3 h4 h5 h6).trans (h1 a h3 h4 h5 h6)
/-- the class with a model -/
def ClS (I : ZI) (R : ZR) (b : Nat) (M : MD) : Prop := Rok R ∧ (b = 4 ∨ b = 135) ∧ R 0 8 = some b ∧ R 134 0 = some b ∧ R 134 1 = some 337 ∧ ClM I b M ∧ MOK M ∧ Tab I M
theorem ClM_k (hb : b = 4 ∨ b = 135) (hk : MOK M) (h : KT I I1) (hM : ClM I b M) : ClM I1 b M := ClM_c hk (fun a h1 h2 => h a (by omega) (by omega) (by omega) (by omega)) hM
theorem ClS_k (h : ClS I R b M) (hK : KT I I1) (hT : Tab I1 M) : ClS I1 R b M := ⟨h.1, h.2.1, h.2.2.1, h.2.2.2.1, h.2.2.2.2.1, ClM_k h.2.1 h.2.2.2.2.2.2.1 hK h.2.2.2.2.2.1, h.2.2.2.2.2.2.1, hT⟩
theorem k_isNoState (h : ClS I R b M) (st : Int) : zrun X (d + 1) 60 [zr (some 134), zi st] (c, s, I, L, R) = some (some (zi (zB (¬ (0 ≤ st ∧ st < mPr M.2.1)))), (c, s, I, L, R)) := by
  refine st_X7_isNoState ?_
  obtain ⟨hR, hb, h1, h2, h3, hM, hk, hT⟩ := h
  have tt := tt_model hb
  have hp := hk.2.2.2.1
  have h4 := hM.2.2.2.2.1
  by_cases q0 : st < 0
  · rw [zB_t (by omega)]
    simp (disch := omega) only [e_X7_isNoState_0, e_X7_isNoState_1, e_X7_isNoState_4, e_X7_isNoState_5, e_X7_isNoState_5x, e_X7_isNoState_6, e_X7_isNoState_9, e_X7_isNoState_12, e_X7_isNoState_15, e_X7_isNoState_16, e_X7_isNoState_19, e_X7_isNoState_22, e_X7_isNoState_23, e_X7_isNoState_26, e_X7_isNoState_27, zcll_s, zpush_s, zpush_n, zinv_i, zinv_l, zinv_r, zinv_x, zcats_nil, zcats_i, zcats_l, zcats_r, zcats_x, Nat.le_refl, and_self, true_and, and_true, zok_1, zok_20, zok_21, eq_self, Nat.reduceAdd, Nat.reduceLeDiff, Nat.zero_le, if_true, if_false, zw3_id, if_pos, if_neg, zand_t, tg_134, h2, tt.1, h4]
  · by_cases q1 : mPr M.2.1 ≤ st
    · rw [zB_t (by omega)]
      simp (disch := omega) only [e_X7_isNoState_0, e_X7_isNoState_1, e_X7_isNoState_4, e_X7_isNoState_5, e_X7_isNoState_5x, e_X7_isNoState_6, e_X7_isNoState_9, e_X7_isNoState_12, e_X7_isNoState_15, e_X7_isNoState_16, e_X7_isNoState_19, e_X7_isNoState_22, e_X7_isNoState_23, e_X7_isNoState_26, e_X7_isNoState_27, zcll_s, zpush_s, zpush_n, zinv_i, zinv_l, zinv_r, zinv_x, zcats_nil, zcats_i, zcats_l, zcats_r, zcats_x, Nat.le_refl, and_self, true_and, and_true, zok_1, zok_20, zok_21, eq_self, Nat.reduceAdd, Nat.reduceLeDiff, Nat.zero_le, if_true, if_false, zw3_id, if_pos, if_neg, zand_t, tg_134, h2, tt.1, h4]
    · rw [zB_f (by omega)]
      simp (disch := omega) only [e_X7_isNoState_0, e_X7_isNoState_1, e_X7_isNoState_4, e_X7_isNoState_5, e_X7_isNoState_5x, e_X7_isNoState_6, e_X7_isNoState_9, e_X7_isNoState_12, e_X7_isNoState_15, e_X7_isNoState_16, e_X7_isNoState_19, e_X7_isNoState_22, e_X7_isNoState_23, e_X7_isNoState_26, e_X7_isNoState_27, zcll_s, zpush_s, zpush_n, zinv_i, zinv_l, zinv_r, zinv_x, zcats_nil, zcats_i, zcats_l, zcats_r, zcats_x, Nat.le_refl, and_self, true_and, and_true, zok_1, zok_20, zok_21, eq_self, Nat.reduceAdd, Nat.reduceLeDiff, Nat.zero_le, if_true, if_false, zw3_id, if_pos, if_neg, zand_t, tg_134, h2, tt.1, h4]
theorem k_firstState (h : ClS I R b M) : zrun X (d + 2) 55 [zr (some 134)] (c, s, I, L, R) = some (some (zi (mS0 M)), (c, s, I, L, R)) := by
  refine st_X7_firstState ?_
  obtain ⟨hR, hb, h1, h2, h3, hM, hk, hT⟩ := h
  have tt := tt_model hb
  have rr := rr_model hR hb
  have e : ∀ v, v < M.2.1.length → I (b + 2) v = mf M.2.1 v := fun v hv => (ClM_v hM hv).2
  have hi : mIn M.2.1 (I (b + 2)) 0 := by
    intro v hv
    rw [Nat.zero_add, e v hv]
    unfold mf mg
    have := hk.2.2.1 _ (zgetDl (y := (([], 0, 0) : MV)) hv).1
    omega
  have q := k_stateOf (X := X) (d := d) (c := c) (s := s) (L := L) hR hb hM hk tt.2.2.1 hi
  rw [mEn_c (w := mf M.2.1) (fun v hv => by rw [Nat.zero_add]; exact e v hv)] at q
  simp (disch := omega) only [e_X7_firstState_0, e_X7_firstState_0x, e_X7_firstState_1, e_X7_firstState_4, e_X7_firstState_4x, e_X7_firstState_5, e_X7_firstState_8, e_X7_firstState_11, e_X7_firstState_14, zcll_s, zpush_s, zpush_n, zinv_i, zinv_l, zinv_r, zinv_x, zcats_nil, zcats_i, zcats_l, zcats_r, zcats_x, Nat.le_refl, and_self, true_and, and_true, zok_1, zok_20, zok_21, eq_self, Nat.reduceAdd, Nat.reduceLeDiff, Nat.zero_le, if_true, if_false, zw3_id, if_pos, if_neg, zand_t, tg_134, h2, tt.1, rr.2.1, q]
  rfl
theorem q_fill (h3 : R 134 1 = some 337) (fr e y : Int) (he : e ≤ 20000) {Q : Option ZV × ZS → Prop} : ∀ (j : Nat) (k : Int) (g : Nat → Int), (e - k).toNat = j → 0 ≤ k → (∀ i : Nat, (i : Int) < k → g i = if fr ≤ (i : Int) ∧ (i : Int) < e then y else I 337 i) → (∀ i : Nat, k ≤ (i : Int) → g i = I 337 i) → fr ≤ k → (∀ g, (∀ i : Nat, g i = if fr ≤ (i : Int) ∧ (i : Int) < e then y else I 337 i) → Q (none, (c, s, zW I 337 g, L, R))) → V X call mX7_fill 3 [zr (some 134), zi fr, zi e, zi y, zi k] [] (c, s, zW I 337 g, L, R) Q := by
  intro j
  induction j with
  | zero =>
    intro k g h1 h2 hg1 hg2 h4 hQ
    rw [e_X7_fill_3]
    simp (disch := omega) only [e_X7_fill_0, e_X7_fill_1, e_X7_fill_5, e_X7_fill_6, e_X7_fill_9, e_X7_fill_11, e_X7_fill_11x, e_X7_fill_12, e_X7_fill_15, e_X7_fill_16, e_X7_fill_19, e_X7_fill_19x, e_X7_fill_20, e_X7_fill_23, e_X7_fill_25, e_X7_fill_26, e_X7_fill_27, e_X7_fill_30, e_X7_fill_33, zcll_s, zpush_s, zpush_n, zinv_i, zinv_l, zinv_r, zinv_x, zcats_nil, zcats_i, zcats_l, zcats_r, zcats_x, Nat.le_refl, and_self, true_and, and_true, zok_1, zok_20, zok_21, eq_self, Nat.reduceAdd, Nat.reduceLeDiff, Nat.zero_le, if_true, if_false, zw3_id, if_pos, if_neg, zand_t, tg_134]
    refine hQ g (fun i => ?_)
    by_cases q : (i : Int) < k
    · exact hg1 i q
    · rw [hg2 i (by omega), if_neg (by omega)]
  | succ j ih =>
    intro k g h1 h2 hg1 hg2 h4 hQ
    rw [e_X7_fill_3]
    simp (disch := omega) only [e_X7_fill_0, e_X7_fill_1, e_X7_fill_5, e_X7_fill_6, e_X7_fill_9, e_X7_fill_11, e_X7_fill_11x, e_X7_fill_12, e_X7_fill_15, e_X7_fill_16, e_X7_fill_19, e_X7_fill_19x, e_X7_fill_20, e_X7_fill_23, e_X7_fill_25, e_X7_fill_26, e_X7_fill_27, e_X7_fill_30, e_X7_fill_33, zcll_s, zpush_s, zpush_n, zinv_i, zinv_l, zinv_r, zinv_x, zcats_nil, zcats_i, zcats_l, zcats_r, zcats_x, Nat.le_refl, and_self, true_and, and_true, zok_1, zok_20, zok_21, eq_self, Nat.reduceAdd, Nat.reduceLeDiff, Nat.zero_le, if_true, if_false, zw3_id, if_pos, if_neg, zand_t, tg_134, tg_337, tn_337, h3, zW_s, zu_W, zW_W]
    refine ih (k + 1) _ (by omega) (by omega) ?_ ?_ (by omega) hQ
    · intro i hi
      by_cases q : i = k.toNat
      · rw [if_pos q, if_pos (by omega)]
      · rw [if_neg q]
        exact hg1 i (by omega)
    · intro i hi
      rw [if_neg (by omega)]
      exact hg2 i (by omega)
theorem k_fill (h3 : R 134 1 = some 337) (fr e y : Int) (h0 : 0 ≤ fr) (he : e ≤ 20000) : ∃ g, zrun X (d + 1) 63 [zr (some 134), zi fr, zi e, zi y] (c, s, I, L, R) = some (none, (c, s, zW I 337 g, L, R)) ∧ ∀ i : Nat, g i = if fr ≤ (i : Int) ∧ (i : Int) < e then y else I 337 i := by
  have p := sx_X7_fill (X := X) (d := d) (u0 := some 134) (x1 := fr) (x2 := e) (x3 := y) (σ := (c, s, I, L, R)) (P := fun q => ∃ g, q = (none, (c, s, zW I 337 g, L, R)) ∧ ∀ i : Nat, g i = if fr ≤ (i : Int) ∧ (i : Int) < e then y else I 337 i) ?_
  · obtain ⟨r, q1, g, q2, q3⟩ := p
    exact ⟨g, by rw [q1, q2], q3⟩
  · simp (disch := omega) only [e_X7_fill_0, e_X7_fill_1, e_X7_fill_5, e_X7_fill_6, e_X7_fill_9, e_X7_fill_11, e_X7_fill_11x, e_X7_fill_12, e_X7_fill_15, e_X7_fill_16, e_X7_fill_19, e_X7_fill_19x, e_X7_fill_20, e_X7_fill_23, e_X7_fill_25, e_X7_fill_26, e_X7_fill_27, e_X7_fill_30, e_X7_fill_33, zcll_s, zpush_s, zpush_n, zinv_i, zinv_l, zinv_r, zinv_x, zcats_nil, zcats_i, zcats_l, zcats_r, zcats_x, Nat.le_refl, and_self, true_and, and_true, zok_1, zok_20, zok_21, eq_self, Nat.reduceAdd, Nat.reduceLeDiff, Nat.zero_le, if_true, if_false, zw3_id, if_pos, if_neg, zand_t]
    have p := q_fill (X := X) (call := zrun X d) (c := c) (s := s) (I := I) (L := L) (Q := fun q => ∃ g, q = (none, (c, s, zW I 337 g, L, R)) ∧ ∀ i : Nat, g i = if fr ≤ (i : Int) ∧ (i : Int) < e then y else I 337 i) h3 fr e y he _ fr (I 337) rfl h0 (fun i hi => by rw [if_neg (by omega)]) (fun i hi => rfl) (by omega) (fun g hg => ⟨g, rfl, hg⟩)
    rw [zW_id] at p
    exact p
theorem q_markGoals (hR : Rok R) (hb : b = 4 ∨ b = 135) (h2 : R 134 0 = some b) (hM : ClM I b M) (hk : MOK M) (st : Int) (hs0 : 0 ≤ st) (hs1 : st < 1000) {Q : Option ZV × ZS → Prop} : ∀ (l : List (List TT)) (j m : Nat), M.2.2.2.drop j = l → j ≤ M.2.2.2.length → 16 ≤ m → m < 32 → (∀ g : Nat, g < 4 → zand3 (zshr3 (m : Int) (g : Int)) 1 = if g < j then zB (mAll (I 267) (M.2.2.2.getD g [])) else 0) → (∀ m : Nat, 16 ≤ m → (∀ g, g < M.2.2.2.length → zand3 (zshr3 (m : Int) (g : Int)) 1 = zB (mAll (I 267) (M.2.2.2.getD g []))) → Q (none, (c, s, zu I 266 st.toNat (m : Int), L, R))) → V X (zrun X (d + 1)) mX7_markGoals 5 [zr (some 134), zi st, zi (m : Int), zi (j : Int)] [] (c, s, I, L, R) Q := by
  intro l
  have rr := rr_model hR hb
  have tt := tt_model hb
  have hg4 := hk.2.2.2.2.2.2.1
  have h3' := hM.2.2.2.1
  induction l with
  | nil =>
    intro j m h1 hj hm0 hm1 hm hQ
    have e := zdropn h1 hj
    rw [e_X7_markGoals_5]
    simp (disch := omega) only [e_X7_markGoals_0, e_X7_markGoals_2, e_X7_markGoals_3, e_X7_markGoals_4, e_X7_markGoals_6, e_X7_markGoals_6x, e_X7_markGoals_7, e_X7_markGoals_10, e_X7_markGoals_13, e_X7_markGoals_16, e_X7_markGoals_17, e_X7_markGoals_18, e_X7_markGoals_21, e_X7_markGoals_21x, e_X7_markGoals_22, e_X7_markGoals_25, e_X7_markGoals_28, e_X7_markGoals_29, e_X7_markGoals_30, e_X7_markGoals_30x, e_X7_markGoals_31, e_X7_markGoals_34, e_X7_markGoals_37, e_X7_markGoals_40, e_X7_markGoals_41, e_X7_markGoals_42, e_X7_markGoals_43, e_X7_markGoals_44, e_X7_markGoals_45, e_X7_markGoals_46, e_X7_markGoals_49, e_X7_markGoals_52, e_X7_markGoals_52x, e_X7_markGoals_53, e_X7_markGoals_56, e_X7_markGoals_57, e_X7_markGoals_58, e_X7_markGoals_59, zcll_s, zpush_s, zpush_n, zinv_i, zinv_l, zinv_r, zinv_x, zcats_nil, zcats_i, zcats_l, zcats_r, zcats_x, Nat.le_refl, and_self, true_and, and_true, zok_1, zok_20, zok_21, eq_self, Nat.reduceAdd, Nat.reduceLeDiff, Nat.zero_le, if_true, if_false, zw3_id, if_pos, if_neg, zand_t, tg_134, tg_266, tn_266, rr_134_2 hR, h2, tt.1, h3']
    refine hQ m hm0 (fun g hg => ?_)
    rw [hm g (by omega), if_pos (by omega)]
  | cons y l ih =>
    intro j m h1 hj hm0 hm1 hm hQ
    obtain ⟨k1, k2, k3, k4⟩ := zdrop h1
    have hy := hM.2.2.2.2.2.2.2 j y k2
    have hyk := TOK_4 hk.2.1.2 (hk.2.2.2.2.2.2.2 y k4)
    have hj4 : j < 4 := by omega
    have q := k_allHold (X := X) (d := d) (c := c) (s := s) (L := L) hR (zTm_g hb hj4) hy hyk (va := 267) (by decide +kernel)
    have tz := tt_terms (zTm_g hb hj4)
    have rg := rr_goal hR hb hj4
    have eD : M.2.2.2.getD j [] = y := zgetD k2
    rw [e_X7_markGoals_5]
    by_cases hA : mAll (I 267) y
    · rw [zB_t hA] at q
      obtain ⟨n, n1, n2, n3, n4⟩ := bit_mark0 m hm1 j hj4
      simp (disch := omega) only [e_X7_markGoals_0, e_X7_markGoals_2, e_X7_markGoals_3, e_X7_markGoals_4, e_X7_markGoals_6, e_X7_markGoals_6x, e_X7_markGoals_7, e_X7_markGoals_10, e_X7_markGoals_13, e_X7_markGoals_16, e_X7_markGoals_17, e_X7_markGoals_18, e_X7_markGoals_21, e_X7_markGoals_21x, e_X7_markGoals_22, e_X7_markGoals_25, e_X7_markGoals_28, e_X7_markGoals_29, e_X7_markGoals_30, e_X7_markGoals_30x, e_X7_markGoals_31, e_X7_markGoals_34, e_X7_markGoals_37, e_X7_markGoals_40, e_X7_markGoals_41, e_X7_markGoals_42, e_X7_markGoals_43, e_X7_markGoals_44, e_X7_markGoals_45, e_X7_markGoals_46, e_X7_markGoals_49, e_X7_markGoals_52, e_X7_markGoals_52x, e_X7_markGoals_53, e_X7_markGoals_56, e_X7_markGoals_57, e_X7_markGoals_58, e_X7_markGoals_59, zcll_s, zpush_s, zpush_n, zinv_i, zinv_l, zinv_r, zinv_x, zcats_nil, zcats_i, zcats_l, zcats_r, zcats_x, Nat.le_refl, and_self, true_and, and_true, zok_1, zok_20, zok_21, eq_self, Nat.reduceAdd, Nat.reduceLeDiff, Nat.zero_le, if_true, if_false, zw3_id, if_pos, if_neg, zand_t, tg_134, tg_267, tn_267, rr_134_3 hR, h2, tt.1, tt.2.2.2.2.1, rr.2.2.2.1, h3', Int.toNat_natCast, rg, tz.1, q, n3]
      rw [show (j : Int) + 1 = ((j + 1 : Nat) : Int) by omega]
      refine ih (j + 1) n k3 (by omega) (n2 hm0) n1 ?_ hQ
      intro g hg
      rw [n4 g hg]
      by_cases e1 : g = j
      · rw [if_pos e1, if_pos (by omega), e1, eD, zB_t hA]
      · rw [if_neg e1, hm g hg]
        by_cases e2 : g < j
        · rw [if_pos e2, if_pos (by omega)]
        · rw [if_neg e2, if_neg (by omega)]
    · rw [zB_f hA] at q
      simp (disch := omega) only [e_X7_markGoals_0, e_X7_markGoals_2, e_X7_markGoals_3, e_X7_markGoals_4, e_X7_markGoals_6, e_X7_markGoals_6x, e_X7_markGoals_7, e_X7_markGoals_10, e_X7_markGoals_13, e_X7_markGoals_16, e_X7_markGoals_17, e_X7_markGoals_18, e_X7_markGoals_21, e_X7_markGoals_21x, e_X7_markGoals_22, e_X7_markGoals_25, e_X7_markGoals_28, e_X7_markGoals_29, e_X7_markGoals_30, e_X7_markGoals_30x, e_X7_markGoals_31, e_X7_markGoals_34, e_X7_markGoals_37, e_X7_markGoals_40, e_X7_markGoals_41, e_X7_markGoals_42, e_X7_markGoals_43, e_X7_markGoals_44, e_X7_markGoals_45, e_X7_markGoals_46, e_X7_markGoals_49, e_X7_markGoals_52, e_X7_markGoals_52x, e_X7_markGoals_53, e_X7_markGoals_56, e_X7_markGoals_57, e_X7_markGoals_58, e_X7_markGoals_59, zcll_s, zpush_s, zpush_n, zinv_i, zinv_l, zinv_r, zinv_x, zcats_nil, zcats_i, zcats_l, zcats_r, zcats_x, Nat.le_refl, and_self, true_and, and_true, zok_1, zok_20, zok_21, eq_self, Nat.reduceAdd, Nat.reduceLeDiff, Nat.zero_le, if_true, if_false, zw3_id, if_pos, if_neg, zand_t, tg_134, tg_267, tn_267, rr_134_3 hR, h2, tt.1, tt.2.2.2.2.1, rr.2.2.2.1, h3', Int.toNat_natCast, rg, tz.1, q]
      rw [show (j : Int) + 1 = ((j + 1 : Nat) : Int) by omega]
      refine ih (j + 1) m k3 (by omega) hm0 hm1 ?_ hQ
      intro g hg
      rw [hm g hg]
      by_cases e1 : g = j
      · rw [if_neg (by omega), if_pos (by omega), e1, eD, zB_f hA]
      · by_cases e2 : g < j
        · rw [if_pos e2, if_pos (by omega)]
        · rw [if_neg e2, if_neg (by omega)]
theorem k_markGoals (hR : Rok R) (hb : b = 4 ∨ b = 135) (h2 : R 134 0 = some b) (hM : ClM I b M) (hk : MOK M) (st : Int) (hs0 : 0 ≤ st) (hs1 : st < 1000) : ∃ m : Nat, zrun X (d + 2) 62 [zr (some 134), zi st] (c, s, I, L, R) = some (none, (c, s, zu I 266 st.toNat (m : Int), L, R)) ∧ 16 ≤ m ∧ ∀ g, g < M.2.2.2.length → zand3 (zshr3 (m : Int) (g : Int)) 1 = zB (mAll (I 267) (M.2.2.2.getD g [])) := by
  have p := sx_X7_markGoals (X := X) (d := d + 1) (u0 := some 134) (x1 := st) (σ := (c, s, I, L, R)) (P := fun q => ∃ m : Nat, q = (none, (c, s, zu I 266 st.toNat (m : Int), L, R)) ∧ 16 ≤ m ∧ ∀ g, g < M.2.2.2.length → zand3 (zshr3 (m : Int) (g : Int)) 1 = zB (mAll (I 267) (M.2.2.2.getD g []))) ?_
  · obtain ⟨r, q1, m, q2, q3⟩ := p
    exact ⟨m, by rw [q1, q2], q3⟩
  · simp (disch := omega) only [e_X7_markGoals_0, e_X7_markGoals_2, e_X7_markGoals_3, e_X7_markGoals_4, e_X7_markGoals_6, e_X7_markGoals_6x, e_X7_markGoals_7, e_X7_markGoals_10, e_X7_markGoals_13, e_X7_markGoals_16, e_X7_markGoals_17, e_X7_markGoals_18, e_X7_markGoals_21, e_X7_markGoals_21x, e_X7_markGoals_22, e_X7_markGoals_25, e_X7_markGoals_28, e_X7_markGoals_29, e_X7_markGoals_30, e_X7_markGoals_30x, e_X7_markGoals_31, e_X7_markGoals_34, e_X7_markGoals_37, e_X7_markGoals_40, e_X7_markGoals_41, e_X7_markGoals_42, e_X7_markGoals_43, e_X7_markGoals_44, e_X7_markGoals_45, e_X7_markGoals_46, e_X7_markGoals_49, e_X7_markGoals_52, e_X7_markGoals_52x, e_X7_markGoals_53, e_X7_markGoals_56, e_X7_markGoals_57, e_X7_markGoals_58, e_X7_markGoals_59, zcll_s, zpush_s, zpush_n, zinv_i, zinv_l, zinv_r, zinv_x, zcats_nil, zcats_i, zcats_l, zcats_r, zcats_x, Nat.le_refl, and_self, true_and, and_true, zok_1, zok_20, zok_21, eq_self, Nat.reduceAdd, Nat.reduceLeDiff, Nat.zero_le, if_true, if_false, zw3_id, if_pos, if_neg, zand_t]
    exact q_markGoals (X := X) (d := d) hR hb h2 hM hk st hs0 hs1 M.2.2.2 0 16 rfl (by omega) (by omega) (by omega) (fun g hg => by rw [if_neg (by omega)]; exact bit_mark1 g hg) (fun m q1 q2 => ⟨m, rfl, q1, q2⟩)
theorem zcpy_W : zcpy I 267 0 268 0 4 = zW I 268 (fun k => if k < 4 then I 267 k else I 268 k) := by
  funext a k
  unfold zcpy zW
  by_cases ha : a = 268
  · subst ha
    by_cases hk : k < 4
    · rw [if_pos ⟨rfl, by omega, by omega⟩, if_pos rfl]
      show I 267 (0 + (k - 0)) = if k < 4 then I 267 k else I 268 k
      rw [if_pos hk, Nat.zero_add, Nat.sub_zero]
    · rw [if_neg (fun q => hk (by omega)), if_pos rfl]
      show I 268 k = if k < 4 then I 267 k else I 268 k
      rw [if_neg hk]
  · rw [if_neg (fun q => ha q.1), if_neg ha]
theorem mRu_r (hk : MOK M) {st e : Int} : mRu M st e = -1 ∨ (0 ≤ mRu M st e ∧ mRu M st e < M.2.2.1.length) := mR_r hk _ _
theorem cellV_g (hk : MOK M) {st e : Int} (h0 : 0 ≤ st) : zshr3 (cellV M st e) 4 = mS M st e ∧ zand3 (cellV M st e) 15 = (if mRu M st e = -1 then 15 else mRu M st e) := by
  have h1 := mS_in (M := M) hk.2.2.1 (d := e) h0
  have h2 := mRu_r hk (st := st) (e := e)
  have h3 := hk.2.2.2.1
  have h4 := hk.2.2.2.2.1
  unfold cellV
  have h5 := cell_mk (x := mS M st e) (r := if mRu M st e = -1 then 15 else mRu M st e) h1.1 (by omega) (by split <;> omega) (by split <;> omega)
  exact ⟨h5.2.1, h5.2.2⟩
theorem mRu_s {st e r : Int} (h : mRu M st e = r) : mS M st e = mEn M.2.1 (mV M (mDe M.2.1 st) r) 0 := by
  unfold mRu at h
  unfold mS
  rw [h]
theorem mEn_De (hk : MOK M) {st : Int} (h0 : 0 ≤ st) (h1 : st < mPr M.2.1) : mEn M.2.1 (mDe M.2.1 st) 0 = st := mEn_mDe hk.2.2.1 (fun v _ => by rw [Nat.zero_add]) h0 h1
end
