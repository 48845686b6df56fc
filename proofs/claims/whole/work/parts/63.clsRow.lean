/-! The class: a row of its table; a walk. -/
section
variable {X : ZX} {d c s : Nat} {I L I1 L1 I2 L2 : ZI} {R : ZR} {call : ZC} {w b : Nat} {M : MD} {f : Nat → Int} {x t : Int}
theorem rowP (hk : MOK M) {st : Int} (h0 : 0 ≤ st) (h1 : st < mPr M.2.1) : 0 ≤ st * M.1 ∧ st * M.1 + M.1 ≤ 20000 := by
  have hp := hk.2.2.2.1
  have hl := hk.1
  have a := Int.mul_nonneg h0 (show 0 ≤ M.1 by omega)
  have q := Int.mul_le_mul (show st + 1 ≤ 1000 by omega) hl.2 (by omega) (by omega)
  rw [Int.add_mul, Int.one_mul] at q
  omega
theorem q_makeRow (hR : Rok R) (hb : b = 4 ∨ b = 135) (h2 : R 134 0 = some b) (h3 : R 134 1 = some 337) (hM : ClM I b M) (hk : MOK M) (st P : Int) (hN : Now M (I 267) st) (hP : st * M.1 = P) (hP0 : 0 ≤ P) (hP1 : P + M.1 ≤ 20000) {Q : Option ZV × ZS → Prop} (hQ : ∀ I2, (∀ a, a ≠ 268 → a ≠ 337 → I2 a = I a) → (∀ e : Int, 0 ≤ e → e < M.1 → I2 337 (P + e).toNat = cellV M st e) → (∀ k : Nat, (k : Int) < P ∨ P + M.1 ≤ (k : Int) → I2 337 k = I 337 k) → Q (none, (c, s, I2, L, R))) : ∀ (l : List MR) (r : Nat) (o : Int) (I1 : ZI) (v5 v6 : ZV), M.2.2.1.drop r = l → r ≤ M.2.2.1.length → 0 ≤ o → o ≤ M.1 → (∀ a, a ≠ 268 → a ≠ 337 → I1 a = I a) → (∀ e : Int, 0 ≤ e → e < o → I1 337 (P + e).toNat = cellV M st e) → (∀ k : Nat, (k : Int) < P ∨ P + M.1 ≤ (k : Int) → I1 337 k = I 337 k) → (∀ e : Int, o ≤ e → e < M.1 → mRu M st e = mRul (mDe M.2.1 st) l (e - o) r) → V X (zrun X (d + 1)) mX7_makeRow 40 [zr (some 134), zi st, zi (P + o), zi (P + M.1), zi (r : Int), v5, v6] [] (c, s, I1, L, R) Q := by
  intro l
  have rr := rr_model hR hb
  have tt := tt_model hb
  have hl := hk.1
  have hn := hk.2.2.2.2.1
  have hp := hk.2.2.2.1
  have hn4 := hk.2.1
  have hst := hN.2
  have fin : ∀ (r : Nat) (o : Int) (I1 : ZI) (v5 v6 : ZV), 0 ≤ o → o ≤ M.1 → (∀ a, a ≠ 268 → a ≠ 337 → I1 a = I a) → (∀ e : Int, 0 ≤ e → e < o → I1 337 (P + e).toNat = cellV M st e) → (∀ k : Nat, (k : Int) < P ∨ P + M.1 ≤ (k : Int) → I1 337 k = I 337 k) → (∀ e : Int, o ≤ e → e < M.1 → mRu M st e = -1) → V X (zrun X (d + 1)) mX7_makeRow 169 [zr (some 134), zi st, zi (P + o), zi (P + M.1), zi (r : Int), v5, v6] [] (c, s, I1, L, R) Q := by
    intro r o I1 v5 v6 ho0 ho1 hfr hc hout hru
    have cm := (cell_mk (x := st) (r := 15) hst.1 (by omega) (by omega) (by omega)).1
    obtain ⟨g, g1, g2⟩ := k_fill (X := X) (d := d) (c := c) (s := s) (I := I1) (L := L) h3 (P + o) (P + M.1) (16 * st + 15) (by omega) (by omega)
    rw [e_X7_makeRow_169]
    simp (disch := omega) only [e_X7_makeRow_0, e_X7_makeRow_0x, e_X7_makeRow_1, e_X7_makeRow_4, e_X7_makeRow_5, e_X7_makeRow_5x, e_X7_makeRow_6, e_X7_makeRow_9, e_X7_makeRow_12, e_X7_makeRow_12x, e_X7_makeRow_13, e_X7_makeRow_14, e_X7_makeRow_17, e_X7_makeRow_18, e_X7_makeRow_18x, e_X7_makeRow_19, e_X7_makeRow_22, e_X7_makeRow_25, e_X7_makeRow_26, e_X7_makeRow_27, e_X7_makeRow_28, e_X7_makeRow_28x, e_X7_makeRow_29, e_X7_makeRow_32, e_X7_makeRow_35, e_X7_makeRow_36, e_X7_makeRow_37, e_X7_makeRow_38, e_X7_makeRow_42, e_X7_makeRow_42x, e_X7_makeRow_43, e_X7_makeRow_46, e_X7_makeRow_49, e_X7_makeRow_52, e_X7_makeRow_54, e_X7_makeRow_56, e_X7_makeRow_59, e_X7_makeRow_60, e_X7_makeRow_61, e_X7_makeRow_64, e_X7_makeRow_64x, e_X7_makeRow_65, e_X7_makeRow_68, e_X7_makeRow_71, e_X7_makeRow_73, e_X7_makeRow_74, e_X7_makeRow_76, e_X7_makeRow_76x, e_X7_makeRow_78, e_X7_makeRow_81, e_X7_makeRow_81x, e_X7_makeRow_82, e_X7_makeRow_85, e_X7_makeRow_88, e_X7_makeRow_91, e_X7_makeRow_91x, e_X7_makeRow_92, e_X7_makeRow_95, e_X7_makeRow_96, e_X7_makeRow_96x, e_X7_makeRow_97, e_X7_makeRow_100, e_X7_makeRow_101, e_X7_makeRow_102, e_X7_makeRow_105, e_X7_makeRow_105x, e_X7_makeRow_107, e_X7_makeRow_110, e_X7_makeRow_110x, e_X7_makeRow_111, e_X7_makeRow_114, e_X7_makeRow_114x, e_X7_makeRow_115, e_X7_makeRow_118, e_X7_makeRow_121, e_X7_makeRow_124, e_X7_makeRow_125, e_X7_makeRow_125x, e_X7_makeRow_127, e_X7_makeRow_130, e_X7_makeRow_131, e_X7_makeRow_132, e_X7_makeRow_135, e_X7_makeRow_137, e_X7_makeRow_137x, e_X7_makeRow_138, e_X7_makeRow_139, e_X7_makeRow_141, e_X7_makeRow_141x, e_X7_makeRow_142, e_X7_makeRow_145, e_X7_makeRow_145x, e_X7_makeRow_146, e_X7_makeRow_149, e_X7_makeRow_152, e_X7_makeRow_153, e_X7_makeRow_154, e_X7_makeRow_156, e_X7_makeRow_157, e_X7_makeRow_160, e_X7_makeRow_162, e_X7_makeRow_163, e_X7_makeRow_166, e_X7_makeRow_170, e_X7_makeRow_171, e_X7_makeRow_172, e_X7_makeRow_173, e_X7_makeRow_174, e_X7_makeRow_175, e_X7_makeRow_177, e_X7_makeRow_178, e_X7_makeRow_181, zcll_s, zpush_s, zpush_n, zinv_i, zinv_l, zinv_r, zinv_x, zcats_nil, zcats_i, zcats_l, zcats_r, zcats_x, Nat.le_refl, and_self, true_and, and_true, zok_1, zok_20, zok_21, eq_self, Nat.reduceAdd, Nat.reduceLeDiff, Nat.zero_le, if_true, if_false, zw3_id, if_pos, if_neg, zand_t, tg_134, cm, g1]
    refine hQ _ (fun a ha hb => by rw [zW_n hb]; exact hfr a ha hb) ?_ ?_
    · intro e he0 he1
      rw [zW_s, g2]
      by_cases q : o ≤ e
      · rw [if_pos (by omega)]
        unfold cellV
        rw [hru e q he1, if_pos rfl, mRu_s (hru e q he1)]
        unfold mV
        rw [if_pos rfl, mEn_De hk hst.1 hst.2]
      · rw [if_neg (by omega)]
        exact hc e he0 (by omega)
    · intro k hk
      rw [zW_s, g2, if_neg (by omega)]
      exact hout k hk
  induction l with
  | nil =>
    intro r o I1 v5 v6 h1 hr ho0 ho1 hfr hc hout hru
    have e := zdropn h1 hr
    have eb2 : I1 b 2 = M.2.2.1.length := by rw [hfr b (by omega) (by omega)]; exact hM.2.2.1
    have := fin r o I1 v5 v6 ho0 ho1 hfr hc hout (fun e q1 q2 => by rw [hru e q1 q2]; rfl)
    rw [e_X7_makeRow_40]
    simp (disch := omega) only [e_X7_makeRow_0, e_X7_makeRow_0x, e_X7_makeRow_1, e_X7_makeRow_4, e_X7_makeRow_5, e_X7_makeRow_5x, e_X7_makeRow_6, e_X7_makeRow_9, e_X7_makeRow_12, e_X7_makeRow_12x, e_X7_makeRow_13, e_X7_makeRow_14, e_X7_makeRow_17, e_X7_makeRow_18, e_X7_makeRow_18x, e_X7_makeRow_19, e_X7_makeRow_22, e_X7_makeRow_25, e_X7_makeRow_26, e_X7_makeRow_27, e_X7_makeRow_28, e_X7_makeRow_28x, e_X7_makeRow_29, e_X7_makeRow_32, e_X7_makeRow_35, e_X7_makeRow_36, e_X7_makeRow_37, e_X7_makeRow_38, e_X7_makeRow_42, e_X7_makeRow_42x, e_X7_makeRow_43, e_X7_makeRow_46, e_X7_makeRow_49, e_X7_makeRow_52, e_X7_makeRow_54, e_X7_makeRow_56, e_X7_makeRow_59, e_X7_makeRow_60, e_X7_makeRow_61, e_X7_makeRow_64, e_X7_makeRow_64x, e_X7_makeRow_65, e_X7_makeRow_68, e_X7_makeRow_71, e_X7_makeRow_73, e_X7_makeRow_74, e_X7_makeRow_76, e_X7_makeRow_76x, e_X7_makeRow_78, e_X7_makeRow_81, e_X7_makeRow_81x, e_X7_makeRow_82, e_X7_makeRow_85, e_X7_makeRow_88, e_X7_makeRow_91, e_X7_makeRow_91x, e_X7_makeRow_92, e_X7_makeRow_95, e_X7_makeRow_96, e_X7_makeRow_96x, e_X7_makeRow_97, e_X7_makeRow_100, e_X7_makeRow_101, e_X7_makeRow_102, e_X7_makeRow_105, e_X7_makeRow_105x, e_X7_makeRow_107, e_X7_makeRow_110, e_X7_makeRow_110x, e_X7_makeRow_111, e_X7_makeRow_114, e_X7_makeRow_114x, e_X7_makeRow_115, e_X7_makeRow_118, e_X7_makeRow_121, e_X7_makeRow_124, e_X7_makeRow_125, e_X7_makeRow_125x, e_X7_makeRow_127, e_X7_makeRow_130, e_X7_makeRow_131, e_X7_makeRow_132, e_X7_makeRow_135, e_X7_makeRow_137, e_X7_makeRow_137x, e_X7_makeRow_138, e_X7_makeRow_139, e_X7_makeRow_141, e_X7_makeRow_141x, e_X7_makeRow_142, e_X7_makeRow_145, e_X7_makeRow_145x, e_X7_makeRow_146, e_X7_makeRow_149, e_X7_makeRow_152, e_X7_makeRow_153, e_X7_makeRow_154, e_X7_makeRow_156, e_X7_makeRow_157, e_X7_makeRow_160, e_X7_makeRow_162, e_X7_makeRow_163, e_X7_makeRow_166, e_X7_makeRow_170, e_X7_makeRow_171, e_X7_makeRow_172, e_X7_makeRow_173, e_X7_makeRow_174, e_X7_makeRow_175, e_X7_makeRow_177, e_X7_makeRow_178, e_X7_makeRow_181, zcll_s, zpush_s, zpush_n, zinv_i, zinv_l, zinv_r, zinv_x, zcats_nil, zcats_i, zcats_l, zcats_r, zcats_x, Nat.le_refl, and_self, true_and, and_true, zok_1, zok_20, zok_21, eq_self, Nat.reduceAdd, Nat.reduceLeDiff, Nat.zero_le, if_true, if_false, zw3_id, if_pos, if_neg, zand_t, tg_134, h2, tt.1, eb2]
    exact this
  | cons y l ih =>
    intro r o I1 v5 v6 h1 hr ho0 ho1 hfr hc hout hru
    obtain ⟨k1, k2, k3, k4⟩ := zdrop h1
    have eb2 : I1 b 2 = M.2.2.1.length := by rw [hfr b (by omega) (by omega)]; exact hM.2.2.1
    by_cases ho : o < M.1
    · have hM1 : ClM I1 b M := ClM_c hk (fun a q1 q2 => hfr a (by omega) (by omega)) hM
      have hy := hM1.2.2.2.2.2.2.1 r y k2
      have hyk := hk.2.2.2.2.2.1 y k4
      have hrl : r < 12 := by omega
      have q := k_allHold (X := X) (d := d) (c := c) (s := s) (L := L) hR (zTm_c hb hrl) hy.2.1 (TOK_4 hn4.2 hyk.2.1) (va := 267) (by decide +kernel)
      have e267 : I1 267 = I 267 := hfr 267 (by omega) (by omega)
      rw [e267, zB_c (mAll_c hN.1 hyk.2.1)] at q
      have tr := tt_rule hb hrl
      have tz := tt_terms (zTm_c hb hrl)
      have tz2 := tt_terms (zTm_e hb hrl)
      have rt := rr_ruleT hR hb hrl
      have rl := rr_rule hR hb hrl
      have e1 : (r : Int) + 1 = ((r + 1 : Nat) : Int) := by omega
      rw [e_X7_makeRow_40]
      by_cases hA : mAll (mDe M.2.1 st) y.2.1
      · rw [zB_t hA] at q
        have hfv : ∀ v, v < M.2.1.length → (fun k => if k < 4 then I1 267 k else I1 268 k) v = mDe M.2.1 st v := by
          intro v hv
          show (if v < 4 then I1 267 v else I1 268 v) = _
          rw [if_pos (by omega), e267, hN.1 v hv]
        generalize hf0 : (fun k => if k < 4 then I1 267 k else I1 268 k) = f0 at hfv
        have hi : mIn M.2.1 f0 0 := by
          intro v hv
          rw [Nat.zero_add, hfv v hv]
          have := mDe_in hk.2.2.1 hst.1 v hv
          rw [Nat.zero_add] at this
          exact this
        have qc := k_change (X := X) (d := d) (c := c) (s := s) (L := L) hR (zTm_e hb hrl) hy.2.2 hn4.2 hk.2.2.1 hyk.2.2 tt.2.1 (fun v hv => (ClM_v hM1 hv).1) (by omega) (by omega) (by omega) (by omega) (by omega) hi
        have hi2 := mEff_in hk.2.2.1 y.2.2 f0 hi
        have hM2 : ClM (zW I1 268 (mEff (mg M.2.1) y.2.2 f0)) b M := ClM_c hk (fun a q1 q2 => zW_n (by omega)) hM1
        have qs := k_stateOf (X := X) (d := d) (c := c) (s := s) (L := L) hR hb hM2 hk (va := 268) (by decide +kernel) (by rw [zW_s]; exact hi2)
        have et : mEn M.2.1 (zW I1 268 (mEff (mg M.2.1) y.2.2 f0) 268) 0 = mEn M.2.1 (mV M (mDe M.2.1 st) (r : Int)) 0 := by
          rw [zW_s]
          refine mEn_c ?_
          intro v hv
          rw [Nat.zero_add]
          unfold mV
          rw [if_neg (by omega), Int.toNat_natCast, zgetD k2]
          exact mEff_c _ (fun u hu => (hyk.2.2.2 u hu).1) _ _ hfv v hv
        rw [et] at qs
        have ht1 : 0 ≤ mEn M.2.1 (mV M (mDe M.2.1 st) (r : Int)) 0 ∧ mEn M.2.1 (mV M (mDe M.2.1 st) (r : Int)) 0 < mPr M.2.1 := mEn_lt hk.2.2.1 (mV_in hk.2.2.1 (mDe_in hk.2.2.1 hst.1) _)
        have hms : ∀ e, mRu M st e = (r : Int) → mS M st e = mEn M.2.1 (mV M (mDe M.2.1 st) (r : Int)) 0 := fun e he => mRu_s he
        generalize mEn M.2.1 (mV M (mDe M.2.1 st) (r : Int)) 0 = t1 at qs ht1 hms
        have cm := (cell_mk (x := t1) (r := (r : Int)) ht1.1 (by omega) (by omega) (by omega)).1
        obtain ⟨o1, ho1e⟩ : ∃ o1, o1 = if M.1 < o + y.1 then M.1 else o + y.1 := ⟨_, rfl⟩
        have est : (if P + M.1 < P + o + y.1 then P + M.1 else P + o + y.1) = P + o1 := by
          rw [ho1e]
          split <;> split <;> omega
        have ho1b : o ≤ o1 ∧ o1 ≤ M.1 := by
          have := hyk.1
          rw [ho1e]
          split <;> omega
        obtain ⟨g, g1, g2⟩ := k_fill (X := X) (d := d) (c := c) (s := s) (I := zW I1 268 (mEff (mg M.2.1) y.2.2 f0)) (L := L) h3 (P + o) (P + o1) (16 * t1 + (r : Int)) (by omega) (by omega)
        have hw := hyk.1
        have z4 : (4 : Int).toNat = 4 := rfl
        have hcw : zW I1 268 (mEff (mg M.2.1) y.2.2 f0) (b + 6 + 9 * r) 0 = y.1 := by rw [zW_n (by omega)]; exact hy.1
        simp (disch := omega) only [e_X7_makeRow_0, e_X7_makeRow_0x, e_X7_makeRow_1, e_X7_makeRow_4, e_X7_makeRow_5, e_X7_makeRow_5x, e_X7_makeRow_6, e_X7_makeRow_9, e_X7_makeRow_12, e_X7_makeRow_12x, e_X7_makeRow_13, e_X7_makeRow_14, e_X7_makeRow_17, e_X7_makeRow_18, e_X7_makeRow_18x, e_X7_makeRow_19, e_X7_makeRow_22, e_X7_makeRow_25, e_X7_makeRow_26, e_X7_makeRow_27, e_X7_makeRow_28, e_X7_makeRow_28x, e_X7_makeRow_29, e_X7_makeRow_32, e_X7_makeRow_35, e_X7_makeRow_36, e_X7_makeRow_37, e_X7_makeRow_38, e_X7_makeRow_42, e_X7_makeRow_42x, e_X7_makeRow_43, e_X7_makeRow_46, e_X7_makeRow_49, e_X7_makeRow_52, e_X7_makeRow_54, e_X7_makeRow_56, e_X7_makeRow_59, e_X7_makeRow_60, e_X7_makeRow_61, e_X7_makeRow_64, e_X7_makeRow_64x, e_X7_makeRow_65, e_X7_makeRow_68, e_X7_makeRow_71, e_X7_makeRow_73, e_X7_makeRow_74, e_X7_makeRow_76, e_X7_makeRow_76x, e_X7_makeRow_78, e_X7_makeRow_81, e_X7_makeRow_81x, e_X7_makeRow_82, e_X7_makeRow_85, e_X7_makeRow_88, e_X7_makeRow_91, e_X7_makeRow_91x, e_X7_makeRow_92, e_X7_makeRow_95, e_X7_makeRow_96, e_X7_makeRow_96x, e_X7_makeRow_97, e_X7_makeRow_100, e_X7_makeRow_101, e_X7_makeRow_102, e_X7_makeRow_105, e_X7_makeRow_105x, e_X7_makeRow_107, e_X7_makeRow_110, e_X7_makeRow_110x, e_X7_makeRow_111, e_X7_makeRow_114, e_X7_makeRow_114x, e_X7_makeRow_115, e_X7_makeRow_118, e_X7_makeRow_121, e_X7_makeRow_124, e_X7_makeRow_125, e_X7_makeRow_125x, e_X7_makeRow_127, e_X7_makeRow_130, e_X7_makeRow_131, e_X7_makeRow_132, e_X7_makeRow_135, e_X7_makeRow_137, e_X7_makeRow_137x, e_X7_makeRow_138, e_X7_makeRow_139, e_X7_makeRow_141, e_X7_makeRow_141x, e_X7_makeRow_142, e_X7_makeRow_145, e_X7_makeRow_145x, e_X7_makeRow_146, e_X7_makeRow_149, e_X7_makeRow_152, e_X7_makeRow_153, e_X7_makeRow_154, e_X7_makeRow_156, e_X7_makeRow_157, e_X7_makeRow_160, e_X7_makeRow_162, e_X7_makeRow_163, e_X7_makeRow_166, e_X7_makeRow_170, e_X7_makeRow_171, e_X7_makeRow_172, e_X7_makeRow_173, e_X7_makeRow_174, e_X7_makeRow_175, e_X7_makeRow_177, e_X7_makeRow_178, e_X7_makeRow_181, zcll_s, zpush_s, zpush_n, zinv_i, zinv_l, zinv_r, zinv_x, zcats_nil, zcats_i, zcats_l, zcats_r, zcats_x, Nat.le_refl, and_self, true_and, and_true, zok_1, zok_20, zok_21, eq_self, Nat.reduceAdd, Nat.reduceLeDiff, Nat.zero_le, if_true, if_false, zw3_id, if_pos, if_neg, zand_t, tg_134, tg_267, tn_267, tg_268, tn_268, rr_134_3 hR, rr_134_4 hR, h2, tt.1, tt.2.2.2.1, rr.1, rr.2.2.1, eb2, Int.toNat_natCast, rl, tr, rt.1, rt.2, tz.1, tz2.1, q, Int.toNat_zero, z4, zcpy_W, hf0, qc, qs, hcw, est, cm, g1]
        rw [e1]
        refine ih (r + 1) o1 _ _ _ k3 (by omega) (by omega) (by omega) ?_ ?_ ?_ ?_
        · intro a ha hb
          rw [zW_n hb, zW_n ha]
          exact hfr a ha hb
        · intro e he0 he1
          rw [zW_s, g2, zW_n (by omega)]
          by_cases qe : o ≤ e
          · rw [if_pos (by omega)]
            have hme : mRu M st e = (r : Int) := by
              rw [hru e qe (by omega)]
              unfold mRul
              rw [if_pos hA, if_pos]
              rw [ho1e] at he1
              split at he1 <;> omega
            unfold cellV
            rw [hme, if_neg (by omega), hms e hme]
          · rw [if_neg (by omega)]
            exact hc e he0 (by omega)
        · intro k hk
          rw [zW_s, g2, if_neg (by omega), zW_n (by omega)]
          exact hout k hk
        · intro e qe0 qe1
          have : o1 = o + y.1 := by
            rw [ho1e] at qe0 ⊢
            split at qe0
            · omega
            · rw [if_neg (by assumption)]
          rw [hru e (by omega) qe1]
          show mRul (mDe M.2.1 st) (y :: l) (e - o) r = _
          rw [show mRul (mDe M.2.1 st) (y :: l) (e - o) r = @ite _ (mAll (mDe M.2.1 st) y.2.1) (Classical.propDecidable _) (if e - o < y.1 then (r : Int) else mRul (mDe M.2.1 st) l (e - o - y.1) (r + 1)) (mRul (mDe M.2.1 st) l (e - o) (r + 1)) from rfl]
          rw [if_pos hA, if_neg (by omega), this, ← e1]
          congr 1
          omega
      · rw [zB_f hA] at q
        simp (disch := omega) only [e_X7_makeRow_0, e_X7_makeRow_0x, e_X7_makeRow_1, e_X7_makeRow_4, e_X7_makeRow_5, e_X7_makeRow_5x, e_X7_makeRow_6, e_X7_makeRow_9, e_X7_makeRow_12, e_X7_makeRow_12x, e_X7_makeRow_13, e_X7_makeRow_14, e_X7_makeRow_17, e_X7_makeRow_18, e_X7_makeRow_18x, e_X7_makeRow_19, e_X7_makeRow_22, e_X7_makeRow_25, e_X7_makeRow_26, e_X7_makeRow_27, e_X7_makeRow_28, e_X7_makeRow_28x, e_X7_makeRow_29, e_X7_makeRow_32, e_X7_makeRow_35, e_X7_makeRow_36, e_X7_makeRow_37, e_X7_makeRow_38, e_X7_makeRow_42, e_X7_makeRow_42x, e_X7_makeRow_43, e_X7_makeRow_46, e_X7_makeRow_49, e_X7_makeRow_52, e_X7_makeRow_54, e_X7_makeRow_56, e_X7_makeRow_59, e_X7_makeRow_60, e_X7_makeRow_61, e_X7_makeRow_64, e_X7_makeRow_64x, e_X7_makeRow_65, e_X7_makeRow_68, e_X7_makeRow_71, e_X7_makeRow_73, e_X7_makeRow_74, e_X7_makeRow_76, e_X7_makeRow_76x, e_X7_makeRow_78, e_X7_makeRow_81, e_X7_makeRow_81x, e_X7_makeRow_82, e_X7_makeRow_85, e_X7_makeRow_88, e_X7_makeRow_91, e_X7_makeRow_91x, e_X7_makeRow_92, e_X7_makeRow_95, e_X7_makeRow_96, e_X7_makeRow_96x, e_X7_makeRow_97, e_X7_makeRow_100, e_X7_makeRow_101, e_X7_makeRow_102, e_X7_makeRow_105, e_X7_makeRow_105x, e_X7_makeRow_107, e_X7_makeRow_110, e_X7_makeRow_110x, e_X7_makeRow_111, e_X7_makeRow_114, e_X7_makeRow_114x, e_X7_makeRow_115, e_X7_makeRow_118, e_X7_makeRow_121, e_X7_makeRow_124, e_X7_makeRow_125, e_X7_makeRow_125x, e_X7_makeRow_127, e_X7_makeRow_130, e_X7_makeRow_131, e_X7_makeRow_132, e_X7_makeRow_135, e_X7_makeRow_137, e_X7_makeRow_137x, e_X7_makeRow_138, e_X7_makeRow_139, e_X7_makeRow_141, e_X7_makeRow_141x, e_X7_makeRow_142, e_X7_makeRow_145, e_X7_makeRow_145x, e_X7_makeRow_146, e_X7_makeRow_149, e_X7_makeRow_152, e_X7_makeRow_153, e_X7_makeRow_154, e_X7_makeRow_156, e_X7_makeRow_157, e_X7_makeRow_160, e_X7_makeRow_162, e_X7_makeRow_163, e_X7_makeRow_166, e_X7_makeRow_170, e_X7_makeRow_171, e_X7_makeRow_172, e_X7_makeRow_173, e_X7_makeRow_174, e_X7_makeRow_175, e_X7_makeRow_177, e_X7_makeRow_178, e_X7_makeRow_181, zcll_s, zpush_s, zpush_n, zinv_i, zinv_l, zinv_r, zinv_x, zcats_nil, zcats_i, zcats_l, zcats_r, zcats_x, Nat.le_refl, and_self, true_and, and_true, zok_1, zok_20, zok_21, eq_self, Nat.reduceAdd, Nat.reduceLeDiff, Nat.zero_le, if_true, if_false, zw3_id, if_pos, if_neg, zand_t, tg_134, tg_267, tn_267, tg_268, tn_268, rr_134_3 hR, rr_134_4 hR, h2, tt.1, tt.2.2.2.1, rr.1, rr.2.2.1, eb2, Int.toNat_natCast, rl, tr, rt.1, rt.2, tz.1, tz2.1, q]
        rw [e1]
        refine ih (r + 1) o _ _ _ k3 (by omega) ho0 ho1 hfr hc hout ?_
        intro e qe0 qe1
        rw [hru e qe0 qe1]
        show mRul (mDe M.2.1 st) (y :: l) (e - o) r = _
        rw [show mRul (mDe M.2.1 st) (y :: l) (e - o) r = @ite _ (mAll (mDe M.2.1 st) y.2.1) (Classical.propDecidable _) (if e - o < y.1 then (r : Int) else mRul (mDe M.2.1 st) l (e - o - y.1) (r + 1)) (mRul (mDe M.2.1 st) l (e - o) (r + 1)) from rfl]
        rw [if_neg hA, ← e1]
    · have := fin r o I1 v5 v6 ho0 ho1 hfr hc hout (fun e q1 q2 => absurd q2 (by omega))
      rw [e_X7_makeRow_40]
      simp (disch := omega) only [e_X7_makeRow_0, e_X7_makeRow_0x, e_X7_makeRow_1, e_X7_makeRow_4, e_X7_makeRow_5, e_X7_makeRow_5x, e_X7_makeRow_6, e_X7_makeRow_9, e_X7_makeRow_12, e_X7_makeRow_12x, e_X7_makeRow_13, e_X7_makeRow_14, e_X7_makeRow_17, e_X7_makeRow_18, e_X7_makeRow_18x, e_X7_makeRow_19, e_X7_makeRow_22, e_X7_makeRow_25, e_X7_makeRow_26, e_X7_makeRow_27, e_X7_makeRow_28, e_X7_makeRow_28x, e_X7_makeRow_29, e_X7_makeRow_32, e_X7_makeRow_35, e_X7_makeRow_36, e_X7_makeRow_37, e_X7_makeRow_38, e_X7_makeRow_42, e_X7_makeRow_42x, e_X7_makeRow_43, e_X7_makeRow_46, e_X7_makeRow_49, e_X7_makeRow_52, e_X7_makeRow_54, e_X7_makeRow_56, e_X7_makeRow_59, e_X7_makeRow_60, e_X7_makeRow_61, e_X7_makeRow_64, e_X7_makeRow_64x, e_X7_makeRow_65, e_X7_makeRow_68, e_X7_makeRow_71, e_X7_makeRow_73, e_X7_makeRow_74, e_X7_makeRow_76, e_X7_makeRow_76x, e_X7_makeRow_78, e_X7_makeRow_81, e_X7_makeRow_81x, e_X7_makeRow_82, e_X7_makeRow_85, e_X7_makeRow_88, e_X7_makeRow_91, e_X7_makeRow_91x, e_X7_makeRow_92, e_X7_makeRow_95, e_X7_makeRow_96, e_X7_makeRow_96x, e_X7_makeRow_97, e_X7_makeRow_100, e_X7_makeRow_101, e_X7_makeRow_102, e_X7_makeRow_105, e_X7_makeRow_105x, e_X7_makeRow_107, e_X7_makeRow_110, e_X7_makeRow_110x, e_X7_makeRow_111, e_X7_makeRow_114, e_X7_makeRow_114x, e_X7_makeRow_115, e_X7_makeRow_118, e_X7_makeRow_121, e_X7_makeRow_124, e_X7_makeRow_125, e_X7_makeRow_125x, e_X7_makeRow_127, e_X7_makeRow_130, e_X7_makeRow_131, e_X7_makeRow_132, e_X7_makeRow_135, e_X7_makeRow_137, e_X7_makeRow_137x, e_X7_makeRow_138, e_X7_makeRow_139, e_X7_makeRow_141, e_X7_makeRow_141x, e_X7_makeRow_142, e_X7_makeRow_145, e_X7_makeRow_145x, e_X7_makeRow_146, e_X7_makeRow_149, e_X7_makeRow_152, e_X7_makeRow_153, e_X7_makeRow_154, e_X7_makeRow_156, e_X7_makeRow_157, e_X7_makeRow_160, e_X7_makeRow_162, e_X7_makeRow_163, e_X7_makeRow_166, e_X7_makeRow_170, e_X7_makeRow_171, e_X7_makeRow_172, e_X7_makeRow_173, e_X7_makeRow_174, e_X7_makeRow_175, e_X7_makeRow_177, e_X7_makeRow_178, e_X7_makeRow_181, zcll_s, zpush_s, zpush_n, zinv_i, zinv_l, zinv_r, zinv_x, zcats_nil, zcats_i, zcats_l, zcats_r, zcats_x, Nat.le_refl, and_self, true_and, and_true, zok_1, zok_20, zok_21, eq_self, Nat.reduceAdd, Nat.reduceLeDiff, Nat.zero_le, if_true, if_false, zw3_id, if_pos, if_neg, zand_t, tg_134, h2, tt.1, eb2]
      exact this
theorem k_makeRow (h : ClS I R b M) (st : Int) (h0 : 0 ≤ st) (hst : st < mPr M.2.1) : ∃ I1, zrun X (d + 3) 61 [zr (some 134), zi st] (c, s, I, L, R) = some (none, (c, s, I1, L, R)) ∧ KT I I1 ∧ Tab I1 M ∧ TabR I1 M st.toNat := by
  obtain ⟨hR, hb, h1, h2, h3, hM, hk, hT⟩ := id h
  have tt := tt_model hb
  have hp := hk.2.2.2.1
  have hl := hk.1
  have hP := rowP hk h0 hst
  have p := sx_X7_makeRow (X := X) (d := d + 2) (u0 := some 134) (x1 := st) (σ := (c, s, I, L, R)) (P := fun q => ∃ I1, q = (none, (c, s, I1, L, R)) ∧ KT I I1 ∧ Tab I1 M ∧ TabR I1 M st.toNat) ?_
  · obtain ⟨r, q1, I1, q2, q3⟩ := p
    exact ⟨I1, by rw [q1, q2], q3⟩
  · obtain ⟨f, q1, q2⟩ := k_valuesOf (X := X) (d := d + 1) (c := c) (s := s) (L := L) hR hb hM hk st h0 hst
    have hM1 : ClM (zW I 267 f) b M := ClM_c hk (fun a q1 q2 => zW_n (by omega)) hM
    obtain ⟨m, m1, m2, m3⟩ := k_markGoals (X := X) (d := d) (c := c) (s := s) (L := L) hR hb h2 hM1 hk st h0 (by omega)
    have hM2 : ClM (zu (zW I 267 f) 266 st.toNat (m : Int)) b M := ClM_c hk (fun a q1 q2 => zu_n (by omega)) hM1
    have hN : Now M (zu (zW I 267 f) 266 st.toNat (m : Int) 267) st := by rw [zu_n (by omega), zW_s]; exact q2
    have eb0 : zu (zW I 267 f) 266 st.toNat (m : Int) b 0 = M.1 := hM2.1
    generalize hPe : st * M.1 = P at hP
    simp (disch := omega) only [e_X7_makeRow_0, e_X7_makeRow_0x, e_X7_makeRow_1, e_X7_makeRow_4, e_X7_makeRow_5, e_X7_makeRow_5x, e_X7_makeRow_6, e_X7_makeRow_9, e_X7_makeRow_12, e_X7_makeRow_12x, e_X7_makeRow_13, e_X7_makeRow_14, e_X7_makeRow_17, e_X7_makeRow_18, e_X7_makeRow_18x, e_X7_makeRow_19, e_X7_makeRow_22, e_X7_makeRow_25, e_X7_makeRow_26, e_X7_makeRow_27, e_X7_makeRow_28, e_X7_makeRow_28x, e_X7_makeRow_29, e_X7_makeRow_32, e_X7_makeRow_35, e_X7_makeRow_36, e_X7_makeRow_37, e_X7_makeRow_38, e_X7_makeRow_42, e_X7_makeRow_42x, e_X7_makeRow_43, e_X7_makeRow_46, e_X7_makeRow_49, e_X7_makeRow_52, e_X7_makeRow_54, e_X7_makeRow_56, e_X7_makeRow_59, e_X7_makeRow_60, e_X7_makeRow_61, e_X7_makeRow_64, e_X7_makeRow_64x, e_X7_makeRow_65, e_X7_makeRow_68, e_X7_makeRow_71, e_X7_makeRow_73, e_X7_makeRow_74, e_X7_makeRow_76, e_X7_makeRow_76x, e_X7_makeRow_78, e_X7_makeRow_81, e_X7_makeRow_81x, e_X7_makeRow_82, e_X7_makeRow_85, e_X7_makeRow_88, e_X7_makeRow_91, e_X7_makeRow_91x, e_X7_makeRow_92, e_X7_makeRow_95, e_X7_makeRow_96, e_X7_makeRow_96x, e_X7_makeRow_97, e_X7_makeRow_100, e_X7_makeRow_101, e_X7_makeRow_102, e_X7_makeRow_105, e_X7_makeRow_105x, e_X7_makeRow_107, e_X7_makeRow_110, e_X7_makeRow_110x, e_X7_makeRow_111, e_X7_makeRow_114, e_X7_makeRow_114x, e_X7_makeRow_115, e_X7_makeRow_118, e_X7_makeRow_121, e_X7_makeRow_124, e_X7_makeRow_125, e_X7_makeRow_125x, e_X7_makeRow_127, e_X7_makeRow_130, e_X7_makeRow_131, e_X7_makeRow_132, e_X7_makeRow_135, e_X7_makeRow_137, e_X7_makeRow_137x, e_X7_makeRow_138, e_X7_makeRow_139, e_X7_makeRow_141, e_X7_makeRow_141x, e_X7_makeRow_142, e_X7_makeRow_145, e_X7_makeRow_145x, e_X7_makeRow_146, e_X7_makeRow_149, e_X7_makeRow_152, e_X7_makeRow_153, e_X7_makeRow_154, e_X7_makeRow_156, e_X7_makeRow_157, e_X7_makeRow_160, e_X7_makeRow_162, e_X7_makeRow_163, e_X7_makeRow_166, e_X7_makeRow_170, e_X7_makeRow_171, e_X7_makeRow_172, e_X7_makeRow_173, e_X7_makeRow_174, e_X7_makeRow_175, e_X7_makeRow_177, e_X7_makeRow_178, e_X7_makeRow_181, zcll_s, zpush_s, zpush_n, zinv_i, zinv_l, zinv_r, zinv_x, zcats_nil, zcats_i, zcats_l, zcats_r, zcats_x, Nat.le_refl, and_self, true_and, and_true, zok_1, zok_20, zok_21, eq_self, Nat.reduceAdd, Nat.reduceLeDiff, Nat.zero_le, if_true, if_false, zw3_id, if_pos, if_neg, zand_t, tg_134, rr_134_3 hR, h2, tt.1, q1, m1, eb0, hPe]
    have q := q_makeRow (X := X) (d := d + 1) (c := c) (s := s) (L := L) hR hb h2 h3 hM2 hk st P hN hPe hP.1 hP.2 (Q := fun q => ∃ I1, q = (none, (c, s, I1, L, R)) ∧ KT I I1 ∧ Tab I1 M ∧ TabR I1 M st.toNat) ?_ M.2.2.1 0 0 _ (zx 0) (zx 0) rfl (by omega) (by omega) (by omega) (fun a _ _ => rfl) (fun e q1 q2 => absurd q2 (by omega)) (fun k _ => rfl) (fun e _ _ => by rw [Int.sub_zero]; rfl)
    · rw [Int.add_zero] at q
      exact q
    · intro I2 r1 r2 r3
      have hrow : TabR I2 M st.toNat := by
        have e266 : I2 266 st.toNat = (m : Int) := by rw [r1 266 (by omega) (by omega), zu_s]
        refine ⟨by rw [e266]; omega, ?_, ?_⟩
        · intro g hg
          rw [e266, m3 g hg, show ((st.toNat : Nat) : Int) = st by omega]
          refine zB_c ?_
          rw [zW_s]
          exact Now_g hk q2 hg
        · intro e he0 he1
          rw [show ((st.toNat : Nat) : Int) = st by omega, hPe]
          exact r2 e he0 he1
      refine ⟨I2, rfl, ?_, ?_, hrow⟩
      · intro a ha hb hc hd
        rw [r1 a hc hd, zu_n ha, zW_n hb]
      · intro st1 hs1
        by_cases es : st1 = st.toNat
        · rw [es]; exact Or.inr hrow
        · have e266 : I2 266 st1 = I 266 st1 := by rw [r1 266 (by omega) (by omega), zu_k es, zW_n (by omega)]
          rcases hT st1 hs1 with z | z
          · exact Or.inl (by rw [e266]; exact z)
          · refine Or.inr ⟨by rw [e266]; exact z.1, fun g hg => by rw [e266]; exact z.2.1 g hg, fun e he0 he1 => ?_⟩
            rw [r3, zu_n (by omega), zW_n (by omega)]
            · exact z.2.2 e he0 he1
            · have ha := Int.mul_nonneg (show (0 : Int) ≤ st1 by omega) (show 0 ≤ M.1 by omega)
              rw [← hPe]
              by_cases lt : (st1 : Int) < st
              · have := Int.mul_le_mul_of_nonneg_right (show (st1 : Int) + 1 ≤ st by omega) (show 0 ≤ M.1 by omega)
                rw [Int.add_mul, Int.one_mul] at this
                left; omega
              · have := Int.mul_le_mul_of_nonneg_right (show st + 1 ≤ (st1 : Int) by omega) (show 0 ≤ M.1 by omega)
                rw [Int.add_mul, Int.one_mul] at this
                right; omega
theorem k_cell (h : ClS I R b M) (st e : Int) (h0 : 0 ≤ st) (hst : st < mPr M.2.1) (he0 : 0 ≤ e) (he1 : e < M.1) : ∃ I1, zrun X (d + 4) 56 [zr (some 134), zi st, zi e] (c, s, I, L, R) = some (some (zi (cellV M st e)), (c, s, I1, L, R)) ∧ KT I I1 ∧ Tab I1 M := by
  obtain ⟨hR, hb, h1, h2, h3, hM, hk, hT⟩ := id h
  have tt := tt_model hb
  have hp := hk.2.2.2.1
  have hl := hk.1
  have hP := rowP hk h0 hst
  have eN : ((mN M : Nat) : Int) = mPr M.2.1 := by unfold mN; omega
  have q0 := k_isNoState (X := X) (d := d + 2) (c := c) (s := s) (L := L) h st
  rw [zB_f (by omega)] at q0
  have eb0 := hM.1
  have row : ∀ I1, TabR I1 M st.toNat → I1 337 (st * M.1 + e).toNat = cellV M st e := by
    intro I1 z
    have := z.2.2 e he0 he1
    rw [show ((st.toNat : Nat) : Int) = st by omega] at this
    exact this
  by_cases hm : I 266 st.toNat = 0
  · obtain ⟨I1, r1, r2, r3, r4⟩ := k_makeRow (X := X) (d := d) (c := c) (s := s) (L := L) h st h0 hst
    refine ⟨I1, st_X7_cell ?_, r2, r3⟩
    have rw1 := row I1 r4
    generalize hPe : st * M.1 = P at hP rw1
    simp (disch := omega) only [e_X7_cell_0, e_X7_cell_1, e_X7_cell_1x, e_X7_cell_2, e_X7_cell_5, e_X7_cell_8, e_X7_cell_9, e_X7_cell_10, e_X7_cell_11, e_X7_cell_12, e_X7_cell_12x, e_X7_cell_13, e_X7_cell_14, e_X7_cell_17, e_X7_cell_20, e_X7_cell_21, e_X7_cell_24, e_X7_cell_25, e_X7_cell_25x, e_X7_cell_26, e_X7_cell_29, e_X7_cell_32, e_X7_cell_35, e_X7_cell_36, e_X7_cell_36x, e_X7_cell_37, e_X7_cell_40, e_X7_cell_41, e_X7_cell_44, e_X7_cell_46, e_X7_cell_47, e_X7_cell_47x, e_X7_cell_48, e_X7_cell_51, e_X7_cell_52, e_X7_cell_53, e_X7_cell_56, e_X7_cell_56x, e_X7_cell_57, e_X7_cell_58, e_X7_cell_61, e_X7_cell_61x, e_X7_cell_62, e_X7_cell_65, e_X7_cell_66, e_X7_cell_67, zcll_s, zpush_s, zpush_n, zinv_i, zinv_l, zinv_r, zinv_x, zcats_nil, zcats_i, zcats_l, zcats_r, zcats_x, Nat.le_refl, and_self, true_and, and_true, zok_1, zok_20, zok_21, eq_self, Nat.reduceAdd, Nat.reduceLeDiff, Nat.zero_le, if_true, if_false, zw3_id, if_pos, if_neg, zand_t, tg_134, tg_266, tn_266, tg_337, tn_337, rr_134_2 hR, h2, h3, tt.1, eb0, hPe, q0, hm, r1, rw1]
  · refine ⟨I, st_X7_cell ?_, KT_r, hT⟩
    have rw1 := row I ((hT st.toNat (by omega)).resolve_left hm)
    generalize hPe : st * M.1 = P at hP rw1
    simp (disch := omega) only [e_X7_cell_0, e_X7_cell_1, e_X7_cell_1x, e_X7_cell_2, e_X7_cell_5, e_X7_cell_8, e_X7_cell_9, e_X7_cell_10, e_X7_cell_11, e_X7_cell_12, e_X7_cell_12x, e_X7_cell_13, e_X7_cell_14, e_X7_cell_17, e_X7_cell_20, e_X7_cell_21, e_X7_cell_24, e_X7_cell_25, e_X7_cell_25x, e_X7_cell_26, e_X7_cell_29, e_X7_cell_32, e_X7_cell_35, e_X7_cell_36, e_X7_cell_36x, e_X7_cell_37, e_X7_cell_40, e_X7_cell_41, e_X7_cell_44, e_X7_cell_46, e_X7_cell_47, e_X7_cell_47x, e_X7_cell_48, e_X7_cell_51, e_X7_cell_52, e_X7_cell_53, e_X7_cell_56, e_X7_cell_56x, e_X7_cell_57, e_X7_cell_58, e_X7_cell_61, e_X7_cell_61x, e_X7_cell_62, e_X7_cell_65, e_X7_cell_66, e_X7_cell_67, zcll_s, zpush_s, zpush_n, zinv_i, zinv_l, zinv_r, zinv_x, zcats_nil, zcats_i, zcats_l, zcats_r, zcats_x, Nat.le_refl, and_self, true_and, and_true, zok_1, zok_20, zok_21, eq_self, Nat.reduceAdd, Nat.reduceLeDiff, Nat.zero_le, if_true, if_false, zw3_id, if_pos, if_neg, zand_t, tg_134, tg_266, tn_266, tg_337, tn_337, rr_134_2 hR, h2, h3, tt.1, eb0, hPe, q0, hm, rw1]
theorem k_hasGoal (h : ClS I R b M) (st g : Int) (h0 : 0 ≤ st) (hst : st < mPr M.2.1) (hg0 : 0 ≤ g) (hg : g < M.2.2.2.length) : ∃ I1, zrun X (d + 4) 59 [zr (some 134), zi st, zi g] (c, s, I, L, R) = some (some (zi (zB (mGoal M g.toNat st))), (c, s, I1, L, R)) ∧ KT I I1 ∧ Tab I1 M := by
  obtain ⟨hR, hb, h1, h2, h3, hM, hk, hT⟩ := id h
  have tt := tt_model hb
  have hp := hk.2.2.2.1
  have eN : ((mN M : Nat) : Int) = mPr M.2.1 := by unfold mN; omega
  have q0 := k_isNoState (X := X) (d := d + 2) (c := c) (s := s) (L := L) h st
  rw [zB_f (by omega)] at q0
  have row : ∀ I1, TabR I1 M st.toNat → zand3 (zshr3 (I1 266 st.toNat) g) 1 = zB (mGoal M g.toNat st) := by
    intro I1 z
    have := z.2.1 g.toNat (by omega)
    rw [show ((st.toNat : Nat) : Int) = st by omega, show ((g.toNat : Nat) : Int) = g by omega] at this
    exact this
  have hz := @zB_01 (mGoal M g.toNat st)
  by_cases hm : I 266 st.toNat = 0
  · obtain ⟨I1, r1, r2, r3, r4⟩ := k_makeRow (X := X) (d := d) (c := c) (s := s) (L := L) h st h0 hst
    refine ⟨I1, st_X7_hasGoal ?_, r2, r3⟩
    have rw1 := row I1 r4
    rcases hz with hz | hz
    · rw [hz] at rw1 ⊢
      simp (disch := omega) only [e_X7_hasGoal_0, e_X7_hasGoal_0x, e_X7_hasGoal_1, e_X7_hasGoal_2, e_X7_hasGoal_5, e_X7_hasGoal_8, e_X7_hasGoal_9, e_X7_hasGoal_10, e_X7_hasGoal_10x, e_X7_hasGoal_11, e_X7_hasGoal_14, e_X7_hasGoal_15, e_X7_hasGoal_16, e_X7_hasGoal_19, e_X7_hasGoal_19x, e_X7_hasGoal_20, e_X7_hasGoal_21, e_X7_hasGoal_24, e_X7_hasGoal_24x, e_X7_hasGoal_25, e_X7_hasGoal_28, e_X7_hasGoal_29, e_X7_hasGoal_30, e_X7_hasGoal_31, e_X7_hasGoal_32, e_X7_hasGoal_33, e_X7_hasGoal_34, e_X7_hasGoal_35, e_X7_hasGoal_38, e_X7_hasGoal_39, e_X7_hasGoal_42, e_X7_hasGoal_43, zcll_s, zpush_s, zpush_n, zinv_i, zinv_l, zinv_r, zinv_x, zcats_nil, zcats_i, zcats_l, zcats_r, zcats_x, Nat.le_refl, and_self, true_and, and_true, zok_1, zok_20, zok_21, eq_self, Nat.reduceAdd, Nat.reduceLeDiff, Nat.zero_le, if_true, if_false, zw3_id, if_pos, if_neg, zand_t, tg_134, tg_266, tn_266, rr_134_2 hR, q0, hm, r1, rw1]
    · rw [hz] at rw1 ⊢
      simp (disch := omega) only [e_X7_hasGoal_0, e_X7_hasGoal_0x, e_X7_hasGoal_1, e_X7_hasGoal_2, e_X7_hasGoal_5, e_X7_hasGoal_8, e_X7_hasGoal_9, e_X7_hasGoal_10, e_X7_hasGoal_10x, e_X7_hasGoal_11, e_X7_hasGoal_14, e_X7_hasGoal_15, e_X7_hasGoal_16, e_X7_hasGoal_19, e_X7_hasGoal_19x, e_X7_hasGoal_20, e_X7_hasGoal_21, e_X7_hasGoal_24, e_X7_hasGoal_24x, e_X7_hasGoal_25, e_X7_hasGoal_28, e_X7_hasGoal_29, e_X7_hasGoal_30, e_X7_hasGoal_31, e_X7_hasGoal_32, e_X7_hasGoal_33, e_X7_hasGoal_34, e_X7_hasGoal_35, e_X7_hasGoal_38, e_X7_hasGoal_39, e_X7_hasGoal_42, e_X7_hasGoal_43, zcll_s, zpush_s, zpush_n, zinv_i, zinv_l, zinv_r, zinv_x, zcats_nil, zcats_i, zcats_l, zcats_r, zcats_x, Nat.le_refl, and_self, true_and, and_true, zok_1, zok_20, zok_21, eq_self, Nat.reduceAdd, Nat.reduceLeDiff, Nat.zero_le, if_true, if_false, zw3_id, if_pos, if_neg, zand_t, tg_134, tg_266, tn_266, rr_134_2 hR, q0, hm, r1, rw1]
  · refine ⟨I, st_X7_hasGoal ?_, KT_r, hT⟩
    have rw1 := row I ((hT st.toNat (by omega)).resolve_left hm)
    rcases hz with hz | hz
    · rw [hz] at rw1 ⊢
      simp (disch := omega) only [e_X7_hasGoal_0, e_X7_hasGoal_0x, e_X7_hasGoal_1, e_X7_hasGoal_2, e_X7_hasGoal_5, e_X7_hasGoal_8, e_X7_hasGoal_9, e_X7_hasGoal_10, e_X7_hasGoal_10x, e_X7_hasGoal_11, e_X7_hasGoal_14, e_X7_hasGoal_15, e_X7_hasGoal_16, e_X7_hasGoal_19, e_X7_hasGoal_19x, e_X7_hasGoal_20, e_X7_hasGoal_21, e_X7_hasGoal_24, e_X7_hasGoal_24x, e_X7_hasGoal_25, e_X7_hasGoal_28, e_X7_hasGoal_29, e_X7_hasGoal_30, e_X7_hasGoal_31, e_X7_hasGoal_32, e_X7_hasGoal_33, e_X7_hasGoal_34, e_X7_hasGoal_35, e_X7_hasGoal_38, e_X7_hasGoal_39, e_X7_hasGoal_42, e_X7_hasGoal_43, zcll_s, zpush_s, zpush_n, zinv_i, zinv_l, zinv_r, zinv_x, zcats_nil, zcats_i, zcats_l, zcats_r, zcats_x, Nat.le_refl, and_self, true_and, and_true, zok_1, zok_20, zok_21, eq_self, Nat.reduceAdd, Nat.reduceLeDiff, Nat.zero_le, if_true, if_false, zw3_id, if_pos, if_neg, zand_t, tg_134, tg_266, tn_266, rr_134_2 hR, q0, hm, rw1]
    · rw [hz] at rw1 ⊢
      simp (disch := omega) only [e_X7_hasGoal_0, e_X7_hasGoal_0x, e_X7_hasGoal_1, e_X7_hasGoal_2, e_X7_hasGoal_5, e_X7_hasGoal_8, e_X7_hasGoal_9, e_X7_hasGoal_10, e_X7_hasGoal_10x, e_X7_hasGoal_11, e_X7_hasGoal_14, e_X7_hasGoal_15, e_X7_hasGoal_16, e_X7_hasGoal_19, e_X7_hasGoal_19x, e_X7_hasGoal_20, e_X7_hasGoal_21, e_X7_hasGoal_24, e_X7_hasGoal_24x, e_X7_hasGoal_25, e_X7_hasGoal_28, e_X7_hasGoal_29, e_X7_hasGoal_30, e_X7_hasGoal_31, e_X7_hasGoal_32, e_X7_hasGoal_33, e_X7_hasGoal_34, e_X7_hasGoal_35, e_X7_hasGoal_38, e_X7_hasGoal_39, e_X7_hasGoal_42, e_X7_hasGoal_43, zcll_s, zpush_s, zpush_n, zinv_i, zinv_l, zinv_r, zinv_x, zcats_nil, zcats_i, zcats_l, zcats_r, zcats_x, Nat.le_refl, and_self, true_and, and_true, zok_1, zok_20, zok_21, eq_self, Nat.reduceAdd, Nat.reduceLeDiff, Nat.zero_le, if_true, if_false, zw3_id, if_pos, if_neg, zand_t, tg_134, tg_266, tn_266, rr_134_2 hR, q0, hm, rw1]
theorem k_stateIn (x : Int) : zrun X (d + 1) 57 [zi x] (c, s, I, L, R) = some (some (zi (zshr3 x 4)), (c, s, I, L, R)) := by
  refine st_X7_stateIn ?_
  simp (disch := omega) only [e_X7_stateIn_0, e_X7_stateIn_1, e_X7_stateIn_2, e_X7_stateIn_3, zcll_s, zpush_s, zpush_n, zinv_i, zinv_l, zinv_r, zinv_x, zcats_nil, zcats_i, zcats_l, zcats_r, zcats_x, Nat.le_refl, and_self, true_and, and_true, zok_1, zok_20, zok_21, eq_self, Nat.reduceAdd, Nat.reduceLeDiff, Nat.zero_le, if_true, if_false, zw3_id, if_pos, if_neg, zand_t]
theorem k_ruleIn (hk : MOK M) {st e : Int} (h0 : 0 ≤ st) : zrun X (d + 1) 58 [zi (cellV M st e)] (c, s, I, L, R) = some (some (zi (mRu M st e)), (c, s, I, L, R)) := by
  refine st_X7_ruleIn ?_
  have h1 := (cellV_g hk (e := e) h0).2
  have h2 := mRu_r hk (st := st) (e := e)
  have h4 := hk.2.2.2.2.1
  by_cases q : mRu M st e = -1
  · rw [if_pos q] at h1
    rw [q]
    simp (disch := omega) only [e_X7_ruleIn_0, e_X7_ruleIn_1, e_X7_ruleIn_3, e_X7_ruleIn_4, e_X7_ruleIn_5, e_X7_ruleIn_6, e_X7_ruleIn_8, e_X7_ruleIn_11, e_X7_ruleIn_12, e_X7_ruleIn_15, e_X7_ruleIn_16, zcll_s, zpush_s, zpush_n, zinv_i, zinv_l, zinv_r, zinv_x, zcats_nil, zcats_i, zcats_l, zcats_r, zcats_x, Nat.le_refl, and_self, true_and, and_true, zok_1, zok_20, zok_21, eq_self, Nat.reduceAdd, Nat.reduceLeDiff, Nat.zero_le, if_true, if_false, zw3_id, if_pos, if_neg, zand_t, h1]
  · rw [if_neg q] at h1
    simp (disch := omega) only [e_X7_ruleIn_0, e_X7_ruleIn_1, e_X7_ruleIn_3, e_X7_ruleIn_4, e_X7_ruleIn_5, e_X7_ruleIn_6, e_X7_ruleIn_8, e_X7_ruleIn_11, e_X7_ruleIn_12, e_X7_ruleIn_15, e_X7_ruleIn_16, zcll_s, zpush_s, zpush_n, zinv_i, zinv_l, zinv_r, zinv_x, zcats_nil, zcats_i, zcats_l, zcats_r, zcats_x, Nat.le_refl, and_self, true_and, and_true, zok_1, zok_20, zok_21, eq_self, Nat.reduceAdd, Nat.reduceLeDiff, Nat.zero_le, if_true, if_false, zw3_id, if_pos, if_neg, zand_t, h1]
/-- what a walk leaves as it is -/
def KW (I L I1 L1 : ZI) : Prop := (∀ a, a ≠ 266 → a ≠ 267 → a ≠ 268 → a ≠ 269 → a ≠ 337 → I1 a = I a) ∧ ∀ a, a ≠ 269 → L1 a = L a
theorem KW_r : KW I L I L := ⟨fun _ _ _ _ _ _ => rfl, fun _ _ => rfl⟩
theorem KW_t (h1 : KW I L I1 L1) (h2 : KW I1 L1 I2 L2) : KW I L I2 L2 := ⟨fun a q1 q2 q3 q4 q5 => (h2.1 a q1 q2 q3 q4 q5).trans (h1.1 a q1 q2 q3 q4 q5), fun a q => (h2.2 a q).trans (h1.2 a q)⟩
theorem KT_W (h : KT I I1) : KW I L I1 L := ⟨fun a q1 q2 q3 _ q5 => h a q1 q2 q3 q5, fun _ _ => rfl⟩
theorem ClS_w (h : ClS I R b M) (hK : KW I L I1 L1) (hT : Tab I1 M) : ClS I1 R b M := ⟨h.1, h.2.1, h.2.2.1, h.2.2.2.1, h.2.2.2.2.1, ClM_c h.2.2.2.2.2.2.1 (fun a q1 q2 => by have := h.2.1; exact hK.1 a (by omega) (by omega) (by omega) (by omega) (by omega)) h.2.2.2.2.2.1, h.2.2.2.2.2.2.1, hT⟩
theorem Tab_c (h : Tab I M) (h1 : I1 266 = I 266) (h2 : I1 337 = I 337) : Tab I1 M := by
  unfold Tab TabR at h ⊢
  rw [h1, h2]
  exact h
theorem k_begin (h : ClS I R b M) (z i : Int) : zrun X (d + 3) 80 [zr (some 269), zl z, zi i] (c, s, I, L, R) = some (none, (c, s, zu I 269 2 (mS0 M), zu L 269 1 (mlot0 z i), R)) := by
  refine st_X10_begin ?_
  have hR := h.1
  have q := k_firstState (X := X) (d := d) (c := c) (s := s) (L := zu L 269 1 (mlot0 z i)) h
  unfold mlot0 at q ⊢
  simp (disch := omega) only [e_X10_begin_0, e_X10_begin_0x, e_X10_begin_1, e_X10_begin_2, e_X10_begin_3, e_X10_begin_4, e_X10_begin_7, e_X10_begin_8, e_X10_begin_9, e_X10_begin_12, e_X10_begin_12x, e_X10_begin_13, e_X10_begin_13x, e_X10_begin_14, e_X10_begin_17, e_X10_begin_20, e_X10_begin_23, zcll_s, zpush_s, zpush_n, zinv_i, zinv_l, zinv_r, zinv_x, zcats_nil, zcats_i, zcats_l, zcats_r, zcats_x, Nat.le_refl, and_self, true_and, and_true, zok_1, zok_20, zok_21, eq_self, Nat.reduceAdd, Nat.reduceLeDiff, Nat.zero_le, if_true, if_false, zw3_id, if_pos, if_neg, zand_t, tg_134, tg_269, rr_269_0 hR, q]
theorem k_step (h : ClS I R b M) (ht : I 269 2 = t) (h0 : 0 ≤ t) (h1 : t < mPr M.2.1) (hx : L 269 1 = x) : ∃ I1, zrun X (d + 5) 81 [zr (some 269)] (c, s, I, L, R) = some (some (zi (mRu M t (mdr M.1 (mlot x)))), (c, s, I1, zu L 269 1 (mlot x), R)) ∧ (∀ a, a ≠ 266 → a ≠ 267 → a ≠ 268 → a ≠ 269 → a ≠ 337 → I1 a = I a) ∧ Tab I1 M ∧ I1 269 2 = mS M t (mdr M.1 (mlot x)) := by
  obtain ⟨hR, hb, g1, g2, g3, hM, hk, hT⟩ := id h
  have tt := tt_model hb
  have hl := hk.1
  have hdd := mdr_in hl.1 (mlot x)
  obtain ⟨I1, q1, q2, q3⟩ := k_cell (X := X) (d := d) (c := c) (s := s) (L := zu L 269 1 (mlot x)) h t (mdr M.1 (mlot x)) h0 h1 hdd.1 hdd.2
  have q4 := k_ruleIn (X := X) (d := d + 3) (c := c) (s := s) (I := zu I1 269 2 (mS M t (mdr M.1 (mlot x)))) (L := zu L 269 1 (mlot x)) (R := R) hk (e := mdr M.1 (mlot x)) h0
  have e1 := (cellV_g hk (e := mdr M.1 (mlot x)) h0).1
  refine ⟨zu I1 269 2 (mS M t (mdr M.1 (mlot x))), st_X10_step ?_, ?_, ?_, zu_s⟩
  · have h33 := zushr33 (mlot x)
    have eb0 := hM.1
    have hlot : zw6 (zw6 (x * 6364136223846793005) + 1442695040888963407) = mlot x := rfl
    have hrem : zrem6 (zushr6 (mlot x) 33) M.1 = mdr M.1 (mlot x) := zq_rem6 (by unfold zi6; omega) (by omega) (by omega) (by unfold zi6; omega)
    have hmax : (if (1 : Int) < M.1 then M.1 else 1) = M.1 := by split <;> omega
    simp (disch := omega) only [e_X10_step_0, e_X10_step_0x, e_X10_step_1, e_X10_step_1x, e_X10_step_2, e_X10_step_5, e_X10_step_8, e_X10_step_9, e_X10_step_12, e_X10_step_13, e_X10_step_16, e_X10_step_16x, e_X10_step_17, e_X10_step_20, e_X10_step_22, e_X10_step_23, e_X10_step_24, e_X10_step_24x, e_X10_step_25, e_X10_step_28, e_X10_step_31, e_X10_step_34, e_X10_step_37, e_X10_step_38, e_X10_step_39, e_X10_step_40, e_X10_step_41, e_X10_step_41x, e_X10_step_42, e_X10_step_45, e_X10_step_45x, e_X10_step_46, e_X10_step_49, e_X10_step_50, e_X10_step_53, e_X10_step_54, e_X10_step_54x, e_X10_step_55, e_X10_step_56, e_X10_step_59, e_X10_step_62, e_X10_step_63, e_X10_step_66, zcll_s, zpush_s, zpush_n, zinv_i, zinv_l, zinv_r, zinv_x, zcats_nil, zcats_i, zcats_l, zcats_r, zcats_x, Nat.le_refl, and_self, true_and, and_true, zok_1, zok_20, zok_21, eq_self, Nat.reduceAdd, Nat.reduceLeDiff, Nat.zero_le, if_true, if_false, zw3_id, if_pos, if_neg, zand_t, tg_134, tg_269, rr_269_0 hR, g2, tt.1, eb0, hx, hlot, zu_s, hmax, hrem, ht, q1, k_stateIn, e1, q4]
  · intro a ha hb hc hd he
    rw [zu_n hd]
    exact q2 a ha hb hc he
  · exact Tab_c q3 (zu_n (by omega)) (zu_n (by omega))
theorem k_isAt (h : ClS I R b M) (ht : I 269 2 = t) (h0 : 0 ≤ t) (h1 : t < mPr M.2.1) {g : Int} (hg0 : 0 ≤ g) (hg : g < M.2.2.2.length) : ∃ I1, zrun X (d + 5) 82 [zr (some 269), zi g] (c, s, I, L, R) = some (some (zi (zB (mGoal M g.toNat t))), (c, s, I1, L, R)) ∧ KT I I1 ∧ Tab I1 M := by
  have hR := h.1
  obtain ⟨I1, q1, q2, q3⟩ := k_hasGoal (X := X) (d := d) (c := c) (s := s) (L := L) h t g h0 h1 hg0 hg
  refine ⟨I1, st_X10_isAt ?_, q2, q3⟩
  simp (disch := omega) only [e_X10_isAt_0, e_X10_isAt_0x, e_X10_isAt_1, e_X10_isAt_4, e_X10_isAt_4x, e_X10_isAt_5, e_X10_isAt_8, e_X10_isAt_9, e_X10_isAt_12, zcll_s, zpush_s, zpush_n, zinv_i, zinv_l, zinv_r, zinv_x, zcats_nil, zcats_i, zcats_l, zcats_r, zcats_x, Nat.le_refl, and_self, true_and, and_true, zok_1, zok_20, zok_21, eq_self, Nat.reduceAdd, Nat.reduceLeDiff, Nat.zero_le, if_true, if_false, zw3_id, if_pos, if_neg, zand_t, tg_134, tg_269, rr_269_0 hR, ht, q1]
  exact zB_ok
theorem k_valueOf (h : ClS I R b M) (ht : I 269 2 = t) (h0 : 0 ≤ t) (h1 : t < mPr M.2.1) {v : Int} (hv0 : 0 ≤ v) (hv : v < M.2.1.length) : zrun X (d + 2) 83 [zr (some 269), zi v] (c, s, I, L, R) = some (some (zi (mDe M.2.1 t v.toNat)), (c, s, I, L, R)) := by
  refine st_X10_valueOf ?_
  obtain ⟨hR, hb, g1, g2, g3, hM, hk, hT⟩ := id h
  have tt := tt_model hb
  have q := k_valueIn (X := X) (d := d) (c := c) (s := s) (L := L) hR hb hM hk t v h0 h1 hv0 hv
  simp (disch := omega) only [e_X10_valueOf_0, e_X10_valueOf_0x, e_X10_valueOf_1, e_X10_valueOf_4, e_X10_valueOf_7, e_X10_valueOf_7x, e_X10_valueOf_8, e_X10_valueOf_11, e_X10_valueOf_12, e_X10_valueOf_15, zcll_s, zpush_s, zpush_n, zinv_i, zinv_l, zinv_r, zinv_x, zcats_nil, zcats_i, zcats_l, zcats_r, zcats_x, Nat.le_refl, and_self, true_and, and_true, zok_1, zok_20, zok_21, eq_self, Nat.reduceAdd, Nat.reduceLeDiff, Nat.zero_le, if_true, if_false, zw3_id, if_pos, if_neg, zand_t, tg_134, tg_269, rr_269_0 hR, g2, tt.1, ht, q]
end
