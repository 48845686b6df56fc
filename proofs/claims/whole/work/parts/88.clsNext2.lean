/-! The class: next. -/
section
variable {X : ZX} {d c s : Nat} {I L I1 L1 I2 L2 J : ZI} {R R1 R2 : ZR} {call : ZC} {n p : Nat} {x t : Int} {B : Nat → Int}
def sgC (y : Int) : Int := if y = 256 then 65 else y
/-- the class stands at the token from p on -/
def TpC (I : ZI) (B : Nat → Int) (n p : Nat) : Prop := TxC I B n ∧ p ≤ n ∧ I 1 2 = (tF B n p : Int) ∧ I 1 3 = (tT B n p : Int) ∧ I 1 4 = tK B n p ∧ (tK B n p = 1 → I 1 5 = vR 27 96 (tN B n p)) ∧ (tK B n p = 2 → I 1 6 = tV B n p) ∧ (tK B n p = 3 → I 1 7 = sgC (tS B n p))
/-- all that next may touch -/
def FxT (I I1 : ZI) : Prop := (∀ a, a ≠ 1 → I1 a = I a) ∧ I1 1 1 = I 1 1
theorem FxT_r : FxT I I := ⟨fun _ _ => rfl, rfl⟩
theorem FxT_t (h1 : FxT I I1) (h2 : FxT I1 I2) : FxT I I2 := ⟨fun a q => (h2.1 a q).trans (h1.1 a q), h2.2.trans h1.2⟩
theorem FxT_u {k : Nat} {y : Int} (hk : k ≠ 1) : FxT I (zu I 1 k y) := ⟨fun a q => zu_n q, zu_k (Ne.symm hk)⟩
theorem TxC_f (h : FxT I I1) (hT : TxC I B n) : TxC I1 B n := ⟨h.2.trans hT.1, hT.2.1, fun k q => by rw [h.1 2 (by omega)]; exact hT.2.2.1 k q, hT.2.2.2⟩
theorem sgB_and : ∀ y, y < 256 → zi2c (zand3 (sgB ((y : Nat) : Int)) 255) = (y : Int) := by decide +kernel
/-- a sign -/
theorem q_next2 (hR : Rok R) (h : TxC I B n) (hp : p ≤ n) {f : Nat} (hfe : tF B n p = f) (hf : f < n) (q1 : ¬ isLt (B f)) (q2 : ¬ isFg (B f)) : V X (zrun X (d + 4)) mX8_next 222 [zr (some 1), zi (sgB (B f))] [] (c, s, zu (zu I 1 2 (f : Int)) 1 3 (f : Int), L, R) (fun q => ∃ I1, q = (none, (c, s, I1, L, R)) ∧ TpC I1 B n p ∧ FxT I I1) := by
  have hn := h.1
  have h800 := h.2.1
  have q0 : ¬ n ≤ f := by omega
  have ett : tT B n p = gT B n f := by unfold tT; rw [hfe]
  have ekk : tK B n p = gK B n f := by unfold tK; rw [hfe]
  have ess : tS B n p = gS B n f := by unfold tS; rw [hfe]
  have hr := h.2.2.2 f hf
  have hand : zi2c (zand3 (sgB (B f)) 255) = B f := by
    obtain ⟨y, hy⟩ := Int.eq_ofNat_of_zero_le hr.1
    rw [hy]
    exact sgB_and y (by omega)
  have hok : zok 3 (B f) = true := by rw [zok_3]; omega
  have e3 : zu (zu I 1 2 (f : Int)) 1 3 (f : Int) 1 2 = (f : Int) := by rw [zu_k (by omega), zu_s]
  have gk : gK B n f = @ite _ (isSg (B f)) (Classical.propDecidable _) 3 4 := by unfold gK; rw [if_neg q0, if_neg q1, if_neg q2]
  have gt : gT B n f = @ite _ (isAr B n f) (Classical.propDecidable _) (f + 2) (f + 1) := by unfold gT; rw [if_neg q0, if_neg q1, if_neg q2]
  have ix := k_indexOf (X := X) (d := d) (c := c) (s := s) (I := zu (zu (zu I 1 2 (f : Int)) 1 3 ((f : Int) + 1)) 1 7 (B f)) (L := L) (R := R) (e := 1) (by omega) hr.1 hr.2
  have ix : zrun X (d + 4) 177 [zx 2, zi (B f)] (c, s, zu (zu (zu I 1 2 (f : Int)) 1 3 ((f : Int) + 1)) 1 7 (B f), L, R) = some (some (zi (idx (zstr 0) (zi2b (B f)) 0)), (c, s, zu (zu (zu I 1 2 (f : Int)) 1 3 ((f : Int) + 1)) 1 7 (B f), L, R)) := ix
  have hx : (idx (zstr 0) (zi2b (B f)) 0 < 0 ↔ ¬ isSg (B f)) := by
    obtain ⟨y, hy⟩ := Int.eq_ofNat_of_zero_le hr.1
    rw [hy]
    have := (idx_0 y (by omega)).1
    rw [this]
    unfold isSg
    omega
  generalize idx (zstr 0) (zi2b (B f)) 0 = w at ix hx
  have key : ∀ kd : Int, kd = gK B n f → ∃ I1, zrun X (d + 4) 70 [zr (some 1)] (c, s, zu (zu (zu (zu I 1 2 (f : Int)) 1 3 ((f : Int) + 1)) 1 7 (B f)) 1 4 kd, L, R) = some (none, (c, s, I1, L, R)) ∧ TpC I1 B n p ∧ FxT I I1 := by
    intro kd hkd
    have fr : FxT I (zu (zu (zu (zu I 1 2 (f : Int)) 1 3 ((f : Int) + 1)) 1 7 (B f)) 1 4 kd) := FxT_t (FxT_t (FxT_t (FxT_u (by omega)) (FxT_u (by omega))) (FxT_u (by omega))) (FxT_u (by omega))
    have hT := TxC_f fr h
    have k7 : zu (zu (zu (zu I 1 2 (f : Int)) 1 3 ((f : Int) + 1)) 1 7 (B f)) 1 4 kd 1 7 = B f := by rw [zu_k (by omega), zu_s]
    have k3 : zu (zu (zu (zu I 1 2 (f : Int)) 1 3 ((f : Int) + 1)) 1 7 (B f)) 1 4 kd 1 3 = ((f + 1 : Nat) : Int) := by rw [zu_k (by omega), zu_k (by omega), zu_s]; omega
    have k2 : zu (zu (zu (zu I 1 2 (f : Int)) 1 3 ((f : Int) + 1)) 1 7 (B f)) 1 4 kd 1 2 = (f : Int) := by rw [zu_k (by omega), zu_k (by omega), zu_k (by omega), zu_s]
    have k4 : zu (zu (zu (zu I 1 2 (f : Int)) 1 3 ((f : Int) + 1)) 1 7 (B f)) 1 4 kd 1 4 = kd := by rw [zu_s]
    generalize zu (zu (zu (zu I 1 2 (f : Int)) 1 3 ((f : Int) + 1)) 1 7 (B f)) 1 4 kd = S at fr hT k7 k3 k2 k4
    have no12 : ¬ tK B n p = 1 ∧ ¬ tK B n p = 2 := by
      rw [ekk, gk]
      split <;> omega
    by_cases qa : isAr B n f
    · refine ⟨_, k_joinArrow1 (d := d + 3) hR hT k7 k3 qa, ⟨TxC_u (by omega) (TxC_u (by omega) hT), hp, ?_, ?_, ?_, fun z => absurd z no12.1, fun z => absurd z no12.2, ?_⟩, FxT_t fr (FxT_t (FxT_u (by omega)) (FxT_u (by omega)))⟩
      · rw [zu_k (by omega), zu_k (by omega), k2, hfe]
      · rw [zu_s, ett, gt, if_pos qa]
      · rw [zu_k (by omega), zu_k (by omega), k4, hkd, ekk]
      · intro _
        rw [zu_k (by omega), zu_s, ess]
        unfold gS sgC
        rw [if_pos qa, if_pos rfl]
    · refine ⟨_, k_joinArrow0 (d := d + 3) hR hT k7 k3 qa, ⟨hT, hp, ?_, ?_, ?_, fun z => absurd z no12.1, fun z => absurd z no12.2, ?_⟩, fr⟩
      · rw [k2, hfe]
      · rw [k3, ett, gt, if_neg qa]
      · rw [k4, hkd, ekk]
      · intro _
        rw [k7, ess]
        unfold gS sgC
        rw [if_neg qa, if_neg (by omega)]
  rw [e_X8_next_222]
  by_cases qs : isSg (B f)
  · rw [if_pos qs] at gk
    have hw : ¬ w < 0 := fun z => hx.mp z qs
    obtain ⟨I1, g1, g2, g3⟩ := key 3 gk.symm
    clear key gt q1 q2 qs hx
    simp (disch := omega) only [e_X8_next_0, e_X8_next_0x, e_X8_next_1, e_X8_next_1x, e_X8_next_2, e_X8_next_5, e_X8_next_9, e_X8_next_12, e_X8_next_12x, e_X8_next_13, e_X8_next_16, e_X8_next_19, e_X8_next_19x, e_X8_next_20, e_X8_next_23, e_X8_next_26, e_X8_next_29, e_X8_next_29x, e_X8_next_30, e_X8_next_33, e_X8_next_33x, e_X8_next_34, e_X8_next_37, e_X8_next_38, e_X8_next_40, e_X8_next_43, e_X8_next_43x, e_X8_next_44, e_X8_next_47, e_X8_next_47x, e_X8_next_48, e_X8_next_51, e_X8_next_52, e_X8_next_54, e_X8_next_57, e_X8_next_57x, e_X8_next_58, e_X8_next_58r, e_X8_next_59, e_X8_next_62, e_X8_next_63, e_X8_next_64, e_X8_next_67, e_X8_next_71, e_X8_next_71x, e_X8_next_72, e_X8_next_75, e_X8_next_78, e_X8_next_78x, e_X8_next_79, e_X8_next_82, e_X8_next_82x, e_X8_next_83, e_X8_next_86, e_X8_next_89, e_X8_next_89x, e_X8_next_90, e_X8_next_93, e_X8_next_96, e_X8_next_99, e_X8_next_99x, e_X8_next_100, e_X8_next_101, e_X8_next_104, e_X8_next_105, e_X8_next_105x, e_X8_next_106, e_X8_next_109, e_X8_next_109x, e_X8_next_110, e_X8_next_113, e_X8_next_114, e_X8_next_115, e_X8_next_116, e_X8_next_118, e_X8_next_121, e_X8_next_122, e_X8_next_124, e_X8_next_127, e_X8_next_127x, e_X8_next_128, e_X8_next_128x, e_X8_next_129, e_X8_next_131, e_X8_next_133, e_X8_next_135, e_X8_next_137, e_X8_next_140, e_X8_next_143, e_X8_next_143x, e_X8_next_144, e_X8_next_144x, e_X8_next_145, e_X8_next_148, e_X8_next_148x, e_X8_next_149, e_X8_next_152, e_X8_next_153, e_X8_next_155, e_X8_next_158, e_X8_next_159, e_X8_next_162, e_X8_next_163, e_X8_next_166, e_X8_next_169, e_X8_next_170, e_X8_next_172, e_X8_next_175, e_X8_next_176, e_X8_next_178, e_X8_next_181, e_X8_next_181x, e_X8_next_182, e_X8_next_182x, e_X8_next_183, e_X8_next_185, e_X8_next_187, e_X8_next_189, e_X8_next_191, e_X8_next_194, e_X8_next_197, e_X8_next_197x, e_X8_next_198, e_X8_next_198x, e_X8_next_199, e_X8_next_202, e_X8_next_202x, e_X8_next_203, e_X8_next_206, e_X8_next_207, e_X8_next_208, e_X8_next_211, e_X8_next_212, e_X8_next_215, e_X8_next_216, e_X8_next_219, e_X8_next_223, e_X8_next_223x, e_X8_next_224, e_X8_next_227, e_X8_next_228, e_X8_next_229, e_X8_next_232, e_X8_next_232x, e_X8_next_233, e_X8_next_234, e_X8_next_237, e_X8_next_238, e_X8_next_239, e_X8_next_242, e_X8_next_242x, e_X8_next_243, e_X8_next_245, e_X8_next_245x, e_X8_next_246, e_X8_next_249, e_X8_next_252, e_X8_next_255, e_X8_next_256, e_X8_next_259, e_X8_next_260, e_X8_next_263, e_X8_next_263x, e_X8_next_264, e_X8_next_267, zcll_s, zpush_s, zpush_n, zinv_i, zinv_l, zinv_r, zinv_x, zcats_nil, zcats_i, zcats_l, zcats_r, zcats_x, Nat.le_refl, and_self, true_and, and_true, zok_1, zok_20, zok_21, eq_self, Nat.reduceAdd, Nat.reduceLeDiff, Nat.zero_le, if_true, if_false, zw3_id, if_pos, if_neg, zand_t, tg_1, tg_2, tn_2, rr_1_0 hR, zu_s, zu_zu, e3, hand, hok, ix, g1]
    exact ⟨I1, rfl, g2, g3⟩
  · rw [if_neg qs] at gk
    have hw : w < 0 := hx.mpr qs
    obtain ⟨I1, g1, g2, g3⟩ := key 4 gk.symm
    clear key gt q1 q2 qs hx
    simp (disch := omega) only [e_X8_next_0, e_X8_next_0x, e_X8_next_1, e_X8_next_1x, e_X8_next_2, e_X8_next_5, e_X8_next_9, e_X8_next_12, e_X8_next_12x, e_X8_next_13, e_X8_next_16, e_X8_next_19, e_X8_next_19x, e_X8_next_20, e_X8_next_23, e_X8_next_26, e_X8_next_29, e_X8_next_29x, e_X8_next_30, e_X8_next_33, e_X8_next_33x, e_X8_next_34, e_X8_next_37, e_X8_next_38, e_X8_next_40, e_X8_next_43, e_X8_next_43x, e_X8_next_44, e_X8_next_47, e_X8_next_47x, e_X8_next_48, e_X8_next_51, e_X8_next_52, e_X8_next_54, e_X8_next_57, e_X8_next_57x, e_X8_next_58, e_X8_next_58r, e_X8_next_59, e_X8_next_62, e_X8_next_63, e_X8_next_64, e_X8_next_67, e_X8_next_71, e_X8_next_71x, e_X8_next_72, e_X8_next_75, e_X8_next_78, e_X8_next_78x, e_X8_next_79, e_X8_next_82, e_X8_next_82x, e_X8_next_83, e_X8_next_86, e_X8_next_89, e_X8_next_89x, e_X8_next_90, e_X8_next_93, e_X8_next_96, e_X8_next_99, e_X8_next_99x, e_X8_next_100, e_X8_next_101, e_X8_next_104, e_X8_next_105, e_X8_next_105x, e_X8_next_106, e_X8_next_109, e_X8_next_109x, e_X8_next_110, e_X8_next_113, e_X8_next_114, e_X8_next_115, e_X8_next_116, e_X8_next_118, e_X8_next_121, e_X8_next_122, e_X8_next_124, e_X8_next_127, e_X8_next_127x, e_X8_next_128, e_X8_next_128x, e_X8_next_129, e_X8_next_131, e_X8_next_133, e_X8_next_135, e_X8_next_137, e_X8_next_140, e_X8_next_143, e_X8_next_143x, e_X8_next_144, e_X8_next_144x, e_X8_next_145, e_X8_next_148, e_X8_next_148x, e_X8_next_149, e_X8_next_152, e_X8_next_153, e_X8_next_155, e_X8_next_158, e_X8_next_159, e_X8_next_162, e_X8_next_163, e_X8_next_166, e_X8_next_169, e_X8_next_170, e_X8_next_172, e_X8_next_175, e_X8_next_176, e_X8_next_178, e_X8_next_181, e_X8_next_181x, e_X8_next_182, e_X8_next_182x, e_X8_next_183, e_X8_next_185, e_X8_next_187, e_X8_next_189, e_X8_next_191, e_X8_next_194, e_X8_next_197, e_X8_next_197x, e_X8_next_198, e_X8_next_198x, e_X8_next_199, e_X8_next_202, e_X8_next_202x, e_X8_next_203, e_X8_next_206, e_X8_next_207, e_X8_next_208, e_X8_next_211, e_X8_next_212, e_X8_next_215, e_X8_next_216, e_X8_next_219, e_X8_next_223, e_X8_next_223x, e_X8_next_224, e_X8_next_227, e_X8_next_228, e_X8_next_229, e_X8_next_232, e_X8_next_232x, e_X8_next_233, e_X8_next_234, e_X8_next_237, e_X8_next_238, e_X8_next_239, e_X8_next_242, e_X8_next_242x, e_X8_next_243, e_X8_next_245, e_X8_next_245x, e_X8_next_246, e_X8_next_249, e_X8_next_252, e_X8_next_255, e_X8_next_256, e_X8_next_259, e_X8_next_260, e_X8_next_263, e_X8_next_263x, e_X8_next_264, e_X8_next_267, zcll_s, zpush_s, zpush_n, zinv_i, zinv_l, zinv_r, zinv_x, zcats_nil, zcats_i, zcats_l, zcats_r, zcats_x, Nat.le_refl, and_self, true_and, and_true, zok_1, zok_20, zok_21, eq_self, Nat.reduceAdd, Nat.reduceLeDiff, Nat.zero_le, if_true, if_false, zw3_id, if_pos, if_neg, zand_t, tg_1, tg_2, tn_2, rr_1_0 hR, zu_s, zu_zu, e3, hand, hok, ix, g1]
    exact ⟨I1, rfl, g2, g3⟩
/-- next, from where the token begins -/
theorem q_next1 (hR : Rok R) (h : TxC I B n) (hp : p ≤ n) {v1 : ZV} : V X (zrun X (d + 4)) mX8_next 70 [zr (some 1), v1] [] (c, s, zu I 1 2 (tF B n p : Int), L, R) (fun q => ∃ I1, q = (none, (c, s, I1, L, R)) ∧ TpC I1 B n p ∧ FxT I I1) := by
  have hn := h.1
  have h800 := h.2.1
  have hf := @tF_g n p B hp
  generalize hfe : tF B n p = f at hf
  have ett : tT B n p = gT B n f := by unfold tT; rw [hfe]
  have ekk : tK B n p = gK B n f := by unfold tK; rw [hfe]
  have ess : tS B n p = gS B n f := by unfold tS; rw [hfe]
  have hfr : FxT I (zu (zu I 1 2 (f : Int)) 1 3 (f : Int)) := FxT_t (FxT_u (by omega)) (FxT_u (by omega))
  have e1 : zu I 1 2 (f : Int) 1 1 = (n : Int) := by rw [zu_k (by omega)]; exact hn
  have e2 : zu (zu I 1 2 (f : Int)) 1 3 (f : Int) 1 1 = (n : Int) := by rw [zu_k (by omega)]; exact e1
  have e3 : zu (zu I 1 2 (f : Int)) 1 3 (f : Int) 1 2 = (f : Int) := by rw [zu_k (by omega), zu_s]
  have hT2 : TxC (zu I 1 2 (f : Int)) B n := TxC_u (by omega) h
  rw [e_X8_next_70]
  by_cases q0 : n ≤ f
  · have gt : gT B n f = f := by unfold gT; rw [if_pos q0]
    have gk : gK B n f = 0 := by unfold gK; rw [if_pos q0]
    have fin : ∃ I1, ((none : Option ZV), ((c, s, zu (zu (zu I 1 2 (f : Int)) 1 3 (f : Int)) 1 4 0, L, R) : ZS)) = (none, (c, s, I1, L, R)) ∧ TpC I1 B n p ∧ FxT I I1 := by
      refine ⟨_, rfl, ⟨TxC_u (by omega) (TxC_f hfr h), hp, ?_, ?_, ?_, ?_, ?_, ?_⟩, FxT_t hfr (FxT_u (by omega))⟩
      · rw [zu_k (by omega), e3, hfe]
      · rw [zu_k (by omega), zu_s, ett, gt]
      · rw [zu_s, ekk, gk]
      · rw [ekk, gk]; intro z; omega
      · rw [ekk, gk]; intro z; omega
      · rw [ekk, gk]; intro z; omega
    simp (disch := omega) only [e_X8_next_0, e_X8_next_0x, e_X8_next_1, e_X8_next_1x, e_X8_next_2, e_X8_next_5, e_X8_next_9, e_X8_next_12, e_X8_next_12x, e_X8_next_13, e_X8_next_16, e_X8_next_19, e_X8_next_19x, e_X8_next_20, e_X8_next_23, e_X8_next_26, e_X8_next_29, e_X8_next_29x, e_X8_next_30, e_X8_next_33, e_X8_next_33x, e_X8_next_34, e_X8_next_37, e_X8_next_38, e_X8_next_40, e_X8_next_43, e_X8_next_43x, e_X8_next_44, e_X8_next_47, e_X8_next_47x, e_X8_next_48, e_X8_next_51, e_X8_next_52, e_X8_next_54, e_X8_next_57, e_X8_next_57x, e_X8_next_58, e_X8_next_58r, e_X8_next_59, e_X8_next_62, e_X8_next_63, e_X8_next_64, e_X8_next_67, e_X8_next_71, e_X8_next_71x, e_X8_next_72, e_X8_next_75, e_X8_next_78, e_X8_next_78x, e_X8_next_79, e_X8_next_82, e_X8_next_82x, e_X8_next_83, e_X8_next_86, e_X8_next_89, e_X8_next_89x, e_X8_next_90, e_X8_next_93, e_X8_next_96, e_X8_next_99, e_X8_next_99x, e_X8_next_100, e_X8_next_101, e_X8_next_104, e_X8_next_105, e_X8_next_105x, e_X8_next_106, e_X8_next_109, e_X8_next_109x, e_X8_next_110, e_X8_next_113, e_X8_next_114, e_X8_next_115, e_X8_next_116, e_X8_next_118, e_X8_next_121, e_X8_next_122, e_X8_next_124, e_X8_next_127, e_X8_next_127x, e_X8_next_128, e_X8_next_128x, e_X8_next_129, e_X8_next_131, e_X8_next_133, e_X8_next_135, e_X8_next_137, e_X8_next_140, e_X8_next_143, e_X8_next_143x, e_X8_next_144, e_X8_next_144x, e_X8_next_145, e_X8_next_148, e_X8_next_148x, e_X8_next_149, e_X8_next_152, e_X8_next_153, e_X8_next_155, e_X8_next_158, e_X8_next_159, e_X8_next_162, e_X8_next_163, e_X8_next_166, e_X8_next_169, e_X8_next_170, e_X8_next_172, e_X8_next_175, e_X8_next_176, e_X8_next_178, e_X8_next_181, e_X8_next_181x, e_X8_next_182, e_X8_next_182x, e_X8_next_183, e_X8_next_185, e_X8_next_187, e_X8_next_189, e_X8_next_191, e_X8_next_194, e_X8_next_197, e_X8_next_197x, e_X8_next_198, e_X8_next_198x, e_X8_next_199, e_X8_next_202, e_X8_next_202x, e_X8_next_203, e_X8_next_206, e_X8_next_207, e_X8_next_208, e_X8_next_211, e_X8_next_212, e_X8_next_215, e_X8_next_216, e_X8_next_219, e_X8_next_222, e_X8_next_222x, e_X8_next_223, e_X8_next_223x, e_X8_next_224, e_X8_next_227, e_X8_next_228, e_X8_next_229, e_X8_next_232, e_X8_next_232x, e_X8_next_233, e_X8_next_234, e_X8_next_237, e_X8_next_238, e_X8_next_239, e_X8_next_242, e_X8_next_242x, e_X8_next_243, e_X8_next_245, e_X8_next_245x, e_X8_next_246, e_X8_next_249, e_X8_next_252, e_X8_next_255, e_X8_next_256, e_X8_next_259, e_X8_next_260, e_X8_next_263, e_X8_next_263x, e_X8_next_264, e_X8_next_267, zcll_s, zpush_s, zpush_n, zinv_i, zinv_l, zinv_r, zinv_x, zcats_nil, zcats_i, zcats_l, zcats_r, zcats_x, Nat.le_refl, and_self, true_and, and_true, zok_1, zok_20, zok_21, eq_self, Nat.reduceAdd, Nat.reduceLeDiff, Nat.zero_le, if_true, if_false, zw3_id, if_pos, if_neg, zand_t, tg_1, zu_s, e2, e3]
    exact fin
  · have hb : zu (zu I 1 2 (f : Int)) 1 3 (f : Int) 2 f = sgB (B f) := by rw [zu_n (by omega), zu_n (by omega)]; exact h.2.2.1 f (by omega)
    have hr := h.2.2.2 f (by omega)
    by_cases q1 : isLt (B f)
    · have gt : gT B n f = rnE B n 97 122 (n - f) f := by unfold gT; rw [if_neg q0, if_pos q1]
      have gk : gK B n f = if f + 6 < rnE B n 97 122 (n - f) f then 4 else 1 := by
        unfold gK; rw [if_neg q0, if_pos q1, gt]
      have hrn := @rnE_g n B 97 122 (n - f) f
      have esg : sgB (B f) = B f := by unfold sgB; rw [if_pos (by have := q1.2; omega)]
      obtain ⟨v, g1, g2, g3⟩ := k_readRun (X := X) (d := d + 3) (c := c) (s := s) (L := L) hR hT2 (lo := 97) (hi := 122) (z := 96) (b0 := 27) (by omega) (by omega) (by omega) (by omega) (by omega) (by omega) (by omega) f (by omega)
      rw [← gt] at g1 g3 gk hrn
      have htn := hrn.2.1 (by omega)
      have hft := hrn.1
      generalize hte : gT B n f = t at g1 g3 gk htn hft ett
      have k3 : zu (zu (zu I 1 2 (f : Int)) 1 3 (t : Int)) 1 5 v 1 3 = (t : Int) := by rw [zu_k (by omega), zu_s]
      have k2 : zu (zu (zu I 1 2 (f : Int)) 1 3 (t : Int)) 1 5 v 1 2 = (f : Int) := by rw [zu_k (by omega), zu_k (by omega), zu_s]
      have fin : ∀ kd : Int, kd = gK B n f → ∃ I1, ((none : Option ZV), ((c, s, zu (zu (zu (zu I 1 2 (f : Int)) 1 3 (t : Int)) 1 5 v) 1 4 kd, L, R) : ZS)) = (none, (c, s, I1, L, R)) ∧ TpC I1 B n p ∧ FxT I I1 := by
        intro kd hkd
        refine ⟨_, rfl, ⟨TxC_u (by omega) (TxC_u (by omega) (TxC_u (by omega) hT2)), hp, ?_, ?_, ?_, ?_, ?_, ?_⟩, FxT_t (FxT_t (FxT_t (FxT_u (by omega)) (FxT_u (by omega))) (FxT_u (by omega))) (FxT_u (by omega))⟩
        · rw [zu_k (by omega), k2, hfe]
        · rw [zu_k (by omega), k3, ett]
        · rw [zu_s, ekk, hkd]
        · intro z
          have ht6 : t ≤ f + 6 := by
            rw [ekk, gk] at z
            by_cases w : f + 6 < t
            · rw [if_pos w] at z; omega
            · omega
          rw [zu_k (by omega), zu_s, g3 ht6]
          unfold tN
          rw [hfe, ett]
        · intro z
          rw [ekk, gk] at z
          split at z <;> omega
        · intro z
          rw [ekk, gk] at z
          split at z <;> omega
      have q11 := q1.1
      have q12 := q1.2
      by_cases w : f + 6 < t
      · rw [if_pos w] at gk
        have fin' := fin 4 gk.symm
        clear fin g3 hrn q1
        simp (disch := omega) only [e_X8_next_0, e_X8_next_0x, e_X8_next_1, e_X8_next_1x, e_X8_next_2, e_X8_next_5, e_X8_next_9, e_X8_next_12, e_X8_next_12x, e_X8_next_13, e_X8_next_16, e_X8_next_19, e_X8_next_19x, e_X8_next_20, e_X8_next_23, e_X8_next_26, e_X8_next_29, e_X8_next_29x, e_X8_next_30, e_X8_next_33, e_X8_next_33x, e_X8_next_34, e_X8_next_37, e_X8_next_38, e_X8_next_40, e_X8_next_43, e_X8_next_43x, e_X8_next_44, e_X8_next_47, e_X8_next_47x, e_X8_next_48, e_X8_next_51, e_X8_next_52, e_X8_next_54, e_X8_next_57, e_X8_next_57x, e_X8_next_58, e_X8_next_58r, e_X8_next_59, e_X8_next_62, e_X8_next_63, e_X8_next_64, e_X8_next_67, e_X8_next_71, e_X8_next_71x, e_X8_next_72, e_X8_next_75, e_X8_next_78, e_X8_next_78x, e_X8_next_79, e_X8_next_82, e_X8_next_82x, e_X8_next_83, e_X8_next_86, e_X8_next_89, e_X8_next_89x, e_X8_next_90, e_X8_next_93, e_X8_next_96, e_X8_next_99, e_X8_next_99x, e_X8_next_100, e_X8_next_101, e_X8_next_104, e_X8_next_105, e_X8_next_105x, e_X8_next_106, e_X8_next_109, e_X8_next_109x, e_X8_next_110, e_X8_next_113, e_X8_next_114, e_X8_next_115, e_X8_next_116, e_X8_next_118, e_X8_next_121, e_X8_next_122, e_X8_next_124, e_X8_next_127, e_X8_next_127x, e_X8_next_128, e_X8_next_128x, e_X8_next_129, e_X8_next_131, e_X8_next_133, e_X8_next_135, e_X8_next_137, e_X8_next_140, e_X8_next_143, e_X8_next_143x, e_X8_next_144, e_X8_next_144x, e_X8_next_145, e_X8_next_148, e_X8_next_148x, e_X8_next_149, e_X8_next_152, e_X8_next_153, e_X8_next_155, e_X8_next_158, e_X8_next_159, e_X8_next_162, e_X8_next_163, e_X8_next_166, e_X8_next_169, e_X8_next_170, e_X8_next_172, e_X8_next_175, e_X8_next_176, e_X8_next_178, e_X8_next_181, e_X8_next_181x, e_X8_next_182, e_X8_next_182x, e_X8_next_183, e_X8_next_185, e_X8_next_187, e_X8_next_189, e_X8_next_191, e_X8_next_194, e_X8_next_197, e_X8_next_197x, e_X8_next_198, e_X8_next_198x, e_X8_next_199, e_X8_next_202, e_X8_next_202x, e_X8_next_203, e_X8_next_206, e_X8_next_207, e_X8_next_208, e_X8_next_211, e_X8_next_212, e_X8_next_215, e_X8_next_216, e_X8_next_219, e_X8_next_222, e_X8_next_222x, e_X8_next_223, e_X8_next_223x, e_X8_next_224, e_X8_next_227, e_X8_next_228, e_X8_next_229, e_X8_next_232, e_X8_next_232x, e_X8_next_233, e_X8_next_234, e_X8_next_237, e_X8_next_238, e_X8_next_239, e_X8_next_242, e_X8_next_242x, e_X8_next_243, e_X8_next_245, e_X8_next_245x, e_X8_next_246, e_X8_next_249, e_X8_next_252, e_X8_next_255, e_X8_next_256, e_X8_next_259, e_X8_next_260, e_X8_next_263, e_X8_next_263x, e_X8_next_264, e_X8_next_267, zcll_s, zpush_s, zpush_n, zinv_i, zinv_l, zinv_r, zinv_x, zcats_nil, zcats_i, zcats_l, zcats_r, zcats_x, Nat.le_refl, and_self, true_and, and_true, zok_1, zok_20, zok_21, eq_self, Nat.reduceAdd, Nat.reduceLeDiff, Nat.zero_le, if_true, if_false, zw3_id, if_pos, if_neg, zand_t, tg_1, tg_2, tn_2, rr_1_0 hR, zu_s, e2, e3, Int.toNat_natCast, hb, esg, or_true, true_or, g1, k2, k3]
        exact fin'
      · rw [if_neg w] at gk
        have fin' := fin 1 gk.symm
        clear fin g3 hrn q1
        simp (disch := omega) only [e_X8_next_0, e_X8_next_0x, e_X8_next_1, e_X8_next_1x, e_X8_next_2, e_X8_next_5, e_X8_next_9, e_X8_next_12, e_X8_next_12x, e_X8_next_13, e_X8_next_16, e_X8_next_19, e_X8_next_19x, e_X8_next_20, e_X8_next_23, e_X8_next_26, e_X8_next_29, e_X8_next_29x, e_X8_next_30, e_X8_next_33, e_X8_next_33x, e_X8_next_34, e_X8_next_37, e_X8_next_38, e_X8_next_40, e_X8_next_43, e_X8_next_43x, e_X8_next_44, e_X8_next_47, e_X8_next_47x, e_X8_next_48, e_X8_next_51, e_X8_next_52, e_X8_next_54, e_X8_next_57, e_X8_next_57x, e_X8_next_58, e_X8_next_58r, e_X8_next_59, e_X8_next_62, e_X8_next_63, e_X8_next_64, e_X8_next_67, e_X8_next_71, e_X8_next_71x, e_X8_next_72, e_X8_next_75, e_X8_next_78, e_X8_next_78x, e_X8_next_79, e_X8_next_82, e_X8_next_82x, e_X8_next_83, e_X8_next_86, e_X8_next_89, e_X8_next_89x, e_X8_next_90, e_X8_next_93, e_X8_next_96, e_X8_next_99, e_X8_next_99x, e_X8_next_100, e_X8_next_101, e_X8_next_104, e_X8_next_105, e_X8_next_105x, e_X8_next_106, e_X8_next_109, e_X8_next_109x, e_X8_next_110, e_X8_next_113, e_X8_next_114, e_X8_next_115, e_X8_next_116, e_X8_next_118, e_X8_next_121, e_X8_next_122, e_X8_next_124, e_X8_next_127, e_X8_next_127x, e_X8_next_128, e_X8_next_128x, e_X8_next_129, e_X8_next_131, e_X8_next_133, e_X8_next_135, e_X8_next_137, e_X8_next_140, e_X8_next_143, e_X8_next_143x, e_X8_next_144, e_X8_next_144x, e_X8_next_145, e_X8_next_148, e_X8_next_148x, e_X8_next_149, e_X8_next_152, e_X8_next_153, e_X8_next_155, e_X8_next_158, e_X8_next_159, e_X8_next_162, e_X8_next_163, e_X8_next_166, e_X8_next_169, e_X8_next_170, e_X8_next_172, e_X8_next_175, e_X8_next_176, e_X8_next_178, e_X8_next_181, e_X8_next_181x, e_X8_next_182, e_X8_next_182x, e_X8_next_183, e_X8_next_185, e_X8_next_187, e_X8_next_189, e_X8_next_191, e_X8_next_194, e_X8_next_197, e_X8_next_197x, e_X8_next_198, e_X8_next_198x, e_X8_next_199, e_X8_next_202, e_X8_next_202x, e_X8_next_203, e_X8_next_206, e_X8_next_207, e_X8_next_208, e_X8_next_211, e_X8_next_212, e_X8_next_215, e_X8_next_216, e_X8_next_219, e_X8_next_222, e_X8_next_222x, e_X8_next_223, e_X8_next_223x, e_X8_next_224, e_X8_next_227, e_X8_next_228, e_X8_next_229, e_X8_next_232, e_X8_next_232x, e_X8_next_233, e_X8_next_234, e_X8_next_237, e_X8_next_238, e_X8_next_239, e_X8_next_242, e_X8_next_242x, e_X8_next_243, e_X8_next_245, e_X8_next_245x, e_X8_next_246, e_X8_next_249, e_X8_next_252, e_X8_next_255, e_X8_next_256, e_X8_next_259, e_X8_next_260, e_X8_next_263, e_X8_next_263x, e_X8_next_264, e_X8_next_267, zcll_s, zpush_s, zpush_n, zinv_i, zinv_l, zinv_r, zinv_x, zcats_nil, zcats_i, zcats_l, zcats_r, zcats_x, Nat.le_refl, and_self, true_and, and_true, zok_1, zok_20, zok_21, eq_self, Nat.reduceAdd, Nat.reduceLeDiff, Nat.zero_le, if_true, if_false, zw3_id, if_pos, if_neg, zand_t, tg_1, tg_2, tn_2, rr_1_0 hR, zu_s, e2, e3, Int.toNat_natCast, hb, esg, or_true, true_or, g1, k2, k3]
        exact fin'
    · by_cases q2 : isFg (B f)
      · have gt : gT B n f = rnE B n 48 57 (n - f) f := by unfold gT; rw [if_neg q0, if_neg q1, if_pos q2]
        have gk : gK B n f = if f + 2 < rnE B n 48 57 (n - f) f then 4 else 2 := by
          unfold gK; rw [if_neg q0, if_neg q1, if_pos q2, gt]
        have hrn := @rnE_g n B 48 57 (n - f) f
        have esg : sgB (B f) = B f := by unfold sgB; rw [if_pos (by have := q2.2; omega)]
        obtain ⟨v, g1, g2, g3⟩ := k_readRun (X := X) (d := d + 3) (c := c) (s := s) (L := L) hR hT2 (lo := 48) (hi := 57) (z := 48) (b0 := 10) (by omega) (by omega) (by omega) (by omega) (by omega) (by omega) (by omega) f (by omega)
        rw [← gt] at g1 g3 gk hrn
        have htn := hrn.2.1 (by omega)
        have hft := hrn.1
        generalize hte : gT B n f = t at g1 g3 gk htn hft ett
        have k3 : zu (zu (zu I 1 2 (f : Int)) 1 3 (t : Int)) 1 6 v 1 3 = (t : Int) := by rw [zu_k (by omega), zu_s]
        have k2 : zu (zu (zu I 1 2 (f : Int)) 1 3 (t : Int)) 1 6 v 1 2 = (f : Int) := by rw [zu_k (by omega), zu_k (by omega), zu_s]
        have fin : ∀ kd : Int, kd = gK B n f → ∃ I1, ((none : Option ZV), ((c, s, zu (zu (zu (zu I 1 2 (f : Int)) 1 3 (t : Int)) 1 6 v) 1 4 kd, L, R) : ZS)) = (none, (c, s, I1, L, R)) ∧ TpC I1 B n p ∧ FxT I I1 := by
          intro kd hkd
          refine ⟨_, rfl, ⟨TxC_u (by omega) (TxC_u (by omega) (TxC_u (by omega) hT2)), hp, ?_, ?_, ?_, ?_, ?_, ?_⟩, FxT_t (FxT_t (FxT_t (FxT_u (by omega)) (FxT_u (by omega))) (FxT_u (by omega))) (FxT_u (by omega))⟩
          · rw [zu_k (by omega), k2, hfe]
          · rw [zu_k (by omega), k3, ett]
          · rw [zu_s, ekk, hkd]
          · intro z
            rw [ekk, gk] at z
            split at z <;> omega
          · intro z
            have ht6 : t ≤ f + 6 := by
              rw [ekk, gk] at z
              by_cases w : f + 2 < t
              · rw [if_pos w] at z; omega
              · omega
            rw [zu_k (by omega), zu_s, g3 ht6]
            unfold tV tN
            rw [hfe, ett]
          · intro z
            rw [ekk, gk] at z
            split at z <;> omega
        have q11 := q2.1
        have q12 := q2.2
        by_cases w : f + 2 < t
        · rw [if_pos w] at gk
          have fin' := fin 4 gk.symm
          clear fin g3 hrn q1 q2
          simp (disch := omega) only [e_X8_next_0, e_X8_next_0x, e_X8_next_1, e_X8_next_1x, e_X8_next_2, e_X8_next_5, e_X8_next_9, e_X8_next_12, e_X8_next_12x, e_X8_next_13, e_X8_next_16, e_X8_next_19, e_X8_next_19x, e_X8_next_20, e_X8_next_23, e_X8_next_26, e_X8_next_29, e_X8_next_29x, e_X8_next_30, e_X8_next_33, e_X8_next_33x, e_X8_next_34, e_X8_next_37, e_X8_next_38, e_X8_next_40, e_X8_next_43, e_X8_next_43x, e_X8_next_44, e_X8_next_47, e_X8_next_47x, e_X8_next_48, e_X8_next_51, e_X8_next_52, e_X8_next_54, e_X8_next_57, e_X8_next_57x, e_X8_next_58, e_X8_next_58r, e_X8_next_59, e_X8_next_62, e_X8_next_63, e_X8_next_64, e_X8_next_67, e_X8_next_71, e_X8_next_71x, e_X8_next_72, e_X8_next_75, e_X8_next_78, e_X8_next_78x, e_X8_next_79, e_X8_next_82, e_X8_next_82x, e_X8_next_83, e_X8_next_86, e_X8_next_89, e_X8_next_89x, e_X8_next_90, e_X8_next_93, e_X8_next_96, e_X8_next_99, e_X8_next_99x, e_X8_next_100, e_X8_next_101, e_X8_next_104, e_X8_next_105, e_X8_next_105x, e_X8_next_106, e_X8_next_109, e_X8_next_109x, e_X8_next_110, e_X8_next_113, e_X8_next_114, e_X8_next_115, e_X8_next_116, e_X8_next_118, e_X8_next_121, e_X8_next_122, e_X8_next_124, e_X8_next_127, e_X8_next_127x, e_X8_next_128, e_X8_next_128x, e_X8_next_129, e_X8_next_131, e_X8_next_133, e_X8_next_135, e_X8_next_137, e_X8_next_140, e_X8_next_143, e_X8_next_143x, e_X8_next_144, e_X8_next_144x, e_X8_next_145, e_X8_next_148, e_X8_next_148x, e_X8_next_149, e_X8_next_152, e_X8_next_153, e_X8_next_155, e_X8_next_158, e_X8_next_159, e_X8_next_162, e_X8_next_163, e_X8_next_166, e_X8_next_169, e_X8_next_170, e_X8_next_172, e_X8_next_175, e_X8_next_176, e_X8_next_178, e_X8_next_181, e_X8_next_181x, e_X8_next_182, e_X8_next_182x, e_X8_next_183, e_X8_next_185, e_X8_next_187, e_X8_next_189, e_X8_next_191, e_X8_next_194, e_X8_next_197, e_X8_next_197x, e_X8_next_198, e_X8_next_198x, e_X8_next_199, e_X8_next_202, e_X8_next_202x, e_X8_next_203, e_X8_next_206, e_X8_next_207, e_X8_next_208, e_X8_next_211, e_X8_next_212, e_X8_next_215, e_X8_next_216, e_X8_next_219, e_X8_next_222, e_X8_next_222x, e_X8_next_223, e_X8_next_223x, e_X8_next_224, e_X8_next_227, e_X8_next_228, e_X8_next_229, e_X8_next_232, e_X8_next_232x, e_X8_next_233, e_X8_next_234, e_X8_next_237, e_X8_next_238, e_X8_next_239, e_X8_next_242, e_X8_next_242x, e_X8_next_243, e_X8_next_245, e_X8_next_245x, e_X8_next_246, e_X8_next_249, e_X8_next_252, e_X8_next_255, e_X8_next_256, e_X8_next_259, e_X8_next_260, e_X8_next_263, e_X8_next_263x, e_X8_next_264, e_X8_next_267, zcll_s, zpush_s, zpush_n, zinv_i, zinv_l, zinv_r, zinv_x, zcats_nil, zcats_i, zcats_l, zcats_r, zcats_x, Nat.le_refl, and_self, true_and, and_true, zok_1, zok_20, zok_21, eq_self, Nat.reduceAdd, Nat.reduceLeDiff, Nat.zero_le, if_true, if_false, zw3_id, if_pos, if_neg, zand_t, tg_1, tg_2, tn_2, rr_1_0 hR, zu_s, e2, e3, Int.toNat_natCast, hb, esg, or_true, true_or, g1, k2, k3]
          exact fin'
        · rw [if_neg w] at gk
          have fin' := fin 2 gk.symm
          clear fin g3 hrn q1 q2
          simp (disch := omega) only [e_X8_next_0, e_X8_next_0x, e_X8_next_1, e_X8_next_1x, e_X8_next_2, e_X8_next_5, e_X8_next_9, e_X8_next_12, e_X8_next_12x, e_X8_next_13, e_X8_next_16, e_X8_next_19, e_X8_next_19x, e_X8_next_20, e_X8_next_23, e_X8_next_26, e_X8_next_29, e_X8_next_29x, e_X8_next_30, e_X8_next_33, e_X8_next_33x, e_X8_next_34, e_X8_next_37, e_X8_next_38, e_X8_next_40, e_X8_next_43, e_X8_next_43x, e_X8_next_44, e_X8_next_47, e_X8_next_47x, e_X8_next_48, e_X8_next_51, e_X8_next_52, e_X8_next_54, e_X8_next_57, e_X8_next_57x, e_X8_next_58, e_X8_next_58r, e_X8_next_59, e_X8_next_62, e_X8_next_63, e_X8_next_64, e_X8_next_67, e_X8_next_71, e_X8_next_71x, e_X8_next_72, e_X8_next_75, e_X8_next_78, e_X8_next_78x, e_X8_next_79, e_X8_next_82, e_X8_next_82x, e_X8_next_83, e_X8_next_86, e_X8_next_89, e_X8_next_89x, e_X8_next_90, e_X8_next_93, e_X8_next_96, e_X8_next_99, e_X8_next_99x, e_X8_next_100, e_X8_next_101, e_X8_next_104, e_X8_next_105, e_X8_next_105x, e_X8_next_106, e_X8_next_109, e_X8_next_109x, e_X8_next_110, e_X8_next_113, e_X8_next_114, e_X8_next_115, e_X8_next_116, e_X8_next_118, e_X8_next_121, e_X8_next_122, e_X8_next_124, e_X8_next_127, e_X8_next_127x, e_X8_next_128, e_X8_next_128x, e_X8_next_129, e_X8_next_131, e_X8_next_133, e_X8_next_135, e_X8_next_137, e_X8_next_140, e_X8_next_143, e_X8_next_143x, e_X8_next_144, e_X8_next_144x, e_X8_next_145, e_X8_next_148, e_X8_next_148x, e_X8_next_149, e_X8_next_152, e_X8_next_153, e_X8_next_155, e_X8_next_158, e_X8_next_159, e_X8_next_162, e_X8_next_163, e_X8_next_166, e_X8_next_169, e_X8_next_170, e_X8_next_172, e_X8_next_175, e_X8_next_176, e_X8_next_178, e_X8_next_181, e_X8_next_181x, e_X8_next_182, e_X8_next_182x, e_X8_next_183, e_X8_next_185, e_X8_next_187, e_X8_next_189, e_X8_next_191, e_X8_next_194, e_X8_next_197, e_X8_next_197x, e_X8_next_198, e_X8_next_198x, e_X8_next_199, e_X8_next_202, e_X8_next_202x, e_X8_next_203, e_X8_next_206, e_X8_next_207, e_X8_next_208, e_X8_next_211, e_X8_next_212, e_X8_next_215, e_X8_next_216, e_X8_next_219, e_X8_next_222, e_X8_next_222x, e_X8_next_223, e_X8_next_223x, e_X8_next_224, e_X8_next_227, e_X8_next_228, e_X8_next_229, e_X8_next_232, e_X8_next_232x, e_X8_next_233, e_X8_next_234, e_X8_next_237, e_X8_next_238, e_X8_next_239, e_X8_next_242, e_X8_next_242x, e_X8_next_243, e_X8_next_245, e_X8_next_245x, e_X8_next_246, e_X8_next_249, e_X8_next_252, e_X8_next_255, e_X8_next_256, e_X8_next_259, e_X8_next_260, e_X8_next_263, e_X8_next_263x, e_X8_next_264, e_X8_next_267, zcll_s, zpush_s, zpush_n, zinv_i, zinv_l, zinv_r, zinv_x, zcats_nil, zcats_i, zcats_l, zcats_r, zcats_x, Nat.le_refl, and_self, true_and, and_true, zok_1, zok_20, zok_21, eq_self, Nat.reduceAdd, Nat.reduceLeDiff, Nat.zero_le, if_true, if_false, zw3_id, if_pos, if_neg, zand_t, tg_1, tg_2, tn_2, rr_1_0 hR, zu_s, e2, e3, Int.toNat_natCast, hb, esg, or_true, true_or, g1, k2, k3]
          exact fin'
      · have fin := q_next2 (X := X) (d := d) (c := c) (s := s) (L := L) hR h hp hfe (by omega) q1 q2
        have a1 : ¬ (97 ≤ sgB (B f) ∧ sgB (B f) ≤ 122) := fun z => q1 ((sgB_i hr.1 hr.2 (by omega) (by omega)).mp z)
        have a2 : ¬ (48 ≤ sgB (B f) ∧ sgB (B f) ≤ 57) := fun z => q2 ((sgB_i hr.1 hr.2 (by omega) (by omega)).mp z)
        generalize sgB (B f) = y at hb fin a1 a2
        by_cases b1 : y < 48
        · clear a1 a2 q1 q2
          simp (disch := omega) only [e_X8_next_0, e_X8_next_0x, e_X8_next_1, e_X8_next_1x, e_X8_next_2, e_X8_next_5, e_X8_next_9, e_X8_next_12, e_X8_next_12x, e_X8_next_13, e_X8_next_16, e_X8_next_19, e_X8_next_19x, e_X8_next_20, e_X8_next_23, e_X8_next_26, e_X8_next_29, e_X8_next_29x, e_X8_next_30, e_X8_next_33, e_X8_next_33x, e_X8_next_34, e_X8_next_37, e_X8_next_38, e_X8_next_40, e_X8_next_43, e_X8_next_43x, e_X8_next_44, e_X8_next_47, e_X8_next_47x, e_X8_next_48, e_X8_next_51, e_X8_next_52, e_X8_next_54, e_X8_next_57, e_X8_next_57x, e_X8_next_58, e_X8_next_58r, e_X8_next_59, e_X8_next_62, e_X8_next_63, e_X8_next_64, e_X8_next_67, e_X8_next_71, e_X8_next_71x, e_X8_next_72, e_X8_next_75, e_X8_next_78, e_X8_next_78x, e_X8_next_79, e_X8_next_82, e_X8_next_82x, e_X8_next_83, e_X8_next_86, e_X8_next_89, e_X8_next_89x, e_X8_next_90, e_X8_next_93, e_X8_next_96, e_X8_next_99, e_X8_next_99x, e_X8_next_100, e_X8_next_101, e_X8_next_104, e_X8_next_105, e_X8_next_105x, e_X8_next_106, e_X8_next_109, e_X8_next_109x, e_X8_next_110, e_X8_next_113, e_X8_next_114, e_X8_next_115, e_X8_next_116, e_X8_next_118, e_X8_next_121, e_X8_next_122, e_X8_next_124, e_X8_next_127, e_X8_next_127x, e_X8_next_128, e_X8_next_128x, e_X8_next_129, e_X8_next_131, e_X8_next_133, e_X8_next_135, e_X8_next_137, e_X8_next_140, e_X8_next_143, e_X8_next_143x, e_X8_next_144, e_X8_next_144x, e_X8_next_145, e_X8_next_148, e_X8_next_148x, e_X8_next_149, e_X8_next_152, e_X8_next_153, e_X8_next_155, e_X8_next_158, e_X8_next_159, e_X8_next_162, e_X8_next_163, e_X8_next_166, e_X8_next_169, e_X8_next_170, e_X8_next_172, e_X8_next_175, e_X8_next_176, e_X8_next_178, e_X8_next_181, e_X8_next_181x, e_X8_next_182, e_X8_next_182x, e_X8_next_183, e_X8_next_185, e_X8_next_187, e_X8_next_189, e_X8_next_191, e_X8_next_194, e_X8_next_197, e_X8_next_197x, e_X8_next_198, e_X8_next_198x, e_X8_next_199, e_X8_next_202, e_X8_next_202x, e_X8_next_203, e_X8_next_206, e_X8_next_207, e_X8_next_208, e_X8_next_211, e_X8_next_212, e_X8_next_215, e_X8_next_216, e_X8_next_219, e_X8_next_223, e_X8_next_223x, e_X8_next_224, e_X8_next_227, e_X8_next_228, e_X8_next_229, e_X8_next_232, e_X8_next_232x, e_X8_next_233, e_X8_next_234, e_X8_next_237, e_X8_next_238, e_X8_next_239, e_X8_next_242, e_X8_next_242x, e_X8_next_243, e_X8_next_245, e_X8_next_245x, e_X8_next_246, e_X8_next_249, e_X8_next_252, e_X8_next_255, e_X8_next_256, e_X8_next_259, e_X8_next_260, e_X8_next_263, e_X8_next_263x, e_X8_next_264, e_X8_next_267, zcll_s, zpush_s, zpush_n, zinv_i, zinv_l, zinv_r, zinv_x, zcats_nil, zcats_i, zcats_l, zcats_r, zcats_x, Nat.le_refl, and_self, true_and, and_true, zok_1, zok_20, zok_21, eq_self, Nat.reduceAdd, Nat.reduceLeDiff, Nat.zero_le, if_true, if_false, zw3_id, if_pos, if_neg, zand_t, tg_1, tg_2, tn_2, rr_1_0 hR, zu_s, e2, e3, Int.toNat_natCast, hb, or_true, true_or]
          exact fin
        · by_cases b2 : y < 97
          · have b3 : 57 < y := by omega
            clear a1 a2 q1 q2
            simp (disch := omega) only [e_X8_next_0, e_X8_next_0x, e_X8_next_1, e_X8_next_1x, e_X8_next_2, e_X8_next_5, e_X8_next_9, e_X8_next_12, e_X8_next_12x, e_X8_next_13, e_X8_next_16, e_X8_next_19, e_X8_next_19x, e_X8_next_20, e_X8_next_23, e_X8_next_26, e_X8_next_29, e_X8_next_29x, e_X8_next_30, e_X8_next_33, e_X8_next_33x, e_X8_next_34, e_X8_next_37, e_X8_next_38, e_X8_next_40, e_X8_next_43, e_X8_next_43x, e_X8_next_44, e_X8_next_47, e_X8_next_47x, e_X8_next_48, e_X8_next_51, e_X8_next_52, e_X8_next_54, e_X8_next_57, e_X8_next_57x, e_X8_next_58, e_X8_next_58r, e_X8_next_59, e_X8_next_62, e_X8_next_63, e_X8_next_64, e_X8_next_67, e_X8_next_71, e_X8_next_71x, e_X8_next_72, e_X8_next_75, e_X8_next_78, e_X8_next_78x, e_X8_next_79, e_X8_next_82, e_X8_next_82x, e_X8_next_83, e_X8_next_86, e_X8_next_89, e_X8_next_89x, e_X8_next_90, e_X8_next_93, e_X8_next_96, e_X8_next_99, e_X8_next_99x, e_X8_next_100, e_X8_next_101, e_X8_next_104, e_X8_next_105, e_X8_next_105x, e_X8_next_106, e_X8_next_109, e_X8_next_109x, e_X8_next_110, e_X8_next_113, e_X8_next_114, e_X8_next_115, e_X8_next_116, e_X8_next_118, e_X8_next_121, e_X8_next_122, e_X8_next_124, e_X8_next_127, e_X8_next_127x, e_X8_next_128, e_X8_next_128x, e_X8_next_129, e_X8_next_131, e_X8_next_133, e_X8_next_135, e_X8_next_137, e_X8_next_140, e_X8_next_143, e_X8_next_143x, e_X8_next_144, e_X8_next_144x, e_X8_next_145, e_X8_next_148, e_X8_next_148x, e_X8_next_149, e_X8_next_152, e_X8_next_153, e_X8_next_155, e_X8_next_158, e_X8_next_159, e_X8_next_162, e_X8_next_163, e_X8_next_166, e_X8_next_169, e_X8_next_170, e_X8_next_172, e_X8_next_175, e_X8_next_176, e_X8_next_178, e_X8_next_181, e_X8_next_181x, e_X8_next_182, e_X8_next_182x, e_X8_next_183, e_X8_next_185, e_X8_next_187, e_X8_next_189, e_X8_next_191, e_X8_next_194, e_X8_next_197, e_X8_next_197x, e_X8_next_198, e_X8_next_198x, e_X8_next_199, e_X8_next_202, e_X8_next_202x, e_X8_next_203, e_X8_next_206, e_X8_next_207, e_X8_next_208, e_X8_next_211, e_X8_next_212, e_X8_next_215, e_X8_next_216, e_X8_next_219, e_X8_next_223, e_X8_next_223x, e_X8_next_224, e_X8_next_227, e_X8_next_228, e_X8_next_229, e_X8_next_232, e_X8_next_232x, e_X8_next_233, e_X8_next_234, e_X8_next_237, e_X8_next_238, e_X8_next_239, e_X8_next_242, e_X8_next_242x, e_X8_next_243, e_X8_next_245, e_X8_next_245x, e_X8_next_246, e_X8_next_249, e_X8_next_252, e_X8_next_255, e_X8_next_256, e_X8_next_259, e_X8_next_260, e_X8_next_263, e_X8_next_263x, e_X8_next_264, e_X8_next_267, zcll_s, zpush_s, zpush_n, zinv_i, zinv_l, zinv_r, zinv_x, zcats_nil, zcats_i, zcats_l, zcats_r, zcats_x, Nat.le_refl, and_self, true_and, and_true, zok_1, zok_20, zok_21, eq_self, Nat.reduceAdd, Nat.reduceLeDiff, Nat.zero_le, if_true, if_false, zw3_id, if_pos, if_neg, zand_t, tg_1, tg_2, tn_2, rr_1_0 hR, zu_s, e2, e3, Int.toNat_natCast, hb, or_true, true_or]
            exact fin
          · have b3 : 122 < y := by omega
            clear a1 a2 q1 q2
            simp (disch := omega) only [e_X8_next_0, e_X8_next_0x, e_X8_next_1, e_X8_next_1x, e_X8_next_2, e_X8_next_5, e_X8_next_9, e_X8_next_12, e_X8_next_12x, e_X8_next_13, e_X8_next_16, e_X8_next_19, e_X8_next_19x, e_X8_next_20, e_X8_next_23, e_X8_next_26, e_X8_next_29, e_X8_next_29x, e_X8_next_30, e_X8_next_33, e_X8_next_33x, e_X8_next_34, e_X8_next_37, e_X8_next_38, e_X8_next_40, e_X8_next_43, e_X8_next_43x, e_X8_next_44, e_X8_next_47, e_X8_next_47x, e_X8_next_48, e_X8_next_51, e_X8_next_52, e_X8_next_54, e_X8_next_57, e_X8_next_57x, e_X8_next_58, e_X8_next_58r, e_X8_next_59, e_X8_next_62, e_X8_next_63, e_X8_next_64, e_X8_next_67, e_X8_next_71, e_X8_next_71x, e_X8_next_72, e_X8_next_75, e_X8_next_78, e_X8_next_78x, e_X8_next_79, e_X8_next_82, e_X8_next_82x, e_X8_next_83, e_X8_next_86, e_X8_next_89, e_X8_next_89x, e_X8_next_90, e_X8_next_93, e_X8_next_96, e_X8_next_99, e_X8_next_99x, e_X8_next_100, e_X8_next_101, e_X8_next_104, e_X8_next_105, e_X8_next_105x, e_X8_next_106, e_X8_next_109, e_X8_next_109x, e_X8_next_110, e_X8_next_113, e_X8_next_114, e_X8_next_115, e_X8_next_116, e_X8_next_118, e_X8_next_121, e_X8_next_122, e_X8_next_124, e_X8_next_127, e_X8_next_127x, e_X8_next_128, e_X8_next_128x, e_X8_next_129, e_X8_next_131, e_X8_next_133, e_X8_next_135, e_X8_next_137, e_X8_next_140, e_X8_next_143, e_X8_next_143x, e_X8_next_144, e_X8_next_144x, e_X8_next_145, e_X8_next_148, e_X8_next_148x, e_X8_next_149, e_X8_next_152, e_X8_next_153, e_X8_next_155, e_X8_next_158, e_X8_next_159, e_X8_next_162, e_X8_next_163, e_X8_next_166, e_X8_next_169, e_X8_next_170, e_X8_next_172, e_X8_next_175, e_X8_next_176, e_X8_next_178, e_X8_next_181, e_X8_next_181x, e_X8_next_182, e_X8_next_182x, e_X8_next_183, e_X8_next_185, e_X8_next_187, e_X8_next_189, e_X8_next_191, e_X8_next_194, e_X8_next_197, e_X8_next_197x, e_X8_next_198, e_X8_next_198x, e_X8_next_199, e_X8_next_202, e_X8_next_202x, e_X8_next_203, e_X8_next_206, e_X8_next_207, e_X8_next_208, e_X8_next_211, e_X8_next_212, e_X8_next_215, e_X8_next_216, e_X8_next_219, e_X8_next_223, e_X8_next_223x, e_X8_next_224, e_X8_next_227, e_X8_next_228, e_X8_next_229, e_X8_next_232, e_X8_next_232x, e_X8_next_233, e_X8_next_234, e_X8_next_237, e_X8_next_238, e_X8_next_239, e_X8_next_242, e_X8_next_242x, e_X8_next_243, e_X8_next_245, e_X8_next_245x, e_X8_next_246, e_X8_next_249, e_X8_next_252, e_X8_next_255, e_X8_next_256, e_X8_next_259, e_X8_next_260, e_X8_next_263, e_X8_next_263x, e_X8_next_264, e_X8_next_267, zcll_s, zpush_s, zpush_n, zinv_i, zinv_l, zinv_r, zinv_x, zcats_nil, zcats_i, zcats_l, zcats_r, zcats_x, Nat.le_refl, and_self, true_and, and_true, zok_1, zok_20, zok_21, eq_self, Nat.reduceAdd, Nat.reduceLeDiff, Nat.zero_le, if_true, if_false, zw3_id, if_pos, if_neg, zand_t, tg_1, tg_2, tn_2, rr_1_0 hR, zu_s, e2, e3, Int.toNat_natCast, hb, or_true, true_or]
            exact fin
theorem k_next (hR : Rok R) (h : TxC I B n) (hp : p ≤ n) (h3 : I 1 3 = (p : Int)) : ∃ I1, zrun X (d + 5) 68 [zr (some 1)] (c, s, I, L, R) = some (none, (c, s, I1, L, R)) ∧ TpC I1 B n p ∧ FxT I I1 := by
  have pr := sx_X8_next (X := X) (d := d + 4) (u0 := some 1) (σ := (c, s, I, L, R)) (P := fun q => ∃ I1, q = (none, (c, s, I1, L, R)) ∧ TpC I1 B n p ∧ FxT I I1) ?_
  · obtain ⟨r, s1, I1, s2, s3, s4⟩ := pr
    rw [s2] at s1
    exact ⟨I1, s1, s3, s4⟩
  · have q := q_next0 (X := X) (call := zrun X (d + 4)) (c := c) (s := s) (L := L) hR h (v1 := zx 0) (n - p) p rfl hp (q_next1 (X := X) (d := d) (c := c) (s := s) (L := L) hR h hp)
    simp (disch := omega) only [e_X8_next_0, e_X8_next_0x, e_X8_next_1, e_X8_next_1x, e_X8_next_2, e_X8_next_5, e_X8_next_9, e_X8_next_12, e_X8_next_12x, e_X8_next_13, e_X8_next_16, e_X8_next_19, e_X8_next_19x, e_X8_next_20, e_X8_next_23, e_X8_next_26, e_X8_next_29, e_X8_next_29x, e_X8_next_30, e_X8_next_33, e_X8_next_33x, e_X8_next_34, e_X8_next_37, e_X8_next_38, e_X8_next_40, e_X8_next_43, e_X8_next_43x, e_X8_next_44, e_X8_next_47, e_X8_next_47x, e_X8_next_48, e_X8_next_51, e_X8_next_52, e_X8_next_54, e_X8_next_57, e_X8_next_57x, e_X8_next_58, e_X8_next_58r, e_X8_next_59, e_X8_next_62, e_X8_next_63, e_X8_next_64, e_X8_next_67, e_X8_next_71, e_X8_next_71x, e_X8_next_72, e_X8_next_75, e_X8_next_78, e_X8_next_78x, e_X8_next_79, e_X8_next_82, e_X8_next_82x, e_X8_next_83, e_X8_next_86, e_X8_next_89, e_X8_next_89x, e_X8_next_90, e_X8_next_93, e_X8_next_96, e_X8_next_99, e_X8_next_99x, e_X8_next_100, e_X8_next_101, e_X8_next_104, e_X8_next_105, e_X8_next_105x, e_X8_next_106, e_X8_next_109, e_X8_next_109x, e_X8_next_110, e_X8_next_113, e_X8_next_114, e_X8_next_115, e_X8_next_116, e_X8_next_118, e_X8_next_121, e_X8_next_122, e_X8_next_124, e_X8_next_127, e_X8_next_127x, e_X8_next_128, e_X8_next_128x, e_X8_next_129, e_X8_next_131, e_X8_next_133, e_X8_next_135, e_X8_next_137, e_X8_next_140, e_X8_next_143, e_X8_next_143x, e_X8_next_144, e_X8_next_144x, e_X8_next_145, e_X8_next_148, e_X8_next_148x, e_X8_next_149, e_X8_next_152, e_X8_next_153, e_X8_next_155, e_X8_next_158, e_X8_next_159, e_X8_next_162, e_X8_next_163, e_X8_next_166, e_X8_next_169, e_X8_next_170, e_X8_next_172, e_X8_next_175, e_X8_next_176, e_X8_next_178, e_X8_next_181, e_X8_next_181x, e_X8_next_182, e_X8_next_182x, e_X8_next_183, e_X8_next_185, e_X8_next_187, e_X8_next_189, e_X8_next_191, e_X8_next_194, e_X8_next_197, e_X8_next_197x, e_X8_next_198, e_X8_next_198x, e_X8_next_199, e_X8_next_202, e_X8_next_202x, e_X8_next_203, e_X8_next_206, e_X8_next_207, e_X8_next_208, e_X8_next_211, e_X8_next_212, e_X8_next_215, e_X8_next_216, e_X8_next_219, e_X8_next_222, e_X8_next_222x, e_X8_next_223, e_X8_next_223x, e_X8_next_224, e_X8_next_227, e_X8_next_228, e_X8_next_229, e_X8_next_232, e_X8_next_232x, e_X8_next_233, e_X8_next_234, e_X8_next_237, e_X8_next_238, e_X8_next_239, e_X8_next_242, e_X8_next_242x, e_X8_next_243, e_X8_next_245, e_X8_next_245x, e_X8_next_246, e_X8_next_249, e_X8_next_252, e_X8_next_255, e_X8_next_256, e_X8_next_259, e_X8_next_260, e_X8_next_263, e_X8_next_263x, e_X8_next_264, e_X8_next_267, zcll_s, zpush_s, zpush_n, zinv_i, zinv_l, zinv_r, zinv_x, zcats_nil, zcats_i, zcats_l, zcats_r, zcats_x, Nat.le_refl, and_self, true_and, and_true, zok_1, zok_20, zok_21, eq_self, Nat.reduceAdd, Nat.reduceLeDiff, Nat.zero_le, if_true, if_false, zw3_id, if_pos, if_neg, zand_t, tg_1, h3]
    exact q
theorem k_rewind (hR : Rok R) (h : TxC I B n) : ∃ I1, zrun X (d + 6) 67 [zr (some 1)] (c, s, I, L, R) = some (none, (c, s, I1, L, R)) ∧ TpC I1 B n 0 ∧ FxT I I1 := by
  obtain ⟨I1, g1, g2, g3⟩ := k_next (X := X) (d := d) (c := c) (s := s) (L := L) hR (TxC_u (k := 3) (y := 0) (by omega) h) (p := 0) (by omega) (by rw [zu_s]; rfl)
  refine ⟨I1, st_X8_rewind ?_, g2, FxT_t (FxT_u (by omega)) g3⟩
  simp (disch := omega) only [e_X8_rewind_0, e_X8_rewind_0x, e_X8_rewind_1, e_X8_rewind_2, e_X8_rewind_5, e_X8_rewind_5x, e_X8_rewind_6, e_X8_rewind_9, zcll_s, zpush_s, zpush_n, zinv_i, zinv_l, zinv_r, zinv_x, zcats_nil, zcats_i, zcats_l, zcats_r, zcats_x, Nat.le_refl, and_self, true_and, and_true, zok_1, zok_20, zok_21, eq_self, Nat.reduceAdd, Nat.reduceLeDiff, Nat.zero_le, if_true, if_false, zw3_id, if_pos, if_neg, zand_t, tg_1, g1]
theorem k_clearT : zrun X (d + 1) 66 [zr (some 1)] (c, s, I, L, R) = some (none, (c, s, zu I 1 1 0, L, R)) := by
  refine st_X8_clear ?_
  simp (disch := omega) only [e_X8_clear_0, e_X8_clear_0x, e_X8_clear_1, e_X8_clear_2, e_X8_clear_5, zcll_s, zpush_s, zpush_n, zinv_i, zinv_l, zinv_r, zinv_x, zcats_nil, zcats_i, zcats_l, zcats_r, zcats_x, Nat.le_refl, and_self, true_and, and_true, zok_1, zok_20, zok_21, eq_self, Nat.reduceAdd, Nat.reduceLeDiff, Nat.zero_le, if_true, if_false, zw3_id, if_pos, if_neg, zand_t, tg_1]
end
