/-! The reference: a step. -/
theorem RefS_v {I : ZI} {w : Nat} {M : MD} (h : RefS I w M) {v : Nat} (hv : v < M.2.1.length) : I 315 (4 * w + v) = mg M.2.1 v ∧ I 316 (4 * w + v) = mf M.2.1 v := h.2.2.1.2.2.1 v _ (zgetDl hv).2
theorem mIn_E {vs : List MV} (h : VOK vs) {val : Nat → Int} (hi : mIn vs val 0) (t : TT) : mIn vs (tE (mg vs) t val) 0 := mEff_in h [t] val hi
section
variable {X : ZX} {d c s : Nat} {I L : ZI} {R : ZR} {call : ZC} {w : Nat} {M : MD}
theorem p_go (hR : Rok R) (h : RefS I w M) (r : Int) (rule : Nat) (x : MR) (hx : M.2.2.1[rule]? = some x) (hxm : x ∈ M.2.2.1) {Q : Option ZV × ZS → Prop} : ∀ (l : List TT) (j : Nat) (f : Nat → Int) (v4 v5 : ZV), x.2.2.drop j = l → j ≤ x.2.2.length → mIn M.2.1 f 0 → Q (none, (c, s, zW I 328 (mEff (mg M.2.1) l f), L, R)) → V X call mX12_go 20 [zr (some 310), zi r, zi (12 * (w : Int) + rule), zi (3 * (12 * (w : Int) + rule) + j), v4, v5] [] (c, s, zW I 328 f, L, R) Q := by
  intro l
  obtain ⟨hw, hw2, hM, hk⟩ := id h
  have hrl : rule < M.2.2.1.length := (List.getElem?_eq_some_iff.mp hx).1
  have hn := hk.2.2.2.2.1
  have hxk := hk.2.2.2.2.2.1 x hxm
  have hT := (hM.2.2.2.2.1 rule x hx).2.2
  have hl3 := hxk.2.2.1
  have e0 : (12 * (w : Int) + rule).toNat = 12 * w + rule := by omega
  induction l with
  | nil =>
    intro j f v4 v5 hj hjl hi hQ
    have e := zdropn hj hjl
    rw [e_X12_go_20]
    simp (disch := omega) only [e_X12_go_0, e_X12_go_1, e_X12_go_2, e_X12_go_5, e_X12_go_6, e_X12_go_8, e_X12_go_8x, e_X12_go_9, e_X12_go_12, e_X12_go_13, e_X12_go_14, e_X12_go_15, e_X12_go_16, e_X12_go_17, e_X12_go_18, e_X12_go_19, e_X12_go_21, e_X12_go_22, e_X12_go_23, e_X12_go_24, e_X12_go_24x, e_X12_go_25, e_X12_go_28, e_X12_go_29, e_X12_go_30, e_X12_go_31, e_X12_go_34, e_X12_go_34x, e_X12_go_35, e_X12_go_38, e_X12_go_39, e_X12_go_40, e_X12_go_42, e_X12_go_42x, e_X12_go_43, e_X12_go_46, e_X12_go_47, e_X12_go_48, e_X12_go_50, e_X12_go_53, e_X12_go_53x, e_X12_go_54, e_X12_go_57, e_X12_go_58, e_X12_go_59, e_X12_go_62, e_X12_go_62x, e_X12_go_63, e_X12_go_66, e_X12_go_67, e_X12_go_68, e_X12_go_70, e_X12_go_73, e_X12_go_73x, e_X12_go_74, e_X12_go_77, e_X12_go_79, e_X12_go_80, e_X12_go_80x, e_X12_go_81, e_X12_go_84, e_X12_go_85, e_X12_go_86, e_X12_go_87, e_X12_go_90, e_X12_go_90x, e_X12_go_91, e_X12_go_94, e_X12_go_96, e_X12_go_97, e_X12_go_97x, e_X12_go_98, e_X12_go_101, e_X12_go_102, e_X12_go_103, e_X12_go_104, e_X12_go_106, e_X12_go_106x, e_X12_go_107, e_X12_go_110, e_X12_go_112, e_X12_go_114, e_X12_go_117, e_X12_go_118, e_X12_go_121, e_X12_go_123, e_X12_go_123x, e_X12_go_124, e_X12_go_127, e_X12_go_128, e_X12_go_128x, e_X12_go_129, e_X12_go_132, e_X12_go_133, e_X12_go_135, e_X12_go_136, e_X12_go_137, e_X12_go_140, e_X12_go_140x, e_X12_go_141, e_X12_go_144, e_X12_go_145, e_X12_go_145x, e_X12_go_146, e_X12_go_149, e_X12_go_150, e_X12_go_152, e_X12_go_153, e_X12_go_154, e_X12_go_157, e_X12_go_159, e_X12_go_160, e_X12_go_163, e_X12_go_166, zcll_s, zpush_s, zpush_n, zinv_i, zinv_l, zinv_r, zinv_x, zcats_nil, zcats_i, zcats_l, zcats_r, zcats_x, Nat.le_refl, and_self, true_and, and_true, zok_1, zok_20, zok_21, eq_self, Nat.reduceAdd, Nat.reduceLeDiff, Nat.zero_le, if_true, if_false, zw3_id, if_pos, if_neg, zand_t, tg_310, tg_324, tn_324, rr_310_27 hR, zW_n, hw, e0, hT.1]
    exact hQ
  | cons t l ih =>
    intro j f v4 v5 hj hjl hi hQ
    obtain ⟨h1, h2, h3, h4⟩ := zdrop hj
    have ht := hxk.2.2.2 t h4
    have hm := hT.2 j t h2
    have e : (3 * (12 * (w : Int) + rule) + j).toNat = 3 * (12 * w + rule) + j := by omega
    have hvv := RefS_v h ht.1
    have hfi := hi t.1 ht.1
    rw [Nat.zero_add] at hfi
    have hgi := mg_nn hk.2.2.1 t.1
    have hv : ((t.1 : Int)).toNat = t.1 := Int.toNat_natCast _
    have hn4 := hk.2.1
    have e4 : (4 * (w : Int) + (t.1 : Int)).toNat = 4 * w + t.1 := by omega
    have key : ∀ (y : Int) (v4 v5 : ZV), y = mcl (mg M.2.1 t.1) (if t.2.1 = 0 then t.2.2 else f t.1 + t.2.1 * t.2.2) → V X call mX12_go 20 [zr (some 310), zi r, zi (12 * (w : Int) + rule), zi (3 * (12 * (w : Int) + rule) + j + 1), v4, v5] [] (c, s, zW I 328 (fun k => if k = t.1 then y else f k), L, R) Q := by
      intro y v4 v5 hy
      have e1 : 3 * (12 * (w : Int) + rule) + j + 1 = 3 * (12 * (w : Int) + rule) + ((j + 1 : Nat) : Int) := by omega
      have e2 : (fun k => if k = t.1 then y else f k) = tE (mg M.2.1) t f := by
        funext k
        unfold tE
        by_cases hk : k = t.1
        · rw [if_pos hk, if_pos hk, hy, hk]
        · rw [if_neg hk, if_neg hk]
      rw [e1, e2]
      exact ih (j + 1) (tE (mg M.2.1) t f) v4 v5 h3 (by omega) (mIn_E hk.2.2.1 hi t) hQ
    rw [e_X12_go_20]
    have hcl : ∀ n : Int, mcl (mg M.2.1 t.1) n = if n < 0 then 0 else if mg M.2.1 t.1 < n then mg M.2.1 t.1 else n := fun n => rfl
    rcases ht.2.1 with hs | hs | hs
    · have hsg : sge t.2.1 = 45 := by rw [hs]; rfl
      have e5 : (if t.2.1 = 0 then t.2.2 else f t.1 + t.2.1 * t.2.2) = f t.1 - t.2.2 := by rw [if_neg (by omega), hs]; omega
      rw [e5, hcl] at key
      simp (disch := omega) only [e_X12_go_0, e_X12_go_1, e_X12_go_2, e_X12_go_5, e_X12_go_6, e_X12_go_8, e_X12_go_8x, e_X12_go_9, e_X12_go_12, e_X12_go_13, e_X12_go_14, e_X12_go_15, e_X12_go_16, e_X12_go_17, e_X12_go_18, e_X12_go_19, e_X12_go_21, e_X12_go_22, e_X12_go_23, e_X12_go_24, e_X12_go_24x, e_X12_go_25, e_X12_go_28, e_X12_go_29, e_X12_go_30, e_X12_go_31, e_X12_go_34, e_X12_go_34x, e_X12_go_35, e_X12_go_38, e_X12_go_39, e_X12_go_40, e_X12_go_42, e_X12_go_42x, e_X12_go_43, e_X12_go_46, e_X12_go_47, e_X12_go_48, e_X12_go_50, e_X12_go_53, e_X12_go_53x, e_X12_go_54, e_X12_go_57, e_X12_go_58, e_X12_go_59, e_X12_go_62, e_X12_go_62x, e_X12_go_63, e_X12_go_66, e_X12_go_67, e_X12_go_68, e_X12_go_70, e_X12_go_73, e_X12_go_73x, e_X12_go_74, e_X12_go_77, e_X12_go_79, e_X12_go_80, e_X12_go_80x, e_X12_go_81, e_X12_go_84, e_X12_go_85, e_X12_go_86, e_X12_go_87, e_X12_go_90, e_X12_go_90x, e_X12_go_91, e_X12_go_94, e_X12_go_96, e_X12_go_97, e_X12_go_97x, e_X12_go_98, e_X12_go_101, e_X12_go_102, e_X12_go_103, e_X12_go_104, e_X12_go_106, e_X12_go_106x, e_X12_go_107, e_X12_go_110, e_X12_go_112, e_X12_go_114, e_X12_go_117, e_X12_go_118, e_X12_go_121, e_X12_go_123, e_X12_go_123x, e_X12_go_124, e_X12_go_127, e_X12_go_128, e_X12_go_128x, e_X12_go_129, e_X12_go_132, e_X12_go_133, e_X12_go_135, e_X12_go_136, e_X12_go_137, e_X12_go_140, e_X12_go_140x, e_X12_go_141, e_X12_go_144, e_X12_go_145, e_X12_go_145x, e_X12_go_146, e_X12_go_149, e_X12_go_150, e_X12_go_152, e_X12_go_153, e_X12_go_154, e_X12_go_157, e_X12_go_159, e_X12_go_160, e_X12_go_163, e_X12_go_166, zcll_s, zpush_s, zpush_n, zinv_i, zinv_l, zinv_r, zinv_x, zcats_nil, zcats_i, zcats_l, zcats_r, zcats_x, Nat.le_refl, and_self, true_and, and_true, zok_1, zok_20, zok_21, eq_self, Nat.reduceAdd, Nat.reduceLeDiff, Nat.zero_le, if_true, if_false, zw3_id, if_pos, if_neg, zand_t, tg_310, tg_315, tn_315, tg_324, tn_324, tg_325, tn_325, tg_326, tn_326, tg_327, tn_327, tg_328, tn_328, rr_310_27 hR, rr_310_28 hR, rr_310_29 hR, rr_310_30 hR, rr_310_32 hR, rr_310_18 hR, zW_n, zW_s, zu_W, zW_W, hw, e0, e, e4, hT.1, hm.1, hm.2.1, hm.2.2, hsg, hv, hvv.1]
      split
      · exact key _ _ _ (by rw [if_neg (by omega), if_neg (by omega)])
      · exact key _ _ _ (by rw [if_pos (by omega)])
    · have hsg : sge t.2.1 = 61 := by rw [hs]; rfl
      have e5 : (if t.2.1 = 0 then t.2.2 else f t.1 + t.2.1 * t.2.2) = t.2.2 := by rw [if_pos hs]
      rw [e5, hcl] at key
      simp (disch := omega) only [e_X12_go_0, e_X12_go_1, e_X12_go_2, e_X12_go_5, e_X12_go_6, e_X12_go_8, e_X12_go_8x, e_X12_go_9, e_X12_go_12, e_X12_go_13, e_X12_go_14, e_X12_go_15, e_X12_go_16, e_X12_go_17, e_X12_go_18, e_X12_go_19, e_X12_go_21, e_X12_go_22, e_X12_go_23, e_X12_go_24, e_X12_go_24x, e_X12_go_25, e_X12_go_28, e_X12_go_29, e_X12_go_30, e_X12_go_31, e_X12_go_34, e_X12_go_34x, e_X12_go_35, e_X12_go_38, e_X12_go_39, e_X12_go_40, e_X12_go_42, e_X12_go_42x, e_X12_go_43, e_X12_go_46, e_X12_go_47, e_X12_go_48, e_X12_go_50, e_X12_go_53, e_X12_go_53x, e_X12_go_54, e_X12_go_57, e_X12_go_58, e_X12_go_59, e_X12_go_62, e_X12_go_62x, e_X12_go_63, e_X12_go_66, e_X12_go_67, e_X12_go_68, e_X12_go_70, e_X12_go_73, e_X12_go_73x, e_X12_go_74, e_X12_go_77, e_X12_go_79, e_X12_go_80, e_X12_go_80x, e_X12_go_81, e_X12_go_84, e_X12_go_85, e_X12_go_86, e_X12_go_87, e_X12_go_90, e_X12_go_90x, e_X12_go_91, e_X12_go_94, e_X12_go_96, e_X12_go_97, e_X12_go_97x, e_X12_go_98, e_X12_go_101, e_X12_go_102, e_X12_go_103, e_X12_go_104, e_X12_go_106, e_X12_go_106x, e_X12_go_107, e_X12_go_110, e_X12_go_112, e_X12_go_114, e_X12_go_117, e_X12_go_118, e_X12_go_121, e_X12_go_123, e_X12_go_123x, e_X12_go_124, e_X12_go_127, e_X12_go_128, e_X12_go_128x, e_X12_go_129, e_X12_go_132, e_X12_go_133, e_X12_go_135, e_X12_go_136, e_X12_go_137, e_X12_go_140, e_X12_go_140x, e_X12_go_141, e_X12_go_144, e_X12_go_145, e_X12_go_145x, e_X12_go_146, e_X12_go_149, e_X12_go_150, e_X12_go_152, e_X12_go_153, e_X12_go_154, e_X12_go_157, e_X12_go_159, e_X12_go_160, e_X12_go_163, e_X12_go_166, zcll_s, zpush_s, zpush_n, zinv_i, zinv_l, zinv_r, zinv_x, zcats_nil, zcats_i, zcats_l, zcats_r, zcats_x, Nat.le_refl, and_self, true_and, and_true, zok_1, zok_20, zok_21, eq_self, Nat.reduceAdd, Nat.reduceLeDiff, Nat.zero_le, if_true, if_false, zw3_id, if_pos, if_neg, zand_t, tg_310, tg_315, tn_315, tg_324, tn_324, tg_325, tn_325, tg_326, tn_326, tg_327, tn_327, tg_328, tn_328, rr_310_27 hR, rr_310_28 hR, rr_310_29 hR, rr_310_30 hR, rr_310_32 hR, rr_310_18 hR, zW_n, zW_s, zu_W, zW_W, hw, e0, e, e4, hT.1, hm.1, hm.2.1, hm.2.2, hsg, hv, hvv.1]
      split
      · exact key _ _ _ (by rw [if_neg (by omega), if_neg (by omega)])
      · exact key _ _ _ (by rw [if_neg (by omega), if_pos (by omega)])
    · have hsg : sge t.2.1 = 43 := by rw [hs]; rfl
      have e5 : (if t.2.1 = 0 then t.2.2 else f t.1 + t.2.1 * t.2.2) = f t.1 + t.2.2 := by rw [if_neg (by omega), hs]; omega
      rw [e5, hcl] at key
      simp (disch := omega) only [e_X12_go_0, e_X12_go_1, e_X12_go_2, e_X12_go_5, e_X12_go_6, e_X12_go_8, e_X12_go_8x, e_X12_go_9, e_X12_go_12, e_X12_go_13, e_X12_go_14, e_X12_go_15, e_X12_go_16, e_X12_go_17, e_X12_go_18, e_X12_go_19, e_X12_go_21, e_X12_go_22, e_X12_go_23, e_X12_go_24, e_X12_go_24x, e_X12_go_25, e_X12_go_28, e_X12_go_29, e_X12_go_30, e_X12_go_31, e_X12_go_34, e_X12_go_34x, e_X12_go_35, e_X12_go_38, e_X12_go_39, e_X12_go_40, e_X12_go_42, e_X12_go_42x, e_X12_go_43, e_X12_go_46, e_X12_go_47, e_X12_go_48, e_X12_go_50, e_X12_go_53, e_X12_go_53x, e_X12_go_54, e_X12_go_57, e_X12_go_58, e_X12_go_59, e_X12_go_62, e_X12_go_62x, e_X12_go_63, e_X12_go_66, e_X12_go_67, e_X12_go_68, e_X12_go_70, e_X12_go_73, e_X12_go_73x, e_X12_go_74, e_X12_go_77, e_X12_go_79, e_X12_go_80, e_X12_go_80x, e_X12_go_81, e_X12_go_84, e_X12_go_85, e_X12_go_86, e_X12_go_87, e_X12_go_90, e_X12_go_90x, e_X12_go_91, e_X12_go_94, e_X12_go_96, e_X12_go_97, e_X12_go_97x, e_X12_go_98, e_X12_go_101, e_X12_go_102, e_X12_go_103, e_X12_go_104, e_X12_go_106, e_X12_go_106x, e_X12_go_107, e_X12_go_110, e_X12_go_112, e_X12_go_114, e_X12_go_117, e_X12_go_118, e_X12_go_121, e_X12_go_123, e_X12_go_123x, e_X12_go_124, e_X12_go_127, e_X12_go_128, e_X12_go_128x, e_X12_go_129, e_X12_go_132, e_X12_go_133, e_X12_go_135, e_X12_go_136, e_X12_go_137, e_X12_go_140, e_X12_go_140x, e_X12_go_141, e_X12_go_144, e_X12_go_145, e_X12_go_145x, e_X12_go_146, e_X12_go_149, e_X12_go_150, e_X12_go_152, e_X12_go_153, e_X12_go_154, e_X12_go_157, e_X12_go_159, e_X12_go_160, e_X12_go_163, e_X12_go_166, zcll_s, zpush_s, zpush_n, zinv_i, zinv_l, zinv_r, zinv_x, zcats_nil, zcats_i, zcats_l, zcats_r, zcats_x, Nat.le_refl, and_self, true_and, and_true, zok_1, zok_20, zok_21, eq_self, Nat.reduceAdd, Nat.reduceLeDiff, Nat.zero_le, if_true, if_false, zw3_id, if_pos, if_neg, zand_t, tg_310, tg_315, tn_315, tg_324, tn_324, tg_325, tn_325, tg_326, tn_326, tg_327, tn_327, tg_328, tn_328, rr_310_27 hR, rr_310_28 hR, rr_310_29 hR, rr_310_30 hR, rr_310_32 hR, rr_310_18 hR, zW_n, zW_s, zu_W, zW_W, hw, e0, e, e4, hT.1, hm.1, hm.2.1, hm.2.2, hsg, hv, hvv.1]
      split
      · exact key _ _ _ (by rw [if_neg (by omega), if_neg (by omega)])
      · exact key _ _ _ (by rw [if_neg (by omega), if_pos (by omega)])
theorem c_go (hR : Rok R) (h : RefS I w M) (r : Int) (hr : r = -1 ∨ (0 ≤ r ∧ r < M.2.2.1.length)) (hi : mIn M.2.1 (I 328) 0) : zrun X (d + 1) 142 [zr (some 310), zi r] (c, s, I, L, R) = some (none, (c, s, zW I 328 (mV M (I 328) r), L, R)) := by
  refine st_X12_go ?_
  have hn := h.2.2.2.2.2.2.2.1
  rcases hr with hr | hr
  · subst hr
    simp (disch := omega) only [e_X12_go_0, e_X12_go_1, e_X12_go_2, e_X12_go_5, e_X12_go_6, e_X12_go_8, e_X12_go_8x, e_X12_go_9, e_X12_go_12, e_X12_go_13, e_X12_go_14, e_X12_go_15, e_X12_go_16, e_X12_go_17, e_X12_go_18, e_X12_go_19, e_X12_go_21, e_X12_go_22, e_X12_go_23, e_X12_go_24, e_X12_go_24x, e_X12_go_25, e_X12_go_28, e_X12_go_29, e_X12_go_30, e_X12_go_31, e_X12_go_34, e_X12_go_34x, e_X12_go_35, e_X12_go_38, e_X12_go_39, e_X12_go_40, e_X12_go_42, e_X12_go_42x, e_X12_go_43, e_X12_go_46, e_X12_go_47, e_X12_go_48, e_X12_go_50, e_X12_go_53, e_X12_go_53x, e_X12_go_54, e_X12_go_57, e_X12_go_58, e_X12_go_59, e_X12_go_62, e_X12_go_62x, e_X12_go_63, e_X12_go_66, e_X12_go_67, e_X12_go_68, e_X12_go_70, e_X12_go_73, e_X12_go_73x, e_X12_go_74, e_X12_go_77, e_X12_go_79, e_X12_go_80, e_X12_go_80x, e_X12_go_81, e_X12_go_84, e_X12_go_85, e_X12_go_86, e_X12_go_87, e_X12_go_90, e_X12_go_90x, e_X12_go_91, e_X12_go_94, e_X12_go_96, e_X12_go_97, e_X12_go_97x, e_X12_go_98, e_X12_go_101, e_X12_go_102, e_X12_go_103, e_X12_go_104, e_X12_go_106, e_X12_go_106x, e_X12_go_107, e_X12_go_110, e_X12_go_112, e_X12_go_114, e_X12_go_117, e_X12_go_118, e_X12_go_121, e_X12_go_123, e_X12_go_123x, e_X12_go_124, e_X12_go_127, e_X12_go_128, e_X12_go_128x, e_X12_go_129, e_X12_go_132, e_X12_go_133, e_X12_go_135, e_X12_go_136, e_X12_go_137, e_X12_go_140, e_X12_go_140x, e_X12_go_141, e_X12_go_144, e_X12_go_145, e_X12_go_145x, e_X12_go_146, e_X12_go_149, e_X12_go_150, e_X12_go_152, e_X12_go_153, e_X12_go_154, e_X12_go_157, e_X12_go_159, e_X12_go_160, e_X12_go_163, e_X12_go_166, zcll_s, zpush_s, zpush_n, zinv_i, zinv_l, zinv_r, zinv_x, zcats_nil, zcats_i, zcats_l, zcats_r, zcats_x, Nat.le_refl, and_self, true_and, and_true, zok_1, zok_20, zok_21, eq_self, Nat.reduceAdd, Nat.reduceLeDiff, Nat.zero_le, if_true, if_false, zw3_id, if_pos, if_neg, zand_t]
    rw [show mV M (I 328) (-1) = I 328 from rfl, zW_id]
  · have hl : r.toNat < M.2.2.1.length := by omega
    obtain ⟨a, b⟩ := zgetDl (y := ((0, [], []) : MR)) hl
    have h12 := h.1
    have hw2 := h.2.1
    simp (disch := omega) only [e_X12_go_0, e_X12_go_1, e_X12_go_2, e_X12_go_5, e_X12_go_6, e_X12_go_8, e_X12_go_8x, e_X12_go_9, e_X12_go_12, e_X12_go_13, e_X12_go_14, e_X12_go_15, e_X12_go_16, e_X12_go_17, e_X12_go_18, e_X12_go_19, e_X12_go_21, e_X12_go_22, e_X12_go_23, e_X12_go_24, e_X12_go_24x, e_X12_go_25, e_X12_go_28, e_X12_go_29, e_X12_go_30, e_X12_go_31, e_X12_go_34, e_X12_go_34x, e_X12_go_35, e_X12_go_38, e_X12_go_39, e_X12_go_40, e_X12_go_42, e_X12_go_42x, e_X12_go_43, e_X12_go_46, e_X12_go_47, e_X12_go_48, e_X12_go_50, e_X12_go_53, e_X12_go_53x, e_X12_go_54, e_X12_go_57, e_X12_go_58, e_X12_go_59, e_X12_go_62, e_X12_go_62x, e_X12_go_63, e_X12_go_66, e_X12_go_67, e_X12_go_68, e_X12_go_70, e_X12_go_73, e_X12_go_73x, e_X12_go_74, e_X12_go_77, e_X12_go_79, e_X12_go_80, e_X12_go_80x, e_X12_go_81, e_X12_go_84, e_X12_go_85, e_X12_go_86, e_X12_go_87, e_X12_go_90, e_X12_go_90x, e_X12_go_91, e_X12_go_94, e_X12_go_96, e_X12_go_97, e_X12_go_97x, e_X12_go_98, e_X12_go_101, e_X12_go_102, e_X12_go_103, e_X12_go_104, e_X12_go_106, e_X12_go_106x, e_X12_go_107, e_X12_go_110, e_X12_go_112, e_X12_go_114, e_X12_go_117, e_X12_go_118, e_X12_go_121, e_X12_go_123, e_X12_go_123x, e_X12_go_124, e_X12_go_127, e_X12_go_128, e_X12_go_128x, e_X12_go_129, e_X12_go_132, e_X12_go_133, e_X12_go_135, e_X12_go_136, e_X12_go_137, e_X12_go_140, e_X12_go_140x, e_X12_go_141, e_X12_go_144, e_X12_go_145, e_X12_go_145x, e_X12_go_146, e_X12_go_149, e_X12_go_150, e_X12_go_152, e_X12_go_153, e_X12_go_154, e_X12_go_157, e_X12_go_159, e_X12_go_160, e_X12_go_163, e_X12_go_166, zcll_s, zpush_s, zpush_n, zinv_i, zinv_l, zinv_r, zinv_x, zcats_nil, zcats_i, zcats_l, zcats_r, zcats_x, Nat.le_refl, and_self, true_and, and_true, zok_1, zok_20, zok_21, eq_self, Nat.reduceAdd, Nat.reduceLeDiff, Nat.zero_le, if_true, if_false, zw3_id, if_pos, if_neg, zand_t, tg_310, h12]
    have p := p_go (X := X) (call := zrun X d) (c := c) (s := s) (L := L) (Q := fun q => q = (none, c, s, zW I 328 (mV M (I 328) r), L, R)) hR h r r.toNat _ b a _ 0 (I 328) (zx 0) (zx 0) rfl (by omega) hi ?_
    · rw [zW_id, show ((r.toNat : Nat) : Int) = r by omega, show (3 * (12 * (w : Int) + r) + ((0 : Nat) : Int)) = 3 * (12 * (w : Int) + r) by omega] at p
      exact p
    · unfold mV
      rw [if_neg (by omega)]
      rfl
theorem p_begin (hR : Rok R) (h : RefS I w M) {Q : Option ZV × ZS → Prop} : ∀ (n j : Nat) (f : Nat → Int), M.2.1.length - j = n → j ≤ M.2.1.length → (∀ v, v < j → f v = mf M.2.1 v) → (∀ f, (∀ v, v < M.2.1.length → f v = mf M.2.1 v) → Q (none, (c, s, zW I 328 f, L, R))) → V X call mX12_begin 2 [zr (some 310), zi (j : Int)] [] (c, s, zW I 328 f, L, R) Q := by
  intro n
  obtain ⟨hw, hw2, hM, hk⟩ := id h
  have hn4 := hk.2.1
  have h313 : I 313 ((w : Int)).toNat = M.2.1.length := by rw [Int.toNat_natCast]; exact hM.2.1
  induction n with
  | zero =>
    intro j f h1 h2 hf hQ
    rw [e_X12_begin_2]
    simp (disch := omega) only [e_X12_begin_0, e_X12_begin_1, e_X12_begin_3, e_X12_begin_3x, e_X12_begin_4, e_X12_begin_7, e_X12_begin_7x, e_X12_begin_8, e_X12_begin_11, e_X12_begin_12, e_X12_begin_15, e_X12_begin_15x, e_X12_begin_16, e_X12_begin_19, e_X12_begin_20, e_X12_begin_20x, e_X12_begin_21, e_X12_begin_24, e_X12_begin_25, e_X12_begin_25x, e_X12_begin_26, e_X12_begin_29, e_X12_begin_30, e_X12_begin_31, e_X12_begin_32, e_X12_begin_33, e_X12_begin_34, e_X12_begin_37, e_X12_begin_40, zcll_s, zpush_s, zpush_n, zinv_i, zinv_l, zinv_r, zinv_x, zcats_nil, zcats_i, zcats_l, zcats_r, zcats_x, Nat.le_refl, and_self, true_and, and_true, zok_1, zok_20, zok_21, eq_self, Nat.reduceAdd, Nat.reduceLeDiff, Nat.zero_le, if_true, if_false, zw3_id, if_pos, if_neg, zand_t, tg_310, tg_313, tn_313, rr_310_16 hR, zW_n, hw, h313]
    exact hQ f (fun v hv => hf v (by omega))
  | succ n ih =>
    intro j f h1 h2 hf hQ
    have hvv := RefS_v h (show j < _ by omega)
    have e4 : (4 * (w : Int) + (j : Int)).toNat = 4 * w + j := by omega
    rw [e_X12_begin_2]
    simp (disch := omega) only [e_X12_begin_0, e_X12_begin_1, e_X12_begin_3, e_X12_begin_3x, e_X12_begin_4, e_X12_begin_7, e_X12_begin_7x, e_X12_begin_8, e_X12_begin_11, e_X12_begin_12, e_X12_begin_15, e_X12_begin_15x, e_X12_begin_16, e_X12_begin_19, e_X12_begin_20, e_X12_begin_20x, e_X12_begin_21, e_X12_begin_24, e_X12_begin_25, e_X12_begin_25x, e_X12_begin_26, e_X12_begin_29, e_X12_begin_30, e_X12_begin_31, e_X12_begin_32, e_X12_begin_33, e_X12_begin_34, e_X12_begin_37, e_X12_begin_40, zcll_s, zpush_s, zpush_n, zinv_i, zinv_l, zinv_r, zinv_x, zcats_nil, zcats_i, zcats_l, zcats_r, zcats_x, Nat.le_refl, and_self, true_and, and_true, zok_1, zok_20, zok_21, eq_self, Nat.reduceAdd, Nat.reduceLeDiff, Nat.zero_le, if_true, if_false, zw3_id, if_pos, if_neg, zand_t, tg_310, tg_313, tn_313, tg_316, tn_316, tg_328, tn_328, rr_310_16 hR, rr_310_19 hR, rr_310_32 hR, zW_n, zW_s, zu_W, zW_W, hw, hM.2.1, e4, hvv.2, Int.toNat_natCast]
    rw [show (j : Int) + 1 = ((j + 1 : Nat) : Int) by omega]
    refine ih (j + 1) _ (by omega) (by omega) ?_ hQ
    intro v hv
    by_cases hvj : v = j
    · rw [if_pos hvj, hvj]
    · rw [if_neg hvj]
      exact hf v (by omega)
theorem c_begin (hR : Rok R) (h : RefS I w M) : ∃ f, zrun X (d + 1) 138 [zr (some 310)] (c, s, I, L, R) = some (none, (c, s, zW I 328 f, L, R)) ∧ ∀ v, v < M.2.1.length → f v = mf M.2.1 v := by
  have p := sx_X12_begin (X := X) (d := d) (u0 := some 310) (σ := (c, s, I, L, R)) (P := fun q => ∃ f, q = (none, (c, s, zW I 328 f, L, R)) ∧ ∀ v, v < M.2.1.length → f v = mf M.2.1 v) ?_
  · obtain ⟨r, h1, f, h2, h3⟩ := p
    exact ⟨f, by rw [h1, h2], h3⟩
  · simp (disch := omega) only [e_X12_begin_0, e_X12_begin_1, e_X12_begin_3, e_X12_begin_3x, e_X12_begin_4, e_X12_begin_7, e_X12_begin_7x, e_X12_begin_8, e_X12_begin_11, e_X12_begin_12, e_X12_begin_15, e_X12_begin_15x, e_X12_begin_16, e_X12_begin_19, e_X12_begin_20, e_X12_begin_20x, e_X12_begin_21, e_X12_begin_24, e_X12_begin_25, e_X12_begin_25x, e_X12_begin_26, e_X12_begin_29, e_X12_begin_30, e_X12_begin_31, e_X12_begin_32, e_X12_begin_33, e_X12_begin_34, e_X12_begin_37, e_X12_begin_40, zcll_s, zpush_s, zpush_n, zinv_i, zinv_l, zinv_r, zinv_x, zcats_nil, zcats_i, zcats_l, zcats_r, zcats_x, Nat.le_refl, and_self, true_and, and_true, zok_1, zok_20, zok_21, eq_self, Nat.reduceAdd, Nat.reduceLeDiff, Nat.zero_le, if_true, if_false, zw3_id, if_pos, if_neg, zand_t]
    have p := p_begin (X := X) (call := zrun X d) (c := c) (s := s) (L := L) (Q := fun q => ∃ f, q = (none, (c, s, zW I 328 f, L, R)) ∧ ∀ v, v < M.2.1.length → f v = mf M.2.1 v) hR h _ 0 (I 328) rfl (by omega) (fun v hv => absurd hv (by omega)) (fun f hf => ⟨f, rfl, hf⟩)
    rw [zW_id] at p
    exact p
/-- what a step of the lot is: the next lot, the number d -/
def mlot (x : Int) : Int := zw6 (zw6 (x * 6364136223846793005) + 1442695040888963407)
def mdr (lots x : Int) : Int := zushr6 x 33 % lots
theorem zushr33 (x : Int) : 0 ≤ zushr6 x 33 ∧ zushr6 x 33 < 2147483648 := by
  unfold zushr6
  have e : ((Int32.ofInt 33).toInt64.toUInt64 &&& Int64.toUInt64 63) = 33 := by decide
  rw [e]
  have h1 : ((Int64.ofInt x).toUInt64 >>> 33).toNat < 2147483648 := by
    rw [UInt64.toNat_shiftRight]
    have h2 := (Int64.ofInt x).toUInt64.toNat_lt
    have h3 : (33 : UInt64).toNat % 64 = 33 := by decide
    rw [h3, Nat.shiftRight_eq_div_pow]
    omega
  generalize ((Int64.ofInt x).toUInt64 >>> 33) = u at h1
  have h4 : u.toInt64.toInt = (u.toNat : Int) := by
    show u.toBitVec.toInt = _
    have h5 : u.toBitVec.toNat = u.toNat := rfl
    rw [BitVec.toInt_eq_toNat_of_lt (by rw [h5]; omega), h5]
  rw [h4]
  omega
theorem c_draw (hR : Rok R) (h : RefS I w M) : zrun X (d + 1) 144 [zr (some 310)] (c, s, I, L, R) = some (some (zi (mdr M.1 (mlot (L 310 33)))), (c, s, I, zu L 310 33 (mlot (L 310 33)), R)) := by
  refine st_X12_draw ?_
  obtain ⟨hw, hw2, hM, hk⟩ := id h
  have hk1 := hk.1
  have h33 := zushr33 (mlot (L 310 33))
  simp (disch := omega) only [e_X12_draw_0, e_X12_draw_0x, e_X12_draw_1, e_X12_draw_1x, e_X12_draw_2, e_X12_draw_5, e_X12_draw_8, e_X12_draw_9, e_X12_draw_12, e_X12_draw_13, e_X12_draw_16, e_X12_draw_16x, e_X12_draw_17, e_X12_draw_20, e_X12_draw_22, e_X12_draw_23, e_X12_draw_23x, e_X12_draw_24, e_X12_draw_27, e_X12_draw_27x, e_X12_draw_28, e_X12_draw_31, e_X12_draw_32, e_X12_draw_33, e_X12_draw_34, e_X12_draw_35, zcll_s, zpush_s, zpush_n, zinv_i, zinv_l, zinv_r, zinv_x, zcats_nil, zcats_i, zcats_l, zcats_r, zcats_x, Nat.le_refl, and_self, true_and, and_true, zok_1, zok_20, zok_21, eq_self, Nat.reduceAdd, Nat.reduceLeDiff, Nat.zero_le, if_true, if_false, zw3_id, if_pos, if_neg, zand_t, tg_310, tg_312, tn_312, rr_310_15 hR, hw, hM.1, Int.toNat_natCast, zu_s]
  have hl : zw6 (zw6 (L 310 33 * 6364136223846793005) + 1442695040888963407) = mlot (L 310 33) := rfl
  rw [hl, zq_rem6 (by unfold zi6; omega) (by omega) (by omega) (by unfold zi6; omega)]
  have h1 := Int.emod_nonneg (zushr6 (mlot (L 310 33)) 33) (show M.1 ≠ 0 by omega)
  have h2 := Int.emod_lt_of_pos (zushr6 (mlot (L 310 33)) 33) (show 0 < M.1 by omega)
  rw [zw3_id (by omega) (by omega)]
  rfl
theorem mdr_in {lots : Int} (h : 1 ≤ lots) (x : Int) : 0 ≤ mdr lots x ∧ mdr lots x < lots := ⟨Int.emod_nonneg _ (by omega), Int.emod_lt_of_pos _ (by omega)⟩
def mlot0 (seed i : Int) : Int := zw6 (seed + zw6 (i * -7046029254386353131))
/-- the reference's values are those of the state t -/
def Now (M : MD) (f : Nat → Int) (t : Int) : Prop := (∀ v, v < M.2.1.length → f v = mDe M.2.1 t v) ∧ 0 ≤ t ∧ t < mPr M.2.1
theorem Now_in {f : Nat → Int} {t : Int} (hk : MOK M) (h : Now M f t) : mIn M.2.1 f 0 := by
  intro v hv
  rw [Nat.zero_add, h.1 v hv]
  have := mDe_in hk.2.2.1 h.2.1 v hv
  rw [Nat.zero_add] at this
  exact this
theorem Now_0 {f : Nat → Int} (hk : MOK M) (h : ∀ v, v < M.2.1.length → f v = mf M.2.1 v) : Now M f (mS0 M) := by
  refine ⟨?_, mS0_in hk.2.2.1⟩
  intro v hv
  rw [h v hv]
  unfold mS0
  rw [mDe_mEn hk.2.2.1 ?_ v hv, Nat.zero_add]
  intro u hu
  rw [Nat.zero_add]
  unfold mf mg
  have := hk.2.2.1 _ (zgetDl (y := (([], 0, 0) : MV)) hu).1
  omega
theorem Now_r {f : Nat → Int} {t : Int} (hk : MOK M) (h : Now M f t) (dd : Int) : mR M f dd = mR M (mDe M.2.1 t) dd := mRul_c h.1 (fun x hx => (hk.2.2.2.2.2.1 x hx).2.1) dd 0
theorem mR_r (hk : MOK M) (f : Nat → Int) (dd : Int) : mR M f dd = -1 ∨ (0 ≤ mR M f dd ∧ mR M f dd < M.2.2.1.length) := by
  have := mRul_r (val := f) M.2.2.1 dd 0 (by omega)
  unfold mR
  omega
theorem mV_c (hk : MOK M) {f g : Nat → Int} (h : ∀ v, v < M.2.1.length → f v = g v) {r : Int} (hr : r = -1 ∨ (0 ≤ r ∧ r < M.2.2.1.length)) : ∀ v, v < M.2.1.length → mV M f r v = mV M g r v := by
  unfold mV
  split
  · exact h
  · refine mEff_c _ ?_ _ _ h
    have hl : r.toNat < M.2.2.1.length := by omega
    intro t ht
    exact ((hk.2.2.2.2.2.1 _ (zgetDl (y := ((0, [], []) : MR)) hl).1).2.2.2 t ht).1
theorem Now_s {f : Nat → Int} {t : Int} (hk : MOK M) (h : Now M f t) (dd : Int) : Now M (mV M f (mR M f dd)) (mS M t dd) := by
  refine ⟨?_, mS_in hk.2.2.1 h.2.1⟩
  intro v hv
  rw [Now_r hk h]
  rw [mV_c hk h.1 (mR_r hk _ _) v hv]
  unfold mS
  rw [mDe_mEn hk.2.2.1 (mV_in hk.2.2.1 (mDe_in hk.2.2.1 h.2.1) _) v hv, Nat.zero_add]
theorem Now_g {f : Nat → Int} {t : Int} (hk : MOK M) (h : Now M f t) {g : Nat} (hg : g < M.2.2.2.length) : mAll f (M.2.2.2.getD g []) ↔ mGoal M g t := mAll_c h.1 (hk.2.2.2.2.2.2.2 _ (zgetDl hg).1)
theorem c_beginRun (hR : Rok R) (h : RefS I w M) (i : Int) : ∃ f, zrun X (d + 2) 143 [zr (some 310), zi i] (c, s, I, L, R) = some (none, (c, s, zW I 328 f, zu L 310 33 (mlot0 (L 310 31) i), R)) ∧ Now M f (mS0 M) := by
  obtain ⟨f, h1, h2⟩ := c_begin (X := X) (d := d) (c := c) (s := s) (L := zu L 310 33 (mlot0 (L 310 31) i)) hR h
  refine ⟨f, ?_, Now_0 h.2.2.2 h2⟩
  refine st_X12_beginRun ?_
  unfold mlot0 at h1 ⊢
  simp (disch := omega) only [e_X12_beginRun_0, e_X12_beginRun_0x, e_X12_beginRun_1, e_X12_beginRun_1x, e_X12_beginRun_2, e_X12_beginRun_5, e_X12_beginRun_6, e_X12_beginRun_7, e_X12_beginRun_10, e_X12_beginRun_11, e_X12_beginRun_12, e_X12_beginRun_15, e_X12_beginRun_15x, e_X12_beginRun_16, e_X12_beginRun_19, zcll_s, zpush_s, zpush_n, zinv_i, zinv_l, zinv_r, zinv_x, zcats_nil, zcats_i, zcats_l, zcats_r, zcats_x, Nat.le_refl, and_self, true_and, and_true, zok_1, zok_20, zok_21, eq_self, Nat.reduceAdd, Nat.reduceLeDiff, Nat.zero_le, if_true, if_false, zw3_id, if_pos, if_neg, zand_t, tg_310, h1]
end
