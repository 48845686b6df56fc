/-! The reference: a run. -/
/-- terms in the reference's arrays -/
def RT (I : ZI) (an av as am row : Nat) (sg : Int → Int) (l : List TT) : Prop := I an row = (l.length : Int) ∧ ∀ j t, l[j]? = some t → I av (3 * row + j) = (t.1 : Int) ∧ I as (3 * row + j) = sg t.2.1 ∧ I am (3 * row + j) = t.2.2
def sgc (x : Int) : Int := 61 + x
def sge (x : Int) : Int := if x < 0 then 45 else if x = 0 then 61 else 43
def RefM (I : ZI) (w : Nat) (M : MD) : Prop := I 312 w = M.1 ∧ I 313 w = (M.2.1.length : Int) ∧ (∀ v x, M.2.1[v]? = some x → I 315 (4 * w + v) = x.2.1 ∧ I 316 (4 * w + v) = x.2.2) ∧ I 317 w = (M.2.2.1.length : Int) ∧ (∀ r x, M.2.2.1[r]? = some x → I 318 (12 * w + r) = x.1 ∧ RT I 320 321 322 323 (16 * w + r) sgc x.2.1 ∧ RT I 324 325 326 327 (12 * w + r) sge x.2.2) ∧ I 319 w = (M.2.2.2.length : Int) ∧ ∀ g x, M.2.2.2[g]? = some x → RT I 320 321 322 323 (16 * w + 12 + g) sgc x
/-- the reference has the model M at its side w -/
def RefS (I : ZI) (w : Nat) (M : MD) : Prop := I 310 12 = (w : Int) ∧ w < 2 ∧ RefM I w M ∧ MOK M
theorem RT_c {I J : ZI} {an av as am row : Nat} {sg : Int → Int} {l : List TT} (h1 : J an = I an) (h2 : J av = I av) (h3 : J as = I as) (h4 : J am = I am) (h : RT I an av as am row sg l) : RT J an av as am row sg l := by
  unfold RT at h ⊢
  rw [h1, h2, h3, h4]
  exact h
theorem RefM_c {I J : ZI} {w : Nat} {M : MD} (h : ∀ a, 312 ≤ a → a ≤ 327 → J a = I a) (hM : RefM I w M) : RefM J w M := by
  unfold RefM RT at hM ⊢
  rw [h 312 (by omega) (by omega), h 313 (by omega) (by omega), h 315 (by omega) (by omega), h 316 (by omega) (by omega), h 317 (by omega) (by omega), h 318 (by omega) (by omega), h 319 (by omega) (by omega), h 320 (by omega) (by omega), h 321 (by omega) (by omega), h 322 (by omega) (by omega), h 323 (by omega) (by omega), h 324 (by omega) (by omega), h 325 (by omega) (by omega), h 326 (by omega) (by omega), h 327 (by omega) (by omega)]
  exact hM
theorem RefS_c {I J : ZI} {w : Nat} {M : MD} (h : ∀ a, 312 ≤ a → a ≤ 327 → J a = I a) (h0 : J 310 12 = I 310 12) (hM : RefS I w M) : RefS J w M := ⟨by rw [h0]; exact hM.1, hM.2.1, RefM_c h hM.2.2.1, hM.2.2.2⟩
theorem RefS_W {I : ZI} {w : Nat} {M : MD} {a : Nat} {f : Nat → Int} (ha : 327 < a) (hM : RefS I w M) : RefS (zW I a f) w M := RefS_c (fun b _ h2 => zW_n (by omega)) (by rw [zW_n (by omega)]) hM
theorem RefS_u {I : ZI} {w : Nat} {M : MD} {k : Nat} {x : Int} (hk : k ≠ 12) (hM : RefS I w M) : RefS (zu I 310 k x) w M := RefS_c (fun b h1 h2 => zu_n (by omega)) (zu_k (by omega)) hM
section
variable {X : ZX} {d c s : Nat} {I L : ZI} {R : ZR} {call : ZC} {w : Nat} {M : MD}
theorem tH_m {val : Nat → Int} {t : TT} (ht : t.2.1 = -1) : tH val t ↔ val t.1 < t.2.2 := by unfold tH; rw [if_pos (by omega)]
theorem tH_z {val : Nat → Int} {t : TT} (ht : t.2.1 = 0) : tH val t ↔ val t.1 = t.2.2 := by unfold tH; rw [if_neg (by omega), if_pos ht]
theorem tH_p {val : Nat → Int} {t : TT} (ht : t.2.1 = 1) : tH val t ↔ t.2.2 < val t.1 := by unfold tH; rw [if_neg (by omega), if_neg (by omega)]
theorem mAll_cons {val : Nat → Int} {t : TT} {l : List TT} : mAll val (t :: l) ↔ tH val t ∧ mAll val l := by unfold mAll; exact List.forall_mem_cons
theorem p_areHeld (hR : Rok R) (row : Nat) (hrow : row < 32) (l : List TT) (hl : RT I 320 321 322 323 row sgc l) (hk : TOK 4 l) {Q : Option ZV × ZS → Prop} : ∀ (l' : List TT) (j : Nat) (P : Prop) (x : Int) (v4 : ZV), l.drop j = l' → j ≤ l.length → x = zB P → Q (some (zi (zB (P ∧ mAll (I 328) l'))), (c, s, I, L, R)) → V X call mX12_areHeld 6 [zr (some 310), zi (row : Int), zi x, zi (3 * (row : Int) + j), v4] [] (c, s, I, L, R) Q := by
  intro l'
  have hlen := hk.1
  have h320 : I 320 ((row : Int)).toNat = l.length := by rw [Int.toNat_natCast]; exact hl.1
  induction l' with
  | nil =>
    intro j P x v4 h hj hx hQ
    have e := zdropn h hj
    have e2 : zB (P ∧ mAll (I 328) []) = x := by rw [hx]; exact zB_c ⟨fun q => q.1, fun q => ⟨q, fun t ht => by cases ht⟩⟩
    rw [e2] at hQ
    rw [e_X12_areHeld_6]
    simp (disch := omega) only [e_X12_areHeld_0, e_X12_areHeld_1, e_X12_areHeld_2, e_X12_areHeld_3, e_X12_areHeld_4, e_X12_areHeld_5, e_X12_areHeld_7, e_X12_areHeld_8, e_X12_areHeld_9, e_X12_areHeld_10, e_X12_areHeld_10x, e_X12_areHeld_11, e_X12_areHeld_14, e_X12_areHeld_15, e_X12_areHeld_16, e_X12_areHeld_17, e_X12_areHeld_20, e_X12_areHeld_20x, e_X12_areHeld_21, e_X12_areHeld_24, e_X12_areHeld_24x, e_X12_areHeld_25, e_X12_areHeld_28, e_X12_areHeld_29, e_X12_areHeld_30, e_X12_areHeld_31, e_X12_areHeld_33, e_X12_areHeld_34, e_X12_areHeld_37, e_X12_areHeld_37x, e_X12_areHeld_38, e_X12_areHeld_41, e_X12_areHeld_42, e_X12_areHeld_43, e_X12_areHeld_45, e_X12_areHeld_48, e_X12_areHeld_50, e_X12_areHeld_50x, e_X12_areHeld_51, e_X12_areHeld_54, e_X12_areHeld_55, e_X12_areHeld_56, e_X12_areHeld_59, e_X12_areHeld_62, e_X12_areHeld_62x, e_X12_areHeld_63, e_X12_areHeld_66, e_X12_areHeld_67, e_X12_areHeld_68, e_X12_areHeld_70, e_X12_areHeld_73, e_X12_areHeld_75, e_X12_areHeld_75x, e_X12_areHeld_76, e_X12_areHeld_79, e_X12_areHeld_80, e_X12_areHeld_81, e_X12_areHeld_84, e_X12_areHeld_87, e_X12_areHeld_89, e_X12_areHeld_89x, e_X12_areHeld_90, e_X12_areHeld_93, e_X12_areHeld_94, e_X12_areHeld_95, e_X12_areHeld_98, e_X12_areHeld_99, e_X12_areHeld_102, e_X12_areHeld_103, e_X12_areHeld_104, e_X12_areHeld_107, e_X12_areHeld_110, e_X12_areHeld_111, zcll_s, zpush_s, zpush_n, zinv_i, zinv_l, zinv_r, zinv_x, zcats_nil, zcats_i, zcats_l, zcats_r, zcats_x, Nat.le_refl, and_self, true_and, and_true, zok_1, zok_20, zok_21, eq_self, Nat.reduceAdd, Nat.reduceLeDiff, Nat.zero_le, if_true, if_false, zw3_id, if_pos, if_neg, zand_t, tg_310, tg_320, tn_320, rr_310_23 hR, h320]
    rw [hx] at hQ ⊢
    exact ⟨zB_ok, hQ⟩
  | cons t l' ih =>
    intro j P x v4 h hj hx hQ
    obtain ⟨h1, h2, h3, h4⟩ := zdrop h
    have ht := hk.2 t h4
    have hm := hl.2 j t h2
    have e : (3 * (row : Int) + j).toNat = 3 * row + j := by omega
    have e1 : ∀ y, y = 3 * (row : Int) + j + 1 → y = 3 * (row : Int) + ((j + 1 : Nat) : Int) := by intro y hy; omega
    have key : ∀ (P1 : Prop) (y : Int) (v4 : ZV), y = zB P1 → (P1 ↔ P ∧ tH (I 328) t) → V X call mX12_areHeld 6 [zr (some 310), zi (row : Int), zi y, zi (3 * (row : Int) + j + 1), v4] [] (c, s, I, L, R) Q := by
      intro P1 y v4 hy hP1
      rw [e1 _ rfl]
      refine ih (j + 1) P1 y v4 h3 (by omega) hy ?_
      rw [show zB (P1 ∧ mAll (I 328) l') = zB (P ∧ mAll (I 328) (t :: l')) from zB_c (by rw [mAll_cons, hP1, and_assoc])]
      exact hQ
    rw [e_X12_areHeld_6]
    have hv : ((t.1 : Int)).toNat = t.1 := Int.toNat_natCast _
    by_cases hP : P
    · have hx1 : x = 1 := by rw [hx, zB_t hP]
      subst hx1
      rcases ht.2.1 with hs | hs | hs
      · have hsg : sgc t.2.1 = 60 := by rw [hs]; rfl
        simp (disch := omega) only [e_X12_areHeld_0, e_X12_areHeld_1, e_X12_areHeld_2, e_X12_areHeld_3, e_X12_areHeld_4, e_X12_areHeld_5, e_X12_areHeld_7, e_X12_areHeld_8, e_X12_areHeld_9, e_X12_areHeld_10, e_X12_areHeld_10x, e_X12_areHeld_11, e_X12_areHeld_14, e_X12_areHeld_15, e_X12_areHeld_16, e_X12_areHeld_17, e_X12_areHeld_20, e_X12_areHeld_20x, e_X12_areHeld_21, e_X12_areHeld_24, e_X12_areHeld_24x, e_X12_areHeld_25, e_X12_areHeld_28, e_X12_areHeld_29, e_X12_areHeld_30, e_X12_areHeld_31, e_X12_areHeld_33, e_X12_areHeld_34, e_X12_areHeld_37, e_X12_areHeld_37x, e_X12_areHeld_38, e_X12_areHeld_41, e_X12_areHeld_42, e_X12_areHeld_43, e_X12_areHeld_45, e_X12_areHeld_48, e_X12_areHeld_50, e_X12_areHeld_50x, e_X12_areHeld_51, e_X12_areHeld_54, e_X12_areHeld_55, e_X12_areHeld_56, e_X12_areHeld_59, e_X12_areHeld_62, e_X12_areHeld_62x, e_X12_areHeld_63, e_X12_areHeld_66, e_X12_areHeld_67, e_X12_areHeld_68, e_X12_areHeld_70, e_X12_areHeld_73, e_X12_areHeld_75, e_X12_areHeld_75x, e_X12_areHeld_76, e_X12_areHeld_79, e_X12_areHeld_80, e_X12_areHeld_81, e_X12_areHeld_84, e_X12_areHeld_87, e_X12_areHeld_89, e_X12_areHeld_89x, e_X12_areHeld_90, e_X12_areHeld_93, e_X12_areHeld_94, e_X12_areHeld_95, e_X12_areHeld_98, e_X12_areHeld_99, e_X12_areHeld_102, e_X12_areHeld_103, e_X12_areHeld_104, e_X12_areHeld_107, e_X12_areHeld_110, e_X12_areHeld_111, zcll_s, zpush_s, zpush_n, zinv_i, zinv_l, zinv_r, zinv_x, zcats_nil, zcats_i, zcats_l, zcats_r, zcats_x, Nat.le_refl, and_self, true_and, and_true, zok_1, zok_20, zok_21, eq_self, Nat.reduceAdd, Nat.reduceLeDiff, Nat.zero_le, if_true, if_false, zw3_id, if_pos, if_neg, zand_t, tg_310, tg_320, tn_320, tg_321, tn_321, tg_322, tn_322, tg_323, tn_323, tg_328, tn_328, rr_310_23 hR, rr_310_24 hR, rr_310_25 hR, rr_310_26 hR, rr_310_32 hR, h320, e, hm.1, hm.2.1, hm.2.2, hsg, hv]
        split
        · exact key False 0 _ (by rw [zB_f]; exact id) ⟨fun q => q.elim, fun q => by rw [tH_m hs] at q; omega⟩
        · exact key True 1 _ (by rw [zB_t]; exact True.intro) ⟨fun _ => ⟨hP, by rw [tH_m hs]; omega⟩, fun _ => True.intro⟩
      · have hsg : sgc t.2.1 = 61 := by rw [hs]; rfl
        simp (disch := omega) only [e_X12_areHeld_0, e_X12_areHeld_1, e_X12_areHeld_2, e_X12_areHeld_3, e_X12_areHeld_4, e_X12_areHeld_5, e_X12_areHeld_7, e_X12_areHeld_8, e_X12_areHeld_9, e_X12_areHeld_10, e_X12_areHeld_10x, e_X12_areHeld_11, e_X12_areHeld_14, e_X12_areHeld_15, e_X12_areHeld_16, e_X12_areHeld_17, e_X12_areHeld_20, e_X12_areHeld_20x, e_X12_areHeld_21, e_X12_areHeld_24, e_X12_areHeld_24x, e_X12_areHeld_25, e_X12_areHeld_28, e_X12_areHeld_29, e_X12_areHeld_30, e_X12_areHeld_31, e_X12_areHeld_33, e_X12_areHeld_34, e_X12_areHeld_37, e_X12_areHeld_37x, e_X12_areHeld_38, e_X12_areHeld_41, e_X12_areHeld_42, e_X12_areHeld_43, e_X12_areHeld_45, e_X12_areHeld_48, e_X12_areHeld_50, e_X12_areHeld_50x, e_X12_areHeld_51, e_X12_areHeld_54, e_X12_areHeld_55, e_X12_areHeld_56, e_X12_areHeld_59, e_X12_areHeld_62, e_X12_areHeld_62x, e_X12_areHeld_63, e_X12_areHeld_66, e_X12_areHeld_67, e_X12_areHeld_68, e_X12_areHeld_70, e_X12_areHeld_73, e_X12_areHeld_75, e_X12_areHeld_75x, e_X12_areHeld_76, e_X12_areHeld_79, e_X12_areHeld_80, e_X12_areHeld_81, e_X12_areHeld_84, e_X12_areHeld_87, e_X12_areHeld_89, e_X12_areHeld_89x, e_X12_areHeld_90, e_X12_areHeld_93, e_X12_areHeld_94, e_X12_areHeld_95, e_X12_areHeld_98, e_X12_areHeld_99, e_X12_areHeld_102, e_X12_areHeld_103, e_X12_areHeld_104, e_X12_areHeld_107, e_X12_areHeld_110, e_X12_areHeld_111, zcll_s, zpush_s, zpush_n, zinv_i, zinv_l, zinv_r, zinv_x, zcats_nil, zcats_i, zcats_l, zcats_r, zcats_x, Nat.le_refl, and_self, true_and, and_true, zok_1, zok_20, zok_21, eq_self, Nat.reduceAdd, Nat.reduceLeDiff, Nat.zero_le, if_true, if_false, zw3_id, if_pos, if_neg, zand_t, tg_310, tg_320, tn_320, tg_321, tn_321, tg_322, tn_322, tg_323, tn_323, tg_328, tn_328, rr_310_23 hR, rr_310_24 hR, rr_310_25 hR, rr_310_26 hR, rr_310_32 hR, h320, e, hm.1, hm.2.1, hm.2.2, hsg, hv]
        split
        · exact key False 0 _ (by rw [zB_f]; exact id) ⟨fun q => q.elim, fun q => by rw [tH_z hs] at q; omega⟩
        · exact key True 1 _ (by rw [zB_t]; exact True.intro) ⟨fun _ => ⟨hP, by rw [tH_z hs]; omega⟩, fun _ => True.intro⟩
      · have hsg : sgc t.2.1 = 62 := by rw [hs]; rfl
        simp (disch := omega) only [e_X12_areHeld_0, e_X12_areHeld_1, e_X12_areHeld_2, e_X12_areHeld_3, e_X12_areHeld_4, e_X12_areHeld_5, e_X12_areHeld_7, e_X12_areHeld_8, e_X12_areHeld_9, e_X12_areHeld_10, e_X12_areHeld_10x, e_X12_areHeld_11, e_X12_areHeld_14, e_X12_areHeld_15, e_X12_areHeld_16, e_X12_areHeld_17, e_X12_areHeld_20, e_X12_areHeld_20x, e_X12_areHeld_21, e_X12_areHeld_24, e_X12_areHeld_24x, e_X12_areHeld_25, e_X12_areHeld_28, e_X12_areHeld_29, e_X12_areHeld_30, e_X12_areHeld_31, e_X12_areHeld_33, e_X12_areHeld_34, e_X12_areHeld_37, e_X12_areHeld_37x, e_X12_areHeld_38, e_X12_areHeld_41, e_X12_areHeld_42, e_X12_areHeld_43, e_X12_areHeld_45, e_X12_areHeld_48, e_X12_areHeld_50, e_X12_areHeld_50x, e_X12_areHeld_51, e_X12_areHeld_54, e_X12_areHeld_55, e_X12_areHeld_56, e_X12_areHeld_59, e_X12_areHeld_62, e_X12_areHeld_62x, e_X12_areHeld_63, e_X12_areHeld_66, e_X12_areHeld_67, e_X12_areHeld_68, e_X12_areHeld_70, e_X12_areHeld_73, e_X12_areHeld_75, e_X12_areHeld_75x, e_X12_areHeld_76, e_X12_areHeld_79, e_X12_areHeld_80, e_X12_areHeld_81, e_X12_areHeld_84, e_X12_areHeld_87, e_X12_areHeld_89, e_X12_areHeld_89x, e_X12_areHeld_90, e_X12_areHeld_93, e_X12_areHeld_94, e_X12_areHeld_95, e_X12_areHeld_98, e_X12_areHeld_99, e_X12_areHeld_102, e_X12_areHeld_103, e_X12_areHeld_104, e_X12_areHeld_107, e_X12_areHeld_110, e_X12_areHeld_111, zcll_s, zpush_s, zpush_n, zinv_i, zinv_l, zinv_r, zinv_x, zcats_nil, zcats_i, zcats_l, zcats_r, zcats_x, Nat.le_refl, and_self, true_and, and_true, zok_1, zok_20, zok_21, eq_self, Nat.reduceAdd, Nat.reduceLeDiff, Nat.zero_le, if_true, if_false, zw3_id, if_pos, if_neg, zand_t, tg_310, tg_320, tn_320, tg_321, tn_321, tg_322, tn_322, tg_323, tn_323, tg_328, tn_328, rr_310_23 hR, rr_310_24 hR, rr_310_25 hR, rr_310_26 hR, rr_310_32 hR, h320, e, hm.1, hm.2.1, hm.2.2, hsg, hv]
        split
        · exact key False 0 _ (by rw [zB_f]; exact id) ⟨fun q => q.elim, fun q => by rw [tH_p hs] at q; omega⟩
        · exact key True 1 _ (by rw [zB_t]; exact True.intro) ⟨fun _ => ⟨hP, by rw [tH_p hs]; omega⟩, fun _ => True.intro⟩
    · have hx1 : x = 0 := by rw [hx, zB_f hP]
      subst hx1
      simp (disch := omega) only [e_X12_areHeld_0, e_X12_areHeld_1, e_X12_areHeld_2, e_X12_areHeld_3, e_X12_areHeld_4, e_X12_areHeld_5, e_X12_areHeld_7, e_X12_areHeld_8, e_X12_areHeld_9, e_X12_areHeld_10, e_X12_areHeld_10x, e_X12_areHeld_11, e_X12_areHeld_14, e_X12_areHeld_15, e_X12_areHeld_16, e_X12_areHeld_17, e_X12_areHeld_20, e_X12_areHeld_20x, e_X12_areHeld_21, e_X12_areHeld_24, e_X12_areHeld_24x, e_X12_areHeld_25, e_X12_areHeld_28, e_X12_areHeld_29, e_X12_areHeld_30, e_X12_areHeld_31, e_X12_areHeld_33, e_X12_areHeld_34, e_X12_areHeld_37, e_X12_areHeld_37x, e_X12_areHeld_38, e_X12_areHeld_41, e_X12_areHeld_42, e_X12_areHeld_43, e_X12_areHeld_45, e_X12_areHeld_48, e_X12_areHeld_50, e_X12_areHeld_50x, e_X12_areHeld_51, e_X12_areHeld_54, e_X12_areHeld_55, e_X12_areHeld_56, e_X12_areHeld_59, e_X12_areHeld_62, e_X12_areHeld_62x, e_X12_areHeld_63, e_X12_areHeld_66, e_X12_areHeld_67, e_X12_areHeld_68, e_X12_areHeld_70, e_X12_areHeld_73, e_X12_areHeld_75, e_X12_areHeld_75x, e_X12_areHeld_76, e_X12_areHeld_79, e_X12_areHeld_80, e_X12_areHeld_81, e_X12_areHeld_84, e_X12_areHeld_87, e_X12_areHeld_89, e_X12_areHeld_89x, e_X12_areHeld_90, e_X12_areHeld_93, e_X12_areHeld_94, e_X12_areHeld_95, e_X12_areHeld_98, e_X12_areHeld_99, e_X12_areHeld_102, e_X12_areHeld_103, e_X12_areHeld_104, e_X12_areHeld_107, e_X12_areHeld_110, e_X12_areHeld_111, zcll_s, zpush_s, zpush_n, zinv_i, zinv_l, zinv_r, zinv_x, zcats_nil, zcats_i, zcats_l, zcats_r, zcats_x, Nat.le_refl, and_self, true_and, and_true, zok_1, zok_20, zok_21, eq_self, Nat.reduceAdd, Nat.reduceLeDiff, Nat.zero_le, if_true, if_false, zw3_id, if_pos, if_neg, zand_t, tg_310, tg_320, tn_320, tg_321, tn_321, tg_322, tn_322, tg_323, tn_323, tg_328, tn_328, rr_310_23 hR, rr_310_24 hR, rr_310_25 hR, rr_310_26 hR, rr_310_32 hR, h320, e, hm.1, hm.2.1, hm.2.2, hv]
      exact key False 0 _ (by rw [zB_f]; exact id) ⟨fun q => q.elim, fun q => hP q.1⟩
theorem c_areHeld (hR : Rok R) (row : Int) (h0 : 0 ≤ row) (hrow : row < 32) (l : List TT) (hl : RT I 320 321 322 323 row.toNat sgc l) (hk : TOK 4 l) : zrun X (d + 1) 139 [zr (some 310), zi row] (c, s, I, L, R) = some (some (zi (zB (mAll (I 328) l))), (c, s, I, L, R)) := by
  refine st_X12_areHeld ?_
  obtain ⟨row, rfl⟩ := Int.eq_ofNat_of_zero_le h0
  rw [Int.toNat_natCast] at hl
  simp (disch := omega) only [e_X12_areHeld_0, e_X12_areHeld_1, e_X12_areHeld_2, e_X12_areHeld_3, e_X12_areHeld_4, e_X12_areHeld_5, e_X12_areHeld_7, e_X12_areHeld_8, e_X12_areHeld_9, e_X12_areHeld_10, e_X12_areHeld_10x, e_X12_areHeld_11, e_X12_areHeld_14, e_X12_areHeld_15, e_X12_areHeld_16, e_X12_areHeld_17, e_X12_areHeld_20, e_X12_areHeld_20x, e_X12_areHeld_21, e_X12_areHeld_24, e_X12_areHeld_24x, e_X12_areHeld_25, e_X12_areHeld_28, e_X12_areHeld_29, e_X12_areHeld_30, e_X12_areHeld_31, e_X12_areHeld_33, e_X12_areHeld_34, e_X12_areHeld_37, e_X12_areHeld_37x, e_X12_areHeld_38, e_X12_areHeld_41, e_X12_areHeld_42, e_X12_areHeld_43, e_X12_areHeld_45, e_X12_areHeld_48, e_X12_areHeld_50, e_X12_areHeld_50x, e_X12_areHeld_51, e_X12_areHeld_54, e_X12_areHeld_55, e_X12_areHeld_56, e_X12_areHeld_59, e_X12_areHeld_62, e_X12_areHeld_62x, e_X12_areHeld_63, e_X12_areHeld_66, e_X12_areHeld_67, e_X12_areHeld_68, e_X12_areHeld_70, e_X12_areHeld_73, e_X12_areHeld_75, e_X12_areHeld_75x, e_X12_areHeld_76, e_X12_areHeld_79, e_X12_areHeld_80, e_X12_areHeld_81, e_X12_areHeld_84, e_X12_areHeld_87, e_X12_areHeld_89, e_X12_areHeld_89x, e_X12_areHeld_90, e_X12_areHeld_93, e_X12_areHeld_94, e_X12_areHeld_95, e_X12_areHeld_98, e_X12_areHeld_99, e_X12_areHeld_102, e_X12_areHeld_103, e_X12_areHeld_104, e_X12_areHeld_107, e_X12_areHeld_110, e_X12_areHeld_111, zcll_s, zpush_s, zpush_n, zinv_i, zinv_l, zinv_r, zinv_x, zcats_nil, zcats_i, zcats_l, zcats_r, zcats_x, Nat.le_refl, and_self, true_and, and_true, zok_1, zok_20, zok_21, eq_self, Nat.reduceAdd, Nat.reduceLeDiff, Nat.zero_le, if_true, if_false, zw3_id, if_pos, if_neg, zand_t]
  rw [show (3 * (row : Int)) = 3 * (row : Int) + ((0 : Nat) : Int) by omega]
  exact p_areHeld (X := X) (call := zrun X d) (c := c) (s := s) (L := L) hR row (by omega) l hl hk l 0 True 1 (zx 0) rfl (by omega) (by rw [zB_t True.intro]) (by rw [true_and])
/-- the rule's list is within -/
theorem TOK_4 {n : Nat} {l : List TT} (hn : n ≤ 4) (h : TOK n l) : TOK 4 l := ⟨h.1, fun t ht => ⟨by have := (h.2 t ht).1; omega, (h.2 t ht).2⟩⟩
theorem RefS_g (h : RefS I w M) {g : Nat} (hg : g < M.2.2.2.length) : RT I 320 321 322 323 (16 * w + 12 + g) sgc (M.2.2.2.getD g []) ∧ TOK 4 (M.2.2.2.getD g []) ∧ g < 4 := by
  obtain ⟨a, b⟩ := zgetDl (y := ([] : List TT)) hg
  obtain ⟨_, _, hM, hk⟩ := h
  exact ⟨hM.2.2.2.2.2.2 g _ b, TOK_4 hk.2.1.2 (hk.2.2.2.2.2.2.2 _ a), by have := hk.2.2.2.2.2.2.1; omega⟩
theorem c_isGoal (hR : Rok R) (h : RefS I w M) (g : Int) (h0 : 0 ≤ g) (hg : g < M.2.2.2.length) : zrun X (d + 2) 140 [zr (some 310), zi g] (c, s, I, L, R) = some (some (zi (zB (mAll (I 328) (M.2.2.2.getD g.toNat [])))), (c, s, I, L, R)) := by
  refine st_X12_isGoal ?_
  obtain ⟨h1, h2, h3⟩ := RefS_g h (show g.toNat < _ by omega)
  obtain ⟨h4, h5, _⟩ := h
  have e : (16 * (w : Int) + 12 + g).toNat = 16 * w + 12 + g.toNat := by omega
  rw [← e] at h1
  simp (disch := omega) only [e_X12_isGoal_0, e_X12_isGoal_0x, e_X12_isGoal_1, e_X12_isGoal_3, e_X12_isGoal_3x, e_X12_isGoal_4, e_X12_isGoal_7, e_X12_isGoal_8, e_X12_isGoal_10, e_X12_isGoal_11, e_X12_isGoal_12, e_X12_isGoal_13, e_X12_isGoal_16, zcll_s, zpush_s, zpush_n, zinv_i, zinv_l, zinv_r, zinv_x, zcats_nil, zcats_i, zcats_l, zcats_r, zcats_x, Nat.le_refl, and_self, true_and, and_true, zok_1, zok_20, zok_21, eq_self, Nat.reduceAdd, Nat.reduceLeDiff, Nat.zero_le, if_true, if_false, zw3_id, if_pos, if_neg, zand_t, tg_310, h4, c_areHeld hR _ _ _ _ h1 h2]
  exact zB_ok
theorem c_ruleBy0 (hR : Rok R) (h : RefS I w M) {Q : Option ZV × ZS → Prop} (dd : Int) (hd : dd < 1000) : ∀ (l : List MR) (left : Int) (r : Nat), M.2.2.1.drop r = l → r ≤ M.2.2.1.length → -1000 ≤ left - 20 * l.length → left < 1000 → Q (some (zi (mRul (I 328) l left r)), (c, s, I, L, R)) → V X (zrun X (d + 1)) mX12_ruleBy 4 [zr (some 310), zi dd, zi left, zi (r : Int)] [] (c, s, I, L, R) Q := by
  intro l
  obtain ⟨hw, hw2, hM, hk⟩ := h
  have hn := hk.2.2.2.2.1
  have h317 : I 317 ((w : Int)).toNat = M.2.2.1.length := by rw [Int.toNat_natCast]; exact hM.2.2.2.1
  induction l with
  | nil =>
    intro left r h hr h1 h2 hQ
    have e := zdropn h hr
    rw [e_X12_ruleBy_4]
    simp (disch := omega) only [e_X12_ruleBy_0, e_X12_ruleBy_1, e_X12_ruleBy_2, e_X12_ruleBy_3, e_X12_ruleBy_5, e_X12_ruleBy_5x, e_X12_ruleBy_6, e_X12_ruleBy_9, e_X12_ruleBy_9x, e_X12_ruleBy_10, e_X12_ruleBy_13, e_X12_ruleBy_14, e_X12_ruleBy_17, e_X12_ruleBy_17x, e_X12_ruleBy_18, e_X12_ruleBy_20, e_X12_ruleBy_20x, e_X12_ruleBy_21, e_X12_ruleBy_24, e_X12_ruleBy_25, e_X12_ruleBy_26, e_X12_ruleBy_27, e_X12_ruleBy_30, e_X12_ruleBy_33, e_X12_ruleBy_34, e_X12_ruleBy_34x, e_X12_ruleBy_35, e_X12_ruleBy_38, e_X12_ruleBy_40, e_X12_ruleBy_40x, e_X12_ruleBy_41, e_X12_ruleBy_44, e_X12_ruleBy_45, e_X12_ruleBy_46, e_X12_ruleBy_47, e_X12_ruleBy_48, e_X12_ruleBy_51, e_X12_ruleBy_52, e_X12_ruleBy_53, e_X12_ruleBy_54, e_X12_ruleBy_54x, e_X12_ruleBy_55, e_X12_ruleBy_58, e_X12_ruleBy_60, e_X12_ruleBy_60x, e_X12_ruleBy_61, e_X12_ruleBy_64, e_X12_ruleBy_65, e_X12_ruleBy_66, e_X12_ruleBy_67, e_X12_ruleBy_68, e_X12_ruleBy_69, e_X12_ruleBy_70, e_X12_ruleBy_73, e_X12_ruleBy_76, e_X12_ruleBy_77, zcll_s, zpush_s, zpush_n, zinv_i, zinv_l, zinv_r, zinv_x, zcats_nil, zcats_i, zcats_l, zcats_r, zcats_x, Nat.le_refl, and_self, true_and, and_true, zok_1, zok_20, zok_21, eq_self, Nat.reduceAdd, Nat.reduceLeDiff, Nat.zero_le, if_true, if_false, zw3_id, if_pos, if_neg, zand_t, tg_310, tg_317, tn_317, rr_310_20 hR, hw, h317]
    exact hQ
  | cons x l ih =>
    intro left r h hr h1 h2 hQ
    obtain ⟨h3, h4, h5, h6⟩ := zdrop h
    have hx := hM.2.2.2.2.1 r x h4
    have hxk := hk.2.2.2.2.2.1 x h6
    have hlen : ((x :: l).length : Int) = l.length + 1 := by rw [List.length_cons]; omega
    rw [hlen] at h1
    have e : (16 * (w : Int) + r).toNat = 16 * w + r := by omega
    have e2 : (12 * (w : Int) + r).toNat = 12 * w + r := by omega
    have hh := hx.2.1
    rw [← e] at hh
    have hk1 := hk.1
    have hc := c_areHeld (X := X) (d := d) (c := c) (s := s) (L := L) hR (16 * (w : Int) + r) (by omega) (by omega) x.2.1 hh (TOK_4 hk.2.1.2 hxk.2.1)
    have e3 : (r : Int) + 1 = ((r + 1 : Nat) : Int) := by omega
    rw [e_X12_ruleBy_4]
    unfold mRul at hQ
    by_cases ha : mAll (I 328) x.2.1
    · rw [zB_t ha] at hc
      rw [if_pos ha] at hQ
      by_cases hl : left < x.1
      · rw [if_pos hl] at hQ
        simp (disch := omega) only [e_X12_ruleBy_0, e_X12_ruleBy_1, e_X12_ruleBy_2, e_X12_ruleBy_3, e_X12_ruleBy_5, e_X12_ruleBy_5x, e_X12_ruleBy_6, e_X12_ruleBy_9, e_X12_ruleBy_9x, e_X12_ruleBy_10, e_X12_ruleBy_13, e_X12_ruleBy_14, e_X12_ruleBy_17, e_X12_ruleBy_17x, e_X12_ruleBy_18, e_X12_ruleBy_20, e_X12_ruleBy_20x, e_X12_ruleBy_21, e_X12_ruleBy_24, e_X12_ruleBy_25, e_X12_ruleBy_26, e_X12_ruleBy_27, e_X12_ruleBy_30, e_X12_ruleBy_33, e_X12_ruleBy_34, e_X12_ruleBy_34x, e_X12_ruleBy_35, e_X12_ruleBy_38, e_X12_ruleBy_40, e_X12_ruleBy_40x, e_X12_ruleBy_41, e_X12_ruleBy_44, e_X12_ruleBy_45, e_X12_ruleBy_46, e_X12_ruleBy_47, e_X12_ruleBy_48, e_X12_ruleBy_51, e_X12_ruleBy_52, e_X12_ruleBy_53, e_X12_ruleBy_54, e_X12_ruleBy_54x, e_X12_ruleBy_55, e_X12_ruleBy_58, e_X12_ruleBy_60, e_X12_ruleBy_60x, e_X12_ruleBy_61, e_X12_ruleBy_64, e_X12_ruleBy_65, e_X12_ruleBy_66, e_X12_ruleBy_67, e_X12_ruleBy_68, e_X12_ruleBy_69, e_X12_ruleBy_70, e_X12_ruleBy_73, e_X12_ruleBy_76, e_X12_ruleBy_77, zcll_s, zpush_s, zpush_n, zinv_i, zinv_l, zinv_r, zinv_x, zcats_nil, zcats_i, zcats_l, zcats_r, zcats_x, Nat.le_refl, and_self, true_and, and_true, zok_1, zok_20, zok_21, eq_self, Nat.reduceAdd, Nat.reduceLeDiff, Nat.zero_le, if_true, if_false, zw3_id, if_pos, if_neg, zand_t, tg_310, tg_317, tn_317, tg_318, tn_318, rr_310_20 hR, rr_310_21 hR, hw, h317, hc, e2, hx.1]
        exact hQ
      · rw [if_neg hl] at hQ
        simp (disch := omega) only [e_X12_ruleBy_0, e_X12_ruleBy_1, e_X12_ruleBy_2, e_X12_ruleBy_3, e_X12_ruleBy_5, e_X12_ruleBy_5x, e_X12_ruleBy_6, e_X12_ruleBy_9, e_X12_ruleBy_9x, e_X12_ruleBy_10, e_X12_ruleBy_13, e_X12_ruleBy_14, e_X12_ruleBy_17, e_X12_ruleBy_17x, e_X12_ruleBy_18, e_X12_ruleBy_20, e_X12_ruleBy_20x, e_X12_ruleBy_21, e_X12_ruleBy_24, e_X12_ruleBy_25, e_X12_ruleBy_26, e_X12_ruleBy_27, e_X12_ruleBy_30, e_X12_ruleBy_33, e_X12_ruleBy_34, e_X12_ruleBy_34x, e_X12_ruleBy_35, e_X12_ruleBy_38, e_X12_ruleBy_40, e_X12_ruleBy_40x, e_X12_ruleBy_41, e_X12_ruleBy_44, e_X12_ruleBy_45, e_X12_ruleBy_46, e_X12_ruleBy_47, e_X12_ruleBy_48, e_X12_ruleBy_51, e_X12_ruleBy_52, e_X12_ruleBy_53, e_X12_ruleBy_54, e_X12_ruleBy_54x, e_X12_ruleBy_55, e_X12_ruleBy_58, e_X12_ruleBy_60, e_X12_ruleBy_60x, e_X12_ruleBy_61, e_X12_ruleBy_64, e_X12_ruleBy_65, e_X12_ruleBy_66, e_X12_ruleBy_67, e_X12_ruleBy_68, e_X12_ruleBy_69, e_X12_ruleBy_70, e_X12_ruleBy_73, e_X12_ruleBy_76, e_X12_ruleBy_77, zcll_s, zpush_s, zpush_n, zinv_i, zinv_l, zinv_r, zinv_x, zcats_nil, zcats_i, zcats_l, zcats_r, zcats_x, Nat.le_refl, and_self, true_and, and_true, zok_1, zok_20, zok_21, eq_self, Nat.reduceAdd, Nat.reduceLeDiff, Nat.zero_le, if_true, if_false, zw3_id, if_pos, if_neg, zand_t, tg_310, tg_317, tn_317, tg_318, tn_318, rr_310_20 hR, rr_310_21 hR, hw, h317, hc, e2, hx.1]
        rw [e3] at hQ ⊢
        exact ih (left - x.1) (r + 1) h5 (by omega) (by omega) (by omega) hQ
    · rw [zB_f ha] at hc
      rw [if_neg ha] at hQ
      simp (disch := omega) only [e_X12_ruleBy_0, e_X12_ruleBy_1, e_X12_ruleBy_2, e_X12_ruleBy_3, e_X12_ruleBy_5, e_X12_ruleBy_5x, e_X12_ruleBy_6, e_X12_ruleBy_9, e_X12_ruleBy_9x, e_X12_ruleBy_10, e_X12_ruleBy_13, e_X12_ruleBy_14, e_X12_ruleBy_17, e_X12_ruleBy_17x, e_X12_ruleBy_18, e_X12_ruleBy_20, e_X12_ruleBy_20x, e_X12_ruleBy_21, e_X12_ruleBy_24, e_X12_ruleBy_25, e_X12_ruleBy_26, e_X12_ruleBy_27, e_X12_ruleBy_30, e_X12_ruleBy_33, e_X12_ruleBy_34, e_X12_ruleBy_34x, e_X12_ruleBy_35, e_X12_ruleBy_38, e_X12_ruleBy_40, e_X12_ruleBy_40x, e_X12_ruleBy_41, e_X12_ruleBy_44, e_X12_ruleBy_45, e_X12_ruleBy_46, e_X12_ruleBy_47, e_X12_ruleBy_48, e_X12_ruleBy_51, e_X12_ruleBy_52, e_X12_ruleBy_53, e_X12_ruleBy_54, e_X12_ruleBy_54x, e_X12_ruleBy_55, e_X12_ruleBy_58, e_X12_ruleBy_60, e_X12_ruleBy_60x, e_X12_ruleBy_61, e_X12_ruleBy_64, e_X12_ruleBy_65, e_X12_ruleBy_66, e_X12_ruleBy_67, e_X12_ruleBy_68, e_X12_ruleBy_69, e_X12_ruleBy_70, e_X12_ruleBy_73, e_X12_ruleBy_76, e_X12_ruleBy_77, zcll_s, zpush_s, zpush_n, zinv_i, zinv_l, zinv_r, zinv_x, zcats_nil, zcats_i, zcats_l, zcats_r, zcats_x, Nat.le_refl, and_self, true_and, and_true, zok_1, zok_20, zok_21, eq_self, Nat.reduceAdd, Nat.reduceLeDiff, Nat.zero_le, if_true, if_false, zw3_id, if_pos, if_neg, zand_t, tg_310, tg_317, tn_317, tg_318, tn_318, rr_310_20 hR, rr_310_21 hR, hw, h317, hc, e2, hx.1]
      rw [e3] at hQ ⊢
      exact ih left (r + 1) h5 (by omega) (by omega) (by omega) hQ
theorem c_ruleBy (hR : Rok R) (h : RefS I w M) (dd : Int) (h0 : 0 ≤ dd) (hd : dd < 1000) : zrun X (d + 2) 141 [zr (some 310), zi dd] (c, s, I, L, R) = some (some (zi (mR M (I 328) dd)), (c, s, I, L, R)) := by
  refine st_X12_ruleBy ?_
  have hn := h.2.2.2.2.2.2.2.1
  simp (disch := omega) only [e_X12_ruleBy_0, e_X12_ruleBy_1, e_X12_ruleBy_2, e_X12_ruleBy_3, e_X12_ruleBy_5, e_X12_ruleBy_5x, e_X12_ruleBy_6, e_X12_ruleBy_9, e_X12_ruleBy_9x, e_X12_ruleBy_10, e_X12_ruleBy_13, e_X12_ruleBy_14, e_X12_ruleBy_17, e_X12_ruleBy_17x, e_X12_ruleBy_18, e_X12_ruleBy_20, e_X12_ruleBy_20x, e_X12_ruleBy_21, e_X12_ruleBy_24, e_X12_ruleBy_25, e_X12_ruleBy_26, e_X12_ruleBy_27, e_X12_ruleBy_30, e_X12_ruleBy_33, e_X12_ruleBy_34, e_X12_ruleBy_34x, e_X12_ruleBy_35, e_X12_ruleBy_38, e_X12_ruleBy_40, e_X12_ruleBy_40x, e_X12_ruleBy_41, e_X12_ruleBy_44, e_X12_ruleBy_45, e_X12_ruleBy_46, e_X12_ruleBy_47, e_X12_ruleBy_48, e_X12_ruleBy_51, e_X12_ruleBy_52, e_X12_ruleBy_53, e_X12_ruleBy_54, e_X12_ruleBy_54x, e_X12_ruleBy_55, e_X12_ruleBy_58, e_X12_ruleBy_60, e_X12_ruleBy_60x, e_X12_ruleBy_61, e_X12_ruleBy_64, e_X12_ruleBy_65, e_X12_ruleBy_66, e_X12_ruleBy_67, e_X12_ruleBy_68, e_X12_ruleBy_69, e_X12_ruleBy_70, e_X12_ruleBy_73, e_X12_ruleBy_76, e_X12_ruleBy_77, zcll_s, zpush_s, zpush_n, zinv_i, zinv_l, zinv_r, zinv_x, zcats_nil, zcats_i, zcats_l, zcats_r, zcats_x, Nat.le_refl, and_self, true_and, and_true, zok_1, zok_20, zok_21, eq_self, Nat.reduceAdd, Nat.reduceLeDiff, Nat.zero_le, if_true, if_false, zw3_id, if_pos, if_neg, zand_t]
  exact c_ruleBy0 (X := X) (d := d) hR h dd hd M.2.2.1 dd 0 rfl (by omega) (by omega) (by omega) rfl
end
