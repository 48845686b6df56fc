/-! The class's reader: names, terms. -/
section
variable {X : ZX} {d c s : Nat} {I L I1 L1 I2 L2 J : ZI} {R R1 R2 : ZR} {call : ZC} {n p b t lo hi : Nat} {x : Int} {B : Nat → Int} {vs : List MV}
/-- all that reading may touch: the tape's fields, the reader's, the cells from lo on below hi -/
def FrC (lo hi : Nat) (I I1 : ZI) : Prop := (∀ a, a ≠ 1 → a ≠ 3 → (a < lo ∨ hi ≤ a) → I1 a = I a) ∧ I1 1 1 = I 1 1
theorem FrC_r : FrC lo hi I I := ⟨fun _ _ _ _ => rfl, rfl⟩
theorem FrC_t (h1 : FrC lo hi I I1) (h2 : FrC lo hi I1 I2) : FrC lo hi I I2 := ⟨fun a q1 q2 q3 => (h2.1 a q1 q2 q3).trans (h1.1 a q1 q2 q3), h2.2.trans h1.2⟩
theorem FrC_w {lo1 hi1 : Nat} (h : FrC lo hi I I1) (h1 : lo1 ≤ lo) (h2 : hi ≤ hi1) : FrC lo1 hi1 I I1 := ⟨fun a q1 q2 q3 => h.1 a q1 q2 (by omega), h.2⟩
theorem FrC_x (h : FxT I I1) : FrC lo hi I I1 := ⟨fun a q1 _ _ => h.1 a q1, h.2⟩
theorem FrC_u {a k : Nat} {y : Int} (h0 : lo ≤ a) (h1 : a < hi) (h4 : 4 ≤ a) : FrC lo hi I (zu I a k y) := ⟨fun e _ _ q => zu_n (by omega), by rw [zu_n (by omega)]⟩
theorem FrC_3 {k : Nat} {y : Int} : FrC lo hi I (zu I 3 k y) := ⟨fun e _ q _ => zu_n q, by rw [zu_n (by omega)]⟩
def ErC (I : ZI) (e : PE) : Prop := I 3 2 = e.1 ∧ I 3 3 = e.2
theorem FrC_e {e : PE} : FrC lo hi I (erC I e) := FrC_t FrC_3 FrC_3
theorem ErC_e {e : PE} : ErC (erC I e) e := by
  unfold ErC erC
  exact ⟨by rw [zu_k (by omega), zu_s], by rw [zu_s]⟩
theorem TpC_c (h : TpC I B n p) (h1 : I1 1 = I 1) (h2 : I1 2 = I 2) : TpC I1 B n p := by
  unfold TpC TxC at h ⊢
  rw [h1, h2]
  exact h
theorem TpC_u {a k : Nat} {y : Int} (h : TpC I B n p) (ha : 3 ≤ a) : TpC (zu I a k y) B n p := TpC_c h (zu_n (by omega)) (zu_n (by omega))
/-- the vars that were read -/
def CVs (I : ZI) (b : Nat) (vs : List MV) : Prop := I b 1 = (vs.length : Int) ∧ I b 4 = mPr vs ∧ ∀ v y, vs[v]? = some y → I (b + 1) v = y.2.1 ∧ I (b + 2) v = y.2.2 ∧ I (b + 5) v = vR 27 96 y.1
theorem CVs_c (h : CVs I b vs) (h1 : I1 b 1 = I b 1) (h2 : I1 b 4 = I b 4) (h3 : I1 (b + 1) = I (b + 1)) (h4 : I1 (b + 2) = I (b + 2)) (h5 : I1 (b + 5) = I (b + 5)) : CVs I1 b vs := by
  unfold CVs
  rw [h1, h2, h3, h4, h5]
  exact h
/-- the class reads: at token p, into the model at b -/
def CpC (I : ZI) (R : ZR) (B : Nat → Int) (n p b : Nat) (vs : List MV) : Prop := TpC I B n p ∧ Rok R ∧ R 3 1 = some b ∧ (b = 4 ∨ b = 135) ∧ CVs I b vs ∧ VsO vs
theorem CpC_f {p1 : Nat} (h : CpC I R B n p b vs) (hF : FrC lo hi I I1) (hl : b + 6 ≤ lo) (hT : TpC I1 B n p1) : CpC I1 R B n p1 b vs := by
  obtain ⟨h1, h2, h3, h4, h5, h6⟩ := h
  exact ⟨hT, h2, h3, h4, CVs_c h5 (by rw [hF.1 b (by omega) (by omega) (by omega)]) (by rw [hF.1 b (by omega) (by omega) (by omega)]) (hF.1 _ (by omega) (by omega) (by omega)) (hF.1 _ (by omega) (by omega) (by omega)) (hF.1 _ (by omega) (by omega) (by omega)), h6⟩
theorem vR_e27 {l m : List Int} (hl : NmO l) (hm : NmO m) : vR 27 96 l = vR 27 96 m ↔ l = m := ⟨fun h => vR_inj (by omega) l m (fun y hy => by have := hl.2 y hy; omega) (fun y hy => by have := hm.2 y hy; omega) h, fun h => by rw [h]⟩
theorem q_varNamed (hR : Rok R) (hb : b = 4 ∨ b = 135) (hv : CVs I b vs) (hl : vs.length ≤ 4) (hn : VNm vs) {nm : List Int} (hnm : NmO nm) : ∀ (l : List MV) (v : Nat), vs.drop v = l → v ≤ vs.length → V X call mX1_varNamed 2 [zr (some b), zi (vR 27 96 nm), zi (v : Int)] [] (c, s, I, L, R) (fun q => q = (some (zi (vIx l nm v)), (c, s, I, L, R))) := by
  intro l
  have rr := (rr_model hR hb).2.2.2.2
  have tt1 := (tt_model hb).1
  have tt5 := (tt_model hb).2.2.2.2.2
  have hlen := hv.1
  induction l with
  | nil =>
    intro v h1 h2
    have e := zdropn h1 h2
    clear hb hv hn hnm
    rw [e_X1_varNamed_2]
    simp (disch := omega) only [e_X1_varNamed_0, e_X1_varNamed_1, e_X1_varNamed_3, e_X1_varNamed_3x, e_X1_varNamed_4, e_X1_varNamed_7, e_X1_varNamed_10, e_X1_varNamed_11, e_X1_varNamed_12, e_X1_varNamed_15, e_X1_varNamed_15x, e_X1_varNamed_16, e_X1_varNamed_19, e_X1_varNamed_20, e_X1_varNamed_21, e_X1_varNamed_22, e_X1_varNamed_25, e_X1_varNamed_26, e_X1_varNamed_27, e_X1_varNamed_30, e_X1_varNamed_33, e_X1_varNamed_34, zcll_s, zpush_s, zpush_n, zinv_i, zinv_l, zinv_r, zinv_x, zcats_nil, zcats_i, zcats_l, zcats_r, zcats_x, Nat.le_refl, and_self, true_and, and_true, zok_1, zok_20, zok_21, eq_self, Nat.reduceAdd, Nat.reduceLeDiff, Nat.zero_le, if_true, if_false, zw3_id, if_pos, if_neg, zand_t, tt1, hlen]
    rfl
  | cons y l ih =>
    intro v h1 h2
    obtain ⟨k1, k2, k3, k4⟩ := zdrop h1
    have hy := (hv.2.2 v y k2).2.2
    have hq := vR_e27 (hn y k4) hnm
    have nx := ih (v + 1) k3 (by omega)
    unfold vIx
    rw [e_X1_varNamed_2]
    clear ih hv hn hb h1 k2 k3 k4
    by_cases q : y.1 = nm
    · rw [if_pos q]
      rw [q] at hy
      clear hq hnm
      simp (disch := omega) only [e_X1_varNamed_0, e_X1_varNamed_1, e_X1_varNamed_3, e_X1_varNamed_3x, e_X1_varNamed_4, e_X1_varNamed_7, e_X1_varNamed_10, e_X1_varNamed_11, e_X1_varNamed_12, e_X1_varNamed_15, e_X1_varNamed_15x, e_X1_varNamed_16, e_X1_varNamed_19, e_X1_varNamed_20, e_X1_varNamed_21, e_X1_varNamed_22, e_X1_varNamed_25, e_X1_varNamed_26, e_X1_varNamed_27, e_X1_varNamed_30, e_X1_varNamed_33, e_X1_varNamed_34, zcll_s, zpush_s, zpush_n, zinv_i, zinv_l, zinv_r, zinv_x, zcats_nil, zcats_i, zcats_l, zcats_r, zcats_x, Nat.le_refl, and_self, true_and, and_true, zok_1, zok_20, zok_21, eq_self, Nat.reduceAdd, Nat.reduceLeDiff, Nat.zero_le, if_true, if_false, zw3_id, if_pos, if_neg, zand_t, tt1, tt5, rr, Int.toNat_natCast, hlen, hy]
    · rw [if_neg q]
      have hne : ¬ vR 27 96 y.1 = vR 27 96 nm := fun z => q (hq.mp z)
      clear hq hnm q
      simp (disch := omega) only [e_X1_varNamed_0, e_X1_varNamed_1, e_X1_varNamed_3, e_X1_varNamed_3x, e_X1_varNamed_4, e_X1_varNamed_7, e_X1_varNamed_10, e_X1_varNamed_11, e_X1_varNamed_12, e_X1_varNamed_15, e_X1_varNamed_15x, e_X1_varNamed_16, e_X1_varNamed_19, e_X1_varNamed_20, e_X1_varNamed_21, e_X1_varNamed_22, e_X1_varNamed_25, e_X1_varNamed_26, e_X1_varNamed_27, e_X1_varNamed_30, e_X1_varNamed_33, e_X1_varNamed_34, zcll_s, zpush_s, zpush_n, zinv_i, zinv_l, zinv_r, zinv_x, zcats_nil, zcats_i, zcats_l, zcats_r, zcats_x, Nat.le_refl, and_self, true_and, and_true, zok_1, zok_20, zok_21, eq_self, Nat.reduceAdd, Nat.reduceLeDiff, Nat.zero_le, if_true, if_false, zw3_id, if_pos, if_neg, zand_t, tt1, tt5, rr, Int.toNat_natCast, hlen, hy, hne]
      rw [show (v : Int) + 1 = ((v + 1 : Nat) : Int) by omega]
      exact nx
theorem k_varNamed (hR : Rok R) (hb : b = 4 ∨ b = 135) (hv : CVs I b vs) (hl : vs.length ≤ 4) (hn : VNm vs) {nm : List Int} (hnm : NmO nm) : zrun X (d + 1) 8 [zr (some b), zi (vR 27 96 nm)] (c, s, I, L, R) = some (some (zi (vIx vs nm 0)), (c, s, I, L, R)) := by
  refine st_X1_varNamed ?_
  simp (disch := omega) only [e_X1_varNamed_0, e_X1_varNamed_1, e_X1_varNamed_3, e_X1_varNamed_3x, e_X1_varNamed_4, e_X1_varNamed_7, e_X1_varNamed_10, e_X1_varNamed_11, e_X1_varNamed_12, e_X1_varNamed_15, e_X1_varNamed_15x, e_X1_varNamed_16, e_X1_varNamed_19, e_X1_varNamed_20, e_X1_varNamed_21, e_X1_varNamed_22, e_X1_varNamed_25, e_X1_varNamed_26, e_X1_varNamed_27, e_X1_varNamed_30, e_X1_varNamed_33, e_X1_varNamed_34, zcll_s, zpush_s, zpush_n, zinv_i, zinv_l, zinv_r, zinv_x, zcats_nil, zcats_i, zcats_l, zcats_r, zcats_x, Nat.le_refl, and_self, true_and, and_true, zok_1, zok_20, zok_21, eq_self, Nat.reduceAdd, Nat.reduceLeDiff, Nat.zero_le, if_true, if_false, zw3_id, if_pos, if_neg, zand_t]
  exact q_varNamed (X := X) (call := zrun X d) hR hb hv hl hn hnm vs 0 rfl (by omega)
theorem nn_0 (hR : Rok R) {kd f : Int} (h4 : I 1 4 = kd) (hk : kd ≠ 1) (h2 : I 1 2 = f) : zrun X (d + 2) 35 [zr (some 3)] (c, s, I, L, R) = some (some (zi 0), (c, s, erC I (1, f), L, R)) := by
  refine st_X3_isNewName ?_
  have q := k_fails (X := X) (d := d) (c := c) (s := s) (L := L) hR (y := 1) h2
  simp (disch := omega) only [e_X3_isNewName_0, e_X3_isNewName_0x, e_X3_isNewName_1, e_X3_isNewName_4, e_X3_isNewName_7, e_X3_isNewName_8, e_X3_isNewName_11, e_X3_isNewName_11x, e_X3_isNewName_12, e_X3_isNewName_13, e_X3_isNewName_16, e_X3_isNewName_17, e_X3_isNewName_17x, e_X3_isNewName_18, e_X3_isNewName_21, e_X3_isNewName_21x, e_X3_isNewName_22, e_X3_isNewName_25, e_X3_isNewName_28, e_X3_isNewName_31, e_X3_isNewName_32, e_X3_isNewName_35, e_X3_isNewName_35x, e_X3_isNewName_36, e_X3_isNewName_37, e_X3_isNewName_40, e_X3_isNewName_43, e_X3_isNewName_44, e_X3_isNewName_47, e_X3_isNewName_48, zcll_s, zpush_s, zpush_n, zinv_i, zinv_l, zinv_r, zinv_x, zcats_nil, zcats_i, zcats_l, zcats_r, zcats_x, Nat.le_refl, and_self, true_and, and_true, zok_1, zok_20, zok_21, eq_self, Nat.reduceAdd, Nat.reduceLeDiff, Nat.zero_le, if_true, if_false, zw3_id, if_pos, if_neg, zand_t, tg_1, tg_3, rr_3_0 hR, h4, q]
theorem nn_1 (hR : Rok R) (h31 : R 3 1 = some b) (tb : (zT b).1 = 11) {nm f v : Int} (h4 : I 1 4 = 1) (h5 : I 1 5 = nm) (h2 : I 1 2 = f) (q1 : zrun X (d + 1) 8 [zr (some b), zi nm] (c, s, I, L, R) = some (some (zi v), (c, s, I, L, R))) (hv : v ≠ -1) : zrun X (d + 2) 35 [zr (some 3)] (c, s, I, L, R) = some (some (zi 0), (c, s, erC I (2, f), L, R)) := by
  refine st_X3_isNewName ?_
  have q := k_fails (X := X) (d := d) (c := c) (s := s) (L := L) hR (y := 2) h2
  simp (disch := omega) only [e_X3_isNewName_0, e_X3_isNewName_0x, e_X3_isNewName_1, e_X3_isNewName_4, e_X3_isNewName_7, e_X3_isNewName_8, e_X3_isNewName_11, e_X3_isNewName_11x, e_X3_isNewName_12, e_X3_isNewName_13, e_X3_isNewName_16, e_X3_isNewName_17, e_X3_isNewName_17x, e_X3_isNewName_18, e_X3_isNewName_21, e_X3_isNewName_21x, e_X3_isNewName_22, e_X3_isNewName_25, e_X3_isNewName_28, e_X3_isNewName_31, e_X3_isNewName_32, e_X3_isNewName_35, e_X3_isNewName_35x, e_X3_isNewName_36, e_X3_isNewName_37, e_X3_isNewName_40, e_X3_isNewName_43, e_X3_isNewName_44, e_X3_isNewName_47, e_X3_isNewName_48, zcll_s, zpush_s, zpush_n, zinv_i, zinv_l, zinv_r, zinv_x, zcats_nil, zcats_i, zcats_l, zcats_r, zcats_x, Nat.le_refl, and_self, true_and, and_true, zok_1, zok_20, zok_21, eq_self, Nat.reduceAdd, Nat.reduceLeDiff, Nat.zero_le, if_true, if_false, zw3_id, if_pos, if_neg, zand_t, tg_1, tg_3, rr_3_0 hR, h31, tb, h4, h5, q1, q]
theorem nn_2 (hR : Rok R) (h31 : R 3 1 = some b) (tb : (zT b).1 = 11) {nm v : Int} (h4 : I 1 4 = 1) (h5 : I 1 5 = nm) (q1 : zrun X (d + 1) 8 [zr (some b), zi nm] (c, s, I, L, R) = some (some (zi v), (c, s, I, L, R))) (hv : v = -1) : zrun X (d + 2) 35 [zr (some 3)] (c, s, I, L, R) = some (some (zi 1), (c, s, I, L, R)) := by
  refine st_X3_isNewName ?_
  simp (disch := omega) only [e_X3_isNewName_0, e_X3_isNewName_0x, e_X3_isNewName_1, e_X3_isNewName_4, e_X3_isNewName_7, e_X3_isNewName_8, e_X3_isNewName_11, e_X3_isNewName_11x, e_X3_isNewName_12, e_X3_isNewName_13, e_X3_isNewName_16, e_X3_isNewName_17, e_X3_isNewName_17x, e_X3_isNewName_18, e_X3_isNewName_21, e_X3_isNewName_21x, e_X3_isNewName_22, e_X3_isNewName_25, e_X3_isNewName_28, e_X3_isNewName_31, e_X3_isNewName_32, e_X3_isNewName_35, e_X3_isNewName_35x, e_X3_isNewName_36, e_X3_isNewName_37, e_X3_isNewName_40, e_X3_isNewName_43, e_X3_isNewName_44, e_X3_isNewName_47, e_X3_isNewName_48, zcll_s, zpush_s, zpush_n, zinv_i, zinv_l, zinv_r, zinv_x, zcats_nil, zcats_i, zcats_l, zcats_r, zcats_x, Nat.le_refl, and_self, true_and, and_true, zok_1, zok_20, zok_21, eq_self, Nat.reduceAdd, Nat.reduceLeDiff, Nat.zero_le, if_true, if_false, zw3_id, if_pos, if_neg, zand_t, tg_1, tg_3, rr_3_0 hR, h31, tb, h4, h5, q1]
theorem k_addVar (hR : Rok R) (hb : b = 4 ∨ b = 135) {k : Nat} {nm mo fi st : Int} (hk : I b 1 = (k : Int)) (h4 : k < 4) (hs : I b 4 = st) (h0 : 0 ≤ mo) (h1 : mo ≤ 30) (h2 : 0 ≤ st * (mo + 1)) (h3 : st * (mo + 1) ≤ 1000) : zrun X (d + 1) 7 [zr (some b), zi nm, zi mo, zi fi] (c, s, I, L, R) = some (none, (c, s, zu (zu (zu (zu (zu I (b + 5) k nm) (b + 1) k mo) (b + 2) k fi) b 1 ((k : Int) + 1)) b 4 (st * (mo + 1)), L, R)) := by
  refine st_X1_addVar ?_
  obtain ⟨tt0, tt1, tt2, -, -, tt5⟩ := tt_model hb
  obtain ⟨r1, r2, -, -, r5⟩ := rr_model hR hb
  have a1 : zu I (b + 5) k nm b 1 = (k : Int) := by rw [zu_n (by omega)]; exact hk
  have a2 : zu (zu I (b + 5) k nm) (b + 1) k mo b 1 = (k : Int) := by rw [zu_n (by omega)]; exact a1
  have a3 : zu (zu (zu I (b + 5) k nm) (b + 1) k mo) (b + 2) k fi b 1 = (k : Int) := by rw [zu_n (by omega)]; exact a2
  have a4 : ∀ y, zu (zu (zu (zu I (b + 5) k nm) (b + 1) k mo) (b + 2) k fi) b 1 y b 4 = st := fun y => by rw [zu_k (by omega), zu_n (by omega), zu_n (by omega), zu_n (by omega)]; exact hs
  clear hb
  simp (disch := omega) only [e_X1_addVar_0, e_X1_addVar_0x, e_X1_addVar_1, e_X1_addVar_4, e_X1_addVar_5, e_X1_addVar_8, e_X1_addVar_8x, e_X1_addVar_9, e_X1_addVar_12, e_X1_addVar_12x, e_X1_addVar_13, e_X1_addVar_16, e_X1_addVar_17, e_X1_addVar_18, e_X1_addVar_18x, e_X1_addVar_19, e_X1_addVar_22, e_X1_addVar_22x, e_X1_addVar_23, e_X1_addVar_26, e_X1_addVar_27, e_X1_addVar_28, e_X1_addVar_28x, e_X1_addVar_29, e_X1_addVar_32, e_X1_addVar_32x, e_X1_addVar_33, e_X1_addVar_36, e_X1_addVar_37, e_X1_addVar_38, e_X1_addVar_38x, e_X1_addVar_39, e_X1_addVar_39r, e_X1_addVar_40, e_X1_addVar_43, e_X1_addVar_44, e_X1_addVar_45, e_X1_addVar_48, e_X1_addVar_48x, e_X1_addVar_49, e_X1_addVar_49r, e_X1_addVar_50, e_X1_addVar_53, e_X1_addVar_54, e_X1_addVar_55, e_X1_addVar_56, e_X1_addVar_57, e_X1_addVar_60, zcll_s, zpush_s, zpush_n, zinv_i, zinv_l, zinv_r, zinv_x, zcats_nil, zcats_i, zcats_l, zcats_r, zcats_x, Nat.le_refl, and_self, true_and, and_true, zok_1, zok_20, zok_21, eq_self, Nat.reduceAdd, Nat.reduceLeDiff, Nat.zero_le, if_true, if_false, zw3_id, if_pos, if_neg, zand_t, tt0, tt1, tt2, tt5, r1, r2, r5, hk, Int.toNat_natCast, a1, a2, a3, a4]
theorem k_add (hR : Rok R) (ht : zTm t) {k : Nat} {v so nu : Int} (hk : I t 0 = (k : Int)) (h4 : k < 3) : zrun X (d + 1) 75 [zr (some t), zi v, zi so, zi nu] (c, s, I, L, R) = some (none, (c, s, zu (zu (zu (zu I (t + 1) k v) (t + 2) k so) (t + 3) k nu) t 0 ((k : Int) + 1), L, R)) := by
  refine st_X9_add ?_
  obtain ⟨tt0, tt1, tt2, tt3⟩ := tt_terms ht
  obtain ⟨r1, r2, r3⟩ := rr_terms hR ht
  have a1 : zu I (t + 1) k v t 0 = (k : Int) := by rw [zu_n (by omega)]; exact hk
  have a2 : zu (zu I (t + 1) k v) (t + 2) k so t 0 = (k : Int) := by rw [zu_n (by omega)]; exact a1
  have a3 : zu (zu (zu I (t + 1) k v) (t + 2) k so) (t + 3) k nu t 0 = (k : Int) := by rw [zu_n (by omega)]; exact a2
  clear ht
  simp (disch := omega) only [e_X9_add_0, e_X9_add_0x, e_X9_add_1, e_X9_add_4, e_X9_add_5, e_X9_add_8, e_X9_add_8x, e_X9_add_9, e_X9_add_12, e_X9_add_12x, e_X9_add_13, e_X9_add_16, e_X9_add_17, e_X9_add_18, e_X9_add_18x, e_X9_add_19, e_X9_add_22, e_X9_add_22x, e_X9_add_23, e_X9_add_26, e_X9_add_27, e_X9_add_28, e_X9_add_28x, e_X9_add_29, e_X9_add_32, e_X9_add_32x, e_X9_add_33, e_X9_add_36, e_X9_add_37, e_X9_add_38, e_X9_add_38x, e_X9_add_39, e_X9_add_39r, e_X9_add_40, e_X9_add_43, e_X9_add_44, e_X9_add_45, e_X9_add_48, zcll_s, zpush_s, zpush_n, zinv_i, zinv_l, zinv_r, zinv_x, zcats_nil, zcats_i, zcats_l, zcats_r, zcats_x, Nat.le_refl, and_self, true_and, and_true, zok_1, zok_20, zok_21, eq_self, Nat.reduceAdd, Nat.reduceLeDiff, Nat.zero_le, if_true, if_false, zw3_id, if_pos, if_neg, zand_t, tt0, tt1, tt2, tt3, r1, r2, r3, hk, Int.toNat_natCast, a1, a2, a3]
theorem CTm_a {acc : List TT} {u : TT} (h : CTm I t acc) : CTm (zu (zu (zu (zu I (t + 1) acc.length (u.1 : Int)) (t + 2) acc.length u.2.1) (t + 3) acc.length u.2.2) t 0 ((acc.length : Int) + 1)) t (acc ++ [u]) := by
  refine ⟨by rw [zu_s, List.length_append]; show (acc.length : Int) + 1 = ((acc.length + 1 : Nat) : Int); omega, fun j y hy => ?_⟩
  rw [zu_n (show t + 1 ≠ t by omega), zu_n (show t + 2 ≠ t by omega), zu_n (show t + 3 ≠ t by omega), zu_n (show t + 1 ≠ t + 3 by omega), zu_n (show t + 2 ≠ t + 3 by omega), zu_n (show t + 1 ≠ t + 2 by omega)]
  by_cases q : j < acc.length
  · rw [List.getElem?_append_left q] at hy
    have := h.2 j y hy
    rw [zu_k (by omega), zu_k (by omega), zu_k (by omega), zu_n (show t + 2 ≠ t + 1 by omega), zu_n (show t + 3 ≠ t + 2 by omega), zu_n (show t + 3 ≠ t + 1 by omega)]
    exact this
  · have hj : j < (acc ++ [u]).length := (List.getElem?_eq_some_iff.mp hy).1
    rw [List.length_append] at hj
    have hj : j < acc.length + 1 := hj
    have e : j = acc.length := by omega
    subst e
    rw [List.getElem?_append_right (by omega), Nat.sub_self] at hy
    injection hy with hy
    subst hy
    exact ⟨zu_s, zu_s, zu_s⟩
theorem k_clearQ (ht : (zT t).1 = 19) : zrun X (d + 1) 74 [zr (some t)] (c, s, I, L, R) = some (none, (c, s, zu I t 0 0, L, R)) := by
  refine st_X9_clear ?_
  simp (disch := omega) only [e_X9_clear_0, e_X9_clear_0x, e_X9_clear_1, e_X9_clear_2, e_X9_clear_5, zcll_s, zpush_s, zpush_n, zinv_i, zinv_l, zinv_r, zinv_x, zcats_nil, zcats_i, zcats_l, zcats_r, zcats_x, Nat.le_refl, and_self, true_and, and_true, zok_1, zok_20, zok_21, eq_self, Nat.reduceAdd, Nat.reduceLeDiff, Nat.zero_le, if_true, if_false, zw3_id, if_pos, if_neg, zand_t, ht]
theorem k_clearU (hR : Rok R) (hb : b = 4 ∨ b = 135) {i : Nat} (hi : i < 12) : zrun X (d + 2) 47 [zr (some (b + 6 + 9 * i))] (c, s, I, L, R) = some (none, (c, s, zu (zu (zu I (b + 6 + 9 * i) 0 0) (b + 6 + 9 * i + 1) 0 0) (b + 6 + 9 * i + 5) 0 0, L, R)) := by
  refine st_X5_clear ?_
  have tt := tt_rule hb hi
  have rr := rr_ruleT hR hb hi
  have q1 := k_clearQ (X := X) (d := d) (c := c) (s := s) (I := zu I (b + 6 + 9 * i) 0 0) (L := L) (R := R) (t := b + 6 + 9 * i + 1) (by rw [tt_t1 b hb i hi])
  have q2 := k_clearQ (X := X) (d := d) (c := c) (s := s) (I := zu (zu I (b + 6 + 9 * i) 0 0) (b + 6 + 9 * i + 1) 0 0) (L := L) (R := R) (t := b + 6 + 9 * i + 5) (by rw [tt_t3 b hb i hi])
  have tq1 : (zT (b + 6 + 9 * i + 1)).1 = 19 := by rw [tt_t1 b hb i hi]
  have tq2 : (zT (b + 6 + 9 * i + 5)).1 = 19 := by rw [tt_t3 b hb i hi]
  clear hb
  simp (disch := omega) only [e_X5_clear_0, e_X5_clear_0x, e_X5_clear_1, e_X5_clear_2, e_X5_clear_5, e_X5_clear_5x, e_X5_clear_6, e_X5_clear_9, e_X5_clear_12, e_X5_clear_12x, e_X5_clear_13, e_X5_clear_16, e_X5_clear_19, zcll_s, zpush_s, zpush_n, zinv_i, zinv_l, zinv_r, zinv_x, zcats_nil, zcats_i, zcats_l, zcats_r, zcats_x, Nat.le_refl, and_self, true_and, and_true, zok_1, zok_20, zok_21, eq_self, Nat.reduceAdd, Nat.reduceLeDiff, Nat.zero_le, if_true, if_false, zw3_id, if_pos, if_neg, zand_t, tt, rr.1, rr.2, tq1, tq2, q1, q2]
theorem k_clearM (hb : b = 4 ∨ b = 135) : zrun X (d + 1) 6 [zr (some b)] (c, s, I, L, R) = some (none, (c, s, zu (zu (zu (zu (zu I b 0 0) b 1 0) b 2 0) b 3 0) b 4 1, L, R)) := by
  refine st_X1_clear ?_
  have tt := (tt_model hb).1
  clear hb
  simp (disch := omega) only [e_X1_clear_0, e_X1_clear_0x, e_X1_clear_1, e_X1_clear_2, e_X1_clear_5, e_X1_clear_5x, e_X1_clear_6, e_X1_clear_7, e_X1_clear_10, e_X1_clear_10x, e_X1_clear_11, e_X1_clear_12, e_X1_clear_15, e_X1_clear_15x, e_X1_clear_16, e_X1_clear_17, e_X1_clear_20, e_X1_clear_20x, e_X1_clear_21, e_X1_clear_22, e_X1_clear_25, zcll_s, zpush_s, zpush_n, zinv_i, zinv_l, zinv_r, zinv_x, zcats_nil, zcats_i, zcats_l, zcats_r, zcats_x, Nat.le_refl, and_self, true_and, and_true, zok_1, zok_20, zok_21, eq_self, Nat.reduceAdd, Nat.reduceLeDiff, Nat.zero_le, if_true, if_false, zw3_id, if_pos, if_neg, zand_t, tt]
/-- signs -/
theorem tS_3 (h : tK B n p = 3) : tS B n p = 256 ∨ isSg (tS B n p) := by
  unfold tK at h
  unfold tS gS
  generalize tF B n p = f at h ⊢
  split
  · exact Or.inl rfl
  · refine Or.inr ?_
    unfold gK at h
    split at h
    · omega
    · split at h
      · split at h <;> omega
      · split at h
        · split at h <;> omega
        · split at h
          · assumption
          · omega
theorem sgC_i {y ch : Int} (h : y = 256 ∨ isSg y) (hc : ch = 256 ∨ isSg ch) : sgC y = sgC ch ↔ y = ch := by
  unfold isSg at h hc
  unfold sgC
  split
  · split <;> omega
  · split <;> omega
theorem sgC_r {y : Int} (h : y = 256 ∨ isSg y) : 0 ≤ sgC y ∧ sgC y ≤ 255 := by
  unfold isSg at h
  unfold sgC
  split <;> omega
def soN : Option Int → Int
  | none => -1
  | some so => so + 1
theorem idx_so0 {y : Int} (h : y = 256 ∨ isSg y) : idx (zstr 4) (zi2b (sgC y)) 0 = soN (srt 0 y) := by
  unfold isSg at h
  rcases h with h | h | h | h | h | h | h | h | h | h <;> subst h <;> decide +kernel
theorem idx_so1 {y : Int} (h : y = 256 ∨ isSg y) : idx (zstr 5) (zi2b (sgC y)) 0 = soN (srt 1 y) := by
  unfold isSg at h
  rcases h with h | h | h | h | h | h | h | h | h | h <;> subst h <;> decide +kernel
/-- passes, beside pSg -/
theorem k_passes (hR : Rok R) (h : TpC I B n p) {ch : Int} (hc : ch = 256 ∨ isSg ch) : ∃ y I1, zrun X (d + 6) 37 [zr (some 3), zi (sgC ch)] (c, s, I, L, R) = some (some (zi y), (c, s, I1, L, R)) ∧ FrC lo hi I I1 ∧ (∀ e, pSg B n ch p = .inl e → y = 0 ∧ ErC I1 e) ∧ ∀ z, pSg B n ch p = .inr z → y = 1 ∧ TpC I1 B n z := by
  have h4 := h.2.2.2.2.1
  have h7 := h.2.2.2.2.2.2.2
  unfold pSg
  by_cases q : tK B n p = 3 ∧ tS B n p = ch
  · rw [if_pos q]
    obtain ⟨I1, g1, g2, g3⟩ := k_passes1 (X := X) (d := d) (c := c) (s := s) (L := L) hR h (y := sgC ch) ⟨by rw [h4]; exact q.1, by rw [h7 q.1, q.2]⟩
    refine ⟨1, I1, g1, FrC_x g3, fun e he => (by cases he), fun z hz => ⟨rfl, ?_⟩⟩
    rw [← Sum.inr.inj hz]
    exact g2
  · rw [if_neg q]
    refine ⟨0, _, k_passes0 (X := X) (d := d) (c := c) (s := s) (L := L) hR (y := sgC ch) (f := (tF B n p : Int)) ?_ h.2.2.1, FrC_e, fun e he => ⟨rfl, ?_⟩, fun z hz => (by cases hz)⟩
    · intro z
      rw [h4] at z
      rw [h7 z.1] at z
      exact q ⟨z.1, (sgC_i (tS_3 z.1) hc).mp z.2⟩
    · rw [← Sum.inl.inj he]
      exact ErC_e
/-- isSign, beside the tokens -/
theorem k_isS (h : TpC I B n p) {ch : Int} (hc : ch = 256 ∨ isSg ch) : zrun X (d + 1) 71 [zr (some 1), zi (sgC ch)] (c, s, I, L, R) = some (some (zi (if tK B n p = 3 ∧ tS B n p = ch then 1 else 0)), (c, s, I, L, R)) := by
  have h4 := h.2.2.2.2.1
  have h7 := h.2.2.2.2.2.2.2
  rw [k_isSign]
  by_cases q : tK B n p = 3 ∧ tS B n p = ch
  · rw [if_pos q, if_pos ⟨by rw [h4]; exact q.1, by rw [h7 q.1, q.2]⟩]
  · rw [if_neg q, if_neg]
    intro z
    rw [h4] at z
    rw [h7 z.1] at z
    exact q ⟨z.1, (sgC_i (tS_3 z.1) hc).mp z.2⟩
/-- readTerm, branch by branch -/
theorem rt_0 (hR : Rok R) {kd f : Int} {e : Nat} (h4 : I 1 4 = kd) (hk : kd ≠ 1) (h2 : I 1 2 = f) : zrun X (d + 2) 34 [zr (some 3), zr (some t), zx e] (c, s, I, L, R) = some (some (zi 0), (c, s, erC I (1, f), L, R)) := by
  refine st_X3_readTerm ?_
  have q := k_fails (X := X) (d := d) (c := c) (s := s) (L := L) hR (y := 1) h2
  simp (disch := omega) only [e_X3_readTerm_0, e_X3_readTerm_0x, e_X3_readTerm_1, e_X3_readTerm_4, e_X3_readTerm_7, e_X3_readTerm_8, e_X3_readTerm_11, e_X3_readTerm_11x, e_X3_readTerm_12, e_X3_readTerm_13, e_X3_readTerm_16, e_X3_readTerm_17, e_X3_readTerm_17x, e_X3_readTerm_18, e_X3_readTerm_21, e_X3_readTerm_21x, e_X3_readTerm_22, e_X3_readTerm_25, e_X3_readTerm_28, e_X3_readTerm_31, e_X3_readTerm_32, e_X3_readTerm_33, e_X3_readTerm_34, e_X3_readTerm_37, e_X3_readTerm_37x, e_X3_readTerm_38, e_X3_readTerm_39, e_X3_readTerm_42, e_X3_readTerm_43, e_X3_readTerm_43x, e_X3_readTerm_44, e_X3_readTerm_47, e_X3_readTerm_48, e_X3_readTerm_51, e_X3_readTerm_51x, e_X3_readTerm_52, e_X3_readTerm_53, e_X3_readTerm_56, e_X3_readTerm_57, e_X3_readTerm_57x, e_X3_readTerm_58, e_X3_readTerm_61, e_X3_readTerm_64, e_X3_readTerm_64x, e_X3_readTerm_65, e_X3_readTerm_68, e_X3_readTerm_71, e_X3_readTerm_72, e_X3_readTerm_75, e_X3_readTerm_75x, e_X3_readTerm_76, e_X3_readTerm_76x, e_X3_readTerm_77, e_X3_readTerm_80, e_X3_readTerm_83, e_X3_readTerm_86, e_X3_readTerm_89, e_X3_readTerm_89x, e_X3_readTerm_90, e_X3_readTerm_91, e_X3_readTerm_94, e_X3_readTerm_95, e_X3_readTerm_95x, e_X3_readTerm_96, e_X3_readTerm_96x, e_X3_readTerm_97, e_X3_readTerm_100, e_X3_readTerm_103, e_X3_readTerm_106, e_X3_readTerm_107, e_X3_readTerm_108, e_X3_readTerm_110, e_X3_readTerm_110x, e_X3_readTerm_111, e_X3_readTerm_114, e_X3_readTerm_117, e_X3_readTerm_117x, e_X3_readTerm_118, e_X3_readTerm_119, e_X3_readTerm_121, e_X3_readTerm_124, e_X3_readTerm_127, e_X3_readTerm_128, e_X3_readTerm_129, e_X3_readTerm_129x, e_X3_readTerm_130, e_X3_readTerm_131, e_X3_readTerm_133, e_X3_readTerm_133x, e_X3_readTerm_134, e_X3_readTerm_137, e_X3_readTerm_140, e_X3_readTerm_143, e_X3_readTerm_143x, e_X3_readTerm_144, e_X3_readTerm_147, e_X3_readTerm_150, e_X3_readTerm_151, zcll_s, zpush_s, zpush_n, zinv_i, zinv_l, zinv_r, zinv_x, zcats_nil, zcats_i, zcats_l, zcats_r, zcats_x, Nat.le_refl, and_self, true_and, and_true, zok_1, zok_20, zok_21, eq_self, Nat.reduceAdd, Nat.reduceLeDiff, Nat.zero_le, if_true, if_false, zw3_id, if_pos, if_neg, zand_t, tg_1, tg_3, rr_3_0 hR, h4, q]
theorem rt_1 (hR : Rok R) (h31 : R 3 1 = some b) (tb : (zT b).1 = 11) {nm f v : Int} {e : Nat} (h4 : I 1 4 = 1) (h5 : I 1 5 = nm) (h2 : I 1 2 = f) (q1 : zrun X (d + 1) 8 [zr (some b), zi nm] (c, s, I, L, R) = some (some (zi v), (c, s, I, L, R))) (hv : v = -1) : zrun X (d + 2) 34 [zr (some 3), zr (some t), zx e] (c, s, I, L, R) = some (some (zi 0), (c, s, erC I (2, f), L, R)) := by
  refine st_X3_readTerm ?_
  have q := k_fails (X := X) (d := d) (c := c) (s := s) (L := L) hR (y := 2) h2
  simp (disch := omega) only [e_X3_readTerm_0, e_X3_readTerm_0x, e_X3_readTerm_1, e_X3_readTerm_4, e_X3_readTerm_7, e_X3_readTerm_8, e_X3_readTerm_11, e_X3_readTerm_11x, e_X3_readTerm_12, e_X3_readTerm_13, e_X3_readTerm_16, e_X3_readTerm_17, e_X3_readTerm_17x, e_X3_readTerm_18, e_X3_readTerm_21, e_X3_readTerm_21x, e_X3_readTerm_22, e_X3_readTerm_25, e_X3_readTerm_28, e_X3_readTerm_31, e_X3_readTerm_32, e_X3_readTerm_33, e_X3_readTerm_34, e_X3_readTerm_37, e_X3_readTerm_37x, e_X3_readTerm_38, e_X3_readTerm_39, e_X3_readTerm_42, e_X3_readTerm_43, e_X3_readTerm_43x, e_X3_readTerm_44, e_X3_readTerm_47, e_X3_readTerm_48, e_X3_readTerm_51, e_X3_readTerm_51x, e_X3_readTerm_52, e_X3_readTerm_53, e_X3_readTerm_56, e_X3_readTerm_57, e_X3_readTerm_57x, e_X3_readTerm_58, e_X3_readTerm_61, e_X3_readTerm_64, e_X3_readTerm_64x, e_X3_readTerm_65, e_X3_readTerm_68, e_X3_readTerm_71, e_X3_readTerm_72, e_X3_readTerm_75, e_X3_readTerm_75x, e_X3_readTerm_76, e_X3_readTerm_76x, e_X3_readTerm_77, e_X3_readTerm_80, e_X3_readTerm_83, e_X3_readTerm_86, e_X3_readTerm_89, e_X3_readTerm_89x, e_X3_readTerm_90, e_X3_readTerm_91, e_X3_readTerm_94, e_X3_readTerm_95, e_X3_readTerm_95x, e_X3_readTerm_96, e_X3_readTerm_96x, e_X3_readTerm_97, e_X3_readTerm_100, e_X3_readTerm_103, e_X3_readTerm_106, e_X3_readTerm_107, e_X3_readTerm_108, e_X3_readTerm_110, e_X3_readTerm_110x, e_X3_readTerm_111, e_X3_readTerm_114, e_X3_readTerm_117, e_X3_readTerm_117x, e_X3_readTerm_118, e_X3_readTerm_119, e_X3_readTerm_121, e_X3_readTerm_124, e_X3_readTerm_127, e_X3_readTerm_128, e_X3_readTerm_129, e_X3_readTerm_129x, e_X3_readTerm_130, e_X3_readTerm_131, e_X3_readTerm_133, e_X3_readTerm_133x, e_X3_readTerm_134, e_X3_readTerm_137, e_X3_readTerm_140, e_X3_readTerm_143, e_X3_readTerm_143x, e_X3_readTerm_144, e_X3_readTerm_147, e_X3_readTerm_150, e_X3_readTerm_151, zcll_s, zpush_s, zpush_n, zinv_i, zinv_l, zinv_r, zinv_x, zcats_nil, zcats_i, zcats_l, zcats_r, zcats_x, Nat.le_refl, and_self, true_and, and_true, zok_1, zok_20, zok_21, eq_self, Nat.reduceAdd, Nat.reduceLeDiff, Nat.zero_le, if_true, if_false, zw3_id, if_pos, if_neg, zand_t, tg_1, tg_3, rr_3_0 hR, h31, tb, h4, h5, q1, q]
theorem rt_2 (hR : Rok R) (h31 : R 3 1 = some b) (tb : (zT b).1 = 11) (ht : (zT t).1 = 19) {nm f v k : Int} {e : Nat} (h4 : I 1 4 = 1) (h5 : I 1 5 = nm) (h2 : I 1 2 = f) (q1 : zrun X (d + 1) 8 [zr (some b), zi nm] (c, s, I, L, R) = some (some (zi v), (c, s, I, L, R))) (hv : v ≠ -1) (hs : I t 0 = k) (hk : k = 3) : zrun X (d + 2) 34 [zr (some 3), zr (some t), zx e] (c, s, I, L, R) = some (some (zi 0), (c, s, erC I (4, f), L, R)) := by
  refine st_X3_readTerm ?_
  have q := k_fails (X := X) (d := d) (c := c) (s := s) (L := L) hR (y := 4) h2
  simp (disch := omega) only [e_X3_readTerm_0, e_X3_readTerm_0x, e_X3_readTerm_1, e_X3_readTerm_4, e_X3_readTerm_7, e_X3_readTerm_8, e_X3_readTerm_11, e_X3_readTerm_11x, e_X3_readTerm_12, e_X3_readTerm_13, e_X3_readTerm_16, e_X3_readTerm_17, e_X3_readTerm_17x, e_X3_readTerm_18, e_X3_readTerm_21, e_X3_readTerm_21x, e_X3_readTerm_22, e_X3_readTerm_25, e_X3_readTerm_28, e_X3_readTerm_31, e_X3_readTerm_32, e_X3_readTerm_33, e_X3_readTerm_34, e_X3_readTerm_37, e_X3_readTerm_37x, e_X3_readTerm_38, e_X3_readTerm_39, e_X3_readTerm_42, e_X3_readTerm_43, e_X3_readTerm_43x, e_X3_readTerm_44, e_X3_readTerm_47, e_X3_readTerm_48, e_X3_readTerm_51, e_X3_readTerm_51x, e_X3_readTerm_52, e_X3_readTerm_53, e_X3_readTerm_56, e_X3_readTerm_57, e_X3_readTerm_57x, e_X3_readTerm_58, e_X3_readTerm_61, e_X3_readTerm_64, e_X3_readTerm_64x, e_X3_readTerm_65, e_X3_readTerm_68, e_X3_readTerm_71, e_X3_readTerm_72, e_X3_readTerm_75, e_X3_readTerm_75x, e_X3_readTerm_76, e_X3_readTerm_76x, e_X3_readTerm_77, e_X3_readTerm_80, e_X3_readTerm_83, e_X3_readTerm_86, e_X3_readTerm_89, e_X3_readTerm_89x, e_X3_readTerm_90, e_X3_readTerm_91, e_X3_readTerm_94, e_X3_readTerm_95, e_X3_readTerm_95x, e_X3_readTerm_96, e_X3_readTerm_96x, e_X3_readTerm_97, e_X3_readTerm_100, e_X3_readTerm_103, e_X3_readTerm_106, e_X3_readTerm_107, e_X3_readTerm_108, e_X3_readTerm_110, e_X3_readTerm_110x, e_X3_readTerm_111, e_X3_readTerm_114, e_X3_readTerm_117, e_X3_readTerm_117x, e_X3_readTerm_118, e_X3_readTerm_119, e_X3_readTerm_121, e_X3_readTerm_124, e_X3_readTerm_127, e_X3_readTerm_128, e_X3_readTerm_129, e_X3_readTerm_129x, e_X3_readTerm_130, e_X3_readTerm_131, e_X3_readTerm_133, e_X3_readTerm_133x, e_X3_readTerm_134, e_X3_readTerm_137, e_X3_readTerm_140, e_X3_readTerm_143, e_X3_readTerm_143x, e_X3_readTerm_144, e_X3_readTerm_147, e_X3_readTerm_150, e_X3_readTerm_151, zcll_s, zpush_s, zpush_n, zinv_i, zinv_l, zinv_r, zinv_x, zcats_nil, zcats_i, zcats_l, zcats_r, zcats_x, Nat.le_refl, and_self, true_and, and_true, zok_1, zok_20, zok_21, eq_self, Nat.reduceAdd, Nat.reduceLeDiff, Nat.zero_le, if_true, if_false, zw3_id, if_pos, if_neg, zand_t, tg_1, tg_3, rr_3_0 hR, h31, tb, ht, h4, h5, q1, hs, q]
theorem rt_3 (hR : Rok R) (h31 : R 3 1 = some b) (tb : (zT b).1 = 11) (ht : (zT t).1 = 19) {nm f v k kd : Int} {e : Nat} (h4 : I 1 4 = 1) (h5 : I 1 5 = nm) (q1 : zrun X (d + 1) 8 [zr (some b), zi nm] (c, s, I, L, R) = some (some (zi v), (c, s, I, L, R))) (hv : v ≠ -1) (hs : I t 0 = k) (hk : k < 3) (q2 : zrun X (d + 1) 68 [zr (some 1)] (c, s, I, L, R) = some (none, (c, s, I1, L, R))) (g4 : I1 1 4 = kd) (hkd : kd ≠ 3) (g2 : I1 1 2 = f) : zrun X (d + 2) 34 [zr (some 3), zr (some t), zx e] (c, s, I, L, R) = some (some (zi 0), (c, s, erC I1 (1, f), L, R)) := by
  refine st_X3_readTerm ?_
  have q := k_fails (X := X) (d := d) (c := c) (s := s) (L := L) hR (y := 1) g2
  simp (disch := omega) only [e_X3_readTerm_0, e_X3_readTerm_0x, e_X3_readTerm_1, e_X3_readTerm_4, e_X3_readTerm_7, e_X3_readTerm_8, e_X3_readTerm_11, e_X3_readTerm_11x, e_X3_readTerm_12, e_X3_readTerm_13, e_X3_readTerm_16, e_X3_readTerm_17, e_X3_readTerm_17x, e_X3_readTerm_18, e_X3_readTerm_21, e_X3_readTerm_21x, e_X3_readTerm_22, e_X3_readTerm_25, e_X3_readTerm_28, e_X3_readTerm_31, e_X3_readTerm_32, e_X3_readTerm_33, e_X3_readTerm_34, e_X3_readTerm_37, e_X3_readTerm_37x, e_X3_readTerm_38, e_X3_readTerm_39, e_X3_readTerm_42, e_X3_readTerm_43, e_X3_readTerm_43x, e_X3_readTerm_44, e_X3_readTerm_47, e_X3_readTerm_48, e_X3_readTerm_51, e_X3_readTerm_51x, e_X3_readTerm_52, e_X3_readTerm_53, e_X3_readTerm_56, e_X3_readTerm_57, e_X3_readTerm_57x, e_X3_readTerm_58, e_X3_readTerm_61, e_X3_readTerm_64, e_X3_readTerm_64x, e_X3_readTerm_65, e_X3_readTerm_68, e_X3_readTerm_71, e_X3_readTerm_72, e_X3_readTerm_75, e_X3_readTerm_75x, e_X3_readTerm_76, e_X3_readTerm_76x, e_X3_readTerm_77, e_X3_readTerm_80, e_X3_readTerm_83, e_X3_readTerm_86, e_X3_readTerm_89, e_X3_readTerm_89x, e_X3_readTerm_90, e_X3_readTerm_91, e_X3_readTerm_94, e_X3_readTerm_95, e_X3_readTerm_95x, e_X3_readTerm_96, e_X3_readTerm_96x, e_X3_readTerm_97, e_X3_readTerm_100, e_X3_readTerm_103, e_X3_readTerm_106, e_X3_readTerm_107, e_X3_readTerm_108, e_X3_readTerm_110, e_X3_readTerm_110x, e_X3_readTerm_111, e_X3_readTerm_114, e_X3_readTerm_117, e_X3_readTerm_117x, e_X3_readTerm_118, e_X3_readTerm_119, e_X3_readTerm_121, e_X3_readTerm_124, e_X3_readTerm_127, e_X3_readTerm_128, e_X3_readTerm_129, e_X3_readTerm_129x, e_X3_readTerm_130, e_X3_readTerm_131, e_X3_readTerm_133, e_X3_readTerm_133x, e_X3_readTerm_134, e_X3_readTerm_137, e_X3_readTerm_140, e_X3_readTerm_143, e_X3_readTerm_143x, e_X3_readTerm_144, e_X3_readTerm_147, e_X3_readTerm_150, e_X3_readTerm_151, zcll_s, zpush_s, zpush_n, zinv_i, zinv_l, zinv_r, zinv_x, zcats_nil, zcats_i, zcats_l, zcats_r, zcats_x, Nat.le_refl, and_self, true_and, and_true, zok_1, zok_20, zok_21, eq_self, Nat.reduceAdd, Nat.reduceLeDiff, Nat.zero_le, if_true, if_false, zw3_id, if_pos, if_neg, zand_t, tg_1, tg_3, rr_3_0 hR, h31, tb, ht, h4, h5, q1, hs, q2, g4, q]
theorem rt_4 (hR : Rok R) (h31 : R 3 1 = some b) (tb : (zT b).1 = 11) (ht : (zT t).1 = 19) {nm f v k sg w : Int} {e : Nat} (he : 1 ≤ e ∧ e < 8) (h4 : I 1 4 = 1) (h5 : I 1 5 = nm) (q1 : zrun X (d + 1) 8 [zr (some b), zi nm] (c, s, I, L, R) = some (some (zi v), (c, s, I, L, R))) (hv : v ≠ -1) (hs : I t 0 = k) (hk : k < 3) (q2 : zrun X (d + 1) 68 [zr (some 1)] (c, s, I, L, R) = some (none, (c, s, I1, L, R))) (g4 : I1 1 4 = 3) (g7 : I1 1 7 = sg) (q3 : zrun X (d + 1) 177 [zx (e + 1), zi sg] (c, s, I1, L, R) = some (some (zi w), (c, s, I1, L, R))) (hw : w < 0) (g2 : I1 1 2 = f) : zrun X (d + 2) 34 [zr (some 3), zr (some t), zx (e + 1)] (c, s, I, L, R) = some (some (zi 0), (c, s, erC I1 (1, f), L, R)) := by
  refine st_X3_readTerm ?_
  have q := k_fails (X := X) (d := d) (c := c) (s := s) (L := L) hR (y := 1) g2
  simp (disch := omega) only [e_X3_readTerm_0, e_X3_readTerm_0x, e_X3_readTerm_1, e_X3_readTerm_4, e_X3_readTerm_7, e_X3_readTerm_8, e_X3_readTerm_11, e_X3_readTerm_11x, e_X3_readTerm_12, e_X3_readTerm_13, e_X3_readTerm_16, e_X3_readTerm_17, e_X3_readTerm_17x, e_X3_readTerm_18, e_X3_readTerm_21, e_X3_readTerm_21x, e_X3_readTerm_22, e_X3_readTerm_25, e_X3_readTerm_28, e_X3_readTerm_31, e_X3_readTerm_32, e_X3_readTerm_33, e_X3_readTerm_34, e_X3_readTerm_37, e_X3_readTerm_37x, e_X3_readTerm_38, e_X3_readTerm_39, e_X3_readTerm_42, e_X3_readTerm_43, e_X3_readTerm_43x, e_X3_readTerm_44, e_X3_readTerm_47, e_X3_readTerm_48, e_X3_readTerm_51, e_X3_readTerm_51x, e_X3_readTerm_52, e_X3_readTerm_53, e_X3_readTerm_56, e_X3_readTerm_57, e_X3_readTerm_57x, e_X3_readTerm_58, e_X3_readTerm_61, e_X3_readTerm_64, e_X3_readTerm_64x, e_X3_readTerm_65, e_X3_readTerm_68, e_X3_readTerm_71, e_X3_readTerm_72, e_X3_readTerm_75, e_X3_readTerm_75x, e_X3_readTerm_76, e_X3_readTerm_76x, e_X3_readTerm_77, e_X3_readTerm_80, e_X3_readTerm_83, e_X3_readTerm_86, e_X3_readTerm_89, e_X3_readTerm_89x, e_X3_readTerm_90, e_X3_readTerm_91, e_X3_readTerm_94, e_X3_readTerm_95, e_X3_readTerm_95x, e_X3_readTerm_96, e_X3_readTerm_96x, e_X3_readTerm_97, e_X3_readTerm_100, e_X3_readTerm_103, e_X3_readTerm_106, e_X3_readTerm_107, e_X3_readTerm_108, e_X3_readTerm_110, e_X3_readTerm_110x, e_X3_readTerm_111, e_X3_readTerm_114, e_X3_readTerm_117, e_X3_readTerm_117x, e_X3_readTerm_118, e_X3_readTerm_119, e_X3_readTerm_121, e_X3_readTerm_124, e_X3_readTerm_127, e_X3_readTerm_128, e_X3_readTerm_129, e_X3_readTerm_129x, e_X3_readTerm_130, e_X3_readTerm_131, e_X3_readTerm_133, e_X3_readTerm_133x, e_X3_readTerm_134, e_X3_readTerm_137, e_X3_readTerm_140, e_X3_readTerm_143, e_X3_readTerm_143x, e_X3_readTerm_144, e_X3_readTerm_147, e_X3_readTerm_150, e_X3_readTerm_151, zcll_s, zpush_s, zpush_n, zinv_i, zinv_l, zinv_r, zinv_x, zcats_nil, zcats_i, zcats_l, zcats_r, zcats_x, Nat.le_refl, and_self, true_and, and_true, zok_1, zok_20, zok_21, eq_self, Nat.reduceAdd, Nat.reduceLeDiff, Nat.zero_le, if_true, if_false, zw3_id, if_pos, if_neg, zand_t, tg_1, tg_3, rr_3_0 hR, h31, tb, ht, h4, h5, q1, hs, q2, g4, g7, q3, q]
theorem rt_5 (hR : Rok R) (h31 : R 3 1 = some b) (tb : (zT b).1 = 11) (ht : (zT t).1 = 19) {nm v k sg w : Int} {e : Nat} (he : 1 ≤ e ∧ e < 8) (h4 : I 1 4 = 1) (h5 : I 1 5 = nm) (q1 : zrun X (d + 1) 8 [zr (some b), zi nm] (c, s, I, L, R) = some (some (zi v), (c, s, I, L, R))) (hv : v ≠ -1) (hs : I t 0 = k) (hk : k < 3) (q2 : zrun X (d + 1) 68 [zr (some 1)] (c, s, I, L, R) = some (none, (c, s, I1, L, R))) (g4 : I1 1 4 = 3) (g7 : I1 1 7 = sg) (q3 : zrun X (d + 1) 177 [zx (e + 1), zi sg] (c, s, I1, L, R) = some (some (zi w), (c, s, I1, L, R))) (hw : 0 ≤ w) (hw2 : w ≤ 3) (q4 : zrun X (d + 1) 68 [zr (some 1)] (c, s, I1, L, R) = some (none, (c, s, I2, L, R))) (q5 : zrun X (d + 1) 36 [zr (some 3), zi 0, zi 99] (c, s, I2, L, R) = some (some (zi 0), (c, s, J, L, R))) : zrun X (d + 2) 34 [zr (some 3), zr (some t), zx (e + 1)] (c, s, I, L, R) = some (some (zi 0), (c, s, J, L, R)) := by
  refine st_X3_readTerm ?_
  simp (disch := omega) only [e_X3_readTerm_0, e_X3_readTerm_0x, e_X3_readTerm_1, e_X3_readTerm_4, e_X3_readTerm_7, e_X3_readTerm_8, e_X3_readTerm_11, e_X3_readTerm_11x, e_X3_readTerm_12, e_X3_readTerm_13, e_X3_readTerm_16, e_X3_readTerm_17, e_X3_readTerm_17x, e_X3_readTerm_18, e_X3_readTerm_21, e_X3_readTerm_21x, e_X3_readTerm_22, e_X3_readTerm_25, e_X3_readTerm_28, e_X3_readTerm_31, e_X3_readTerm_32, e_X3_readTerm_33, e_X3_readTerm_34, e_X3_readTerm_37, e_X3_readTerm_37x, e_X3_readTerm_38, e_X3_readTerm_39, e_X3_readTerm_42, e_X3_readTerm_43, e_X3_readTerm_43x, e_X3_readTerm_44, e_X3_readTerm_47, e_X3_readTerm_48, e_X3_readTerm_51, e_X3_readTerm_51x, e_X3_readTerm_52, e_X3_readTerm_53, e_X3_readTerm_56, e_X3_readTerm_57, e_X3_readTerm_57x, e_X3_readTerm_58, e_X3_readTerm_61, e_X3_readTerm_64, e_X3_readTerm_64x, e_X3_readTerm_65, e_X3_readTerm_68, e_X3_readTerm_71, e_X3_readTerm_72, e_X3_readTerm_75, e_X3_readTerm_75x, e_X3_readTerm_76, e_X3_readTerm_76x, e_X3_readTerm_77, e_X3_readTerm_80, e_X3_readTerm_83, e_X3_readTerm_86, e_X3_readTerm_89, e_X3_readTerm_89x, e_X3_readTerm_90, e_X3_readTerm_91, e_X3_readTerm_94, e_X3_readTerm_95, e_X3_readTerm_95x, e_X3_readTerm_96, e_X3_readTerm_96x, e_X3_readTerm_97, e_X3_readTerm_100, e_X3_readTerm_103, e_X3_readTerm_106, e_X3_readTerm_107, e_X3_readTerm_108, e_X3_readTerm_110, e_X3_readTerm_110x, e_X3_readTerm_111, e_X3_readTerm_114, e_X3_readTerm_117, e_X3_readTerm_117x, e_X3_readTerm_118, e_X3_readTerm_119, e_X3_readTerm_121, e_X3_readTerm_124, e_X3_readTerm_127, e_X3_readTerm_128, e_X3_readTerm_129, e_X3_readTerm_129x, e_X3_readTerm_130, e_X3_readTerm_131, e_X3_readTerm_133, e_X3_readTerm_133x, e_X3_readTerm_134, e_X3_readTerm_137, e_X3_readTerm_140, e_X3_readTerm_143, e_X3_readTerm_143x, e_X3_readTerm_144, e_X3_readTerm_147, e_X3_readTerm_150, e_X3_readTerm_151, zcll_s, zpush_s, zpush_n, zinv_i, zinv_l, zinv_r, zinv_x, zcats_nil, zcats_i, zcats_l, zcats_r, zcats_x, Nat.le_refl, and_self, true_and, and_true, zok_1, zok_20, zok_21, eq_self, Nat.reduceAdd, Nat.reduceLeDiff, Nat.zero_le, if_true, if_false, zw3_id, if_pos, if_neg, zand_t, tg_1, tg_3, rr_3_0 hR, h31, tb, ht, h4, h5, q1, hs, q2, g4, g7, q3, q4, q5]
theorem rt_6 (hR : Rok R) (h31 : R 3 1 = some b) (tb : (zT b).1 = 11) (ht : (zT t).1 = 19) {nm v k sg w nu : Int} {e : Nat} {J1 : ZI} (he : 1 ≤ e ∧ e < 8) (h4 : I 1 4 = 1) (h5 : I 1 5 = nm) (q1 : zrun X (d + 1) 8 [zr (some b), zi nm] (c, s, I, L, R) = some (some (zi v), (c, s, I, L, R))) (hv : v ≠ -1) (hs : I t 0 = k) (hk : k < 3) (q2 : zrun X (d + 1) 68 [zr (some 1)] (c, s, I, L, R) = some (none, (c, s, I1, L, R))) (g4 : I1 1 4 = 3) (g7 : I1 1 7 = sg) (q3 : zrun X (d + 1) 177 [zx (e + 1), zi sg] (c, s, I1, L, R) = some (some (zi w), (c, s, I1, L, R))) (hw : 0 ≤ w) (hw2 : w ≤ 3) (q4 : zrun X (d + 1) 68 [zr (some 1)] (c, s, I1, L, R) = some (none, (c, s, I2, L, R))) (q5 : zrun X (d + 1) 36 [zr (some 3), zi 0, zi 99] (c, s, I2, L, R) = some (some (zi 1), (c, s, I2, L, R))) (g6 : I2 1 6 = nu) (q6 : zrun X (d + 1) 75 [zr (some t), zi v, zi (w - 1), zi nu] (c, s, I2, L, R) = some (none, (c, s, J, L, R))) (q7 : zrun X (d + 1) 68 [zr (some 1)] (c, s, J, L, R) = some (none, (c, s, J1, L, R))) : zrun X (d + 2) 34 [zr (some 3), zr (some t), zx (e + 1)] (c, s, I, L, R) = some (some (zi 1), (c, s, J1, L, R)) := by
  refine st_X3_readTerm ?_
  simp (disch := omega) only [e_X3_readTerm_0, e_X3_readTerm_0x, e_X3_readTerm_1, e_X3_readTerm_4, e_X3_readTerm_7, e_X3_readTerm_8, e_X3_readTerm_11, e_X3_readTerm_11x, e_X3_readTerm_12, e_X3_readTerm_13, e_X3_readTerm_16, e_X3_readTerm_17, e_X3_readTerm_17x, e_X3_readTerm_18, e_X3_readTerm_21, e_X3_readTerm_21x, e_X3_readTerm_22, e_X3_readTerm_25, e_X3_readTerm_28, e_X3_readTerm_31, e_X3_readTerm_32, e_X3_readTerm_33, e_X3_readTerm_34, e_X3_readTerm_37, e_X3_readTerm_37x, e_X3_readTerm_38, e_X3_readTerm_39, e_X3_readTerm_42, e_X3_readTerm_43, e_X3_readTerm_43x, e_X3_readTerm_44, e_X3_readTerm_47, e_X3_readTerm_48, e_X3_readTerm_51, e_X3_readTerm_51x, e_X3_readTerm_52, e_X3_readTerm_53, e_X3_readTerm_56, e_X3_readTerm_57, e_X3_readTerm_57x, e_X3_readTerm_58, e_X3_readTerm_61, e_X3_readTerm_64, e_X3_readTerm_64x, e_X3_readTerm_65, e_X3_readTerm_68, e_X3_readTerm_71, e_X3_readTerm_72, e_X3_readTerm_75, e_X3_readTerm_75x, e_X3_readTerm_76, e_X3_readTerm_76x, e_X3_readTerm_77, e_X3_readTerm_80, e_X3_readTerm_83, e_X3_readTerm_86, e_X3_readTerm_89, e_X3_readTerm_89x, e_X3_readTerm_90, e_X3_readTerm_91, e_X3_readTerm_94, e_X3_readTerm_95, e_X3_readTerm_95x, e_X3_readTerm_96, e_X3_readTerm_96x, e_X3_readTerm_97, e_X3_readTerm_100, e_X3_readTerm_103, e_X3_readTerm_106, e_X3_readTerm_107, e_X3_readTerm_108, e_X3_readTerm_110, e_X3_readTerm_110x, e_X3_readTerm_111, e_X3_readTerm_114, e_X3_readTerm_117, e_X3_readTerm_117x, e_X3_readTerm_118, e_X3_readTerm_119, e_X3_readTerm_121, e_X3_readTerm_124, e_X3_readTerm_127, e_X3_readTerm_128, e_X3_readTerm_129, e_X3_readTerm_129x, e_X3_readTerm_130, e_X3_readTerm_131, e_X3_readTerm_133, e_X3_readTerm_133x, e_X3_readTerm_134, e_X3_readTerm_137, e_X3_readTerm_140, e_X3_readTerm_143, e_X3_readTerm_143x, e_X3_readTerm_144, e_X3_readTerm_147, e_X3_readTerm_150, e_X3_readTerm_151, zcll_s, zpush_s, zpush_n, zinv_i, zinv_l, zinv_r, zinv_x, zcats_nil, zcats_i, zcats_l, zcats_r, zcats_x, Nat.le_refl, and_self, true_and, and_true, zok_1, zok_20, zok_21, eq_self, Nat.reduceAdd, Nat.reduceLeDiff, Nat.zero_le, if_true, if_false, zw3_id, if_pos, if_neg, zand_t, tg_1, tg_3, rr_3_0 hR, h31, tb, ht, h4, h5, q1, hs, q2, g4, g7, q3, q4, q5, g6, q6, q7]
end
