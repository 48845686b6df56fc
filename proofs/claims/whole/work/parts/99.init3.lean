/-! Both objects as they are made. (by a program) -/
section
variable {X : ZX} {d c s : Nat} {I L I1 L1 I2 L2 J : ZI} {R R1 R2 R3 : ZR} {call : ZC} {n p b b1 t r lo hi : Nat} {x y : Int} {B : Nat → Int} {Q : Option ZV × ZS → Prop}
/-- references at places of a list -/
def Fk (R : ZR) (l : List (Nat × Nat × Nat)) : Prop := ∀ e ∈ l, R e.1 e.2.1 = some e.2.2
theorem Fk_n : Fk R [] := fun e he => by cases he
theorem Fk_u {a k v : Nat} {l : List (Nat × Nat × Nat)} (h : Fk R l) (hn : ∀ e ∈ l, ¬ (e.1 = a ∧ e.2.1 = k)) : Fk (zu R a k (some v)) ((a, k, v) :: l) := by
  intro e he
  rcases List.mem_cons.mp he with h1 | h1
  · rw [h1]; exact zu_s
  · have := h e h1
    unfold zu
    rw [if_neg (hn e h1)]
    exact this
theorem Fk_z {l : List (Nat × Nat × Nat)} (h : Fk R l) (hF : FrZ lo hi R R1) (hn : ∀ e ∈ l, e.1 < lo ∨ hi ≤ e.1) : Fk R1 l := fun e he => by rw [hF e.1 (hn e he)]; exact h e he
theorem Fk_a {l m : List (Nat × Nat × Nat)} (h : Fk R l) (h2 : Fk R m) : Fk R (l ++ m) := fun e he => (List.mem_append.mp he).elim (h e) (h2 e)
theorem MoR_c (h : MoR R b 12 4) (hc : ∀ a, b ≤ a → a < b + 130 → R1 a = R a) : MoR R1 b 12 4 := by
  obtain ⟨m1, m2, m3⟩ := h
  refine ⟨by rw [hc b (by omega) (by omega)]; exact m1, fun e he => ?_, fun e he => ?_⟩
  · rw [hc _ (by omega) (by omega)]
    exact ⟨(m2 e he).1, RuR_c (m2 e he).2 (fun a q1 q2 => hc a (by omega) (by omega))⟩
  · rw [hc _ (by omega) (by omega)]
    exact ⟨(m3 e he).1, QtR_c (m3 e he).2 (hc _ (by omega) (by omega))⟩
theorem OdR_c (h : OdR R) (hc : ∀ a, 277 ≤ a → a < 306 → R1 a = R a) : OdR R1 := by
  unfold OdR
  rw [hc 277 (by omega) (by omega), hc 278 (by omega) (by omega), hc 290 (by omega) (by omega)]
  exact h
theorem k_ini8 : zrun X (d + 1) 64 [zr (some 1)] (2, s, I, L, R) = some (none, (3, s + 800, I, L, zu R 1 0 (some 2))) := by
  refine st_X8_init ?_
  have a1 : zT 2 = (3, (800 : Int).toNat) := by decide +kernel
  simp (disch := omega) only [e_X8_init_0, e_X8_init_0x, e_X8_init_1, e_X8_init_4, e_X8_init_4x, e_X8_init_5, e_X8_init_8, e_X8_init_10, e_X8_init_13, zcll_s, zpush_s, zpush_n, zinv_i, zinv_l, zinv_r, zinv_x, zcats_nil, zcats_i, zcats_l, zcats_r, zcats_x, Nat.le_refl, and_self, true_and, and_true, zok_1, zok_20, zok_21, eq_self, Nat.reduceAdd, Nat.reduceLeDiff, Nat.zero_le, if_true, if_false, zw3_id, if_pos, if_neg, zand_t, tg_1, a1]
  first | done | rfl
theorem k_ini10 : zrun X (d + 1) 79 [zr (some 269), zr (some 134)] (c, s, I, L, R) = some (none, (c, s, I, L, zu R 269 0 (some 134))) := by
  refine st_X10_init ?_
  simp (disch := omega) only [e_X10_init_0, e_X10_init_0x, e_X10_init_1, e_X10_init_4, e_X10_init_4x, e_X10_init_5, e_X10_init_5x, e_X10_init_6, e_X10_init_9, zcll_s, zpush_s, zpush_n, zinv_i, zinv_l, zinv_r, zinv_x, zcats_nil, zcats_i, zcats_l, zcats_r, zcats_x, Nat.le_refl, and_self, true_and, and_true, zok_1, zok_20, zok_21, eq_self, Nat.reduceAdd, Nat.reduceLeDiff, Nat.zero_le, if_true, if_false, zw3_id, if_pos, if_neg, zand_t, tg_269]
theorem k_ini4 : zrun X (d + 1) 38 [zr (some 270), zr (some 134)] (271, s, I, L, R) = some (none, (275, s + 4000, I, L, zu (zu (zu (zu (zu R 270 1 (some 271)) 270 2 (some 272)) 270 3 (some 273)) 270 4 (some 274)) 270 0 (some 134))) := by
  refine st_X4_init ?_
  have a1 : zT 271 = (2, (1000 : Int).toNat) := by decide +kernel
  have a2 : zT 272 = (2, (1000 : Int).toNat) := by decide +kernel
  have a3 : zT 273 = (4, (1000 : Int).toNat) := by decide +kernel
  have a4 : zT 274 = (1, (1000 : Int).toNat) := by decide +kernel
  simp (disch := omega) only [e_X4_init_0, e_X4_init_0x, e_X4_init_1, e_X4_init_4, e_X4_init_4x, e_X4_init_5, e_X4_init_8, e_X4_init_10, e_X4_init_13, e_X4_init_13x, e_X4_init_14, e_X4_init_17, e_X4_init_19, e_X4_init_22, e_X4_init_22x, e_X4_init_23, e_X4_init_26, e_X4_init_28, e_X4_init_31, e_X4_init_31x, e_X4_init_32, e_X4_init_35, e_X4_init_37, e_X4_init_40, e_X4_init_40x, e_X4_init_41, e_X4_init_41x, e_X4_init_42, e_X4_init_45, zcll_s, zpush_s, zpush_n, zinv_i, zinv_l, zinv_r, zinv_x, zcats_nil, zcats_i, zcats_l, zcats_r, zcats_x, Nat.le_refl, and_self, true_and, and_true, zok_1, zok_20, zok_21, eq_self, Nat.reduceAdd, Nat.reduceLeDiff, Nat.zero_le, if_true, if_false, zw3_id, if_pos, if_neg, zand_t, tg_270, a1, a2, a3, a4]
  first | done | rfl
theorem k_ini0 : zrun X (d + 1) 0 [zr (some 275)] (276, s, I, L, R) = some (none, (277, s + 157, zu (zu I 275 1 (-1)) 275 2 (-1), L, zu R 275 0 (some 276))) := by
  refine st_X0_init ?_
  have a1 : zT 276 = (2, (157 : Int).toNat) := by decide +kernel
  simp (disch := omega) only [e_X0_init_0, e_X0_init_0x, e_X0_init_1, e_X0_init_4, e_X0_init_4x, e_X0_init_5, e_X0_init_8, e_X0_init_10, e_X0_init_13, e_X0_init_13x, e_X0_init_14, e_X0_init_15, e_X0_init_18, e_X0_init_18x, e_X0_init_19, e_X0_init_20, e_X0_init_23, zcll_s, zpush_s, zpush_n, zinv_i, zinv_l, zinv_r, zinv_x, zcats_nil, zcats_i, zcats_l, zcats_r, zcats_x, Nat.le_refl, and_self, true_and, and_true, zok_1, zok_20, zok_21, eq_self, Nat.reduceAdd, Nat.reduceLeDiff, Nat.zero_le, if_true, if_false, zw3_id, if_pos, if_neg, zand_t, tg_275, a1]
  first | done | rfl
theorem k_ini6 : zrun X (d + 1) 48 [zr (some 306), zr (some 269)] (307, s, I, L, R) = some (none, (310, s + 18, I, L, zu (zu (zu (zu R 306 1 (some 307)) 306 2 (some 308)) 306 3 (some 309)) 306 0 (some 269))) := by
  refine st_X6_init ?_
  have a1 : zT 307 = (1, (6 : Int).toNat) := by decide +kernel
  have a2 : zT 308 = (1, (6 : Int).toNat) := by decide +kernel
  have a3 : zT 309 = (1, (6 : Int).toNat) := by decide +kernel
  simp (disch := omega) only [e_X6_init_0, e_X6_init_0x, e_X6_init_1, e_X6_init_4, e_X6_init_4x, e_X6_init_5, e_X6_init_7, e_X6_init_9, e_X6_init_12, e_X6_init_12x, e_X6_init_13, e_X6_init_15, e_X6_init_17, e_X6_init_20, e_X6_init_20x, e_X6_init_21, e_X6_init_23, e_X6_init_25, e_X6_init_28, e_X6_init_28x, e_X6_init_29, e_X6_init_29x, e_X6_init_30, e_X6_init_33, zcll_s, zpush_s, zpush_n, zinv_i, zinv_l, zinv_r, zinv_x, zcats_nil, zcats_i, zcats_l, zcats_r, zcats_x, Nat.le_refl, and_self, true_and, and_true, zok_1, zok_20, zok_21, eq_self, Nat.reduceAdd, Nat.reduceLeDiff, Nat.zero_le, if_true, if_false, zw3_id, if_pos, if_neg, zand_t, tg_306, a1, a2, a3]
  first | done | rfl
theorem k_ini3 : ∃ R1, zrun X (d + 4) 24 [zr (some 3), zr (some 1)] (4, s, I, L, R) = some (none, (134, s + 438, zu I 4 4 1, L, R1)) ∧ MoR R1 4 12 4 ∧ Fk R1 [(3, 0, 1), (3, 1, 4)] ∧ FrZ 3 134 R R1 := by
  obtain ⟨Ra, g1, g2, g3⟩ := k_iniM (X := X) (d := d) (s := s + 10) (I := I) (L := L) (R := R) (b := 4) (Or.inl rfl)
  have g1 : zrun X (d + 3) 5 [zr (some 4)] (5, s + 10, I, L, R) = some (none, (134, s + 438, zu I 4 4 1, L, Ra)) := g1
  have a1 : zT 4 = (11, 10) := by decide +kernel
  have l1 : s + 10 ≤ s + 438 := by omega
  refine ⟨zu (zu Ra 3 1 (some 4)) 3 0 (some 1), st_X3_init ?_, MoR_c g2 (fun a q1 q2 => by rw [zu_n (by omega), zu_n (by omega)]), Fk_u (Fk_u Fk_n (by decide)) (by decide), FrZ_t (FrZ_w g3 (by omega) (by omega)) (FrZ_t (FrZ_u (by omega) (by omega)) (FrZ_u (by omega) (by omega)))⟩
  simp (disch := omega) only [e_X3_init_0, e_X3_init_0x, e_X3_init_1, e_X3_init_4, e_X3_init_4x, e_X3_init_5, e_X3_init_8, e_X3_init_8r, e_X3_init_9, e_X3_init_12, e_X3_init_15, e_X3_init_15x, e_X3_init_16, e_X3_init_16x, e_X3_init_17, e_X3_init_20, zcll_s, zpush_s, zpush_n, zinv_i, zinv_l, zinv_r, zinv_x, zcats_nil, zcats_i, zcats_l, zcats_r, zcats_x, Nat.le_refl, and_self, true_and, and_true, zok_1, zok_20, zok_21, eq_self, Nat.reduceAdd, Nat.reduceLeDiff, Nat.zero_le, if_true, if_false, zw3_id, if_pos, if_neg, zand_t, tg_3, a1, g1, l1]
theorem k_ini7 : ∃ R1, zrun X (d + 4) 53 [zr (some 134)] (135, s, I, L, R) = some (none, (269, s + 1446, zu I 135 4 1, L, R1)) ∧ MoR R1 135 12 4 ∧ Fk R1 [(134, 4, 268), (134, 3, 267), (134, 2, 266), (134, 1, 265), (134, 0, 135)] ∧ FrZ 134 269 R R1 := by
  obtain ⟨Ra, g1, g2, g3⟩ := k_iniM (X := X) (d := d) (s := s + 10) (I := I) (L := L) (R := R) (b := 135) (Or.inr rfl)
  have g1 : zrun X (d + 3) 5 [zr (some 135)] (136, s + 10, I, L, R) = some (none, (265, s + 438, zu I 135 4 1, L, Ra)) := g1
  have a1 : zT 135 = (11, 10) := by decide +kernel
  have l1 : s + 10 ≤ s + 438 := by omega
  have a2 : zT 265 = (1, (0 : Int).toNat) := by decide +kernel
  have a3 : zT 266 = (1, (1000 : Int).toNat) := by decide +kernel
  have a4 : zT 267 = (1, (4 : Int).toNat) := by decide +kernel
  have a5 : zT 268 = (1, (4 : Int).toNat) := by decide +kernel
  refine ⟨zu (zu (zu (zu (zu Ra 134 0 (some 135)) 134 1 (some 265)) 134 2 (some 266)) 134 3 (some 267)) 134 4 (some 268), st_X7_init ?_, MoR_c g2 (fun a q1 q2 => by rw [zu_n (by omega), zu_n (by omega), zu_n (by omega), zu_n (by omega), zu_n (by omega)]), Fk_u (Fk_u (Fk_u (Fk_u (Fk_u Fk_n (by decide)) (by decide)) (by decide)) (by decide)) (by decide), FrZ_t (FrZ_w g3 (by omega) (by omega)) (FrZ_t (FrZ_t (FrZ_t (FrZ_t (FrZ_u (by omega) (by omega)) (FrZ_u (by omega) (by omega))) (FrZ_u (by omega) (by omega))) (FrZ_u (by omega) (by omega))) (FrZ_u (by omega) (by omega)))⟩
  simp (disch := omega) only [e_X7_init_0, e_X7_init_0x, e_X7_init_1, e_X7_init_4, e_X7_init_4x, e_X7_init_5, e_X7_init_8, e_X7_init_8r, e_X7_init_9, e_X7_init_12, e_X7_init_15, e_X7_init_15x, e_X7_init_16, e_X7_init_17, e_X7_init_19, e_X7_init_22, e_X7_init_22x, e_X7_init_23, e_X7_init_26, e_X7_init_28, e_X7_init_31, e_X7_init_31x, e_X7_init_32, e_X7_init_33, e_X7_init_35, e_X7_init_38, e_X7_init_38x, e_X7_init_39, e_X7_init_40, e_X7_init_42, e_X7_init_45, zcll_s, zpush_s, zpush_n, zinv_i, zinv_l, zinv_r, zinv_x, zcats_nil, zcats_i, zcats_l, zcats_r, zcats_x, Nat.le_refl, and_self, true_and, and_true, zok_1, zok_20, zok_21, eq_self, Nat.reduceAdd, Nat.reduceLeDiff, Nat.zero_le, if_true, if_false, zw3_id, if_pos, if_neg, zand_t, tg_134, a1, g1, l1, a2, a3, a4, a5]
  first | done | rfl
theorem i11_w {Ib Ic If : ZI} {Ra Rb Rc Rd Re Rf Rg Rh : ZR}
  (q8 : call 64 [zr (some 1)] (2, s + 8, I, L, R) = some (none, (3, s + 808, I, L, Ra)))
  (q3 : call 24 [zr (some 3), zr (some 1)] (4, s + 808 + 4, I, L, zu Ra 0 0 (some 1)) = some (none, (134, s + 1250, Ib, L, Rb)))
  (q7 : call 53 [zr (some 134)] (135, s + 1250 + 5, Ib, L, zu Rb 0 1 (some 3)) = some (none, (269, s + 2701, Ic, L, Rc)))
  (q10 : call 79 [zr (some 269), zr (some 134)] (270, s + 2701 + 3, Ic, L, zu Rc 0 2 (some 134)) = some (none, (270, s + 2701 + 3, Ic, L, Rd)))
  (h02 : zu Rd 0 3 (some 269) 0 2 = some 134)
  (q4 : call 38 [zr (some 270), zr (some 134)] (271, s + 2701 + 3 + 5, Ic, L, zu Rd 0 3 (some 269)) = some (none, (275, s + 6709, Ic, L, Re)))
  (q0 : call 0 [zr (some 275)] (276, s + 6709 + 6, Ic, L, zu Re 0 4 (some 270)) = some (none, (277, s + 6872, If, L, Rf)))
  (q2 : call 13 [zr (some 277)] (278, s + 6872 + 2, If, L, zu Rf 0 5 (some 275)) = some (none, (306, s + 7312, If, L1, Rg)))
  (h03 : zu Rg 0 6 (some 277) 0 3 = some 269)
  (q6 : call 48 [zr (some 306), zr (some 269)] (307, s + 7312 + 10, If, L1, zu Rg 0 6 (some 277)) = some (none, (310, s + 7340, If, L1, Rh)))
  (h12 : zu Rh 0 7 (some 306) 0 2 = some 134) (h13 : zu Rh 0 7 (some 306) 134 0 = some 135)
  (n1 : zT 1 = (18, 8)) (n3 : zT 3 = (13, 4)) (n134 : zT 134 = (17, 5)) (n269 : zT 269 = (20, 3)) (n270 : zT 270 = (14, 5)) (n275 : zT 275 = (10, 6)) (n277 : zT 277 = (12, 2)) (n306 : zT 306 = (16, 10))
  (l1 : s + 8 ≤ s + 808) (l2 : s + 808 + 4 ≤ s + 1250) (l3 : s + 1250 + 5 ≤ s + 2701) (l4 : s + 2701 + 3 + 5 ≤ s + 6709) (l5 : s + 6709 + 6 ≤ s + 6872) (l6 : s + 6872 + 2 ≤ s + 7312) (l7 : s + 7312 + 10 ≤ s + 7340)
  (hQ : Q (none, (310, s + 7340, If, L1, zu (zu Rh 0 7 (some 306)) 0 8 (some 135)))) : V X call mX11_init 0 [zr (some 0)] [] (1, s, I, L, R) Q := by
  simp (disch := omega) only [e_X11_init_0, e_X11_init_0x, e_X11_init_1, e_X11_init_4, e_X11_init_4x, e_X11_init_5, e_X11_init_8, e_X11_init_8r, e_X11_init_9, e_X11_init_12, e_X11_init_15, e_X11_init_15x, e_X11_init_16, e_X11_init_19, e_X11_init_19r, e_X11_init_20, e_X11_init_20x, e_X11_init_21, e_X11_init_24, e_X11_init_27, e_X11_init_30, e_X11_init_30x, e_X11_init_31, e_X11_init_34, e_X11_init_34r, e_X11_init_35, e_X11_init_38, e_X11_init_41, e_X11_init_41x, e_X11_init_42, e_X11_init_45, e_X11_init_45r, e_X11_init_46, e_X11_init_46x, e_X11_init_47, e_X11_init_50, e_X11_init_53, e_X11_init_56, e_X11_init_56x, e_X11_init_57, e_X11_init_60, e_X11_init_60r, e_X11_init_61, e_X11_init_61x, e_X11_init_62, e_X11_init_65, e_X11_init_68, e_X11_init_71, e_X11_init_71x, e_X11_init_72, e_X11_init_75, e_X11_init_75r, e_X11_init_76, e_X11_init_79, e_X11_init_82, e_X11_init_82x, e_X11_init_83, e_X11_init_86, e_X11_init_86r, e_X11_init_87, e_X11_init_90, e_X11_init_93, e_X11_init_93x, e_X11_init_94, e_X11_init_97, e_X11_init_97r, e_X11_init_98, e_X11_init_98x, e_X11_init_99, e_X11_init_102, e_X11_init_105, e_X11_init_108, e_X11_init_108x, e_X11_init_109, e_X11_init_109x, e_X11_init_110, e_X11_init_113, e_X11_init_116, e_X11_init_119, zcll_s, zpush_s, zpush_n, zinv_i, zinv_l, zinv_r, zinv_x, zcats_nil, zcats_i, zcats_l, zcats_r, zcats_x, Nat.le_refl, and_self, true_and, and_true, zok_1, zok_20, zok_21, eq_self, Nat.reduceAdd, Nat.reduceLeDiff, Nat.zero_le, if_true, if_false, zw3_id, if_pos, if_neg, zand_t, tg_0, n1, n3, n134, n269, n270, n275, n277, n306, zu_s, q8, q3, q7, q10, h02, q4, q0, q2, h03, q6, h12, h13, l1, l2, l3, l4, l5, l6, l7]
  exact hQ

def ckL : List (Nat × Nat × Nat) := [(0, 8, 135), (0, 7, 306), (306, 0, 269), (306, 3, 309), (306, 2, 308), (306, 1, 307), (0, 6, 277), (0, 5, 275), (275, 0, 276), (0, 4, 270), (270, 0, 134), (270, 4, 274), (270, 3, 273), (270, 2, 272), (270, 1, 271), (0, 3, 269), (269, 0, 134), (0, 2, 134)] ++ ([(134, 4, 268), (134, 3, 267), (134, 2, 266), (134, 1, 265), (134, 0, 135)] ++ ((0, 1, 3) :: ([(3, 0, 1), (3, 1, 4)] ++ [(0, 0, 1), (1, 0, 2)])))
theorem Fk_a2 {l m : List (Nat × Nat × Nat)} (h : Fk R1 m) (h2 : Fk R l) (hF : FrZ lo hi R R1) (hn : ∀ e ∈ l, e.1 < lo ∨ hi ≤ e.1) : Fk R1 (m ++ l) := Fk_a h (Fk_z h2 hF hn)
theorem k_ini11 (hL : ∀ a k, 291 ≤ a → a < 306 → L a k = 0) : ∃ L1 R1, zrun X (d + 5) 84 [zr (some 0)] (1, s, I, L, R) = some (none, (310, s + 7340, zu (zu (zu (zu I 4 4 1) 135 4 1) 275 1 (-1)) 275 2 (-1), L1, R1)) ∧ Odd L1 ∧ (∀ a, (a < 279 ∨ 306 ≤ a) → L1 a = L a) ∧ MoR R1 4 12 4 ∧ MoR R1 135 12 4 ∧ OdR R1 ∧ Fk R1 ckL := by
  have q8 := k_ini8 (X := X) (d := d + 3) (s := s + 8) (I := I) (L := L) (R := R)
  obtain ⟨Rb, q3, m3, f3, z3⟩ := k_ini3 (X := X) (d := d) (s := s + 808 + 4) (I := I) (L := L) (R := zu (zu R 1 0 (some 2)) 0 0 (some 1))
  obtain ⟨Rc, q7, m7, f7, z7⟩ := k_ini7 (X := X) (d := d) (s := s + 1250 + 5) (I := zu I 4 4 1) (L := L) (R := zu Rb 0 1 (some 3))
  have q10 := k_ini10 (X := X) (d := d + 3) (c := 270) (s := s + 2701 + 3) (I := zu (zu I 4 4 1) 135 4 1) (L := L) (R := zu Rc 0 2 (some 134))
  have q4 := k_ini4 (X := X) (d := d + 3) (s := s + 2701 + 3 + 5) (I := zu (zu I 4 4 1) 135 4 1) (L := L) (R := zu (zu (zu Rc 0 2 (some 134)) 269 0 (some 134)) 0 3 (some 269))
  have q0 := k_ini0 (X := X) (d := d + 3) (s := s + 6709 + 6) (I := zu (zu I 4 4 1) 135 4 1) (L := L) (R := zu (zu (zu (zu (zu (zu (zu (zu (zu Rc 0 2 (some 134)) 269 0 (some 134)) 0 3 (some 269)) 270 1 (some 271)) 270 2 (some 272)) 270 3 (some 273)) 270 4 (some 274)) 270 0 (some 134)) 0 4 (some 270))
  have b1 : Fk (zu (zu R 1 0 (some 2)) 0 0 (some 1)) [(0, 0, 1), (1, 0, 2)] := Fk_u (Fk_u Fk_n (by decide)) (by decide)
  have b2 := Fk_u (a := 0) (k := 1) (v := 3) (Fk_a2 f3 b1 z3 (by decide)) (by decide)
  have b3 := Fk_a2 f7 b2 z7 (by decide)
  have b4 := Fk_u (a := 275) (k := 0) (v := 276) (Fk_u (a := 0) (k := 4) (v := 270) (Fk_u (a := 270) (k := 0) (v := 134) (Fk_u (a := 270) (k := 4) (v := 274) (Fk_u (a := 270) (k := 3) (v := 273) (Fk_u (a := 270) (k := 2) (v := 272) (Fk_u (a := 270) (k := 1) (v := 271) (Fk_u (a := 0) (k := 3) (v := 269) (Fk_u (a := 269) (k := 0) (v := 134) (Fk_u (a := 0) (k := 2) (v := 134) b3 (by decide)) (by decide)) (by decide)) (by decide)) (by decide)) (by decide)) (by decide)) (by decide)) (by decide)) (by decide)
  have e4 : ∀ a, 4 ≤ a → a < 269 → zu (zu (zu (zu (zu (zu (zu (zu (zu (zu Rc 0 2 (some 134)) 269 0 (some 134)) 0 3 (some 269)) 270 1 (some 271)) 270 2 (some 272)) 270 3 (some 273)) 270 4 (some 274)) 270 0 (some 134)) 0 4 (some 270)) 275 0 (some 276) a = Rc a := fun a p1 p2 => by
    rw [zu_n (by omega), zu_n (by omega), zu_n (by omega), zu_n (by omega), zu_n (by omega), zu_n (by omega), zu_n (by omega), zu_n (by omega), zu_n (by omega), zu_n (by omega)]
  generalize hRf : zu (zu (zu (zu (zu (zu (zu (zu (zu (zu Rc 0 2 (some 134)) 269 0 (some 134)) 0 3 (some 269)) 270 1 (some 271)) 270 2 (some 272)) 270 3 (some 273)) 270 4 (some 274)) 270 0 (some 134)) 0 4 (some 270)) 275 0 (some 276) = Rf at q0 b4 e4
  obtain ⟨L1, Rg, q2, o2, z2, O2, l2⟩ := k_ini2 (X := X) (d := d + 3) (s := s + 6872 + 2) (I := zu (zu (zu (zu I 4 4 1) 135 4 1) 275 1 (-1)) 275 2 (-1)) (L := L) (R := zu Rf 0 5 (some 275)) hL
  have q6 := k_ini6 (X := X) (d := d + 3) (s := s + 7312 + 10) (I := zu (zu (zu (zu I 4 4 1) 135 4 1) 275 1 (-1)) 275 2 (-1)) (L := L1) (R := zu Rg 0 6 (some 277))
  have b5 := Fk_u (a := 0) (k := 6) (v := 277) (Fk_z (Fk_u (a := 0) (k := 5) (v := 275) b4 (by decide)) z2 (by decide)) (by decide)
  have b6 := Fk_u (a := 0) (k := 7) (v := 306) (Fk_u (a := 306) (k := 0) (v := 269) (Fk_u (a := 306) (k := 3) (v := 309) (Fk_u (a := 306) (k := 2) (v := 308) (Fk_u (a := 306) (k := 1) (v := 307) b5 (by decide)) (by decide)) (by decide)) (by decide)) (by decide)
  have b7 := Fk_u (a := 0) (k := 8) (v := 135) b6 (by decide)
  have h12 := b6 (0, 2, 134) (by decide)
  have h13 := b6 (134, 0, 135) (by decide)
  have h03 := b5 (0, 3, 269) (by decide)
  have e7 : ∀ a, 4 ≤ a → a < 306 → zu (zu (zu (zu (zu (zu (zu Rg 0 6 (some 277)) 306 1 (some 307)) 306 2 (some 308)) 306 3 (some 309)) 306 0 (some 269)) 0 7 (some 306)) 0 8 (some 135) a = Rg a := fun a p1 p2 => by
    rw [zu_n (by omega), zu_n (by omega), zu_n (by omega), zu_n (by omega), zu_n (by omega), zu_n (by omega), zu_n (by omega)]
  have e5 : ∀ a, 4 ≤ a → a < 277 → Rg a = Rf a := fun a p1 p2 => by rw [z2 a (by omega), zu_n (by omega)]
  have e3 : ∀ a, 4 ≤ a → a < 134 → Rc a = Rb a := fun a p1 p2 => by rw [z7 a (by omega), zu_n (by omega)]
  refine ⟨L1, _, st_X11_init (i11_w q8 q3 q7 q10 ?_ q4 q0 q2 h03 q6 h12 h13 (by decide +kernel) (by decide +kernel) (by decide +kernel) (by decide +kernel) (by decide +kernel) (by decide +kernel) (by decide +kernel) (by decide +kernel) (by omega) (by omega) (by omega) (by omega) (by omega) (by omega) (by omega) rfl), O2, l2, MoR_c m3 (fun a p1 p2 => by rw [e7 a p1 (by omega), e5 a p1 (by omega), e4 a p1 (by omega), e3 a p1 (by omega)]), MoR_c m7 (fun a p1 p2 => by rw [e7 a (by omega) (by omega), e5 a (by omega) (by omega), e4 a (by omega) (by omega)]), OdR_c o2 (fun a p1 p2 => e7 a (by omega) (by omega)), b7⟩
  rw [zu_k (by omega), zu_n (by omega), zu_s]

theorem k_ini12 : zrun X (d + 1) 112 [zr (some 310)] (311, s, I, L, R) = some (none, (337, s + 15603, zu (zu I 310 38 (-1)) 310 39 (-1), L, zu (zu (zu (zu (zu (zu (zu (zu (zu (zu (zu (zu (zu (zu (zu (zu (zu (zu (zu (zu (zu (zu (zu (zu (zu (zu R 310 1 (some 311)) 310 15 (some 312)) 310 16 (some 313)) 310 17 (some 314)) 310 18 (some 315)) 310 19 (some 316)) 310 20 (some 317)) 310 21 (some 318)) 310 22 (some 319)) 310 23 (some 320)) 310 24 (some 321)) 310 25 (some 322)) 310 26 (some 323)) 310 27 (some 324)) 310 28 (some 325)) 310 29 (some 326)) 310 30 (some 327)) 310 32 (some 328)) 310 34 (some 329)) 310 35 (some 330)) 310 36 (some 331)) 310 37 (some 332)) 310 40 (some 333)) 310 44 (some 334)) 310 45 (some 335)) 310 46 (some 336))) := by
  refine st_X12_init ?_
  have a0 : zT 311 = (1, (800 : Int).toNat) := by decide +kernel
  have a1 : zT 312 = (1, (2 : Int).toNat) := by decide +kernel
  have a2 : zT 313 = (1, (2 : Int).toNat) := by decide +kernel
  have a3 : zT 314 = (2, (8 : Int).toNat) := by decide +kernel
  have a4 : zT 315 = (1, (8 : Int).toNat) := by decide +kernel
  have a5 : zT 316 = (1, (8 : Int).toNat) := by decide +kernel
  have a6 : zT 317 = (1, (2 : Int).toNat) := by decide +kernel
  have a7 : zT 318 = (1, (24 : Int).toNat) := by decide +kernel
  have a8 : zT 319 = (1, (2 : Int).toNat) := by decide +kernel
  have a9 : zT 320 = (1, (32 : Int).toNat) := by decide +kernel
  have a10 : zT 321 = (1, (96 : Int).toNat) := by decide +kernel
  have a11 : zT 322 = (1, (96 : Int).toNat) := by decide +kernel
  have a12 : zT 323 = (1, (96 : Int).toNat) := by decide +kernel
  have a13 : zT 324 = (1, (24 : Int).toNat) := by decide +kernel
  have a14 : zT 325 = (1, (72 : Int).toNat) := by decide +kernel
  have a15 : zT 326 = (1, (72 : Int).toNat) := by decide +kernel
  have a16 : zT 327 = (1, (72 : Int).toNat) := by decide +kernel
  have a17 : zT 328 = (1, (4 : Int).toNat) := by decide +kernel
  have a18 : zT 329 = (2, (1000 : Int).toNat) := by decide +kernel
  have a19 : zT 330 = (2, (1000 : Int).toNat) := by decide +kernel
  have a20 : zT 331 = (1, (1000 : Int).toNat) := by decide +kernel
  have a21 : zT 332 = (4, (1000 : Int).toNat) := by decide +kernel
  have a22 : zT 333 = (4, (10000 : Int).toNat) := by decide +kernel
  have a23 : zT 334 = (1, (61 : Int).toNat) := by decide +kernel
  have a24 : zT 335 = (1, (61 : Int).toNat) := by decide +kernel
  have a25 : zT 336 = (1, (61 : Int).toNat) := by decide +kernel
  have hs : s + (800 : Int).toNat + (2 : Int).toNat + (2 : Int).toNat + (8 : Int).toNat + (8 : Int).toNat + (8 : Int).toNat + (2 : Int).toNat + (24 : Int).toNat + (2 : Int).toNat + (32 : Int).toNat + (96 : Int).toNat + (96 : Int).toNat + (96 : Int).toNat + (24 : Int).toNat + (72 : Int).toNat + (72 : Int).toNat + (72 : Int).toNat + (4 : Int).toNat + (1000 : Int).toNat + (1000 : Int).toNat + (1000 : Int).toNat + (1000 : Int).toNat + (10000 : Int).toNat + (61 : Int).toNat + (61 : Int).toNat + (61 : Int).toNat = s + 15603 := by omega
  simp (disch := omega) only [e_X12_init_0, e_X12_init_0x, e_X12_init_1, e_X12_init_4, e_X12_init_4x, e_X12_init_5, e_X12_init_8, e_X12_init_10, e_X12_init_13, e_X12_init_13x, e_X12_init_14, e_X12_init_15, e_X12_init_17, e_X12_init_20, e_X12_init_20x, e_X12_init_21, e_X12_init_22, e_X12_init_24, e_X12_init_27, e_X12_init_27x, e_X12_init_28, e_X12_init_30, e_X12_init_32, e_X12_init_35, e_X12_init_35x, e_X12_init_36, e_X12_init_38, e_X12_init_40, e_X12_init_43, e_X12_init_43x, e_X12_init_44, e_X12_init_46, e_X12_init_48, e_X12_init_51, e_X12_init_51x, e_X12_init_52, e_X12_init_53, e_X12_init_55, e_X12_init_58, e_X12_init_58x, e_X12_init_59, e_X12_init_61, e_X12_init_63, e_X12_init_66, e_X12_init_66x, e_X12_init_67, e_X12_init_68, e_X12_init_70, e_X12_init_73, e_X12_init_73x, e_X12_init_74, e_X12_init_76, e_X12_init_78, e_X12_init_81, e_X12_init_81x, e_X12_init_82, e_X12_init_84, e_X12_init_86, e_X12_init_89, e_X12_init_89x, e_X12_init_90, e_X12_init_92, e_X12_init_94, e_X12_init_97, e_X12_init_97x, e_X12_init_98, e_X12_init_100, e_X12_init_102, e_X12_init_105, e_X12_init_105x, e_X12_init_106, e_X12_init_108, e_X12_init_110, e_X12_init_113, e_X12_init_113x, e_X12_init_114, e_X12_init_116, e_X12_init_118, e_X12_init_121, e_X12_init_121x, e_X12_init_122, e_X12_init_124, e_X12_init_126, e_X12_init_129, e_X12_init_129x, e_X12_init_130, e_X12_init_132, e_X12_init_134, e_X12_init_137, e_X12_init_137x, e_X12_init_138, e_X12_init_139, e_X12_init_141, e_X12_init_144, e_X12_init_144x, e_X12_init_145, e_X12_init_148, e_X12_init_150, e_X12_init_153, e_X12_init_153x, e_X12_init_154, e_X12_init_157, e_X12_init_159, e_X12_init_162, e_X12_init_162x, e_X12_init_163, e_X12_init_166, e_X12_init_168, e_X12_init_171, e_X12_init_171x, e_X12_init_172, e_X12_init_175, e_X12_init_177, e_X12_init_180, e_X12_init_180x, e_X12_init_181, e_X12_init_182, e_X12_init_185, e_X12_init_185x, e_X12_init_186, e_X12_init_187, e_X12_init_190, e_X12_init_190x, e_X12_init_191, e_X12_init_194, e_X12_init_196, e_X12_init_199, e_X12_init_199x, e_X12_init_200, e_X12_init_202, e_X12_init_204, e_X12_init_207, e_X12_init_207x, e_X12_init_208, e_X12_init_210, e_X12_init_212, e_X12_init_215, e_X12_init_215x, e_X12_init_216, e_X12_init_218, e_X12_init_220, e_X12_init_223, zcll_s, zpush_s, zpush_n, zinv_i, zinv_l, zinv_r, zinv_x, zcats_nil, zcats_i, zcats_l, zcats_r, zcats_x, Nat.le_refl, and_self, true_and, and_true, zok_1, zok_20, zok_21, eq_self, Nat.reduceAdd, Nat.reduceLeDiff, Nat.zero_le, if_true, if_false, zw3_id, if_pos, if_neg, zand_t, tg_310, hs, a0, a1, a2, a3, a4, a5, a6, a7, a8, a9, a10, a11, a12, a13, a14, a15, a16, a17, a18, a19, a20, a21, a22, a23, a24, a25]
def rkL : List (Nat × Nat × Nat) := [(310, 46, 336), (310, 45, 335), (310, 44, 334), (310, 40, 333), (310, 37, 332), (310, 36, 331), (310, 35, 330), (310, 34, 329), (310, 32, 328), (310, 30, 327), (310, 29, 326), (310, 28, 325), (310, 27, 324), (310, 26, 323), (310, 25, 322), (310, 24, 321), (310, 23, 320), (310, 22, 319), (310, 21, 318), (310, 20, 317), (310, 19, 316), (310, 18, 315), (310, 17, 314), (310, 16, 313), (310, 15, 312), (310, 1, 311)]
theorem k_rkL : Fk (zu (zu (zu (zu (zu (zu (zu (zu (zu (zu (zu (zu (zu (zu (zu (zu (zu (zu (zu (zu (zu (zu (zu (zu (zu (zu R 310 1 (some 311)) 310 15 (some 312)) 310 16 (some 313)) 310 17 (some 314)) 310 18 (some 315)) 310 19 (some 316)) 310 20 (some 317)) 310 21 (some 318)) 310 22 (some 319)) 310 23 (some 320)) 310 24 (some 321)) 310 25 (some 322)) 310 26 (some 323)) 310 27 (some 324)) 310 28 (some 325)) 310 29 (some 326)) 310 30 (some 327)) 310 32 (some 328)) 310 34 (some 329)) 310 35 (some 330)) 310 36 (some 331)) 310 37 (some 332)) 310 40 (some 333)) 310 44 (some 334)) 310 45 (some 335)) 310 46 (some 336)) rkL := (Fk_u (a := 310) (k := 46) (v := 336) (Fk_u (a := 310) (k := 45) (v := 335) (Fk_u (a := 310) (k := 44) (v := 334) (Fk_u (a := 310) (k := 40) (v := 333) (Fk_u (a := 310) (k := 37) (v := 332) (Fk_u (a := 310) (k := 36) (v := 331) (Fk_u (a := 310) (k := 35) (v := 330) (Fk_u (a := 310) (k := 34) (v := 329) (Fk_u (a := 310) (k := 32) (v := 328) (Fk_u (a := 310) (k := 30) (v := 327) (Fk_u (a := 310) (k := 29) (v := 326) (Fk_u (a := 310) (k := 28) (v := 325) (Fk_u (a := 310) (k := 27) (v := 324) (Fk_u (a := 310) (k := 26) (v := 323) (Fk_u (a := 310) (k := 25) (v := 322) (Fk_u (a := 310) (k := 24) (v := 321) (Fk_u (a := 310) (k := 23) (v := 320) (Fk_u (a := 310) (k := 22) (v := 319) (Fk_u (a := 310) (k := 21) (v := 318) (Fk_u (a := 310) (k := 20) (v := 317) (Fk_u (a := 310) (k := 19) (v := 316) (Fk_u (a := 310) (k := 18) (v := 315) (Fk_u (a := 310) (k := 17) (v := 314) (Fk_u (a := 310) (k := 16) (v := 313) (Fk_u (a := 310) (k := 15) (v := 312) (Fk_u (a := 310) (k := 1) (v := 311) Fk_n (by decide)) (by decide)) (by decide)) (by decide)) (by decide)) (by decide)) (by decide)) (by decide)) (by decide)) (by decide)) (by decide)) (by decide)) (by decide)) (by decide)) (by decide)) (by decide)) (by decide)) (by decide)) (by decide)) (by decide)) (by decide)) (by decide)) (by decide)) (by decide)) (by decide)) (by decide))
theorem k_rkF : FrZ 310 311 R (zu (zu (zu (zu (zu (zu (zu (zu (zu (zu (zu (zu (zu (zu (zu (zu (zu (zu (zu (zu (zu (zu (zu (zu (zu (zu R 310 1 (some 311)) 310 15 (some 312)) 310 16 (some 313)) 310 17 (some 314)) 310 18 (some 315)) 310 19 (some 316)) 310 20 (some 317)) 310 21 (some 318)) 310 22 (some 319)) 310 23 (some 320)) 310 24 (some 321)) 310 25 (some 322)) 310 26 (some 323)) 310 27 (some 324)) 310 28 (some 325)) 310 29 (some 326)) 310 30 (some 327)) 310 32 (some 328)) 310 34 (some 329)) 310 35 (some 330)) 310 36 (some 331)) 310 37 (some 332)) 310 40 (some 333)) 310 44 (some 334)) 310 45 (some 335)) 310 46 (some 336)) := (FrZ_t (FrZ_t (FrZ_t (FrZ_t (FrZ_t (FrZ_t (FrZ_t (FrZ_t (FrZ_t (FrZ_t (FrZ_t (FrZ_t (FrZ_t (FrZ_t (FrZ_t (FrZ_t (FrZ_t (FrZ_t (FrZ_t (FrZ_t (FrZ_t (FrZ_t (FrZ_t (FrZ_t (FrZ_t (FrZ_t FrZ_r (FrZ_u (by omega) (by omega))) (FrZ_u (by omega) (by omega))) (FrZ_u (by omega) (by omega))) (FrZ_u (by omega) (by omega))) (FrZ_u (by omega) (by omega))) (FrZ_u (by omega) (by omega))) (FrZ_u (by omega) (by omega))) (FrZ_u (by omega) (by omega))) (FrZ_u (by omega) (by omega))) (FrZ_u (by omega) (by omega))) (FrZ_u (by omega) (by omega))) (FrZ_u (by omega) (by omega))) (FrZ_u (by omega) (by omega))) (FrZ_u (by omega) (by omega))) (FrZ_u (by omega) (by omega))) (FrZ_u (by omega) (by omega))) (FrZ_u (by omega) (by omega))) (FrZ_u (by omega) (by omega))) (FrZ_u (by omega) (by omega))) (FrZ_u (by omega) (by omega))) (FrZ_u (by omega) (by omega))) (FrZ_u (by omega) (by omega))) (FrZ_u (by omega) (by omega))) (FrZ_u (by omega) (by omega))) (FrZ_u (by omega) (by omega))) (FrZ_u (by omega) (by omega)))
def mL (b : Nat) : List (Nat × Nat × Nat) := [(b, 5, b + 1), (b, 6, b + 2), (b, 7, b + 3), (b, 8, b + 4), (b, 9, b + 5)] ++ ((List.range 12).flatMap (fun i => [(b + 3, i, b + 6 + 9 * i), (b + 6 + 9 * i, 1, b + 6 + 9 * i + 1), (b + 6 + 9 * i, 2, b + 6 + 9 * i + 5), (b + 6 + 9 * i + 1, 1, b + 6 + 9 * i + 1 + 1), (b + 6 + 9 * i + 1, 2, b + 6 + 9 * i + 1 + 2), (b + 6 + 9 * i + 1, 3, b + 6 + 9 * i + 1 + 3), (b + 6 + 9 * i + 5, 1, b + 6 + 9 * i + 5 + 1), (b + 6 + 9 * i + 5, 2, b + 6 + 9 * i + 5 + 2), (b + 6 + 9 * i + 5, 3, b + 6 + 9 * i + 5 + 3)]) ++ (List.range 4).flatMap (fun i => [(b + 4, i, b + 114 + 4 * i), (b + 114 + 4 * i, 1, b + 114 + 4 * i + 1), (b + 114 + 4 * i, 2, b + 114 + 4 * i + 2), (b + 114 + 4 * i, 3, b + 114 + 4 * i + 3)]))
def oL : List (Nat × Nat × Nat) := [(277, 0, 278), (277, 1, 290)] ++ ((List.range 11).map (fun i => (278, i, 279 + i)) ++ (List.range 15).map (fun i => (290, i, 291 + i)))
theorem Fk_c {a k v : Nat} {l : List (Nat × Nat × Nat)} (h1 : R a k = some v) (h2 : Fk R l) : Fk R ((a, k, v) :: l) := fun e he => (List.mem_cons.mp he).elim (fun q => by rw [q]; exact h1) (h2 e)
theorem Fk_mL (h : MoR R b 12 4) : Fk R (mL b) := by
  obtain ⟨⟨m1, m2, m3, m4, m5⟩, m6, m7⟩ := h
  refine Fk_a (Fk_c m1 (Fk_c m2 (Fk_c m3 (Fk_c m4 (Fk_c m5 Fk_n))))) (Fk_a ?_ ?_)
  · intro e he
    obtain ⟨i, hi, he⟩ := List.mem_flatMap.mp he
    have hi := List.mem_range.mp hi
    obtain ⟨a1, a2, a3, ⟨a4, a5, a6⟩, a7, a8, a9⟩ := m6 i hi
    exact Fk_c a1 (Fk_c a2 (Fk_c a3 (Fk_c a4 (Fk_c a5 (Fk_c a6 (Fk_c a7 (Fk_c a8 (Fk_c a9 Fk_n)))))))) e he
  · intro e he
    obtain ⟨i, hi, he⟩ := List.mem_flatMap.mp he
    have hi := List.mem_range.mp hi
    obtain ⟨a1, a2, a3, a4⟩ := m7 i hi
    exact Fk_c a1 (Fk_c a2 (Fk_c a3 (Fk_c a4 Fk_n))) e he
theorem Fk_oL (h : OdR R) : Fk R oL := by
  obtain ⟨m1, m2, m3, m4⟩ := h
  refine Fk_a (Fk_c m1 (Fk_c m2 Fk_n)) (Fk_a ?_ ?_)
  · intro e he
    obtain ⟨i, hi, he⟩ := List.mem_map.mp he
    have hi := List.mem_range.mp hi
    rw [← he]
    exact m3 i (by omega)
  · intro e he
    obtain ⟨i, hi, he⟩ := List.mem_map.mp he
    have hi := List.mem_range.mp hi
    rw [← he]
    exact m4 i (by omega)
theorem zRL_all : ∀ e ∈ zRL, e ∈ mL 4 ∨ e ∈ mL 135 ∨ e ∈ oL ∨ e ∈ ckL ∨ e ∈ rkL := by decide +kernel
theorem Rok_of (h1 : MoR R 4 12 4) (h2 : MoR R 135 12 4) (h3 : OdR R) (h4 : Fk R ckL) (h5 : Fk R rkL) : Rok R := fun e he => by
  rcases zRL_all e he with q | q | q | q | q
  · exact Fk_mL h1 e q
  · exact Fk_mL h2 e q
  · exact Fk_oL h3 e q
  · exact h4 e q
  · exact h5 e q
end
