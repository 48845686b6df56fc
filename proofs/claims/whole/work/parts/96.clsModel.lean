/-! The class: model. -/
section
variable {X : ZX} {d c s : Nat} {I L I1 L1 I2 L2 J : ZI} {R R1 R2 R3 : ZR} {call : ZC} {n p b b1 t r lo hi : Nat} {x y : Int} {B : Nat → Int} {vs : List MV} {Q : Option ZV × ZS → Prop}
theorem k_exchange (h31 : R 3 1 = some b1) : zrun X (d + 1) 26 [zr (some 3), zr (some b)] (c, s, I, L, R) = some (some (zr (some b1)), (c, s, I, L, zu R 3 1 (some b))) := by
  refine st_X3_exchange ?_
  simp (disch := omega) only [e_X3_exchange_0, e_X3_exchange_0x, e_X3_exchange_1, e_X3_exchange_4, e_X3_exchange_5, e_X3_exchange_5x, e_X3_exchange_6, e_X3_exchange_6x, e_X3_exchange_7, e_X3_exchange_10, e_X3_exchange_10x, e_X3_exchange_11, zcll_s, zpush_s, zpush_n, zinv_i, zinv_l, zinv_r, zinv_x, zcats_nil, zcats_i, zcats_l, zcats_r, zcats_x, Nat.le_refl, and_self, true_and, and_true, zok_1, zok_20, zok_21, eq_self, Nat.reduceAdd, Nat.reduceLeDiff, Nat.zero_le, if_true, if_false, zw3_id, if_pos, if_neg, zand_t, tg_3, h31]
theorem k_take1 (h2 : R 134 2 = some 266) (h1 : R 134 1 = some 265) : ∃ g, zrun X (d + 2) 54 [zr (some 134), zr (some b)] (337, s, I, L, R) = some (none, (338, s + 20000, zW I 266 g, L, zu (zu R 134 0 (some b)) 134 1 (some 337))) ∧ Ag 1000 g (fun _ => 0) := by
  obtain ⟨g, g1, g2⟩ := k_fillI (X := X) (d := d) (c := 338) (s := s + 20000) (I := I) (L := L) (R := zu (zu R 134 0 (some b)) 134 1 (some 337)) (a := 266) (n := 1000) (by decide +kernel) (by omega) 0
  refine ⟨g, st_X7_take ?_, g2⟩
  have a1 : zu R 134 0 (some b) 134 1 = some 265 := by rw [zu_k (by omega)]; exact h1
  have a2 : zu (zu R 134 0 (some b)) 134 1 (some 337) 134 2 = some 266 := by rw [zu_k (by omega), zu_k (by omega)]; exact h2
  have a3 : zT 337 = (1, (20000 : Int).toNat) := by decide +kernel
  have a4 : s + (20000 : Int).toNat = s + 20000 := rfl
  have a5 : zT 265 = (1, 0) := by decide +kernel
  simp (disch := omega) only [e_X7_take_0, e_X7_take_0x, e_X7_take_1, e_X7_take_1x, e_X7_take_2, e_X7_take_5, e_X7_take_5x, e_X7_take_6, e_X7_take_9, e_X7_take_10, e_X7_take_13, e_X7_take_13x, e_X7_take_14, e_X7_take_17, e_X7_take_19, e_X7_take_22, e_X7_take_22x, e_X7_take_23, e_X7_take_26, e_X7_take_27, e_X7_take_30, zcll_s, zpush_s, zpush_n, zinv_i, zinv_l, zinv_r, zinv_x, zcats_nil, zcats_i, zcats_l, zcats_r, zcats_x, Nat.le_refl, and_self, true_and, and_true, zok_1, zok_20, zok_21, eq_self, Nat.reduceAdd, Nat.reduceLeDiff, Nat.zero_le, if_true, if_false, zw3_id, if_pos, if_neg, zand_t, tg_134, a1, a2, a3, a4, a5, g1, Int.natCast_zero, Int.ofNat_eq_natCast, Nat.le_add_right]
theorem k_take2 (h2 : R 134 2 = some 266) (h1 : R 134 1 = some 337) : ∃ g, zrun X (d + 2) 54 [zr (some 134), zr (some b)] (c, s, I, L, R) = some (none, (c, s, zW I 266 g, L, zu R 134 0 (some b))) ∧ Ag 1000 g (fun _ => 0) := by
  obtain ⟨g, g1, g2⟩ := k_fillI (X := X) (d := d) (c := c) (s := s) (I := I) (L := L) (R := zu R 134 0 (some b)) (a := 266) (n := 1000) (by decide +kernel) (by omega) 0
  refine ⟨g, st_X7_take ?_, g2⟩
  have a1 : zu R 134 0 (some b) 134 1 = some 337 := by rw [zu_k (by omega)]; exact h1
  have a2 : zu R 134 0 (some b) 134 2 = some 266 := by rw [zu_k (by omega)]; exact h2
  have a5 : zT 337 = (1, 20000) := by decide +kernel
  simp (disch := omega) only [e_X7_take_0, e_X7_take_0x, e_X7_take_1, e_X7_take_1x, e_X7_take_2, e_X7_take_5, e_X7_take_5x, e_X7_take_6, e_X7_take_9, e_X7_take_10, e_X7_take_13, e_X7_take_13x, e_X7_take_14, e_X7_take_17, e_X7_take_19, e_X7_take_22, e_X7_take_22x, e_X7_take_23, e_X7_take_26, e_X7_take_27, e_X7_take_30, zcll_s, zpush_s, zpush_n, zinv_i, zinv_l, zinv_r, zinv_x, zcats_nil, zcats_i, zcats_l, zcats_r, zcats_x, Nat.le_refl, and_self, true_and, and_true, zok_1, zok_20, zok_21, eq_self, Nat.reduceAdd, Nat.reduceLeDiff, Nat.zero_le, if_true, if_false, zw3_id, if_pos, if_neg, zand_t, tg_134, a1, a2, a5, g1]
theorem md_0 (hR : Rok R) {e1 pl : Int} (q1 : call 25 [zr (some 3)] (c, s, I, L, R) = some (some (zi 0), (c, s, I1, L, R))) (q2 : call 66 [zr (some 1)] (c, s, I1, L, R) = some (none, (c, s, I2, L, R))) (h1 : I2 3 2 = e1) (h2 : I2 3 3 = pl) (h0 : 0 ≤ pl) (h8 : pl ≤ 800) (hQ : Q (some (zi (-1000 - pl)), (c, s, zu I2 0 10 e1, L, R))) : V X call mX11_model 0 [zr (some 0), zx 0] [] (c, s, I, L, R) Q := by
  have a1 : zu I2 0 10 e1 3 3 = pl := by rw [zu_n (by omega)]; exact h2
  simp (disch := omega) only [e_X11_model_0, e_X11_model_0x, e_X11_model_1, e_X11_model_4, e_X11_model_7, e_X11_model_8, e_X11_model_8x, e_X11_model_9, e_X11_model_12, e_X11_model_15, e_X11_model_16, e_X11_model_19, e_X11_model_19x, e_X11_model_20, e_X11_model_20x, e_X11_model_21, e_X11_model_24, e_X11_model_27, e_X11_model_30, e_X11_model_33, e_X11_model_33x, e_X11_model_34, e_X11_model_37, e_X11_model_40, e_X11_model_41, e_X11_model_42, e_X11_model_42x, e_X11_model_43, e_X11_model_43x, e_X11_model_44, e_X11_model_47, e_X11_model_47x, e_X11_model_48, e_X11_model_51, e_X11_model_54, e_X11_model_57, e_X11_model_57x, e_X11_model_58, e_X11_model_61, e_X11_model_61x, e_X11_model_62, e_X11_model_65, e_X11_model_68, e_X11_model_68x, e_X11_model_69, e_X11_model_72, e_X11_model_75, e_X11_model_75x, e_X11_model_76, e_X11_model_79, e_X11_model_82, zcll_s, zpush_s, zpush_n, zinv_i, zinv_l, zinv_r, zinv_x, zcats_nil, zcats_i, zcats_l, zcats_r, zcats_x, Nat.le_refl, and_self, true_and, and_true, zok_1, zok_20, zok_21, eq_self, Nat.reduceAdd, Nat.reduceLeDiff, Nat.zero_le, if_true, if_false, zw3_id, if_pos, if_neg, zand_t, tg_0, tg_1, tg_3, rr_0_0 hR, rr_0_1 hR, q1, q2, h1, a1]
  exact hQ
theorem md_1 (hR : Rok R) {c1 s1 : Nat} {st : Int} {J1 : ZI} (h08 : R 0 8 = some b) (q1 : call 25 [zr (some 3)] (c, s, I, L, R) = some (some (zi 1), (c, s, I1, L, R))) (q2 : call 66 [zr (some 1)] (c, s, I1, L, R) = some (none, (c, s, I2, L, R))) (q3 : call 26 [zr (some 3), zr (some b)] (c, s, I2, L, R) = some (some (zr (some b1)), (c, s, I2, L, R1))) (h02 : zu R1 0 8 (some b1) 0 2 = some 134) (q4 : call 54 [zr (some 134), zr (some b1)] (c, s, I2, L, zu R1 0 8 (some b1)) = some (none, (c1, s1, J, L, R3))) (hc1 : c ≤ c1) (hs1 : s ≤ s1) (h05 : R3 0 5 = some 275) (q5 : call 1 [zr (some 275)] (c1, s1, J, L, R3) = some (none, (c1, s1, J1, L1, R3))) (h38 : R3 0 8 = some b1) (tb : (zT b1).1 = 11) (hst : J1 b1 4 = st) (hQ : Q (some (zi st), (c1, s1, J1, L1, R3))) : V X call mX11_model 0 [zr (some 0), zx 0] [] (c, s, I, L, R) Q := by
  simp (disch := omega) only [e_X11_model_0, e_X11_model_0x, e_X11_model_1, e_X11_model_4, e_X11_model_7, e_X11_model_8, e_X11_model_8x, e_X11_model_9, e_X11_model_12, e_X11_model_15, e_X11_model_16, e_X11_model_19, e_X11_model_19x, e_X11_model_20, e_X11_model_20x, e_X11_model_21, e_X11_model_24, e_X11_model_27, e_X11_model_30, e_X11_model_33, e_X11_model_33x, e_X11_model_34, e_X11_model_37, e_X11_model_40, e_X11_model_41, e_X11_model_42, e_X11_model_42x, e_X11_model_43, e_X11_model_43x, e_X11_model_44, e_X11_model_47, e_X11_model_47x, e_X11_model_48, e_X11_model_51, e_X11_model_54, e_X11_model_57, e_X11_model_57x, e_X11_model_58, e_X11_model_61, e_X11_model_61x, e_X11_model_62, e_X11_model_65, e_X11_model_68, e_X11_model_68x, e_X11_model_69, e_X11_model_72, e_X11_model_75, e_X11_model_75x, e_X11_model_76, e_X11_model_79, e_X11_model_82, zcll_s, zpush_s, zpush_n, zinv_i, zinv_l, zinv_r, zinv_x, zcats_nil, zcats_i, zcats_l, zcats_r, zcats_x, Nat.le_refl, and_self, true_and, and_true, zok_1, zok_20, zok_21, eq_self, Nat.reduceAdd, Nat.reduceLeDiff, Nat.zero_le, if_true, if_false, zw3_id, if_pos, if_neg, zand_t, tg_0, tg_1, tg_3, tg_134, tg_275, rr_0_0 hR, rr_0_1 hR, h08, zu_s, q1, q2, q3, h02, q4, hc1, hs1, h05, q5, h38, tb, hst]
  exact hQ
def FrM (R R1 : ZR) : Prop := ∀ a k, ¬ (a = 3 ∧ k = 1) → ¬ (a = 0 ∧ k = 8) → ¬ (a = 134 ∧ (k = 0 ∨ k = 1)) → R1 a k = R a k
theorem zRL_M : ∀ e ∈ zRL, ¬ (e.1 = 3 ∧ e.2.1 = 1) ∧ ¬ (e.1 = 0 ∧ e.2.1 = 8) ∧ ¬ (e.1 = 134 ∧ (e.2.1 = 0 ∨ e.2.1 = 1)) := by decide +kernel
theorem FrM_ok (h : FrM R R1) (hR : Rok R) : Rok R1 := fun e he => by
  have := zRL_M e he
  rw [h e.1 e.2.1 this.1 this.2.1 this.2.2]
  exact hR e he
def MdB (I : ZI) (L : ZI) (R : ZR) (c s b1 : Nat) (e : PE) (y : Int) (c1 s1 : Nat) (I1 L1 : ZI) (R1 : ZR) : Prop := y = -1000 - e.2 ∧ I1 0 10 = e.1 ∧ c1 = c ∧ s1 = s ∧ L1 = L ∧ R1 = R ∧ I1 1 1 = 0 ∧ (∀ k, k ≠ 10 → I1 0 k = I 0 k) ∧ ∀ a, a ≠ 0 → a ≠ 1 → a ≠ 3 → (a < b1 ∨ b1 + 130 ≤ a) → I1 a = I a
def MdG (I : ZI) (L : ZI) (R : ZR) (c s b b1 : Nat) (M : MD) (y : Int) (c1 s1 : Nat) (I1 L1 : ZI) (R1 : ZR) : Prop := y = mPr M.2.1 ∧ ClS I1 R1 b1 M ∧ R1 3 1 = some b ∧ CtC I1 L1 (ct0 (-1) (-1)) ∧ I1 1 1 = 0 ∧ FrM R R1 ∧ (∀ a, a ≠ 276 → L1 a = L a) ∧ ((c1 = c ∧ s1 = s ∧ R 134 1 = some 337) ∨ (c = 337 ∧ c1 = 338 ∧ s1 = s + 20000 ∧ R 134 1 = some 265)) ∧ ∀ a, a ≠ 1 → a ≠ 3 → a ≠ 266 → a ≠ 275 → (a < b1 ∨ b1 + 130 ≤ a) → I1 a = I a
theorem k_model (hR : Rok R) (h08 : R 0 8 = some b) (h31 : R 3 1 = some b1) (hb : (b = 4 ∧ b1 = 135) ∨ (b = 135 ∧ b1 = 4)) (hc : (R 134 1 = some 265 ∧ c = 337) ∨ R 134 1 = some 337) (hT : TxC I B n) : ∃ y c1 s1 I1 L1 R1, zrun X (d + 10) 86 [zr (some 0)] (c, s, I, L, R) = some (some (zi y), (c1, s1, I1, L1, R1)) ∧ (∀ e, pAll B n = .inl e → MdB I L R c s b1 e y c1 s1 I1 L1 R1) ∧ ∀ M, pAll B n = .inr M → MdG I L R c s b b1 M y c1 s1 I1 L1 R1 := by
  have hb1 : b1 = 4 ∨ b1 = 135 := by omega
  obtain ⟨y, I1, g1, g2, g3, g4⟩ := k_reads (X := X) (d := d) (c := c) (s := s) (L := L) hR h31 hb1 hT
  have q2 := k_clearT (X := X) (d := d + 8) (c := c) (s := s) (I := I1) (L := L) (R := R)
  have hpo := @pAll_o n B
  cases hp : pAll B n with
  | inl e =>
    obtain ⟨w1, w2⟩ := g3 e hp
    rw [w1] at g1
    have he := hpo.1 e hp
    have h800 := hT.2.1
    have e3 : zu I1 1 1 0 3 = I1 3 := zu_n (by omega)
    refine ⟨-1000 - e.2, c, s, _, L, R, st_X11_model (md_0 (e1 := e.1) (pl := e.2) hR g1 q2 (by rw [e3]; exact w2.1) (by rw [e3]; exact w2.2) (by have := he.2.2.1; omega) (by have := he.2.2.2; omega) rfl), fun e' he' => ?_, fun M hM => (by cases hM)⟩
    rw [← Sum.inl.inj he']
    refine ⟨rfl, zu_s, rfl, rfl, rfl, rfl, by rw [zu_n (by omega), zu_s], fun k hk => ?_, fun a a1 a2 a3 a4 => ?_⟩
    · rw [zu_k hk, zu_n (by omega), g2.1 0 (by omega) (by omega) (by omega)]
    · rw [zu_n a1, zu_n a2, g2.1 a a2 a3 a4]
  | inr M =>
    obtain ⟨w1, w2⟩ := g4 M hp
    rw [w1] at g1
    have hM := hpo.2 M hp
    have q3 := k_exchange (X := X) (d := d + 8) (c := c) (s := s) (I := zu I1 1 1 0) (L := L) (R := R) (b := b) h31
    have h02 : zu (zu R 3 1 (some b)) 0 8 (some b1) 0 2 = some 134 := by rw [zu_k (by omega), zu_n (by omega)]; exact rr_0_2 hR
    have h2' : zu (zu R 3 1 (some b)) 0 8 (some b1) 134 2 = some 266 := by rw [zu_n (by omega), zu_n (by omega)]; exact rr_134_2 hR
    have key : ∃ c1 s1 g R3, zrun X (d + 9) 54 [zr (some 134), zr (some b1)] (c, s, zu I1 1 1 0, L, zu (zu R 3 1 (some b)) 0 8 (some b1)) = some (none, (c1, s1, zW (zu I1 1 1 0) 266 g, L, R3)) ∧ Ag 1000 g (fun _ => 0) ∧ FrM R R3 ∧ R3 3 1 = some b ∧ R3 0 8 = some b1 ∧ R3 134 0 = some b1 ∧ R3 134 1 = some 337 ∧ ((c1 = c ∧ s1 = s ∧ R 134 1 = some 337) ∨ (c = 337 ∧ c1 = 338 ∧ s1 = s + 20000 ∧ R 134 1 = some 265)) := by
      rcases hc with ⟨hc1, hc2⟩ | hc1
      · subst hc2
        obtain ⟨g, a1, a2⟩ := k_take1 (X := X) (d := d + 7) (s := s) (I := zu I1 1 1 0) (L := L) (R := zu (zu R 3 1 (some b)) 0 8 (some b1)) (b := b1) h2' (by rw [zu_n (by omega), zu_n (by omega)]; exact hc1)
        refine ⟨338, s + 20000, g, _, a1, a2, ?_, ?_, ?_, ?_, zu_s, Or.inr ⟨rfl, rfl, rfl, hc1⟩⟩
        · intro a k k1 k2 k3
          unfold zu
          rw [if_neg (fun z => k3 ⟨z.1, Or.inr z.2⟩), if_neg (fun z => k3 ⟨z.1, Or.inl z.2⟩), if_neg k2, if_neg k1]
        · rw [zu_n (by omega), zu_n (by omega), zu_n (by omega), zu_s]
        · rw [zu_n (by omega), zu_n (by omega), zu_s]
        · rw [zu_k (by omega), zu_s]
      · obtain ⟨g, a1, a2⟩ := k_take2 (X := X) (d := d + 7) (c := c) (s := s) (I := zu I1 1 1 0) (L := L) (R := zu (zu R 3 1 (some b)) 0 8 (some b1)) (b := b1) h2' (by rw [zu_n (by omega), zu_n (by omega)]; exact hc1)
        refine ⟨c, s, g, _, a1, a2, ?_, ?_, ?_, zu_s, ?_, Or.inl ⟨rfl, rfl, hc1⟩⟩
        · intro a k k1 k2 k3
          unfold zu
          rw [if_neg (fun z => k3 ⟨z.1, Or.inl z.2⟩), if_neg k2, if_neg k1]
        · rw [zu_n (by omega), zu_n (by omega), zu_s]
        · rw [zu_n (by omega), zu_s]
        · rw [zu_k (by omega), zu_n (by omega), zu_n (by omega)]; exact hc1
    obtain ⟨c1, s1, g, R3, a1, a2, a3, a4, a5, a6, a7, a8⟩ := key
    have hR3 := FrM_ok a3 hR
    obtain ⟨I4, L4, b1', b2, b3⟩ := k_clearC (X := X) (d := d + 7) (c := c1) (s := s1) (I := zW (zu I1 1 1 0) 266 g) (L := L) hR3
    have e4 : ∀ a, a ≠ 275 → a ≠ 266 → a ≠ 1 → I4 a = I1 a := fun a k1 k2 k3 => by rw [b2.1 a k1, zW_n k2, zu_n k3]
    have hCl : ClM I4 b1 M := ClM_c hM (fun a k1 k2 => e4 a (by omega) (by omega) (by omega)) w2
    refine ⟨mPr M.2.1, c1, s1, I4, L4, R3, st_X11_model ?_, fun e he => (by cases he), fun M' hM' => ?_⟩
    · exact md_1 hR h08 g1 q2 q3 h02 a1 (by omega) (by omega) (rr_0_5 hR3) b1' a5 (tt_model hb1).1 hCl.2.2.2.2.1 rfl
    · rw [← Sum.inr.inj hM']
      refine ⟨rfl, ⟨hR3, hb1, a5, a6, a7, hCl, hM, fun st hst => Or.inl ?_⟩, a4, b3, ?_, a3, b2.2, a8, fun a k1 k2 k3 k4 k5 => ?_⟩
      · rw [b2.1 266 (by omega), zW_s]
        have h1000 := hM.2.2.2.1
        exact a2 st (by unfold mN at hst; omega)
      · rw [b2.1 1 (by omega), zW_n (by omega), zu_s]
      · rw [e4 a k4 k3 k1, g2.1 a k1 k2 k5]
end
