/-! The reader's steps, purely; the reference's small ones. -/
section
variable {X : ZX} {d c s : Nat} {I L I1 L1 I2 L2 J : ZI} {R R1 R2 : ZR} {call : ZC} {w n p : Nat} {M : MD} {f : Nat → Int} {x t : Int} {B : Nat → Int}
abbrev PE : Type := Int × Int
noncomputable def pNum (B : Nat → Int) (n : Nat) (lo hi : Int) (p : Nat) : PE ⊕ (Int × Nat) := if tK B n p = 2 then (if lo ≤ tV B n p ∧ tV B n p ≤ hi then .inr (tV B n p, tT B n p) else .inl (3, (tF B n p : Int))) else .inl (1, (tF B n p : Int))
noncomputable def pSg (B : Nat → Int) (n : Nat) (ch : Int) (p : Nat) : PE ⊕ Nat := if tK B n p = 3 ∧ tS B n p = ch then .inr (tT B n p) else .inl (1, (tF B n p : Int))
def vIx : List MV → List Int → Nat → Int
  | [], _, _ => -1
  | y :: l, nm, v => if y.1 = nm then (v : Int) else vIx l nm (v + 1)
theorem vIx_r : ∀ (l : List MV) (nm : List Int) (v : Nat), vIx l nm v = -1 ∨ ((v : Int) ≤ vIx l nm v ∧ vIx l nm v < v + l.length) := by
  intro l
  induction l with
  | nil => intro nm v; exact Or.inl rfl
  | cons y l ih =>
    intro nm v
    unfold vIx
    rw [List.length_cons]
    split
    · omega
    · have := ih nm (v + 1); omega
def srt (k : Nat) (sg : Int) : Option Int := if k = 0 then (if 60 ≤ sg ∧ sg ≤ 62 then some (sg - 61) else none) else (if sg = 45 then some (-1) else if sg = 61 then some 0 else if sg = 43 then some 1 else none)
def btw (k : Nat) : Int := if k = 0 then 38 else 44
noncomputable def pSo (B : Nat → Int) (n k p : Nat) : Option Int := if tK B n p = 3 then srt k (tS B n p) else none
noncomputable def pTerm (B : Nat → Int) (n : Nat) (vs : List MV) (k sz p : Nat) : PE ⊕ (TT × Nat) := if tK B n p = 1 then (if vIx vs (tN B n p) 0 = -1 then .inl (2, (tF B n p : Int)) else if sz = 3 then .inl (4, (tF B n p : Int)) else match pSo B n k (tT B n p) with
  | none => .inl (1, (tF B n (tT B n p) : Int))
  | some so => match pNum B n 0 99 (tT B n (tT B n p)) with
    | .inl e => .inl e
    | .inr z => .inr (((vIx vs (tN B n p) 0).toNat, so, z.1), z.2)) else .inl (1, (tF B n p : Int))
noncomputable def pTerms (B : Nat → Int) (n : Nat) (vs : List MV) (k : Nat) : Nat → List TT → Nat → PE ⊕ (List TT × Nat)
  | 0, acc, p => .inr (acc, p)
  | j + 1, acc, p => match pTerm B n vs k acc.length p with
    | .inl e => .inl e
    | .inr z => if tK B n z.2 = 3 ∧ tS B n z.2 = btw k then pTerms B n vs k j (acc ++ [z.1]) (tT B n z.2) else .inr (acc ++ [z.1], z.2)
theorem gK_r {f : Nat} : gK B n f = 0 ∨ gK B n f = 1 ∨ gK B n f = 2 ∨ gK B n f = 3 ∨ gK B n f = 4 := by
  unfold gK
  split
  · omega
  · split
    · split <;> omega
    · split
      · split <;> omega
      · split <;> omega
theorem tK_r : tK B n p = 0 ∨ tK B n p = 1 ∨ tK B n p = 2 ∨ tK B n p = 3 ∨ tK B n p = 4 := gK_r
theorem rkd_4 : rkd (tK B n p) = 4 ↔ tK B n p = 3 := by have := @tK_r n p B; unfold rkd; split <;> omega
theorem rkd_2 : rkd (tK B n p) = 2 ↔ tK B n p = 1 := by have := @tK_r n p B; unfold rkd; split <;> omega
theorem rkd_3 : rkd (tK B n p) = 3 ↔ tK B n p = 2 := by have := @tK_r n p B; unfold rkd; split <;> omega
theorem rkd_1 : rkd (tK B n p) = 1 ↔ tK B n p = 0 := by have := @tK_r n p B; unfold rkd; split <;> omega
/-- a name's letters, a number's figures -/
theorem tK_1 (h : tK B n p = 1) : tF B n p < tT B n p ∧ tT B n p ≤ tF B n p + 6 ∧ (∀ i, tF B n p ≤ i → i < tT B n p → 97 ≤ B i ∧ B i ≤ 122) := by
  unfold tK at h
  unfold tT
  generalize tF B n p = f at h ⊢
  by_cases q0 : n ≤ f
  · unfold gK at h; rw [if_pos q0] at h; omega
  · by_cases q1 : isLt (B f)
    · have gt : gT B n f = rnE B n 97 122 (n - f) f := by unfold gT; rw [if_neg q0, if_pos q1]
      have gk : gK B n f = if f + 6 < gT B n f then 4 else 1 := by unfold gK; rw [if_neg q0, if_pos q1]
      rw [h] at gk
      have hr := @rnE_g n B 97 122 (n - f) f
      have h6 : ¬ f + 6 < gT B n f := by intro z; rw [if_pos z] at gk; omega
      rw [gt] at h6 ⊢
      refine ⟨?_, by omega, hr.2.2⟩
      have : rnE B n 97 122 (n - f) f = rnE B n 97 122 (n - f - 1) (f + 1) := by
        rw [show n - f = (n - f - 1) + 1 by omega]
        show (if f < n ∧ 97 ≤ B f ∧ B f ≤ 122 then _ else _) = _
        rw [if_pos ⟨by omega, q1⟩]
        rfl
      have := (@rnE_g n B 97 122 (n - f - 1) (f + 1)).1
      omega
    · unfold gK at h
      rw [if_neg q0, if_neg q1] at h
      split at h
      · split at h <;> omega
      · split at h <;> omega
theorem tK_2 (h : tK B n p = 2) : tF B n p < tT B n p ∧ tT B n p ≤ tF B n p + 2 ∧ (∀ i, tF B n p ≤ i → i < tT B n p → 48 ≤ B i ∧ B i ≤ 57) := by
  unfold tK at h
  unfold tT
  generalize tF B n p = f at h ⊢
  by_cases q0 : n ≤ f
  · unfold gK at h; rw [if_pos q0] at h; omega
  · by_cases q1 : isLt (B f)
    · unfold gK at h
      rw [if_neg q0, if_pos q1] at h
      split at h <;> omega
    · by_cases q2 : isFg (B f)
      · have gt : gT B n f = rnE B n 48 57 (n - f) f := by unfold gT; rw [if_neg q0, if_neg q1, if_pos q2]
        have gk : gK B n f = if f + 2 < gT B n f then 4 else 2 := by unfold gK; rw [if_neg q0, if_neg q1, if_pos q2]
        rw [h] at gk
        have hr := @rnE_g n B 48 57 (n - f) f
        have h6 : ¬ f + 2 < gT B n f := by intro z; rw [if_pos z] at gk; omega
        rw [gt] at h6 ⊢
        refine ⟨?_, by omega, hr.2.2⟩
        have : rnE B n 48 57 (n - f) f = rnE B n 48 57 (n - f - 1) (f + 1) := by
          rw [show n - f = (n - f - 1) + 1 by omega]
          show (if f < n ∧ 48 ≤ B f ∧ B f ≤ 57 then _ else _) = _
          rw [if_pos ⟨by omega, q2⟩]
          rfl
        have := (@rnE_g n B 48 57 (n - f - 1) (f + 1)).1
        omega
      · unfold gK at h
        rw [if_neg q0, if_neg q1, if_neg q2] at h
        split at h <;> omega
theorem tN_l (h : tK B n p = 1) : (tN B n p).length ≤ 6 ∧ ∀ y ∈ tN B n p, 97 ≤ y ∧ y ≤ 122 := by
  have h1 := tK_1 h
  unfold tN
  refine ⟨by rw [rsl_len]; omega, fun y hy => ?_⟩
  obtain ⟨i, h2, h3, h4⟩ := rsl_mem _ hy
  rw [h4]
  exact h1.2.2 i h2 (by omega)
theorem tV_r (h : tK B n p = 2) : 0 ≤ tV B n p ∧ tV B n p ≤ 99 := by
  have h1 := tK_2 h
  have h2 : ∀ y ∈ tN B n p, 0 ≤ y - 48 ∧ y - 48 < 10 := by
    intro y hy
    unfold tN at hy
    obtain ⟨i, h2, h3, h4⟩ := rsl_mem _ hy
    have := h1.2.2 i h2 (by omega)
    omega
  have h3 := vR_lt (b := 10) (z := 48) (by omega) _ h2
  have h4 : (tN B n p).length ≤ 2 := by unfold tN; rw [rsl_len]; omega
  have h5 : (10 : Int) ^ (tN B n p).length ≤ 100 := by
    have : (tN B n p).length = 0 ∨ (tN B n p).length = 1 ∨ (tN B n p).length = 2 := by omega
    rcases this with q | q | q <;> rw [q] <;> decide
  unfold tV
  omega
/-- what reading changes in the reference: its reading fields, and side w of its model -/
def szR (a : Nat) : Nat := if a = 315 ∨ a = 316 then 4 else if a = 318 ∨ a = 324 then 12 else if a = 320 then 16 else if a = 321 ∨ a = 322 ∨ a = 323 then 48 else if a = 325 ∨ a = 326 ∨ a = 327 then 36 else 1
def inS (w a k : Nat) : Prop := 312 ≤ a ∧ a ≤ 327 ∧ szR a * w ≤ k ∧ k < szR a * w + szR a
def FrR (w : Nat) (I L I1 L1 : ZI) : Prop := (∀ a k, a ≠ 310 → ¬ inS w a k → I1 a k = I a k) ∧ (∀ k, k ≠ 5 → k ≠ 6 → k ≠ 7 → k ≠ 8 → k ≠ 9 → k ≠ 10 → k ≠ 11 → I1 310 k = I 310 k) ∧ ∀ a, a ≠ 314 → L1 a = L a
theorem FrR_r : FrR w I L I L := ⟨fun _ _ _ _ => rfl, fun _ _ _ _ _ _ _ _ => rfl, fun _ _ => rfl⟩
theorem FrR_t (h1 : FrR w I L I1 L1) (h2 : FrR w I1 L1 I2 L2) : FrR w I L I2 L2 := ⟨fun a k q1 q2 => (h2.1 a k q1 q2).trans (h1.1 a k q1 q2), fun k q1 q2 q3 q4 q5 q6 q7 => (h2.2.1 k q1 q2 q3 q4 q5 q6 q7).trans (h1.2.1 k q1 q2 q3 q4 q5 q6 q7), fun a q => (h2.2.2 a q).trans (h1.2.2 a q)⟩
theorem FrR_n (h : FrN I I1) : FrR w I L I1 L := ⟨fun a k q _ => by rw [h.1 a q], fun k q1 q2 q3 q4 q5 _ _ => h.2 k q1 q2 q3 q4 q5, fun _ _ => rfl⟩
theorem FrR_e {k : Nat} {y : Int} (hk : k = 10 ∨ k = 11) : FrR w I L (zu I 310 k y) L := ⟨fun a j q _ => by rw [zu_n q], fun j q1 q2 q3 q4 q5 q6 q7 => zu_k (by omega), fun _ _ => rfl⟩
theorem FrR_u {a k : Nat} {y : Int} (h : inS w a k) : FrR w I L (zu I a k y) L := by
  have h1 := h.1
  refine ⟨fun b j q1 q2 => ?_, fun j _ _ _ _ _ _ _ => by rw [zu_n (by omega)], fun _ _ => rfl⟩
  unfold zu
  rw [if_neg (fun z => q2 (by rw [z.1, z.2]; exact h))]
/-- what reading tokens changes -/
def FrT (I I1 : ZI) : Prop := (∀ a, a ≠ 310 → I1 a = I a) ∧ ∀ k, k ≠ 5 → k ≠ 6 → k ≠ 7 → k ≠ 8 → k ≠ 9 → k ≠ 10 → k ≠ 11 → I1 310 k = I 310 k
theorem FrT_r : FrT I I := ⟨fun _ _ => rfl, fun _ _ _ _ _ _ _ _ => rfl⟩
theorem FrT_t (h1 : FrT I I1) (h2 : FrT I1 I2) : FrT I I2 := ⟨fun a q => (h2.1 a q).trans (h1.1 a q), fun k q1 q2 q3 q4 q5 q6 q7 => (h2.2 k q1 q2 q3 q4 q5 q6 q7).trans (h1.2 k q1 q2 q3 q4 q5 q6 q7)⟩
theorem FrT_n (h : FrN I I1) : FrT I I1 := ⟨h.1, fun k q1 q2 q3 q4 q5 _ _ => h.2 k q1 q2 q3 q4 q5⟩
theorem FrT_e {k : Nat} {y : Int} (hk : k = 10 ∨ k = 11) : FrT I (zu I 310 k y) := ⟨fun a q => zu_n q, fun j q1 q2 q3 q4 q5 q6 q7 => zu_k (by omega)⟩
theorem FrR_T (h : FrT I I1) : FrR w I L I1 L := ⟨fun a k q _ => by rw [h.1 a q], h.2, fun _ _ => rfl⟩
theorem TpR_c (h : TpR I B n p) (h0 : ∀ k, k ≠ 10 → k ≠ 11 → I1 310 k = I 310 k) (h1 : I1 311 = I 311) : TpR I1 B n p := by
  obtain ⟨⟨a1, a2, a3, a4⟩, b1, b2, b3, b4, b5, b6, b7⟩ := h
  refine ⟨⟨by rw [h0 4 (by omega) (by omega)]; exact a1, a2, by rw [h1]; exact a3, a4⟩, b1, by rw [h0 5 (by omega) (by omega)]; exact b2, by rw [h0 6 (by omega) (by omega)]; exact b3, by rw [h0 7 (by omega) (by omega)]; exact b4, by rw [h0 8 (by omega) (by omega)]; exact b5, by rw [h0 9 (by omega) (by omega)]; exact b6, by rw [h0 9 (by omega) (by omega)]; exact b7⟩
theorem TpR_u {a k : Nat} {y : Int} (h : TpR I B n p) (ha : 312 ≤ a) : TpR (zu I a k y) B n p := TpR_c h (fun j _ _ => by rw [zu_n (by omega)]) (zu_n (by omega))
def ErR (I : ZI) (e : PE) : Prop := I 310 10 = e.1 ∧ I 310 11 = e.2
theorem c_bad (e wh : Int) : zrun X (d + 1) 119 [zr (some 310), zi e, zi wh] (c, s, I, L, R) = some (none, (c, s, if I 310 10 = 0 then zu (zu I 310 10 e) 310 11 wh else I, L, R)) := by
  refine st_X12_bad ?_
  by_cases h : I 310 10 = 0
  · rw [if_pos h]
    simp (disch := omega) only [e_X12_bad_0, e_X12_bad_0x, e_X12_bad_1, e_X12_bad_4, e_X12_bad_7, e_X12_bad_7x, e_X12_bad_8, e_X12_bad_9, e_X12_bad_12, e_X12_bad_12x, e_X12_bad_13, e_X12_bad_14, e_X12_bad_17, zcll_s, zpush_s, zpush_n, zinv_i, zinv_l, zinv_r, zinv_x, zcats_nil, zcats_i, zcats_l, zcats_r, zcats_x, Nat.le_refl, and_self, true_and, and_true, zok_1, zok_20, zok_21, eq_self, Nat.reduceAdd, Nat.reduceLeDiff, Nat.zero_le, if_true, if_false, zw3_id, if_pos, if_neg, zand_t, tg_310, h]
  · rw [if_neg h]
    simp (disch := omega) only [e_X12_bad_0, e_X12_bad_0x, e_X12_bad_1, e_X12_bad_4, e_X12_bad_7, e_X12_bad_7x, e_X12_bad_8, e_X12_bad_9, e_X12_bad_12, e_X12_bad_12x, e_X12_bad_13, e_X12_bad_14, e_X12_bad_17, zcll_s, zpush_s, zpush_n, zinv_i, zinv_l, zinv_r, zinv_x, zcats_nil, zcats_i, zcats_l, zcats_r, zcats_x, Nat.le_refl, and_self, true_and, and_true, zok_1, zok_20, zok_21, eq_self, Nat.reduceAdd, Nat.reduceLeDiff, Nat.zero_le, if_true, if_false, zw3_id, if_pos, if_neg, zand_t, tg_310, h]
theorem c_stands (so : Int) (hs : so = 0 ∨ so = 1) : zrun X (d + 2) 120 [zr (some 310), zi so] (c, s, I, L, R) = some (none, (c, s, if so = 0 ∧ I 310 10 = 0 then zu (zu I 310 10 1) 310 11 (I 310 7) else I, L, R)) := by
  refine st_X12_stands ?_
  rcases hs with h | h <;> subst h
  · have q := c_bad (X := X) (d := d) (c := c) (s := s) (I := I) (L := L) (R := R) 1 (I 310 7)
    by_cases h2 : I 310 10 = 0
    · rw [if_pos h2] at q
      rw [if_pos ⟨rfl, h2⟩]
      simp (disch := omega) only [e_X12_stands_0, e_X12_stands_1, e_X12_stands_4, e_X12_stands_4x, e_X12_stands_5, e_X12_stands_6, e_X12_stands_6x, e_X12_stands_7, e_X12_stands_10, e_X12_stands_13, zcll_s, zpush_s, zpush_n, zinv_i, zinv_l, zinv_r, zinv_x, zcats_nil, zcats_i, zcats_l, zcats_r, zcats_x, Nat.le_refl, and_self, true_and, and_true, zok_1, zok_20, zok_21, eq_self, Nat.reduceAdd, Nat.reduceLeDiff, Nat.zero_le, if_true, if_false, zw3_id, if_pos, if_neg, zand_t, tg_310, q]
    · rw [if_neg h2] at q
      rw [if_neg (fun z => h2 z.2)]
      simp (disch := omega) only [e_X12_stands_0, e_X12_stands_1, e_X12_stands_4, e_X12_stands_4x, e_X12_stands_5, e_X12_stands_6, e_X12_stands_6x, e_X12_stands_7, e_X12_stands_10, e_X12_stands_13, zcll_s, zpush_s, zpush_n, zinv_i, zinv_l, zinv_r, zinv_x, zcats_nil, zcats_i, zcats_l, zcats_r, zcats_x, Nat.le_refl, and_self, true_and, and_true, zok_1, zok_20, zok_21, eq_self, Nat.reduceAdd, Nat.reduceLeDiff, Nat.zero_le, if_true, if_false, zw3_id, if_pos, if_neg, zand_t, tg_310, q]
  · rw [if_neg (by omega)]
    simp (disch := omega) only [e_X12_stands_0, e_X12_stands_1, e_X12_stands_4, e_X12_stands_4x, e_X12_stands_5, e_X12_stands_6, e_X12_stands_6x, e_X12_stands_7, e_X12_stands_10, e_X12_stands_13, zcll_s, zpush_s, zpush_n, zinv_i, zinv_l, zinv_r, zinv_x, zcats_nil, zcats_i, zcats_l, zcats_r, zcats_x, Nat.le_refl, and_self, true_and, and_true, zok_1, zok_20, zok_21, eq_self, Nat.reduceAdd, Nat.reduceLeDiff, Nat.zero_le, if_true, if_false, zw3_id, if_pos, if_neg, zand_t, tg_310]
theorem c_is0 (ch : Int) : zrun X (d + 1) 121 [zr (some 310), zi ch] (c, s, I, L, R) = some (some (zi (zB (I 310 6 = 4 ∧ I 310 9 = ch))), (c, s, I, L, R)) := by
  refine st_X12_is ?_
  by_cases h : I 310 6 = 4
  · by_cases h2 : I 310 9 = ch
    · rw [zB_t ⟨h, h2⟩]
      simp (disch := omega) only [e_X12_is_0, e_X12_is_0x, e_X12_is_1, e_X12_is_4, e_X12_is_5, e_X12_is_8, e_X12_is_8x, e_X12_is_9, e_X12_is_12, e_X12_is_13, e_X12_is_16, e_X12_is_17, e_X12_is_20, e_X12_is_21, zcll_s, zpush_s, zpush_n, zinv_i, zinv_l, zinv_r, zinv_x, zcats_nil, zcats_i, zcats_l, zcats_r, zcats_x, Nat.le_refl, and_self, true_and, and_true, zok_1, zok_20, zok_21, eq_self, Nat.reduceAdd, Nat.reduceLeDiff, Nat.zero_le, if_true, if_false, zw3_id, if_pos, if_neg, zand_t, tg_310, h, h2]
    · rw [zB_f (fun z => h2 z.2)]
      simp (disch := omega) only [e_X12_is_0, e_X12_is_0x, e_X12_is_1, e_X12_is_4, e_X12_is_5, e_X12_is_8, e_X12_is_8x, e_X12_is_9, e_X12_is_12, e_X12_is_13, e_X12_is_16, e_X12_is_17, e_X12_is_20, e_X12_is_21, zcll_s, zpush_s, zpush_n, zinv_i, zinv_l, zinv_r, zinv_x, zcats_nil, zcats_i, zcats_l, zcats_r, zcats_x, Nat.le_refl, and_self, true_and, and_true, zok_1, zok_20, zok_21, eq_self, Nat.reduceAdd, Nat.reduceLeDiff, Nat.zero_le, if_true, if_false, zw3_id, if_pos, if_neg, zand_t, tg_310, h]
  · rw [zB_f (fun z => h z.1)]
    simp (disch := omega) only [e_X12_is_0, e_X12_is_0x, e_X12_is_1, e_X12_is_4, e_X12_is_5, e_X12_is_8, e_X12_is_8x, e_X12_is_9, e_X12_is_12, e_X12_is_13, e_X12_is_16, e_X12_is_17, e_X12_is_20, e_X12_is_21, zcll_s, zpush_s, zpush_n, zinv_i, zinv_l, zinv_r, zinv_x, zcats_nil, zcats_i, zcats_l, zcats_r, zcats_x, Nat.le_refl, and_self, true_and, and_true, zok_1, zok_20, zok_21, eq_self, Nat.reduceAdd, Nat.reduceLeDiff, Nat.zero_le, if_true, if_false, zw3_id, if_pos, if_neg, zand_t, tg_310, h]
theorem c_is (h : TpR I B n p) (ch : Int) : zrun X (d + 1) 121 [zr (some 310), zi ch] (c, s, I, L, R) = some (some (zi (zB (tK B n p = 3 ∧ tS B n p = ch))), (c, s, I, L, R)) := by
  rw [c_is0]
  refine congrArg (fun z => some (some (zi z), (c, s, I, L, R))) (zB_c ?_)
  rw [h.2.2.2.1, rkd_4]
  constructor
  · intro z; exact ⟨z.1, by rw [← h.2.2.2.2.2.2.1 z.1]; exact z.2⟩
  · intro z; exact ⟨z.1, by rw [h.2.2.2.2.2.2.1 z.1]; exact z.2⟩
/-- nothing happens once there is a fault -/
theorem c_take_f (hf : I 310 10 ≠ 0) (ch : Int) : zrun X (d + 3) 122 [zr (some 310), zi ch] (c, s, I, L, R) = some (none, (c, s, I, L, R)) := by
  refine st_X12_take ?_
  have q := c_stands (X := X) (d := d) (c := c) (s := s) (I := I) (L := L) (R := R) (zB (I 310 6 = 4 ∧ I 310 9 = ch)) zB_01
  rw [if_neg (fun z => hf z.2)] at q
  simp (disch := omega) only [e_X12_take_0, e_X12_take_0x, e_X12_take_1, e_X12_take_1x, e_X12_take_2, e_X12_take_3, e_X12_take_6, e_X12_take_9, e_X12_take_9x, e_X12_take_10, e_X12_take_13, e_X12_take_16, e_X12_take_16x, e_X12_take_17, e_X12_take_20, zcll_s, zpush_s, zpush_n, zinv_i, zinv_l, zinv_r, zinv_x, zcats_nil, zcats_i, zcats_l, zcats_r, zcats_x, Nat.le_refl, and_self, true_and, and_true, zok_1, zok_20, zok_21, eq_self, Nat.reduceAdd, Nat.reduceLeDiff, Nat.zero_le, if_true, if_false, zw3_id, if_pos, if_neg, zand_t, tg_310, c_is0, q]
theorem c_take (hR : Rok R) (h : TpR I B n p) (hf : I 310 10 = 0) (ch : Int) : ∃ I1, zrun X (d + 3) 122 [zr (some 310), zi ch] (c, s, I, L, R) = some (none, (c, s, I1, L, R)) ∧ FrT I I1 ∧ (∀ e, pSg B n ch p = .inl e → ErR I1 e ∧ e.1 ≠ 0) ∧ ∀ p1, pSg B n ch p = .inr p1 → TpR I1 B n p1 ∧ I1 310 10 = 0 := by
  have hi := c_is (X := X) (d := d + 1) (c := c) (s := s) (L := L) (R := R) h ch
  unfold pSg
  by_cases q : tK B n p = 3 ∧ tS B n p = ch
  · rw [zB_t q] at hi
    rw [if_pos q]
    have q2 := c_stands (X := X) (d := d) (c := c) (s := s) (I := I) (L := L) (R := R) 1 (Or.inr rfl)
    rw [if_neg (by omega)] at q2
    obtain ⟨I1, u1, u2, u3⟩ := c_next (X := X) (d := d) (c := c) (s := s) (L := L) hR h.1 (@tT_g n p B h.2.1).2.1 h.2.2.1
    refine ⟨I1, st_X12_take ?_, FrT_n u3, fun e he => (by cases he), fun p1 hp1 => ?_⟩
    · simp (disch := omega) only [e_X12_take_0, e_X12_take_0x, e_X12_take_1, e_X12_take_1x, e_X12_take_2, e_X12_take_3, e_X12_take_6, e_X12_take_9, e_X12_take_9x, e_X12_take_10, e_X12_take_13, e_X12_take_16, e_X12_take_16x, e_X12_take_17, e_X12_take_20, zcll_s, zpush_s, zpush_n, zinv_i, zinv_l, zinv_r, zinv_x, zcats_nil, zcats_i, zcats_l, zcats_r, zcats_x, Nat.le_refl, and_self, true_and, and_true, zok_1, zok_20, zok_21, eq_self, Nat.reduceAdd, Nat.reduceLeDiff, Nat.zero_le, if_true, if_false, zw3_id, if_pos, if_neg, zand_t, tg_310, hi, q2, hf, u1]
    · injection hp1 with hp1
      rw [← hp1]
      exact ⟨u2, by rw [u3.2 10 (by omega) (by omega) (by omega) (by omega) (by omega)]; exact hf⟩
  · rw [zB_f q] at hi
    rw [if_neg q]
    have q2 := c_stands (X := X) (d := d) (c := c) (s := s) (I := I) (L := L) (R := R) 0 (Or.inl rfl)
    rw [if_pos ⟨rfl, hf⟩] at q2
    have e10 : zu (zu I 310 10 1) 310 11 (I 310 7) 310 10 = 1 := by rw [zu_k (by omega), zu_s]
    refine ⟨zu (zu I 310 10 1) 310 11 (I 310 7), st_X12_take ?_, FrT_t (FrT_e (Or.inl rfl)) (FrT_e (Or.inr rfl)), fun e he => ?_, fun p1 hp1 => (by cases hp1)⟩
    · simp (disch := omega) only [e_X12_take_0, e_X12_take_0x, e_X12_take_1, e_X12_take_1x, e_X12_take_2, e_X12_take_3, e_X12_take_6, e_X12_take_9, e_X12_take_9x, e_X12_take_10, e_X12_take_13, e_X12_take_16, e_X12_take_16x, e_X12_take_17, e_X12_take_20, zcll_s, zpush_s, zpush_n, zinv_i, zinv_l, zinv_r, zinv_x, zcats_nil, zcats_i, zcats_l, zcats_r, zcats_x, Nat.le_refl, and_self, true_and, and_true, zok_1, zok_20, zok_21, eq_self, Nat.reduceAdd, Nat.reduceLeDiff, Nat.zero_le, if_true, if_false, zw3_id, if_pos, if_neg, zand_t, tg_310, hi, q2, e10]
    · injection he with he
      rw [← he]
      exact ⟨⟨e10, by rw [zu_s]; exact h.2.2.2.2.1⟩, by show (1 : Int) ≠ 0; omega⟩
theorem zor8 {v y : Int} (hv0 : 0 ≤ v) (hv : v < 1099511627776) (hy0 : 0 ≤ y) (hy : y < 256) : zor6 (zshl6 v 8) y = 256 * v + y := by
  obtain ⟨v, rfl⟩ := Int.eq_ofNat_of_zero_le hv0
  obtain ⟨y, rfl⟩ := Int.eq_ofNat_of_zero_le hy0
  have hv : v < 1099511627776 := by omega
  have hy : y < 256 := by omega
  unfold zor6 zshl6
  have e8 : (Int32.ofInt 8).toInt64 &&& 63 = 8 := by decide
  rw [e8, zq_v6]
  have b1 : (Int64.ofInt (v : Int)).toBitVec = BitVec.ofNat 64 v := by
    show BitVec.ofInt 64 (v : Int) = _
    exact BitVec.ofInt_natCast 64 v
  have b2 : (Int64.ofInt (y : Int)).toBitVec = BitVec.ofNat 64 y := by
    show BitVec.ofInt 64 (y : Int) = _
    exact BitVec.ofInt_natCast 64 y
  have b3 : (Int64.ofInt (v : Int) <<< 8 ||| Int64.ofInt (y : Int)).toBitVec = BitVec.ofNat 64 (256 * v + y) := by
    rw [Int64.toBitVec_or, b2]
    have : (Int64.ofInt (v : Int) <<< 8).toBitVec = BitVec.ofNat 64 (256 * v) := by
      rw [Int64.toBitVec_shiftLeft, b1]
      apply BitVec.eq_of_toNat_eq
      have e : ((8 : Int64).toBitVec.smod 64).toNat = 8 := by decide
      show (BitVec.ofNat 64 v <<< ((8 : Int64).toBitVec.smod 64).toNat).toNat = _
      rw [e, BitVec.toNat_shiftLeft]
      simp only [BitVec.toNat_ofNat, Nat.shiftLeft_eq]
      omega
    rw [this]
    apply BitVec.eq_of_toNat_eq
    rw [BitVec.toNat_or, BitVec.toNat_ofNat, BitVec.toNat_ofNat, BitVec.toNat_ofNat, Nat.mod_eq_of_lt (by omega), Nat.mod_eq_of_lt (by omega), Nat.mod_eq_of_lt (by omega)]
    have := Nat.shiftLeft_add_eq_or_of_lt (show y < 2 ^ 8 by omega) v
    rw [Nat.shiftLeft_eq] at this
    rw [show 256 * v = v * 2 ^ 8 by omega]
    exact this.symm
  show (Int64.ofInt (v : Int) <<< 8 ||| Int64.ofInt (y : Int)).toBitVec.toInt = _
  rw [b3, BitVec.toInt_eq_toNat_of_lt (by rw [BitVec.toNat_ofNat, Nat.mod_eq_of_lt (by omega)]; omega), BitVec.toNat_ofNat, Nat.mod_eq_of_lt (by omega)]
  omega
theorem vR6 {l : List Int} (hl : l.length ≤ 6) (h : ∀ y ∈ l, 97 ≤ y ∧ y ≤ 122) : 0 ≤ vR 256 0 l ∧ vR 256 0 l < 281474976710656 ∧ (l.length ≤ 5 → vR 256 0 l < 1099511627776) := by
  have h3 := vR_lt (b := 256) (z := 0) (by omega) l (fun y hy => by have := h y hy; omega)
  have h5 : (256 : Int) ^ l.length ≤ 281474976710656 ∧ (l.length ≤ 5 → (256 : Int) ^ l.length ≤ 1099511627776) := by
    have : l.length = 0 ∨ l.length = 1 ∨ l.length = 2 ∨ l.length = 3 ∨ l.length = 4 ∨ l.length = 5 ∨ l.length = 6 := by omega
    rcases this with q | q | q | q | q | q | q <;> rw [q] <;> decide
  exact ⟨h3.1, by omega, fun q => by have := h5.2 q; omega⟩
theorem p_name (hR : Rok R) (h : TpR I B n p) (hk : tK B n p = 1) : ∀ (j m : Nat), tT B n p - (tF B n p + m) = j → tF B n p + m ≤ tT B n p → V X call mX12_name 7 [zr (some 310), zl (vR 256 0 (rsl B (tF B n p) m)), zx 0, zi ((tF B n p + m : Nat) : Int)] [] (c, s, I, L, R) (fun q => q = (some (zl (vR 256 0 (tN B n p))), (c, s, I, L, R))) := by
  intro j
  have h1 := tK_1 hk
  have hg := @tT_g n p B h.2.1
  have h800 := h.1.2.1
  have e6 : I 310 6 = 2 := by rw [h.2.2.2.1, rkd_2]; exact hk
  have e8 := h.2.2.2.2.2.1
  induction j with
  | zero =>
    intro m hj hm
    rw [e_X12_name_7]
    simp (disch := omega) only [e_X12_name_0, e_X12_name_1, e_X12_name_2, e_X12_name_2x, e_X12_name_3, e_X12_name_6, e_X12_name_8, e_X12_name_8x, e_X12_name_9, e_X12_name_12, e_X12_name_15, e_X12_name_15x, e_X12_name_16, e_X12_name_19, e_X12_name_20, e_X12_name_23, e_X12_name_24, e_X12_name_26, e_X12_name_27, e_X12_name_27x, e_X12_name_28, e_X12_name_31, e_X12_name_32, e_X12_name_33, e_X12_name_34, e_X12_name_35, e_X12_name_36, e_X12_name_39, e_X12_name_42, e_X12_name_43, zcll_s, zpush_s, zpush_n, zinv_i, zinv_l, zinv_r, zinv_x, zcats_nil, zcats_i, zcats_l, zcats_r, zcats_x, Nat.le_refl, and_self, true_and, and_true, zok_1, zok_20, zok_21, eq_self, Nat.reduceAdd, Nat.reduceLeDiff, Nat.zero_le, if_true, if_false, zw3_id, if_pos, if_neg, zand_t, tg_310, e8]
    unfold tN
    rw [show tT B n p - tF B n p = m by omega]
  | succ j ih =>
    intro m hj hm
    have hb := h1.2.2 (tF B n p + m) (by omega) (by omega)
    have et : I 311 (tF B n p + m) = B (tF B n p + m) := h.1.2.2.1 _ (by omega)
    have hv := vR6 (l := rsl B (tF B n p) m) (by rw [rsl_len]; omega) (fun y hy => by obtain ⟨i, q1, q2, q3⟩ := rsl_mem _ hy; rw [q3]; exact h1.2.2 i q1 (by omega))
    have hv5 := hv.2.2 (by rw [rsl_len]; omega)
    have ez := zor8 hv.1 hv5 (show 0 ≤ B (tF B n p + m) by omega) (show B (tF B n p + m) < 256 by omega)
    rw [e_X12_name_7]
    simp (disch := omega) only [e_X12_name_0, e_X12_name_1, e_X12_name_2, e_X12_name_2x, e_X12_name_3, e_X12_name_6, e_X12_name_8, e_X12_name_8x, e_X12_name_9, e_X12_name_12, e_X12_name_15, e_X12_name_15x, e_X12_name_16, e_X12_name_19, e_X12_name_20, e_X12_name_23, e_X12_name_24, e_X12_name_26, e_X12_name_27, e_X12_name_27x, e_X12_name_28, e_X12_name_31, e_X12_name_32, e_X12_name_33, e_X12_name_34, e_X12_name_35, e_X12_name_36, e_X12_name_39, e_X12_name_42, e_X12_name_43, zcll_s, zpush_s, zpush_n, zinv_i, zinv_l, zinv_r, zinv_x, zcats_nil, zcats_i, zcats_l, zcats_r, zcats_x, Nat.le_refl, and_self, true_and, and_true, zok_1, zok_20, zok_21, eq_self, Nat.reduceAdd, Nat.reduceLeDiff, Nat.zero_le, if_true, if_false, zw3_id, if_pos, if_neg, zand_t, tg_310, tg_311, tn_311, rr_310_1 hR, e6, e8, Int.toNat_natCast, et, ez]
    rw [show ((tF B n p + m : Nat) : Int) + 1 = ((tF B n p + (m + 1) : Nat) : Int) by omega]
    have z := ih (m + 1) (by omega) (by omega)
    rw [show vR 256 0 (rsl B (tF B n p) (m + 1)) = 256 * vR 256 0 (rsl B (tF B n p) m) + B (tF B n p + m) by show 256 * vR 256 0 (rsl B (tF B n p) m) + (B (tF B n p + m) - 0) = _; rw [Int.sub_zero]] at z
    exact z
theorem c_name (hR : Rok R) (h : TpR I B n p) : zrun X (d + 1) 123 [zr (some 310)] (c, s, I, L, R) = some (some (zl (if tK B n p = 1 then vR 256 0 (tN B n p) else 0)), (c, s, I, L, R)) := by
  refine st_X12_name ?_
  have e7 := h.2.2.2.2.1
  by_cases hk : tK B n p = 1
  · rw [if_pos hk]
    have z := p_name (X := X) (call := zrun X d) (c := c) (s := s) (L := L) hR h hk _ 0 rfl (by have := @tT_g n p B h.2.1; omega)
    simp (disch := omega) only [e_X12_name_0, e_X12_name_1, e_X12_name_2, e_X12_name_2x, e_X12_name_3, e_X12_name_6, e_X12_name_8, e_X12_name_8x, e_X12_name_9, e_X12_name_12, e_X12_name_15, e_X12_name_15x, e_X12_name_16, e_X12_name_19, e_X12_name_20, e_X12_name_23, e_X12_name_24, e_X12_name_26, e_X12_name_27, e_X12_name_27x, e_X12_name_28, e_X12_name_31, e_X12_name_32, e_X12_name_33, e_X12_name_34, e_X12_name_35, e_X12_name_36, e_X12_name_39, e_X12_name_42, e_X12_name_43, zcll_s, zpush_s, zpush_n, zinv_i, zinv_l, zinv_r, zinv_x, zcats_nil, zcats_i, zcats_l, zcats_r, zcats_x, Nat.le_refl, and_self, true_and, and_true, zok_1, zok_20, zok_21, eq_self, Nat.reduceAdd, Nat.reduceLeDiff, Nat.zero_le, if_true, if_false, zw3_id, if_pos, if_neg, zand_t, tg_310, e7]
    exact z
  · rw [if_neg hk]
    have e6 : I 310 6 ≠ 2 := by rw [h.2.2.2.1]; exact fun z => hk (rkd_2.mp z)
    have e8 := h.2.2.2.2.2.1
    simp (disch := omega) only [e_X12_name_0, e_X12_name_1, e_X12_name_2, e_X12_name_2x, e_X12_name_3, e_X12_name_6, e_X12_name_8, e_X12_name_8x, e_X12_name_9, e_X12_name_12, e_X12_name_15, e_X12_name_15x, e_X12_name_16, e_X12_name_19, e_X12_name_20, e_X12_name_23, e_X12_name_24, e_X12_name_26, e_X12_name_27, e_X12_name_27x, e_X12_name_28, e_X12_name_31, e_X12_name_32, e_X12_name_33, e_X12_name_34, e_X12_name_35, e_X12_name_36, e_X12_name_39, e_X12_name_42, e_X12_name_43, zcll_s, zpush_s, zpush_n, zinv_i, zinv_l, zinv_r, zinv_x, zcats_nil, zcats_i, zcats_l, zcats_r, zcats_x, Nat.le_refl, and_self, true_and, and_true, zok_1, zok_20, zok_21, eq_self, Nat.reduceAdd, Nat.reduceLeDiff, Nat.zero_le, if_true, if_false, zw3_id, if_pos, if_neg, zand_t, tg_310, e7]
    rw [e_X12_name_7]
    by_cases q : (tT B n p : Int) ≤ (tF B n p : Int)
    · simp (disch := omega) only [e_X12_name_0, e_X12_name_1, e_X12_name_2, e_X12_name_2x, e_X12_name_3, e_X12_name_6, e_X12_name_8, e_X12_name_8x, e_X12_name_9, e_X12_name_12, e_X12_name_15, e_X12_name_15x, e_X12_name_16, e_X12_name_19, e_X12_name_20, e_X12_name_23, e_X12_name_24, e_X12_name_26, e_X12_name_27, e_X12_name_27x, e_X12_name_28, e_X12_name_31, e_X12_name_32, e_X12_name_33, e_X12_name_34, e_X12_name_35, e_X12_name_36, e_X12_name_39, e_X12_name_42, e_X12_name_43, zcll_s, zpush_s, zpush_n, zinv_i, zinv_l, zinv_r, zinv_x, zcats_nil, zcats_i, zcats_l, zcats_r, zcats_x, Nat.le_refl, and_self, true_and, and_true, zok_1, zok_20, zok_21, eq_self, Nat.reduceAdd, Nat.reduceLeDiff, Nat.zero_le, if_true, if_false, zw3_id, if_pos, if_neg, zand_t, tg_310, e8, e6]
    · simp (disch := omega) only [e_X12_name_0, e_X12_name_1, e_X12_name_2, e_X12_name_2x, e_X12_name_3, e_X12_name_6, e_X12_name_8, e_X12_name_8x, e_X12_name_9, e_X12_name_12, e_X12_name_15, e_X12_name_15x, e_X12_name_16, e_X12_name_19, e_X12_name_20, e_X12_name_23, e_X12_name_24, e_X12_name_26, e_X12_name_27, e_X12_name_27x, e_X12_name_28, e_X12_name_31, e_X12_name_32, e_X12_name_33, e_X12_name_34, e_X12_name_35, e_X12_name_36, e_X12_name_39, e_X12_name_42, e_X12_name_43, zcll_s, zpush_s, zpush_n, zinv_i, zinv_l, zinv_r, zinv_x, zcats_nil, zcats_i, zcats_l, zcats_r, zcats_x, Nat.le_refl, and_self, true_and, and_true, zok_1, zok_20, zok_21, eq_self, Nat.reduceAdd, Nat.reduceLeDiff, Nat.zero_le, if_true, if_false, zw3_id, if_pos, if_neg, zand_t, tg_310, e8, e6]
theorem p_number (hR : Rok R) (h : TpR I B n p) (hk : tK B n p = 2) : ∀ (j m : Nat), tT B n p - (tF B n p + m) = j → tF B n p + m ≤ tT B n p → V X call mX12_number 7 [zr (some 310), zi (vR 10 48 (rsl B (tF B n p) m)), zi ((tF B n p + m : Nat) : Int)] [] (c, s, I, L, R) (fun q => q = (some (zi (tV B n p)), (c, s, I, L, R))) := by
  intro j
  have h1 := tK_2 hk
  have hg := @tT_g n p B h.2.1
  have h800 := h.1.2.1
  have e8 := h.2.2.2.2.2.1
  induction j with
  | zero =>
    intro m hj hm
    rw [e_X12_number_7]
    simp (disch := omega) only [e_X12_number_0, e_X12_number_1, e_X12_number_2, e_X12_number_2x, e_X12_number_3, e_X12_number_6, e_X12_number_8, e_X12_number_8x, e_X12_number_9, e_X12_number_12, e_X12_number_15, e_X12_number_17, e_X12_number_18, e_X12_number_19, e_X12_number_19x, e_X12_number_20, e_X12_number_23, e_X12_number_24, e_X12_number_25, e_X12_number_26, e_X12_number_28, e_X12_number_29, e_X12_number_30, e_X12_number_33, e_X12_number_36, e_X12_number_37, zcll_s, zpush_s, zpush_n, zinv_i, zinv_l, zinv_r, zinv_x, zcats_nil, zcats_i, zcats_l, zcats_r, zcats_x, Nat.le_refl, and_self, true_and, and_true, zok_1, zok_20, zok_21, eq_self, Nat.reduceAdd, Nat.reduceLeDiff, Nat.zero_le, if_true, if_false, zw3_id, if_pos, if_neg, zand_t, tg_310, e8]
    unfold tV tN
    rw [show tT B n p - tF B n p = m by omega]
  | succ j ih =>
    intro m hj hm
    have hb := h1.2.2 (tF B n p + m) (by omega) (by omega)
    have et : I 311 (tF B n p + m) = B (tF B n p + m) := h.1.2.2.1 _ (by omega)
    have hv := vR_lt (b := 10) (z := 48) (by omega) (rsl B (tF B n p) m) (fun y hy => by obtain ⟨i, q1, q2, q3⟩ := rsl_mem _ hy; have := h1.2.2 i q1 (by omega); rw [q3]; omega)
    have h5 : (10 : Int) ^ (rsl B (tF B n p) m).length ≤ 100 := by
      rw [rsl_len]
      have : m = 0 ∨ m = 1 ∨ m = 2 := by omega
      rcases this with q | q | q <;> rw [q] <;> decide
    rw [e_X12_number_7]
    simp (disch := omega) only [e_X12_number_0, e_X12_number_1, e_X12_number_2, e_X12_number_2x, e_X12_number_3, e_X12_number_6, e_X12_number_8, e_X12_number_8x, e_X12_number_9, e_X12_number_12, e_X12_number_15, e_X12_number_17, e_X12_number_18, e_X12_number_19, e_X12_number_19x, e_X12_number_20, e_X12_number_23, e_X12_number_24, e_X12_number_25, e_X12_number_26, e_X12_number_28, e_X12_number_29, e_X12_number_30, e_X12_number_33, e_X12_number_36, e_X12_number_37, zcll_s, zpush_s, zpush_n, zinv_i, zinv_l, zinv_r, zinv_x, zcats_nil, zcats_i, zcats_l, zcats_r, zcats_x, Nat.le_refl, and_self, true_and, and_true, zok_1, zok_20, zok_21, eq_self, Nat.reduceAdd, Nat.reduceLeDiff, Nat.zero_le, if_true, if_false, zw3_id, if_pos, if_neg, zand_t, tg_310, tg_311, tn_311, rr_310_1 hR, e8, Int.toNat_natCast, et]
    rw [show ((tF B n p + m : Nat) : Int) + 1 = ((tF B n p + (m + 1) : Nat) : Int) by omega]
    have z := ih (m + 1) (by omega) (by omega)
    rw [show vR 10 48 (rsl B (tF B n p) (m + 1)) = 10 * vR 10 48 (rsl B (tF B n p) m) + B (tF B n p + m) - 48 by show 10 * vR 10 48 (rsl B (tF B n p) m) + (B (tF B n p + m) - 48) = _; omega] at z
    exact z
theorem c_number (hR : Rok R) (h : TpR I B n p) (hk : tK B n p = 2) : zrun X (d + 1) 124 [zr (some 310)] (c, s, I, L, R) = some (some (zi (tV B n p)), (c, s, I, L, R)) := by
  refine st_X12_number ?_
  have e7 := h.2.2.2.2.1
  have z := p_number (X := X) (call := zrun X d) (c := c) (s := s) (L := L) hR h hk _ 0 rfl (by have := @tT_g n p B h.2.1; omega)
  simp (disch := omega) only [e_X12_number_0, e_X12_number_1, e_X12_number_2, e_X12_number_2x, e_X12_number_3, e_X12_number_6, e_X12_number_8, e_X12_number_8x, e_X12_number_9, e_X12_number_12, e_X12_number_15, e_X12_number_17, e_X12_number_18, e_X12_number_19, e_X12_number_19x, e_X12_number_20, e_X12_number_23, e_X12_number_24, e_X12_number_25, e_X12_number_26, e_X12_number_28, e_X12_number_29, e_X12_number_30, e_X12_number_33, e_X12_number_36, e_X12_number_37, zcll_s, zpush_s, zpush_n, zinv_i, zinv_l, zinv_r, zinv_x, zcats_nil, zcats_i, zcats_l, zcats_r, zcats_x, Nat.le_refl, and_self, true_and, and_true, zok_1, zok_20, zok_21, eq_self, Nat.reduceAdd, Nat.reduceLeDiff, Nat.zero_le, if_true, if_false, zw3_id, if_pos, if_neg, zand_t, tg_310, e7]
  exact z
theorem c_numberIn_f (hf : I 310 10 ≠ 0) (lo hi : Int) : zrun X (d + 3) 125 [zr (some 310), zi lo, zi hi] (c, s, I, L, R) = some (some (zi 0), (c, s, I, L, R)) := by
  refine st_X12_numberIn ?_
  have q0 := c_stands (X := X) (d := d) (c := c) (s := s) (I := I) (L := L) (R := R) 0 (Or.inl rfl)
  have q1 := c_stands (X := X) (d := d) (c := c) (s := s) (I := I) (L := L) (R := R) 1 (Or.inr rfl)
  rw [if_neg (fun z => hf z.2)] at q0
  rw [if_neg (by omega)] at q1
  by_cases h : I 310 6 = 3
  · simp (disch := omega) only [e_X12_numberIn_0, e_X12_numberIn_0x, e_X12_numberIn_1, e_X12_numberIn_1x, e_X12_numberIn_2, e_X12_numberIn_5, e_X12_numberIn_6, e_X12_numberIn_9, e_X12_numberIn_10, e_X12_numberIn_13, e_X12_numberIn_14, e_X12_numberIn_17, e_X12_numberIn_17x, e_X12_numberIn_18, e_X12_numberIn_21, e_X12_numberIn_24, e_X12_numberIn_24x, e_X12_numberIn_25, e_X12_numberIn_28, e_X12_numberIn_29, e_X12_numberIn_30, e_X12_numberIn_31, e_X12_numberIn_32, e_X12_numberIn_33, e_X12_numberIn_36, e_X12_numberIn_39, e_X12_numberIn_39x, e_X12_numberIn_40, e_X12_numberIn_41, e_X12_numberIn_41x, e_X12_numberIn_42, e_X12_numberIn_45, e_X12_numberIn_48, e_X12_numberIn_48x, e_X12_numberIn_49, e_X12_numberIn_52, e_X12_numberIn_55, e_X12_numberIn_55x, e_X12_numberIn_56, e_X12_numberIn_59, e_X12_numberIn_62, e_X12_numberIn_63, e_X12_numberIn_64, e_X12_numberIn_64x, e_X12_numberIn_65, e_X12_numberIn_68, e_X12_numberIn_71, e_X12_numberIn_71x, e_X12_numberIn_72, e_X12_numberIn_75, e_X12_numberIn_76, zcll_s, zpush_s, zpush_n, zinv_i, zinv_l, zinv_r, zinv_x, zcats_nil, zcats_i, zcats_l, zcats_r, zcats_x, Nat.le_refl, and_self, true_and, and_true, zok_1, zok_20, zok_21, eq_self, Nat.reduceAdd, Nat.reduceLeDiff, Nat.zero_le, if_true, if_false, zw3_id, if_pos, if_neg, zand_t, tg_310, h, q1]
  · simp (disch := omega) only [e_X12_numberIn_0, e_X12_numberIn_0x, e_X12_numberIn_1, e_X12_numberIn_1x, e_X12_numberIn_2, e_X12_numberIn_5, e_X12_numberIn_6, e_X12_numberIn_9, e_X12_numberIn_10, e_X12_numberIn_13, e_X12_numberIn_14, e_X12_numberIn_17, e_X12_numberIn_17x, e_X12_numberIn_18, e_X12_numberIn_21, e_X12_numberIn_24, e_X12_numberIn_24x, e_X12_numberIn_25, e_X12_numberIn_28, e_X12_numberIn_29, e_X12_numberIn_30, e_X12_numberIn_31, e_X12_numberIn_32, e_X12_numberIn_33, e_X12_numberIn_36, e_X12_numberIn_39, e_X12_numberIn_39x, e_X12_numberIn_40, e_X12_numberIn_41, e_X12_numberIn_41x, e_X12_numberIn_42, e_X12_numberIn_45, e_X12_numberIn_48, e_X12_numberIn_48x, e_X12_numberIn_49, e_X12_numberIn_52, e_X12_numberIn_55, e_X12_numberIn_55x, e_X12_numberIn_56, e_X12_numberIn_59, e_X12_numberIn_62, e_X12_numberIn_63, e_X12_numberIn_64, e_X12_numberIn_64x, e_X12_numberIn_65, e_X12_numberIn_68, e_X12_numberIn_71, e_X12_numberIn_71x, e_X12_numberIn_72, e_X12_numberIn_75, e_X12_numberIn_76, zcll_s, zpush_s, zpush_n, zinv_i, zinv_l, zinv_r, zinv_x, zcats_nil, zcats_i, zcats_l, zcats_r, zcats_x, Nat.le_refl, and_self, true_and, and_true, zok_1, zok_20, zok_21, eq_self, Nat.reduceAdd, Nat.reduceLeDiff, Nat.zero_le, if_true, if_false, zw3_id, if_pos, if_neg, zand_t, tg_310, h, q0]
theorem c_numberIn (hR : Rok R) (h : TpR I B n p) (hf : I 310 10 = 0) (lo hi : Int) : ∃ v I1, zrun X (d + 3) 125 [zr (some 310), zi lo, zi hi] (c, s, I, L, R) = some (some (zi v), (c, s, I1, L, R)) ∧ FrT I I1 ∧ (∀ e, pNum B n lo hi p = .inl e → ErR I1 e ∧ e.1 ≠ 0 ∧ v = 0) ∧ ∀ z, pNum B n lo hi p = .inr z → TpR I1 B n z.2 ∧ I1 310 10 = 0 ∧ v = z.1 := by
  have q0 := c_stands (X := X) (d := d) (c := c) (s := s) (I := I) (L := L) (R := R) 0 (Or.inl rfl)
  have q1 := c_stands (X := X) (d := d) (c := c) (s := s) (I := I) (L := L) (R := R) 1 (Or.inr rfl)
  rw [if_pos ⟨rfl, hf⟩] at q0
  rw [if_neg (by omega)] at q1
  have e6 := h.2.2.2.1
  have e7 := h.2.2.2.2.1
  unfold pNum
  by_cases hk : tK B n p = 2
  · rw [if_pos hk]
    have e6 : I 310 6 = 3 := by rw [e6, rkd_3]; exact hk
    have qn := c_number (X := X) (d := d + 1) (c := c) (s := s) (L := L) hR h hk
    by_cases hr : lo ≤ tV B n p ∧ tV B n p ≤ hi
    · rw [if_pos hr]
      obtain ⟨I1, u1, u2, u3⟩ := c_next (X := X) (d := d) (c := c) (s := s) (L := L) hR h.1 (@tT_g n p B h.2.1).2.1 h.2.2.1
      refine ⟨tV B n p, I1, st_X12_numberIn ?_, FrT_n u3, fun e he => (by cases he), fun z hz => ?_⟩
      · simp (disch := omega) only [e_X12_numberIn_0, e_X12_numberIn_0x, e_X12_numberIn_1, e_X12_numberIn_1x, e_X12_numberIn_2, e_X12_numberIn_5, e_X12_numberIn_6, e_X12_numberIn_9, e_X12_numberIn_10, e_X12_numberIn_13, e_X12_numberIn_14, e_X12_numberIn_17, e_X12_numberIn_17x, e_X12_numberIn_18, e_X12_numberIn_21, e_X12_numberIn_24, e_X12_numberIn_24x, e_X12_numberIn_25, e_X12_numberIn_28, e_X12_numberIn_29, e_X12_numberIn_30, e_X12_numberIn_31, e_X12_numberIn_32, e_X12_numberIn_33, e_X12_numberIn_36, e_X12_numberIn_39, e_X12_numberIn_39x, e_X12_numberIn_40, e_X12_numberIn_41, e_X12_numberIn_41x, e_X12_numberIn_42, e_X12_numberIn_45, e_X12_numberIn_48, e_X12_numberIn_48x, e_X12_numberIn_49, e_X12_numberIn_52, e_X12_numberIn_55, e_X12_numberIn_55x, e_X12_numberIn_56, e_X12_numberIn_59, e_X12_numberIn_62, e_X12_numberIn_63, e_X12_numberIn_64, e_X12_numberIn_64x, e_X12_numberIn_65, e_X12_numberIn_68, e_X12_numberIn_71, e_X12_numberIn_71x, e_X12_numberIn_72, e_X12_numberIn_75, e_X12_numberIn_76, zcll_s, zpush_s, zpush_n, zinv_i, zinv_l, zinv_r, zinv_x, zcats_nil, zcats_i, zcats_l, zcats_r, zcats_x, Nat.le_refl, and_self, true_and, and_true, zok_1, zok_20, zok_21, eq_self, Nat.reduceAdd, Nat.reduceLeDiff, Nat.zero_le, if_true, if_false, zw3_id, if_pos, if_neg, zand_t, tg_310, e6, q1, hf, qn, c_in, zB_t, u1]
      · injection hz with hz
        rw [← hz]
        exact ⟨u2, by rw [u3.2 10 (by omega) (by omega) (by omega) (by omega) (by omega)]; exact hf, rfl⟩
    · rw [if_neg hr]
      have qb := c_bad (X := X) (d := d + 1) (c := c) (s := s) (I := I) (L := L) (R := R) 3 (I 310 7)
      rw [if_pos hf] at qb
      have e10 : zu (zu I 310 10 3) 310 11 (I 310 7) 310 10 = 3 := by rw [zu_k (by omega), zu_s]
      refine ⟨0, zu (zu I 310 10 3) 310 11 (I 310 7), st_X12_numberIn ?_, FrT_t (FrT_e (Or.inl rfl)) (FrT_e (Or.inr rfl)), fun e he => ?_, fun z hz => (by cases hz)⟩
      · simp (disch := omega) only [e_X12_numberIn_0, e_X12_numberIn_0x, e_X12_numberIn_1, e_X12_numberIn_1x, e_X12_numberIn_2, e_X12_numberIn_5, e_X12_numberIn_6, e_X12_numberIn_9, e_X12_numberIn_10, e_X12_numberIn_13, e_X12_numberIn_14, e_X12_numberIn_17, e_X12_numberIn_17x, e_X12_numberIn_18, e_X12_numberIn_21, e_X12_numberIn_24, e_X12_numberIn_24x, e_X12_numberIn_25, e_X12_numberIn_28, e_X12_numberIn_29, e_X12_numberIn_30, e_X12_numberIn_31, e_X12_numberIn_32, e_X12_numberIn_33, e_X12_numberIn_36, e_X12_numberIn_39, e_X12_numberIn_39x, e_X12_numberIn_40, e_X12_numberIn_41, e_X12_numberIn_41x, e_X12_numberIn_42, e_X12_numberIn_45, e_X12_numberIn_48, e_X12_numberIn_48x, e_X12_numberIn_49, e_X12_numberIn_52, e_X12_numberIn_55, e_X12_numberIn_55x, e_X12_numberIn_56, e_X12_numberIn_59, e_X12_numberIn_62, e_X12_numberIn_63, e_X12_numberIn_64, e_X12_numberIn_64x, e_X12_numberIn_65, e_X12_numberIn_68, e_X12_numberIn_71, e_X12_numberIn_71x, e_X12_numberIn_72, e_X12_numberIn_75, e_X12_numberIn_76, zcll_s, zpush_s, zpush_n, zinv_i, zinv_l, zinv_r, zinv_x, zcats_nil, zcats_i, zcats_l, zcats_r, zcats_x, Nat.le_refl, and_self, true_and, and_true, zok_1, zok_20, zok_21, eq_self, Nat.reduceAdd, Nat.reduceLeDiff, Nat.zero_le, if_true, if_false, zw3_id, if_pos, if_neg, zand_t, tg_310, e6, q1, hf, qn, c_in, zB_f, qb, e10]
      · injection he with he
        rw [← he]
        exact ⟨⟨e10, by rw [zu_s]; exact e7⟩, by show (3 : Int) ≠ 0; omega, rfl⟩
  · rw [if_neg hk]
    have e6 : I 310 6 ≠ 3 := by rw [e6]; exact fun z => hk (rkd_3.mp z)
    have e10 : zu (zu I 310 10 1) 310 11 (I 310 7) 310 10 = 1 := by rw [zu_k (by omega), zu_s]
    refine ⟨0, zu (zu I 310 10 1) 310 11 (I 310 7), st_X12_numberIn ?_, FrT_t (FrT_e (Or.inl rfl)) (FrT_e (Or.inr rfl)), fun e he => ?_, fun z hz => (by cases hz)⟩
    · simp (disch := omega) only [e_X12_numberIn_0, e_X12_numberIn_0x, e_X12_numberIn_1, e_X12_numberIn_1x, e_X12_numberIn_2, e_X12_numberIn_5, e_X12_numberIn_6, e_X12_numberIn_9, e_X12_numberIn_10, e_X12_numberIn_13, e_X12_numberIn_14, e_X12_numberIn_17, e_X12_numberIn_17x, e_X12_numberIn_18, e_X12_numberIn_21, e_X12_numberIn_24, e_X12_numberIn_24x, e_X12_numberIn_25, e_X12_numberIn_28, e_X12_numberIn_29, e_X12_numberIn_30, e_X12_numberIn_31, e_X12_numberIn_32, e_X12_numberIn_33, e_X12_numberIn_36, e_X12_numberIn_39, e_X12_numberIn_39x, e_X12_numberIn_40, e_X12_numberIn_41, e_X12_numberIn_41x, e_X12_numberIn_42, e_X12_numberIn_45, e_X12_numberIn_48, e_X12_numberIn_48x, e_X12_numberIn_49, e_X12_numberIn_52, e_X12_numberIn_55, e_X12_numberIn_55x, e_X12_numberIn_56, e_X12_numberIn_59, e_X12_numberIn_62, e_X12_numberIn_63, e_X12_numberIn_64, e_X12_numberIn_64x, e_X12_numberIn_65, e_X12_numberIn_68, e_X12_numberIn_71, e_X12_numberIn_71x, e_X12_numberIn_72, e_X12_numberIn_75, e_X12_numberIn_76, zcll_s, zpush_s, zpush_n, zinv_i, zinv_l, zinv_r, zinv_x, zcats_nil, zcats_i, zcats_l, zcats_r, zcats_x, Nat.le_refl, and_self, true_and, and_true, zok_1, zok_20, zok_21, eq_self, Nat.reduceAdd, Nat.reduceLeDiff, Nat.zero_le, if_true, if_false, zw3_id, if_pos, if_neg, zand_t, tg_310, e6, q0, e10]
    · injection he with he
      rw [← he]
      exact ⟨⟨e10, by rw [zu_s]; exact e7⟩, by show (1 : Int) ≠ 0; omega, rfl⟩
end
