/-! The class: arrays filled, bits, terms, models. -/
section
variable {X : ZX} {d c s : Nat} {I L I1 L1 I2 L2 : ZI} {R : ZR} {call : ZC} {w : Nat} {M : MD} {f : Nat → Int} {x t : Int}
theorem p_fillI {a n : Nat} (ha : zT a = (1, n)) (hn : n ≤ 100000) (v : Int) {Q : Option ZV × ZS → Prop} : ∀ (j k : Nat) (g : Nat → Int), n - k = j → k ≤ n → Ag k g (fun _ => v) → (∀ g, Ag n g (fun _ => v) → Q (none, (c, s, zW I a g, L, R))) → V X call mJ7_fill_53178 5 [zr (some a), zi v, zi (k : Int), zi (n : Int)] [] (c, s, zW I a g, L, R) Q := by
  intro j
  induction j with
  | zero =>
    intro k g h1 h2 hg hQ
    have e : k = n := by omega
    subst e
    rw [e_J7_fill_53178_5]
    simp (disch := omega) only [e_J7_fill_53178_0, e_J7_fill_53178_1, e_J7_fill_53178_2, e_J7_fill_53178_2x, e_J7_fill_53178_3, e_J7_fill_53178_3x, e_J7_fill_53178_4, e_J7_fill_53178_6, e_J7_fill_53178_7, e_J7_fill_53178_10, e_J7_fill_53178_10x, e_J7_fill_53178_11, e_J7_fill_53178_12, e_J7_fill_53178_13, e_J7_fill_53178_14, e_J7_fill_53178_17, e_J7_fill_53178_20, zcll_s, zpush_s, zpush_n, zinv_i, zinv_l, zinv_r, zinv_x, zcats_nil, zcats_i, zcats_l, zcats_r, zcats_x, Nat.le_refl, and_self, true_and, and_true, zok_1, zok_20, zok_21, eq_self, Nat.reduceAdd, Nat.reduceLeDiff, Nat.zero_le, if_true, if_false, zw3_id, if_pos, if_neg, zand_t]
    exact hQ g hg
  | succ j ih =>
    intro k g h1 h2 hg hQ
    rw [e_J7_fill_53178_5]
    simp (disch := omega) only [e_J7_fill_53178_0, e_J7_fill_53178_1, e_J7_fill_53178_2, e_J7_fill_53178_2x, e_J7_fill_53178_3, e_J7_fill_53178_3x, e_J7_fill_53178_4, e_J7_fill_53178_6, e_J7_fill_53178_7, e_J7_fill_53178_10, e_J7_fill_53178_10x, e_J7_fill_53178_11, e_J7_fill_53178_12, e_J7_fill_53178_13, e_J7_fill_53178_14, e_J7_fill_53178_17, e_J7_fill_53178_20, zcll_s, zpush_s, zpush_n, zinv_i, zinv_l, zinv_r, zinv_x, zcats_nil, zcats_i, zcats_l, zcats_r, zcats_x, Nat.le_refl, and_self, true_and, and_true, zok_1, zok_20, zok_21, eq_self, Nat.reduceAdd, Nat.reduceLeDiff, Nat.zero_le, if_true, if_false, zw3_id, if_pos, if_neg, zand_t, ha, zW_s, zu_W, zW_W, Int.toNat_natCast]
    rw [show (k : Int) + 1 = ((k + 1 : Nat) : Int) by omega]
    refine ih (k + 1) _ (by omega) (by omega) ?_ hQ
    exact Ag_e hg rfl
theorem k_fillI {a n : Nat} (ha : zT a = (1, n)) (hn : n ≤ 100000) (v : Int) : ∃ g, zrun X (d + 1) 187 [zr (some a), zi v] (c, s, I, L, R) = some (none, (c, s, zW I a g, L, R)) ∧ Ag n g (fun _ => v) := by
  have p := sx_J7_fill_53178 (X := X) (d := d) (u0 := some a) (x1 := v) (σ := (c, s, I, L, R)) (P := fun q => ∃ g, q = (none, (c, s, zW I a g, L, R)) ∧ Ag n g (fun _ => v)) ?_
  · obtain ⟨r, q1, g, q2, q3⟩ := p
    exact ⟨g, by rw [q1, q2], q3⟩
  · simp (disch := omega) only [e_J7_fill_53178_0, e_J7_fill_53178_1, e_J7_fill_53178_2, e_J7_fill_53178_2x, e_J7_fill_53178_3, e_J7_fill_53178_3x, e_J7_fill_53178_4, e_J7_fill_53178_6, e_J7_fill_53178_7, e_J7_fill_53178_10, e_J7_fill_53178_10x, e_J7_fill_53178_11, e_J7_fill_53178_12, e_J7_fill_53178_13, e_J7_fill_53178_14, e_J7_fill_53178_17, e_J7_fill_53178_20, zcll_s, zpush_s, zpush_n, zinv_i, zinv_l, zinv_r, zinv_x, zcats_nil, zcats_i, zcats_l, zcats_r, zcats_x, Nat.le_refl, and_self, true_and, and_true, zok_1, zok_20, zok_21, eq_self, Nat.reduceAdd, Nat.reduceLeDiff, Nat.zero_le, if_true, if_false, zw3_id, if_pos, if_neg, zand_t, ha]
    have p := p_fillI (X := X) (call := zrun X d) (c := c) (s := s) (I := I) (L := L) (R := R) ha hn v (Q := fun q => ∃ g, q = (none, (c, s, zW I a g, L, R)) ∧ Ag n g (fun _ => v)) n 0 (I a) (by omega) (by omega) (fun k hk => absurd hk (by omega)) (fun g hg => ⟨g, rfl, hg⟩)
    rw [zW_id] at p
    exact p
theorem p_fillL {a n : Nat} (ha : zT a = (2, n)) (hn : n ≤ 100000) (v : Int) {Q : Option ZV × ZS → Prop} : ∀ (j k : Nat) (g : Nat → Int), n - k = j → k ≤ n → Ag k g (fun _ => v) → (∀ g, Ag n g (fun _ => v) → Q (none, (c, s, I, zW L a g, R))) → V X call mJ7_fill_d0a16 6 [zr (some a), zl v, zx 0, zi (k : Int), zi (n : Int)] [] (c, s, I, zW L a g, R) Q := by
  intro j
  induction j with
  | zero =>
    intro k g h1 h2 hg hQ
    have e : k = n := by omega
    subst e
    rw [e_J7_fill_d0a16_6]
    simp (disch := omega) only [e_J7_fill_d0a16_0, e_J7_fill_d0a16_1, e_J7_fill_d0a16_2, e_J7_fill_d0a16_2x, e_J7_fill_d0a16_3, e_J7_fill_d0a16_3x, e_J7_fill_d0a16_4, e_J7_fill_d0a16_7, e_J7_fill_d0a16_9, e_J7_fill_d0a16_12, e_J7_fill_d0a16_12x, e_J7_fill_d0a16_13, e_J7_fill_d0a16_14, e_J7_fill_d0a16_15, e_J7_fill_d0a16_16, e_J7_fill_d0a16_19, e_J7_fill_d0a16_22, zcll_s, zpush_s, zpush_n, zinv_i, zinv_l, zinv_r, zinv_x, zcats_nil, zcats_i, zcats_l, zcats_r, zcats_x, Nat.le_refl, and_self, true_and, and_true, zok_1, zok_20, zok_21, eq_self, Nat.reduceAdd, Nat.reduceLeDiff, Nat.zero_le, if_true, if_false, zw3_id, if_pos, if_neg, zand_t]
    exact hQ g hg
  | succ j ih =>
    intro k g h1 h2 hg hQ
    rw [e_J7_fill_d0a16_6]
    simp (disch := omega) only [e_J7_fill_d0a16_0, e_J7_fill_d0a16_1, e_J7_fill_d0a16_2, e_J7_fill_d0a16_2x, e_J7_fill_d0a16_3, e_J7_fill_d0a16_3x, e_J7_fill_d0a16_4, e_J7_fill_d0a16_7, e_J7_fill_d0a16_9, e_J7_fill_d0a16_12, e_J7_fill_d0a16_12x, e_J7_fill_d0a16_13, e_J7_fill_d0a16_14, e_J7_fill_d0a16_15, e_J7_fill_d0a16_16, e_J7_fill_d0a16_19, e_J7_fill_d0a16_22, zcll_s, zpush_s, zpush_n, zinv_i, zinv_l, zinv_r, zinv_x, zcats_nil, zcats_i, zcats_l, zcats_r, zcats_x, Nat.le_refl, and_self, true_and, and_true, zok_1, zok_20, zok_21, eq_self, Nat.reduceAdd, Nat.reduceLeDiff, Nat.zero_le, if_true, if_false, zw3_id, if_pos, if_neg, zand_t, ha, zW_s, zu_W, zW_W, Int.toNat_natCast]
    rw [show (k : Int) + 1 = ((k + 1 : Nat) : Int) by omega]
    refine ih (k + 1) _ (by omega) (by omega) ?_ hQ
    exact Ag_e hg rfl
theorem k_fillL {a n : Nat} (ha : zT a = (2, n)) (hn : n ≤ 100000) (v : Int) : ∃ g, zrun X (d + 1) 186 [zr (some a), zl v] (c, s, I, L, R) = some (none, (c, s, I, zW L a g, R)) ∧ Ag n g (fun _ => v) := by
  have p := sx_J7_fill_d0a16 (X := X) (d := d) (u0 := some a) (x1 := v) (σ := (c, s, I, L, R)) (P := fun q => ∃ g, q = (none, (c, s, I, zW L a g, R)) ∧ Ag n g (fun _ => v)) ?_
  · obtain ⟨r, q1, g, q2, q3⟩ := p
    exact ⟨g, by rw [q1, q2], q3⟩
  · simp (disch := omega) only [e_J7_fill_d0a16_0, e_J7_fill_d0a16_1, e_J7_fill_d0a16_2, e_J7_fill_d0a16_2x, e_J7_fill_d0a16_3, e_J7_fill_d0a16_3x, e_J7_fill_d0a16_4, e_J7_fill_d0a16_7, e_J7_fill_d0a16_9, e_J7_fill_d0a16_12, e_J7_fill_d0a16_12x, e_J7_fill_d0a16_13, e_J7_fill_d0a16_14, e_J7_fill_d0a16_15, e_J7_fill_d0a16_16, e_J7_fill_d0a16_19, e_J7_fill_d0a16_22, zcll_s, zpush_s, zpush_n, zinv_i, zinv_l, zinv_r, zinv_x, zcats_nil, zcats_i, zcats_l, zcats_r, zcats_x, Nat.le_refl, and_self, true_and, and_true, zok_1, zok_20, zok_21, eq_self, Nat.reduceAdd, Nat.reduceLeDiff, Nat.zero_le, if_true, if_false, zw3_id, if_pos, if_neg, zand_t, ha]
    have p := p_fillL (X := X) (call := zrun X d) (c := c) (s := s) (I := I) (L := L) (R := R) ha hn v (Q := fun q => ∃ g, q = (none, (c, s, I, zW L a g, R)) ∧ Ag n g (fun _ => v)) n 0 (L a) (by omega) (by omega) (fun k hk => absurd hk (by omega)) (fun g hg => ⟨g, rfl, hg⟩)
    rw [zW_id] at p
    exact p
/-- bits of cells and marks -/
theorem bit_cell0 : ∀ x, x < 1000 → zshl3 ((x : Nat) : Int) 4 = ((16 * x : Nat) : Int) := by decide +kernel
theorem bit_cell1 : ∀ x, x < 1000 → ∀ r, r < 16 → zor3 ((16 * x : Nat) : Int) ((r : Nat) : Int) = ((16 * x + r : Nat) : Int) := by decide +kernel
theorem bit_cell2 : ∀ x, x < 1000 → ∀ r, r < 16 → zshr3 ((16 * x + r : Nat) : Int) 4 = ((x : Nat) : Int) := by decide +kernel
theorem bit_cell3 : ∀ x, x < 1000 → ∀ r, r < 16 → zand3 ((16 * x + r : Nat) : Int) 15 = ((r : Nat) : Int) := by decide +kernel
theorem bit_mark0 : ∀ m, m < 32 → ∀ k, k < 4 → ∃ n, n < 32 ∧ (16 ≤ m → 16 ≤ n) ∧ zor3 ((m : Nat) : Int) (zshl3 1 ((k : Nat) : Int)) = ((n : Nat) : Int) ∧ ∀ g, g < 4 → zand3 (zshr3 ((n : Nat) : Int) ((g : Nat) : Int)) 1 = if g = k then 1 else zand3 (zshr3 ((m : Nat) : Int) ((g : Nat) : Int)) 1 := by decide +kernel
theorem bit_mark1 : ∀ g, g < 4 → zand3 (zshr3 16 ((g : Nat) : Int)) 1 = 0 := by decide +kernel
theorem cell_mk {x r : Int} (h0 : 0 ≤ x) (h1 : x < 1000) (h2 : 0 ≤ r) (h3 : r < 16) : zor3 (zshl3 x 4) r = 16 * x + r ∧ zshr3 (16 * x + r) 4 = x ∧ zand3 (16 * x + r) 15 = r := by
  obtain ⟨x, rfl⟩ := Int.eq_ofNat_of_zero_le h0
  obtain ⟨r, rfl⟩ := Int.eq_ofNat_of_zero_le h2
  have e : (16 * (x : Int) + r) = ((16 * x + r : Nat) : Int) := by omega
  rw [bit_cell0 x (by omega), bit_cell1 x (by omega) r (by omega), e, bit_cell2 x (by omega) r (by omega), bit_cell3 x (by omega) r (by omega)]
  exact ⟨rfl, rfl, rfl⟩
/-- terms in a cell of the class -/
def CTm (I : ZI) (t : Nat) (l : List TT) : Prop := I t 0 = (l.length : Int) ∧ ∀ j u, l[j]? = some u → I (t + 1) j = (u.1 : Int) ∧ I (t + 2) j = u.2.1 ∧ I (t + 3) j = u.2.2
/-- the model M in the class's cells from b on -/
def ClM (I : ZI) (b : Nat) (M : MD) : Prop := I b 0 = M.1 ∧ I b 1 = (M.2.1.length : Int) ∧ I b 2 = (M.2.2.1.length : Int) ∧ I b 3 = (M.2.2.2.length : Int) ∧ I b 4 = mPr M.2.1 ∧ (∀ v x, M.2.1[v]? = some x → I (b + 1) v = x.2.1 ∧ I (b + 2) v = x.2.2) ∧ (∀ r x, M.2.2.1[r]? = some x → I (b + 6 + 9 * r) 0 = x.1 ∧ CTm I (b + 6 + 9 * r + 1) x.2.1 ∧ CTm I (b + 6 + 9 * r + 5) x.2.2) ∧ ∀ g x, M.2.2.2[g]? = some x → CTm I (b + 114 + 4 * g) x
theorem CTm_c {J : ZI} {t : Nat} {l : List TT} (h : ∀ a, t ≤ a → a ≤ t + 3 → J a = I a) (hl : CTm I t l) : CTm J t l := by
  unfold CTm at hl ⊢
  rw [h t (by omega) (by omega), h (t + 1) (by omega) (by omega), h (t + 2) (by omega) (by omega), h (t + 3) (by omega) (by omega)]
  exact hl
theorem ClM_c {J : ZI} {b : Nat} (hk : MOK M) (h : ∀ a, b ≤ a → a < b + 130 → J a = I a) (hM : ClM I b M) : ClM J b M := by
  obtain ⟨h0, h1, h2, h3, h4, h5, h6, h7⟩ := hM
  have hr := hk.2.2.2.2.1
  have hg := hk.2.2.2.2.2.2.1.2
  refine ⟨?_, ?_, ?_, ?_, ?_, ?_, ?_, ?_⟩
  · rw [h b (by omega) (by omega)]; exact h0
  · rw [h b (by omega) (by omega)]; exact h1
  · rw [h b (by omega) (by omega)]; exact h2
  · rw [h b (by omega) (by omega)]; exact h3
  · rw [h b (by omega) (by omega)]; exact h4
  · rw [h (b + 1) (by omega) (by omega), h (b + 2) (by omega) (by omega)]; exact h5
  · intro r x hx
    have hrl : r < M.2.2.1.length := (List.getElem?_eq_some_iff.mp hx).1
    rw [h (b + 6 + 9 * r) (by omega) (by omega)]
    exact ⟨(h6 r x hx).1, CTm_c (fun a q1 q2 => h a (by omega) (by omega)) (h6 r x hx).2.1, CTm_c (fun a q1 q2 => h a (by omega) (by omega)) (h6 r x hx).2.2⟩
  · intro g x hx
    have hgl : g < M.2.2.2.length := (List.getElem?_eq_some_iff.mp hx).1
    exact CTm_c (fun a q1 q2 => h a (by omega) (by omega)) (h7 g x hx)
/-- the sort of a value beside a number -/
theorem tH_s {val : Nat → Int} {t : TT} (ht : t.2.1 = -1 ∨ t.2.1 = 0 ∨ t.2.1 = 1) : tH val t ↔ (if val t.1 < t.2.2 then -1 else if t.2.2 < val t.1 then 1 else 0) = t.2.1 := by
  unfold tH
  rcases ht with h | h | h
  · rw [h, if_pos (by omega)]
    split
    · exact ⟨fun _ => rfl, fun _ => by assumption⟩
    · split <;> constructor <;> intro q <;> omega
  · rw [h, if_neg (by omega), if_pos rfl]
    split
    · constructor <;> intro q <;> omega
    · split <;> constructor <;> intro q <;> omega
  · rw [h, if_neg (by omega), if_neg (by omega)]
    split
    · constructor <;> intro q <;> omega
    · split <;> constructor <;> intro q <;> omega
theorem q_allHold (hR : Rok R) {tc : Nat} (htc : zTm tc) {l : List TT} (hl : CTm I tc l) (hk : TOK 4 l) (va : Nat) (hva : zT va = (1, 4)) : ∀ (l' : List TT) (j : Nat) (v3 v4 v5 : ZV), l.drop j = l' → j ≤ l.length → V X call mX9_allHold 2 [zr (some tc), zr (some va), zi (j : Int), v3, v4, v5] [] (c, s, I, L, R) (fun q => q = (some (zi (zB (mAll (I va) l'))), (c, s, I, L, R))) := by
  intro l'
  have hlen := hk.1
  have rr := rr_terms hR htc
  have tt := tt_terms htc
  induction l' with
  | nil =>
    intro j v3 v4 v5 h hj
    have e := zdropn h hj
    rw [zB_t (show mAll (I va) [] from fun t ht => by cases ht), e_X9_allHold_2]
    simp (disch := omega) only [e_X9_allHold_0, e_X9_allHold_1, e_X9_allHold_3, e_X9_allHold_3x, e_X9_allHold_4, e_X9_allHold_7, e_X9_allHold_10, e_X9_allHold_11, e_X9_allHold_12, e_X9_allHold_15, e_X9_allHold_15x, e_X9_allHold_16, e_X9_allHold_19, e_X9_allHold_20, e_X9_allHold_21, e_X9_allHold_22, e_X9_allHold_23, e_X9_allHold_26, e_X9_allHold_27, e_X9_allHold_27x, e_X9_allHold_28, e_X9_allHold_29, e_X9_allHold_32, e_X9_allHold_33, e_X9_allHold_34, e_X9_allHold_34x, e_X9_allHold_35, e_X9_allHold_36, e_X9_allHold_37, e_X9_allHold_39, e_X9_allHold_41, e_X9_allHold_41x, e_X9_allHold_42, e_X9_allHold_45, e_X9_allHold_46, e_X9_allHold_47, e_X9_allHold_50, e_X9_allHold_51, e_X9_allHold_54, e_X9_allHold_56, e_X9_allHold_56x, e_X9_allHold_57, e_X9_allHold_60, e_X9_allHold_61, e_X9_allHold_62, e_X9_allHold_65, e_X9_allHold_66, e_X9_allHold_69, e_X9_allHold_70, e_X9_allHold_72, e_X9_allHold_74, e_X9_allHold_74x, e_X9_allHold_75, e_X9_allHold_78, e_X9_allHold_79, e_X9_allHold_80, e_X9_allHold_83, e_X9_allHold_84, e_X9_allHold_85, e_X9_allHold_88, e_X9_allHold_91, e_X9_allHold_92, zcll_s, zpush_s, zpush_n, zinv_i, zinv_l, zinv_r, zinv_x, zcats_nil, zcats_i, zcats_l, zcats_r, zcats_x, Nat.le_refl, and_self, true_and, and_true, zok_1, zok_20, zok_21, eq_self, Nat.reduceAdd, Nat.reduceLeDiff, Nat.zero_le, if_true, if_false, zw3_id, if_pos, if_neg, zand_t, tt.1, hl.1]
  | cons u l' ih =>
    intro j v3 v4 v5 h hj
    obtain ⟨h1, h2, h3, h4⟩ := zdrop h
    have hu := hk.2 u h4
    have hm := hl.2 j u h2
    have hs := tH_s (val := I va) hu.2.1
    rw [show zB (mAll (I va) (u :: l')) = zB (tH (I va) u ∧ mAll (I va) l') from zB_c mAll_cons, e_X9_allHold_2]
    have e1 : (j : Int) + 1 = ((j + 1 : Nat) : Int) := by omega
    by_cases hT : tH (I va) u
    · rw [show zB (tH (I va) u ∧ mAll (I va) l') = zB (mAll (I va) l') from zB_c ⟨fun q => q.2, fun q => ⟨hT, q⟩⟩]
      rw [hs] at hT
      have key := fun v3 v4 v5 => ih (j + 1) v3 v4 v5 h3 (by omega)
      by_cases c1 : I va u.1 < u.2.2
      · rw [if_pos c1] at hT
        simp (disch := omega) only [e_X9_allHold_0, e_X9_allHold_1, e_X9_allHold_3, e_X9_allHold_3x, e_X9_allHold_4, e_X9_allHold_7, e_X9_allHold_10, e_X9_allHold_11, e_X9_allHold_12, e_X9_allHold_15, e_X9_allHold_15x, e_X9_allHold_16, e_X9_allHold_19, e_X9_allHold_20, e_X9_allHold_21, e_X9_allHold_22, e_X9_allHold_23, e_X9_allHold_26, e_X9_allHold_27, e_X9_allHold_27x, e_X9_allHold_28, e_X9_allHold_29, e_X9_allHold_32, e_X9_allHold_33, e_X9_allHold_34, e_X9_allHold_34x, e_X9_allHold_35, e_X9_allHold_36, e_X9_allHold_37, e_X9_allHold_39, e_X9_allHold_41, e_X9_allHold_41x, e_X9_allHold_42, e_X9_allHold_45, e_X9_allHold_46, e_X9_allHold_47, e_X9_allHold_50, e_X9_allHold_51, e_X9_allHold_54, e_X9_allHold_56, e_X9_allHold_56x, e_X9_allHold_57, e_X9_allHold_60, e_X9_allHold_61, e_X9_allHold_62, e_X9_allHold_65, e_X9_allHold_66, e_X9_allHold_69, e_X9_allHold_70, e_X9_allHold_72, e_X9_allHold_74, e_X9_allHold_74x, e_X9_allHold_75, e_X9_allHold_78, e_X9_allHold_79, e_X9_allHold_80, e_X9_allHold_83, e_X9_allHold_84, e_X9_allHold_85, e_X9_allHold_88, e_X9_allHold_91, e_X9_allHold_92, zcll_s, zpush_s, zpush_n, zinv_i, zinv_l, zinv_r, zinv_x, zcats_nil, zcats_i, zcats_l, zcats_r, zcats_x, Nat.le_refl, and_self, true_and, and_true, zok_1, zok_20, zok_21, eq_self, Nat.reduceAdd, Nat.reduceLeDiff, Nat.zero_le, if_true, if_false, zw3_id, if_pos, if_neg, zand_t, tt.1, tt.2.1, tt.2.2.1, tt.2.2.2, rr.1, rr.2.1, rr.2.2, hva, hl.1, Int.toNat_natCast, hm.1, hm.2.1, hm.2.2]
        rw [e1]
        exact key _ _ _
      · rw [if_neg c1] at hT
        by_cases c2 : u.2.2 < I va u.1
        · rw [if_pos c2] at hT
          simp (disch := omega) only [e_X9_allHold_0, e_X9_allHold_1, e_X9_allHold_3, e_X9_allHold_3x, e_X9_allHold_4, e_X9_allHold_7, e_X9_allHold_10, e_X9_allHold_11, e_X9_allHold_12, e_X9_allHold_15, e_X9_allHold_15x, e_X9_allHold_16, e_X9_allHold_19, e_X9_allHold_20, e_X9_allHold_21, e_X9_allHold_22, e_X9_allHold_23, e_X9_allHold_26, e_X9_allHold_27, e_X9_allHold_27x, e_X9_allHold_28, e_X9_allHold_29, e_X9_allHold_32, e_X9_allHold_33, e_X9_allHold_34, e_X9_allHold_34x, e_X9_allHold_35, e_X9_allHold_36, e_X9_allHold_37, e_X9_allHold_39, e_X9_allHold_41, e_X9_allHold_41x, e_X9_allHold_42, e_X9_allHold_45, e_X9_allHold_46, e_X9_allHold_47, e_X9_allHold_50, e_X9_allHold_51, e_X9_allHold_54, e_X9_allHold_56, e_X9_allHold_56x, e_X9_allHold_57, e_X9_allHold_60, e_X9_allHold_61, e_X9_allHold_62, e_X9_allHold_65, e_X9_allHold_66, e_X9_allHold_69, e_X9_allHold_70, e_X9_allHold_72, e_X9_allHold_74, e_X9_allHold_74x, e_X9_allHold_75, e_X9_allHold_78, e_X9_allHold_79, e_X9_allHold_80, e_X9_allHold_83, e_X9_allHold_84, e_X9_allHold_85, e_X9_allHold_88, e_X9_allHold_91, e_X9_allHold_92, zcll_s, zpush_s, zpush_n, zinv_i, zinv_l, zinv_r, zinv_x, zcats_nil, zcats_i, zcats_l, zcats_r, zcats_x, Nat.le_refl, and_self, true_and, and_true, zok_1, zok_20, zok_21, eq_self, Nat.reduceAdd, Nat.reduceLeDiff, Nat.zero_le, if_true, if_false, zw3_id, if_pos, if_neg, zand_t, tt.1, tt.2.1, tt.2.2.1, tt.2.2.2, rr.1, rr.2.1, rr.2.2, hva, hl.1, Int.toNat_natCast, hm.1, hm.2.1, hm.2.2]
          rw [e1]
          exact key _ _ _
        · rw [if_neg c2] at hT
          simp (disch := omega) only [e_X9_allHold_0, e_X9_allHold_1, e_X9_allHold_3, e_X9_allHold_3x, e_X9_allHold_4, e_X9_allHold_7, e_X9_allHold_10, e_X9_allHold_11, e_X9_allHold_12, e_X9_allHold_15, e_X9_allHold_15x, e_X9_allHold_16, e_X9_allHold_19, e_X9_allHold_20, e_X9_allHold_21, e_X9_allHold_22, e_X9_allHold_23, e_X9_allHold_26, e_X9_allHold_27, e_X9_allHold_27x, e_X9_allHold_28, e_X9_allHold_29, e_X9_allHold_32, e_X9_allHold_33, e_X9_allHold_34, e_X9_allHold_34x, e_X9_allHold_35, e_X9_allHold_36, e_X9_allHold_37, e_X9_allHold_39, e_X9_allHold_41, e_X9_allHold_41x, e_X9_allHold_42, e_X9_allHold_45, e_X9_allHold_46, e_X9_allHold_47, e_X9_allHold_50, e_X9_allHold_51, e_X9_allHold_54, e_X9_allHold_56, e_X9_allHold_56x, e_X9_allHold_57, e_X9_allHold_60, e_X9_allHold_61, e_X9_allHold_62, e_X9_allHold_65, e_X9_allHold_66, e_X9_allHold_69, e_X9_allHold_70, e_X9_allHold_72, e_X9_allHold_74, e_X9_allHold_74x, e_X9_allHold_75, e_X9_allHold_78, e_X9_allHold_79, e_X9_allHold_80, e_X9_allHold_83, e_X9_allHold_84, e_X9_allHold_85, e_X9_allHold_88, e_X9_allHold_91, e_X9_allHold_92, zcll_s, zpush_s, zpush_n, zinv_i, zinv_l, zinv_r, zinv_x, zcats_nil, zcats_i, zcats_l, zcats_r, zcats_x, Nat.le_refl, and_self, true_and, and_true, zok_1, zok_20, zok_21, eq_self, Nat.reduceAdd, Nat.reduceLeDiff, Nat.zero_le, if_true, if_false, zw3_id, if_pos, if_neg, zand_t, tt.1, tt.2.1, tt.2.2.1, tt.2.2.2, rr.1, rr.2.1, rr.2.2, hva, hl.1, Int.toNat_natCast, hm.1, hm.2.1, hm.2.2]
          rw [e1]
          exact key _ _ _
    · rw [zB_f (fun q => hT q.1)]
      rw [hs] at hT
      by_cases c1 : I va u.1 < u.2.2
      · rw [if_pos c1] at hT
        simp (disch := omega) only [e_X9_allHold_0, e_X9_allHold_1, e_X9_allHold_3, e_X9_allHold_3x, e_X9_allHold_4, e_X9_allHold_7, e_X9_allHold_10, e_X9_allHold_11, e_X9_allHold_12, e_X9_allHold_15, e_X9_allHold_15x, e_X9_allHold_16, e_X9_allHold_19, e_X9_allHold_20, e_X9_allHold_21, e_X9_allHold_22, e_X9_allHold_23, e_X9_allHold_26, e_X9_allHold_27, e_X9_allHold_27x, e_X9_allHold_28, e_X9_allHold_29, e_X9_allHold_32, e_X9_allHold_33, e_X9_allHold_34, e_X9_allHold_34x, e_X9_allHold_35, e_X9_allHold_36, e_X9_allHold_37, e_X9_allHold_39, e_X9_allHold_41, e_X9_allHold_41x, e_X9_allHold_42, e_X9_allHold_45, e_X9_allHold_46, e_X9_allHold_47, e_X9_allHold_50, e_X9_allHold_51, e_X9_allHold_54, e_X9_allHold_56, e_X9_allHold_56x, e_X9_allHold_57, e_X9_allHold_60, e_X9_allHold_61, e_X9_allHold_62, e_X9_allHold_65, e_X9_allHold_66, e_X9_allHold_69, e_X9_allHold_70, e_X9_allHold_72, e_X9_allHold_74, e_X9_allHold_74x, e_X9_allHold_75, e_X9_allHold_78, e_X9_allHold_79, e_X9_allHold_80, e_X9_allHold_83, e_X9_allHold_84, e_X9_allHold_85, e_X9_allHold_88, e_X9_allHold_91, e_X9_allHold_92, zcll_s, zpush_s, zpush_n, zinv_i, zinv_l, zinv_r, zinv_x, zcats_nil, zcats_i, zcats_l, zcats_r, zcats_x, Nat.le_refl, and_self, true_and, and_true, zok_1, zok_20, zok_21, eq_self, Nat.reduceAdd, Nat.reduceLeDiff, Nat.zero_le, if_true, if_false, zw3_id, if_pos, if_neg, zand_t, tt.1, tt.2.1, tt.2.2.1, tt.2.2.2, rr.1, rr.2.1, rr.2.2, hva, hl.1, Int.toNat_natCast, hm.1, hm.2.1, hm.2.2]
      · rw [if_neg c1] at hT
        by_cases c2 : u.2.2 < I va u.1
        · rw [if_pos c2] at hT
          simp (disch := omega) only [e_X9_allHold_0, e_X9_allHold_1, e_X9_allHold_3, e_X9_allHold_3x, e_X9_allHold_4, e_X9_allHold_7, e_X9_allHold_10, e_X9_allHold_11, e_X9_allHold_12, e_X9_allHold_15, e_X9_allHold_15x, e_X9_allHold_16, e_X9_allHold_19, e_X9_allHold_20, e_X9_allHold_21, e_X9_allHold_22, e_X9_allHold_23, e_X9_allHold_26, e_X9_allHold_27, e_X9_allHold_27x, e_X9_allHold_28, e_X9_allHold_29, e_X9_allHold_32, e_X9_allHold_33, e_X9_allHold_34, e_X9_allHold_34x, e_X9_allHold_35, e_X9_allHold_36, e_X9_allHold_37, e_X9_allHold_39, e_X9_allHold_41, e_X9_allHold_41x, e_X9_allHold_42, e_X9_allHold_45, e_X9_allHold_46, e_X9_allHold_47, e_X9_allHold_50, e_X9_allHold_51, e_X9_allHold_54, e_X9_allHold_56, e_X9_allHold_56x, e_X9_allHold_57, e_X9_allHold_60, e_X9_allHold_61, e_X9_allHold_62, e_X9_allHold_65, e_X9_allHold_66, e_X9_allHold_69, e_X9_allHold_70, e_X9_allHold_72, e_X9_allHold_74, e_X9_allHold_74x, e_X9_allHold_75, e_X9_allHold_78, e_X9_allHold_79, e_X9_allHold_80, e_X9_allHold_83, e_X9_allHold_84, e_X9_allHold_85, e_X9_allHold_88, e_X9_allHold_91, e_X9_allHold_92, zcll_s, zpush_s, zpush_n, zinv_i, zinv_l, zinv_r, zinv_x, zcats_nil, zcats_i, zcats_l, zcats_r, zcats_x, Nat.le_refl, and_self, true_and, and_true, zok_1, zok_20, zok_21, eq_self, Nat.reduceAdd, Nat.reduceLeDiff, Nat.zero_le, if_true, if_false, zw3_id, if_pos, if_neg, zand_t, tt.1, tt.2.1, tt.2.2.1, tt.2.2.2, rr.1, rr.2.1, rr.2.2, hva, hl.1, Int.toNat_natCast, hm.1, hm.2.1, hm.2.2]
        · rw [if_neg c2] at hT
          simp (disch := omega) only [e_X9_allHold_0, e_X9_allHold_1, e_X9_allHold_3, e_X9_allHold_3x, e_X9_allHold_4, e_X9_allHold_7, e_X9_allHold_10, e_X9_allHold_11, e_X9_allHold_12, e_X9_allHold_15, e_X9_allHold_15x, e_X9_allHold_16, e_X9_allHold_19, e_X9_allHold_20, e_X9_allHold_21, e_X9_allHold_22, e_X9_allHold_23, e_X9_allHold_26, e_X9_allHold_27, e_X9_allHold_27x, e_X9_allHold_28, e_X9_allHold_29, e_X9_allHold_32, e_X9_allHold_33, e_X9_allHold_34, e_X9_allHold_34x, e_X9_allHold_35, e_X9_allHold_36, e_X9_allHold_37, e_X9_allHold_39, e_X9_allHold_41, e_X9_allHold_41x, e_X9_allHold_42, e_X9_allHold_45, e_X9_allHold_46, e_X9_allHold_47, e_X9_allHold_50, e_X9_allHold_51, e_X9_allHold_54, e_X9_allHold_56, e_X9_allHold_56x, e_X9_allHold_57, e_X9_allHold_60, e_X9_allHold_61, e_X9_allHold_62, e_X9_allHold_65, e_X9_allHold_66, e_X9_allHold_69, e_X9_allHold_70, e_X9_allHold_72, e_X9_allHold_74, e_X9_allHold_74x, e_X9_allHold_75, e_X9_allHold_78, e_X9_allHold_79, e_X9_allHold_80, e_X9_allHold_83, e_X9_allHold_84, e_X9_allHold_85, e_X9_allHold_88, e_X9_allHold_91, e_X9_allHold_92, zcll_s, zpush_s, zpush_n, zinv_i, zinv_l, zinv_r, zinv_x, zcats_nil, zcats_i, zcats_l, zcats_r, zcats_x, Nat.le_refl, and_self, true_and, and_true, zok_1, zok_20, zok_21, eq_self, Nat.reduceAdd, Nat.reduceLeDiff, Nat.zero_le, if_true, if_false, zw3_id, if_pos, if_neg, zand_t, tt.1, tt.2.1, tt.2.2.1, tt.2.2.2, rr.1, rr.2.1, rr.2.2, hva, hl.1, Int.toNat_natCast, hm.1, hm.2.1, hm.2.2]
theorem k_allHold (hR : Rok R) {tc : Nat} (htc : zTm tc) {l : List TT} (hl : CTm I tc l) (hk : TOK 4 l) {va : Nat} (hva : zT va = (1, 4)) : zrun X (d + 1) 76 [zr (some tc), zr (some va)] (c, s, I, L, R) = some (some (zi (zB (mAll (I va) l))), (c, s, I, L, R)) := by
  refine st_X9_allHold ?_
  simp (disch := omega) only [e_X9_allHold_0, e_X9_allHold_1, e_X9_allHold_3, e_X9_allHold_3x, e_X9_allHold_4, e_X9_allHold_7, e_X9_allHold_10, e_X9_allHold_11, e_X9_allHold_12, e_X9_allHold_15, e_X9_allHold_15x, e_X9_allHold_16, e_X9_allHold_19, e_X9_allHold_20, e_X9_allHold_21, e_X9_allHold_22, e_X9_allHold_23, e_X9_allHold_26, e_X9_allHold_27, e_X9_allHold_27x, e_X9_allHold_28, e_X9_allHold_29, e_X9_allHold_32, e_X9_allHold_33, e_X9_allHold_34, e_X9_allHold_34x, e_X9_allHold_35, e_X9_allHold_36, e_X9_allHold_37, e_X9_allHold_39, e_X9_allHold_41, e_X9_allHold_41x, e_X9_allHold_42, e_X9_allHold_45, e_X9_allHold_46, e_X9_allHold_47, e_X9_allHold_50, e_X9_allHold_51, e_X9_allHold_54, e_X9_allHold_56, e_X9_allHold_56x, e_X9_allHold_57, e_X9_allHold_60, e_X9_allHold_61, e_X9_allHold_62, e_X9_allHold_65, e_X9_allHold_66, e_X9_allHold_69, e_X9_allHold_70, e_X9_allHold_72, e_X9_allHold_74, e_X9_allHold_74x, e_X9_allHold_75, e_X9_allHold_78, e_X9_allHold_79, e_X9_allHold_80, e_X9_allHold_83, e_X9_allHold_84, e_X9_allHold_85, e_X9_allHold_88, e_X9_allHold_91, e_X9_allHold_92, zcll_s, zpush_s, zpush_n, zinv_i, zinv_l, zinv_r, zinv_x, zcats_nil, zcats_i, zcats_l, zcats_r, zcats_x, Nat.le_refl, and_self, true_and, and_true, zok_1, zok_20, zok_21, eq_self, Nat.reduceAdd, Nat.reduceLeDiff, Nat.zero_le, if_true, if_false, zw3_id, if_pos, if_neg, zand_t]
  exact q_allHold (X := X) (call := zrun X d) hR htc hl hk va hva l 0 _ _ _ rfl (by omega)
theorem q_change (hR : Rok R) {tc : Nat} (htc : zTm tc) {l : List TT} (hl : CTm I tc l) {vs : List MV} (hn4 : vs.length ≤ 4) (hV : VOK vs) (hk : TOK vs.length l) {mo : Nat} (hmo : zT mo = (1, 4)) (hmg : ∀ v, v < vs.length → I mo v = mg vs v) (hd1 : tc ≠ 268) (hd2 : tc + 1 ≠ 268) (hd3 : tc + 2 ≠ 268) (hd4 : tc + 3 ≠ 268) (hd5 : mo ≠ 268) {Q : Option ZV × ZS → Prop} : ∀ (l' : List TT) (j : Nat) (f : Nat → Int) (v4 v5 : ZV), l.drop j = l' → j ≤ l.length → mIn vs f 0 → Q (none, (c, s, zW I 268 (mEff (mg vs) l' f), L, R)) → V X call mX9_change 2 [zr (some tc), zr (some 268), zr (some mo), zi (j : Int), v4, v5] [] (c, s, zW I 268 f, L, R) Q := by
  intro l'
  have hlen := hk.1
  have rr := rr_terms hR htc
  have tt := tt_terms htc
  induction l' with
  | nil =>
    intro j f v4 v5 h hj hi hQ
    have e := zdropn h hj
    rw [e_X9_change_2]
    simp (disch := omega) only [e_X9_change_0, e_X9_change_1, e_X9_change_3, e_X9_change_3x, e_X9_change_4, e_X9_change_7, e_X9_change_10, e_X9_change_11, e_X9_change_12, e_X9_change_15, e_X9_change_15x, e_X9_change_16, e_X9_change_19, e_X9_change_20, e_X9_change_21, e_X9_change_23, e_X9_change_25, e_X9_change_28, e_X9_change_30, e_X9_change_30x, e_X9_change_31, e_X9_change_32, e_X9_change_35, e_X9_change_37, e_X9_change_37x, e_X9_change_38, e_X9_change_39, e_X9_change_42, e_X9_change_42x, e_X9_change_43, e_X9_change_46, e_X9_change_47, e_X9_change_48, e_X9_change_51, e_X9_change_51x, e_X9_change_52, e_X9_change_55, e_X9_change_56, e_X9_change_57, e_X9_change_60, e_X9_change_60x, e_X9_change_61, e_X9_change_63, e_X9_change_64, e_X9_change_64x, e_X9_change_65, e_X9_change_68, e_X9_change_69, e_X9_change_70, e_X9_change_70x, e_X9_change_71, e_X9_change_74, e_X9_change_75, e_X9_change_76, e_X9_change_77, e_X9_change_78, e_X9_change_80, e_X9_change_80x, e_X9_change_81, e_X9_change_83, e_X9_change_84, e_X9_change_84x, e_X9_change_85, e_X9_change_87, e_X9_change_88, e_X9_change_90, e_X9_change_93, e_X9_change_96, e_X9_change_97, e_X9_change_100, e_X9_change_103, zcll_s, zpush_s, zpush_n, zinv_i, zinv_l, zinv_r, zinv_x, zcats_nil, zcats_i, zcats_l, zcats_r, zcats_x, Nat.le_refl, and_self, true_and, and_true, zok_1, zok_20, zok_21, eq_self, Nat.reduceAdd, Nat.reduceLeDiff, Nat.zero_le, if_true, if_false, zw3_id, if_pos, if_neg, zand_t, tt.1, zW_n, hl.1]
    exact hQ
  | cons u l' ih =>
    intro j f v4 v5 h hj hi hQ
    obtain ⟨h1, h2, h3, h4⟩ := zdrop h
    have hu := hk.2 u h4
    have hm := hl.2 j u h2
    have e1 : (j : Int) + 1 = ((j + 1 : Nat) : Int) := by omega
    have hfi := hi u.1 hu.1
    rw [Nat.zero_add] at hfi
    have hgi := mg_nn hV u.1
    have hg := hmg u.1 hu.1
    have key : ∀ (y : Int) (v4 v5 : ZV), y = mcl (mg vs u.1) (if u.2.1 = 0 then u.2.2 else f u.1 + u.2.1 * u.2.2) → V X call mX9_change 2 [zr (some tc), zr (some 268), zr (some mo), zi ((j : Int) + 1), v4, v5] [] (c, s, zW I 268 (fun k => if k = u.1 then y else f k), L, R) Q := by
      intro y v4 v5 hy
      have e2 : (fun k => if k = u.1 then y else f k) = tE (mg vs) u f := by
        funext k
        unfold tE
        by_cases hk : k = u.1
        · rw [if_pos hk, if_pos hk, hy, hk]
        · rw [if_neg hk, if_neg hk]
      rw [e1, e2]
      exact ih (j + 1) (tE (mg vs) u f) v4 v5 h3 (by omega) (mIn_E hV hi u) hQ
    rw [e_X9_change_2]
    have hcl : ∀ n : Int, mcl (mg vs u.1) n = if n < 0 then 0 else if mg vs u.1 < n then mg vs u.1 else n := fun n => rfl
    rcases hu.2.1 with hs | hs | hs
    · have e5 : (if u.2.1 = 0 then u.2.2 else f u.1 + u.2.1 * u.2.2) = f u.1 + -1 * u.2.2 := by rw [if_neg (by omega), hs]
      rw [e5, hcl] at key
      simp (disch := omega) only [e_X9_change_0, e_X9_change_1, e_X9_change_3, e_X9_change_3x, e_X9_change_4, e_X9_change_7, e_X9_change_10, e_X9_change_11, e_X9_change_12, e_X9_change_15, e_X9_change_15x, e_X9_change_16, e_X9_change_19, e_X9_change_20, e_X9_change_21, e_X9_change_23, e_X9_change_25, e_X9_change_28, e_X9_change_30, e_X9_change_30x, e_X9_change_31, e_X9_change_32, e_X9_change_35, e_X9_change_37, e_X9_change_37x, e_X9_change_38, e_X9_change_39, e_X9_change_42, e_X9_change_42x, e_X9_change_43, e_X9_change_46, e_X9_change_47, e_X9_change_48, e_X9_change_51, e_X9_change_51x, e_X9_change_52, e_X9_change_55, e_X9_change_56, e_X9_change_57, e_X9_change_60, e_X9_change_60x, e_X9_change_61, e_X9_change_63, e_X9_change_64, e_X9_change_64x, e_X9_change_65, e_X9_change_68, e_X9_change_69, e_X9_change_70, e_X9_change_70x, e_X9_change_71, e_X9_change_74, e_X9_change_75, e_X9_change_76, e_X9_change_77, e_X9_change_78, e_X9_change_80, e_X9_change_80x, e_X9_change_81, e_X9_change_83, e_X9_change_84, e_X9_change_84x, e_X9_change_85, e_X9_change_87, e_X9_change_88, e_X9_change_90, e_X9_change_93, e_X9_change_96, e_X9_change_97, e_X9_change_100, e_X9_change_103, zcll_s, zpush_s, zpush_n, zinv_i, zinv_l, zinv_r, zinv_x, zcats_nil, zcats_i, zcats_l, zcats_r, zcats_x, Nat.le_refl, and_self, true_and, and_true, zok_1, zok_20, zok_21, eq_self, Nat.reduceAdd, Nat.reduceLeDiff, Nat.zero_le, if_true, if_false, zw3_id, if_pos, if_neg, zand_t, tg_268, tn_268, tt.1, tt.2.1, tt.2.2.1, tt.2.2.2, rr.1, rr.2.1, rr.2.2, hmo, zW_n, zW_s, zu_W, zW_W, hl.1, Int.toNat_natCast, hm.1, hm.2.1, hm.2.2, hs, hg]
      refine key _ _ _ ?_
      (repeat' split) <;> omega
    · have e5 : (if u.2.1 = 0 then u.2.2 else f u.1 + u.2.1 * u.2.2) = u.2.2 := by rw [if_pos hs]
      rw [e5, hcl] at key
      simp (disch := omega) only [e_X9_change_0, e_X9_change_1, e_X9_change_3, e_X9_change_3x, e_X9_change_4, e_X9_change_7, e_X9_change_10, e_X9_change_11, e_X9_change_12, e_X9_change_15, e_X9_change_15x, e_X9_change_16, e_X9_change_19, e_X9_change_20, e_X9_change_21, e_X9_change_23, e_X9_change_25, e_X9_change_28, e_X9_change_30, e_X9_change_30x, e_X9_change_31, e_X9_change_32, e_X9_change_35, e_X9_change_37, e_X9_change_37x, e_X9_change_38, e_X9_change_39, e_X9_change_42, e_X9_change_42x, e_X9_change_43, e_X9_change_46, e_X9_change_47, e_X9_change_48, e_X9_change_51, e_X9_change_51x, e_X9_change_52, e_X9_change_55, e_X9_change_56, e_X9_change_57, e_X9_change_60, e_X9_change_60x, e_X9_change_61, e_X9_change_63, e_X9_change_64, e_X9_change_64x, e_X9_change_65, e_X9_change_68, e_X9_change_69, e_X9_change_70, e_X9_change_70x, e_X9_change_71, e_X9_change_74, e_X9_change_75, e_X9_change_76, e_X9_change_77, e_X9_change_78, e_X9_change_80, e_X9_change_80x, e_X9_change_81, e_X9_change_83, e_X9_change_84, e_X9_change_84x, e_X9_change_85, e_X9_change_87, e_X9_change_88, e_X9_change_90, e_X9_change_93, e_X9_change_96, e_X9_change_97, e_X9_change_100, e_X9_change_103, zcll_s, zpush_s, zpush_n, zinv_i, zinv_l, zinv_r, zinv_x, zcats_nil, zcats_i, zcats_l, zcats_r, zcats_x, Nat.le_refl, and_self, true_and, and_true, zok_1, zok_20, zok_21, eq_self, Nat.reduceAdd, Nat.reduceLeDiff, Nat.zero_le, if_true, if_false, zw3_id, if_pos, if_neg, zand_t, tg_268, tn_268, tt.1, tt.2.1, tt.2.2.1, tt.2.2.2, rr.1, rr.2.1, rr.2.2, hmo, zW_n, zW_s, zu_W, zW_W, hl.1, Int.toNat_natCast, hm.1, hm.2.1, hm.2.2, hs, hg]
      refine key _ _ _ ?_
      (repeat' split) <;> omega
    · have e5 : (if u.2.1 = 0 then u.2.2 else f u.1 + u.2.1 * u.2.2) = f u.1 + 1 * u.2.2 := by rw [if_neg (by omega), hs]
      rw [e5, hcl] at key
      simp (disch := omega) only [e_X9_change_0, e_X9_change_1, e_X9_change_3, e_X9_change_3x, e_X9_change_4, e_X9_change_7, e_X9_change_10, e_X9_change_11, e_X9_change_12, e_X9_change_15, e_X9_change_15x, e_X9_change_16, e_X9_change_19, e_X9_change_20, e_X9_change_21, e_X9_change_23, e_X9_change_25, e_X9_change_28, e_X9_change_30, e_X9_change_30x, e_X9_change_31, e_X9_change_32, e_X9_change_35, e_X9_change_37, e_X9_change_37x, e_X9_change_38, e_X9_change_39, e_X9_change_42, e_X9_change_42x, e_X9_change_43, e_X9_change_46, e_X9_change_47, e_X9_change_48, e_X9_change_51, e_X9_change_51x, e_X9_change_52, e_X9_change_55, e_X9_change_56, e_X9_change_57, e_X9_change_60, e_X9_change_60x, e_X9_change_61, e_X9_change_63, e_X9_change_64, e_X9_change_64x, e_X9_change_65, e_X9_change_68, e_X9_change_69, e_X9_change_70, e_X9_change_70x, e_X9_change_71, e_X9_change_74, e_X9_change_75, e_X9_change_76, e_X9_change_77, e_X9_change_78, e_X9_change_80, e_X9_change_80x, e_X9_change_81, e_X9_change_83, e_X9_change_84, e_X9_change_84x, e_X9_change_85, e_X9_change_87, e_X9_change_88, e_X9_change_90, e_X9_change_93, e_X9_change_96, e_X9_change_97, e_X9_change_100, e_X9_change_103, zcll_s, zpush_s, zpush_n, zinv_i, zinv_l, zinv_r, zinv_x, zcats_nil, zcats_i, zcats_l, zcats_r, zcats_x, Nat.le_refl, and_self, true_and, and_true, zok_1, zok_20, zok_21, eq_self, Nat.reduceAdd, Nat.reduceLeDiff, Nat.zero_le, if_true, if_false, zw3_id, if_pos, if_neg, zand_t, tg_268, tn_268, tt.1, tt.2.1, tt.2.2.1, tt.2.2.2, rr.1, rr.2.1, rr.2.2, hmo, zW_n, zW_s, zu_W, zW_W, hl.1, Int.toNat_natCast, hm.1, hm.2.1, hm.2.2, hs, hg]
      refine key _ _ _ ?_
      (repeat' split) <;> omega
theorem k_change (hR : Rok R) {tc : Nat} (htc : zTm tc) {l : List TT} (hl : CTm I tc l) {vs : List MV} (hn4 : vs.length ≤ 4) (hV : VOK vs) (hk : TOK vs.length l) {mo : Nat} (hmo : zT mo = (1, 4)) (hmg : ∀ v, v < vs.length → I mo v = mg vs v) (hd1 : tc ≠ 268) (hd2 : tc + 1 ≠ 268) (hd3 : tc + 2 ≠ 268) (hd4 : tc + 3 ≠ 268) (hd5 : mo ≠ 268) (hi : mIn vs f 0) : zrun X (d + 1) 77 [zr (some tc), zr (some 268), zr (some mo)] (c, s, zW I 268 f, L, R) = some (none, (c, s, zW I 268 (mEff (mg vs) l f), L, R)) := by
  refine st_X9_change ?_
  simp (disch := omega) only [e_X9_change_0, e_X9_change_1, e_X9_change_3, e_X9_change_3x, e_X9_change_4, e_X9_change_7, e_X9_change_10, e_X9_change_11, e_X9_change_12, e_X9_change_15, e_X9_change_15x, e_X9_change_16, e_X9_change_19, e_X9_change_20, e_X9_change_21, e_X9_change_23, e_X9_change_25, e_X9_change_28, e_X9_change_30, e_X9_change_30x, e_X9_change_31, e_X9_change_32, e_X9_change_35, e_X9_change_37, e_X9_change_37x, e_X9_change_38, e_X9_change_39, e_X9_change_42, e_X9_change_42x, e_X9_change_43, e_X9_change_46, e_X9_change_47, e_X9_change_48, e_X9_change_51, e_X9_change_51x, e_X9_change_52, e_X9_change_55, e_X9_change_56, e_X9_change_57, e_X9_change_60, e_X9_change_60x, e_X9_change_61, e_X9_change_63, e_X9_change_64, e_X9_change_64x, e_X9_change_65, e_X9_change_68, e_X9_change_69, e_X9_change_70, e_X9_change_70x, e_X9_change_71, e_X9_change_74, e_X9_change_75, e_X9_change_76, e_X9_change_77, e_X9_change_78, e_X9_change_80, e_X9_change_80x, e_X9_change_81, e_X9_change_83, e_X9_change_84, e_X9_change_84x, e_X9_change_85, e_X9_change_87, e_X9_change_88, e_X9_change_90, e_X9_change_93, e_X9_change_96, e_X9_change_97, e_X9_change_100, e_X9_change_103, zcll_s, zpush_s, zpush_n, zinv_i, zinv_l, zinv_r, zinv_x, zcats_nil, zcats_i, zcats_l, zcats_r, zcats_x, Nat.le_refl, and_self, true_and, and_true, zok_1, zok_20, zok_21, eq_self, Nat.reduceAdd, Nat.reduceLeDiff, Nat.zero_le, if_true, if_false, zw3_id, if_pos, if_neg, zand_t]
  exact q_change (X := X) (call := zrun X d) hR htc hl hn4 hV hk hmo hmg hd1 hd2 hd3 hd4 hd5 l 0 f _ _ rfl (by omega) hi rfl
theorem q_names (hR : Rok R) {tc : Nat} (htc : zTm tc) {l : List TT} (hl : CTm I tc l) (hlen : l.length ≤ 3) (v : Int) : ∀ (l' : List TT) (j : Nat), l.drop j = l' → j ≤ l.length → V X call mX9_names 2 [zr (some tc), zi v, zi (j : Int)] [] (c, s, I, L, R) (fun q => q = (some (zi (zB (mNm v l'))), (c, s, I, L, R))) := by
  intro l'
  have rr := rr_terms hR htc
  have tt := tt_terms htc
  induction l' with
  | nil =>
    intro j h hj
    have e := zdropn h hj
    rw [zB_f (show ¬ mNm v [] from fun ⟨_, hu, _⟩ => nomatch hu), e_X9_names_2]
    simp (disch := omega) only [e_X9_names_0, e_X9_names_1, e_X9_names_3, e_X9_names_3x, e_X9_names_4, e_X9_names_7, e_X9_names_10, e_X9_names_11, e_X9_names_12, e_X9_names_15, e_X9_names_15x, e_X9_names_16, e_X9_names_19, e_X9_names_20, e_X9_names_21, e_X9_names_22, e_X9_names_25, e_X9_names_26, e_X9_names_27, e_X9_names_30, e_X9_names_33, e_X9_names_34, zcll_s, zpush_s, zpush_n, zinv_i, zinv_l, zinv_r, zinv_x, zcats_nil, zcats_i, zcats_l, zcats_r, zcats_x, Nat.le_refl, and_self, true_and, and_true, zok_1, zok_20, zok_21, eq_self, Nat.reduceAdd, Nat.reduceLeDiff, Nat.zero_le, if_true, if_false, zw3_id, if_pos, if_neg, zand_t, tt.1, hl.1]
  | cons u l' ih =>
    intro j h hj
    obtain ⟨h1, h2, h3, h4⟩ := zdrop h
    have hm := hl.2 j u h2
    rw [show zB (mNm v (u :: l')) = zB ((u.1 : Int) = v ∨ mNm v l') from zB_c mNm_cons, e_X9_names_2]
    have e1 : (j : Int) + 1 = ((j + 1 : Nat) : Int) := by omega
    by_cases hv : (u.1 : Int) = v
    · rw [zB_t (Or.inl hv)]
      simp (disch := omega) only [e_X9_names_0, e_X9_names_1, e_X9_names_3, e_X9_names_3x, e_X9_names_4, e_X9_names_7, e_X9_names_10, e_X9_names_11, e_X9_names_12, e_X9_names_15, e_X9_names_15x, e_X9_names_16, e_X9_names_19, e_X9_names_20, e_X9_names_21, e_X9_names_22, e_X9_names_25, e_X9_names_26, e_X9_names_27, e_X9_names_30, e_X9_names_33, e_X9_names_34, zcll_s, zpush_s, zpush_n, zinv_i, zinv_l, zinv_r, zinv_x, zcats_nil, zcats_i, zcats_l, zcats_r, zcats_x, Nat.le_refl, and_self, true_and, and_true, zok_1, zok_20, zok_21, eq_self, Nat.reduceAdd, Nat.reduceLeDiff, Nat.zero_le, if_true, if_false, zw3_id, if_pos, if_neg, zand_t, tt.1, tt.2.1, rr.1, hl.1, Int.toNat_natCast, hm.1]
    · rw [show zB ((u.1 : Int) = v ∨ mNm v l') = zB (mNm v l') from zB_c ⟨fun q => q.elim (fun z => absurd z hv) id, Or.inr⟩]
      simp (disch := omega) only [e_X9_names_0, e_X9_names_1, e_X9_names_3, e_X9_names_3x, e_X9_names_4, e_X9_names_7, e_X9_names_10, e_X9_names_11, e_X9_names_12, e_X9_names_15, e_X9_names_15x, e_X9_names_16, e_X9_names_19, e_X9_names_20, e_X9_names_21, e_X9_names_22, e_X9_names_25, e_X9_names_26, e_X9_names_27, e_X9_names_30, e_X9_names_33, e_X9_names_34, zcll_s, zpush_s, zpush_n, zinv_i, zinv_l, zinv_r, zinv_x, zcats_nil, zcats_i, zcats_l, zcats_r, zcats_x, Nat.le_refl, and_self, true_and, and_true, zok_1, zok_20, zok_21, eq_self, Nat.reduceAdd, Nat.reduceLeDiff, Nat.zero_le, if_true, if_false, zw3_id, if_pos, if_neg, zand_t, tt.1, tt.2.1, rr.1, hl.1, Int.toNat_natCast, hm.1]
      rw [e1]
      exact ih (j + 1) h3 (by omega)
theorem k_names (hR : Rok R) {tc : Nat} (htc : zTm tc) {l : List TT} (hl : CTm I tc l) (hlen : l.length ≤ 3) (v : Int) : zrun X (d + 1) 78 [zr (some tc), zi v] (c, s, I, L, R) = some (some (zi (zB (mNm v l))), (c, s, I, L, R)) := by
  refine st_X9_names ?_
  simp (disch := omega) only [e_X9_names_0, e_X9_names_1, e_X9_names_3, e_X9_names_3x, e_X9_names_4, e_X9_names_7, e_X9_names_10, e_X9_names_11, e_X9_names_12, e_X9_names_15, e_X9_names_15x, e_X9_names_16, e_X9_names_19, e_X9_names_20, e_X9_names_21, e_X9_names_22, e_X9_names_25, e_X9_names_26, e_X9_names_27, e_X9_names_30, e_X9_names_33, e_X9_names_34, zcll_s, zpush_s, zpush_n, zinv_i, zinv_l, zinv_r, zinv_x, zcats_nil, zcats_i, zcats_l, zcats_r, zcats_x, Nat.le_refl, and_self, true_and, and_true, zok_1, zok_20, zok_21, eq_self, Nat.reduceAdd, Nat.reduceLeDiff, Nat.zero_le, if_true, if_false, zw3_id, if_pos, if_neg, zand_t]
  exact q_names (X := X) (call := zrun X d) hR htc hl hlen v l 0 rfl (by omega)
end
