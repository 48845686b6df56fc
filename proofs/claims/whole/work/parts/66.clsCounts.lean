/-! The class: counts. -/
section
variable {X : ZX} {d c s : Nat} {I L I1 L1 I2 L2 : ZI} {R : ZR} {call : ZC} {w b : Nat} {M : MD} {f : Nat → Int} {x t : Int} {B : Prop}
def zbit (x : Int) (k : Nat) : Bool := (Int64.ofInt x).toBitVec.getLsbD (k % 64)
theorem zshl6_p : ∀ k, k < 64 → (Int64.ofInt (zshl6 1 ((k : Nat) : Int))).toBitVec = BitVec.twoPow 64 k := by decide +kernel
theorem zshl6_m : ∀ q, q < 157 → ∀ k, k < 64 → zshl6 1 ((64 * q + k : Nat) : Int) = zshl6 1 ((k : Nat) : Int) := by decide +kernel
theorem zshr3_6 : ∀ q, q < 157 → ∀ k, k < 64 → zshr3 ((64 * q + k : Nat) : Int) 6 = ((q : Nat) : Int) := by decide +kernel
theorem zshl6_t {k : Nat} (hk : k < 10000) : (Int64.ofInt (zshl6 1 (k : Int))).toBitVec = BitVec.twoPow 64 (k % 64) := by
  have e := zshl6_m (k / 64) (by omega) (k % 64) (by omega)
  rw [show 64 * (k / 64) + k % 64 = k by omega] at e
  rw [e]
  exact zshl6_p (k % 64) (by omega)
theorem zshr3_t {k : Nat} (hk : k < 10000) : zshr3 (k : Int) 6 = ((k / 64 : Nat) : Int) := by
  have e := zshr3_6 (k / 64) (by omega) (k % 64) (by omega)
  rw [show 64 * (k / 64) + k % 64 = k by omega] at e
  exact e
theorem zbit_and {x : Int} {k : Nat} (hk : k < 10000) : zand6 x (zshl6 1 (k : Int)) = 0 ↔ zbit x k = false := by
  unfold zand6 zbit
  have e : (Int64.ofInt x &&& Int64.ofInt (zshl6 1 (k : Int))).toBitVec = (Int64.ofInt x).toBitVec &&& BitVec.twoPow 64 (k % 64) := by
    rw [Int64.toBitVec_and, zshl6_t hk]
  rw [show (Int64.ofInt x &&& Int64.ofInt (zshl6 1 (k : Int))).toInt = (Int64.ofInt x &&& Int64.ofInt (zshl6 1 (k : Int))).toBitVec.toInt from rfl, e, BitVec.and_twoPow]
  cases h : (Int64.ofInt x).toBitVec.getLsbD (k % 64) with
  | false => simp
  | true =>
    constructor
    · intro q
      have h1 : BitVec.twoPow 64 (k % 64) = 0#64 := by
        apply BitVec.eq_of_toInt_eq
        simpa using q
      have h2 : (BitVec.twoPow 64 (k % 64)).getLsbD (k % 64) = true := by
        rw [BitVec.getLsbD_twoPow]
        simp
        omega
      rw [h1] at h2
      simp at h2
    · intro q; cases q
theorem zbit_or {x : Int} {k j : Nat} (hk : k < 10000) : zbit (zor6 x (zshl6 1 (k : Int))) j = (zbit x j || decide (k % 64 = j % 64)) := by
  unfold zor6 zbit
  rw [zq_v6, Int64.toBitVec_or, zshl6_t hk, BitVec.getLsbD_or, BitVec.getLsbD_twoPow]
  have : k % 64 < 64 := by omega
  simp [this]
theorem zbit_0 {k : Nat} : zbit 0 k = false := by
  unfold zbit
  rw [show (Int64.ofInt 0).toBitVec = 0#64 from by decide]
  simp
/-- the class's counts are κ -/
def CtC (I L : ZI) (κ : CT) : Prop := I 275 1 = κ.1 ∧ I 275 2 = κ.2.1 ∧ I 275 3 = κ.2.2.1 ∧ I 275 4 = κ.2.2.2.1 ∧ I 275 5 = κ.2.2.2.2.1 ∧ ∀ k, k < 10000 → (zbit (L 276 (k / 64)) k = true ↔ κ.2.2.2.2.2 k ≠ 0)
/-- nothing but the counts' cells is written -/
def KC (I L I1 L1 : ZI) : Prop := (∀ a, a ≠ 275 → I1 a = I a) ∧ ∀ a, a ≠ 276 → L1 a = L a
theorem k_clearC (hR : Rok R) : ∃ I1 L1, zrun X (d + 2) 1 [zr (some 275)] (c, s, I, L, R) = some (none, (c, s, I1, L1, R)) ∧ KC I L I1 L1 ∧ CtC I1 L1 (ct0 (-1) (-1)) := by
  obtain ⟨g, g1, g2⟩ := k_fillL (X := X) (d := d) (c := c) (s := s) (I := I) (L := L) (R := R) (a := 276) (n := 157) (by decide +kernel) (by omega) 0
  refine ⟨zu (zu (zu (zu (zu I 275 1 (-1)) 275 2 (-1)) 275 3 0) 275 4 0) 275 5 0, zW L 276 g, st_X0_clear ?_, ?_, ?_⟩
  · simp (disch := omega) only [e_X0_clear_0, e_X0_clear_0x, e_X0_clear_1, e_X0_clear_4, e_X0_clear_5, e_X0_clear_8, e_X0_clear_8x, e_X0_clear_9, e_X0_clear_10, e_X0_clear_13, e_X0_clear_13x, e_X0_clear_14, e_X0_clear_15, e_X0_clear_18, e_X0_clear_18x, e_X0_clear_19, e_X0_clear_20, e_X0_clear_23, e_X0_clear_23x, e_X0_clear_24, e_X0_clear_25, e_X0_clear_28, e_X0_clear_28x, e_X0_clear_29, e_X0_clear_30, e_X0_clear_33, zcll_s, zpush_s, zpush_n, zinv_i, zinv_l, zinv_r, zinv_x, zcats_nil, zcats_i, zcats_l, zcats_r, zcats_x, Nat.le_refl, and_self, true_and, and_true, zok_1, zok_20, zok_21, eq_self, Nat.reduceAdd, Nat.reduceLeDiff, Nat.zero_le, if_true, if_false, zw3_id, if_pos, if_neg, zand_t, tg_275, rr_275_0 hR, g1]
  · refine ⟨fun a ha => ?_, fun a ha => zW_n ha⟩
    rw [zu_n ha, zu_n ha, zu_n ha, zu_n ha, zu_n ha]
  · refine ⟨?_, ?_, ?_, ?_, ?_, ?_⟩
    · rw [zu_k (by omega), zu_k (by omega), zu_k (by omega), zu_k (by omega), zu_s]; rfl
    · rw [zu_k (by omega), zu_k (by omega), zu_k (by omega), zu_s]; rfl
    · rw [zu_k (by omega), zu_k (by omega), zu_s]; rfl
    · rw [zu_k (by omega), zu_s]; rfl
    · rw [zu_s]; rfl
    · intro k hk
      rw [zW_s, g2 (k / 64) (by omega), zbit_0]
      exact ⟨fun q => Bool.noConfusion q, fun q => absurd rfl q⟩
theorem KC_t (h1 : KC I L I1 L1) (h2 : KC I1 L1 I2 L2) : KC I L I2 L2 := ⟨fun a q => (h2.1 a q).trans (h1.1 a q), fun a q => (h2.2 a q).trans (h1.2 a q)⟩
theorem KC_r : KC I L I L := ⟨fun _ _ => rfl, fun _ _ => rfl⟩
theorem k_turnTo (hR : Rok R) {κ : CT} (h : CtC I L κ) (g n : Int) : ∃ I1 L1, zrun X (d + 3) 2 [zr (some 275), zi g, zi n] (c, s, I, L, R) = some (none, (c, s, I1, L1, R)) ∧ KC I L I1 L1 ∧ CtC I1 L1 (mTurn g n κ) := by
  unfold mTurn
  by_cases hs : g = κ.1 ∧ n = κ.2.1
  · rw [if_pos hs]
    have e1 : I 275 1 = g := by rw [hs.1]; exact h.1
    have e2 : I 275 2 = n := by rw [hs.2]; exact h.2.1
    refine ⟨I, L, st_X0_turnTo ?_, KC_r, h⟩
    simp (disch := omega) only [e_X0_turnTo_0, e_X0_turnTo_1, e_X0_turnTo_1x, e_X0_turnTo_2, e_X0_turnTo_5, e_X0_turnTo_8, e_X0_turnTo_9, e_X0_turnTo_9x, e_X0_turnTo_10, e_X0_turnTo_13, e_X0_turnTo_16, e_X0_turnTo_16x, e_X0_turnTo_17, e_X0_turnTo_20, e_X0_turnTo_20x, e_X0_turnTo_21, e_X0_turnTo_22, e_X0_turnTo_25, e_X0_turnTo_25x, e_X0_turnTo_26, e_X0_turnTo_27, e_X0_turnTo_30, zcll_s, zpush_s, zpush_n, zinv_i, zinv_l, zinv_r, zinv_x, zcats_nil, zcats_i, zcats_l, zcats_r, zcats_x, Nat.le_refl, and_self, true_and, and_true, zok_1, zok_20, zok_21, eq_self, Nat.reduceAdd, Nat.reduceLeDiff, Nat.zero_le, if_true, if_false, zw3_id, if_pos, if_neg, zand_t, tg_275, e1, e2]
  · rw [if_neg hs]
    obtain ⟨I1, L1, p1, p2, p3⟩ := k_clearC (X := X) (d := d) (c := c) (s := s) (I := I) (L := L) hR
    have hc2 : CtC (zu (zu I1 275 1 g) 275 2 n) L1 (ct0 g n) := by
      refine ⟨?_, ?_, ?_, ?_, ?_, p3.2.2.2.2.2⟩
      · rw [zu_k (by omega), zu_s]; rfl
      · rw [zu_s]; rfl
      · rw [zu_k (by omega), zu_k (by omega)]; exact p3.2.2.1
      · rw [zu_k (by omega), zu_k (by omega)]; exact p3.2.2.2.1
      · rw [zu_k (by omega), zu_k (by omega)]; exact p3.2.2.2.2.1
    have hK : KC I L (zu (zu I1 275 1 g) 275 2 n) L1 := KC_t p2 ⟨fun a ha => by rw [zu_n ha, zu_n ha], fun _ _ => rfl⟩
    refine ⟨_, _, st_X0_turnTo ?_, hK, hc2⟩
    have e1 := h.1
    have e2 := h.2.1
    by_cases hg : g = κ.1
    · have hn : n ≠ κ.2.1 := fun q => hs ⟨hg, q⟩
      simp (disch := omega) only [e_X0_turnTo_0, e_X0_turnTo_1, e_X0_turnTo_1x, e_X0_turnTo_2, e_X0_turnTo_5, e_X0_turnTo_8, e_X0_turnTo_9, e_X0_turnTo_9x, e_X0_turnTo_10, e_X0_turnTo_13, e_X0_turnTo_16, e_X0_turnTo_16x, e_X0_turnTo_17, e_X0_turnTo_20, e_X0_turnTo_20x, e_X0_turnTo_21, e_X0_turnTo_22, e_X0_turnTo_25, e_X0_turnTo_25x, e_X0_turnTo_26, e_X0_turnTo_27, e_X0_turnTo_30, zcll_s, zpush_s, zpush_n, zinv_i, zinv_l, zinv_r, zinv_x, zcats_nil, zcats_i, zcats_l, zcats_r, zcats_x, Nat.le_refl, and_self, true_and, and_true, zok_1, zok_20, zok_21, eq_self, Nat.reduceAdd, Nat.reduceLeDiff, Nat.zero_le, if_true, if_false, zw3_id, if_pos, if_neg, zand_t, tg_275, e1, e2, p1]
    · simp (disch := omega) only [e_X0_turnTo_0, e_X0_turnTo_1, e_X0_turnTo_1x, e_X0_turnTo_2, e_X0_turnTo_5, e_X0_turnTo_8, e_X0_turnTo_9, e_X0_turnTo_9x, e_X0_turnTo_10, e_X0_turnTo_13, e_X0_turnTo_16, e_X0_turnTo_16x, e_X0_turnTo_17, e_X0_turnTo_20, e_X0_turnTo_20x, e_X0_turnTo_21, e_X0_turnTo_22, e_X0_turnTo_25, e_X0_turnTo_25x, e_X0_turnTo_26, e_X0_turnTo_27, e_X0_turnTo_30, zcll_s, zpush_s, zpush_n, zinv_i, zinv_l, zinv_r, zinv_x, zcats_nil, zcats_i, zcats_l, zcats_r, zcats_x, Nat.le_refl, and_self, true_and, and_true, zok_1, zok_20, zok_21, eq_self, Nat.reduceAdd, Nat.reduceLeDiff, Nat.zero_le, if_true, if_false, zw3_id, if_pos, if_neg, zand_t, tg_275, e1, e2, p1]
/-- counts with the block b taken -/
def mTake (n : Nat) (κ : CT) : CT := (κ.1, κ.2.1, zw3 (κ.2.2.1 + 1), κ.2.2.2.1, κ.2.2.2.2.1, fun k => if k = n then 1 else κ.2.2.2.2.2 k)
theorem k_takes (hR : Rok R) {κ : CT} (h : CtC I L κ) (n : Int) (h0 : 0 ≤ n) (h1 : n < 10000) : ∃ I1 L1, zrun X (d + 1) 3 [zr (some 275), zi n] (c, s, I, L, R) = some (some (zi (if κ.2.2.2.2.2 n.toNat = 0 then 1 else 0)), (c, s, I1, L1, R)) ∧ KC I L I1 L1 ∧ CtC I1 L1 (if κ.2.2.2.2.2 n.toNat = 0 then mTake n.toNat κ else κ) := by
  obtain ⟨n, rfl⟩ := Int.eq_ofNat_of_zero_le h0
  rw [Int.toNat_natCast]
  have hn : n < 10000 := by omega
  have e1 := zshr3_t hn
  have e2 := zbit_and (x := L 276 (n / 64)) hn
  have e3 := h.2.2.2.2.2 n hn
  by_cases hs : κ.2.2.2.2.2 n = 0
  · rw [if_pos hs, if_pos hs]
    have hz : zand6 (L 276 (n / 64)) (zshl6 1 (n : Int)) = 0 := by
      rw [e2]
      cases hb : zbit (L 276 (n / 64)) n with
      | false => rfl
      | true => exact absurd hs (e3.mp hb)
    refine ⟨zu I 275 3 (zw3 (I 275 3 + 1)), zu L 276 (n / 64) (zor6 (L 276 (n / 64)) (zshl6 1 (n : Int))), st_X0_takes ?_, ?_, ?_⟩
    · simp (disch := omega) only [e_X0_takes_0, e_X0_takes_1, e_X0_takes_3, e_X0_takes_4, e_X0_takes_5, e_X0_takes_6, e_X0_takes_9, e_X0_takes_10, e_X0_takes_13, e_X0_takes_16, e_X0_takes_17, e_X0_takes_18, e_X0_takes_19, e_X0_takes_20, e_X0_takes_21, e_X0_takes_22, e_X0_takes_22x, e_X0_takes_23, e_X0_takes_26, e_X0_takes_27, e_X0_takes_28, e_X0_takes_29, e_X0_takes_30, e_X0_takes_31, e_X0_takes_32, e_X0_takes_35, e_X0_takes_36, e_X0_takes_37, e_X0_takes_37x, e_X0_takes_38, e_X0_takes_41, e_X0_takes_42, e_X0_takes_43, e_X0_takes_44, e_X0_takes_45, e_X0_takes_46, e_X0_takes_47, e_X0_takes_47x, e_X0_takes_48, e_X0_takes_48r, e_X0_takes_49, e_X0_takes_52, e_X0_takes_53, e_X0_takes_54, e_X0_takes_57, e_X0_takes_58, zcll_s, zpush_s, zpush_n, zinv_i, zinv_l, zinv_r, zinv_x, zcats_nil, zcats_i, zcats_l, zcats_r, zcats_x, Nat.le_refl, and_self, true_and, and_true, zok_1, zok_20, zok_21, eq_self, Nat.reduceAdd, Nat.reduceLeDiff, Nat.zero_le, if_true, if_false, zw3_id, if_pos, if_neg, zand_t, tg_275, tg_276, tn_276, rr_275_0 hR, e1, Int.toNat_natCast, hz, zcmpl_eq]
    · exact ⟨fun a ha => zu_n ha, fun a ha => zu_n ha⟩
    · refine ⟨?_, ?_, ?_, ?_, ?_, ?_⟩
      · rw [zu_k (by omega)]; exact h.1
      · rw [zu_k (by omega)]; exact h.2.1
      · rw [zu_s, h.2.2.1]; rfl
      · rw [zu_k (by omega)]; exact h.2.2.2.1
      · rw [zu_k (by omega)]; exact h.2.2.2.2.1
      · intro k hk
        show _ ↔ (if k = n then 1 else κ.2.2.2.2.2 k) ≠ 0
        have e4 := h.2.2.2.2.2 k hk
        by_cases hw : k / 64 = n / 64
        · rw [hw, zu_s, zbit_or hn, Bool.or_eq_true, decide_eq_true_iff, ← hw, e4]
          by_cases hkn : k = n
          · rw [if_pos hkn, hkn]
            exact ⟨fun _ => by decide, fun _ => Or.inr rfl⟩
          · rw [if_neg hkn]
            exact ⟨fun q => q.elim id (fun q => absurd q (by omega)), Or.inl⟩
        · rw [zu_k hw, if_neg (fun q => hw (by rw [q]))]
          exact e4
  · rw [if_neg hs, if_neg hs]
    have hz : zand6 (L 276 (n / 64)) (zshl6 1 (n : Int)) ≠ 0 := by
      intro q
      rw [e2] at q
      have := e3.mpr hs
      rw [q] at this
      cases this
    refine ⟨I, L, st_X0_takes ?_, KC_r, h⟩
    simp (disch := omega) only [e_X0_takes_0, e_X0_takes_1, e_X0_takes_3, e_X0_takes_4, e_X0_takes_5, e_X0_takes_6, e_X0_takes_9, e_X0_takes_10, e_X0_takes_13, e_X0_takes_16, e_X0_takes_17, e_X0_takes_18, e_X0_takes_19, e_X0_takes_20, e_X0_takes_21, e_X0_takes_22, e_X0_takes_22x, e_X0_takes_23, e_X0_takes_26, e_X0_takes_27, e_X0_takes_28, e_X0_takes_29, e_X0_takes_30, e_X0_takes_31, e_X0_takes_32, e_X0_takes_35, e_X0_takes_36, e_X0_takes_37, e_X0_takes_37x, e_X0_takes_38, e_X0_takes_41, e_X0_takes_42, e_X0_takes_43, e_X0_takes_44, e_X0_takes_45, e_X0_takes_46, e_X0_takes_47, e_X0_takes_47x, e_X0_takes_48, e_X0_takes_48r, e_X0_takes_49, e_X0_takes_52, e_X0_takes_53, e_X0_takes_54, e_X0_takes_57, e_X0_takes_58, zcll_s, zpush_s, zpush_n, zinv_i, zinv_l, zinv_r, zinv_x, zcats_nil, zcats_i, zcats_l, zcats_r, zcats_x, Nat.le_refl, and_self, true_and, and_true, zok_1, zok_20, zok_21, eq_self, Nat.reduceAdd, Nat.reduceLeDiff, Nat.zero_le, if_true, if_false, zw3_id, if_pos, if_neg, zand_t, tg_275, tg_276, tn_276, rr_275_0 hR, e1, Int.toNat_natCast, zcmpl_eq, hz]
theorem k_note (x : Int) : zrun X (d + 1) 4 [zr (some 275), zi x] (c, s, I, L, R) = some (none, (c, s, zu (zu I 275 4 (if x = -1 then I 275 4 else zw3 (I 275 4 + 1))) 275 5 (if x = -1 then I 275 5 else zw3 (I 275 5 + x)), L, R)) := by
  refine st_X0_note ?_
  by_cases hx : x = -1
  · rw [if_pos hx, if_pos hx]
    have e : zu (zu I 275 4 (I 275 4)) 275 5 (I 275 5) = I := by rw [zu_id (f := I) rfl, zu_id rfl]
    rw [e]
    simp (disch := omega) only [e_X0_note_0, e_X0_note_1, e_X0_note_2, e_X0_note_5, e_X0_note_5x, e_X0_note_6, e_X0_note_6r, e_X0_note_7, e_X0_note_10, e_X0_note_11, e_X0_note_12, e_X0_note_15, e_X0_note_15x, e_X0_note_16, e_X0_note_16r, e_X0_note_17, e_X0_note_20, e_X0_note_21, e_X0_note_22, e_X0_note_25, zcll_s, zpush_s, zpush_n, zinv_i, zinv_l, zinv_r, zinv_x, zcats_nil, zcats_i, zcats_l, zcats_r, zcats_x, Nat.le_refl, and_self, true_and, and_true, zok_1, zok_20, zok_21, eq_self, Nat.reduceAdd, Nat.reduceLeDiff, Nat.zero_le, if_true, if_false, zw3_id, if_pos, if_neg, zand_t, tg_275]
  · rw [if_neg hx, if_neg hx]
    have e : ∀ y, zu I 275 4 y 275 5 = I 275 5 := fun y => zu_k (by omega)
    simp (disch := omega) only [e_X0_note_0, e_X0_note_1, e_X0_note_2, e_X0_note_5, e_X0_note_5x, e_X0_note_6, e_X0_note_6r, e_X0_note_7, e_X0_note_10, e_X0_note_11, e_X0_note_12, e_X0_note_15, e_X0_note_15x, e_X0_note_16, e_X0_note_16r, e_X0_note_17, e_X0_note_20, e_X0_note_21, e_X0_note_22, e_X0_note_25, zcll_s, zpush_s, zpush_n, zinv_i, zinv_l, zinv_r, zinv_x, zcats_nil, zcats_i, zcats_l, zcats_r, zcats_x, Nat.le_refl, and_self, true_and, and_true, zok_1, zok_20, zok_21, eq_self, Nat.reduceAdd, Nat.reduceLeDiff, Nat.zero_le, if_true, if_false, if_pos, if_neg, zand_t, tg_275, e]
/-- what a block leaves as it is -/
def KB (I L I1 L1 : ZI) : Prop := (∀ a, a ≠ 266 → a ≠ 267 → a ≠ 268 → a ≠ 269 → a ≠ 275 → a ≠ 337 → I1 a = I a) ∧ ∀ a, a ≠ 269 → a ≠ 276 → L1 a = L a
theorem KB_t (h1 : KB I L I1 L1) (h2 : KB I1 L1 I2 L2) : KB I L I2 L2 := ⟨fun a q1 q2 q3 q4 q5 q6 => (h2.1 a q1 q2 q3 q4 q5 q6).trans (h1.1 a q1 q2 q3 q4 q5 q6), fun a q r => (h2.2 a q r).trans (h1.2 a q r)⟩
theorem KB_C (h : KC I L I1 L1) : KB I L I1 L1 := ⟨fun a _ _ _ _ q _ => h.1 a q, fun a _ q => h.2 a q⟩
theorem KB_W (h : KW I L I1 L1) : KB I L I1 L1 := ⟨fun a q1 q2 q3 q4 _ q5 => h.1 a q1 q2 q3 q4 q5, fun a q _ => h.2 a q⟩
theorem ClS_b (h : ClS I R b M) (hK : KB I L I1 L1) (hT : Tab I1 M) : ClS I1 R b M := ⟨h.1, h.2.1, h.2.2.1, h.2.2.2.1, h.2.2.2.2.1, ClM_c h.2.2.2.2.2.2.1 (fun a q1 q2 => by have := h.2.1; exact hK.1 a (by omega) (by omega) (by omega) (by omega) (by omega) (by omega)) h.2.2.2.2.2.1, h.2.2.2.2.2.2.1, hT⟩
theorem q_block (g n bb z : Int) (hg0 : 0 ≤ g) (hg : g < M.2.2.2.length) (hn0 : 0 ≤ n) (hn : n < 1000) (hb0 : 0 ≤ bb) (hb1 : bb < 10000) (κ : CT) {Q : Option ZV × ZS → Prop} : ∀ (j : Nat) (i a e : Int) (I L : ZI), (10 - i).toNat = j → 0 ≤ i → i ≤ 10 → ClS I R b M → L 0 9 = z → CtC I L (κ.1, κ.2.1, κ.2.2.1, a, e, κ.2.2.2.2.2) → (∀ I1 L1, KB I L I1 L1 → Tab I1 M → CtC I1 L1 (κ.1, κ.2.1, κ.2.2.1, (mBl M z g n j (10 * bb + i) a e).1, (mBl M z g n j (10 * bb + i) a e).2, κ.2.2.2.2.2) → Q (some (zi κ.2.2.1), (c, s, I1, L1, R))) → V X (zrun X (d + 6)) mX11_block 52 [zr (some 0), zi g, zi n, zi bb, zi i] [] (c, s, I, L, R) Q := by
  intro j
  induction j with
  | zero =>
    intro i a e I L h1 h2 h3 hS hz hc hQ
    have hR := hS.1
    have e3 : I 275 3 = κ.2.2.1 := hc.2.2.1
    have := hQ I L ⟨fun _ _ _ _ _ _ _ => rfl, fun _ _ _ => rfl⟩ hS.2.2.2.2.2.2.2 hc
    rw [e_X11_block_52]
    simp (disch := omega) only [e_X11_block_0, e_X11_block_0x, e_X11_block_1, e_X11_block_2, e_X11_block_5, e_X11_block_8, e_X11_block_9, e_X11_block_12, e_X11_block_15, e_X11_block_16, e_X11_block_19, e_X11_block_20, e_X11_block_23, e_X11_block_26, e_X11_block_28, e_X11_block_29, e_X11_block_29x, e_X11_block_30, e_X11_block_33, e_X11_block_34, e_X11_block_35, e_X11_block_38, e_X11_block_38x, e_X11_block_39, e_X11_block_42, e_X11_block_43, e_X11_block_46, e_X11_block_49, e_X11_block_50, e_X11_block_54, e_X11_block_56, e_X11_block_59, e_X11_block_59x, e_X11_block_60, e_X11_block_63, e_X11_block_63x, e_X11_block_64, e_X11_block_65, e_X11_block_66, e_X11_block_67, e_X11_block_69, e_X11_block_70, e_X11_block_72, e_X11_block_73, e_X11_block_76, e_X11_block_79, e_X11_block_82, e_X11_block_85, e_X11_block_85x, e_X11_block_86, e_X11_block_89, e_X11_block_92, zcll_s, zpush_s, zpush_n, zinv_i, zinv_l, zinv_r, zinv_x, zcats_nil, zcats_i, zcats_l, zcats_r, zcats_x, Nat.le_refl, and_self, true_and, and_true, zok_1, zok_20, zok_21, eq_self, Nat.reduceAdd, Nat.reduceLeDiff, Nat.zero_le, if_true, if_false, zw3_id, if_pos, if_neg, zand_t, tg_0, tg_275, rr_0_5 hR, e3]
    exact this
  | succ j ih =>
    intro i a e I L h1 h2 h3 hS hz hc hQ
    have hR := hS.1
    obtain ⟨I1, L1, p1, p2, p3⟩ := k_stepOf (X := X) (d := d) (c := c) (s := s) (L := L) hS g n (10 * bb + i) hg0 hg hn0 hn
    rw [hz] at p1
    have hz1 : L1 0 9 = z := by rw [p2.2 0 (by omega)]; exact hz
    have e275 : I1 275 = I 275 := p2.1 275 (by omega) (by omega) (by omega) (by omega) (by omega)
    have e276 : L1 276 = L 276 := p2.2 276 (by omega)
    have q := k_note (X := X) (d := d + 5) (c := c) (s := s) (I := I1) (L := L1) (R := R) (mH M z g n (10 * bb + i))
    have ea : I1 275 4 = a := by rw [e275]; exact hc.2.2.2.1
    have ee : I1 275 5 = e := by rw [e275]; exact hc.2.2.2.2.1
    rw [ea, ee] at q
    unfold mBl at hQ
    generalize hya : (if mH M z g n (10 * bb + i) = -1 then a else zw3 (a + 1)) = ya at q hQ
    generalize hye : (if mH M z g n (10 * bb + i) = -1 then e else zw3 (e + mH M z g n (10 * bb + i))) = ye at q hQ
    have hK : KB I L (zu (zu I1 275 4 ya) 275 5 ye) L1 := KB_t (KB_W p2) ⟨fun a _ _ _ _ q _ => by rw [zu_n q, zu_n q], fun _ _ _ => rfl⟩
    have hT : Tab (zu (zu I1 275 4 ya) 275 5 ye) M := Tab_c p3 (by rw [zu_n (by omega), zu_n (by omega)]) (by rw [zu_n (by omega), zu_n (by omega)])
    have hcc : CtC (zu (zu I1 275 4 ya) 275 5 ye) L1 (κ.1, κ.2.1, κ.2.2.1, ya, ye, κ.2.2.2.2.2) := by
      refine ⟨?_, ?_, ?_, ?_, ?_, ?_⟩
      · rw [zu_k (by omega), zu_k (by omega), e275]; exact hc.1
      · rw [zu_k (by omega), zu_k (by omega), e275]; exact hc.2.1
      · rw [zu_k (by omega), zu_k (by omega), e275]; exact hc.2.2.1
      · rw [zu_k (by omega), zu_s]
      · rw [zu_s]
      · rw [e276]; exact hc.2.2.2.2.2
    have eb : bb * 10 + i = 10 * bb + i := by omega
    rw [e_X11_block_52]
    simp (disch := omega) only [e_X11_block_0, e_X11_block_0x, e_X11_block_1, e_X11_block_2, e_X11_block_5, e_X11_block_8, e_X11_block_9, e_X11_block_12, e_X11_block_15, e_X11_block_16, e_X11_block_19, e_X11_block_20, e_X11_block_23, e_X11_block_26, e_X11_block_28, e_X11_block_29, e_X11_block_29x, e_X11_block_30, e_X11_block_33, e_X11_block_34, e_X11_block_35, e_X11_block_38, e_X11_block_38x, e_X11_block_39, e_X11_block_42, e_X11_block_43, e_X11_block_46, e_X11_block_49, e_X11_block_50, e_X11_block_54, e_X11_block_56, e_X11_block_59, e_X11_block_59x, e_X11_block_60, e_X11_block_63, e_X11_block_63x, e_X11_block_64, e_X11_block_65, e_X11_block_66, e_X11_block_67, e_X11_block_69, e_X11_block_70, e_X11_block_72, e_X11_block_73, e_X11_block_76, e_X11_block_79, e_X11_block_82, e_X11_block_85, e_X11_block_85x, e_X11_block_86, e_X11_block_89, e_X11_block_92, zcll_s, zpush_s, zpush_n, zinv_i, zinv_l, zinv_r, zinv_x, zcats_nil, zcats_i, zcats_l, zcats_r, zcats_x, Nat.le_refl, and_self, true_and, and_true, zok_1, zok_20, zok_21, eq_self, Nat.reduceAdd, Nat.reduceLeDiff, Nat.zero_le, if_true, if_false, zw3_id, if_pos, if_neg, zand_t, tg_0, tg_275, rr_0_5 hR, eb, p1, q]
    refine ih (i + 1) ya ye _ L1 (by omega) (by omega) (by omega) (ClS_b hS hK hT) hz1 hcc ?_
    intro I2 L2 r1 r2 r3
    refine hQ I2 L2 (KB_t hK r1) r2 ?_
    rw [show 10 * bb + (i + 1) = 10 * bb + i + 1 by omega] at r3
    exact r3
theorem k_block (h : ClA B I R b M) {κ : CT} (hc : CtC I L κ) (g n bb : Int) : ∃ I1 L1, zrun X (d + 7) 96 [zr (some 0), zi g, zi n, zi bb] (c, s, I, L, R) = some (some (zi (@ite _ (mIsB B M g n bb) (Classical.propDecidable _) (mBlock M (L 0 9) g n bb κ).2.2.1 (-2))), (c, s, I1, L1, R)) ∧ KB I L I1 L1 ∧ ClA B I1 R b M ∧ CtC I1 L1 (@ite _ (mIsB B M g n bb) (Classical.propDecidable _) (mBlock M (L 0 9) g n bb κ) κ) := by
  have hA := k_isGoal (X := X) (d := d + 5) (c := c) (s := s) (L := L) h g
  have bad : ∀ (_ : ¬ mIsB B M g n bb), (V X (zrun X (d + 6)) mX11_block 0 [zr (some 0), zi g, zi n, zi bb, zx 0] [] (c, s, I, L, R) (fun q => q = (some (zi (-2)), (c, s, I, L, R)))) → ∃ I1 L1, zrun X (d + 7) 96 [zr (some 0), zi g, zi n, zi bb] (c, s, I, L, R) = some (some (zi (@ite _ (mIsB B M g n bb) (Classical.propDecidable _) (mBlock M (L 0 9) g n bb κ).2.2.1 (-2))), (c, s, I1, L1, R)) ∧ KB I L I1 L1 ∧ ClA B I1 R b M ∧ CtC I1 L1 (@ite _ (mIsB B M g n bb) (Classical.propDecidable _) (mBlock M (L 0 9) g n bb κ) κ) := by
    intro hP hv
    rw [if_neg hP, if_neg hP]
    exact ⟨_, _, st_X11_block hv, KB_C KC_r, h, hc⟩
  by_cases h1 : mIsG B M g
  · rw [zB_t h1] at hA
    by_cases h2 : 0 ≤ n ∧ n ≤ 60
    · by_cases h3 : 0 ≤ bb ∧ bb ≤ 9999
      · have hP : mIsB B M g n bb := ⟨h1, h2, h3⟩
        rw [if_pos hP, if_pos hP]
        have hS := ClA_S h h1.1
        have hR := hS.1
        have p := sx_X11_block (X := X) (d := d + 6) (u0 := some 0) (x1 := g) (x2 := n) (x3 := bb) (σ := (c, s, I, L, R)) (P := fun r => ∃ I1 L1, r = (some (zi (mBlock M (L 0 9) g n bb κ).2.2.1), (c, s, I1, L1, R)) ∧ KB I L I1 L1 ∧ ClA B I1 R b M ∧ CtC I1 L1 (mBlock M (L 0 9) g n bb κ)) ?_
        · obtain ⟨r, q1, I1, L1, q2, q3⟩ := p
          exact ⟨I1, L1, by rw [q1, q2], q3⟩
        · obtain ⟨I1, L1, p1, p2, p3⟩ := k_turnTo (X := X) (d := d + 3) (c := c) (s := s) hR hc g n
          have hg1 : (mTurn g n κ).1 = g ∧ (mTurn g n κ).2.1 = n := by
            unfold mTurn
            by_cases hs : g = κ.1 ∧ n = κ.2.1
            · rw [if_pos hs]; exact ⟨hs.1.symm, hs.2.symm⟩
            · rw [if_neg hs]; exact ⟨rfl, rfl⟩
          unfold mBlock
          generalize mTurn g n κ = κ1 at p3 hg1
          obtain ⟨I2, L2, r1, r2, r3⟩ := k_takes (X := X) (d := d + 5) (c := c) (s := s) hR p3 bb h3.1 (by omega)
          have hK2 := KC_t p2 r2
          have hT2 : Tab I2 M := Tab_c hS.2.2.2.2.2.2.2 (hK2.1 266 (by omega)) (hK2.1 337 (by omega))
          have hS2 := ClS_b hS (KB_C hK2) hT2
          have hz2 : L2 0 9 = L 0 9 := by rw [hK2.2 0 (by omega)]
          unfold mB1
          by_cases hs : κ1.2.2.2.2.2 bb.toNat = 0
          · rw [if_pos hs] at r1 r3 ⊢
            simp (disch := omega) only [e_X11_block_0, e_X11_block_0x, e_X11_block_1, e_X11_block_2, e_X11_block_5, e_X11_block_8, e_X11_block_9, e_X11_block_12, e_X11_block_15, e_X11_block_16, e_X11_block_19, e_X11_block_20, e_X11_block_23, e_X11_block_26, e_X11_block_28, e_X11_block_29, e_X11_block_29x, e_X11_block_30, e_X11_block_33, e_X11_block_34, e_X11_block_35, e_X11_block_38, e_X11_block_38x, e_X11_block_39, e_X11_block_42, e_X11_block_43, e_X11_block_46, e_X11_block_49, e_X11_block_50, e_X11_block_54, e_X11_block_56, e_X11_block_59, e_X11_block_59x, e_X11_block_60, e_X11_block_63, e_X11_block_63x, e_X11_block_64, e_X11_block_65, e_X11_block_66, e_X11_block_67, e_X11_block_69, e_X11_block_70, e_X11_block_72, e_X11_block_73, e_X11_block_76, e_X11_block_79, e_X11_block_82, e_X11_block_85, e_X11_block_85x, e_X11_block_86, e_X11_block_89, e_X11_block_92, zcll_s, zpush_s, zpush_n, zinv_i, zinv_l, zinv_r, zinv_x, zcats_nil, zcats_i, zcats_l, zcats_r, zcats_x, Nat.le_refl, and_self, true_and, and_true, zok_1, zok_20, zok_21, eq_self, Nat.reduceAdd, Nat.reduceLeDiff, Nat.zero_le, if_true, if_false, zw3_id, if_pos, if_neg, zand_t, tg_0, tg_275, rr_0_5 hR, hA, k_isLength, zB_t, p1, r1]
            refine q_block (X := X) (d := d) g n bb (L 0 9) h1.2.1 h1.2.2 h2.1 (by omega) h3.1 (by omega) (mTake bb.toNat κ1) 10 0 κ1.2.2.2.1 κ1.2.2.2.2.1 I2 L2 (by omega) (by omega) (by omega) hS2 hz2 r3 ?_
            intro I3 L3 v1 v2 v3
            refine ⟨I3, L3, rfl, KB_t (KB_C hK2) v1, Or.inl ⟨h1.1, ClS_b hS2 v1 v2⟩, ?_⟩
            rw [Int.add_zero] at v3
            rw [← hg1.1, ← hg1.2] at v3 ⊢
            exact v3
          · rw [if_neg hs] at r1 r3 ⊢
            have e3 : I2 275 3 = κ1.2.2.1 := r3.2.2.1
            simp (disch := omega) only [e_X11_block_0, e_X11_block_0x, e_X11_block_1, e_X11_block_2, e_X11_block_5, e_X11_block_8, e_X11_block_9, e_X11_block_12, e_X11_block_15, e_X11_block_16, e_X11_block_19, e_X11_block_20, e_X11_block_23, e_X11_block_26, e_X11_block_28, e_X11_block_29, e_X11_block_29x, e_X11_block_30, e_X11_block_33, e_X11_block_34, e_X11_block_35, e_X11_block_38, e_X11_block_38x, e_X11_block_39, e_X11_block_42, e_X11_block_43, e_X11_block_46, e_X11_block_49, e_X11_block_50, e_X11_block_54, e_X11_block_56, e_X11_block_59, e_X11_block_59x, e_X11_block_60, e_X11_block_63, e_X11_block_63x, e_X11_block_64, e_X11_block_65, e_X11_block_66, e_X11_block_67, e_X11_block_69, e_X11_block_70, e_X11_block_72, e_X11_block_73, e_X11_block_76, e_X11_block_79, e_X11_block_82, e_X11_block_85, e_X11_block_85x, e_X11_block_86, e_X11_block_89, e_X11_block_92, zcll_s, zpush_s, zpush_n, zinv_i, zinv_l, zinv_r, zinv_x, zcats_nil, zcats_i, zcats_l, zcats_r, zcats_x, Nat.le_refl, and_self, true_and, and_true, zok_1, zok_20, zok_21, eq_self, Nat.reduceAdd, Nat.reduceLeDiff, Nat.zero_le, if_true, if_false, zw3_id, if_pos, if_neg, zand_t, tg_0, tg_275, rr_0_5 hR, hA, k_isLength, zB_t, p1, r1, e3]
            exact ⟨I2, L2, rfl, KB_C hK2, Or.inl ⟨h1.1, hS2⟩, r3⟩
      · refine bad (fun q => h3 q.2.2) ?_
        by_cases h4 : bb < 0
        · simp (disch := omega) only [e_X11_block_0, e_X11_block_0x, e_X11_block_1, e_X11_block_2, e_X11_block_5, e_X11_block_8, e_X11_block_9, e_X11_block_12, e_X11_block_15, e_X11_block_16, e_X11_block_19, e_X11_block_20, e_X11_block_23, e_X11_block_26, e_X11_block_28, e_X11_block_29, e_X11_block_29x, e_X11_block_30, e_X11_block_33, e_X11_block_34, e_X11_block_35, e_X11_block_38, e_X11_block_38x, e_X11_block_39, e_X11_block_42, e_X11_block_43, e_X11_block_46, e_X11_block_49, e_X11_block_50, e_X11_block_54, e_X11_block_56, e_X11_block_59, e_X11_block_59x, e_X11_block_60, e_X11_block_63, e_X11_block_63x, e_X11_block_64, e_X11_block_65, e_X11_block_66, e_X11_block_67, e_X11_block_69, e_X11_block_70, e_X11_block_72, e_X11_block_73, e_X11_block_76, e_X11_block_79, e_X11_block_82, e_X11_block_85, e_X11_block_85x, e_X11_block_86, e_X11_block_89, e_X11_block_92, zcll_s, zpush_s, zpush_n, zinv_i, zinv_l, zinv_r, zinv_x, zcats_nil, zcats_i, zcats_l, zcats_r, zcats_x, Nat.le_refl, and_self, true_and, and_true, zok_1, zok_20, zok_21, eq_self, Nat.reduceAdd, Nat.reduceLeDiff, Nat.zero_le, if_true, if_false, zw3_id, if_pos, if_neg, zand_t, tg_0, hA, k_isLength, zB_t, zB_f]
        · simp (disch := omega) only [e_X11_block_0, e_X11_block_0x, e_X11_block_1, e_X11_block_2, e_X11_block_5, e_X11_block_8, e_X11_block_9, e_X11_block_12, e_X11_block_15, e_X11_block_16, e_X11_block_19, e_X11_block_20, e_X11_block_23, e_X11_block_26, e_X11_block_28, e_X11_block_29, e_X11_block_29x, e_X11_block_30, e_X11_block_33, e_X11_block_34, e_X11_block_35, e_X11_block_38, e_X11_block_38x, e_X11_block_39, e_X11_block_42, e_X11_block_43, e_X11_block_46, e_X11_block_49, e_X11_block_50, e_X11_block_54, e_X11_block_56, e_X11_block_59, e_X11_block_59x, e_X11_block_60, e_X11_block_63, e_X11_block_63x, e_X11_block_64, e_X11_block_65, e_X11_block_66, e_X11_block_67, e_X11_block_69, e_X11_block_70, e_X11_block_72, e_X11_block_73, e_X11_block_76, e_X11_block_79, e_X11_block_82, e_X11_block_85, e_X11_block_85x, e_X11_block_86, e_X11_block_89, e_X11_block_92, zcll_s, zpush_s, zpush_n, zinv_i, zinv_l, zinv_r, zinv_x, zcats_nil, zcats_i, zcats_l, zcats_r, zcats_x, Nat.le_refl, and_self, true_and, and_true, zok_1, zok_20, zok_21, eq_self, Nat.reduceAdd, Nat.reduceLeDiff, Nat.zero_le, if_true, if_false, zw3_id, if_pos, if_neg, zand_t, tg_0, hA, k_isLength, zB_t, zB_f]
    · refine bad (fun q => h2 q.2.1) ?_
      simp (disch := omega) only [e_X11_block_0, e_X11_block_0x, e_X11_block_1, e_X11_block_2, e_X11_block_5, e_X11_block_8, e_X11_block_9, e_X11_block_12, e_X11_block_15, e_X11_block_16, e_X11_block_19, e_X11_block_20, e_X11_block_23, e_X11_block_26, e_X11_block_28, e_X11_block_29, e_X11_block_29x, e_X11_block_30, e_X11_block_33, e_X11_block_34, e_X11_block_35, e_X11_block_38, e_X11_block_38x, e_X11_block_39, e_X11_block_42, e_X11_block_43, e_X11_block_46, e_X11_block_49, e_X11_block_50, e_X11_block_54, e_X11_block_56, e_X11_block_59, e_X11_block_59x, e_X11_block_60, e_X11_block_63, e_X11_block_63x, e_X11_block_64, e_X11_block_65, e_X11_block_66, e_X11_block_67, e_X11_block_69, e_X11_block_70, e_X11_block_72, e_X11_block_73, e_X11_block_76, e_X11_block_79, e_X11_block_82, e_X11_block_85, e_X11_block_85x, e_X11_block_86, e_X11_block_89, e_X11_block_92, zcll_s, zpush_s, zpush_n, zinv_i, zinv_l, zinv_r, zinv_x, zcats_nil, zcats_i, zcats_l, zcats_r, zcats_x, Nat.le_refl, and_self, true_and, and_true, zok_1, zok_20, zok_21, eq_self, Nat.reduceAdd, Nat.reduceLeDiff, Nat.zero_le, if_true, if_false, zw3_id, if_pos, if_neg, zand_t, tg_0, hA, k_isLength, zB_t, zB_f]
  · rw [zB_f h1] at hA
    refine bad (fun q => h1 q.1) ?_
    simp (disch := omega) only [e_X11_block_0, e_X11_block_0x, e_X11_block_1, e_X11_block_2, e_X11_block_5, e_X11_block_8, e_X11_block_9, e_X11_block_12, e_X11_block_15, e_X11_block_16, e_X11_block_19, e_X11_block_20, e_X11_block_23, e_X11_block_26, e_X11_block_28, e_X11_block_29, e_X11_block_29x, e_X11_block_30, e_X11_block_33, e_X11_block_34, e_X11_block_35, e_X11_block_38, e_X11_block_38x, e_X11_block_39, e_X11_block_42, e_X11_block_43, e_X11_block_46, e_X11_block_49, e_X11_block_50, e_X11_block_54, e_X11_block_56, e_X11_block_59, e_X11_block_59x, e_X11_block_60, e_X11_block_63, e_X11_block_63x, e_X11_block_64, e_X11_block_65, e_X11_block_66, e_X11_block_67, e_X11_block_69, e_X11_block_70, e_X11_block_72, e_X11_block_73, e_X11_block_76, e_X11_block_79, e_X11_block_82, e_X11_block_85, e_X11_block_85x, e_X11_block_86, e_X11_block_89, e_X11_block_92, zcll_s, zpush_s, zpush_n, zinv_i, zinv_l, zinv_r, zinv_x, zcats_nil, zcats_i, zcats_l, zcats_r, zcats_x, Nat.le_refl, and_self, true_and, and_true, zok_1, zok_20, zok_21, eq_self, Nat.reduceAdd, Nat.reduceLeDiff, Nat.zero_le, if_true, if_false, zw3_id, if_pos, if_neg, zand_t, tg_0, hA, k_isLength, zB_t, zB_f]
theorem k_seed (hR : Rok R) (z : Int) : ∃ I1 L1, zrun X (d + 3) 88 [zr (some 0), zl z] (c, s, I, L, R) = some (some (zi 1), (c, s, I1, L1, R)) ∧ KC I (zu L 0 9 z) I1 L1 ∧ CtC I1 L1 (ct0 (-1) (-1)) := by
  obtain ⟨I1, L1, p1, p2, p3⟩ := k_clearC (X := X) (d := d) (c := c) (s := s) (I := I) (L := zu L 0 9 z) hR
  refine ⟨I1, L1, st_X11_seed ?_, p2, p3⟩
  simp (disch := omega) only [e_X11_seed_0, e_X11_seed_0x, e_X11_seed_1, e_X11_seed_2, e_X11_seed_5, e_X11_seed_5x, e_X11_seed_6, e_X11_seed_9, e_X11_seed_12, e_X11_seed_13, zcll_s, zpush_s, zpush_n, zinv_i, zinv_l, zinv_r, zinv_x, zcats_nil, zcats_i, zcats_l, zcats_r, zcats_x, Nat.le_refl, and_self, true_and, and_true, zok_1, zok_20, zok_21, eq_self, Nat.reduceAdd, Nat.reduceLeDiff, Nat.zero_le, if_true, if_false, zw3_id, if_pos, if_neg, zand_t, tg_0, tg_275, rr_0_5 hR, p1]
theorem e_told_0 {ls st : List ZV} {σ : ZS} {Q : Option ZV × ZS → Prop} : V X call mX11_told 1 ls (zi 0 :: st) σ Q ↔ V X call mX11_told 36 ls st σ Q := V_swI (t := 36) (o := 35) dX11_told_1 (by decide) (by decide) (by decide) (by decide)
theorem e_told_1 {ls st : List ZV} {σ : ZS} {Q : Option ZV × ZS → Prop} : V X call mX11_told 1 ls (zi 1 :: st) σ Q ↔ V X call mX11_told 47 ls st σ Q := V_swI (t := 47) (o := 46) dX11_told_1 (by decide) (by decide) (by decide) (by decide)
theorem e_told_2 {ls st : List ZV} {σ : ZS} {Q : Option ZV × ZS → Prop} : V X call mX11_told 1 ls (zi 2 :: st) σ Q ↔ V X call mX11_told 55 ls st σ Q := V_swI (t := 55) (o := 54) dX11_told_1 (by decide) (by decide) (by decide) (by decide)
theorem e_told_3 {ls st : List ZV} {σ : ZS} {Q : Option ZV × ZS → Prop} : V X call mX11_told 1 ls (zi 3 :: st) σ Q ↔ V X call mX11_told 63 ls st σ Q := V_swI (t := 63) (o := 62) dX11_told_1 (by decide) (by decide) (by decide) (by decide)
theorem e_told_4 {ls st : List ZV} {σ : ZS} {Q : Option ZV × ZS → Prop} : V X call mX11_told 1 ls (zi 4 :: st) σ Q ↔ V X call mX11_told 71 ls st σ Q := V_swI (t := 71) (o := 70) dX11_told_1 (by decide) (by decide) (by decide) (by decide)
theorem e_told_5 {ls st : List ZV} {σ : ZS} {Q : Option ZV × ZS → Prop} {y : Int} (h : y < 0 ∨ 4 < y) : V X call mX11_told 1 ls (zi y :: st) σ Q ↔ V X call mX11_told 79 ls st σ Q := V_swO (t := 79) dX11_told_1 h (by decide)
theorem k_told (hR : Rok R) {κ : CT} (h : CtC I L κ) (what : Int) : zrun X (d + 1) 97 [zr (some 0), zi what] (c, s, I, L, R) = some (some (zi (aTold κ what)), (c, s, I, L, R)) := by
  refine st_X11_told ?_
  obtain ⟨h1, h2, h3, h4, h5, _⟩ := h
  unfold aTold
  by_cases hw : 0 ≤ what ∧ what ≤ 4
  · have hw : what = 0 ∨ what = 1 ∨ what = 2 ∨ what = 3 ∨ what = 4 := by omega
    rcases hw with hw | hw | hw | hw | hw <;> subst hw
    · simp (disch := omega) only [e_X11_told_0, e_X11_told_36, e_X11_told_36x, e_X11_told_37, e_X11_told_40, e_X11_told_43, e_X11_told_45, e_X11_told_46, e_X11_told_47, e_X11_told_47x, e_X11_told_48, e_X11_told_51, e_X11_told_54, e_X11_told_55, e_X11_told_55x, e_X11_told_56, e_X11_told_59, e_X11_told_62, e_X11_told_63, e_X11_told_63x, e_X11_told_64, e_X11_told_67, e_X11_told_70, e_X11_told_71, e_X11_told_71x, e_X11_told_72, e_X11_told_75, e_X11_told_78, e_X11_told_79, e_X11_told_81, zcll_s, zpush_s, zpush_n, zinv_i, zinv_l, zinv_r, zinv_x, zcats_nil, zcats_i, zcats_l, zcats_r, zcats_x, Nat.le_refl, and_self, true_and, and_true, zok_1, zok_20, zok_21, eq_self, Nat.reduceAdd, Nat.reduceLeDiff, Nat.zero_le, if_true, if_false, if_pos, if_neg, zand_t, tg_0, tg_275, rr_0_5 hR, h3, e_told_0, Int.mul_comm κ.2.2.1 10]
    · simp (disch := omega) only [e_X11_told_0, e_X11_told_36, e_X11_told_36x, e_X11_told_37, e_X11_told_40, e_X11_told_43, e_X11_told_45, e_X11_told_46, e_X11_told_47, e_X11_told_47x, e_X11_told_48, e_X11_told_51, e_X11_told_54, e_X11_told_55, e_X11_told_55x, e_X11_told_56, e_X11_told_59, e_X11_told_62, e_X11_told_63, e_X11_told_63x, e_X11_told_64, e_X11_told_67, e_X11_told_70, e_X11_told_71, e_X11_told_71x, e_X11_told_72, e_X11_told_75, e_X11_told_78, e_X11_told_79, e_X11_told_81, zcll_s, zpush_s, zpush_n, zinv_i, zinv_l, zinv_r, zinv_x, zcats_nil, zcats_i, zcats_l, zcats_r, zcats_x, Nat.le_refl, and_self, true_and, and_true, zok_1, zok_20, zok_21, eq_self, Nat.reduceAdd, Nat.reduceLeDiff, Nat.zero_le, if_true, if_false, zw3_id, if_pos, if_neg, zand_t, tg_0, tg_275, rr_0_5 hR, h4, e_told_1]
    · simp (disch := omega) only [e_X11_told_0, e_X11_told_36, e_X11_told_36x, e_X11_told_37, e_X11_told_40, e_X11_told_43, e_X11_told_45, e_X11_told_46, e_X11_told_47, e_X11_told_47x, e_X11_told_48, e_X11_told_51, e_X11_told_54, e_X11_told_55, e_X11_told_55x, e_X11_told_56, e_X11_told_59, e_X11_told_62, e_X11_told_63, e_X11_told_63x, e_X11_told_64, e_X11_told_67, e_X11_told_70, e_X11_told_71, e_X11_told_71x, e_X11_told_72, e_X11_told_75, e_X11_told_78, e_X11_told_79, e_X11_told_81, zcll_s, zpush_s, zpush_n, zinv_i, zinv_l, zinv_r, zinv_x, zcats_nil, zcats_i, zcats_l, zcats_r, zcats_x, Nat.le_refl, and_self, true_and, and_true, zok_1, zok_20, zok_21, eq_self, Nat.reduceAdd, Nat.reduceLeDiff, Nat.zero_le, if_true, if_false, zw3_id, if_pos, if_neg, zand_t, tg_0, tg_275, rr_0_5 hR, h5, e_told_2]
    · simp (disch := omega) only [e_X11_told_0, e_X11_told_36, e_X11_told_36x, e_X11_told_37, e_X11_told_40, e_X11_told_43, e_X11_told_45, e_X11_told_46, e_X11_told_47, e_X11_told_47x, e_X11_told_48, e_X11_told_51, e_X11_told_54, e_X11_told_55, e_X11_told_55x, e_X11_told_56, e_X11_told_59, e_X11_told_62, e_X11_told_63, e_X11_told_63x, e_X11_told_64, e_X11_told_67, e_X11_told_70, e_X11_told_71, e_X11_told_71x, e_X11_told_72, e_X11_told_75, e_X11_told_78, e_X11_told_79, e_X11_told_81, zcll_s, zpush_s, zpush_n, zinv_i, zinv_l, zinv_r, zinv_x, zcats_nil, zcats_i, zcats_l, zcats_r, zcats_x, Nat.le_refl, and_self, true_and, and_true, zok_1, zok_20, zok_21, eq_self, Nat.reduceAdd, Nat.reduceLeDiff, Nat.zero_le, if_true, if_false, zw3_id, if_pos, if_neg, zand_t, tg_0, tg_275, rr_0_5 hR, h1, e_told_3]
    · simp (disch := omega) only [e_X11_told_0, e_X11_told_36, e_X11_told_36x, e_X11_told_37, e_X11_told_40, e_X11_told_43, e_X11_told_45, e_X11_told_46, e_X11_told_47, e_X11_told_47x, e_X11_told_48, e_X11_told_51, e_X11_told_54, e_X11_told_55, e_X11_told_55x, e_X11_told_56, e_X11_told_59, e_X11_told_62, e_X11_told_63, e_X11_told_63x, e_X11_told_64, e_X11_told_67, e_X11_told_70, e_X11_told_71, e_X11_told_71x, e_X11_told_72, e_X11_told_75, e_X11_told_78, e_X11_told_79, e_X11_told_81, zcll_s, zpush_s, zpush_n, zinv_i, zinv_l, zinv_r, zinv_x, zcats_nil, zcats_i, zcats_l, zcats_r, zcats_x, Nat.le_refl, and_self, true_and, and_true, zok_1, zok_20, zok_21, eq_self, Nat.reduceAdd, Nat.reduceLeDiff, Nat.zero_le, if_true, if_false, zw3_id, if_pos, if_neg, zand_t, tg_0, tg_275, rr_0_5 hR, h2, e_told_4]
  · simp (disch := omega) only [e_X11_told_0, e_X11_told_36, e_X11_told_36x, e_X11_told_37, e_X11_told_40, e_X11_told_43, e_X11_told_45, e_X11_told_46, e_X11_told_47, e_X11_told_47x, e_X11_told_48, e_X11_told_51, e_X11_told_54, e_X11_told_55, e_X11_told_55x, e_X11_told_56, e_X11_told_59, e_X11_told_62, e_X11_told_63, e_X11_told_63x, e_X11_told_64, e_X11_told_67, e_X11_told_70, e_X11_told_71, e_X11_told_71x, e_X11_told_72, e_X11_told_75, e_X11_told_78, e_X11_told_79, e_X11_told_81, zcll_s, zpush_s, zpush_n, zinv_i, zinv_l, zinv_r, zinv_x, zcats_nil, zcats_i, zcats_l, zcats_r, zcats_x, Nat.le_refl, and_self, true_and, and_true, zok_1, zok_20, zok_21, eq_self, Nat.reduceAdd, Nat.reduceLeDiff, Nat.zero_le, if_true, if_false, zw3_id, if_pos, if_neg, zand_t, tg_0, tg_275, e_told_5]
end
