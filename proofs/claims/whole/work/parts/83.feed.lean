/-! Feeding: bytes of a long. -/
section
variable {X : ZX} {d c s : Nat} {I L I1 L1 I2 L2 J : ZI} {R R1 R2 : ZR} {call : ZC} {n p : Nat} {x t : Int} {B : Nat → Int}
def byt (v : Int) (i : Nat) : Int := v / 256 ^ i % 256
def sgB (x : Int) : Int := if x < 128 then x else x - 256
theorem zand6_255 (x : Int) : zand6 x 255 = x % 256 := by
  unfold zand6
  show (Int64.ofInt x &&& Int64.ofInt 255).toBitVec.toInt = _
  have e : (Int64.ofInt x &&& Int64.ofInt 255).toBitVec.toNat = (x % 256).toNat := by
    rw [Int64.toBitVec_and, BitVec.toNat_and]
    have e1 : (Int64.ofInt 255).toBitVec.toNat = 2 ^ 8 - 1 := by decide
    rw [e1, Nat.and_two_pow_sub_one_eq_mod]
    show (BitVec.ofInt 64 x).toNat % 2 ^ 8 = _
    rw [BitVec.toNat_ofInt]
    omega
  rw [BitVec.toInt_eq_toNat_of_lt (by rw [e]; omega), e]
  omega
theorem zi2b_v (x : Int) : zi2b x = (x + 128) % 256 - 128 := by
  unfold zi2b
  rw [Int32.toInt8_ofInt, Int8.toInt_toInt32, Int8.toInt_ofInt]
  unfold Int.bmod
  show (if x % 256 < (256 + 1) / 2 then x % 256 else x % 256 - 256) = _
  split <;> omega
theorem zshr6_v {v : Int} (hv : zi6 v) {k : Int} {m : Nat} (hk : (Int32.ofInt k).toInt64 &&& 63 = Int64.ofNat m) (hm : m < 64) : zshr6 v k = v / 2 ^ m := by
  unfold zshr6
  rw [hk]
  show (Int64.ofInt v >>> Int64.ofNat m).toBitVec.toInt = _
  rw [Int64.toBitVec_shiftRight]
  have e1 : ((Int64.ofNat m).toBitVec.smod 64).toNat = m := by
    have : ∀ m, m < 64 → ((Int64.ofNat m).toBitVec.smod 64).toNat = m := by decide +kernel
    exact this m hm
  show ((Int64.ofInt v).toBitVec.sshiftRight ((Int64.ofNat m).toBitVec.smod 64).toNat).toInt = _
  rw [e1, BitVec.toInt_sshiftRight, Int.shiftRight_eq_div_pow]
  have e2 : (Int64.ofInt v).toBitVec.toInt = v := zq_t6 hv
  rw [e2]
  rfl
theorem zushr6_v {v : Int} {k : Int} {m : Nat} (hk : ((Int32.ofInt k).toInt64.toUInt64 &&& Int64.toUInt64 63) = UInt64.ofNat m) (hm : m < 64) : zushr6 v k % 4294967296 = (v % 18446744073709551616) / 2 ^ m % 4294967296 := by
  unfold zushr6
  rw [hk]
  have h1 : ((Int64.ofInt v).toUInt64 >>> UInt64.ofNat m).toNat = (v % 18446744073709551616).toNat / 2 ^ m := by
    rw [UInt64.toNat_shiftRight]
    have e1 : (UInt64.ofNat m).toNat % 64 = m := by
      have : ∀ m, m < 64 → (UInt64.ofNat m).toNat % 64 = m := by decide +kernel
      exact this m hm
    have e2 : (Int64.ofInt v).toUInt64.toNat = (v % 18446744073709551616).toNat := by
      show (BitVec.ofInt 64 v).toNat = _
      rw [BitVec.toNat_ofInt]
      rfl
    rw [e1, Nat.shiftRight_eq_div_pow, e2]
  generalize ((Int64.ofInt v).toUInt64 >>> UInt64.ofNat m) = u at h1
  have h4 : u.toInt64.toInt = (u.toNat : Int) ∨ u.toInt64.toInt = (u.toNat : Int) - 18446744073709551616 := by
    show u.toBitVec.toInt = _ ∨ u.toBitVec.toInt = _
    rw [BitVec.toInt_eq_toNat_cond]
    have : u.toBitVec.toNat = u.toNat := rfl
    rw [this]
    split
    · left; rfl
    · right; rfl
  have h5 : ((v % 18446744073709551616).toNat / 2 ^ m : Nat) = ((v % 18446744073709551616) / 2 ^ m : Int) := by
    rw [Int.natCast_ediv, Int.natCast_pow]
    congr 1
    omega
  have h6 : (u.toNat : Int) = (v % 18446744073709551616) / 2 ^ m := by rw [h1]; exact h5
  rw [← h6]
  rcases h4 with h4 | h4 <;> rw [h4] <;> omega
/-- the byte that the reference takes, that the class takes -/
theorem byt_r {v : Int} (hv : zi6 v) : ∀ i : Nat, i < 8 → zw3 (zand6 (zshr6 v (8 * (i : Int))) 255) = byt v i ∧ zi2b (zw3 (zushr6 v (8 * (i : Int)))) = sgB (byt v i) := by
  intro i hi
  unfold byt sgB
  rw [zand6_255, zi2b_v]
  match i, hi with
  | 0, _ =>
    rw [zshr6_v hv (k := 8 * ((0 : Nat) : Int)) (m := 0) (by decide) (by omega)]
    have h := zushr6_v (v := v) (k := 8 * ((0 : Nat) : Int)) (m := 0) (by decide) (by omega)
    generalize zushr6 v (8 * ((0 : Nat) : Int)) = u at h ⊢
    simp only [Int.pow_zero, Nat.pow_zero] at h ⊢
    unfold zw3
    exact ⟨by omega, by split <;> omega⟩
  | 1, _ =>
    rw [zshr6_v hv (k := 8 * ((1 : Nat) : Int)) (m := 8) (by decide) (by omega)]
    have h := zushr6_v (v := v) (k := 8 * ((1 : Nat) : Int)) (m := 8) (by decide) (by omega)
    generalize zushr6 v (8 * ((1 : Nat) : Int)) = u at h ⊢
    rw [show (2 : Int) ^ 8 = 256 by decide] at h ⊢
    rw [show (256 : Int) ^ 1 = 256 by decide]
    unfold zw3
    exact ⟨by omega, by split <;> omega⟩
  | 2, _ =>
    rw [zshr6_v hv (k := 8 * ((2 : Nat) : Int)) (m := 16) (by decide) (by omega)]
    have h := zushr6_v (v := v) (k := 8 * ((2 : Nat) : Int)) (m := 16) (by decide) (by omega)
    generalize zushr6 v (8 * ((2 : Nat) : Int)) = u at h ⊢
    rw [show (2 : Int) ^ 16 = 65536 by decide] at h ⊢
    rw [show (256 : Int) ^ 2 = 65536 by decide]
    unfold zw3
    exact ⟨by omega, by split <;> omega⟩
  | 3, _ =>
    rw [zshr6_v hv (k := 8 * ((3 : Nat) : Int)) (m := 24) (by decide) (by omega)]
    have h := zushr6_v (v := v) (k := 8 * ((3 : Nat) : Int)) (m := 24) (by decide) (by omega)
    generalize zushr6 v (8 * ((3 : Nat) : Int)) = u at h ⊢
    rw [show (2 : Int) ^ 24 = 16777216 by decide] at h ⊢
    rw [show (256 : Int) ^ 3 = 16777216 by decide]
    unfold zw3
    exact ⟨by omega, by split <;> omega⟩
  | 4, _ =>
    rw [zshr6_v hv (k := 8 * ((4 : Nat) : Int)) (m := 32) (by decide) (by omega)]
    have h := zushr6_v (v := v) (k := 8 * ((4 : Nat) : Int)) (m := 32) (by decide) (by omega)
    generalize zushr6 v (8 * ((4 : Nat) : Int)) = u at h ⊢
    rw [show (2 : Int) ^ 32 = 4294967296 by decide] at h ⊢
    rw [show (256 : Int) ^ 4 = 4294967296 by decide]
    unfold zw3
    exact ⟨by omega, by split <;> omega⟩
  | 5, _ =>
    rw [zshr6_v hv (k := 8 * ((5 : Nat) : Int)) (m := 40) (by decide) (by omega)]
    have h := zushr6_v (v := v) (k := 8 * ((5 : Nat) : Int)) (m := 40) (by decide) (by omega)
    generalize zushr6 v (8 * ((5 : Nat) : Int)) = u at h ⊢
    rw [show (2 : Int) ^ 40 = 1099511627776 by decide] at h ⊢
    rw [show (256 : Int) ^ 5 = 1099511627776 by decide]
    unfold zw3
    exact ⟨by omega, by split <;> omega⟩
  | 6, _ =>
    rw [zshr6_v hv (k := 8 * ((6 : Nat) : Int)) (m := 48) (by decide) (by omega)]
    have h := zushr6_v (v := v) (k := 8 * ((6 : Nat) : Int)) (m := 48) (by decide) (by omega)
    generalize zushr6 v (8 * ((6 : Nat) : Int)) = u at h ⊢
    rw [show (2 : Int) ^ 48 = 281474976710656 by decide] at h ⊢
    rw [show (256 : Int) ^ 6 = 281474976710656 by decide]
    unfold zw3
    exact ⟨by omega, by split <;> omega⟩
  | 7, _ =>
    rw [zshr6_v hv (k := 8 * ((7 : Nat) : Int)) (m := 56) (by decide) (by omega)]
    have h := zushr6_v (v := v) (k := 8 * ((7 : Nat) : Int)) (m := 56) (by decide) (by omega)
    generalize zushr6 v (8 * ((7 : Nat) : Int)) = u at h ⊢
    rw [show (2 : Int) ^ 56 = 72057594037927936 by decide] at h ⊢
    rw [show (256 : Int) ^ 7 = 72057594037927936 by decide]
    unfold zw3
    exact ⟨by omega, by split <;> omega⟩
  | i + 8, h => omega
theorem byt_0 (v : Int) (i : Nat) : 0 ≤ byt v i ∧ byt v i ≤ 255 := by
  unfold byt
  have h1 := Int.emod_nonneg (v / 256 ^ i) (show (256 : Int) ≠ 0 by omega)
  have h2 := Int.emod_lt_of_pos (v / 256 ^ i) (show (0 : Int) < 256 by omega)
  omega
/-- the text with k bytes of v behind -/
def fdB (B : Nat → Int) (n : Nat) (v : Int) (k : Nat) : Nat → Int := fun j => if n ≤ j ∧ j < n + k then byt v (k - 1 - (j - n)) else B j
def aFeed (n : Nat) (k : Int) : Int := if 1 ≤ k ∧ k ≤ 8 then (if 800 < (n : Int) + k then -4 else (n : Int) + k) else -2
/-- the reference's text so far -/
def TxR (I : ZI) (B : Nat → Int) (n : Nat) : Prop := I 310 2 = (n : Int) ∧ n ≤ 800 ∧ (∀ k, k < n → I 311 k = B k) ∧ ∀ k, k < n → 0 ≤ B k ∧ B k ≤ 255
theorem p_feed (hR : Rok R) {v : Int} (hv : zi6 v) (k n : Nat) (hk : k ≤ 8) (hn : n + k ≤ 800) {Q : Option ZV × ZS → Prop} : ∀ (j : Nat) (I : ZI), j ≤ k → I 310 2 = ((n + (k - j) : Nat) : Int) → (∀ i, n ≤ i → i < n + (k - j) → I 311 i = byt v (k - 1 - (i - n))) → (∀ I1, (∀ a, a ≠ 310 → a ≠ 311 → I1 a = I a) → (∀ i, i ≠ 2 → I1 310 i = I 310 i) → (∀ i, i < n → I1 311 i = I 311 i) → I1 310 2 = ((n + k : Nat) : Int) → (∀ i, n ≤ i → i < n + k → I1 311 i = byt v (k - 1 - (i - n))) → Q (some (zi ((n + k : Nat) : Int)), (c, s, I1, L, R))) → V X call mX12_feed 40 [zr (some 310), zl v, zx 0, zi (k : Int), zi ((j : Int) - 1)] [] (c, s, I, L, R) Q := by
  intro j
  induction j with
  | zero =>
    intro I hj h2 hb hQ
    rw [Nat.sub_zero] at h2 hb
    have fin := hQ I (fun _ _ _ => rfl) (fun _ _ => rfl) (fun _ _ => rfl) h2 hb
    rw [e_X12_feed_40]
    simp (disch := omega) only [e_X12_feed_0, e_X12_feed_0x, e_X12_feed_1, e_X12_feed_2, e_X12_feed_5, e_X12_feed_6, e_X12_feed_7, e_X12_feed_8, e_X12_feed_11, e_X12_feed_14, e_X12_feed_17, e_X12_feed_19, e_X12_feed_20, e_X12_feed_20x, e_X12_feed_21, e_X12_feed_24, e_X12_feed_25, e_X12_feed_26, e_X12_feed_29, e_X12_feed_32, e_X12_feed_34, e_X12_feed_35, e_X12_feed_36, e_X12_feed_37, e_X12_feed_38, e_X12_feed_42, e_X12_feed_45, e_X12_feed_45x, e_X12_feed_46, e_X12_feed_49, e_X12_feed_49x, e_X12_feed_50, e_X12_feed_53, e_X12_feed_54, e_X12_feed_56, e_X12_feed_58, e_X12_feed_59, e_X12_feed_60, e_X12_feed_63, e_X12_feed_64, e_X12_feed_65, e_X12_feed_66, e_X12_feed_66x, e_X12_feed_67, e_X12_feed_67r, e_X12_feed_68, e_X12_feed_71, e_X12_feed_72, e_X12_feed_73, e_X12_feed_76, e_X12_feed_79, e_X12_feed_82, e_X12_feed_82x, e_X12_feed_83, e_X12_feed_86, zcll_s, zpush_s, zpush_n, zinv_i, zinv_l, zinv_r, zinv_x, zcats_nil, zcats_i, zcats_l, zcats_r, zcats_x, Nat.le_refl, and_self, true_and, and_true, zok_1, zok_20, zok_21, eq_self, Nat.reduceAdd, Nat.reduceLeDiff, Nat.zero_le, if_true, if_false, zw3_id, if_pos, if_neg, zand_t, tg_310, h2]
    exact fin
  | succ j ih =>
    intro I hj h2 hb hQ
    have hby := (byt_r hv j (by omega)).1
    have e1 : ((j + 1 : Nat) : Int) - 1 = (j : Int) := by omega
    have e2 : (j : Int) + -1 = (j : Int) - 1 := by omega
    have e3 : ∀ y, zu I 311 (n + (k - (j + 1))) y 310 2 = ((n + (k - (j + 1)) : Nat) : Int) := fun y => by rw [zu_n (by omega)]; exact h2
    have e4 : ((n + (k - (j + 1)) : Nat) : Int) + 1 = ((n + (k - j) : Nat) : Int) := by omega
    rw [e1, e_X12_feed_40]
    simp (disch := omega) only [e_X12_feed_0, e_X12_feed_0x, e_X12_feed_1, e_X12_feed_2, e_X12_feed_5, e_X12_feed_6, e_X12_feed_7, e_X12_feed_8, e_X12_feed_11, e_X12_feed_14, e_X12_feed_17, e_X12_feed_19, e_X12_feed_20, e_X12_feed_20x, e_X12_feed_21, e_X12_feed_24, e_X12_feed_25, e_X12_feed_26, e_X12_feed_29, e_X12_feed_32, e_X12_feed_34, e_X12_feed_35, e_X12_feed_36, e_X12_feed_37, e_X12_feed_38, e_X12_feed_42, e_X12_feed_45, e_X12_feed_45x, e_X12_feed_46, e_X12_feed_49, e_X12_feed_49x, e_X12_feed_50, e_X12_feed_53, e_X12_feed_54, e_X12_feed_56, e_X12_feed_58, e_X12_feed_59, e_X12_feed_60, e_X12_feed_63, e_X12_feed_64, e_X12_feed_65, e_X12_feed_66, e_X12_feed_66x, e_X12_feed_67, e_X12_feed_67r, e_X12_feed_68, e_X12_feed_71, e_X12_feed_72, e_X12_feed_73, e_X12_feed_76, e_X12_feed_79, e_X12_feed_82, e_X12_feed_82x, e_X12_feed_83, e_X12_feed_86, zcll_s, zpush_s, zpush_n, zinv_i, zinv_l, zinv_r, zinv_x, zcats_nil, zcats_i, zcats_l, zcats_r, zcats_x, Nat.le_refl, and_self, true_and, and_true, zok_1, zok_20, zok_21, eq_self, Nat.reduceAdd, Nat.reduceLeDiff, Nat.zero_le, if_true, if_false, zw3_id, if_pos, if_neg, zand_t, tg_310, tg_311, tn_311, rr_310_1 hR, h2, Int.toNat_natCast, hby, e2, e3, e4]
    refine ih _ (by omega) zu_s ?_ ?_
    · intro i h3 h4
      rw [zu_n (by omega)]
      by_cases q : i = n + (k - (j + 1))
      · rw [q, zu_s]
        congr 1
        omega
      · rw [zu_k q]
        exact hb i h3 (by omega)
    · intro I1 g1 g2 g3 g4 g5
      refine hQ I1 (fun a q1 q2 => by rw [g1 a q1 q2, zu_n q1, zu_n q2]) (fun i q => by rw [g2 i q, zu_k q, zu_n (by omega)]) (fun i q => ?_) g4 g5
      rw [g3 i q, zu_n (by omega), zu_k (by omega)]
theorem c_feed (hR : Rok R) {v : Int} (hv : zi6 v) (h : TxR I B n) (k : Int) : ∃ I1, zrun X (d + 2) 114 [zr (some 310), zl v, zi k] (c, s, I, L, R) = some (some (zi (aFeed n k)), (c, s, I1, L, R)) ∧ (∀ a, a ≠ 310 → a ≠ 311 → I1 a = I a) ∧ (∀ i, i ≠ 0 → i ≠ 2 → I1 310 i = I 310 i) ∧ (if 1 ≤ k ∧ k ≤ 8 ∧ (n : Int) + k ≤ 800 then TxR I1 (fdB B n v k.toNat) (n + k.toNat) else TxR I1 B n) := by
  have h2 : zu I 310 0 0 310 2 = (n : Int) := by rw [zu_k (by omega)]; exact h.1
  have h800 := h.2.1
  have bad : ¬ (1 ≤ k ∧ k ≤ 8 ∧ (n : Int) + k ≤ 800) → zrun X (d + 2) 114 [zr (some 310), zl v, zi k] (c, s, I, L, R) = some (some (zi (aFeed n k)), (c, s, zu I 310 0 0, L, R)) → ∃ I1, zrun X (d + 2) 114 [zr (some 310), zl v, zi k] (c, s, I, L, R) = some (some (zi (aFeed n k)), (c, s, I1, L, R)) ∧ (∀ a, a ≠ 310 → a ≠ 311 → I1 a = I a) ∧ (∀ i, i ≠ 0 → i ≠ 2 → I1 310 i = I 310 i) ∧ (if 1 ≤ k ∧ k ≤ 8 ∧ (n : Int) + k ≤ 800 then TxR I1 (fdB B n v k.toNat) (n + k.toNat) else TxR I1 B n) := by
    intro hq hr
    refine ⟨_, hr, fun a q _ => zu_n q, fun i q _ => zu_k q, ?_⟩
    rw [if_neg hq]
    exact ⟨h2, h800, fun j hj => by rw [zu_n (by omega)]; exact h.2.2.1 j hj, h.2.2.2⟩
  by_cases h1 : 1 ≤ k ∧ k ≤ 8
  · by_cases h3 : 800 < (n : Int) + k
    · refine bad (by omega) ?_
      have ea : aFeed n k = -4 := by unfold aFeed; rw [if_pos h1, if_pos h3]
      rw [ea]
      refine st_X12_feed ?_
      simp (disch := omega) only [e_X12_feed_0, e_X12_feed_0x, e_X12_feed_1, e_X12_feed_2, e_X12_feed_5, e_X12_feed_6, e_X12_feed_7, e_X12_feed_8, e_X12_feed_11, e_X12_feed_14, e_X12_feed_17, e_X12_feed_19, e_X12_feed_20, e_X12_feed_20x, e_X12_feed_21, e_X12_feed_24, e_X12_feed_25, e_X12_feed_26, e_X12_feed_29, e_X12_feed_32, e_X12_feed_34, e_X12_feed_35, e_X12_feed_36, e_X12_feed_37, e_X12_feed_38, e_X12_feed_42, e_X12_feed_45, e_X12_feed_45x, e_X12_feed_46, e_X12_feed_49, e_X12_feed_49x, e_X12_feed_50, e_X12_feed_53, e_X12_feed_54, e_X12_feed_56, e_X12_feed_58, e_X12_feed_59, e_X12_feed_60, e_X12_feed_63, e_X12_feed_64, e_X12_feed_65, e_X12_feed_66, e_X12_feed_66x, e_X12_feed_67, e_X12_feed_67r, e_X12_feed_68, e_X12_feed_71, e_X12_feed_72, e_X12_feed_73, e_X12_feed_76, e_X12_feed_79, e_X12_feed_82, e_X12_feed_82x, e_X12_feed_83, e_X12_feed_86, zcll_s, zpush_s, zpush_n, zinv_i, zinv_l, zinv_r, zinv_x, zcats_nil, zcats_i, zcats_l, zcats_r, zcats_x, Nat.le_refl, and_self, true_and, and_true, zok_1, zok_20, zok_21, eq_self, Nat.reduceAdd, Nat.reduceLeDiff, Nat.zero_le, if_true, if_false, zw3_id, if_pos, if_neg, zand_t, tg_310, c_in, zB_t, h2]
    · have ea : aFeed n k = (n : Int) + k := by unfold aFeed; rw [if_pos h1, if_neg h3]
      rw [ea]
      have hc : 1 ≤ k ∧ k ≤ 8 ∧ (n : Int) + k ≤ 800 := ⟨h1.1, h1.2, by omega⟩
      have pr := sx_X12_feed (X := X) (d := d + 1) (u0 := some 310) (x1 := v) (x2 := k) (σ := (c, s, I, L, R)) (P := fun q => ∃ I1, q = (some (zi ((n : Int) + k)), (c, s, I1, L, R)) ∧ (∀ a, a ≠ 310 → a ≠ 311 → I1 a = I a) ∧ (∀ i, i ≠ 0 → i ≠ 2 → I1 310 i = I 310 i) ∧ TxR I1 (fdB B n v k.toNat) (n + k.toNat)) ?_
      · obtain ⟨r, s1, I1, s2, s3⟩ := pr
        exact ⟨I1, by rw [s1, s2], s3.1, s3.2.1, by rw [if_pos hc]; exact s3.2.2⟩
      · obtain ⟨k, rfl⟩ := Int.eq_ofNat_of_zero_le (show 0 ≤ k by omega)
        rw [Int.toNat_natCast]
        simp (disch := omega) only [e_X12_feed_0, e_X12_feed_0x, e_X12_feed_1, e_X12_feed_2, e_X12_feed_5, e_X12_feed_6, e_X12_feed_7, e_X12_feed_8, e_X12_feed_11, e_X12_feed_14, e_X12_feed_17, e_X12_feed_19, e_X12_feed_20, e_X12_feed_20x, e_X12_feed_21, e_X12_feed_24, e_X12_feed_25, e_X12_feed_26, e_X12_feed_29, e_X12_feed_32, e_X12_feed_34, e_X12_feed_35, e_X12_feed_36, e_X12_feed_37, e_X12_feed_38, e_X12_feed_42, e_X12_feed_45, e_X12_feed_45x, e_X12_feed_46, e_X12_feed_49, e_X12_feed_49x, e_X12_feed_50, e_X12_feed_53, e_X12_feed_54, e_X12_feed_56, e_X12_feed_58, e_X12_feed_59, e_X12_feed_60, e_X12_feed_63, e_X12_feed_64, e_X12_feed_65, e_X12_feed_66, e_X12_feed_66x, e_X12_feed_67, e_X12_feed_67r, e_X12_feed_68, e_X12_feed_71, e_X12_feed_72, e_X12_feed_73, e_X12_feed_76, e_X12_feed_79, e_X12_feed_82, e_X12_feed_82x, e_X12_feed_83, e_X12_feed_86, zcll_s, zpush_s, zpush_n, zinv_i, zinv_l, zinv_r, zinv_x, zcats_nil, zcats_i, zcats_l, zcats_r, zcats_x, Nat.le_refl, and_self, true_and, and_true, zok_1, zok_20, zok_21, eq_self, Nat.reduceAdd, Nat.reduceLeDiff, Nat.zero_le, if_true, if_false, zw3_id, if_pos, if_neg, zand_t, tg_310, c_in, zB_t, h2]
        refine p_feed (X := X) (call := zrun X (d + 1)) (c := c) (s := s) (L := L) hR hv k n (by omega) (by omega) k _ (Nat.le_refl _) (by rw [Nat.sub_self]; exact h2) (fun i q1 q2 => by omega) ?_
        intro I1 g1 g2 g3 g4 g5
        refine ⟨I1, by rw [show ((n + k : Nat) : Int) = (n : Int) + (k : Int) by omega], fun a q1 q2 => by rw [g1 a q1 q2, zu_n q1], fun i q1 q2 => by rw [g2 i q2, zu_k q1], g4, by omega, ?_, ?_⟩
        · intro i hi
          unfold fdB
          by_cases q : n ≤ i ∧ i < n + k
          · rw [if_pos q]; exact g5 i q.1 q.2
          · rw [if_neg q, g3 i (by omega), zu_n (by omega)]; exact h.2.2.1 i (by omega)
        · intro i hi
          unfold fdB
          by_cases q : n ≤ i ∧ i < n + k
          · rw [if_pos q]; exact byt_0 _ _
          · rw [if_neg q]; exact h.2.2.2 i (by omega)
  · refine bad (by omega) ?_
    have ea : aFeed n k = -2 := by unfold aFeed; rw [if_neg h1]
    rw [ea]
    refine st_X12_feed ?_
    simp (disch := omega) only [e_X12_feed_0, e_X12_feed_0x, e_X12_feed_1, e_X12_feed_2, e_X12_feed_5, e_X12_feed_6, e_X12_feed_7, e_X12_feed_8, e_X12_feed_11, e_X12_feed_14, e_X12_feed_17, e_X12_feed_19, e_X12_feed_20, e_X12_feed_20x, e_X12_feed_21, e_X12_feed_24, e_X12_feed_25, e_X12_feed_26, e_X12_feed_29, e_X12_feed_32, e_X12_feed_34, e_X12_feed_35, e_X12_feed_36, e_X12_feed_37, e_X12_feed_38, e_X12_feed_42, e_X12_feed_45, e_X12_feed_45x, e_X12_feed_46, e_X12_feed_49, e_X12_feed_49x, e_X12_feed_50, e_X12_feed_53, e_X12_feed_54, e_X12_feed_56, e_X12_feed_58, e_X12_feed_59, e_X12_feed_60, e_X12_feed_63, e_X12_feed_64, e_X12_feed_65, e_X12_feed_66, e_X12_feed_66x, e_X12_feed_67, e_X12_feed_67r, e_X12_feed_68, e_X12_feed_71, e_X12_feed_72, e_X12_feed_73, e_X12_feed_76, e_X12_feed_79, e_X12_feed_82, e_X12_feed_82x, e_X12_feed_83, e_X12_feed_86, zcll_s, zpush_s, zpush_n, zinv_i, zinv_l, zinv_r, zinv_x, zcats_nil, zcats_i, zcats_l, zcats_r, zcats_x, Nat.le_refl, and_self, true_and, and_true, zok_1, zok_20, zok_21, eq_self, Nat.reduceAdd, Nat.reduceLeDiff, Nat.zero_le, if_true, if_false, zw3_id, if_pos, if_neg, zand_t, tg_310, c_in, zB_f]
end
