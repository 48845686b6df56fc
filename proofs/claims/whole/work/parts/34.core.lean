/-! Small rows for walking. -/
theorem zinv_i {x : Int} : zinv (.inl x) = .inl x := rfl
theorem zinv_l {x : Int} : zinv (.inr (.inl x)) = .inr (.inr (.inr 0)) := rfl
theorem zinv_r {x : Option Nat} : zinv (.inr (.inr (.inl x))) = .inr (.inr (.inl x)) := rfl
theorem zinv_x {k : Nat} : zinv (.inr (.inr (.inr k))) = .inr (.inr (.inr k)) := rfl
theorem zok_2 {x : Int} : zok 2 x = true ↔ x = 0 ∨ x = 1 := by simp [zok]
theorem zok_20 : zok 2 0 = true := rfl
theorem zok_21 : zok 2 1 = true := rfl
theorem zok_3 {x : Int} : zok 3 x = true ↔ 0 ≤ x ∧ x < 65536 := by simp [zok]
theorem zok_4 {x : Int} : zok 4 x = true ↔ -128 ≤ x ∧ x < 128 := by simp [zok]
theorem zw3_id {x : Int} (h1 : -2147483648 ≤ x) (h2 : x < 2147483648) : zw3 x = x := by unfold zw3; omega
theorem zw6_id {x : Int} (h1 : -9223372036854775808 ≤ x) (h2 : x < 9223372036854775808) : zw6 x = x := by unfold zw6; omega
theorem zu_d {α : Type} {f : Nat → Nat → α} {a k b j : Nat} {v : α} : zu f a k v b j = if b = a ∧ j = k then v else f b j := rfl
theorem zu_s {α : Type} {f : Nat → Nat → α} {a k : Nat} {v : α} : zu f a k v a k = v := by simp [zu]
theorem zu_a {α : Type} {f : Nat → Nat → α} {a k b j : Nat} {v : α} (h : b ≠ a) : zu f a k v b j = f b j := by simp [zu, h]
theorem zu_k {α : Type} {f : Nat → Nat → α} {a k j : Nat} {v : α} (h : j ≠ k) : zu f a k v a j = f a j := by simp [zu, h]
theorem zu_zu {α : Type} {f : Nat → Nat → α} {a k : Nat} {v w : α} : zu (zu f a k v) a k w = zu f a k w := by
  funext b j
  simp only [zu]
  split <;> rfl
/-- writing what stands there already -/
theorem zu_id {α : Type} {f : Nat → Nat → α} {a k : Nat} {v : α} (h : f a k = v) : zu f a k v = f := by
  funext b j
  simp only [zu]
  split
  · rename_i q
    rw [q.1, q.2, h]
  · rfl
theorem zcmpl_lt {x y : Int} : zcmpl x y < 0 ↔ x < y := by unfold zcmpl; split <;> (try split) <;> omega
theorem zcmpl_gt {x y : Int} : 0 < zcmpl x y ↔ y < x := by unfold zcmpl; split <;> (try split) <;> omega
theorem zcmpl_le {x y : Int} : zcmpl x y ≤ 0 ↔ x ≤ y := by unfold zcmpl; split <;> (try split) <;> omega
theorem zcmpl_ge {x y : Int} : 0 ≤ zcmpl x y ↔ y ≤ x := by unfold zcmpl; split <;> (try split) <;> omega
theorem zcmpl_eq {x y : Int} : zcmpl x y = 0 ↔ x = y := by unfold zcmpl; split <;> (try split) <;> omega
theorem zcmpl_ne {x y : Int} : zcmpl x y ≠ 0 ↔ x ≠ y := by unfold zcmpl; split <;> (try split) <;> omega
theorem zq_div6 {x y : Int} (hx : zi6 x) (h0 : 0 ≤ x) (hy : 0 < y) (hyy : zi6 y) : zdiv6 x y = x / y := by
  unfold zdiv6
  have e : Int64.ofInt x / Int64.ofInt y = Int64.ofInt (x / y) := by
    apply Int64.toInt_inj.mp
    have hb : x / y ≤ x := Int.ediv_le_self y h0
    have hb0 : 0 ≤ x / y := Int.ediv_nonneg h0 (by omega)
    rw [zq_t6 (by unfold zi6 at hx ⊢; omega), Int64.toInt_div, zq_t6 hx, zq_t6 hyy, Int.tdiv_eq_ediv_of_nonneg h0]
    unfold zi6 at hx
    rw [Int.bmod_eq_of_le (by omega) (by omega)]
  rw [e, zq_t6]
  have hb : x / y ≤ x := Int.ediv_le_self y h0
  have hb0 : 0 ≤ x / y := Int.ediv_nonneg h0 (by omega)
  unfold zi6 at hx ⊢; omega
theorem zq_rem6 {x y : Int} (hx : zi6 x) (h0 : 0 ≤ x) (hy : 0 < y) (hyy : zi6 y) : zrem6 x y = x % y := by
  have hd := zq_div6 hx h0 hy hyy
  unfold zdiv6 at hd
  unfold zrem6
  have e : Int64.ofInt x / Int64.ofInt y = Int64.ofInt (x / y) := by rw [← hd, zq_v6]
  rw [e, ← Int64.ofInt_mul, ← Int64.ofInt_sub]
  have h1 : x - x / y * y = x % y := by rw [Int.emod_def, Int.mul_comm]
  rw [h1, zq_t6]
  have := Int.emod_nonneg x (show y ≠ 0 by omega)
  have := Int.emod_lt_of_pos x hy
  unfold zi6 at hyy ⊢; omega
theorem zq_div3 {x y : Int} (hx : zi3 x) (h0 : 0 ≤ x) (hy : 0 < y) (hyy : zi3 y) : zdiv3 x y = x / y := by
  unfold zdiv3
  have e : Int32.ofInt x / Int32.ofInt y = Int32.ofInt (x / y) := by
    apply Int32.toInt_inj.mp
    have hb : x / y ≤ x := Int.ediv_le_self y h0
    have hb0 : 0 ≤ x / y := Int.ediv_nonneg h0 (by omega)
    rw [zq_t3 (by unfold zi3 at hx ⊢; omega), Int32.toInt_div, zq_t3 hx, zq_t3 hyy, Int.tdiv_eq_ediv_of_nonneg h0]
    unfold zi3 at hx
    rw [Int.bmod_eq_of_le (by omega) (by omega)]
  rw [e, zq_t3]
  have hb : x / y ≤ x := Int.ediv_le_self y h0
  have hb0 : 0 ≤ x / y := Int.ediv_nonneg h0 (by omega)
  unfold zi3 at hx ⊢; omega
theorem zq_rem3 {x y : Int} (hx : zi3 x) (h0 : 0 ≤ x) (hy : 0 < y) (hyy : zi3 y) : zrem3 x y = x % y := by
  have hd := zq_div3 hx h0 hy hyy
  unfold zdiv3 at hd
  unfold zrem3
  have e : Int32.ofInt x / Int32.ofInt y = Int32.ofInt (x / y) := by rw [← hd, zq_v3]
  rw [e, ← Int32.ofInt_mul, ← Int32.ofInt_sub]
  have h1 : x - x / y * y = x % y := by rw [Int.emod_def, Int.mul_comm]
  rw [h1, zq_t3]
  have := Int.emod_nonneg x (show y ≠ 0 by omega)
  have := Int.emod_lt_of_pos x hy
  unfold zi3 at hyy ⊢; omega
