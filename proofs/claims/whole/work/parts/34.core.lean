/-! Small rows for walking. -/
theorem zinv_i {x : Int} : zinv (.inl x) = .inl x := rfl
theorem zinv_l {x : Int} : zinv (.inr (.inl x)) = .inr (.inr (.inr 0)) := rfl
theorem zinv_r {x : Option Nat} : zinv (.inr (.inr (.inl x))) = .inr (.inr (.inl x)) := rfl
theorem zinv_x {k : Nat} : zinv (.inr (.inr (.inr k))) = .inr (.inr (.inr k)) := rfl
theorem zok_2 {x : Int} : zok 2 x = true ↔ x = 0 ∨ x = 1 := by simp [zok]
theorem zok_20 : zok 2 0 = true := rfl
theorem zok_21 : zok 2 1 = true := rfl
theorem zok_3 {x : Int} : zok 3 x = true ↔ 0 ≤ x ∧ x < 65536 := by simp [zok]
theorem zok_4 {x : Int} : zok 4 x = true ↔ -128 ≤ x ∧ x < 128 := by simp [zok]
theorem zw3_id {x : Int} (h1 : -2147483648 ≤ x) (h2 : x < 2147483648) : zw3 x = x := by unfold zw3; omega
theorem zw6_id {x : Int} (h1 : -9223372036854775808 ≤ x) (h2 : x < 9223372036854775808) : zw6 x = x := by unfold zw6; omega
theorem zu_d {α : Type} {f : Nat → Nat → α} {a k b j : Nat} {v : α} : zu f a k v b j = if b = a ∧ j = k then v else f b j := rfl
theorem zu_s {α : Type} {f : Nat → Nat → α} {a k : Nat} {v : α} : zu f a k v a k = v := by simp [zu]
theorem zu_a {α : Type} {f : Nat → Nat → α} {a k b j : Nat} {v : α} (h : b ≠ a) : zu f a k v b j = f b j := by simp [zu, h]
theorem zu_k {α : Type} {f : Nat → Nat → α} {a k j : Nat} {v : α} (h : j ≠ k) : zu f a k v a j = f a j := by simp [zu, h]
theorem zu_zu {α : Type} {f : Nat → Nat → α} {a k : Nat} {v w : α} : zu (zu f a k v) a k w = zu f a k w := by
  funext b j
  simp only [zu]
  split <;> rfl
/-- writing what stands there already -/
theorem zu_id {α : Type} {f : Nat → Nat → α} {a k : Nat} {v : α} (h : f a k = v) : zu f a k v = f := by
  funext b j
  simp only [zu]
  split
  · rename_i q
    rw [q.1, q.2, h]
  · rfl
