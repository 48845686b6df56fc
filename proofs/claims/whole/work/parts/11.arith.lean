/-! Int32 and Int64 beside Int. -/
theorem zq_t3 {x : Int} (h : zi3 x) : (Int32.ofInt x).toInt = x := by
  rw [Int32.toInt_ofInt]
  unfold zi3 at h
  simp only [Int.bmod, Int32.size, Int64.size]
  omega
theorem zq_t6 {x : Int} (h : zi6 x) : (Int64.ofInt x).toInt = x := by
  rw [Int64.toInt_ofInt]
  unfold zi6 at h
  simp only [Int.bmod, Int32.size, Int64.size]
  omega
theorem zq_r3 (v : Int32) : zi3 v.toInt := ⟨Int32.le_toInt v, Int32.toInt_lt v⟩
theorem zq_r6 (v : Int64) : zi6 v.toInt := ⟨Int64.le_toInt v, Int64.toInt_lt v⟩
theorem zq_w3 (x : Int) : zi3 (zw3 x) := by unfold zi3 zw3; omega
theorem zq_w6 (x : Int) : zi6 (zw6 x) := by unfold zi6 zw6; omega
theorem zq_o3 (x : Int) : Int32.ofInt (zw3 x) = Int32.ofInt x := by
  apply Int32.toInt_inj.mp
  rw [zq_t3 (zq_w3 x), Int32.toInt_ofInt]
  unfold zw3
  simp only [Int.bmod, Int32.size, Int64.size]
  omega
theorem zq_o6 (x : Int) : Int64.ofInt (zw6 x) = Int64.ofInt x := by
  apply Int64.toInt_inj.mp
  rw [zq_t6 (zq_w6 x), Int64.toInt_ofInt]
  unfold zw6
  simp only [Int.bmod, Int32.size, Int64.size]
  omega
theorem zq_lt {x y : Int} (hx : zi3 x) (hy : zi3 y) : Int32.ofInt x < Int32.ofInt y ↔ x < y := by rw [Int32.lt_iff_toInt_lt, zq_t3 hx, zq_t3 hy]
theorem zq_le {x y : Int} (hx : zi3 x) (hy : zi3 y) : Int32.ofInt x ≤ Int32.ofInt y ↔ x ≤ y := by rw [Int32.le_iff_toInt_le, zq_t3 hx, zq_t3 hy]
theorem zq_eq {x y : Int} (hx : zi3 x) (hy : zi3 y) : Int32.ofInt x = Int32.ofInt y ↔ x = y := by rw [← Int32.toInt_inj, zq_t3 hx, zq_t3 hy]
theorem zq_lt6 {x y : Int} (hx : zi6 x) (hy : zi6 y) : Int64.ofInt x < Int64.ofInt y ↔ x < y := by rw [Int64.lt_iff_toInt_lt, zq_t6 hx, zq_t6 hy]
theorem zq_eq6 {x y : Int} (hx : zi6 x) (hy : zi6 y) : Int64.ofInt x = Int64.ofInt y ↔ x = y := by rw [← Int64.toInt_inj, zq_t6 hx, zq_t6 hy]
theorem zq_0 : Int32.ofInt 0 = 0 := by decide
theorem zq_i2l {x : Int} (hx : zi3 x) : (Int32.ofInt x).toInt64 = Int64.ofInt x := by
  apply Int64.toInt_inj.mp
  rw [Int32.toInt_toInt64, zq_t3 hx, zq_t6]
  unfold zi3 at hx; unfold zi6; omega
theorem zq_l2i {x : Int} (hx : zi6 x) : (Int64.ofInt x).toInt32 = Int32.ofInt (zw3 x) := by
  apply Int32.toInt_inj.mp
  rw [Int64.toInt_toInt32, zq_t6 hx, zq_t3 (zq_w3 x)]
  unfold zw3
  simp only [Int.bmod, Int32.size, Int64.size]
  omega
theorem zq_v3 (v : Int32) : Int32.ofInt v.toInt = v := Int32.ofInt_toInt v
theorem zq_v6 (v : Int64) : Int64.ofInt v.toInt = v := Int64.ofInt_toInt v
theorem zq_n {x : Int} (hx : zi3 x) (h0 : 0 ≤ x) : (Int32.ofInt x).toNatClampNeg = x.toNat := by
  show (Int32.ofInt x).toInt.toNat = x.toNat
  rw [zq_t3 hx]
theorem zq_in {j : Int} {n : Nat} (hj : zi3 j) (h0 : 0 ≤ j) (h1 : j < (n : Int)) : vp_in (Int32.ofInt j) n := by
  unfold vp_in
  rw [zq_n hj h0, ← zq_0, zq_lt hj (by unfold zi3; omega)]
  omega
