/-! The law, call by call (by gen_law2.py). -/
section
variable {X : ZX} {d c s c1 s1 : Nat} {I L I1 L1 I2 L2 J : ZI} {R R1 R2 R3 : ZR} {call : ZC} {i y z f : Int} {n p q b b1 w : Nat} {M : MD} {κ κ1 : CT} {B : Nat → Int} {K : Prop} {Q : Option ZV × ZS → Prop}
theorem ClA_d (h : ClA K I R b M) (hI : ∀ a, a < 310 ∨ a = 337 → a ≠ 275 → I1 a = I a) : ClA K I1 R b M := by
  rcases h with ⟨hK, h⟩ | ⟨hK, h⟩
  · obtain ⟨k1, k2, k3, k4, k5, k6, k7, k8⟩ := h
    refine Or.inl ⟨hK, k1, k2, k3, k4, k5, ClM_c k7 (fun a q1 q2 => hI a (by omega) (by omega)) k6, k7, fun st hst => ?_⟩
    rcases k8 st hst with g | ⟨g1, g2, g3⟩
    · exact Or.inl (by rw [hI 266 (by omega) (by omega)]; exact g)
    · refine Or.inr ⟨by rw [hI 266 (by omega) (by omega)]; exact g1, fun g hg => by rw [hI 266 (by omega) (by omega)]; exact g2 g hg, fun e e0 e1 => by rw [hI 337 (by omega) (by omega)]; exact g3 e e0 e1⟩
  · obtain ⟨k1, k2, k3, k4, k5, k6, k7, k8⟩ := h
    have eb := hI b (by omega) (by omega)
    exact Or.inr ⟨hK, k1, k2, k3, k4, k5, by rw [eb]; exact k6, by rw [eb]; exact k7, by rw [eb]; exact k8⟩
theorem ClA_e (h : ClA K I R b M) (hI : ∀ a, a < 310 ∨ a = 337 → a ≠ 1 → a ≠ 2 → I1 a = I a) : ClA K I1 R b M := by
  rcases h with ⟨hK, h⟩ | ⟨hK, h⟩
  · obtain ⟨k1, k2, k3, k4, k5, k6, k7, k8⟩ := h
    refine Or.inl ⟨hK, k1, k2, k3, k4, k5, ClM_c k7 (fun a q1 q2 => hI a (by omega) (by omega) (by omega)) k6, k7, fun st hst => ?_⟩
    rcases k8 st hst with g | ⟨g1, g2, g3⟩
    · exact Or.inl (by rw [hI 266 (by omega) (by omega) (by omega)]; exact g)
    · refine Or.inr ⟨by rw [hI 266 (by omega) (by omega) (by omega)]; exact g1, fun g hg => by rw [hI 266 (by omega) (by omega) (by omega)]; exact g2 g hg, fun e e0 e1 => by rw [hI 337 (by omega) (by omega) (by omega)]; exact g3 e e0 e1⟩
  · obtain ⟨k1, k2, k3, k4, k5, k6, k7, k8⟩ := h
    have eb := hI b (by omega) (by omega) (by omega)
    exact Or.inr ⟨hK, k1, k2, k3, k4, k5, by rw [eb]; exact k6, by rw [eb]; exact k7, by rw [eb]; exact k8⟩
def LN (X : ZX) (i : Int) (Q : Option ZV × ZS → Prop) : Prop := ∀ c1 s1 I2 L2 R1, LI c1 s1 I2 L2 R1 → V X (zrun X 14) mL_law 18 [zx 1, zr (some 0), zr (some 310), zi (i + 7)] [] (c1, s1, I2, L2, R1) Q
theorem lc_5 (hX : X.1 ≤ 3584) (h0 : 0 ≤ i) (h1 : i + 7 ≤ (X.1 : Int)) (h : LI c s I L R) (nx : LN X i Q) : V X (zrun X 14) mL_law 33 [zx 1, zr (some 0), zr (some 310), zi i] [zi 5] (c, s, I, L, R) Q := by
  obtain ⟨K, z, f, b, b1, w, n, p, q, M, κ, B, hC, hr, hk⟩ := h
  have hA := hC.1
  have hR := ClA_R hA
  have hO := hC.2.2.2.1
  have hz := hC.2.2.2.2.2.2.2.1
  obtain ⟨I1, L1, g1, g2⟩ := k_holds (X := X) (d := 7) (c := c) (s := s) (L := L) hA (X.2 (i + 1).toNat) (X.2 (i + 2).toNat) (X.2 (i + 3).toNat)
  obtain ⟨hC1, hr1⟩ := ls_k hC hr hk g2.2 (KW_I g2.1).1 (KW_I g2.1).2 hC.2.2.2.2.1
  obtain ⟨I2, L2, e1, e2⟩ := c_holds (X := X) (d := 10) (c := c) (s := s) (L := L1) hR hr1.1 (X.2 (i + 1).toNat) (X.2 (i + 2).toNat) (X.2 (i + 3).toNat)
  rw [hz] at g1
  rw [hr1.2.1, hr1.2.2.2.2.1] at e1
  exact lw_5 h0 h1 hX g1 (Nat.le_refl _) (Nat.le_refl _) e1 (nx _ _ _ _ _ (ls_r hC1 hr1 hk e2))
theorem lc_6 (hX : X.1 ≤ 3584) (h0 : 0 ≤ i) (h1 : i + 7 ≤ (X.1 : Int)) (h : LI c s I L R) (nx : LN X i Q) : V X (zrun X 14) mL_law 33 [zx 1, zr (some 0), zr (some 310), zi i] [zi 6] (c, s, I, L, R) Q := by
  obtain ⟨K, z, f, b, b1, w, n, p, q, M, κ, B, hC, hr, hk⟩ := h
  have hA := hC.1
  have hR := ClA_R hA
  have hO := hC.2.2.2.1
  have hz := hC.2.2.2.2.2.2.2.1
  obtain ⟨I1, L1, g1, g2⟩ := k_value (X := X) (d := 8) (c := c) (s := s) (L := L) hA (X.2 (i + 1).toNat) (X.2 (i + 2).toNat) (X.2 (i + 3).toNat)
  obtain ⟨hC1, hr1⟩ := ls_k hC hr hk g2.2 (KW_I g2.1).1 (KW_I g2.1).2 hC.2.2.2.2.1
  obtain ⟨I2, L2, e1, e2⟩ := c_value (X := X) (d := 11) (c := c) (s := s) (L := L1) hR hr1.1 (X.2 (i + 1).toNat) (X.2 (i + 2).toNat) (X.2 (i + 3).toNat)
  rw [hz] at g1
  rw [hr1.2.1, hr1.2.2.2.2.1] at e1
  exact lw_6 h0 h1 hX g1 (Nat.le_refl _) (Nat.le_refl _) e1 (nx _ _ _ _ _ (ls_r hC1 hr1 hk e2))
theorem lc_7 (hX : X.1 ≤ 3584) (h0 : 0 ≤ i) (h1 : i + 7 ≤ (X.1 : Int)) (h : LI c s I L R) (nx : LN X i Q) : V X (zrun X 14) mL_law 33 [zx 1, zr (some 0), zr (some 310), zi i] [zi 7] (c, s, I, L, R) Q := by
  obtain ⟨K, z, f, b, b1, w, n, p, q, M, κ, B, hC, hr, hk⟩ := h
  have hA := hC.1
  have hR := ClA_R hA
  have hO := hC.2.2.2.1
  have hz := hC.2.2.2.2.2.2.2.1
  obtain ⟨I1, L1, g1, g2⟩ := k_goes (X := X) (d := 8) (c := c) (s := s) (L := L) hA (X.2 (i + 1).toNat) (X.2 (i + 2).toNat)
  obtain ⟨hC1, hr1⟩ := ls_k hC hr hk g2.2 (KW_I g2.1).1 (KW_I g2.1).2 hC.2.2.2.2.1
  obtain ⟨I2, L2, e1, e2⟩ := c_goes (X := X) (d := 11) (c := c) (s := s) (L := L1) hR hr1.1 (X.2 (i + 1).toNat) (X.2 (i + 2).toNat)
  rw [hz] at g1
  rw [hr1.2.1, hr1.2.2.2.2.1] at e1
  exact lw_7 h0 h1 hX g1 (Nat.le_refl _) (Nat.le_refl _) e1 (nx _ _ _ _ _ (ls_r hC1 hr1 hk e2))
theorem lc_13 (hX : X.1 ≤ 3584) (h0 : 0 ≤ i) (h1 : i + 7 ≤ (X.1 : Int)) (h : LI c s I L R) (nx : LN X i Q) : V X (zrun X 14) mL_law 33 [zx 1, zr (some 0), zr (some 310), zi i] [zi 13] (c, s, I, L, R) Q := by
  obtain ⟨K, z, f, b, b1, w, n, p, q, M, κ, B, hC, hr, hk⟩ := h
  have hA := hC.1
  have hR := ClA_R hA
  have hO := hC.2.2.2.1
  have hz := hC.2.2.2.2.2.2.2.1
  obtain ⟨I1, L1, g1, g2⟩ := k_both (X := X) (d := 7) (c := c) (s := s) (L := L) hA (X.2 (i + 1).toNat) (X.2 (i + 2).toNat) (X.2 (i + 3).toNat) (X.2 (i + 4).toNat) (X.2 (i + 5).toNat)
  obtain ⟨hC1, hr1⟩ := ls_k hC hr hk g2.2 (KW_I g2.1).1 (KW_I g2.1).2 hC.2.2.2.2.1
  obtain ⟨I2, L2, e1, e2⟩ := c_both (X := X) (d := 10) (c := c) (s := s) (L := L1) hR hr1.1 (X.2 (i + 1).toNat) (X.2 (i + 2).toNat) (X.2 (i + 3).toNat) (X.2 (i + 4).toNat) (X.2 (i + 5).toNat)
  rw [hz] at g1
  rw [hr1.2.1, hr1.2.2.2.2.1] at e1
  exact lw_13 h0 h1 hX g1 (Nat.le_refl _) (Nat.le_refl _) e1 (nx _ _ _ _ _ (ls_r hC1 hr1 hk e2))
theorem lc_16 (hX : X.1 ≤ 3584) (h0 : 0 ≤ i) (h1 : i + 7 ≤ (X.1 : Int)) (h : LI c s I L R) (nx : LN X i Q) : V X (zrun X 14) mL_law 33 [zx 1, zr (some 0), zr (some 310), zi i] [zi 16] (c, s, I, L, R) Q := by
  obtain ⟨K, z, f, b, b1, w, n, p, q, M, κ, B, hC, hr, hk⟩ := h
  have hA := hC.1
  have hR := ClA_R hA
  have hO := hC.2.2.2.1
  have hz := hC.2.2.2.2.2.2.2.1
  obtain ⟨I1, L1, g1, g2⟩ := k_test (X := X) (d := 7) (c := c) (s := s) (L := L) hA hO (X.2 (i + 1).toNat) (X.2 (i + 2).toNat) (X.2 (i + 3).toNat) (X.2 (i + 4).toNat) (X.2 (i + 5).toNat) (X.2 (i + 6).toNat)
  obtain ⟨hC1, hr1⟩ := ls_k hC hr hk g2.2 (KW_I g2.1).1 (KW_I g2.1).2 hC.2.2.2.2.1
  obtain ⟨I2, L2, e1, e2⟩ := c_test (X := X) (d := 10) (c := c) (s := s) (L := L1) hR hr1.1 (X.2 (i + 1).toNat) (X.2 (i + 2).toNat) (X.2 (i + 3).toNat) (X.2 (i + 4).toNat) (X.2 (i + 5).toNat) (X.2 (i + 6).toNat)
  rw [hz] at g1
  rw [hr1.2.1, hr1.2.2.2.2.1] at e1
  exact lw_16 h0 h1 hX g1 (Nat.le_refl _) (Nat.le_refl _) e1 (nx _ _ _ _ _ (ls_r hC1 hr1 hk e2))
theorem lc_17 (hX : X.1 ≤ 3584) (h0 : 0 ≤ i) (h1 : i + 7 ≤ (X.1 : Int)) (h : LI c s I L R) (nx : LN X i Q) : V X (zrun X 14) mL_law 33 [zx 1, zr (some 0), zr (some 310), zi i] [zi 17] (c, s, I, L, R) Q := by
  obtain ⟨K, z, f, b, b1, w, n, p, q, M, κ, B, hC, hr, hk⟩ := h
  have hA := hC.1
  have hR := ClA_R hA
  have hO := hC.2.2.2.1
  have hz := hC.2.2.2.2.2.2.2.1
  obtain ⟨I1, L1, g1, g2, g3⟩ := k_split (X := X) (d := 6) (c := c) (s := s) (L := L) hA (X.2 (i + 1).toNat) (X.2 (i + 2).toNat) (X.2 (i + 3).toNat) (X.2 (i + 4).toNat) (X.2 (i + 5).toNat) (X.2 (i + 6).toNat)
  obtain ⟨hC1, hr1⟩ := ls_k hC hr hk g3 (KP_I g2).1 (KP_I g2).2 hC.2.2.2.2.1
  obtain ⟨I2, L2, e1, e2⟩ := c_split (X := X) (d := 11) (c := c) (s := s) (L := L1) hR hr1.1 (X.2 (i + 1).toNat) (X.2 (i + 2).toNat) (X.2 (i + 3).toNat) (X.2 (i + 4).toNat) (X.2 (i + 5).toNat) (X.2 (i + 6).toNat)
  rw [hz] at g1
  rw [hr1.2.1, hr1.2.2.2.2.1] at e1
  exact lw_17 h0 h1 hX g1 (Nat.le_refl _) (Nat.le_refl _) e1 (nx _ _ _ _ _ (ls_r hC1 hr1 hk e2))
theorem lc_8 (hX : X.1 ≤ 3584) (h0 : 0 ≤ i) (h1 : i + 7 ≤ (X.1 : Int)) (h : LI c s I L R) (nx : LN X i Q) : V X (zrun X 14) mL_law 33 [zx 1, zr (some 0), zr (some 310), zi i] [zi 8] (c, s, I, L, R) Q := by
  obtain ⟨K, z, f, b, b1, w, n, p, q, M, κ, B, hC, hr, hk⟩ := h
  have hA := hC.1
  have hR := ClA_R hA
  have hO := hC.2.2.2.1
  have hz := hC.2.2.2.2.2.2.2.1
  obtain ⟨I1, L1, R1, p1, q1, g1, g2, g3, g4⟩ := k_exact (X := X) (d := 6) (c := c) (s := s) (L := L) hA hC.2.2.2.2.1 (X.2 (i + 1).toNat) (X.2 (i + 2).toNat)
  obtain ⟨hC1, hr1⟩ := ls_k hC hr hk g4 (KR_I g2).1 (KR_I g2).2 g3
  obtain ⟨I2, L2, e1, e2⟩ := c_exact (X := X) (d := 10) (c := c) (s := s) (L := L1) (ClA_R g4) hr1.1 (X.2 (i + 1).toNat) (X.2 (i + 2).toNat)
  rw [hr1.2.1] at e1
  exact lw_8 h0 h1 hX g1 (Nat.le_refl _) (Nat.le_refl _) e1 (nx _ _ _ _ _ (ls_r hC1 hr1 hk e2))
theorem lc_9 (hX : X.1 ≤ 3584) (h0 : 0 ≤ i) (h1 : i + 7 ≤ (X.1 : Int)) (h : LI c s I L R) (nx : LN X i Q) : V X (zrun X 14) mL_law 33 [zx 1, zr (some 0), zr (some 310), zi i] [zi 9] (c, s, I, L, R) Q := by
  obtain ⟨K, z, f, b, b1, w, n, p, q, M, κ, B, hC, hr, hk⟩ := h
  have hA := hC.1
  have hR := ClA_R hA
  have hO := hC.2.2.2.1
  have hz := hC.2.2.2.2.2.2.2.1
  obtain ⟨I1, L1, R1, p1, q1, g1, g2, g3, g4⟩ := k_sum (X := X) (d := 6) (c := c) (s := s) (L := L) hA hC.2.2.2.2.1 (X.2 (i + 1).toNat) (X.2 (i + 2).toNat)
  obtain ⟨hC1, hr1⟩ := ls_k hC hr hk g4 (KR_I g2).1 (KR_I g2).2 g3
  obtain ⟨I2, L2, e1, e2⟩ := c_sum (X := X) (d := 10) (c := c) (s := s) (L := L1) (ClA_R g4) hr1.1 (X.2 (i + 1).toNat) (X.2 (i + 2).toNat)
  rw [hr1.2.1] at e1
  exact lw_9 h0 h1 hX g1 (Nat.le_refl _) (Nat.le_refl _) e1 (nx _ _ _ _ _ (ls_r hC1 hr1 hk e2))
theorem lc_10 (hX : X.1 ≤ 3584) (h0 : 0 ≤ i) (h1 : i + 7 ≤ (X.1 : Int)) (h : LI c s I L R) (nx : LN X i Q) : V X (zrun X 14) mL_law 33 [zx 1, zr (some 0), zr (some 310), zi i] [zi 10] (c, s, I, L, R) Q := by
  obtain ⟨K, z, f, b, b1, w, n, p, q, M, κ, B, hC, hr, hk⟩ := h
  have hA := hC.1
  have hR := ClA_R hA
  have hO := hC.2.2.2.1
  have hz := hC.2.2.2.2.2.2.2.1
  obtain ⟨I1, g1, g2, g3⟩ := k_reached (X := X) (d := 7) (c := c) (s := s) (L := L) hA
  obtain ⟨hC1, hr1⟩ := ls_k (L1 := L) hC hr hk g3 (KS_I g2) (fun _ _ _ _ => rfl) hC.2.2.2.2.1
  obtain ⟨I2, e1, e2⟩ := c_reached (X := X) (d := 11) (c := c) (s := s) (L := L) hR hr1.1
  rw [hr1.2.1] at e1
  exact lw_10 h0 h1 hX g1 (Nat.le_refl _) (Nat.le_refl _) e1 (nx _ _ _ _ _ (ls_r hC1 hr1 hk e2))
theorem lc_4 (hX : X.1 ≤ 3584) (h0 : 0 ≤ i) (h1 : i + 7 ≤ (X.1 : Int)) (h : LI c s I L R) (nx : LN X i Q) : V X (zrun X 14) mL_law 33 [zx 1, zr (some 0), zr (some 310), zi i] [zi 4] (c, s, I, L, R) Q := by
  obtain ⟨K, z, f, b, b1, w, n, p, q, M, κ, B, hC, hr, hk⟩ := h
  have hA := hC.1
  have hR := ClA_R hA
  have hO := hC.2.2.2.1
  have hz := hC.2.2.2.2.2.2.2.1
  have g1 := k_count (X := X) (d := 12) (c := c) (s := s) (L := L) hA (X.2 (i + 1).toNat)
  have e1 := c_count (X := X) (d := 12) (c := c) (s := s) (L := L) hR hr.1 (X.2 (i + 1).toNat)
  rw [hr.2.1] at e1
  exact lw_4 h0 h1 hX g1 (Nat.le_refl _) (Nat.le_refl _) e1 (nx _ _ _ _ _ (ls_r hC hr hk RF_0))
theorem lc_18 (hX : X.1 ≤ 3584) (h0 : 0 ≤ i) (h1 : i + 7 ≤ (X.1 : Int)) (h : LI c s I L R) (nx : LN X i Q) : V X (zrun X 14) mL_law 33 [zx 1, zr (some 0), zr (some 310), zi i] [zi 18] (c, s, I, L, R) Q := by
  obtain ⟨K, z, f, b, b1, w, n, p, q, M, κ, B, hC, hr, hk⟩ := h
  have hA := hC.1
  have hR := ClA_R hA
  have hO := hC.2.2.2.1
  have hz := hC.2.2.2.2.2.2.2.1
  have g1 := k_moves (X := X) (d := 11) (c := c) (s := s) (L := L) hA (X.2 (i + 1).toNat)
  have e1 := c_moves (X := X) (d := 11) (c := c) (s := s) (L := L) hR hr.1 (X.2 (i + 1).toNat)
  rw [hr.2.1] at e1
  exact lw_18 h0 h1 hX g1 (Nat.le_refl _) (Nat.le_refl _) e1 (nx _ _ _ _ _ (ls_r hC hr hk RF_0))
theorem lc_2 (hX : X.1 ≤ 3584) (h0 : 0 ≤ i) (h1 : i + 7 ≤ (X.1 : Int)) (h : LI c s I L R) (nx : LN X i Q) : V X (zrun X 14) mL_law 33 [zx 1, zr (some 0), zr (some 310), zi i] [zi 2] (c, s, I, L, R) Q := by
  obtain ⟨K, z, f, b, b1, w, n, p, q, M, κ, B, hC, hr, hk⟩ := h
  have hA := hC.1
  have hR := ClA_R hA
  have hO := hC.2.2.2.1
  have hz := hC.2.2.2.2.2.2.2.1
  have g1 := k_fault (X := X) (d := 13) (c := c) (s := s) (I := I) (L := L) (R := R)
  have e1 := c_fault (X := X) (d := 13) (c := c) (s := s) (I := I) (L := L) (R := R)
  rw [hC.2.2.2.2.2.2.2.2.1] at g1
  rw [hr.2.2.2.2.2] at e1
  exact lw_2 h0 h1 hX g1 (Nat.le_refl _) (Nat.le_refl _) e1 (nx _ _ _ _ _ (ls_r hC hr hk RF_0))
theorem lc_12 (hX : X.1 ≤ 3584) (h0 : 0 ≤ i) (h1 : i + 7 ≤ (X.1 : Int)) (h : LI c s I L R) (nx : LN X i Q) : V X (zrun X 14) mL_law 33 [zx 1, zr (some 0), zr (some 310), zi i] [zi 12] (c, s, I, L, R) Q := by
  obtain ⟨K, z, f, b, b1, w, n, p, q, M, κ, B, hC, hr, hk⟩ := h
  have hA := hC.1
  have hR := ClA_R hA
  have hO := hC.2.2.2.1
  have hz := hC.2.2.2.2.2.2.2.1
  have g1 := k_told (X := X) (d := 13) (c := c) (s := s) hR hC.2.1 (X.2 (i + 1).toNat)
  have e1 := c_told (X := X) (d := 13) (c := c) (s := s) (L := L) (R := R) hr.2.2.1 (X.2 (i + 1).toNat)
  exact lw_12 h0 h1 hX g1 (Nat.le_refl _) (Nat.le_refl _) e1 (nx _ _ _ _ _ (ls_r hC hr hk RF_0))
theorem lc_14 (hX : X.1 ≤ 3584) (h0 : 0 ≤ i) (h1 : i + 7 ≤ (X.1 : Int)) (h : LI c s I L R) (nx : LN X i Q) : V X (zrun X 14) mL_law 33 [zx 1, zr (some 0), zr (some 310), zi i] [zi 14] (c, s, I, L, R) Q := by
  obtain ⟨K, z, f, b, b1, w, n, p, q, M, κ, B, hC, hr, hk⟩ := h
  have hA := hC.1
  have hR := ClA_R hA
  have hO := hC.2.2.2.1
  have hz := hC.2.2.2.2.2.2.2.1
  have g1 := k_ends (X := X) (d := 10) (c := c) (s := s) (I := I) hR hO (X.2 (i + 1).toNat) (X.2 (i + 2).toNat) (X.2 (i + 3).toNat) (X.2 (i + 4).toNat)
  have e1 := c_ends (X := X) (d := 9) (c := c) (s := s) (I := I) (L := L) (R := R) (X.2 (i + 1).toNat) (X.2 (i + 2).toNat) (X.2 (i + 3).toNat) (X.2 (i + 4).toNat)
  exact lw_14 h0 h1 hX g1 (Nat.le_refl _) (Nat.le_refl _) e1 (nx _ _ _ _ _ (ls_r hC hr hk RF_0))
theorem lc_15 (hX : X.1 ≤ 3584) (h0 : 0 ≤ i) (h1 : i + 7 ≤ (X.1 : Int)) (h : LI c s I L R) (nx : LN X i Q) : V X (zrun X 14) mL_law 33 [zx 1, zr (some 0), zr (some 310), zi i] [zi 15] (c, s, I, L, R) Q := by
  obtain ⟨K, z, f, b, b1, w, n, p, q, M, κ, B, hC, hr, hk⟩ := h
  have hA := hC.1
  have hR := ClA_R hA
  have hO := hC.2.2.2.1
  have hz := hC.2.2.2.2.2.2.2.1
  have g1 := k_misses (X := X) (d := 9) (c := c) (s := s) (I := I) hR hO (X.2 (i + 1).toNat) (X.2 (i + 2).toNat) (X.2 (i + 3).toNat)
  have e1 := c_misses (X := X) (d := 9) (c := c) (s := s) (I := I) (L := L) (R := R) (X.2 (i + 1).toNat) (X.2 (i + 2).toNat) (X.2 (i + 3).toNat)
  exact lw_15 h0 h1 hX g1 (Nat.le_refl _) (Nat.le_refl _) e1 (nx _ _ _ _ _ (ls_r hC hr hk RF_0))
theorem mBl_3 : ∀ (j : Nat) (i a e : Int), zi3 a → zi3 e → zi3 (mBl M z f y j i a e).1 ∧ zi3 (mBl M z f y j i a e).2 := by
  intro j
  induction j with
  | zero => intro i a e ha he; exact ⟨ha, he⟩
  | succ j ih =>
    intro i a e ha he
    unfold mBl
    refine ih _ _ _ ?_ ?_
    · split
      · exact ha
      · exact zw3_in _
    · split
      · exact he
      · exact zw3_in _
theorem CtK_0 {g n : Int} : CtK (ct0 g n) := ⟨zi3_0, zi3_0, zi3_0, fun _ _ => Or.inl rfl⟩
theorem CtK_b {g n b : Int} (h : CtK κ) : CtK (mBlock M z g n b κ) := by
  have ht : CtK (mTurn g n κ) := by
    unfold mTurn
    split
    · exact h
    · exact CtK_0
  unfold mBlock mB1
  generalize mTurn g n κ = κ1 at ht
  split
  · refine ⟨zw3_in _, (mBl_3 _ _ _ _ ht.2.1 ht.2.2.1).1, (mBl_3 _ _ _ _ ht.2.1 ht.2.2.1).2, fun k hk => ?_⟩
    show (if k = b.toNat then (1 : Int) else κ1.2.2.2.2.2 k) = 0 ∨ _
    by_cases q : k = b.toNat
    · exact Or.inr (if_pos q)
    · rw [if_neg q]
      rcases ht.2.2.2 k hk with u | u
      · exact Or.inl u
      · refine Or.inr ?_
        show (if k = b.toNat then (1 : Int) else κ1.2.2.2.2.2 k) = 1
        rw [if_neg q]
        exact u
  · exact ht
theorem CI_b (h : CI K z f c s I L R b b1 n p q M κ B) (hA : ClA K I1 R b M) (hB : KB I L I1 L1) (hc : CtC I1 L1 κ1) : CI K z f c s I1 L1 R b b1 n p q M κ1 B := by
  obtain ⟨h1, h2, h3, h4, h5, h6, h7, h8, h9, h10⟩ := h
  exact ⟨hA, hc, TxC_c h3 (hB.1 _ (by omega) (by omega) (by omega) (by omega) (by omega) (by omega)) (hB.1 _ (by omega) (by omega) (by omega) (by omega) (by omega) (by omega)), Odd_c h4 (fun a _ _ => hB.2 a (by omega) (by omega)), h5, h6, h7, by rw [hB.2 0 (by omega) (by omega)]; exact h8, by rw [hB.1 0 (by omega) (by omega) (by omega) (by omega) (by omega) (by omega)]; exact h9, h10⟩
theorem RI_0 (h : RI K z f I L w n M κ B) (hF : RF0 I L I1 L1) (hc : CtR I1 κ1) : RI K z f I1 L1 w n M κ1 B := by
  obtain ⟨h1, h2, h3, h4, h5, h6⟩ := h
  obtain ⟨f1, f2, f3, f4⟩ := hF
  exact ⟨RefT_c h1 (fun a _ _ => f2 a (by omega) (by omega)) (f3 12 (by omega)) (f3 14 (by omega)), by rw [f3 14 (by omega)]; exact h2, hc, TxR_c h4 (f3 2 (by omega)) (f2 _ (by omega) (by omega)), by rw [f4]; exact h5, by rw [f3 3 (by omega)]; exact h6⟩
theorem RI_n (h : RI K z f I L w n M κ B) (hc : CtR I κ1) : RI K z f I L w n M κ1 B := ⟨h.1, h.2.1, hc, h.2.2.2⟩
theorem lc_11 (hX : X.1 ≤ 3584) (h0 : 0 ≤ i) (h1 : i + 7 ≤ (X.1 : Int)) (h : LI c s I L R) (nx : LN X i Q) : V X (zrun X 14) mL_law 33 [zx 1, zr (some 0), zr (some 310), zi i] [zi 11] (c, s, I, L, R) Q := by
  obtain ⟨K, z, f, b, b1, w, n, p, q, M, κ, B, hC, hr, hk⟩ := h
  have hA := hC.1
  have hR := ClA_R hA
  have hO := hC.2.2.2.1
  have hz := hC.2.2.2.2.2.2.2.1
  obtain ⟨I1, L1, g1, g2, g3, g4⟩ := k_block (X := X) (d := 7) (c := c) (s := s) hA hC.2.1 (X.2 (i + 1).toNat) (X.2 (i + 2).toNat) (X.2 (i + 3).toNat)
  have hr1 : RI K z f I1 L1 w n M κ B := RI_k hr (fun a q1 q2 => g2.1 a (by omega) (by omega) (by omega) (by omega) (by omega) q2) (g2.2 310 (by omega) (by omega))
  obtain ⟨I2, L2, e1, e2, e3⟩ := c_block (X := X) (d := 10) (c := c) (s := s) (L := L1) hR hr1.1 hr1.2.2.1 hk (X.2 (i + 1).toNat) (X.2 (i + 2).toNat) (X.2 (i + 3).toNat)
  rw [hz] at g1 g4
  rw [hr1.2.1, hr1.2.2.2.2.1] at e1 e3
  have hC1 := CI_b hC g3 g2 g4
  refine lw_11 h0 h1 hX g1 (Nat.le_refl _) (Nat.le_refl _) e1 (nx _ _ _ _ _ ⟨K, z, f, b, b1, w, n, p, q, M, _, B, CI_r hC1 (fun a q => (e2.1 a q).1) (fun a q => (e2.1 a (Or.inl q)).2), RI_0 hr1 e2 e3, ?_⟩)
  split
  · exact CtK_b hk
  · exact hk
theorem lc_3 (hX : X.1 ≤ 3584) (h0 : 0 ≤ i) (h1 : i + 7 ≤ (X.1 : Int)) (h : LI c s I L R) (nx : LN X i Q) : V X (zrun X 14) mL_law 33 [zx 1, zr (some 0), zr (some 310), zi i] [zi 3] (c, s, I, L, R) Q := by
  obtain ⟨K, z, f, b, b1, w, n, p, q, M, κ, B, hC, hr, hk⟩ := h
  have hA := hC.1
  have hR := ClA_R hA
  have hO := hC.2.2.2.1
  have hz := hC.2.2.2.2.2.2.2.1
  obtain ⟨I1, L1, g1, g2, g3⟩ := k_seed (X := X) (d := 11) (c := c) (s := s) (I := I) (L := L) hR (wW X i)
  obtain ⟨I2, e1, e2, e3⟩ := c_seed (X := X) (d := 12) (c := c) (s := s) (I := I1) (L := L1) hR (wW X i)
  have hL : ∀ a, a ≠ 0 → a ≠ 276 → L1 a = L a := fun a q1 q2 => by rw [g2.2 a q2, zu_n q1]
  have hr1 : RI K z f I1 L1 w n M κ B := RI_k hr (fun a q1 q2 => g2.1 a (by omega)) (hL 310 (by omega) (by omega))
  have hr2 := RI_0 hr1 e2 e3
  obtain ⟨h1', h2, h3, h4, h5, h6, h7, h8, h9, h10⟩ := hC
  have eI : ∀ a, a < 310 ∨ a = 337 → a ≠ 275 → I2 a = I a := fun a q1 q2 => by rw [(e2.1 a q1).1, g2.1 a q2]
  have hC2 : CI K (wW X i) f c s I2 (zu L1 310 31 (wW X i)) R b b1 n p q M (ct0 (-1) (-1)) B := by
    refine ⟨?_, ?_, ?_, Odd_c h4 (fun a _ _ => by rw [zu_n (by omega)]; exact hL a (by omega) (by omega)), h5, h6, h7, ?_, ?_, h10⟩
    · refine ClA_c (I := I1) ?_ (fun a q => (e2.1 a q).1)
      refine ClA_d h1' (fun a q1 q2 => g2.1 a q2)
    · exact CtC_c g3 (e2.1 275 (by omega)).1 (zu_n (by omega))
    · exact TxC_c h3 (eI 1 (by omega) (by omega)) (eI 2 (by omega) (by omega))
    · rw [zu_n (by omega), g2.2 0 (by omega), zu_s]
    · rw [eI 0 (by omega) (by omega)]; exact h9
  have hr3 : RI K (wW X i) f I2 (zu L1 310 31 (wW X i)) w n M (ct0 (-1) (-1)) B := ⟨hr2.1, hr2.2.1, hr2.2.2.1, hr2.2.2.2.1, zu_s, hr2.2.2.2.2.2⟩
  exact lw_3 h0 h1 hX g1 (Nat.le_refl _) (Nat.le_refl _) e1 (nx _ _ _ _ _ ⟨K, _, f, b, b1, w, n, p, q, M, _, B, hC2, hr3, CtK_0⟩)
theorem lc_0 (hX : X.1 ≤ 3584) (h0 : 0 ≤ i) (h1 : i + 7 ≤ (X.1 : Int)) (h : LI c s I L R) (nx : LN X i Q) : V X (zrun X 14) mL_law 33 [zx 1, zr (some 0), zr (some 310), zi i] [zi 0] (c, s, I, L, R) Q := by
  obtain ⟨K, z, f, b, b1, w, n, p, q, M, κ, B, hC, hr, hk⟩ := h
  have hA := hC.1
  have hR := ClA_R hA
  have hO := hC.2.2.2.1
  have hz := hC.2.2.2.2.2.2.2.1
  obtain ⟨I1, g1, g2, g3⟩ := k_feed (X := X) (d := 12) (c := c) (s := s) (L := L) hR (wW_6 (X := X) (i := i)) hC.2.2.1 (X.2 (i + 3).toNat)
  have hr1 : RI K z f I1 L w n M κ B := RI_k hr (fun a q1 q2 => g2 a (by omega) (by omega)) rfl
  obtain ⟨I2, e1, e2, e3, e4⟩ := c_feed (X := X) (d := 12) (c := c) (s := s) (L := L) hR (wW_6 (X := X) (i := i)) hr1.2.2.2.1 (X.2 (i + 3).toNat)
  obtain ⟨h1', h2, h3, h4, h5, h6, h7, h8, h9, h10⟩ := hC
  have eI : ∀ a, a < 310 ∨ a = 337 → a ≠ 1 → a ≠ 2 → I2 a = I a := fun a q1 q2 q3 => by rw [e2 a (by omega) (by omega), g2 a q2 q3]
  have go : ∀ (B1 : Nat → Int) (n1 : Nat), TxC I1 B1 n1 → TxR I2 B1 n1 → LI c s I2 L R := by
    intro B1 n1 t1 t2
    refine ⟨K, z, f, b, b1, w, n1, p, q, M, κ, B1, ⟨?_, CtC_c h2 (eI 275 (by omega) (by omega) (by omega)) rfl, TxC_c t1 (e2 1 (by omega) (by omega)) (e2 2 (by omega) (by omega)), h4, h5, h6, h7, h8, by rw [eI 0 (by omega) (by omega) (by omega)]; exact h9, h10⟩, ?_, hk⟩
    · exact ClA_c (I := I1) (ClA_e h1' (fun a q1 q2 q3 => g2 a q2 q3)) (fun a q => e2 a (by omega) (by omega))
    · obtain ⟨k1, k2, k3, k4, k5, k6⟩ := hr1
      exact ⟨RefT_c k1 (fun a _ _ => e2 a (by omega) (by omega)) (e3 12 (by omega) (by omega)) (e3 14 (by omega) (by omega)), by rw [e3 14 (by omega) (by omega)]; exact k2, CtR_c k3 (fun k hk => e3 k (by omega) (by omega)) (e2 333 (by omega) (by omega)), t2, k5, by rw [e3 3 (by omega) (by omega)]; exact k6⟩
  refine lw_0 h0 h1 hX g1 (Nat.le_refl _) (Nat.le_refl _) e1 (nx _ _ _ _ _ ?_)
  by_cases qq : 1 ≤ X.2 (i + 3).toNat ∧ X.2 (i + 3).toNat ≤ 8 ∧ (n : Int) + X.2 (i + 3).toNat ≤ 800
  · rw [if_pos qq] at g3 e4
    exact go _ _ g3 e4
  · rw [if_neg qq] at g3 e4
    exact go _ _ g3 e4
end
