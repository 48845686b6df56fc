/-! The law: model. -/
section
variable {X : ZX} {d c s c1 s1 : Nat} {I L I1 L1 I2 L2 J : ZI} {R R1 R2 R3 : ZR} {call : ZC} {i y z f : Int} {n p q b b1 w : Nat} {M : MD} {κ κ1 : CT} {B : Nat → Int} {K : Prop} {Q : Option ZV × ZS → Prop}
theorem RefT_12 (h : RefT I w M) : I 310 12 = (w : Int) ∧ w < 2 := by
  rcases h with ⟨_, h⟩ | ⟨_, h1, h2⟩
  · exact ⟨h.1, h.2.1⟩
  · exact ⟨h1, h2⟩
theorem ClA_x (h : ClA K I R b M) (hI : ∀ a, (b ≤ a ∧ a < b + 130) ∨ a = 266 ∨ a = 337 → I1 a = I a) : ClA K I1 R b M := by
  rcases h with ⟨hK, h⟩ | ⟨hK, h⟩
  · obtain ⟨k1, k2, k3, k4, k5, k6, k7, k8⟩ := h
    refine Or.inl ⟨hK, k1, k2, k3, k4, k5, ClM_c k7 (fun a q1 q2 => hI a (Or.inl ⟨q1, q2⟩)) k6, k7, fun st hst => ?_⟩
    rcases k8 st hst with g | ⟨g1, g2, g3⟩
    · exact Or.inl (by rw [hI 266 (by omega)]; exact g)
    · refine Or.inr ⟨by rw [hI 266 (by omega)]; exact g1, fun g hg => by rw [hI 266 (by omega)]; exact g2 g hg, fun e e0 e1 => by rw [hI 337 (by omega)]; exact g3 e e0 e1⟩
  · obtain ⟨k1, k2, k3, k4, k5, k6, k7, k8⟩ := h
    have eb := hI b (by omega)
    exact Or.inr ⟨hK, k1, k2, k3, k4, k5, by rw [eb]; exact k6, by rw [eb]; exact k7, by rw [eb]; exact k8⟩
theorem mJ_k {k : Nat} (h0 : k ≠ 0) (h4 : k ≠ 4) (h2 : k ≠ 2) (h5 : k ≠ 5) (h10 : k ≠ 10) (h13 : k ≠ 13) : mJ I w n 310 k = I 310 k := by
  unfold mJ
  rw [zu_n (by omega), zu_n (by omega), zu_n (by omega), zu_k h13, zu_k h10, zu_k h5, zu_k h2, zu_k h4, zu_k h0]
theorem mJ_2 : mJ I w n 310 2 = 0 := by
  unfold mJ
  rw [zu_n (by omega), zu_n (by omega), zu_n (by omega), zu_k (by omega), zu_k (by omega), zu_k (by omega), zu_s]
theorem mJ_a {a : Nat} (h0 : a ≠ 310) (h3 : a ≠ 313) (h7 : a ≠ 317) (h9 : a ≠ 319) : mJ I w n a = I a := by
  unfold mJ
  rw [zu_n h9, zu_n h7, zu_n h3, zu_n h0, zu_n h0, zu_n h0, zu_n h0, zu_n h0, zu_n h0]
theorem inS_317 : inS w 317 w := ⟨by omega, by omega, by rw [show szR 317 = 1 from rfl]; omega, by rw [show szR 317 = 1 from rfl]; omega⟩
theorem inS_319 : inS w 319 w := ⟨by omega, by omega, by rw [show szR 319 = 1 from rfl]; omega, by rw [show szR 319 = 1 from rfl]; omega⟩
theorem mJ_z {a k : Nat} (h0 : a ≠ 310) (h : ¬ inS w a k) : mJ I w n a k = I a k := by
  unfold mJ
  rw [zu_d, if_neg (fun e => h (by rw [e.1, e.2]; exact inS_319)), zu_d, if_neg (fun e => h (by rw [e.1, e.2]; exact inS_317)), zu_d, if_neg (fun e => h (by rw [e.1, e.2]; exact inS_313)), zu_n h0, zu_n h0, zu_n h0, zu_n h0, zu_n h0, zu_n h0]
theorem inS_lt {a k : Nat} (h : a < 312 ∨ 327 < a) : ¬ inS w a k := fun e => by have := e.1; have := e.2.1; omega
theorem lc_1 (hX : X.1 ≤ 3584) (h0 : 0 ≤ i) (h1 : i + 7 ≤ (X.1 : Int)) (h : LI c s I L R) (nx : LN X i Q) : V X (zrun X 14) mL_law 33 [zx 1, zr (some 0), zr (some 310), zi i] [zi 1] (c, s, I, L, R) Q := by
  obtain ⟨K, z, f, b, b1, w, n, p, q, M, κ, B, hC, hr, hk⟩ := h
  obtain ⟨hA, h2, h3, hO, hS, h31, hbb, hz, hf, hcs⟩ := hC
  obtain ⟨r1, r2, r3, r4, r5, r6⟩ := hr
  have hR := ClA_R hA
  have h08 := ClA_08 hA
  have h12 := RefT_12 r1
  obtain ⟨y, c1, s1, I1, L1, R1, g1, gE, gM⟩ := k_model (X := X) (d := 4) (c := c) (s := s) (L := L) hR h08 h31 hbb (hcs.imp (fun u => ⟨u.1, u.2.1⟩) (fun u => u.1)) h3
  have hw' : 1 - w < 2 := by omega
  cases hp : pAll B n with
  | inl e =>
    obtain ⟨m1, m2, m3, m4, m5, m6, m7, m8, m9⟩ := gE e hp
    subst m3 m4 m5 m6
    have e310 : I1 310 = I 310 := m9 310 (by omega) (by omega) (by omega) (by omega)
    obtain ⟨I2, L2, y2, e1, eE, eM⟩ := c_model0 (X := X) (d := 8) (c := c1) (s := s1) (I := I1) (L := L1) (w := 1 - w) (n := n) (B := B) hR hw' (by rw [e310, h12.1]; omega) (by rw [e310]; exact r4.1) r4.2.1 (fun k hk => by rw [m9 311 (by omega) (by omega) (by omega) (by omega)]; exact r4.2.2.1 k hk) r4.2.2.2
    obtain ⟨v1, v2, v3⟩ := eE e hp
    rw [m1] at g1
    rw [v1] at e1
    have fk : ∀ k, k ≠ 5 → k ≠ 6 → k ≠ 7 → k ≠ 8 → k ≠ 9 → k ≠ 10 → k ≠ 11 → k ≠ 3 → I2 310 k = mJ I1 (1 - w) n 310 k := fun k q1 q2 q3 q4 q5 q6 q7 q8 => by
      have := v2.2.1 k q1 q2 q3 q4 q5 q6 q7
      rw [zu_k q8] at this
      exact this
    have fa : ∀ a k, a ≠ 310 → ¬ inS (1 - w) a k → I2 a k = I1 a k := fun a k q1 q2 => by
      have := v2.1 a k q1 q2
      rw [zu_n q1, mJ_z q1 q2] at this
      exact this
    have fA : ∀ a, a < 310 ∨ a = 337 → I2 a = I1 a := fun a q1 => funext fun k => fa a k (by omega) (inS_lt (by omega))
    refine lw_1 h0 h1 hX g1 (Nat.le_refl _) (Nat.le_refl _) e1 (nx _ _ _ _ _ ⟨K, z, e.1, b, b1, w, 0, p, q, M, κ, B, ⟨?_, ?_, ?_, ?_, hS, h31, hbb, ?_, ?_, hcs⟩, ⟨?_, ?_, ?_, ?_, ?_, v3⟩, hk⟩)
    · refine ClA_x hA (fun a q1 => ?_)
      rw [fA a (by omega), m9 a (by omega) (by omega) (by omega) (by omega)]
    · exact CtC_c h2 (by rw [fA 275 (by omega), m9 275 (by omega) (by omega) (by omega) (by omega)]) (v2.2.2 276 (by omega))
    · exact ⟨by rw [fA 1 (by omega)]; exact m7, by omega, fun k hk => absurd hk (by omega), fun k hk => absurd hk (by omega)⟩
    · exact Odd_c hO (fun a _ _ => v2.2.2 a (by omega))
    · rw [v2.2.2 0 (by omega)]; exact hz
    · rw [fA 0 (by omega)]; exact m2
    · have e12 : I2 310 12 = I 310 12 := by rw [fk 12 (by omega) (by omega) (by omega) (by omega) (by omega) (by omega) (by omega) (by omega), mJ_k (by omega) (by omega) (by omega) (by omega) (by omega) (by omega), e310]
      have e14 : I2 310 14 = I 310 14 := by rw [fk 14 (by omega) (by omega) (by omega) (by omega) (by omega) (by omega) (by omega) (by omega), mJ_k (by omega) (by omega) (by omega) (by omega) (by omega) (by omega), e310]
      rcases r1 with ⟨a1, a2, a3, a4, a5⟩ | ⟨a1, a2, a3⟩
      · refine Or.inl ⟨by rw [e14]; exact a1, by rw [e12]; exact a2, a3, RefM_o (w' := 1 - w) a3 hw' (by omega) a5 (fun a k q1 q2 q3 => ?_) a4, a5⟩
        rw [fa a k (by omega) q3, m9 a (by omega) (by omega) (by omega) (by omega)]
      · exact Or.inr ⟨by rw [e14]; exact a1, by rw [e12]; exact a2, a3⟩
    · rw [fk 14 (by omega) (by omega) (by omega) (by omega) (by omega) (by omega) (by omega) (by omega), mJ_k (by omega) (by omega) (by omega) (by omega) (by omega) (by omega), e310]
      exact r2
    · refine CtR_c r3 (fun k hk => ?_) ?_
      · rw [fk k (by omega) (by omega) (by omega) (by omega) (by omega) (by omega) (by omega) (by omega), mJ_k (by omega) (by omega) (by omega) (by omega) (by omega) (by omega), e310]
      · funext k
        rw [fa 333 k (by omega) (inS_lt (by omega)), m9 333 (by omega) (by omega) (by omega) (by omega)]
    · exact ⟨by rw [fk 2 (by omega) (by omega) (by omega) (by omega) (by omega) (by omega) (by omega) (by omega), mJ_2]; rfl, by omega, fun k hk => absurd hk (by omega), fun k hk => absurd hk (by omega)⟩
    · rw [v2.2.2 310 (by omega)]; exact r5
  | inr M1 =>
    obtain ⟨m1, m2, m3, m4, m5, m6, m7, m8, m9⟩ := gM M1 hp
    have hR1 := m2.1
    have e310 : I1 310 = I 310 := m9 310 (by omega) (by omega) (by omega) (by omega) (by omega)
    obtain ⟨I2, L2, y2, e1, eE, eM⟩ := c_model0 (X := X) (d := 8) (c := c1) (s := s1) (I := I1) (L := L1) (w := 1 - w) (n := n) (B := B) hR1 hw' (by rw [e310, h12.1]; omega) (by rw [e310]; exact r4.1) r4.2.1 (fun k hk => by rw [m9 311 (by omega) (by omega) (by omega) (by omega) (by omega)]; exact r4.2.2.1 k hk) r4.2.2.2
    obtain ⟨v1, v2, v3, v4, v5, v6, v7, v8⟩ := eM M1 hp
    rw [m1] at g1
    rw [v1] at e1
    have fA : ∀ a, a < 310 ∨ a = 337 → I2 a = I1 a := fun a q1 => by rw [v6 a q1, mJ_a (by omega) (by omega) (by omega) (by omega)]
    have e270 : ∀ k, R1 270 k = R 270 k := fun k => m6 270 k (by omega) (by omega) (by omega)
    refine lw_1 h0 h1 hX g1 (by omega) (by omega) e1 (nx _ _ _ _ _ ⟨True, z, f, b1, b, 1 - w, 0, p, q, M1, ct0 (-1) (-1), B, ⟨?_, ?_, ?_, ?_, ?_, m3, by omega, ?_, ?_, ?_⟩, ⟨Or.inl ⟨v3, v2⟩, eq_true v3, v4, ?_, ?_, ?_⟩, CtK_0⟩)
    · exact ClA_c (I := I1) (Or.inl ⟨trivial, m2⟩) fA
    · exact CtC_c m4 (fA 275 (by omega)) (v7 276 (by omega))
    · exact ⟨by rw [fA 1 (by omega)]; exact m5, by omega, fun k hk => absurd hk (by omega), fun k hk => absurd hk (by omega)⟩
    · exact Odd_c hO (fun a _ _ => by rw [v7 a (by omega), m7 a (by omega)])
    · exact ⟨by rw [e270]; exact hS.1, by rw [e270]; exact hS.2.1, hS.2.2.1, fun _ _ _ => rfl⟩
    · rw [v7 0 (by omega), m7 0 (by omega)]; exact hz
    · rw [fA 0 (by omega), m9 0 (by omega) (by omega) (by omega) (by omega) (by omega)]; exact hf
    · refine Or.inr ⟨m2.2.2.2.2.1, ?_⟩
      rcases hcs with ⟨k1, k2, k3⟩ | ⟨k1, k2, k3⟩
      · rcases m8 with ⟨j1, j2, j3⟩ | ⟨j1, j2, j3, j4⟩
        · rw [k1] at j3; cases j3
        · omega
      · rcases m8 with ⟨j1, j2, j3⟩ | ⟨j1, j2, j3, j4⟩
        · omega
        · rw [k1] at j4; cases j4
    · exact ⟨by rw [v8, mJ_2]; rfl, by omega, fun k hk => absurd hk (by omega), fun k hk => absurd hk (by omega)⟩
    · rw [v7 310 (by omega), m7 310 (by omega)]; exact r5
    · rw [v5, mJ_k (by omega) (by omega) (by omega) (by omega) (by omega) (by omega), e310]; exact r6
end
