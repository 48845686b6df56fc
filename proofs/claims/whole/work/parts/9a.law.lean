/-! The law: what holds before each call. -/
section
variable {X : ZX} {d c s c1 s1 : Nat} {I L I1 L1 I2 L2 J : ZI} {R R1 R2 R3 : ZR} {call : ZC} {n p q p1 q1 b b1 w : Nat} {x y z f : Int} {B : Nat → Int} {K : Prop} {M : MD} {κ : CT} {Q : Option ZV × ZS → Prop}
theorem RefT_c (h : RefT I w M) (h1 : ∀ a, 312 ≤ a → a ≤ 327 → I1 a = I a) (h2 : I1 310 12 = I 310 12) (h3 : I1 310 14 = I 310 14) : RefT I1 w M := by
  rcases h with ⟨a1, a2⟩ | ⟨a1, a2, a3⟩
  · exact Or.inl ⟨by rw [h3]; exact a1, RefS_c h1 h2 a2⟩
  · exact Or.inr ⟨by rw [h3]; exact a1, by rw [h2]; exact a2, a3⟩
theorem ClA_c (h : ClA K I R b M) (hI : ∀ a, a < 310 ∨ a = 337 → I1 a = I a) : ClA K I1 R b M := by
  rcases h with ⟨hK, h⟩ | ⟨hK, h⟩
  · obtain ⟨k1, k2, k3, k4, k5, k6, k7, k8⟩ := h
    refine Or.inl ⟨hK, k1, k2, k3, k4, k5, ClM_c k7 (fun a q1 q2 => hI a (by omega)) k6, k7, fun st hst => ?_⟩
    rcases k8 st hst with g | ⟨g1, g2, g3⟩
    · exact Or.inl (by rw [hI 266 (by omega)]; exact g)
    · refine Or.inr ⟨by rw [hI 266 (by omega)]; exact g1, fun g hg => by rw [hI 266 (by omega)]; exact g2 g hg, fun e e0 e1 => by rw [hI 337 (by omega)]; exact g3 e e0 e1⟩
  · obtain ⟨k1, k2, k3, k4, k5, k6, k7, k8⟩ := h
    have eb := hI b (by omega)
    exact Or.inr ⟨hK, k1, k2, k3, k4, k5, by rw [eb]; exact k6, by rw [eb]; exact k7, by rw [eb]; exact k8⟩
theorem ClA_08 (h : ClA K I R b M) : R 0 8 = some b := by
  rcases h with ⟨_, h⟩ | ⟨_, h⟩
  · exact h.2.2.1
  · exact h.2.2.1
/-- the class's side -/
def CI (K : Prop) (z f : Int) (c s : Nat) (I L : ZI) (R : ZR) (b b1 n p q : Nat) (M : MD) (κ : CT) (B : Nat → Int) : Prop := ClA K I R b M ∧ CtC I L κ ∧ TxC I B n ∧ Odd L ∧ SwR R R p q ∧ R 3 1 = some b1 ∧ ((b = 4 ∧ b1 = 135) ∨ (b = 135 ∧ b1 = 4)) ∧ L 0 9 = z ∧ I 0 10 = f ∧ ((R 134 1 = some 265 ∧ c = 337 ∧ s = 23001) ∨ (R 134 1 = some 337 ∧ c = 338 ∧ s = 43001))
/-- the reference's -/
def RI (K : Prop) (z f : Int) (I L : ZI) (w n : Nat) (M : MD) (κ : CT) (B : Nat → Int) : Prop := RefT I w M ∧ ((I 310 14 = 1) = K) ∧ CtR I κ ∧ TxR I B n ∧ L 310 31 = z ∧ I 310 3 = f
def LI (c s : Nat) (I L : ZI) (R : ZR) : Prop := ∃ (K : Prop) (z f : Int) (b b1 w n p q : Nat) (M : MD) (κ : CT) (B : Nat → Int), CI K z f c s I L R b b1 n p q M κ B ∧ RI K z f I L w n M κ B ∧ CtK κ
theorem CtC_c (h : CtC I L κ) (h1 : I1 275 = I 275) (h2 : L1 276 = L 276) : CtC I1 L1 κ := by
  unfold CtC
  rw [h1, h2]
  exact h
theorem TxC_c (h : TxC I B n) (h1 : I1 1 = I 1) (h2 : I1 2 = I 2) : TxC I1 B n := by
  unfold TxC
  rw [h1, h2]
  exact h
theorem TxR_c (h : TxR I B n) (h1 : I1 310 2 = I 310 2) (h2 : I1 311 = I 311) : TxR I1 B n := by
  unfold TxR
  rw [h1, h2]
  exact h
theorem CtR_c (h : CtR I κ) (h1 : ∀ k, k = 38 ∨ k = 39 ∨ k = 41 ∨ k = 42 ∨ k = 43 → I1 310 k = I 310 k) (h2 : I1 333 = I 333) : CtR I1 κ := by
  unfold CtR
  rw [h1 38 (by omega), h1 39 (by omega), h1 41 (by omega), h1 42 (by omega), h1 43 (by omega), h2]
  exact h
theorem Odd_c (h : Odd L) (h1 : ∀ a, 279 ≤ a → a < 306 → L1 a = L a) : Odd L1 := ⟨fun b k q1 q2 => by rw [h1 _ (by omega) (by omega)]; exact h.1 b k q1 q2, fun m k q1 q2 => by rw [h1 _ (by omega) (by omega)]; exact h.2 m k q1 q2⟩
theorem CI_r (h : CI K z f c s I L R b b1 n p q M κ B) (hI : ∀ a, a < 310 ∨ a = 337 → I1 a = I a) (hL : ∀ a, a < 310 → L1 a = L a) : CI K z f c s I1 L1 R b b1 n p q M κ B := by
  obtain ⟨h1, h2, h3, h4, h5, h6, h7, h8, h9, h10⟩ := h
  exact ⟨ClA_c h1 hI, CtC_c h2 (hI _ (by omega)) (hL _ (by omega)), TxC_c h3 (hI _ (by omega)) (hI _ (by omega)), Odd_c h4 (fun a _ _ => hL a (by omega)), h5, h6, h7, by rw [hL 0 (by omega)]; exact h8, by rw [hI 0 (by omega)]; exact h9, h10⟩
theorem RI_k (h : RI K z f I L w n M κ B) (hI : ∀ a, 310 ≤ a → a ≠ 337 → I1 a = I a) (hL : L1 310 = L 310) : RI K z f I1 L1 w n M κ B := by
  obtain ⟨h1, h2, h3, h4, h5, h6⟩ := h
  have e := hI 310 (by omega) (by omega)
  exact ⟨RefT_c h1 (fun a _ _ => hI a (by omega) (by omega)) (by rw [e]) (by rw [e]), by rw [e]; exact h2, CtR_c h3 (fun k _ => by rw [e]) (hI _ (by omega) (by omega)), TxR_c h4 (by rw [e]) (hI _ (by omega) (by omega)), by rw [hL]; exact h5, by rw [e]; exact h6⟩
theorem RI_f (h : RI K z f I L w n M κ B) (hF : RF I L I1 L1) : RI K z f I1 L1 w n M κ B := by
  obtain ⟨h1, h2, h3, h4, h5, h6⟩ := h
  obtain ⟨⟨f1, f2, f3, f4⟩, f5, f6⟩ := hF
  exact ⟨RefT_c h1 (fun a _ _ => f2 a (by omega) (by omega)) (f3 12 (by omega)) (f3 14 (by omega)), by rw [f3 14 (by omega)]; exact h2, CtR_c h3 f6 f5, TxR_c h4 (f3 2 (by omega)) (f2 _ (by omega) (by omega)), by rw [f4]; exact h5, by rw [f3 3 (by omega)]; exact h6⟩
theorem RF_0 {y : Int} : RF I L (zu I 310 0 y) L := ⟨⟨fun a _ => ⟨zu_n (by omega), rfl⟩, fun a _ _ => zu_n (by omega), fun k _ => zu_k (by omega), rfl⟩, zu_n (by omega), fun k _ => zu_k (by omega)⟩
theorem CI_k (h : CI K z f c s I L R b b1 n p q M κ B) (hA : ClA K I1 R1 b M) (hI : ∀ a, (a < 266 ∨ a = 275 ∨ 310 ≤ a) → a ≠ 337 → I1 a = I a) (hL : ∀ a, a ≠ 269 → a ≠ 271 → a ≠ 272 → L1 a = L a) (hS : SwR R R1 p1 q1) : CI K z f c s I1 L1 R1 b b1 n p1 q1 M κ B := by
  obtain ⟨h1, h2, h3, h4, h5, h6, h7, h8, h9, h10⟩ := h
  have e3 := hS.2.2.2 3 1 (by omega)
  have e4 := hS.2.2.2 134 1 (by omega)
  exact ⟨hA, CtC_c h2 (hI _ (by omega) (by omega)) (hL _ (by omega) (by omega) (by omega)), TxC_c h3 (hI _ (by omega) (by omega)) (hI _ (by omega) (by omega)), Odd_c h4 (fun a _ _ => hL a (by omega) (by omega) (by omega)), ⟨hS.1, hS.2.1, hS.2.2.1, fun _ _ _ => rfl⟩, by rw [e3]; exact h6, h7, by rw [hL 0 (by omega) (by omega) (by omega)]; exact h8, by rw [hI 0 (by omega) (by omega)]; exact h9, by rw [e4]; exact h10⟩
theorem KW_I (h : KW I L I1 L1) : (∀ a, (a < 266 ∨ a = 275 ∨ 310 ≤ a) → a ≠ 337 → I1 a = I a) ∧ ∀ a, a ≠ 269 → a ≠ 271 → a ≠ 272 → L1 a = L a := ⟨fun a q1 q2 => h.1 a (by omega) (by omega) (by omega) (by omega) q2, fun a q1 _ _ => h.2 a q1⟩
theorem KP_I (h : KP I L I1 L1) : (∀ a, (a < 266 ∨ a = 275 ∨ 310 ≤ a) → a ≠ 337 → I1 a = I a) ∧ ∀ a, a ≠ 269 → a ≠ 271 → a ≠ 272 → L1 a = L a := ⟨fun a q1 q2 => h.1 a (by omega) (by omega) (by omega) (by omega) (by omega) (by omega) (by omega) (by omega) q2, fun a q1 _ _ => h.2 a q1⟩
theorem KS_I (h : KS I I1) : ∀ a, (a < 266 ∨ a = 275 ∨ 310 ≤ a) → a ≠ 337 → I1 a = I a := fun a q1 q2 => h a (by omega) (by omega) (by omega) (by omega) (by omega) q2
theorem KR_I (h : KR I L I1 L1) : (∀ a, (a < 266 ∨ a = 275 ∨ 310 ≤ a) → a ≠ 337 → I1 a = I a) ∧ ∀ a, a ≠ 269 → a ≠ 271 → a ≠ 272 → L1 a = L a := ⟨fun a q1 q2 => h.1 a (by omega) (by omega) (by omega) q2, fun a _ q1 q2 => h.2 a q1 q2⟩
/-- class and reference behind a call that leaves model, counts and text -/
theorem ls_k (h : CI K z f c s I L R b b1 n p q M κ B) (hr : RI K z f I L w n M κ B) (hk : CtK κ) (hA : ClA K I1 R1 b M) (hI : ∀ a, (a < 266 ∨ a = 275 ∨ 310 ≤ a) → a ≠ 337 → I1 a = I a) (hL : ∀ a, a ≠ 269 → a ≠ 271 → a ≠ 272 → L1 a = L a) (hS : SwR R R1 p1 q1) : CI K z f c s I1 L1 R1 b b1 n p1 q1 M κ B ∧ RI K z f I1 L1 w n M κ B := ⟨CI_k h hA hI hL hS, RI_k hr (fun a q1 q2 => hI a (by omega) q2) (hL 310 (by omega) (by omega) (by omega))⟩
theorem ls_r (h : CI K z f c s I L R b b1 n p q M κ B) (hr : RI K z f I L w n M κ B) (hk : CtK κ) (hF : RF I L I1 L1) : LI c s I1 L1 R := ⟨K, z, f, b, b1, w, n, p, q, M, κ, B, CI_r h (fun a q => (hF.1.1 a q).1) (fun a q => (hF.1.1 a (Or.inl q)).2), RI_f hr hF, hk⟩
end
