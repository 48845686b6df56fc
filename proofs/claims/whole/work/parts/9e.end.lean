/-! The law: its beginning and its end. -/
section
variable {X : ZX} {d c s c1 s1 : Nat} {I L I1 L1 I2 L2 J : ZI} {R R1 R2 R3 : ZR} {call : ZC} {i y z f : Int} {n p q b b1 w : Nat} {M : MD} {κ κ1 : CT} {B : Nat → Int} {K : Prop} {Q : Option ZV × ZS → Prop}
def QL (q : Option ZV × ZS) : Prop := q.1 = some (zi 1) ∧ q.2.1 ≤ 600000 ∧ q.2.2.1 ≤ 7302250
theorem LI_c (h : LI c s I L R) : c ≤ 600000 ∧ s ≤ 7302250 := by
  obtain ⟨K, z, f, b, b1, w, n, p, q, M, κ, B, ⟨_, _, _, _, _, _, _, _, _, h⟩, _, _⟩ := h
  omega
theorem q_law (hX : X.1 ≤ 3584) : ∀ (j : Nat) (i : Int) (c s : Nat) (I L : ZI) (R : ZR), 0 ≤ i → (X.1 : Int) - i < (j : Int) → LI c s I L R → V X (zrun X 14) mL_law 18 [zx 1, zr (some 0), zr (some 310), zi i] [] (c, s, I, L, R) QL := by
  intro j
  induction j with
  | zero =>
    intro i c s I L R h0 h1 h
    exact lw_end (by omega) hX ⟨rfl, LI_c h⟩
  | succ j ih =>
    intro i c s I L R h0 h1 h
    by_cases hq : (X.1 : Int) < i + 7
    · exact lw_end hq hX ⟨rfl, LI_c h⟩
    · have h2 : i + 7 ≤ (X.1 : Int) := by omega
      have nx : LN X i QL := fun c1 s1 I2 L2 R1 hh => ih (i + 7) c1 s1 I2 L2 R1 (by omega) (by omega) hh
      refine lw_go h0 h2 hX ?_
      generalize zand3 (X.2 i.toNat) 31 = y
      by_cases hy : y < 0 ∨ 18 < y
      · exact lw_no h0 h2 hX hy (nx _ _ _ _ _ h)
      · have : y = 0 ∨ y = 1 ∨ y = 2 ∨ y = 3 ∨ y = 4 ∨ y = 5 ∨ y = 6 ∨ y = 7 ∨ y = 8 ∨ y = 9 ∨ y = 10 ∨ y = 11 ∨ y = 12 ∨ y = 13 ∨ y = 14 ∨ y = 15 ∨ y = 16 ∨ y = 17 ∨ y = 18 := by omega
        rcases this with e | e | e | e | e | e | e | e | e | e | e | e | e | e | e | e | e | e | e <;> subst e
        · exact lc_0 hX h0 h2 h nx
        · exact lc_1 hX h0 h2 h nx
        · exact lc_2 hX h0 h2 h nx
        · exact lc_3 hX h0 h2 h nx
        · exact lc_4 hX h0 h2 h nx
        · exact lc_5 hX h0 h2 h nx
        · exact lc_6 hX h0 h2 h nx
        · exact lc_7 hX h0 h2 h nx
        · exact lc_8 hX h0 h2 h nx
        · exact lc_9 hX h0 h2 h nx
        · exact lc_10 hX h0 h2 h nx
        · exact lc_11 hX h0 h2 h nx
        · exact lc_12 hX h0 h2 h nx
        · exact lc_13 hX h0 h2 h nx
        · exact lc_14 hX h0 h2 h nx
        · exact lc_15 hX h0 h2 h nx
        · exact lc_16 hX h0 h2 h nx
        · exact lc_17 hX h0 h2 h nx
        · exact lc_18 hX h0 h2 h nx
theorem ls_0 (q1 : call 84 [zr (some 0)] (1, 11, I, L, R) = some (none, (310, 7351, I1, L1, R1))) (q2 : call 112 [zr (some 310)] (311, 7398, I1, L1, R1) = some (none, (337, 23001, I2, L2, R2))) (n0 : zT 0 = (21, 11)) (n1 : zT 310 = (22, 47)) (hQ : V X call mL_law 18 [zx 1, zr (some 0), zr (some 310), zi 0] [] (337, 23001, I2, L2, R2) Q) : V X call mL_law 0 [zx 1, zx 0, zx 0, zx 0] [] (0, 0, I, L, R) Q := by
  simp (disch := omega) only [e_L_law_0, e_L_law_3, e_L_law_3r, e_L_law_4, e_L_law_7, e_L_law_8, e_L_law_11, e_L_law_11r, e_L_law_12, e_L_law_15, e_L_law_16, e_L_law_17, zcll_s, zpush_s, zpush_n, zinv_i, zinv_l, zinv_r, zinv_x, zcats_nil, zcats_i, zcats_l, zcats_r, zcats_x, Nat.le_refl, and_self, true_and, and_true, zok_1, zok_20, zok_21, eq_self, Nat.reduceAdd, Nat.reduceLeDiff, Nat.zero_le, if_true, if_false, zw3_id, if_pos, if_neg, zand_t, n0, n1, q1, q2]
  exact hQ
theorem law_V (hX : X.1 ≤ 3584) : V X (zrun X 14) mL_law 0 [zx 1, zx 0, zx 0, zx 0] [] (0, 0, fun _ _ => 0, fun _ _ => 0, fun _ _ => none) (fun q => q.1 = some (zi 1) ∧ q.2.1 ≤ 600000 ∧ q.2.2.1 ≤ 7302250) := by
  obtain ⟨L1, R1, g1, g2, g3, g4, g5, g6, g7⟩ := k_ini11 (X := X) (d := 9) (s := 11) (I := fun _ _ => 0) (L := fun _ _ => 0) (R := fun _ _ => none) (fun _ _ _ _ => rfl)
  have g8 := k_ini12 (X := X) (d := 13) (s := 7398) (I := zu (zu (zu (zu (fun _ _ => 0) 4 4 1) 135 4 1) 275 1 (-1)) 275 2 (-1)) (L := L1) (R := R1)
  refine ls_0 g1 g8 (by decide +kernel) (by decide +kernel) ?_
  have rk := k_rkL (R := R1)
  have rf := k_rkF (R := R1)
  generalize hR2 : (zu (zu (zu (zu (zu (zu (zu (zu (zu (zu (zu (zu (zu (zu (zu (zu (zu (zu (zu (zu (zu (zu (zu (zu (zu (zu R1 310 1 (some 311)) 310 15 (some 312)) 310 16 (some 313)) 310 17 (some 314)) 310 18 (some 315)) 310 19 (some 316)) 310 20 (some 317)) 310 21 (some 318)) 310 22 (some 319)) 310 23 (some 320)) 310 24 (some 321)) 310 25 (some 322)) 310 26 (some 323)) 310 27 (some 324)) 310 28 (some 325)) 310 29 (some 326)) 310 30 (some 327)) 310 32 (some 328)) 310 34 (some 329)) 310 35 (some 330)) 310 36 (some 331)) 310 37 (some 332)) 310 40 (some 333)) 310 44 (some 334)) 310 45 (some 335)) 310 46 (some 336)) = R2 at rk rf ⊢
  have f2 : Fk R2 ckL := Fk_z g7 rf (by decide +kernel)
  have hR : Rok R2 := Rok_of (MoR_c g4 (fun a q1 q2 => rf a (by omega))) (MoR_c g5 (fun a q1 q2 => rf a (by omega))) (OdR_c g6 (fun a q1 q2 => rf a (by omega))) f2 rk
  have x08 : R2 0 8 = some 135 := f2 (0, 8, 135) (by decide +kernel)
  have x31 : R2 3 1 = some 4 := f2 (3, 1, 4) (by decide +kernel)
  have x130 : R2 134 0 = some 135 := f2 (134, 0, 135) (by decide +kernel)
  have x131 : R2 134 1 = some 265 := f2 (134, 1, 265) (by decide +kernel)
  have x271 : R2 270 1 = some 271 := f2 (270, 1, 271) (by decide +kernel)
  have x272 : R2 270 2 = some 272 := f2 (270, 2, 272) (by decide +kernel)
  have eI : ∀ a k, ¬ ((a = 4 ∨ a = 135) ∧ k = 4) → ¬ (a = 275 ∧ (k = 1 ∨ k = 2)) → ¬ (a = 310 ∧ (k = 38 ∨ k = 39)) → zu (zu (zu (zu (zu (zu (fun _ _ => (0 : Int)) 4 4 1) 135 4 1) 275 1 (-1)) 275 2 (-1)) 310 38 (-1)) 310 39 (-1) a k = 0 := by
    intro a k q1 q2 q3
    rw [zu_d, if_neg (by omega), zu_d, if_neg (by omega), zu_d, if_neg (by omega), zu_d, if_neg (by omega), zu_d, if_neg (by omega), zu_d, if_neg (by omega)]
  have e1 : zu (zu (zu (zu (zu (zu (fun _ _ => (0 : Int)) 4 4 1) 135 4 1) 275 1 (-1)) 275 2 (-1)) 310 38 (-1)) 310 39 (-1) 275 1 = -1 := by
    rw [zu_n (by omega), zu_n (by omega), zu_k (by omega), zu_s]
  have e2 : zu (zu (zu (zu (zu (zu (fun _ _ => (0 : Int)) 4 4 1) 135 4 1) 275 1 (-1)) 275 2 (-1)) 310 38 (-1)) 310 39 (-1) 275 2 = -1 := by
    rw [zu_n (by omega), zu_n (by omega), zu_s]
  have e3 : zu (zu (zu (zu (zu (zu (fun _ _ => (0 : Int)) 4 4 1) 135 4 1) 275 1 (-1)) 275 2 (-1)) 310 38 (-1)) 310 39 (-1) 310 38 = -1 := by
    rw [zu_k (by omega), zu_s]
  have e4 : zu (zu (zu (zu (zu (zu (fun _ _ => (0 : Int)) 4 4 1) 135 4 1) 275 1 (-1)) 275 2 (-1)) 310 38 (-1)) 310 39 (-1) 310 39 = -1 := zu_s
  generalize zu (zu (zu (zu (zu (zu (fun _ _ => (0 : Int)) 4 4 1) 135 4 1) 275 1 (-1)) 275 2 (-1)) 310 38 (-1)) 310 39 (-1) = I2 at eI e1 e2 e3 e4 ⊢
  have hl : ∀ k, L1 276 k = 0 := fun k => by rw [g3 276 (by omega)]
  have li : LI 337 23001 I2 L1 R2 := by
    refine ⟨False, 0, 0, 135, 4, 0, 0, 271, 272, (0, [], [], []), ct0 (-1) (-1), fun _ => 0, ⟨Or.inr ⟨id, hR, Or.inr rfl, x08, x130, x131, eI _ _ (by omega) (by omega) (by omega), eI _ _ (by omega) (by omega) (by omega), eI _ _ (by omega) (by omega) (by omega)⟩, ⟨e1, e2, eI _ _ (by omega) (by omega) (by omega), eI _ _ (by omega) (by omega) (by omega), eI _ _ (by omega) (by omega) (by omega), fun k hk => ?_⟩, ⟨eI _ _ (by omega) (by omega) (by omega), by omega, fun k hk => absurd hk (by omega), fun k hk => absurd hk (by omega)⟩, g2, ⟨x271, x272, Or.inl ⟨rfl, rfl⟩, fun _ _ _ => rfl⟩, x31, Or.inr ⟨rfl, rfl⟩, ?_, eI _ _ (by omega) (by omega) (by omega), Or.inl ⟨x131, rfl, rfl⟩⟩, ⟨Or.inr ⟨eI _ _ (by omega) (by omega) (by omega), eI _ _ (by omega) (by omega) (by omega), by omega⟩, eq_false ?_, ⟨e3, e4, eI _ _ (by omega) (by omega) (by omega), eI _ _ (by omega) (by omega) (by omega), eI _ _ (by omega) (by omega) (by omega), fun k hk => eI _ _ (by omega) (by omega) (by omega)⟩, ⟨eI _ _ (by omega) (by omega) (by omega), by omega, fun k hk => absurd hk (by omega), fun k hk => absurd hk (by omega)⟩, ?_, eI _ _ (by omega) (by omega) (by omega)⟩, CtK_0⟩
    · rw [hl, zbit_0]
      exact ⟨fun q => Bool.noConfusion q, fun q => absurd rfl q⟩
    · rw [g3 0 (by omega)]
    · rw [eI 310 14 (by omega) (by omega) (by omega)]; omega
    · rw [g3 310 (by omega)]
  exact q_law hX (X.1 + 1) 0 337 23001 I2 L1 R2 (by omega) (by omega) li
end
