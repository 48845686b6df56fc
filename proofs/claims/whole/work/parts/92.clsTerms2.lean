/-! The class's reader: a term, terms. -/
section
variable {X : ZX} {d c s : Nat} {I L I1 L1 I2 L2 J : ZI} {R R1 R2 : ZR} {call : ZC} {n p b t lo hi : Nat} {x : Int} {B : Nat → Int} {vs : List MV}
theorem idx_so {k : Nat} (hk : k = 0 ∨ k = 1) {y : Int} (h : y = 256 ∨ isSg y) : idx (zstr (5 + k - 1)) (zi2b (sgC y)) 0 = soN (srt k y) := by
  rcases hk with rfl | rfl
  · exact idx_so0 h
  · exact idx_so1 h
theorem srt_r {k : Nat} (hk : k = 0 ∨ k = 1) {y so : Int} (h : srt k y = some so) : -1 ≤ so ∧ so ≤ 1 := by
  rcases hk with rfl | rfl
  · have := (srt_0 h).2.1; omega
  · have := (srt_1 h).2.1; omega
theorem k_readTerm (h : CpC I R B n p b vs) (ht : zTm t) (htb : b + 6 ≤ t) {k : Nat} (hk : k = 0 ∨ k = 1) {acc : List TT} (ha : CTm I t acc) (hl : acc.length ≤ 3) : ∃ y I1, zrun X (d + 6) 34 [zr (some 3), zr (some t), zx (5 + k + 1)] (c, s, I, L, R) = some (some (zi y), (c, s, I1, L, R)) ∧ FrC t (t + 4) I I1 ∧ (∀ e, pTerm B n vs k acc.length p = .inl e → y = 0 ∧ ErC I1 e) ∧ ∀ z, pTerm B n vs k acc.length p = .inr z → y = 1 ∧ TpC I1 B n z.2 ∧ CTm I1 t (acc ++ [z.1]) := by
  obtain ⟨hT, hR, h31, hb, hv, hVO, hpr, hl4, hnm⟩ := h
  have tt := (tt_terms ht).1
  have tb := (tt_model hb).1
  have h2 := hT.2.2.1
  have h4 := hT.2.2.2.2.1
  have hlen := ha.1
  by_cases q1 : tK B n p = 1
  · have h5 := hT.2.2.2.2.2.1 q1
    have h41 : I 1 4 = 1 := by rw [h4]; exact q1
    have qv := k_varNamed (X := X) (d := d + 4) (c := c) (s := s) (L := L) hR hb hv hl4 hnm (tN_l q1)
    have hvr := vIx_r vs (tN B n p) 0
    by_cases q2 : vIx vs (tN B n p) 0 = -1
    · have hpt : pTerm B n vs k acc.length p = .inl (2, (tF B n p : Int)) := by unfold pTerm; rw [if_pos q1, if_pos q2]
      refine ⟨0, _, rt_1 (d := d + 4) hR h31 tb h41 h5 h2 qv q2, FrC_e, fun e he => ⟨rfl, ?_⟩, fun z hz => ?_⟩
      · rw [hpt] at he; rw [← Sum.inl.inj he]; exact ErC_e
      · rw [hpt] at hz; cases hz
    · by_cases q3 : acc.length = 3
      · have hpt : pTerm B n vs k acc.length p = .inl (4, (tF B n p : Int)) := by unfold pTerm; rw [if_pos q1, if_neg q2, if_pos q3]
        refine ⟨0, _, rt_2 (d := d + 4) hR h31 tb tt h41 h5 h2 qv q2 hlen (by omega), FrC_e, fun e he => ⟨rfl, ?_⟩, fun z hz => ?_⟩
        · rw [hpt] at he; rw [← Sum.inl.inj he]; exact ErC_e
        · rw [hpt] at hz; cases hz
      · have hp1 := (@tT_g n p B hT.2.1).2.1
        obtain ⟨I1, n1, n2, n3⟩ := k_next (X := X) (d := d) (c := c) (s := s) (L := L) hR hT.1 hp1 hT.2.2.2.1
        have hTe : pTerm B n vs k acc.length p = match pSo B n k (tT B n p) with
            | none => .inl (1, (tF B n (tT B n p) : Int))
            | some so => match pNum B n 0 99 (tT B n (tT B n p)) with
              | .inl e => .inl e
              | .inr z => .inr (((vIx vs (tN B n p) 0).toNat, so, z.1), z.2) := by
          show (if tK B n p = 1 then _ else _) = _
          rw [if_pos q1, if_neg q2, if_neg q3]
          rfl
        generalize tT B n p = p1 at hTe hp1 n2
        have m2 := n2.2.2.1
        have m4 := n2.2.2.2.2.1
        by_cases q4 : tK B n p1 = 3
        · have m7 := n2.2.2.2.2.2.2.2 q4
          have m43 : I1 1 4 = 3 := by rw [m4]; exact q4
          have hs := tS_3 q4
          have hsr := sgC_r hs
          have qi := k_indexOf (X := X) (d := d + 1) (c := c) (s := s) (I := I1) (L := L) (R := R) (e := 5 + k) (by omega) hsr.1 hsr.2
          rw [idx_so hk hs] at qi
          have hso : pSo B n k p1 = srt k (tS B n p1) := by unfold pSo; rw [if_pos q4]
          rw [hso] at hTe
          cases hsr2 : srt k (tS B n p1) with
          | none =>
            rw [hsr2] at hTe qi
            have hTe : pTerm B n vs k acc.length p = .inl (1, (tF B n p1 : Int)) := hTe
            refine ⟨0, _, rt_4 (d := d + 4) hR h31 tb tt (by omega) h41 h5 qv q2 hlen (by omega) n1 m43 m7 qi (by show (-1 : Int) < 0; omega) m2, FrC_t (FrC_x n3) FrC_e, fun e he => ⟨rfl, ?_⟩, fun z hz => ?_⟩
            · rw [hTe] at he; rw [← Sum.inl.inj he]; exact ErC_e
            · rw [hTe] at hz; cases hz
          | some so =>
            rw [hsr2] at hTe qi
            have hsoR := srt_r hk hsr2
            have qi : zrun X (d + 5) 177 [zx (5 + k + 1), zi (sgC (tS B n p1))] (c, s, I1, L, R) = some (some (zi (so + 1)), (c, s, I1, L, R)) := qi
            have hp2 := (@tT_g n p1 B n2.2.1).2.1
            obtain ⟨I2, o1, o2, o3⟩ := k_next (X := X) (d := d) (c := c) (s := s) (L := L) hR n2.1 hp2 n2.2.2.2.1
            have qn := k_isNumber (X := X) (d := d + 3) (c := c) (s := s) (L := L) hR o2 (lo := 0) (hi := 99)
            cases hnum : pNum B n 0 99 (tT B n p1) with
            | inl e =>
              rw [hnum] at hTe
              have hTe : pTerm B n vs k acc.length p = .inl e := hTe
              refine ⟨0, _, rt_5 (d := d + 4) hR h31 tb tt (by omega) h41 h5 qv q2 hlen (by omega) n1 m43 m7 qi (by omega) (by omega) o1 (qn.1 e hnum), FrC_t (FrC_x n3) (FrC_t (FrC_x o3) FrC_e), fun e' he => ⟨rfl, ?_⟩, fun z hz => ?_⟩
              · rw [hTe] at he; rw [← Sum.inl.inj he]; exact ErC_e
              · rw [hTe] at hz; cases hz
            | inr z =>
              rw [hnum] at hTe
              have hTe : pTerm B n vs k acc.length p = .inr (((vIx vs (tN B n p) 0).toNat, so, z.1), z.2) := hTe
              obtain ⟨r1, r2, r3⟩ := qn.2 z hnum
              have hI2 : I2 t = I t := by rw [o3.1 t (by omega), n3.1 t (by omega)]
              have hCT2 : CTm I2 t acc := CTm_c (fun a w1 w2 => by rw [o3.1 a (by omega), n3.1 a (by omega)]) ha
              have qa := k_add (X := X) (d := d + 4) (c := c) (s := s) (I := I2) (L := L) hR ht (k := acc.length) (v := vIx vs (tN B n p) 0) (so := so + 1 - 1) (nu := z.1) (by rw [hI2]; exact hlen) (by omega)
              have eso : so + 1 - 1 = so := by omega
              have evx : vIx vs (tN B n p) 0 = (((vIx vs (tN B n p) 0).toNat : Nat) : Int) := by omega
              have FA : FrC t (t + 4) I2 (zu (zu (zu (zu I2 (t + 1) acc.length (vIx vs (tN B n p) 0)) (t + 2) acc.length (so + 1 - 1)) (t + 3) acc.length z.1) t 0 ((acc.length : Int) + 1)) := FrC_t (FrC_t (FrC_t (FrC_u (by omega) (by omega) (by omega)) (FrC_u (by omega) (by omega) (by omega))) (FrC_u (by omega) (by omega) (by omega))) (FrC_u (by omega) (by omega) (by omega))
              have hT3 : TpC (zu (zu (zu (zu I2 (t + 1) acc.length (vIx vs (tN B n p) 0)) (t + 2) acc.length (so + 1 - 1)) (t + 3) acc.length z.1) t 0 ((acc.length : Int) + 1)) B n (tT B n p1) := TpC_u (TpC_u (TpC_u (TpC_u o2 (by omega)) (by omega)) (by omega)) (by omega)
              have hC3 : CTm (zu (zu (zu (zu I2 (t + 1) acc.length (vIx vs (tN B n p) 0)) (t + 2) acc.length (so + 1 - 1)) (t + 3) acc.length z.1) t 0 ((acc.length : Int) + 1)) t (acc ++ [((vIx vs (tN B n p) 0).toNat, so, z.1)]) := by
                have := CTm_a (u := ((vIx vs (tN B n p) 0).toNat, so, z.1)) hCT2
                rw [eso]
                rw [← evx] at this
                exact this
              generalize zu (zu (zu (zu I2 (t + 1) acc.length (vIx vs (tN B n p) 0)) (t + 2) acc.length (so + 1 - 1)) (t + 3) acc.length z.1) t 0 ((acc.length : Int) + 1) = I3 at qa FA hT3 hC3
              have hp3 := (@tT_g n (tT B n p1) B o2.2.1).2.1
              obtain ⟨I4, s1, s2, s3⟩ := k_next (X := X) (d := d) (c := c) (s := s) (L := L) hR hT3.1 hp3 hT3.2.2.2.1
              refine ⟨1, I4, rt_6 (d := d + 4) hR h31 tb tt (by omega) h41 h5 qv q2 hlen (by omega) n1 m43 m7 qi (by omega) (by omega) o1 r1 r2 qa s1, FrC_t (FrC_x n3) (FrC_t (FrC_x o3) (FrC_t FA (FrC_x s3))), fun e' he => ?_, fun z' hz => ⟨rfl, ?_⟩⟩
              · rw [hTe] at he; cases he
              · rw [hTe] at hz
                rw [← Sum.inr.inj hz]
                refine ⟨?_, CTm_c (fun a w1 w2 => s3.1 a (by omega)) hC3⟩
                show TpC I4 B n z.2
                rw [r3]
                exact s2
        · have hso : pSo B n k p1 = none := by unfold pSo; rw [if_neg q4]
          rw [hso] at hTe
          have hTe : pTerm B n vs k acc.length p = .inl (1, (tF B n p1 : Int)) := hTe
          refine ⟨0, _, rt_3 (d := d + 4) hR h31 tb tt h41 h5 qv q2 hlen (by omega) n1 m4 q4 m2, FrC_t (FrC_x n3) FrC_e, fun e he => ⟨rfl, ?_⟩, fun z hz => ?_⟩
          · rw [hTe] at he; rw [← Sum.inl.inj he]; exact ErC_e
          · rw [hTe] at hz; cases hz
  · have hpt : pTerm B n vs k acc.length p = .inl (1, (tF B n p : Int)) := by unfold pTerm; rw [if_neg q1]
    refine ⟨0, _, rt_0 (d := d + 4) hR h4 q1 h2, FrC_e, fun e he => ⟨rfl, ?_⟩, fun z hz => ?_⟩
    · rw [hpt] at he; rw [← Sum.inl.inj he]; exact ErC_e
    · rw [hpt] at hz; cases hz
theorem pTerm_3 {k sz : Nat} {z : TT × Nat} (h : pTerm B n vs k sz p = .inr z) : sz ≠ 3 := by
  intro q
  unfold pTerm at h
  split at h
  · split at h
    · cases h
    · first
      | cases h
      | (rw [if_pos q] at h; cases h)
  · cases h
/-- the loop of readTerms, a turn at a time -/
theorem ts_0 (hR : Rok R) {i bt : Int} {e : Nat} (hi : i ≤ 3) (q1 : call 34 [zr (some 3), zr (some t), zx (e + 1)] (c, s, I, L, R) = some (some (zi 0), (c, s, I1, L, R))) {Q : Option ZV × ZS → Prop} (hQ : Q (some (zi 0), (c, s, I1, L, R))) : V X call mX3_readTerms 6 [zr (some 3), zr (some t), zx (e + 1), zi bt, zi 1, zi i] [] (c, s, I, L, R) Q := by
  rw [e_X3_readTerms_6]
  simp (disch := omega) only [e_X3_readTerms_0, e_X3_readTerms_1, e_X3_readTerms_3, e_X3_readTerms_4, e_X3_readTerms_8, e_X3_readTerms_11, e_X3_readTerms_13, e_X3_readTerms_14, e_X3_readTerms_17, e_X3_readTerms_17x, e_X3_readTerms_18, e_X3_readTerms_18x, e_X3_readTerms_19, e_X3_readTerms_19x, e_X3_readTerms_20, e_X3_readTerms_23, e_X3_readTerms_26, e_X3_readTerms_27, e_X3_readTerms_28, e_X3_readTerms_28x, e_X3_readTerms_29, e_X3_readTerms_32, e_X3_readTerms_33, e_X3_readTerms_36, e_X3_readTerms_38, e_X3_readTerms_40, e_X3_readTerms_43, e_X3_readTerms_43x, e_X3_readTerms_44, e_X3_readTerms_47, e_X3_readTerms_50, e_X3_readTerms_53, e_X3_readTerms_56, e_X3_readTerms_57, zcll_s, zpush_s, zpush_n, zinv_i, zinv_l, zinv_r, zinv_x, zcats_nil, zcats_i, zcats_l, zcats_r, zcats_x, Nat.le_refl, and_self, true_and, and_true, zok_1, zok_20, zok_21, eq_self, Nat.reduceAdd, Nat.reduceLeDiff, Nat.zero_le, if_true, if_false, zw3_id, if_pos, if_neg, zand_t, tg_1, tg_3, q1]
  exact hQ
theorem ts_1 (hR : Rok R) {i bt : Int} {e : Nat} (h0 : 0 ≤ i) (hi : i ≤ 3) (q1 : call 34 [zr (some 3), zr (some t), zx (e + 1)] (c, s, I, L, R) = some (some (zi 1), (c, s, I1, L, R))) (q2 : call 71 [zr (some 1), zi bt] (c, s, I1, L, R) = some (some (zi 0), (c, s, I1, L, R))) {Q : Option ZV × ZS → Prop} (hQ : Q (some (zi 1), (c, s, I1, L, R))) : V X call mX3_readTerms 6 [zr (some 3), zr (some t), zx (e + 1), zi bt, zi 1, zi i] [] (c, s, I, L, R) Q := by
  rw [e_X3_readTerms_6]
  simp (disch := omega) only [e_X3_readTerms_0, e_X3_readTerms_1, e_X3_readTerms_3, e_X3_readTerms_4, e_X3_readTerms_8, e_X3_readTerms_11, e_X3_readTerms_13, e_X3_readTerms_14, e_X3_readTerms_17, e_X3_readTerms_17x, e_X3_readTerms_18, e_X3_readTerms_18x, e_X3_readTerms_19, e_X3_readTerms_19x, e_X3_readTerms_20, e_X3_readTerms_23, e_X3_readTerms_26, e_X3_readTerms_27, e_X3_readTerms_28, e_X3_readTerms_28x, e_X3_readTerms_29, e_X3_readTerms_32, e_X3_readTerms_33, e_X3_readTerms_36, e_X3_readTerms_38, e_X3_readTerms_40, e_X3_readTerms_43, e_X3_readTerms_43x, e_X3_readTerms_44, e_X3_readTerms_47, e_X3_readTerms_50, e_X3_readTerms_53, e_X3_readTerms_56, e_X3_readTerms_57, zcll_s, zpush_s, zpush_n, zinv_i, zinv_l, zinv_r, zinv_x, zcats_nil, zcats_i, zcats_l, zcats_r, zcats_x, Nat.le_refl, and_self, true_and, and_true, zok_1, zok_20, zok_21, eq_self, Nat.reduceAdd, Nat.reduceLeDiff, Nat.zero_le, if_true, if_false, zw3_id, if_pos, if_neg, zand_t, tg_1, tg_3, rr_3_0 hR, q1, q2]
  rw [e_X3_readTerms_6]
  simp (disch := omega) only [e_X3_readTerms_0, e_X3_readTerms_1, e_X3_readTerms_3, e_X3_readTerms_4, e_X3_readTerms_8, e_X3_readTerms_11, e_X3_readTerms_13, e_X3_readTerms_14, e_X3_readTerms_17, e_X3_readTerms_17x, e_X3_readTerms_18, e_X3_readTerms_18x, e_X3_readTerms_19, e_X3_readTerms_19x, e_X3_readTerms_20, e_X3_readTerms_23, e_X3_readTerms_26, e_X3_readTerms_27, e_X3_readTerms_28, e_X3_readTerms_28x, e_X3_readTerms_29, e_X3_readTerms_32, e_X3_readTerms_33, e_X3_readTerms_36, e_X3_readTerms_38, e_X3_readTerms_40, e_X3_readTerms_43, e_X3_readTerms_43x, e_X3_readTerms_44, e_X3_readTerms_47, e_X3_readTerms_50, e_X3_readTerms_53, e_X3_readTerms_56, e_X3_readTerms_57, zcll_s, zpush_s, zpush_n, zinv_i, zinv_l, zinv_r, zinv_x, zcats_nil, zcats_i, zcats_l, zcats_r, zcats_x, Nat.le_refl, and_self, true_and, and_true, zok_1, zok_20, zok_21, eq_self, Nat.reduceAdd, Nat.reduceLeDiff, Nat.zero_le, if_true, if_false, zw3_id, if_pos, if_neg, zand_t]
  exact hQ
theorem ts_2 (hR : Rok R) {i bt : Int} {e : Nat} (h0 : 0 ≤ i) (hi : i ≤ 3) (q1 : call 34 [zr (some 3), zr (some t), zx (e + 1)] (c, s, I, L, R) = some (some (zi 1), (c, s, I1, L, R))) (q2 : call 71 [zr (some 1), zi bt] (c, s, I1, L, R) = some (some (zi 1), (c, s, I1, L, R))) (q3 : call 68 [zr (some 1)] (c, s, I1, L, R) = some (none, (c, s, I2, L, R))) {Q : Option ZV × ZS → Prop} (hQ : V X call mX3_readTerms 6 [zr (some 3), zr (some t), zx (e + 1), zi bt, zi 1, zi (i + 1)] [] (c, s, I2, L, R) Q) : V X call mX3_readTerms 6 [zr (some 3), zr (some t), zx (e + 1), zi bt, zi 1, zi i] [] (c, s, I, L, R) Q := by
  rw [e_X3_readTerms_6]
  simp (disch := omega) only [e_X3_readTerms_0, e_X3_readTerms_1, e_X3_readTerms_3, e_X3_readTerms_4, e_X3_readTerms_8, e_X3_readTerms_11, e_X3_readTerms_13, e_X3_readTerms_14, e_X3_readTerms_17, e_X3_readTerms_17x, e_X3_readTerms_18, e_X3_readTerms_18x, e_X3_readTerms_19, e_X3_readTerms_19x, e_X3_readTerms_20, e_X3_readTerms_23, e_X3_readTerms_26, e_X3_readTerms_27, e_X3_readTerms_28, e_X3_readTerms_28x, e_X3_readTerms_29, e_X3_readTerms_32, e_X3_readTerms_33, e_X3_readTerms_36, e_X3_readTerms_38, e_X3_readTerms_40, e_X3_readTerms_43, e_X3_readTerms_43x, e_X3_readTerms_44, e_X3_readTerms_47, e_X3_readTerms_50, e_X3_readTerms_53, e_X3_readTerms_56, e_X3_readTerms_57, zcll_s, zpush_s, zpush_n, zinv_i, zinv_l, zinv_r, zinv_x, zcats_nil, zcats_i, zcats_l, zcats_r, zcats_x, Nat.le_refl, and_self, true_and, and_true, zok_1, zok_20, zok_21, eq_self, Nat.reduceAdd, Nat.reduceLeDiff, Nat.zero_le, if_true, if_false, zw3_id, if_pos, if_neg, zand_t, tg_1, tg_3, rr_3_0 hR, q1, q2, q3]
  exact hQ
theorem btw_s {k : Nat} (hk : k = 0 ∨ k = 1) : isSg (btw k) ∧ sgC (btw k) = btw k := by
  rcases hk with rfl | rfl
  · exact ⟨by unfold isSg btw; rw [if_pos rfl]; omega, rfl⟩
  · exact ⟨by unfold isSg btw; rw [if_neg (by omega)]; omega, rfl⟩
def TsO (I0 : ZI) (t : Nat) (B : Nat → Int) (n : Nat) (o : PE ⊕ (List TT × Nat)) (y : Int) (I1 : ZI) : Prop := FrC t (t + 4) I0 I1 ∧ (∀ e, o = .inl e → y = 0 ∧ ErC I1 e) ∧ ∀ z, o = .inr z → y = 1 ∧ TpC I1 B n z.2 ∧ CTm I1 t z.1
theorem q_readTerms (ht : zTm t) (htb : b + 6 ≤ t) {k : Nat} (hk : k = 0 ∨ k = 1) (I0 : ZI) {Q : Option ZV × ZS → Prop} : ∀ (j : Nat) (acc : List TT) (p : Nat) (I : ZI), acc.length + j = 4 → acc.length ≤ 3 → CpC I R B n p b vs → CTm I t acc → FrC t (t + 4) I0 I → (∀ y I1, TsO I0 t B n (pTerms B n vs k j acc p) y I1 → Q (some (zi y), (c, s, I1, L, R))) → V X (zrun X (d + 6)) mX3_readTerms 6 [zr (some 3), zr (some t), zx (5 + k + 1), zi (btw k), zi 1, zi (acc.length : Int)] [] (c, s, I, L, R) Q := by
  intro j
  induction j with
  | zero => intro acc p I h1 h2 h3 h4 h5 hQ; omega
  | succ j ih =>
    intro acc p I h1 h2 h3 h4 h5 hQ
    have hR := h3.2.1
    obtain ⟨y, I1, g1, g2, g3, g4⟩ := k_readTerm (X := X) (d := d) (c := c) (s := s) (L := L) h3 ht htb hk h4 h2
    unfold pTerms at hQ
    cases hp : pTerm B n vs k acc.length p with
    | inl e =>
      rw [hp] at hQ
      obtain ⟨r1, r2⟩ := g3 e hp
      rw [r1] at g1
      refine ts_0 hR (by omega) g1 (hQ 0 I1 ⟨FrC_t h5 g2, fun e' he => ⟨rfl, ?_⟩, fun z hz => (by cases hz)⟩)
      rw [← Sum.inl.inj he]
      exact r2
    | inr z =>
      rw [hp] at hQ
      obtain ⟨r1, r2, r3⟩ := g4 z hp
      have h33 := pTerm_3 hp
      rw [r1] at g1
      have qs := k_isS (X := X) (d := d + 5) (c := c) (s := s) (L := L) (R := R) r2 (ch := btw k) (Or.inr (btw_s hk).1)
      rw [(btw_s hk).2] at qs
      by_cases q : tK B n z.2 = 3 ∧ tS B n z.2 = btw k
      · rw [if_pos q] at qs
        have hp1 := (@tT_g n z.2 B r2.2.1).2.1
        obtain ⟨I2, n1, n2, n3⟩ := k_next (X := X) (d := d + 1) (c := c) (s := s) (L := L) hR r2.1 hp1 r2.2.2.2.1
        have hF2 : FrC t (t + 4) I I2 := FrC_t g2 (FrC_x n3)
        have nx := ih (acc ++ [z.1]) (tT B n z.2) I2 (by rw [List.length_append]; show acc.length + 1 + j = 4; omega) (by rw [List.length_append]; show acc.length + 1 ≤ 3; omega) (CpC_f h3 hF2 htb n2) (CTm_c (fun a w1 w2 => n3.1 a (by have := h3.2.2.2.1; omega)) r3) (FrC_t h5 hF2) (fun y' I' hh => hQ y' I' (by
          have e : (if tK B n z.2 = 3 ∧ tS B n z.2 = btw k then pTerms B n vs k j (acc ++ [z.1]) (tT B n z.2) else .inr (acc ++ [z.1], z.2)) = pTerms B n vs k j (acc ++ [z.1]) (tT B n z.2) := if_pos q
          show TsO I0 t B n (if tK B n z.2 = 3 ∧ tS B n z.2 = btw k then pTerms B n vs k j (acc ++ [z.1]) (tT B n z.2) else .inr (acc ++ [z.1], z.2)) y' I'
          rw [e]
          exact hh))
        rw [show (((acc ++ [z.1]).length : Nat) : Int) = (acc.length : Int) + 1 by rw [List.length_append]; show ((acc.length + 1 : Nat) : Int) = _; omega] at nx
        exact ts_2 hR (by omega) (by omega) g1 qs n1 nx
      · rw [if_neg q] at qs
        refine ts_1 hR (by omega) (by omega) g1 qs (hQ 1 I1 ?_)
        have e : (if tK B n z.2 = 3 ∧ tS B n z.2 = btw k then pTerms B n vs k j (acc ++ [z.1]) (tT B n z.2) else .inr (acc ++ [z.1], z.2)) = .inr (acc ++ [z.1], z.2) := if_neg q
        show TsO I0 t B n (if tK B n z.2 = 3 ∧ tS B n z.2 = btw k then pTerms B n vs k j (acc ++ [z.1]) (tT B n z.2) else .inr (acc ++ [z.1], z.2)) 1 I1
        rw [e]
        refine ⟨FrC_t h5 g2, fun e' he => (by cases he), fun z' hz => ⟨rfl, ?_⟩⟩
        rw [← Sum.inr.inj hz]
        exact ⟨r2, r3⟩
theorem k_readTerms (h : CpC I R B n p b vs) (ht : zTm t) (htb : b + 6 ≤ t) {k : Nat} (hk : k = 0 ∨ k = 1) (h0 : I t 0 = 0) : ∃ y I1, zrun X (d + 7) 33 [zr (some 3), zr (some t), zx (5 + k + 1), zi (btw k)] (c, s, I, L, R) = some (some (zi y), (c, s, I1, L, R)) ∧ TsO I t B n (pTerms B n vs k 4 [] p) y I1 := by
  have pr := sx_X3_readTerms (X := X) (d := d + 6) (u0 := some 3) (u1 := some t) (k2 := 5 + k + 1) (x3 := btw k) (σ := (c, s, I, L, R)) (P := fun q => ∃ y I1, q = (some (zi y), (c, s, I1, L, R)) ∧ TsO I t B n (pTerms B n vs k 4 [] p) y I1) ?_
  · obtain ⟨r, q1, y, I1, q2, q3⟩ := pr
    exact ⟨y, I1, by rw [q1, q2], q3⟩
  · simp (disch := omega) only [e_X3_readTerms_0, e_X3_readTerms_1, e_X3_readTerms_3, e_X3_readTerms_4, e_X3_readTerms_8, e_X3_readTerms_11, e_X3_readTerms_13, e_X3_readTerms_14, e_X3_readTerms_17, e_X3_readTerms_17x, e_X3_readTerms_18, e_X3_readTerms_18x, e_X3_readTerms_19, e_X3_readTerms_19x, e_X3_readTerms_20, e_X3_readTerms_23, e_X3_readTerms_26, e_X3_readTerms_27, e_X3_readTerms_28, e_X3_readTerms_28x, e_X3_readTerms_29, e_X3_readTerms_32, e_X3_readTerms_33, e_X3_readTerms_36, e_X3_readTerms_38, e_X3_readTerms_40, e_X3_readTerms_43, e_X3_readTerms_43x, e_X3_readTerms_44, e_X3_readTerms_47, e_X3_readTerms_50, e_X3_readTerms_53, e_X3_readTerms_56, e_X3_readTerms_57, zcll_s, zpush_s, zpush_n, zinv_i, zinv_l, zinv_r, zinv_x, zcats_nil, zcats_i, zcats_l, zcats_r, zcats_x, Nat.le_refl, and_self, true_and, and_true, zok_1, zok_20, zok_21, eq_self, Nat.reduceAdd, Nat.reduceLeDiff, Nat.zero_le, if_true, if_false, zw3_id, if_pos, if_neg, zand_t]
    exact q_readTerms (X := X) (d := d) (c := c) (s := s) (L := L) ht htb hk I 4 [] p I rfl (by show 0 ≤ 3; omega) h ⟨h0, fun j u hu => by cases hu⟩ FrC_r (fun y I1 hh => ⟨y, I1, rfl, hh⟩)
end
