/-! The law, from its entry, by the abstract machine. -/
def zsT (i : Nat) : Term := Term.string (zown (zsRef.getD i (0, 0, "")).1) (zsRef.getD i (0, 0, "")).2.1
def zwS : List Cond := flatC (Jvm.Cond.and given_1 narrow_1)
set_option maxRecDepth 20000 in
theorem zsa_0 : zwS.contains (Cond.exactly (Term.string "ChanceRuns$Tape" 43) "java/lang/String") = true ∧ zwS.contains (Cond.eq (.field (Term.string "ChanceRuns$Tape" 43) "java/lang/String" "coder" "B") (.int 0)) = true ∧ zwS.contains (Cond.arrayOf (.field (Term.string "ChanceRuns$Tape" 43) "java/lang/String" "value" "[B") .byte) = true ∧ zwS.contains (Cond.eq (.length (.field (Term.string "ChanceRuns$Tape" 43) "java/lang/String" "value" "[B")) (.int (Int32.ofNat 9))) = true := by decide +kernel
set_option maxRecDepth 20000 in
theorem zsb_0 : ∀ j, j < 9 → zwS.contains (Cond.eq (.elem (.field (Term.string "ChanceRuns$Tape" 43) "java/lang/String" "value" "[B") (.int (Int32.ofNat j))) (.int ((zsbyt.getD 0 []).getD j 0))) = true := by decide +kernel
set_option maxRecDepth 20000 in
theorem zsa_1 : zwS.contains (Cond.exactly (Term.string "ChanceRuns$Reader" 86) "java/lang/String") = true ∧ zwS.contains (Cond.eq (.field (Term.string "ChanceRuns$Reader" 86) "java/lang/String" "coder" "B") (.int 0)) = true ∧ zwS.contains (Cond.arrayOf (.field (Term.string "ChanceRuns$Reader" 86) "java/lang/String" "value" "[B") .byte) = true ∧ zwS.contains (Cond.eq (.length (.field (Term.string "ChanceRuns$Reader" 86) "java/lang/String" "value" "[B")) (.int (Int32.ofNat 4))) = true := by decide +kernel
set_option maxRecDepth 20000 in
theorem zsb_1 : ∀ j, j < 4 → zwS.contains (Cond.eq (.elem (.field (Term.string "ChanceRuns$Reader" 86) "java/lang/String" "value" "[B") (.int (Int32.ofNat j))) (.int ((zsbyt.getD 1 []).getD j 0))) = true := by decide +kernel
set_option maxRecDepth 20000 in
theorem zsa_2 : zwS.contains (Cond.exactly (Term.string "ChanceRuns$Reader" 34) "java/lang/String") = true ∧ zwS.contains (Cond.eq (.field (Term.string "ChanceRuns$Reader" 34) "java/lang/String" "coder" "B") (.int 0)) = true ∧ zwS.contains (Cond.arrayOf (.field (Term.string "ChanceRuns$Reader" 34) "java/lang/String" "value" "[B") .byte) = true ∧ zwS.contains (Cond.eq (.length (.field (Term.string "ChanceRuns$Reader" 34) "java/lang/String" "value" "[B")) (.int (Int32.ofNat 3))) = true := by decide +kernel
set_option maxRecDepth 20000 in
theorem zsb_2 : ∀ j, j < 3 → zwS.contains (Cond.eq (.elem (.field (Term.string "ChanceRuns$Reader" 34) "java/lang/String" "value" "[B") (.int (Int32.ofNat j))) (.int ((zsbyt.getD 2 []).getD j 0))) = true := by decide +kernel
set_option maxRecDepth 20000 in
theorem zsa_3 : zwS.contains (Cond.exactly (Term.string "ChanceRuns$Reader" 47) "java/lang/String") = true ∧ zwS.contains (Cond.eq (.field (Term.string "ChanceRuns$Reader" 47) "java/lang/String" "coder" "B") (.int 0)) = true ∧ zwS.contains (Cond.arrayOf (.field (Term.string "ChanceRuns$Reader" 47) "java/lang/String" "value" "[B") .byte) = true ∧ zwS.contains (Cond.eq (.length (.field (Term.string "ChanceRuns$Reader" 47) "java/lang/String" "value" "[B")) (.int (Int32.ofNat 4))) = true := by decide +kernel
set_option maxRecDepth 20000 in
theorem zsb_3 : ∀ j, j < 4 → zwS.contains (Cond.eq (.elem (.field (Term.string "ChanceRuns$Reader" 47) "java/lang/String" "value" "[B") (.int (Int32.ofNat j))) (.int ((zsbyt.getD 3 []).getD j 0))) = true := by decide +kernel
set_option maxRecDepth 20000 in
theorem zsa_4 : zwS.contains (Cond.exactly (Term.string "ChanceRuns$Reader" 130) "java/lang/String") = true ∧ zwS.contains (Cond.eq (.field (Term.string "ChanceRuns$Reader" 130) "java/lang/String" "coder" "B") (.int 0)) = true ∧ zwS.contains (Cond.arrayOf (.field (Term.string "ChanceRuns$Reader" 130) "java/lang/String" "value" "[B") .byte) = true ∧ zwS.contains (Cond.eq (.length (.field (Term.string "ChanceRuns$Reader" 130) "java/lang/String" "value" "[B")) (.int (Int32.ofNat 3))) = true := by decide +kernel
set_option maxRecDepth 20000 in
theorem zsb_4 : ∀ j, j < 3 → zwS.contains (Cond.eq (.elem (.field (Term.string "ChanceRuns$Reader" 130) "java/lang/String" "value" "[B") (.int (Int32.ofNat j))) (.int ((zsbyt.getD 4 []).getD j 0))) = true := by decide +kernel
set_option maxRecDepth 20000 in
theorem zsa_5 : zwS.contains (Cond.exactly (Term.string "ChanceRuns$Reader" 139) "java/lang/String") = true ∧ zwS.contains (Cond.eq (.field (Term.string "ChanceRuns$Reader" 139) "java/lang/String" "coder" "B") (.int 0)) = true ∧ zwS.contains (Cond.arrayOf (.field (Term.string "ChanceRuns$Reader" 139) "java/lang/String" "value" "[B") .byte) = true ∧ zwS.contains (Cond.eq (.length (.field (Term.string "ChanceRuns$Reader" 139) "java/lang/String" "value" "[B")) (.int (Int32.ofNat 3))) = true := by decide +kernel
set_option maxRecDepth 20000 in
theorem zsb_5 : ∀ j, j < 3 → zwS.contains (Cond.eq (.elem (.field (Term.string "ChanceRuns$Reader" 139) "java/lang/String" "value" "[B") (.int (Int32.ofNat j))) (.int ((zsbyt.getD 5 []).getD j 0))) = true := by decide +kernel
set_option maxRecDepth 20000 in
theorem zsa_6 : zwS.contains (Cond.exactly (Term.string "ChanceRuns$Reader" 61) "java/lang/String") = true ∧ zwS.contains (Cond.eq (.field (Term.string "ChanceRuns$Reader" 61) "java/lang/String" "coder" "B") (.int 0)) = true ∧ zwS.contains (Cond.arrayOf (.field (Term.string "ChanceRuns$Reader" 61) "java/lang/String" "value" "[B") .byte) = true ∧ zwS.contains (Cond.eq (.length (.field (Term.string "ChanceRuns$Reader" 61) "java/lang/String" "value" "[B")) (.int (Int32.ofNat 4))) = true := by decide +kernel
set_option maxRecDepth 20000 in
theorem zsb_6 : ∀ j, j < 4 → zwS.contains (Cond.eq (.elem (.field (Term.string "ChanceRuns$Reader" 61) "java/lang/String" "value" "[B") (.int (Int32.ofNat j))) (.int ((zsbyt.getD 6 []).getD j 0))) = true := by decide +kernel
set_option maxRecDepth 20000 in
theorem zsc : ∀ i, i < 7 → ∀ j, j < 7 → i ≠ j → zwS.contains (Cond.not (Cond.eq (zsT i) (zsT j))) = true ∨ zwS.contains (Cond.not (Cond.eq (zsT j) (zsT i))) = true := by decide +kernel
set_option maxRecDepth 20000 in
theorem zsd : zwS.contains (Cond.eq (.static "java/lang/String" "COMPACT_STRINGS" "Z") (.int 1)) = true ∧ zwS.contains (Cond.isRef (.static "jdk/internal/util/Preconditions" "SIOOBE_FORMATTER" "Ljava/util/function/BiFunction;")) = true := by decide +kernel
theorem zse_1 : lw_tbl[493]? = some (.laysStatic "java/lang/String" "COMPACT_STRINGS" "Z") := by decide +kernel
theorem zse_2 : lw_tbl[536]? = some (.laysStatic "jdk/internal/util/Preconditions" "SIOOBE_FORMATTER" "Ljava/util/function/BiFunction;") := by decide +kernel
theorem zse_3 : zat 81 (.initialized "java/lang/String") = true := by decide +kernel
theorem zse_4 : zat 85 (.initialized "jdk/internal/util/Preconditions") = true := by decide +kernel
theorem zsf_0 : lw_tbl[479]? = some (.stringRef (zown (zsRef.getD 0 (0, 0, "")).1) (zsRef.getD 0 (0, 0, "")).2.1 (zsRef.getD 0 (0, 0, "")).2.2) := by decide +kernel
theorem zsf_1 : lw_tbl[574]? = some (.stringRef (zown (zsRef.getD 1 (0, 0, "")).1) (zsRef.getD 1 (0, 0, "")).2.1 (zsRef.getD 1 (0, 0, "")).2.2) := by decide +kernel
theorem zsf_2 : lw_tbl[617]? = some (.stringRef (zown (zsRef.getD 2 (0, 0, "")).1) (zsRef.getD 2 (0, 0, "")).2.1 (zsRef.getD 2 (0, 0, "")).2.2) := by decide +kernel
theorem zsf_3 : lw_tbl[634]? = some (.stringRef (zown (zsRef.getD 3 (0, 0, "")).1) (zsRef.getD 3 (0, 0, "")).2.1 (zsRef.getD 3 (0, 0, "")).2.2) := by decide +kernel
theorem zsf_4 : lw_tbl[647]? = some (.stringRef (zown (zsRef.getD 4 (0, 0, "")).1) (zsRef.getD 4 (0, 0, "")).2.1 (zsRef.getD 4 (0, 0, "")).2.2) := by decide +kernel
theorem zsf_5 : lw_tbl[661]? = some (.stringRef (zown (zsRef.getD 5 (0, 0, "")).1) (zsRef.getD 5 (0, 0, "")).2.1 (zsRef.getD 5 (0, 0, "")).2.2) := by decide +kernel
theorem zsf_6 : lw_tbl[662]? = some (.stringRef (zown (zsRef.getD 6 (0, 0, "")).1) (zsRef.getD 6 (0, 0, "")).2.1 (zsRef.getD 6 (0, 0, "")).2.2) := by decide +kernel
theorem zsg_0 : zat 332 (.instantiable RX0 6) = true := by decide +kernel
theorem zsg_1 : zat 142 (.instantiable RX1 10) = true := by decide +kernel
theorem zsg_2 : zat 362 (.instantiable RX2 2) = true := by decide +kernel
theorem zsg_3 : zat 136 (.instantiable RX3 4) = true := by decide +kernel
theorem zsg_4 : zat 308 (.instantiable RX4 5) = true := by decide +kernel
theorem zsg_5 : zat 151 (.instantiable RX5 3) = true := by decide +kernel
theorem zsg_6 : zat 377 (.instantiable RX6 10) = true := by decide +kernel
theorem zsg_7 : zat 264 (.instantiable RX7 5) = true := by decide +kernel
theorem zsg_8 : zat 98 (.instantiable RX8 8) = true := by decide +kernel
theorem zsg_9 : zat 157 (.instantiable RX9 4) = true := by decide +kernel
theorem zsg_10 : zat 291 (.instantiable RX10 3) = true := by decide +kernel
theorem zsg_11 : zat 90 (.instantiable RX11 11) = true := by decide +kernel
theorem zsg_12 : zat 997 (.instantiable RX12 47) = true := by decide +kernel
theorem zwS_of {a : Array Value} {s : State} (h : (Jvm.Cond.and given_1 narrow_1).before a s = true) {w : Cond} (hw : zwS.contains w = true) : w.before a s = true := flat_of_before _ h w (by simpa [zwS] using hw)
theorem zslen_all : ∀ i, i < 7 → zslen.getD i 0 < 100 := by decide +kernel
set_option maxHeartbeats 4000000 in
/-- what the start gives -/
theorem zG_of {p : Program} {s : State} {m : MethodId} {meth : Method} {c : Code} {b L : Nat} {xs : Nat → Int32} (hL : L ≤ 3584) (C0 : lw_At p s m meth c b L xs) : ∃ (D : va_G) (xa : Nat → Value), zG s s.heap.size D xa (L, fun j => (xs j).toInt) ∧ xa 1 = .ref b := by
  obtain ⟨hx, hb, hr, hml, hown, hts, hX, hbl, hlocks, hgv⟩ := C0
  have hw : ∀ {w : Cond}, w ∈ lw_tbl ∧ goodWord w = true → w.before #[Value.ref b] s = true := fun h => hts _ h.1
  have hA : ∀ a : Nat, a < s.heap.size → ¬ zA s.heap.size a := fun a h q => Nat.not_lt.mpr q h
  obtain ⟨c0, i0, hK0⟩ := u_known (C := RX0) (T := TX0) (N := 6) (n := 6) (ws := u_ws RX0 TX0 6) (fun w h => hw (zly 0 (by decide) w h)) (fun _ h => h) (hw (zat_ok zsg_0))
  obtain ⟨c1, i1, hK1⟩ := u_known (C := RX1) (T := TX1) (N := 10) (n := 10) (ws := u_ws RX1 TX1 10) (fun w h => hw (zly 1 (by decide) w h)) (fun _ h => h) (hw (zat_ok zsg_1))
  obtain ⟨c2, i2, hK2⟩ := u_known (C := RX2) (T := TX2) (N := 2) (n := 2) (ws := u_ws RX2 TX2 2) (fun w h => hw (zly 2 (by decide) w h)) (fun _ h => h) (hw (zat_ok zsg_2))
  obtain ⟨c3, i3, hK3⟩ := u_known (C := RX3) (T := TX3) (N := 4) (n := 4) (ws := u_ws RX3 TX3 4) (fun w h => hw (zly 3 (by decide) w h)) (fun _ h => h) (hw (zat_ok zsg_3))
  obtain ⟨c4, i4, hK4⟩ := u_known (C := RX4) (T := TX4) (N := 5) (n := 5) (ws := u_ws RX4 TX4 5) (fun w h => hw (zly 4 (by decide) w h)) (fun _ h => h) (hw (zat_ok zsg_4))
  obtain ⟨c5, i5, hK5⟩ := u_known (C := RX5) (T := TX5) (N := 3) (n := 3) (ws := u_ws RX5 TX5 3) (fun w h => hw (zly 5 (by decide) w h)) (fun _ h => h) (hw (zat_ok zsg_5))
  obtain ⟨c6, i6, hK6⟩ := u_known (C := RX6) (T := TX6) (N := 10) (n := 10) (ws := u_ws RX6 TX6 10) (fun w h => hw (zly 6 (by decide) w h)) (fun _ h => h) (hw (zat_ok zsg_6))
  obtain ⟨c7, i7, hK7⟩ := u_known (C := RX7) (T := TX7) (N := 5) (n := 5) (ws := u_ws RX7 TX7 5) (fun w h => hw (zly 7 (by decide) w h)) (fun _ h => h) (hw (zat_ok zsg_7))
  obtain ⟨c8, i8, hK8⟩ := u_known (C := RX8) (T := TX8) (N := 8) (n := 8) (ws := u_ws RX8 TX8 8) (fun w h => hw (zly 8 (by decide) w h)) (fun _ h => h) (hw (zat_ok zsg_8))
  obtain ⟨c9, i9, hK9⟩ := u_known (C := RX9) (T := TX9) (N := 4) (n := 4) (ws := u_ws RX9 TX9 4) (fun w h => hw (zly 9 (by decide) w h)) (fun _ h => h) (hw (zat_ok zsg_9))
  obtain ⟨c10, i10, hK10⟩ := u_known (C := RX10) (T := TX10) (N := 3) (n := 3) (ws := u_ws RX10 TX10 3) (fun w h => hw (zly 10 (by decide) w h)) (fun _ h => h) (hw (zat_ok zsg_10))
  obtain ⟨c11, i11, hK11⟩ := u_known (C := RX11) (T := TX11) (N := 11) (n := 11) (ws := u_ws RX11 TX11 11) (fun w h => hw (zly 11 (by decide) w h)) (fun _ h => h) (hw (zat_ok zsg_11))
  obtain ⟨c12, i12, hK12⟩ := u_known (C := RX12) (T := TX12) (N := 47) (n := 47) (ws := u_ws RX12 TX12 47) (fun w h => hw (zly 12 (by decide) w h)) (fun _ h => h) (hw (zat_ok zsg_12))
  obtain ⟨adK, adV, hS, hev⟩ := vk_Sof (args := #[Value.ref b]) (s := s) (N := 7) (tm := zsT) (len := zslen) (byt := zsbyt) (A := zA s.heap.size) (fun i hi => Nat.lt_trans (zslen_all i hi) (by decide))
    (fun i hi => by
      match i, hi with
      | 0, _ => exact zwS_of hgv zsa_0.1
      | 1, _ => exact zwS_of hgv zsa_1.1
      | 2, _ => exact zwS_of hgv zsa_2.1
      | 3, _ => exact zwS_of hgv zsa_3.1
      | 4, _ => exact zwS_of hgv zsa_4.1
      | 5, _ => exact zwS_of hgv zsa_5.1
      | 6, _ => exact zwS_of hgv zsa_6.1
      | i + 7, h => exact absurd h (by omega))
    (fun i hi => by
      match i, hi with
      | 0, _ => exact zwS_of hgv zsa_0.2.1
      | 1, _ => exact zwS_of hgv zsa_1.2.1
      | 2, _ => exact zwS_of hgv zsa_2.2.1
      | 3, _ => exact zwS_of hgv zsa_3.2.1
      | 4, _ => exact zwS_of hgv zsa_4.2.1
      | 5, _ => exact zwS_of hgv zsa_5.2.1
      | 6, _ => exact zwS_of hgv zsa_6.2.1
      | i + 7, h => exact absurd h (by omega))
    (fun i hi => by
      match i, hi with
      | 0, _ => exact zwS_of hgv zsa_0.2.2.1
      | 1, _ => exact zwS_of hgv zsa_1.2.2.1
      | 2, _ => exact zwS_of hgv zsa_2.2.2.1
      | 3, _ => exact zwS_of hgv zsa_3.2.2.1
      | 4, _ => exact zwS_of hgv zsa_4.2.2.1
      | 5, _ => exact zwS_of hgv zsa_5.2.2.1
      | 6, _ => exact zwS_of hgv zsa_6.2.2.1
      | i + 7, h => exact absurd h (by omega))
    (fun i hi => by
      match i, hi with
      | 0, _ => exact zwS_of hgv zsa_0.2.2.2
      | 1, _ => exact zwS_of hgv zsa_1.2.2.2
      | 2, _ => exact zwS_of hgv zsa_2.2.2.2
      | 3, _ => exact zwS_of hgv zsa_3.2.2.2
      | 4, _ => exact zwS_of hgv zsa_4.2.2.2
      | 5, _ => exact zwS_of hgv zsa_5.2.2.2
      | 6, _ => exact zwS_of hgv zsa_6.2.2.2
      | i + 7, h => exact absurd h (by omega))
    (fun i hi => by
      match i, hi with
      | 0, _ => exact fun j hj => zwS_of hgv (zsb_0 j hj)
      | 1, _ => exact fun j hj => zwS_of hgv (zsb_1 j hj)
      | 2, _ => exact fun j hj => zwS_of hgv (zsb_2 j hj)
      | 3, _ => exact fun j hj => zwS_of hgv (zsb_3 j hj)
      | 4, _ => exact fun j hj => zwS_of hgv (zsb_4 j hj)
      | 5, _ => exact fun j hj => zwS_of hgv (zsb_5 j hj)
      | 6, _ => exact fun j hj => zwS_of hgv (zsb_6 j hj)
      | i + 7, h => exact absurd h (by omega))
    (fun i j hi hj hij => (zsc i hi j hj hij).imp (zwS_of hgv) (zwS_of hgv)) hA
  have hZ1 := va_Zof (A := zA s.heap.size) (hts _ (List.mem_of_getElem? zse_1)) (hw (zat_ok zse_3)) (va_eqi (zwS_of hgv zsd.1)) hA
  have hZ2 := va_Zqof (A := zA s.heap.size) (hts _ (List.mem_of_getElem? zse_2)) (hw (zat_ok zse_4)) (zwS_of hgv zsd.2) hA
  obtain ⟨v50, hv50, hZ50⟩ : ∃ v : Value, (v = .null ∨ ∃ a, v = .ref a) ∧ va_Z "jdk/internal/util/Preconditions" "SIOOBE_FORMATTER" "Ljava/util/function/BiFunction;" v (zA s.heap.size) s s.heap := by
    rcases hZ2 with h | ⟨t, h⟩
    · exact ⟨.null, Or.inl rfl, h⟩
    · exact ⟨.ref t, Or.inr ⟨t, rfl⟩, h⟩
  refine ⟨(fun k => ([c0, c1, c2, c3, c4, c5, c6, c7, c8, c9, c10, c11, c12] : List ClassId).getD k 0, fun k => ([i0, i1, i2, i3, i4, i5, i6, i7, i8, i9, i10, i11, i12] : List (Nat → Nat)).getD k (fun _ => 0)), fun k => if k = 1 then .ref b else if k = 50 then v50 else if k < 20 then .ref (adK (k - 2)) else .ref (adV (k - 22)), ⟨rfl, ⟨_, hts⟩, ?_, ?_, ⟨b, rfl, ?_, hbl⟩, fun j => zq_r3 _, by show L < 2147483648; omega, ⟨adK, adV, hS, ?_⟩, hZ1, ?_⟩, rfl⟩
  · intro k q hq
    match k, hq with
    | 0, hq => cases hq; exact hK0
    | 1, hq => cases hq; exact hK1
    | 2, hq => cases hq; exact hK2
    | 3, hq => cases hq; exact hK3
    | 4, hq => cases hq; exact hK4
    | 5, hq => cases hq; exact hK5
    | 6, hq => cases hq; exact hK6
    | 7, hq => cases hq; exact hK7
    | 8, hq => cases hq; exact hK8
    | 9, hq => cases hq; exact hK9
    | 10, hq => cases hq; exact hK10
    | 11, hq => cases hq; exact hK11
    | 12, hq => cases hq; exact hK12
    | k + 13, hq => simp [vwCl] at hq
  · intro k
    by_cases h1 : k = 1
    · simp only [h1, if_true]; exact Or.inr ⟨b, rfl⟩
    · by_cases h2 : k = 50
      · simp only [h2]; exact hv50
      · by_cases h3 : k < 20
        · simp only [h1, h2, h3, if_true, if_false]; exact Or.inr ⟨_, rfl⟩
        · simp only [h1, h2, h3, if_false]; exact Or.inr ⟨_, rfl⟩
  · have e : (fun j => Int32.ofInt ((fun j => (xs j).toInt) j)) = xs := funext fun j => zq_v3 _
    show va_X b L (fun j => Int32.ofInt ((fun j => (xs j).toInt) j)) s s.heap
    rw [e]
    exact hX
  · intro i hi
    refine ⟨?_, ?_, ?_⟩
    · simp only [show ¬ 2 + i = 1 by omega, show ¬ 2 + i = 50 by omega, show 2 + i < 20 by omega, if_true, if_false, show 2 + i - 2 = i by omega]
    · simp only [show ¬ 22 + i = 1 by omega, show ¬ 22 + i = 50 by omega, show ¬ 22 + i < 20 by omega, if_false, show 22 + i - 22 = i by omega]
    · refine vk_R.of (A := #[Value.ref b]) ?_ (hev i hi)
      match i, hi with
      | 0, _ => exact hts _ (List.mem_of_getElem? zsf_0)
      | 1, _ => exact hts _ (List.mem_of_getElem? zsf_1)
      | 2, _ => exact hts _ (List.mem_of_getElem? zsf_2)
      | 3, _ => exact hts _ (List.mem_of_getElem? zsf_3)
      | 4, _ => exact hts _ (List.mem_of_getElem? zsf_4)
      | 5, _ => exact hts _ (List.mem_of_getElem? zsf_5)
      | 6, _ => exact hts _ (List.mem_of_getElem? zsf_6)
      | i + 7, h => exact absurd h (by omega)
  · exact hZ50
/-- the law's walk out of a walk of the abstract machine -/
theorem zs_law {p : Program} {e : Env} {s : State} {m : MethodId} {below : List Frame} {meth : Method} {c : Code} (l : Launch) {b L : Nat} {xs : Nat → Int32} (hL : L ≤ 3584) (C0 : lw_At p s m meth c b L xs)
    (hV : V (L, fun j => (xs j).toInt) (zrun (L, fun j => (xs j).toInt) 14) mL_law 0 [zx 1, zx 0, zx 0, zx 0] [] (0, 0, fun _ _ => 0, fun _ _ => 0, fun _ _ => none) (fun q => q.1 = some (zi 1) ∧ q.2.1 ≤ 600000 ∧ q.2.2.1 ≤ 7302250)) :
    W p l e room_1 s m #[Value.ref b] below meth c s.heap [] 0 0 (lw_Z below #[Value.ref b] s) (entryFrame m ([Value.ref b] : List Value).toArray 4) := by
  obtain ⟨D, xa, hG, hx1⟩ := zG_of hL C0
  obtain ⟨hx, hb, hr, hml, hown, hts, hX, hbl, hlocks, hgv⟩ := C0
  have hxc := zxa_cat hG.2.2.2.1
  obtain ⟨⟨r, τ⟩, ⟨f, hf⟩, h1, h2, h3⟩ := hV
  have h1 : r = some (zi 1) := h1
  have h2 : τ.1 ≤ 600000 := h2
  have h3 : τ.2.1 ≤ 7302250 := h3
  subst h1
  rw [lg_entry_eq]
  have hls := zLS_ini (z := s.heap.size) (n := 4) (c := 0) hxc (as := [zx 1]) (by decide) (fun v hv => by rw [List.mem_singleton.mp hv]; exact Or.inl rfl)
  rw [show ([zx 1] : List ZV).map (zc s.heap.size xa) = [Value.ref b] from congrArg (fun v => [v]) hx1] at hls
  refine zs_ex (M := mL_law) (n := 4) (d := 14) (call := zrun (L, fun j => (xs j).toInt) 14) hG (State.WarmedH.refl s) hx hb hown hml (fun q => by cases q) (fun μ as σ r τ h => zs_run hG 14 μ as σ r τ h) (by decide) (by decide) (c0 := 0) (n0 := 0) (r := some (zi 1)) (τ := τ) (by show τ.1 ≤ 0 + 600000; omega) (by show τ.2.1 ≤ 0 + 7302250; omega) ?_ f 0 _ [] (0, 0, fun _ _ => 0, fun _ _ => 0, fun _ _ => none) _ s.heap [] 0 0 hf ?_ hls rfl rfl
  · intro i k pc st H locs lr cells slots hd hR hJ1 hst hc hn
    cases i with
    | ireturn =>
      simp only [zsR] at hR
      split at hR
      · split at hR
        · rename_i hh
          obtain ⟨rfl, -⟩ := hh
          cases hR
          refine va_forget (fun q hq => hJ1.2.2.2.2.2.2.2.2 q hq) ?_
          refine W.widen (k := 600000) (n := 7302250) (by omega) (by omega) ?_
          rw [show ([Sum.inl 1] : List ZV).map (zc s.heap.size xa) = [Value.int 1] from congrArg (fun v => [Value.int v]) (by decide : Int32.ofInt 1 = 1)]
          exact lw_ret hx hb hr hlocks hd
        · cases hR
      · cases hR
    | return_ => simp only [zsR] at hR; split at hR <;> cases hR
    | lreturn =>
      simp only [zsR] at hR
      split at hR
      · split at hR <;> cases hR
      · cases hR
    | areturn =>
      simp only [zsR] at hR
      split at hR
      · split at hR <;> cases hR
      · cases hR
    | _ => cases hR
  · refine ⟨rfl, fun q _ => rfl, fun i hi => absurd hi (Nat.not_lt_zero i), fun i hi => absurd hi (Nat.not_lt_zero i), fun b _ j => ⟨rfl, rfl, rfl⟩, fun a j => ?_, fun a j => ?_, fun a j b hb => (by cases hb), fun q hq => (by cases hq)⟩
    · show zi3 0; unfold zi3; omega
    · show zi6 0; unfold zi6; omega
