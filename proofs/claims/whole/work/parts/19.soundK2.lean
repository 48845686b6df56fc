/-! new long[n][m]; arraycopy; Object's constructor; Math's two. -/
theorem zr_outer (c : ClassId) (N h0 : Nat) : ∀ i : Nat, Jvm.Free.Multi.outerC c N h0 i = arrV c N (fun j => va_rf (if j < i then some (h0 + 1 + j) else none))
  | 0 => by
    show ({ cls := c, slots := Array.replicate N .null, vm := .none } : Cell) = _
    rw [arrV_new]
    refine congrArg (arrV c N) (funext fun j => ?_)
    simp [va_rf]
  | i + 1 => by
    show (Jvm.Free.Multi.outerC c N h0 i).setSlot i (.ref (h0 + 1 + i)) = _
    rw [zr_outer c N h0 i, arrV_store]
    refine congrArg (arrV c N) (funext fun j => ?_)
    by_cases e : j = i
    · subst e
      simp [updV, va_rf]
    · by_cases h : j < i
      · simp [updV, e, h, Nat.lt_succ_of_lt h]
      · simp [updV, e, h, show ¬ j < i + 1 by omega]
section
variable {p : Program} {l : Launch} {e : Env} {Rm : Room} {s : State} {m : MethodId} {args : Array Value} {below : List Frame} {meth : Method} {c : Code} {H : Heap} {locs : List Loc} {cells slots : Nat} {Q : State → Prop}
variable {s0 : State} {z n ct sn : Nat} {D : va_G} {xa : Nat → Value} {X : ZX} {M : ZM} {I L : ZI} {R : ZR}
theorem zs_mna (hG : zG s0 z D xa X) (hW : s0.WarmedH s.vm) (hx : p.tables.exec = Jvm.exec) (hb : c.code = M.1) (hown : s.vm.findClass (zown M.2.1) = some m.cls) (hM : M.2.1 = 2) {pc : Nat} {k N : Int} (hd : decode M.1 pc = .ok (.multianewarray 11 2, 4)) (hN0 : 0 ≤ N) (hN1 : N ≤ 1000) (hk0 : 0 ≤ k) (hk1 : k ≤ 1000) (ht : zT ct = (7, N.toNat)) (hr : ∀ j, j < N.toNat → zT (ct + 1 + j) = (2, k.toNat)) (hJ : zJ s0 z D (ct, sn, I, L, R) H locs) (hc : cells + (1 + N.toNat) ≤ Rm.cells) (hsl : slots + (N.toNat + N.toNat * k.toNat) ≤ Rm.slots) {ls : Array Slot} {rest : List Value}
    (kk : ∀ (H1 : Heap), zJ s0 z D (ct + 1 + N.toNat, sn + N.toNat + N.toNat * k.toNat, I, L, fun b j => if b = ct ∧ j < N.toNat then some (ct + 1 + j) else R b j) H1 locs → W p l e Rm s m args below meth c H1 locs (cells + 1 + N.toNat) (slots + N.toNat + N.toNat * k.toNat) Q (F0 m (pc + 4) ls (.ref (z + ct) :: rest))) : W p l e Rm s m args below meth c H locs cells slots Q (F0 m pc ls (.int (Int32.ofInt k) :: .int (Int32.ofInt N) :: rest)) := by
  have hk3 : zi3 k := by unfold zi3; omega
  have hN3 : zi3 N := by unfold zi3; omega
  have z0 : zi3 0 := by unfold zi3; omega
  have hkn : ¬ Int32.ofInt k < 0 := by rw [← zq_0, zq_lt hk3 z0]; omega
  have hNn : ¬ Int32.ofInt N < 0 := by rw [← zq_0, zq_lt hN3 z0]; omega
  have hek : (Int32.ofInt k).toNatClampNeg = k.toNat := zq_n hk3 hk0
  have heN : (Int32.ofInt N).toNatClampNeg = N.toNat := zq_n hN3 hN0
  obtain ⟨a0, hts0⟩ := hG.2.1
  have hov : (Cond.arrayOver (.array .long)).before args s = true := zao_moved hW.alike (hts0 _ (List.mem_of_getElem? zao_rows))
  have hcl : (Cond.classLink (zown M.2.1) 11 ("[" ++ (FieldType.array .long).toString)).before args s = true := by
    rw [hM]
    exact hG.word hW ⟨List.mem_of_getElem? zao_mlink, rfl⟩ args
  have hy : ∀ b, ct ≤ b → ∀ j, I b j = 0 ∧ L b j = 0 ∧ R b j = none := hJ.2.2.2.2.1
  have hsz : H.size = z + ct := hJ.1
  intro T hT Xs
  obtain ⟨vm₁, cA, comp, -, fA, fC, hO, hIn, X', step⟩ := Xs.multianewarray2F hx hown hcl hov (hG.word hW (zat_ok zar_long) args) (g := F0 m pc ls (.int (Int32.ofInt k) :: .int (Int32.ofInt N) :: rest)) rfl (by rw [hb]; exact hd) rfl hNn hkn (by rw [heN]; omega) (by rw [hek]; show k.toNat * 8 ≤ _; omega) (by rw [hek]; omega) (by decide) (by decide) (by rw [heN]; exact hc) (by rw [heN, hek]; exact hsl)
  rw [heN, hek] at X' step
  have hcA : cA = zcy s0 7 := zcy_of (t := 7) hW fA
  have hcC : comp = zcy s0 2 := zcy_of (t := 2) hW fC
  subst hcA
  subst hcC
  generalize hF : Jvm.Free.Multi.fill (T.setVm vm₁) (zcy s0 7) (zcy s0 2) N.toNat k.toNat (defaultValue .long) N.toNat = F at X' step
  have hTh : (T.setVm vm₁).heap = H := hT
  obtain ⟨f1, f2, -, -⟩ := Jvm.Free.Multi.fill_facts (T.setVm vm₁) (zcy s0 7) (zcy s0 2) N.toNat k.toNat (defaultValue .long) N.toNat
  rw [hF, hTh] at f1 f2
  have hold : ∀ x : Nat, x < H.size → F.heap[x]? = H[x]? := fun x hx => by
    have := Jvm.Free.Multi.fill_old (T.setVm vm₁) (zcy s0 7) (zcy s0 2) N.toNat k.toNat (defaultValue .long) (a := x) (by rw [hTh]; exact hx) N.toNat
    rw [hF, hTh] at this
    exact this
  have hrow : ∀ j : Nat, j < N.toNat → F.heap[H.size + 1 + j]? = some (arrV (zcy s0 2) k.toNat (fun _ => .long 0)) := fun j hj => by
    have := Jvm.Free.Multi.fill_inner (T.setVm vm₁) (zcy s0 7) (zcy s0 2) N.toNat k.toNat (defaultValue .long) N.toNat j hj
    rw [hF, hTh] at this
    rw [this]
    show some ({ cls := zcy s0 2, slots := Array.replicate k.toNat (Value.long 0), vm := .none } : Cell) = _
    rw [arrV_new]
  rw [zr_outer] at f2
  have hAr : ArrOfT s (zcy s0 7) (.array .long) := fun N9 z9 => by
    obtain ⟨-, k9, hk9, cm9, hkk9⟩ := (hO 0 0 0).1
    exact ⟨(fun q hq => by cases hq), k9, hk9, cm9, hkk9⟩
  have hAi : ArrOfT s (zcy s0 2) .long := fun N9 z9 => by
    obtain ⟨-, k9, hk9, cm9, hkk9⟩ := (hIn 0 (.long 0)).1
    exact ⟨(fun q hq => by cases hq), k9, hk9, cm9, hkk9⟩
  have hJ1 : zJ s0 z D (ct + 1 + N.toNat, sn + N.toNat + N.toNat * k.toNat, I, L, fun b j => if b = ct ∧ j < N.toNat then some (ct + 1 + j) else R b j) F.heap locs := by
    obtain ⟨h1, h2, h3, h4, h5, h6, h7, h8, h9⟩ := hJ
    have hz1 : (zT ct).1 = 7 := by rw [ht]
    have hz2 : (zT ct).2 = N.toNat := by rw [ht]
    refine ⟨by rw [f1, hsz]; show z + ct + 1 + N.toNat = z + (ct + 1 + N.toNat); omega, fun q hq => (hold q (by omega)).trans (h2 q hq), fun i hi => ?_, fun i hi htt => ?_, fun b hb j => ?_, h6, h7, fun a j b hb => ?_, h9⟩
    · have hi : i < ct + 1 + N.toNat := hi
      by_cases hic : i < ct
      · have := (h3 i hic).kept (hold (z + i) (by omega))
        rw [← zE_same (s0 := s0) (z := z) (I1 := I) (L1 := L) (R1 := fun b j => if b = ct ∧ j < N.toNat then some (ct + 1 + j) else R b j) rfl rfl (funext fun j => by simp [show ¬ i = ct by omega])] at this
        exact this
      · by_cases hie : i = ct
        · subst hie
          show va_at D vwCl (z + i, zE s0 z I L (fun b j => if b = i ∧ j < N.toNat then some (i + 1 + j) else R b j) i) F.heap
          rw [zE_ref (by omega)]
          show F.heap[z + i]? = some (vp_cell _ _)
          rw [← hsz, f2, vp_cell_q, hz1, hz2]
          refine congrArg (fun f => some (arrV (zcy s0 7) N.toNat f)) (funext fun j => ?_)
          by_cases hj : j < N.toNat
          · simp only [hj, if_true, and_self, Option.map_some]
            rw [hsz]
            congr 2
            omega
          · simp [hj, (hy i (Nat.le_refl _) j).2.2]
        · obtain ⟨j, hj, rfl⟩ : ∃ j, j < N.toNat ∧ i = ct + 1 + j := ⟨i - ct - 1, by omega, by omega⟩
          show va_at D vwCl (z + (ct + 1 + j), zE s0 z I L (fun b j => if b = ct ∧ j < N.toNat then some (ct + 1 + j) else R b j) (ct + 1 + j)) F.heap
          have hrj := hr j hj
          rw [zE_long (show (zT (ct + 1 + j)).1 = 2 by rw [hrj])]
          show F.heap[z + (ct + 1 + j)]? = some (vp_cell _ _)
          rw [vp_cell_l, show z + (ct + 1 + j) = H.size + 1 + j by omega, hrow j hj, hrj]
          refine congrArg (fun f => some (arrV (zcy s0 2) k.toNat f)) (funext fun q => ?_)
          rw [(hy (ct + 1 + j) (by omega) q).2.1]
          rfl
    · have hi : i < ct + 1 + N.toNat := hi
      by_cases hic : i < ct
      · exact h4 i hic htt
      · by_cases hie : i = ct
        · subst hie
          rw [hz1]
          exact ⟨arrOfT_moved hW.alike.symm hAr, va_RA.moved hW.alike.symm fA⟩
        · obtain ⟨j, hj, rfl⟩ : ∃ j, j < N.toNat ∧ i = ct + 1 + j := ⟨i - ct - 1, by omega, by omega⟩
          rw [show (zT (ct + 1 + j)).1 = 2 by rw [hr j hj]]
          exact ⟨arrOfT_moved hW.alike.symm hAi, va_RA.moved hW.alike.symm fC⟩
    · have hb : ct + 1 + N.toNat ≤ b := hb
      obtain ⟨y1, y2, y3⟩ := hy b (by omega) j
      refine ⟨y1, y2, ?_⟩
      show (if b = ct ∧ j < N.toNat then some (ct + 1 + j) else R b j) = none
      rw [if_neg (by omega)]
      exact y3
    · show b < ct + 1 + N.toNat
      have hb : (if a = ct ∧ j < N.toNat then some (ct + 1 + j) else R a j) = some b := hb
      split at hb
      · cases hb
        omega
      · have : b < ct := h8 a j b hb
        omega
  obtain ⟨t, a1, b1⟩ := kk F.heap hJ1 F rfl X'
  refine ⟨t, step t ?_, b1⟩
  have e : T.heap.size = z + ct := by rw [hT]; exact hsz
  rw [e]
  exact a1
theorem zcpy_same {a sp b dp k i : Nat} (h : i ≠ b) : zcpy I a sp b dp k i = I i := by
  funext j
  unfold zcpy
  rw [if_neg (fun q => h q.1)]
theorem zs_cpy (hG : zG s0 z D xa X) (hW : s0.WarmedH s.vm) (hx : p.tables.exec = Jvm.exec) (hb : c.code = M.1) (hown : s.vm.findClass (zown M.2.1) = some m.cls) {ix pc a b : Nat} {sp dp k : Int} (hd : decode M.1 pc = .ok (.invokestatic ix, 3)) (hlink : (Cond.methodLink (zown M.2.1) ix arraycopyName).before args s = true) (ta : (zT a).1 = 1) (tb : (zT b).1 = 1) (h1 : 0 ≤ sp) (h2 : 0 ≤ dp) (h3 : 0 ≤ k) (h4 : sp + k ≤ ((zT a).2 : Int)) (h5 : dp + k ≤ ((zT b).2 : Int)) (hJ : zJ s0 z D (ct, sn, I, L, R) H locs) (ha : a < ct) (hbc : b < ct) (hfr : 1 ≤ Rm.frames) {ls : Array Slot} (hml : c.maxLocals = ls.size) {rest : List Value} (hlo : (rest.map fun v => v.category).sum + 18 ≤ Rm.locals)
    (kk : ∀ (H1 : Heap) (locs1 : List Loc), zJ s0 z D (ct, sn, zcpy I a sp.toNat b dp.toNat k.toNat, L, R) H1 locs1 → W p l e Rm s m args below meth c H1 locs1 cells slots Q (F0 m (pc + 3) ls rest)) : W p l e Rm s m args below meth c H locs cells slots Q (F0 m pc ls (.int (Int32.ofInt k) :: .int (Int32.ofInt dp) :: .ref (z + b) :: .int (Int32.ofInt sp) :: .ref (z + a) :: rest)) := by
  have hna := (zT_ok (a := a) (by omega)).2.2
  have hnb := (zT_ok (a := b) (by omega)).2.2
  have i1 : zi3 sp := by unfold zi3; omega
  have i2 : zi3 dp := by unfold zi3; omega
  have i3 : zi3 k := by unfold zi3; omega
  have z0 : zi3 0 := by unfold zi3; omega
  have m1 : ¬ Int32.ofInt sp < 0 := by rw [← zq_0, zq_lt i1 z0]; omega
  have m2 : ¬ Int32.ofInt dp < 0 := by rw [← zq_0, zq_lt i2 z0]; omega
  have m3 : ¬ Int32.ofInt k < 0 := by rw [← zq_0, zq_lt i3 z0]; omega
  have t1 : (Int32.ofInt sp).toNatClampNeg = sp.toNat := zq_n i1 h1
  have t2 : (Int32.ofInt dp).toNatClampNeg = dp.toNat := zq_n i2 h2
  have t3 : (Int32.ofInt k).toNatClampNeg = k.toNat := zq_n i3 h3
  have hca := hJ.2.2.1 a ha
  have hcb := hJ.2.2.1 b hbc
  rw [zE_int (Or.inl ta)] at hca
  rw [zE_int (Or.inl tb)] at hcb
  have hc0 : H[z + a]? = some (arrV (zcy s0 1) (zT a).2 (fun j => .int (Int32.ofInt (I a j)))) := by rw [ta] at hca; exact hca
  have hc1 : H[z + b]? = some (arrV (zcy s0 1) (zT b).2 (fun j => .int (Int32.ofInt (I b j)))) := by rw [tb] at hcb; exact hcb
  have harr := zs_arr hJ ha (by omega) hW
  rw [ta] at harr
  intro T hT Xs
  obtain ⟨-, k0, hk0, cm0, hkk0⟩ := harr (zT a).2 (fun j => .int (Int32.ofInt (I a j)))
  obtain ⟨-, k1, hk1, cm1, hkk1⟩ := harr (zT b).2 (fun j => .int (Int32.ofInt (I b j)))
  obtain ⟨vm', X', step⟩ := Xs.arraycopy hx hown hlink (hG.word hW ⟨List.mem_of_getElem? zac_2, rfl⟩ args) (hG.word hW (zat_ok zac_1) args) (hG.word hW (zat_ok zac_3) args) (src := z + a) (dst := z + b) (cs := arrV (zcy s0 1) (zT a).2 (fun j => .int (Int32.ofInt (I a j)))) (cd := arrV (zcy s0 1) (zT b).2 (fun j => .int (Int32.ofInt (I b j)))) (srcPos := Int32.ofInt sp) (destPos := Int32.ofInt dp) (n := Int32.ofInt k) (by rw [hT]; exact hc0) (by rw [hT]; exact hc1)
    (fun _ h => by cases h) (fun _ h => by cases h) (fun h => by cases h) (fun h => by cases h) hk0 hk1 hkk0 hkk1 (by simp [refKind, zaty]) m1 m2 m3
    (by rw [zq_t3 i1, zq_t3 i3, arrV_size]; omega)
    (by rw [zq_t3 i2, zq_t3 i3, arrV_size]; omega)
    (fun vm₁ _ i hi => by
      rw [t3] at hi
      have e : (arrV (zcy s0 1) (zT a).2 (fun j => Value.int (Int32.ofInt (I a j)))).slots.getD ((Int32.ofInt sp).toNatClampNeg + i) .null = .int (Int32.ofInt (I a (sp.toNat + i))) := by
        rw [t1, Array.getD_eq_getD_getElem?, arrV_read _ _ (show sp.toNat + i < (zT a).2 by omega)]
        rfl
      refine ⟨?_, ?_⟩
      · rw [e]
        rfl
      · rw [e]
        exact trivial)
    (g := F0 m pc ls (.int (Int32.ofInt k) :: .int (Int32.ofInt dp) :: .ref (z + b) :: .int (Int32.ofInt sp) :: .ref (z + a) :: rest)) rfl (by rw [hml]) (rest := rest) rfl (by rw [hb]; exact hd) hfr (by show 2 * 0 + _ + (7 + 11) ≤ _; omega)
  have e1 : copied (arrV (zcy s0 1) (zT a).2 (fun j => .int (Int32.ofInt (I a j)))) (arrV (zcy s0 1) (zT b).2 (fun j => .int (Int32.ofInt (I b j)))) (Int32.ofInt sp) (Int32.ofInt dp) (Int32.ofInt k) = arrV (zcy s0 1) (zT b).2 (fun j => .int (va_cpy (fun j => Int32.ofInt (I a j)) (fun j => Int32.ofInt (I b j)) (Int32.ofInt sp).toNatClampNeg (Int32.ofInt dp).toNatClampNeg (Int32.ofInt k).toNatClampNeg j)) := va_copied (fun z => .int z) (zcy s0 1) (zcy s0 1) (fun j => Int32.ofInt (I a j)) (fun j => Int32.ofInt (I b j)) (by rw [t1, t3]; omega)
  rw [e1] at X' step
  generalize hcell : arrV (zcy s0 1) (zT b).2 (fun j => Value.int (va_cpy (fun j => Int32.ofInt (I a j)) (fun j => Int32.ofInt (I b j)) (Int32.ofInt sp).toNatClampNeg (Int32.ofInt dp).toNatClampNeg (Int32.ofInt k).toNatClampNeg j)) = cell at X' step
  have hl : z + b < H.size := (Array.getElem?_eq_some_iff.mp hc1).1
  have hheap : ((T.setVm vm').setCell (z + b) cell).heap = H.setIfInBounds (z + b) cell := by rw [← hT]; rfl
  have oq : ∀ q : Nat, q ≠ z + b → (H.setIfInBounds (z + b) cell)[q]? = H[q]? := fun q hq => by simp [Array.getElem?_setIfInBounds, Ne.symm hq]
  have hJ0 := hJ.upd (k := 0) (H1 := H.setIfInBounds (z + b) cell) (I1 := zcpy I a sp.toNat b dp.toNat k.toNat) (L1 := L) (R1 := R) hbc (by simp) oq (by
    rw [zE_int (Or.inl tb), tb]
    show (H.setIfInBounds (z + b) cell)[z + b]? = some (vp_cell _ _)
    rw [vp_cell_i]
    simp only [Array.getElem?_setIfInBounds, hl, if_true, ← hcell, t1, t2, t3]
    refine congrArg (fun f => some (arrV (zcy s0 1) (zT b).2 f)) (funext fun j => ?_)
    unfold va_cpy zcpy
    by_cases hj : dp.toNat ≤ j ∧ j < dp.toNat + k.toNat
    · rw [if_pos hj, if_pos ⟨rfl, hj⟩]
    · rw [if_neg hj, if_neg (fun q => hj q.2)]) (fun i hi => ⟨zcpy_same hi, rfl, rfl⟩) (fun a' j => by
      unfold zcpy
      split
      · exact hJ.2.2.2.2.2.1 _ _
      · exact hJ.2.2.2.2.2.1 _ _) hJ.2.2.2.2.2.2.1 hJ.2.2.2.2.2.2.2.1
  obtain ⟨t, a1, b1⟩ := kk _ _ ⟨hJ0.1, hJ0.2.1, hJ0.2.2.1, hJ0.2.2.2.1, hJ0.2.2.2.2.1, hJ0.2.2.2.2.2.1, hJ0.2.2.2.2.2.2.1, hJ0.2.2.2.2.2.2.2.1, fun q hq => by
      rcases List.mem_append.mp hq with h | h
      · exact hJ.2.2.2.2.2.2.2.2 q h
      · obtain ⟨y, -, hy⟩ := List.mem_map.mp h
        rw [← hy]
        show z ≤ z + b
        omega⟩ _ hheap X'
  exact ⟨t, step t a1, b1⟩
end
