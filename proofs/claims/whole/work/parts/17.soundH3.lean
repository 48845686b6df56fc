section
variable {p : Program} {l : Launch} {e : Env} {Rm : Room} {s : State} {m : MethodId} {args : Array Value} {below : List Frame} {meth : Method} {c : Code} {H : Heap} {locs : List Loc} {cells slots : Nat} {Q : State → Prop}
variable {s0 : State} {z n ct sn : Nat} {D : va_G} {xa : Nat → Value} {X : ZX} {M : ZM} {I L : ZI} {R : ZR}
theorem zkept (hJ : zJ s0 z D (ct, sn, I, L, R) H locs) (hG : zG s0 z D xa X) : ∀ a : Nat, a < s0.heap.size → ¬ zA z a → H[a]? = s0.heap[a]? := fun a h _ => hJ.2.1 a (by rw [← hG.1]; exact h)
/-- a static field -/
theorem zs_gst (hG : zG s0 z D xa X) (hW : s0.WarmedH s.vm) (hx : p.tables.exec = Jvm.exec) (hb : c.code = M.1) (hown : s.vm.findClass (zown M.2.1) = some m.cls) (hJ : zJ s0 z D (ct, sn, I, L, R) H locs) {C nm d : String} {ix pc : Nat} {v : Value} (hZ : va_Z C nm d v (zA z) s0 s0.heap) (hlink : (Cond.fieldLink (zown M.2.1) ix C nm d).before args s = true) (hd : decode M.1 pc = .ok (.getstatic ix, 3)) {ls : Array Slot} {rest : List Value}
    (kk : W p l e Rm s m args below meth c H locs cells slots Q (F0 m (pc + 3) ls (v :: rest))) : W p l e Rm s m args below meth c H locs cells slots Q (F0 m pc ls rest) := by
  obtain ⟨cf, kf, fi, f, a, cell, h1, h2, h3, h4, h5, h6, h7, h8⟩ := va_Z.moved hW.alike (va_Z.kept hZ (zkept hJ hG))
  exact W.gets hx hb hown hlink h1 h2 h3 h4 h5 (fun q => by rw [q] at h6; cases h6) h7 rfl hd kk
/-- a text's field -/
theorem zs_txt (hG : zG s0 z D xa X) (hW : s0.WarmedH s.vm) (hx : p.tables.exec = Jvm.exec) (hb : c.code = M.1) (hown : s.vm.findClass (zown M.2.1) = some m.cls) (hJ : zJ s0 z D (ct, sn, I, L, R) H locs) {nm d : String} {ix pc q : Nat} {v : Value} (hZ : va_OF "java/lang/String" nm d v q (zA z) s0 s0.heap) (hlink : (Cond.fieldLink (zown M.2.1) ix "java/lang/String" nm d).before args s = true) (hd : decode M.1 pc = .ok (.getfield ix, 3)) {ls : Array Slot} {rest : List Value}
    (kk : W p l e Rm s m args below meth c H locs cells slots Q (F0 m (pc + 3) ls (v :: rest))) : W p l e Rm s m args below meth c H locs cells slots Q (F0 m pc ls (.ref q :: rest)) := by
  obtain ⟨cf, k, fi, f, cell, h1, h2, h3, h4, h5, h6⟩ := va_OF.moved hW.alike (va_OF.kept hZ (zkept hJ hG))
  exact W.getf hx hb hown hlink h1 h2 h3 h4 (v := v) h5 rfl rfl hd kk
theorem zslen_at {i : Nat} : zslen.getD i 0 = (zstr i).length := by
  unfold zslen zstr
  rw [List.getD_eq_getElem?_getD, List.getD_eq_getElem?_getD, List.getElem?_map]
  cases zstrL[i]? <;> rfl
theorem zsbyt_at {i j : Nat} : (zsbyt.getD i []).getD j 0 = Int32.ofInt ((zstr i).getD j 0) := by
  unfold zsbyt zstr
  rw [List.getD_eq_getElem?_getD, List.getD_eq_getElem?_getD, List.getD_eq_getElem?_getD, List.getD_eq_getElem?_getD, List.getElem?_map]
  cases h : zstrL[i]? with
  | none => simp
  | some w =>
    simp only [Option.map_some, Option.getD_some]
    rw [List.getElem?_map]
    cases w[j]? with
    | none => simp
    | some v => rfl
theorem zst_sm : ∀ i, i < 7 → (zstr i).length < 100 ∧ ∀ j, j < (zstr i).length → 0 ≤ (zstr i).getD j 0 ∧ (zstr i).getD j 0 < 128 := by decide +kernel
theorem zst_val {i : Nat} (h : i < 7) (j : Nat) : 0 ≤ (zstr i).getD j 0 ∧ (zstr i).getD j 0 < 128 := by
  by_cases hj : j < (zstr i).length
  · exact (zst_sm i h).2 j hj
  · rw [List.getD_eq_getElem?_getD, List.getElem?_eq_none (by omega)]
    decide
theorem zvk_x {ct k : Nat} (h : (2 ≤ k ∧ k < 9) ∨ (22 ≤ k ∧ k < 29)) : zvk ct (zx k) := by
  show k = 1 ∨ _
  omega
set_option maxHeartbeats 4000000 in
theorem zs_H (hG : zG s0 z D xa X) (hW : s0.WarmedH s.vm) (hx : p.tables.exec = Jvm.exec) (hb : c.code = M.1) (hown : s.vm.findClass (zown M.2.1) = some m.cls) (hin : M.2.2 = 9 → meth.name = "<init>") {i : Instr} {k pc q : Nat} {ls st l1 s1 : List ZV} {I1 L1 : ZI} {R1 : ZR} (hd : decode M.1 pc = .ok (i, k)) (h : zsH X M.2.1 M.2.2 i k pc ls st I L R = some (q, l1, s1, I1, L1, R1)) {lr : Array Slot} (hl : zLS z xa n ct lr ls st) (hJ : zJ s0 z D (ct, sn, I, L, R) H locs)
    (kk : ∀ (H1 : Heap) (locs1 : List Loc), zJ s0 z D (ct, sn, I1, L1, R1) H1 locs1 → zLS z xa n ct lr l1 s1 → W p l e Rm s m args below meth c H1 locs1 cells slots Q (F0 m q lr (s1.map (zc z xa)))) : W p l e Rm s m args below meth c H locs cells slots Q (F0 m pc lr (st.map (zc z xa))) := by
  obtain ⟨adK, adV, hS, hxs⟩ := hG.2.2.2.2.2.2.2.1
  cases i with
  | getfield ix =>
    simp only [zsH] at h
    split at h
    · rename_i a r
      split at h
      · rename_i ci f u w hf
        split at h
        · rename_i hh
          obtain ⟨rfl, ht⟩ := hh
          have ha : a < ct := hl.hd a rfl
          split at h
          · rename_i hu
            subst hu
            cases h
            exact zs_get hG hW hx hb hown hd hf (by omega) ht hJ ha (kk H locs hJ (hl.tail.push (v := zi _) (hJ.2.2.2.2.2.1 a f)))
          · split at h
            · rename_i hu
              subst hu
              cases h
              exact zs_get hG hW hx hb hown hd hf (by omega) ht hJ ha (kk H locs hJ (hl.tail.push (v := zl _) (hJ.2.2.2.2.2.2.1 a f)))
            · split at h
              · rename_i hu
                subst hu
                cases h
                exact zs_get hG hW hx hb hown hd hf (by omega) ht hJ ha (kk H locs hJ (hl.tail.push (v := zr _) (fun b hb => hJ.2.2.2.2.2.2.2.1 a f b hb)))
              · cases h
        · cases h
      · cases h
    · rename_i e r
      split at h
      · rename_i ci f u w hf
        split at h
        · rename_i hh
          obtain ⟨rfl, rfl, h2, h9⟩ := hh
          cases h
          obtain ⟨hc, hix⟩ := zfl_txt hf
          obtain ⟨g1, g2, g3⟩ := hxs (e - 2) (by omega)
          rw [show 2 + (e - 2) = e by omega] at g1
          rw [show 22 + (e - 2) = e + 20 by omega] at g2
          have hE := hS.1 (e - 2) (by omega)
          have hzo : zown M.2.1 = "java/lang/String" := by rw [hc]; rfl
          rw [List.map_cons, show zc z xa (.inr (.inr (.inr e))) = .ref (adK (e - 2)) from g1]
          rcases hix with ⟨rfl, rfl⟩ | ⟨rfl, rfl⟩
          · have h1 := kk H locs hJ (hl.tail.push (v := zx (e + 20)) (zvk_x (by omega)))
            rw [if_pos rfl, List.map_cons, show zc z xa (zx (e + 20)) = .ref (adV (e - 2)) from g2] at h1
            exact zs_txt hG hW hx hb hown hJ hE.2.2.1 (by rw [hzo]; exact hG.word hW (zat_ok zst_3) args) hd h1
          · have h1 := kk H locs hJ (hl.tail.push (v := zi 0) (by show zi3 0; unfold zi3; omega))
            rw [if_neg (by omega), List.map_cons, show zc z xa (zi 0) = .int 0 from congrArg Value.int zq_0] at h1
            exact zs_txt hG hW hx hb hown hJ hE.2.1 (by rw [hzo]; exact hG.word hW (zat_ok zst_4) args) hd h1
        · cases h
      · cases h
    · cases h
  | putfield ix =>
    simp only [zsH] at h
    split at h
    · rename_i x a r
      split at h
      · rename_i ci f u w hf
        split at h
        · rename_i hh
          obtain ⟨rfl, ht, rfl, hk, hw⟩ := hh
          cases h
          obtain ⟨h1, h2, h3, h4, h5, h6, h7, h8⟩ := zfl_ok hf (by omega)
          have ha : a < ct := hl.tail.hd a rfl
          have hxx : zi3 x := hl.hd
          rw [h5] at hk
          obtain ⟨g1, g2⟩ := zq_nar h4.symm hk (znosh ci h1 f h2)
          refine zs_put hG hW hx hb hown hin hd hf (by omega) ht hw hJ ha (I1 := zu I a f x) (L1 := L) (R1 := R) g1 g2 ?_ (fun i j hij => ⟨by unfold zu; rw [if_neg hij], rfl, rfl⟩) (zu_i3 hJ.2.2.2.2.2.1 hxx) hJ.2.2.2.2.2.2.1 hJ.2.2.2.2.2.2.2.1 (fun H1 locs1 hJ1 => kk H1 locs1 hJ1 hl.tail.tail)
          simp [zval, zu, zc]
        · cases h
      · cases h
    · rename_i x a r
      split at h
      · rename_i ci f u w hf
        split at h
        · rename_i hh
          obtain ⟨rfl, ht, rfl, hw⟩ := hh
          cases h
          obtain ⟨h1, h2, h3, h4, h5, h6, h7, h8⟩ := zfl_ok hf (by omega)
          have ha : a < ct := hl.tail.hd a rfl
          have hxx : zi6 x := hl.hd
          have hty : zty ci f = .long := by
            cases hz : zty ci f <;> rw [hz] at h4 <;> first | rfl | cases h4
          refine zs_put hG hW hx hb hown hin hd hf (by omega) ht hw hJ ha (I1 := I) (L1 := zu L a f x) (R1 := R) (by rw [hty]; rfl) (by rw [hty]; rfl) ?_ (fun i j hij => ⟨rfl, by unfold zu; rw [if_neg hij], rfl⟩) hJ.2.2.2.2.2.1 (zu_i6 hJ.2.2.2.2.2.2.1 hxx) hJ.2.2.2.2.2.2.2.1 (fun H1 locs1 hJ1 => kk H1 locs1 hJ1 hl.tail.tail)
          simp [zval, zu, zc]
        · cases h
      · cases h
    · rename_i x a r
      split at h
      · rename_i ci f u w hf
        split at h
        · rename_i hh
          obtain ⟨rfl, ht, rfl, hw⟩ := hh
          cases h
          obtain ⟨h1, h2, h3, h4, h5, h6, h7, h8⟩ := zfl_ok hf (by omega)
          have ha : a < ct := hl.tail.hd a rfl
          have hxx : ∀ b, x = some b → b < ct := hl.hd
          have hnf : narrow (zty ci f) (va_rf (x.map (fun b => z + b))) = va_rf (x.map (fun b => z + b)) ∧ fits (zty ci f) (va_rf (x.map (fun b => z + b))) = true := by
            cases hz : zty ci f <;> rw [hz] at h4 <;> first | (cases x <;> exact ⟨rfl, rfl⟩) | cases h4
          refine zs_put hG hW hx hb hown hin hd hf (by omega) ht hw hJ ha (I1 := I) (L1 := L) (R1 := zu R a f x) hnf.1 hnf.2 ?_ (fun i j hij => ⟨rfl, rfl, by unfold zu; rw [if_neg hij]⟩) hJ.2.2.2.2.2.1 hJ.2.2.2.2.2.2.1 (zu_r hJ.2.2.2.2.2.2.2.1 hxx) (fun H1 locs1 hJ1 => kk H1 locs1 hJ1 hl.tail.tail)
          simp [zval, zu, zc]
        · cases h
      · cases h
    · cases h
  | iaload =>
    simp only [zsH] at h
    split at h
    · rename_i j a r
      split at h
      · rename_i hh
        obtain ⟨rfl, t1, h0, h1⟩ := hh
        cases h
        have ha : a < ct := hl.tail.hd a rfl
        have hat := hJ.2.2.1 a ha
        rw [zE_int (Or.inl t1)] at hat
        have hA := hJ.2.2.2.1 a ha (by omega)
        rw [t1] at hA hat
        have hin := zq_in hl.hd h0 h1
        have h2 := kk H locs hJ (hl.tail.tail.push (v := zi _) (hJ.2.2.2.2.2.1 a j.toNat))
        rw [← zq_n hl.hd h0] at h2
        exact va_iald hx hb (hG.Ka hW hA) (va_P1 hat) 0 0 rfl rfl hin hd h2
      · cases h
    · rename_i j e r
      split at h
      · rename_i hh
        obtain ⟨rfl, rfl, h0, h1⟩ := hh
        cases h
        obtain ⟨b, hb1, hX, hbz⟩ := hG.2.2.2.2.1
        obtain ⟨scr, x1, x2, x3, x4, x5⟩ := (hX.kept (H1 := H) (hJ.2.1 b hbz)).moved hW.alike
        have hin := zq_in hl.hd h0 h1
        rw [List.map_cons, List.map_cons, show zc z xa (.inr (.inr (.inr 1))) = .ref b from hb1]
        have h2 := kk H locs hJ (hl.tail.tail.push (v := zi _) (hG.2.2.2.2.2.1 j.toNat))
        exact W.iald (v := .int (Int32.ofInt (X.2 j.toNat))) hx hb x1 x2 x3 (by rw [x4]; exact hin) (by rw [zq_n hl.hd h0]; exact x5 _ (by omega)) rfl rfl hd h2
      · cases h
    · cases h
  | laload =>
    simp only [zsH] at h
    split at h
    · rename_i j a r
      split at h
      · rename_i hh
        obtain ⟨rfl, t1, h0, h1⟩ := hh
        cases h
        have ha : a < ct := hl.tail.hd a rfl
        have hat := hJ.2.2.1 a ha
        rw [zE_long t1] at hat
        have hA := hJ.2.2.2.1 a ha (by omega)
        rw [t1] at hA
        have hin := zq_in hl.hd h0 h1
        have h2 := kk H locs hJ (hl.tail.tail.push (v := zl _) (hJ.2.2.2.2.2.2.1 a j.toNat))
        rw [← zq_n hl.hd h0] at h2
        exact va_lald hx hb (hG.Ka hW hA) (va_P1 hat) 0 0 rfl rfl hin hd h2
      · cases h
    · cases h
  | baload =>
    simp only [zsH] at h
    split at h
    · rename_i j a r
      split at h
      · rename_i hh
        obtain ⟨rfl, t1, h0, h1⟩ := hh
        cases h
        have ha : a < ct := hl.tail.hd a rfl
        have hat := hJ.2.2.1 a ha
        rw [zE_int (Or.inr t1)] at hat
        have hA := hJ.2.2.2.1 a ha (by omega)
        have hin := zq_in hl.hd h0 h1
        have h2 := kk H locs hJ (hl.tail.tail.push (v := zi _) (hJ.2.2.2.2.2.1 a j.toNat))
        rw [← zq_n hl.hd h0] at h2
        rcases t1 with t1 | t1
        · rw [t1] at hA hat
          exact va_bald hx hb (hG.Ka hW hA) (va_P1 hat) 0 0 rfl rfl hin hd h2
        · rw [t1] at hA hat
          exact va_zald hx hb (hG.Ka hW hA) (va_P1 hat) 0 0 rfl rfl hin hd h2
      · cases h
    · rename_i j e r
      split at h
      · rename_i hh
        obtain ⟨rfl, h22, h29, h0, h1⟩ := hh
        cases h
        obtain ⟨g1, g2, g3⟩ := hxs (e - 22) (by omega)
        rw [show 22 + (e - 22) = e by omega] at g2
        obtain ⟨cell, x1, x2, x3, x4, x5, x6, -⟩ := va_T.moved hW.alike (va_T.kept (hS.1 (e - 22) (by omega)).2.2.2 (zkept hJ hG))
        rw [zslen_at] at x4 x5 x6
        have hlen := (zst_sm (e - 22) (by omega)).1
        rw [List.map_cons, List.map_cons, show zc z xa (.inr (.inr (.inr e))) = .ref (adV (e - 22)) from g2]
        have h2 := kk H locs hJ (hl.tail.tail.push (v := zi _) (by have := zst_val (i := e - 22) (by omega) j.toNat; show zi3 _; unfold zi3; omega))
        refine W.bald (v := .int (Int32.ofInt ((zstr (e - 22)).getD j.toNat 0))) hx hb x1 x2 x3 ?_ ?_ rfl rfl hd h2
        · have := zq_in hl.hd h0 h1
          unfold vp_in at this
          intro q
          refine this (q.imp id (fun w => ?_))
          omega
        · have h6 := x6 j.toNat (by omega)
          simp only [zsbyt_at] at h6
          rw [zq_n hl.hd h0]
          exact h6
      · cases h
    · cases h
  | aaload =>
    simp only [zsH] at h
    split at h
    · rename_i j a r
      split at h
      · rename_i hh
        obtain ⟨rfl, t1, t2, h0, h1⟩ := hh
        cases h
        have ha : a < ct := hl.tail.hd a rfl
        have hat := hJ.2.2.1 a ha
        rw [zE_ref ⟨t1, t2⟩] at hat
        have hin := zq_in hl.hd h0 h1
        have h2 := kk H locs hJ (hl.tail.tail.push (v := zr _) (fun b hb => hJ.2.2.2.2.2.2.2.1 a j.toNat b hb))
        have harr := zs_arr hJ ha (by omega) hW
        have hty : (zaty (zT a).1).isReference = true := by
          rcases (show (zT a).1 = 5 ∨ (zT a).1 = 6 ∨ (zT a).1 = 7 by omega) with t | t | t <;> rw [t] <;> rfl
        exact W.aald (v := va_rf ((R a j.toNat).map (fun b => z + b))) (ty := zaty (zT a).1) hx hb hat (harr _ _) hty (fun q => by cases q) (by show ¬ (_ ∨ (arrV _ _ _).slots.size ≤ _); rw [arrV_size]; exact hin) (by show (arrV _ _ _).slots[_]? = _; rw [zq_n hl.hd h0]; exact arrV_read (j := j.toNat) _ _ (show j.toNat < (zT a).2 by omega)) rfl rfl hd h2
      · cases h
    · cases h
  | iastore =>
    simp only [zsH] at h
    split at h
    · rename_i x j a r
      split at h
      · rename_i hh
        obtain ⟨rfl, t1, h0, h1⟩ := hh
        cases h
        exact zs_iast hW hx hb (Or.inl ⟨hd, t1⟩) hJ (hl.tail.tail.hd a rfl) h0 h1 hl.tail.hd hl.hd (fun H1 locs1 hJ1 => kk H1 locs1 hJ1 hl.tail.tail.tail)
      · cases h
    · cases h
  | lastore =>
    simp only [zsH] at h
    split at h
    · rename_i x j a r
      split at h
      · rename_i hh
        obtain ⟨rfl, t1, h0, h1⟩ := hh
        cases h
        exact zs_last hW hx hb hd t1 hJ (hl.tail.tail.hd a rfl) h0 h1 hl.tail.hd hl.hd (fun H1 locs1 hJ1 => kk H1 locs1 hJ1 hl.tail.tail.tail)
      · cases h
    · cases h
  | bastore =>
    simp only [zsH] at h
    split at h
    · rename_i x j a r
      split at h
      · rename_i hh
        obtain ⟨rfl, t1, h0, h1⟩ := hh
        cases h
        exact zs_iast hW hx hb (Or.inr ⟨hd, t1⟩) hJ (hl.tail.tail.hd a rfl) h0 h1 hl.tail.hd hl.hd (fun H1 locs1 hJ1 => kk H1 locs1 hJ1 hl.tail.tail.tail)
      · cases h
    · cases h
  | aastore =>
    simp only [zsH] at h
    split at h
    · rename_i b j a r
      split at h
      · rename_i hh
        obtain ⟨rfl, t1, h0, h1⟩ := hh
        cases h
        exact zs_aast hG hW hx hb hd t1 hJ (hl.tail.tail.hd a rfl) (hl.hd b rfl) h0 h1 hl.tail.hd (fun H1 locs1 hJ1 => kk H1 locs1 hJ1 hl.tail.tail.tail)
      · cases h
    · cases h
  | arraylength =>
    simp only [zsH] at h
    split at h
    · rename_i v r
      split at h
      · rename_i nn hv
        split at h
        · rename_i hk
          subst hk
          cases h
          unfold zalen at hv
          split at hv
          · rename_i a
            split at hv
            · rename_i ht
              cases hv
              have ha : a < ct := hl.hd a rfl
              have hsm := (zT_ok (a := a) ht.2).2.2
              have h2 := kk H locs hJ (hl.tail.push (v := zi _) (by show zi3 _; unfold zi3; omega))
              have harr := zs_arr hJ ha ht.1 hW
              have e1 : Int32.ofInt (((zT a).2 : Nat) : Int) = (zT a).2.toInt32 := by
                rw [zq_nat (by omega)]
                rfl
              have hat := hJ.2.2.1 a ha
              rcases (show (zT a).1 = 2 ∨ ((zT a).1 = 1 ∨ (zT a).1 = 3 ∨ (zT a).1 = 4) ∨ 5 ≤ (zT a).1 by omega) with t | t | t
              · rw [zE_long t] at hat
                rw [t] at harr
                exact W.alen (n := Int32.ofInt ((zT a).2 : Int)) hx hb hat (harr _ _) (by rw [e1]; show (arrV _ _ _).slots.size.toInt32 = _; rw [arrV_size]) rfl rfl hd h2
              · rw [zE_int t] at hat
                exact W.alen (n := Int32.ofInt ((zT a).2 : Int)) hx hb hat (harr _ _) (by rw [e1]; show (arrV _ _ _).slots.size.toInt32 = _; rw [arrV_size]) rfl rfl hd h2
              · rw [zE_ref ⟨t, (zT_ok (a := a) ht.2).2.1 ht.1⟩] at hat
                exact W.alen (n := Int32.ofInt ((zT a).2 : Int)) hx hb hat (harr _ _) (by rw [e1]; show (arrV _ _ _).slots.size.toInt32 = _; rw [arrV_size]) rfl rfl hd h2
            · cases hv
          · rename_i e
            split at hv
            · rename_i he
              subst he
              cases hv
              obtain ⟨b, hb1, hX, hbz⟩ := hG.2.2.2.2.1
              obtain ⟨scr, x1, x2, x3, x4, x5⟩ := (hX.kept (H1 := H) (hJ.2.1 b hbz)).moved hW.alike
              have hXn := hG.2.2.2.2.2.2.1
              have h2 := kk H locs hJ (hl.tail.push (v := zi _) (by show zi3 _; unfold zi3; omega))
              rw [List.map_cons, show zc z xa (.inr (.inr (.inr 1))) = .ref b from hb1]
              refine W.alen (n := Int32.ofInt (X.1 : Int)) hx hb x1 x2 ?_ rfl rfl hd h2
              rw [x4, zq_nat (by omega)]
              rfl
            · split at hv
              · rename_i he
                cases hv
                obtain ⟨g1, g2, g3⟩ := hxs (e - 22) (by omega)
                rw [show 22 + (e - 22) = e by omega] at g2
                obtain ⟨cell, x1, x2, x3, x4, x5, x6, -⟩ := va_T.moved hW.alike (va_T.kept (hS.1 (e - 22) (by omega)).2.2.2 (zkept hJ hG))
                rw [zslen_at] at x4 x5 x6
                have hlen := (zst_sm (e - 22) (by omega)).1
                have h2 := kk H locs hJ (hl.tail.push (v := zi _) (by show zi3 _; unfold zi3; omega))
                rw [List.map_cons, show zc z xa (.inr (.inr (.inr e))) = .ref (adV (e - 22)) from g2]
                refine W.alen (n := Int32.ofInt ((zstr (e - 22)).length : Int)) hx hb x1 x2 ?_ rfl rfl hd h2
                rw [x5, zq_nat (by omega)]
                rfl
              · cases hv
          · cases hv
        · cases h
      · cases h
    · cases h
  | ldc ix =>
    simp only [zsH] at h
    split at h
    · rename_i x hc
      split at h
      · rename_i hk
        subst hk
        cases h
        obtain ⟨h1, h2⟩ := zcl_I hc
        exact lv_ldc hx hb hown (hG.word hW h1 args) hd (kk H locs hJ (hl.push (v := zi x) h2))
      · cases h
    · rename_i e hc
      split at h
      · rename_i hh
        obtain ⟨rfl, h2, h9⟩ := hh
        cases h
        obtain ⟨g1, g2, g3⟩ := hxs (e - 2) (by omega)
        rw [show 2 + (e - 2) = e by omega] at g1
        have h1 := zcl_T _ (zlk_mem _ _ _ hc) e rfl
        rw [h1] at g3
        have h3 := kk H locs hJ (hl.push (v := zx e) (zvk_x (by omega)))
        rw [List.map_cons, show zc z xa (zx e) = .ref (adK (e - 2)) from g1] at h3
        exact va_ldcS hx hb hown (g3.warm hW) hd h3
      · cases h
    · cases h
  | ldc2_w ix =>
    simp only [zsH] at h
    split at h
    · rename_i x hc
      split at h
      · rename_i hk
        subst hk
        cases h
        obtain ⟨h1, h2⟩ := zcl_L hc
        exact lv_ldc2 hx hb hown (hG.word hW h1 args) hd (kk H locs hJ (hl.push (v := zl x) h2))
      · cases h
    · cases h
  | getstatic ix =>
    simp only [zsH] at h
    split at h
    · rename_i hh
      obtain ⟨rfl, hc, rfl⟩ := hh
      cases h
      have hzo : zown M.2.1 = "java/lang/String" := by rw [hc]; rfl
      have h1 := kk H locs hJ (hl.push (v := zi 1) (by show zi3 1; unfold zi3; omega))
      exact zs_gst hG hW hx hb hown hJ hG.2.2.2.2.2.2.2.2.1 (by rw [hzo]; exact hG.word hW (zat_ok zst_1) args) hd h1
    · split at h
      · rename_i hh
        obtain ⟨rfl, hc, rfl⟩ := hh
        cases h
        have hzo : zown M.2.1 = "java/lang/String" := by rw [hc]; rfl
        have h1 := kk H locs hJ (hl.push (v := zx 50) (by show _ ∨ _; omega))
        exact zs_gst hG hW hx hb hown hJ hG.2.2.2.2.2.2.2.2.2 (by rw [hzo]; exact hG.word hW (zat_ok zst_2) args) hd h1
      · cases h
  | _ => cases h
end
