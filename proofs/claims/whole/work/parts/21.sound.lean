/-! The abstract machine's runs are the real machine's. -/
theorem zml_ok {cN ix kd μ na : Nat} (h : zml cN ix = some (kd, μ, na)) : ∃ i, (if kd = 3 then zat i (.methodLink (zown cN) ix objectInit) = true else if kd = 6 then zat i (.methodLink (zown cN) ix Lib.Math.max.name) = true else if kd = 7 then zat i (.methodLink (zown cN) ix Lib.Math.min.name) = true else if kd = 5 then zat i (.methodLink (zown cN) ix arraycopyName) = true else if kd = 4 then lw_tbl[i]? = some (.methodLinkNest (zown cN) ix (zmn μ) "ChanceRuns") else zat i (.methodLink (zown cN) ix (zmn μ)) = true) ∧
    ((kd = 3 ∨ kd = 5 ∨ kd = 6 ∨ kd = 7) ∨ (μ < zmtL.length ∧ (parseMethodDescriptor (zmn μ).desc).map (fun d => d.parameters.length) = some na ∧ (kd = 1 ↔ (zmt μ).2.2 = 0) ∧ ((kd = 2 ∨ kd = 4) ↔ (zmt μ).1.2.2 = 9))) := by
  obtain ⟨i, hi⟩ := zip_mem zmlL_len (zlk_mem _ _ _ h)
  have hok := List.all_eq_true.mp zmlL_ok _ hi
  simp only [zokC, Bool.and_eq_true, Bool.or_eq_true, decide_eq_true_eq] at hok
  refine ⟨i, ?_, ?_⟩
  · have := hok.1
    split at this
    · rename_i h1
      rw [if_pos h1]; exact this
    · rename_i h1
      rw [if_neg h1]
      split at this
      · rename_i h2
        rw [if_pos h2]; exact this
      · rename_i h2
        rw [if_neg h2]
        split at this
        · rename_i h3
          rw [if_pos h3]; exact this
        · rename_i h3
          rw [if_neg h3]
          split at this
          · rename_i h4
            rw [if_pos h4]; exact this
          · rename_i h4
            rw [if_neg h4]
            split at this
            · rename_i h5
              rw [if_pos h5]; simpa using this
            · rename_i h5
              rw [if_neg h5]; exact this
  · rcases hok.2 with h2 | h2
    · exact Or.inl h2
    · refine Or.inr ⟨?_, h2.2.1, h2.2.2.1, h2.2.2.2.1⟩
      rw [zmtL_len.1]
      exact h2.1
theorem ztake {α : Type} {k : Nat} {l : List α} {d : α} (h : k + 1 ≤ l.length) : ∃ as, (l.take (k + 1)).reverse = l.getD k d :: as ∧ as.length = k ∧ l = as.reverse ++ l.getD k d :: l.drop (k + 1) ∧ ∀ v ∈ as, v ∈ l := by
  refine ⟨(l.take k).reverse, ?_, ?_, ?_, ?_⟩
  · rw [List.take_succ_eq_append_getElem (by omega), List.reverse_append, List.getD_eq_getElem?_getD, List.getElem?_eq_getElem (by omega)]
    rfl
  · rw [List.length_reverse, List.length_take]
    omega
  · rw [List.reverse_reverse, List.getD_eq_getElem?_getD, List.getElem?_eq_getElem (by omega)]
    show l = l.take k ++ l[k] :: l.drop (k + 1)
    rw [← List.drop_eq_getElem_cons (by omega), List.take_append_drop]
  · intro v hv
    exact List.mem_of_mem_take (List.mem_reverse.mp hv)
section
variable {p : Program} {l : Launch} {e : Env} {Rm : Room} {s : State} {m : MethodId} {args : Array Value} {below : List Frame} {meth : Method} {c : Code} {H : Heap} {locs : List Loc} {cells slots : Nat} {Q : State → Prop}
variable {s0 : State} {z n : Nat} {D : va_G} {xa : Nat → Value} {X : ZX} {M : ZM} {call : ZC}
set_option maxHeartbeats 4000000 in
/-- a call of a method of ours, of any kind -/
theorem zs_inv (hG : zG s0 z D xa X) (hW : s0.WarmedH s.vm) (hx : p.tables.exec = Jvm.exec) (hb : c.code = M.1) (hown : s.vm.findClass (zown M.2.1) = some m.cls) (hml : c.maxLocals = n) {d : Nat} (hcall : ∀ μ as σ r τ, call μ as σ = some (r, τ) → zCt l s0 z D xa d μ as σ r τ) (hfr : d + 1 ≤ Rm.frames) (hlo : 39 * d + 39 ≤ Rm.locals) {ix kd μ na na1 pc q : Nat} {ls st l1 s1 : List ZV} {σ τ : ZS} (hz : zml M.2.1 ix = some (kd, μ, na))
    (hkd : (decode M.1 pc = .ok (.invokevirtual ix, 3) ∧ kd = 0 ∧ na1 = na + 1 ∧ zrecv (zmt μ).2.2 (st.getD na (zi 0)) = true) ∨ (decode M.1 pc = .ok (.invokestatic ix, 3) ∧ kd = 1 ∧ na1 = na) ∨ (decode M.1 pc = .ok (.invokespecial ix, 3) ∧ (kd = 2 ∨ kd = 4) ∧ na1 = na + 1 ∧ zrecv (zmt μ).2.2 (st.getD na (zi 0)) = true))
    (h : zgo call μ na1 pc ls st σ = some (q, l1, s1, τ)) {lr : Array Slot} (hl : zLS z xa n σ.1 lr ls st) (hJ : zJ s0 z D σ H locs) {c0 n0 : Nat} (hc : cells + c0 = σ.1) (hn : slots + n0 = σ.2.1) (hcE : τ.1 ≤ c0 + Rm.cells) (hnE : τ.2.1 ≤ n0 + Rm.slots)
    (kk : ∀ (H1 : Heap) (locs1 : List Loc) (cells1 slots1 : Nat), zJ s0 z D τ H1 locs1 → zLS z xa n τ.1 lr l1 s1 → cells1 + c0 = τ.1 → slots1 + n0 = τ.2.1 → W p l e Rm s m args below meth c H1 locs1 cells1 slots1 Q (F0 m q lr (s1.map (zc z xa)))) : W p l e Rm s m args below meth c H locs cells slots Q (F0 m pc lr (st.map (zc z xa))) := by
  obtain ⟨hle, h8, r, hc1, hm1, hm2, rfl, rfl, rfl⟩ := zgo_inv h
  have hM := hcall _ _ _ _ _ hc1
  obtain ⟨i, hlk, hmm⟩ := zml_ok hz
  have hxc := zxa_cat hG.2.2.2.1
  have hmm : μ < zmtL.length ∧ (parseMethodDescriptor (zmn μ).desc).map (fun d => d.parameters.length) = some na ∧ (kd = 1 ↔ (zmt μ).2.2 = 0) ∧ ((kd = 2 ∨ kd = 4) ↔ (zmt μ).1.2.2 = 9) := by
    rcases hmm with h | h
    · omega
    · exact h
  obtain ⟨hμ, hpar, hst, hin9⟩ := hmm
  obtain ⟨w1, w2, w3, w4, w5, w6, w7, w8, w9, w10, w11⟩ := zmt_ok hμ
  have hfit : cells + (τ.1 - σ.1) ≤ Rm.cells ∧ slots + (τ.2.1 - σ.2.1) ≤ Rm.slots := by omega
  have hroom : 2 * (F0 m pc lr (st.map (zc z xa))).monitorRoom + (((st.drop na1).map (zc z xa)).map fun v => v.category).sum ≤ 8 := lv_room (by rw [zcats_c hxc]; exact h8)
  have hbk : ∀ {a : Array Value}, va_Run p l e Rm s m args below meth c H locs cells slots (τ.1 - σ.1) (τ.2.1 - σ.2.1) (F0 m pc lr (st.map (zc z xa))) ((st.drop na1).map (zc z xa)) (zQc s0 z D xa r τ a) (zA z) → W p l e Rm s m args below meth c H locs cells slots Q (F0 m pc lr (st.map (zc z xa))) := by
    intro a hr
    refine zs_back hr hJ.2.2.2.2.2.2.2.2 (fun H1 locs1 hJ1 hv => ?_)
    have h1 := kk H1 locs1 _ _ hJ1 (show zLS z xa n τ.1 lr l1 (zpush r (st.drop na1)) from ⟨hl.1, hl.2.1, fun v hv => (hl.2.2.1 v hv).imp id (zvk_mono hm1), fun v hv' => by
      cases r with
      | none => exact zvk_mono hm1 (hl.2.2.2 v (List.mem_of_mem_drop hv'))
      | some w =>
        rcases List.mem_cons.mp hv' with rfl | hv'
        · exact hv _ rfl
        · exact zvk_mono hm1 (hl.2.2.2 v (List.mem_of_mem_drop hv'))⟩) (show (cells + (τ.1 - σ.1)) + c0 = τ.1 by omega) (show (slots + (τ.2.1 - σ.2.1)) + n0 = τ.2.1 by omega)
    rw [zpush_map] at h1
    exact h1
  rcases hkd with ⟨hd, rfl, rfl, hrv⟩ | ⟨hd, rfl, rfl⟩ | ⟨hd, hk24, rfl, hrv⟩
  · -- on an object
    obtain ⟨as, a1, a2, a3, a4⟩ := ztake (d := zi 0) hle
    have hvr : zvk σ.1 (st.getD na (zi 0)) := hl.2.2.2 _ (by rw [List.getD_eq_getElem?_getD, List.getElem?_eq_getElem (by omega)]; exact List.getElem_mem _)
    obtain ⟨b, hb1, hb2⟩ := zs_rcv hG hW hJ hμ hrv hvr
    rw [a1] at hM
    have hr0 : (zmt μ).2.2 ≠ 0 := fun q => by have := hst.mpr q; omega
    rw [if_neg hr0] at w9
    have hsel := (w10.resolve_left hr0).resolve_left (fun q => by have := hin9.mpr q; omega)
    simp at hlk
    refine hbk (va_runV (C := (zmn μ).cls) (b := b) (As := as.map (zc z xa)) (n := na) (Ts := []) ⟨hx, hb, hml, hown, fun w hw => by cases hw⟩ hM ⟨zs_cb hG hW hμ hfr hlo hpar (hG.word hW (zat_ok hlk) args), hG.word hW w9 args, hG.word hW hsel args⟩ ⟨zPc_blind, hb2, fun U hU hWU => ⟨?_, State.WarmedH.trans hW hWU, by rw [hU]; exact hJ.nil, ?_⟩⟩ rfl (by rw [List.length_map]; exact a2) hl.2.1.1 ?_ hroom hd hfit)
    · rw [List.map_cons, hb1]
    · intro v hv
      rcases List.mem_cons.mp hv with rfl | hv
      · exact hvr
      · exact hl.2.2.2 v (a4 v hv)
    · show st.map (zc z xa) = (as.map (zc z xa)).reverse ++ .ref b :: (st.drop (na + 1)).map (zc z xa)
      conv => lhs; rw [a3]
      rw [List.map_append, List.map_cons, hb1, List.map_reverse]
  · -- static
    simp at hlk
    rw [if_pos (hst.mp rfl)] at w9
    refine hbk (va_runS (As := (st.take na1).reverse.map (zc z xa)) (n := na1) (Ts := []) ⟨hx, hb, hml, hown, fun w hw => by cases hw⟩ hM ⟨zs_cb hG hW hμ hfr hlo hpar (hG.word hW (zat_ok hlk) args), hG.word hW w9 args⟩ ⟨zPc_blind, fun U hU hWU => ⟨rfl, State.WarmedH.trans hW hWU, by rw [hU]; exact hJ.nil, fun v hv => hl.2.2.2 v (List.mem_of_mem_take (List.mem_reverse.mp hv))⟩⟩ rfl (by rw [List.length_map, List.length_reverse, List.length_take]; omega) hl.2.1.1 ?_ hroom hd hfit)
    show st.map (zc z xa) = ((st.take na1).reverse.map (zc z xa)).reverse ++ (st.drop na1).map (zc z xa)
    rw [List.map_reverse, List.reverse_reverse, ← List.map_append, List.take_append_drop]
  · -- a constructor
    obtain ⟨as, a1, a2, a3, a4⟩ := ztake (d := zi 0) hle
    have hvr : zvk σ.1 (st.getD na (zi 0)) := hl.2.2.2 _ (by rw [List.getD_eq_getElem?_getD, List.getElem?_eq_getElem (by omega)]; exact List.getElem_mem _)
    obtain ⟨b, hb1, hb2⟩ := zs_rcv hG hW hJ hμ hrv hvr
    rw [a1] at hM
    have hr0 : (zmt μ).2.2 ≠ 0 := fun q => by have := hst.mpr q; omega
    rw [if_neg hr0] at w9
    have h9 := hin9.mp hk24
    have hname := w7.mp h9
    have hret : zmr μ = none := by
      rw [h9] at w8
      cases hm : zmr μ with
      | none => rfl
      | some ty => rw [hm] at w8; cases w8
    have hpre : PreS s H (zPc s0 z D xa (st.getD na (zi 0) :: as) σ) (.ref b :: as.map (zc z xa)) := ⟨zPc_blind, fun U hU hWU => ⟨by rw [List.map_cons, hb1], State.WarmedH.trans hW hWU, by rw [hU]; exact hJ.nil, fun v hv => by
      rcases List.mem_cons.mp hv with rfl | hv
      · exact hvr
      · exact hl.2.2.2 v (a4 v hv)⟩⟩
    have hstk : st.map (zc z xa) = (as.map (zc z xa)).reverse ++ .ref b :: (st.drop (na + 1)).map (zc z xa) := by
      conv => lhs; rw [a3]
      rw [List.map_append, List.map_cons, hb1, List.map_reverse]
    rcases hk24 with rfl | rfl
    · simp at hlk
      have hcb := zs_cb (Rm := Rm) (args := args) (M := M) (d := d) (ix := ix) (mc := τ.1 - σ.1) (ms := τ.2.1 - σ.2.1) hG hW hμ hfr hlo hpar (hG.word hW (zat_ok hlk) args)
      rw [hret] at hcb
      unfold zCt at hM
      rw [hret] at hM
      exact hbk (va_runI (b := b) (As := as.map (zc z xa)) (n := na) (Ts := []) ⟨hx, hb, hml, hown, fun w hw => by cases hw⟩ hM ⟨hcb, hname, hG.word hW w9 args⟩ hpre rfl (by rw [List.length_map]; exact a2) hl.2.1.1 hstk hroom hd hfit)
    · simp at hlk
      obtain ⟨a0, hts0⟩ := hG.2.1
      have hnl : va_Nw (.methodLinkNest (zown M.2.1) ix (zmn μ) "ChanceRuns") s := va_Nw.warmM hW (va_Nw.of rfl (hts0 _ (List.mem_of_getElem? hlk)))
      have hcb := zs_cn (Rm := Rm) (args := args) (M := M) (d := d) (ix := ix) (mc := τ.1 - σ.1) (ms := τ.2.1 - σ.2.1) hG hW hμ hfr hlo hpar (va_Nw.use rfl hnl) hret
      exact hbk (va_runIN (b := b) (As := as.map (zc z xa)) (n := na) (Ts := []) ⟨hx, hb, hml, hown, fun w hw => by cases hw⟩ hM ⟨hcb, hname, hG.word hW w9 args⟩ hpre rfl (by rw [List.length_map]; exact a2) hl.2.1.1 hstk hroom hd hfit)
end
