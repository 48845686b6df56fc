/-! Calls: what a run of the abstract machine is, as a contract. -/
def zroom (d mc ms : Nat) : Room := { frames := d, cells := mc, slots := ms, locals := 39 * d }
def zPc (s0 : State) (z : Nat) (D : va_G) (xa : Nat → Value) (as : List ZV) (σ : ZS) : Array Value → State → Prop := fun v U => v = (as.map (zc z xa)).toArray ∧ s0.WarmedH U.vm ∧ zJ s0 z D σ U.heap [] ∧ ∀ v ∈ as, zvk σ.1 v
def zQc (s0 : State) (z : Nat) (D : va_G) (xa : Nat → Value) (r : Option ZV) (τ : ZS) : Array Value → State → Outcome → State → Prop := fun _ _ o t => o = .returned (r.map (zc z xa)) ∧ zJ s0 z D τ t.heap [] ∧ ∀ v, r = some v → zvk τ.1 v
def zCt (l : Launch) (s0 : State) (z : Nat) (D : va_G) (xa : Nat → Value) (d μ : Nat) (as : List ZV) (σ : ZS) (r : Option ZV) (τ : ZS) : Prop :=
  Met l (zmn μ) [Cond.code (zmn μ) (zmt μ).1.1 (zmt μ).2.1 (zmr μ)] (zroom d (τ.1 - σ.1) (τ.2.1 - σ.2.1)) (zPc s0 z D xa as σ) (zQc s0 z D xa r τ) (τ.1 - σ.1) (τ.2.1 - σ.2.1) (zA z)
theorem zPc_blind {s0 : State} {z : Nat} {D : va_G} {xa : Nat → Value} {as : List ZV} {σ : ZS} : FrameBlind (zPc s0 z D xa as σ) := fun _ _ _ _ h => h
theorem zvk_mono {c c1 : Nat} (h : c ≤ c1) {v : ZV} (hv : zvk c v) : zvk c1 v := by
  rcases v with x | x | r | k
  · exact hv
  · exact hv
  · exact fun b hb => Nat.lt_of_lt_of_le (hv b hb) h
  · exact hv
theorem zLS.mono {z n c c1 : Nat} {xa : Nat → Value} {lr : Array Slot} {ls st : List ZV} (h : c ≤ c1) (hl : zLS z xa n c lr ls st) : zLS z xa n c1 lr ls st := ⟨hl.1, hl.2.1, fun v hv => (hl.2.2.1 v hv).imp id (zvk_mono h), fun v hv => zvk_mono h (hl.2.2.2 v hv)⟩
theorem zJ.nil {s0 : State} {z : Nat} {D : va_G} {σ : ZS} {H : Heap} {locs : List Loc} (h : zJ s0 z D σ H locs) : zJ s0 z D σ H [] := ⟨h.1, h.2.1, h.2.2.1, h.2.2.2.1, h.2.2.2.2.1, h.2.2.2.2.2.1, h.2.2.2.2.2.2.1, h.2.2.2.2.2.2.2.1, fun q hq => by cases hq⟩
theorem zJ.locs {s0 : State} {z : Nat} {D : va_G} {σ : ZS} {H : Heap} {l0 locs : List Loc} (h : zJ s0 z D σ H l0) (hl : ∀ q ∈ locs, z ≤ q.base) : zJ s0 z D σ H locs := ⟨h.1, h.2.1, h.2.2.1, h.2.2.2.1, h.2.2.2.2.1, h.2.2.2.2.2.1, h.2.2.2.2.2.2.1, h.2.2.2.2.2.2.2.1, hl⟩
theorem zcats_c {z : Nat} {xa : Nat → Value} (hxc : ∀ k, (xa k).category = 1) : ∀ (st : List ZV), ((st.map (zc z xa)).map fun v => v.category).sum = zcats st
  | [] => rfl
  | v :: r => by
    have ih := zcats_c (z := z) hxc r
    simp only [List.map_cons, List.sum_cons, zcats]
    rw [ih]
    congr 1
    rcases v with x | x | q | k
    · rfl
    · rfl
    · cases q <;> rfl
    · exact hxc k
theorem zgo_inv {call : ZC} {μ n pc q : Nat} {ls st l1 s1 : List ZV} {σ τ : ZS} (h : zgo call μ n pc ls st σ = some (q, l1, s1, τ)) : n ≤ st.length ∧ zcats (st.drop n) ≤ 8 ∧ ∃ r, call μ (st.take n).reverse σ = some (r, τ) ∧ σ.1 ≤ τ.1 ∧ σ.2.1 ≤ τ.2.1 ∧ q = pc + 3 ∧ l1 = ls ∧ s1 = zpush r (st.drop n) := by
  unfold zgo at h
  split at h
  · rename_i hh
    split at h
    · rename_i r τ' hc
      split at h
      · rename_i h9
        cases h
        exact ⟨hh.1, hh.2, r, hc, h9.1, h9.2, rfl, rfl, rfl⟩
      · cases h
    · cases h
  · cases h
/-- what the tables say of a method -/
theorem zmt_ok {μ : Nat} (h : μ < zmtL.length) : (Cond.code (zmn μ) (zmt μ).1.1 (zmt μ).2.1 (zmr μ) ∈ lw_tbl) ∧ (Cond.initialized (zmn μ).cls ∈ lw_tbl ∧ goodWord (Cond.initialized (zmn μ).cls) = true) ∧ zown (zmt μ).1.2.1 = (zmn μ).cls ∧ (zmt μ).2.1 ≤ 14 ∧ ((zmn μ).cls ≠ "java/lang/invoke/MethodHandle" ∧ (zmn μ).cls ≠ "java/lang/invoke/VarHandle") ∧ plainName (zmn μ).cls = true ∧ ((zmt μ).1.2.2 = 9 ↔ (zmn μ).name = "<init>") ∧ zrt (zmt μ).1.2.2 (zmr μ) = true ∧
    (if (zmt μ).2.2 = 0 then (Cond.static (zmn μ) ∈ lw_tbl ∧ goodWord (Cond.static (zmn μ)) = true) else (Cond.instanceMethod (zmn μ) ∈ lw_tbl ∧ goodWord (Cond.instanceMethod (zmn μ)) = true)) ∧ ((zmt μ).2.2 = 0 ∨ (zmt μ).1.2.2 = 9 ∨ (Cond.selects (zmn μ).cls (zmn μ) (zmn μ) ∈ lw_tbl ∧ goodWord (Cond.selects (zmn μ).cls (zmn μ) (zmn μ)) = true)) ∧ ((zmt μ).2.2 = 0 ∨ ((zmt μ).2.2 = 1 ∧ (zmn μ).cls = "java/lang/String") ∨ (10 ≤ (zmt μ).2.2 ∧ (zmt μ).2.2 < 23 ∧ zown ((zmt μ).2.2 - 10) = (zmn μ).cls)) := by
  obtain ⟨l1, l2, l3, l4, l5⟩ := zmtL_len
  rw [l1] at h
  have a1 : zmtL[μ]? = some (zmt μ) := by
    unfold zmt
    rw [List.getD_eq_getElem?_getD, List.getElem?_eq_getElem (by omega)]
    rfl
  have a2 : zmnL[μ]? = some (zmn μ) := by
    unfold zmn
    rw [List.getD_eq_getElem?_getD, List.getElem?_eq_getElem (by omega)]
    rfl
  have a3 : zmrL[μ]? = some (zmr μ) := by
    unfold zmr
    rw [List.getD_eq_getElem?_getD, List.getElem?_eq_getElem (by omega)]
    rfl
  obtain ⟨w, a4⟩ : ∃ w, zmW[μ]? = some w := ⟨_, List.getElem?_eq_getElem (by omega)⟩
  have hz : zmAll[μ]? = some (((zmt μ, zmn μ), zmr μ), w) := by
    unfold zmAll
    rw [List.getElem?_zip_eq_some]
    refine ⟨?_, a4⟩
    rw [List.getElem?_zip_eq_some]
    refine ⟨?_, a3⟩
    rw [List.getElem?_zip_eq_some]
    exact ⟨a1, a2⟩
  have hok := zmAll_ok hz
  generalize hmt : zmt μ = mt at hok ⊢
  obtain ⟨⟨cd, cN, rk⟩, mL, rt⟩ := mt
  obtain ⟨i1, i2, i3, i4⟩ := w
  simp only [zokM, Bool.and_eq_true, decide_eq_true_eq, Bool.or_eq_true] at hok
  obtain ⟨⟨⟨⟨⟨o1, o2⟩, o3⟩, o4⟩, o5⟩, o6⟩ := hok
  refine ⟨?_, zat_ok o1, o2.1, o2.2.1, ⟨o2.2.2.1, o2.2.2.2.1⟩, o2.2.2.2.2.1, o2.2.2.2.2.2.1, o3, ?_, ?_, o6⟩
  · have := zcd_all h
    rw [hmt] at this
    exact this
  · show if rt = 0 then _ else _
    split at o4
    · rename_i hr
      rw [if_pos hr]
      exact zat_ok o4
    · rename_i hr
      rw [if_neg hr]
      exact zat_ok o4
  · rcases o5 with (o5 | o5) | o5
    · exact Or.inl o5
    · exact Or.inr (Or.inl o5)
    · exact Or.inr (Or.inr (zat_ok o5))
section
variable {p : Program} {l : Launch} {e : Env} {Rm : Room} {s : State} {m : MethodId} {args : Array Value} {below : List Frame} {meth : Method} {c : Code} {H : Heap} {locs : List Loc} {cells slots : Nat} {Q : State → Prop}
variable {s0 : State} {z n : Nat} {D : va_G} {xa : Nat → Value} {X : ZX} {M : ZM}
/-- behind a call -/
theorem zs_back {mc ms : Nat} {g : JFrame} {rest : List Value} {r : Option ZV} {τ : ZS} {a : Array Value} (hr : va_Run p l e Rm s m args below meth c H locs cells slots mc ms g rest (zQc s0 z D xa r τ a) (zA z)) (hlo : ∀ q ∈ locs, z ≤ q.base)
    (kk : ∀ (H1 : Heap) (locs1 : List Loc), zJ s0 z D τ H1 locs1 → (∀ v, r = some v → zvk τ.1 v) → W p l e Rm s m args below meth c H1 locs1 (cells + mc) (slots + ms) Q { g with pc := g.pc + 3, stack := (r.map (zc z xa)).toList ++ rest }) : W p l e Rm s m args below meth c H locs cells slots Q g := by
  intro T hT Xs
  obtain ⟨v, st₀, t, T', L, h0, X', hL, e1, e2, ⟨hv, hj, hk⟩, st⟩ := hr T hT Xs
  cases hv
  obtain ⟨t2, a1, b1⟩ := kk T'.heap (locs ++ L) (by rw [e1]; exact hj.locs (fun q hq => (List.mem_append.mp hq).elim (hlo q) (hL q))) hk T' rfl X'
  exact ⟨t2, st t2 a1, b1⟩
theorem zpush_map {r : Option ZV} {rest : List ZV} : (zpush r rest).map (zc z xa) = (r.map (zc z xa)).toList ++ rest.map (zc z xa) := by cases r <;> rfl
/-- the parts of a call that don't depend on its kind -/
theorem zs_cb (hG : zG s0 z D xa X) (hW : s0.WarmedH s.vm) {d μ ix na mc ms : Nat} (hμ : μ < zmtL.length) (hfr : d + 1 ≤ Rm.frames) (hlo : 39 * d + 39 ≤ Rm.locals) (hp : (parseMethodDescriptor (zmn μ).desc).map (fun d => d.parameters.length) = some na) (hl : (Cond.methodLink (zown M.2.1) ix (zmn μ)).before args s = true) :
    CallB Rm s args (zown M.2.1) ix (zmn μ) (zmt μ).1.1 (zmt μ).2.1 (zmr μ) [Cond.code (zmn μ) (zmt μ).1.1 (zmt μ).2.1 (zmr μ)] (zroom d mc ms) mc ms na := by
  obtain ⟨h1, h2, h3, h4, h5, -⟩ := zmt_ok hμ
  refine ⟨rfl, rfl, hfr, by show 8 + ((zmt μ).2.1 + 11) + 39 * d ≤ Rm.locals; omega, fun w hw a' U hU => ?_, List.mem_cons_self, hG.word hW ⟨h1, rfl⟩ args, hG.word hW h2 args, h5, fun sig hs => ?_, hl⟩
  · rw [List.mem_singleton.mp hw]
    exact hG.word (State.WarmedH.trans hW hU) ⟨h1, rfl⟩ a'
  · rw [hs] at hp
    exact (Option.some.inj hp).symm
theorem zs_cn (hG : zG s0 z D xa X) (hW : s0.WarmedH s.vm) {d μ ix na mc ms : Nat} (hμ : μ < zmtL.length) (hfr : d + 1 ≤ Rm.frames) (hlo : 39 * d + 39 ≤ Rm.locals) (hp : (parseMethodDescriptor (zmn μ).desc).map (fun d => d.parameters.length) = some na) {host : String} (hl : (Cond.methodLinkNest (zown M.2.1) ix (zmn μ) host).before args s = true) {ret : Option FieldType} (hret : zmr μ = ret) :
    va_CN Rm s args (zown M.2.1) ix (zmn μ) host (zmt μ).1.1 (zmt μ).2.1 ret [Cond.code (zmn μ) (zmt μ).1.1 (zmt μ).2.1 (zmr μ)] (zroom d mc ms) mc ms na := by
  subst hret
  obtain ⟨h1, h2, h3, h4, h5, -⟩ := zmt_ok hμ
  refine ⟨⟨rfl, rfl, hfr, by show 8 + ((zmt μ).2.1 + 11) + 39 * d ≤ Rm.locals; omega, fun w hw a' U hU => ?_, List.mem_cons_self⟩, hG.word hW ⟨h1, rfl⟩ args, hG.word hW h2 args, h5, fun sig hs => ?_, hl⟩
  · rw [List.mem_singleton.mp hw]
    exact hG.word (State.WarmedH.trans hW hU) ⟨h1, rfl⟩ a'
  · rw [hs] at hp
    exact (Option.some.inj hp).symm
/-- a receiver is there -/
theorem zs_rcv (hG : zG s0 z D xa X) (hW : s0.WarmedH s.vm) {σ : ZS} (hJ : zJ s0 z D σ H locs) {μ : Nat} (hμ : μ < zmtL.length) {v : ZV} (hv : zrecv (zmt μ).2.2 v = true) (hk : zvk σ.1 v) : ∃ b, zc z xa v = .ref b ∧ ∃ cellB : Cell, H[b]? = some cellB ∧ cellB.vm.isStatics = false ∧ s.vm.findClass (zmn μ).cls = some cellB.cls := by
  obtain ⟨-, -, -, -, -, -, -, -, -, -, h6⟩ := zmt_ok hμ
  unfold zrecv at hv
  split at hv
  · rename_i a
    simp only [decide_eq_true_eq] at hv
    obtain ⟨t1, t2⟩ := hv
    have ha : a < σ.1 := hk a rfl
    obtain ⟨h6, h7, h8⟩ : 10 ≤ (zmt μ).2.2 ∧ (zmt μ).2.2 < 23 ∧ zown ((zmt μ).2.2 - 10) = (zmn μ).cls := by
      rcases h6 with h | h | h
      · omega
      · omega
      · exact h
    have hat := hJ.2.2.1 a ha
    rw [zE_obj (ci := (zmt μ).2.2 - 10) (by omega)] at hat
    obtain ⟨cell, g1, g2, g3⟩ := va_recv (hG.K hW) (va_P1 hat) (ci := (zmt μ).2.2 - 10) (q0 := 0) (zcl_at _ (by omega)) rfl
    exact ⟨z + a, rfl, cell, g1, g2, by rw [← h8]; exact g3⟩
  · rename_i e
    simp only [decide_eq_true_eq] at hv
    obtain ⟨t1, t2, t3⟩ := hv
    obtain ⟨adK, adV, hS, hxs⟩ := hG.2.2.2.2.2.2.2.1
    obtain ⟨g1, -, -⟩ := hxs (e - 2) (by omega)
    rw [show 2 + (e - 2) = e by omega] at g1
    obtain ⟨cell, q1, q2, q3, -⟩ := va_O.moved hW.alike (va_O.kept (hS.1 (e - 2) (by omega)).1 (fun a h _ => hJ.2.1 a (by rw [← hG.1]; exact h)))
    refine ⟨adK (e - 2), g1, cell, q1, q2, ?_⟩
    rcases h6 with h | h | h
    · omega
    · rw [h.2]; exact q3
    · omega
  · cases hv
end
