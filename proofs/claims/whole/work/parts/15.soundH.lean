/-! The law's start, as the abstract machine needs it; and the instructions that read and write the heap. -/
def zsb (i : Nat) : List Int32 := (zstr i).map Int32.ofInt
def zslen : List Nat := zstrL.map List.length
def zsbyt : List (List Int32) := zstrL.map (fun l => l.map Int32.ofInt)
/-- what holds at the law's entry: s0 the state there, z its heap's size, D the classes' numbers, xa what lies outside, X the script -/
def zG (s0 : State) (z : Nat) (D : va_G) (xa : Nat → Value) (X : ZX) : Prop :=
  s0.heap.size = z ∧ (∃ a0 : Array Value, ∀ w ∈ lw_tbl, w.before a0 s0 = true) ∧ (∀ (k : Nat) (q : vw_C), vwCl[k]? = some q → u_Kn s0 q.1 q.2.1 q.2.2 (D.1 k) (D.2 k)) ∧ (∀ k, xa k = .null ∨ ∃ a, xa k = .ref a) ∧
  (∃ b : Nat, xa 1 = .ref b ∧ va_X b X.1 (fun j => Int32.ofInt (X.2 j)) s0 s0.heap ∧ b < z) ∧ (∀ j, zi3 (X.2 j)) ∧ X.1 < 2147483648 ∧
  (∃ adK adV : Nat → Nat, vk_S 7 zslen zsbyt adK adV (zA z) s0 s0.heap ∧ ∀ i, i < 7 → xa (2 + i) = .ref (adK i) ∧ xa (22 + i) = .ref (adV i) ∧ vk_R (zown (zsRef.getD i (0, 0, "")).1) (zsRef.getD i (0, 0, "")).2.1 (zsRef.getD i (0, 0, "")).2.2 (adK i) s0) ∧
  va_Z "java/lang/String" "COMPACT_STRINGS" "Z" (.int 1) (zA z) s0 s0.heap ∧ va_Z "jdk/internal/util/Preconditions" "SIOOBE_FORMATTER" "Ljava/util/function/BiFunction;" (xa 50) (zA z) s0 s0.heap
section
variable {s0 s : State} {z : Nat} {D : va_G} {xa : Nat → Value} {X : ZX}
theorem zG.word (hG : zG s0 z D xa X) (hW : s0.WarmedH s.vm) {w : Cond} (h : w ∈ lw_tbl ∧ goodWord w = true) (args : Array Value) : w.before args s = true := by
  obtain ⟨a0, h0⟩ := hG.2.1
  exact word_at hW (good_of_word h.2) (h0 w h.1)
theorem zG.K (hG : zG s0 z D xa X) (hW : s0.WarmedH s.vm) : va_K D vwCl [] s := ⟨fun c q hq => u_Kn_moved hW.alike (hG.2.2.1 c q hq), fun k q h => by simp at h⟩
theorem zG.Ka (hG : zG s0 z D xa X) (hW : s0.WarmedH s.vm) {cA : ClassId} {ty : FieldType} (h : ArrOfT s0 cA ty ∧ va_RA s0 cA ty) : va_K D vwCl [(cA, ty)] s := ⟨fun c q hq => u_Kn_moved hW.alike (hG.2.2.1 c q hq), fun k q hk => by
  cases k with
  | zero => cases hk; exact ⟨arrOfT_moved hW.alike h.1, h.2.moved hW.alike⟩
  | succ k => simp at hk⟩
theorem va_P1 {D : va_G} {q : Nat × va_E} {H : Heap} (h : va_at D vwCl q H) : va_P D vwCl [q] H := fun k p hk => by
  cases k with
  | zero => cases hk; exact h
  | succ k => simp at hk
theorem zE_obj {I L : ZI} {R : ZR} {a ci : Nat} (h : (zT a).1 = ci + 10) : zE s0 z I L R a = .inr (ci, (List.range (zfn ci)).map (fun k => zval z (zct ci k) I L R a k)) := by
  have h1 := (zT_ok (a := a) (by omega)).1 (by omega)
  unfold zE
  rw [if_pos (by omega), h1.1, h]
  simp
theorem zE_int {I L : ZI} {R : ZR} {a : Nat} (h : (zT a).1 = 1 ∨ (zT a).1 = 3 ∨ (zT a).1 = 4) : zE s0 z I L R a = .inl (zcy s0 (zT a).1, (zT a).2, .inl (fun j => Int32.ofInt (I a j))) := by
  unfold zE
  rw [if_neg (by omega), if_neg (by omega), if_pos (by omega)]
theorem zE_long {I L : ZI} {R : ZR} {a : Nat} (h : (zT a).1 = 2) : zE s0 z I L R a = .inl (zcy s0 2, (zT a).2, .inr (.inl (fun j => Int64.ofInt (L a j)))) := by
  unfold zE
  rw [if_neg (by omega), if_pos h]
theorem zE_ref {I L : ZI} {R : ZR} {a : Nat} (h : 5 ≤ (zT a).1 ∧ (zT a).1 < 8) : zE s0 z I L R a = .inl (zcy s0 (zT a).1, (zT a).2, .inr (.inr (.inr (.inr (fun j => (R a j).map (fun b => z + b)))))) := by
  unfold zE
  rw [if_neg (by omega), if_neg (by omega), if_neg (by omega)]
theorem zE_same {I L I1 L1 : ZI} {R R1 : ZR} {i : Nat} (h1 : I1 i = I i) (h2 : L1 i = L i) (h3 : R1 i = R i) : zE s0 z I1 L1 R1 i = zE s0 z I L R i := by
  unfold zE zval
  rw [h1, h2, h3]
theorem zu_ne {α : Type} {f : Nat → Nat → α} {a k : Nat} {v : α} {i : Nat} (h : i ≠ a) : zu f a k v i = f i := by
  funext j
  unfold zu
  rw [if_neg (fun q => h q.1)]
/-- one cell is written -/
theorem zJ.upd {c n : Nat} {I L I1 L1 : ZI} {R R1 : ZR} {H H1 : Heap} {locs : List Loc} (hJ : zJ s0 z D (c, n, I, L, R) H locs) {a k : Nat} (ha : a < c) (hsz : H1.size = H.size) (ho : ∀ q, q ≠ z + a → H1[q]? = H[q]?) (hat : va_at D vwCl (z + a, zE s0 z I1 L1 R1 a) H1)
    (hs : ∀ i, i ≠ a → I1 i = I i ∧ L1 i = L i ∧ R1 i = R i) (hI : ∀ a j, zi3 (I1 a j)) (hL : ∀ a j, zi6 (L1 a j)) (hR : ∀ a j b, R1 a j = some b → b < c) : zJ s0 z D (c, n, I1, L1, R1) H1 (locs ++ [⟨z + a, k⟩]) := by
  obtain ⟨h1, h2, h3, h4, h5, h6, h7, h8, h9⟩ := hJ
  refine ⟨hsz.trans h1, fun q hq => (ho q (by omega)).trans (h2 q hq), fun i hi => ?_, h4, fun b hb j => ?_, hI, hL, hR, fun q hq => ?_⟩
  · by_cases hia : i = a
    · subst hia; exact hat
    · obtain ⟨e1, e2, e3⟩ := hs i hia
      have := h3 i hi
      rw [← zE_same (s0 := s0) (z := z) e1 e2 e3] at this
      exact this.kept (ho _ (by show z + i ≠ z + a; omega))
  · have hba : b ≠ a := by
      have : c ≤ b := hb
      omega
    obtain ⟨e1, e2, e3⟩ := hs b hba
    show I1 b j = 0 ∧ L1 b j = 0 ∧ R1 b j = none
    rw [e1, e2, e3]
    exact h5 b hb j
  · rcases List.mem_append.mp hq with h | h
    · exact h9 q h
    · rw [List.mem_singleton.mp h]
      show z ≤ z + a
      omega
theorem zu_i3 {I : ZI} (h : ∀ a j, zi3 (I a j)) {a k : Nat} {x : Int} (hx : zi3 x) : ∀ b j, zi3 (zu I a k x b j) := fun b j => by
  unfold zu
  split
  · exact hx
  · exact h b j
theorem zu_i6 {I : ZI} (h : ∀ a j, zi6 (I a j)) {a k : Nat} {x : Int} (hx : zi6 x) : ∀ b j, zi6 (zu I a k x b j) := fun b j => by
  unfold zu
  split
  · exact hx
  · exact h b j
theorem zu_r {R : ZR} {c : Nat} (h : ∀ a j b, R a j = some b → b < c) {a k : Nat} {x : Option Nat} (hx : ∀ b, x = some b → b < c) : ∀ b j d, zu R a k x b j = some d → d < c := fun b j d hd => by
  unfold zu at hd
  split at hd
  · exact hx d hd
  · exact h b j d hd
end
section
variable {p : Program} {l : Launch} {e : Env} {Rm : Room} {s : State} {m : MethodId} {args : Array Value} {below : List Frame} {meth : Method} {c : Code} {H : Heap} {locs : List Loc} {cells slots : Nat} {Q : State → Prop}
variable {s0 : State} {z n ct sn : Nat} {D : va_G} {xa : Nat → Value} {X : ZX} {M : ZM} {I L : ZI} {R : ZR}
theorem zvp {f : Nat → Value} {N k : Nat} (h : k < N) : vp_V ((List.range N).map f) k = f k := by
  unfold vp_V
  rw [List.getD_eq_getElem?_getD, List.getElem?_map, List.getElem?_range h]
  rfl
/-- a field is read -/
theorem zs_get (hG : zG s0 z D xa X) (hW : s0.WarmedH s.vm) (hx : p.tables.exec = Jvm.exec) (hb : c.code = M.1) (hown : s.vm.findClass (zown M.2.1) = some m.cls) {ix ci f u w pc a : Nat} (hd : decode M.1 pc = .ok (.getfield ix, 3)) (hf : zfl M.2.1 ix = some (ci, f, u, w)) (hu : ¬ u = 3) (ht : (zT a).1 = ci + 10) (hJ : zJ s0 z D (ct, sn, I, L, R) H locs) (ha : a < ct) {ls : Array Slot} {rest : List Value}
    (kk : W p l e Rm s m args below meth c H locs cells slots Q (F0 m (pc + 3) ls (zval z u I L R a f :: rest))) : W p l e Rm s m args below meth c H locs cells slots Q (F0 m pc ls (.ref (z + a) :: rest)) := by
  obtain ⟨h1, h2, h3, h4, h5, h6, h7, h8⟩ := zfl_ok hf hu
  have hat := hJ.2.2.1 a ha
  rw [zE_obj ht] at hat
  have hlk := hG.word hW h8 args
  rw [← h7] at hlk
  refine va_get (D := D) (ci := ci) (C := zown ci) (T := zTf ci) (N := zfn ci) (Ts := u_ws (zown ci) (zTf ci) (zfn ci)) hx hb (fun w hw => hG.word hW (zly ci h1 w hw) args) (fun _ h => h) hown (hG.K hW) (va_P1 hat) 0 rfl (zcl_at ci h1) f h2 hlk (fun _ h9 => h9) (v := zval z u I L R a f) ?_ hd kk
  rw [List.getElem?_map, List.getElem?_range h2, h3]
  rfl
/-- a field is written -/
theorem zs_put (hG : zG s0 z D xa X) (hW : s0.WarmedH s.vm) (hx : p.tables.exec = Jvm.exec) (hb : c.code = M.1) (hown : s.vm.findClass (zown M.2.1) = some m.cls) (hin : M.2.2 = 9 → meth.name = "<init>") {ix ci f u w pc a : Nat} (hd : decode M.1 pc = .ok (.putfield ix, 3)) (hf : zfl M.2.1 ix = some (ci, f, u, w)) (hu : ¬ u = 3) (ht : (zT a).1 = ci + 10) (hw : w < 10 ∨ (M.2.2 = 9 ∧ M.2.1 = ci)) (hJ : zJ s0 z D (ct, sn, I, L, R) H locs) (ha : a < ct) {v : Value} {I1 L1 : ZI} {R1 : ZR} (hn : narrow (zty ci f) v = v) (hfit : fits (zty ci f) v = true) (hv : zval z u I1 L1 R1 a f = v) (hs : ∀ i j, ¬ (i = a ∧ j = f) → I1 i j = I i j ∧ L1 i j = L i j ∧ R1 i j = R i j) (hI : ∀ a j, zi3 (I1 a j)) (hL : ∀ a j, zi6 (L1 a j)) (hR : ∀ a j b, R1 a j = some b → b < ct) {ls : Array Slot} {rest : List Value}
    (kk : ∀ (H1 : Heap) (locs1 : List Loc), zJ s0 z D (ct, sn, I1, L1, R1) H1 locs1 → W p l e Rm s m args below meth c H1 locs1 cells slots Q (F0 m (pc + 3) ls rest)) : W p l e Rm s m args below meth c H locs cells slots Q (F0 m pc ls (v :: .ref (z + a) :: rest)) := by
  obtain ⟨h1, h2, h3, h4, h5, h6, h7, h8⟩ := zfl_ok hf hu
  have hat := hJ.2.2.1 a ha
  rw [zE_obj ht] at hat
  have hlk := hG.word hW h8 args
  rw [← h7] at hlk
  have hts : ∀ w ∈ u_ws (zown ci) (zTf ci) (zfn ci), w.before args s = true := fun w hw => hG.word hW (zly ci h1 w hw) args
  have hinn : ∀ w ∈ u_ws (zown ci) (zTf ci) (zfn ci), w ∈ u_ws (zown ci) (zTf ci) (zfn ci) := fun _ h => h
  have hK := hG.K hW
  have hc := zcl_at ci h1
  have hap := va_apart (own := zown M.2.1) hts hinn (zty ci) (zty_ok ci h1) (znm_ok ci h1) hK hc
  obtain ⟨r, hr1, cell, q1, q2, q3, q4⟩ := hat
  have hr : r = (zown ci, zTf ci, zfn ci) := Option.some.inj (hr1.symm.trans hc)
  subst hr
  obtain ⟨hS, hfc, kC, hkC, hkind⟩ := hK.1 ci _ hc
  obtain ⟨cf, kf, fi, fd, hi, hsl⟩ := hS f h2
  have hlay := hts _ (u_in_lay h2)
  unfold u_lay at hlay
  have hst := (u_facts hfc hkC (u_lays hts hinn h2) hi).1
  have hnew : ∀ (H1 : Heap) (cell' : Cell), H1[z + a]? = some (cell.setSlot (D.2 ci f) v) → va_at D vwCl (z + a, zE s0 z I1 L1 R1 a) H1 := by
    intro H1 cell' e1
    rw [zE_obj ht]
    refine ⟨_, hc, (t_OB.to (V := updV (vp_V ((List.range (zfn ci)).map (fun k => zval z (zct ci k) I L R a k))) f v) ⟨_, e1, q2, q3, t_set q4 hap h2 v⟩ (fun j hj => ?_))⟩
    rw [zvp hj]
    unfold updV
    by_cases hjf : j = f
    · subst hjf
      rw [if_pos rfl, ← h3]
      exact hv.symm
    · rw [if_neg hjf, zvp hj]
      obtain ⟨e1, e2, e3⟩ := hs a j (fun q => hjf q.2)
      unfold zval
      rw [e1, e2, e3]
  have hfin : ∀ (H1 : Heap), H1[z + a]? = some (cell.setSlot fd.slot v) → H1.size = H.size → (∀ q, q ≠ z + a → H1[q]? = H[q]?) → W p l e Rm s m args below meth c H1 (locs ++ [⟨z + a, fd.slot⟩]) cells slots Q (F0 m (pc + 3) ls rest) := by
    intro H1 e1 e2 e3
    rw [hsl] at e1
    refine kk H1 _ (hJ.upd ha e2 e3 (hnew H1 cell e1) (fun i hia => ?_) hI hL hR)
    refine ⟨funext fun j => (hs i j (fun q => hia q.1)).1, funext fun j => (hs i j (fun q => hia q.1)).2.1, funext fun j => (hs i j (fun q => hia q.1)).2.2⟩
  by_cases hw10 : 10 ≤ w
  · rw [h6] at hlay
    rw [if_pos (by simp [hw10])] at hlay
    have hcN : M.2.2 = 9 ∧ M.2.1 = ci := by omega
    have hcf : m.cls = cf := by
      obtain ⟨_, _, c', _, _, _, -, -, hf', -, -, -, hown2, -⟩ := Cond.laysFinal_spec hlay
      have e1 : c' = cf := by have := hi.symm.trans hf'; simp at this; exact this.1.symm
      rw [h7, ← hcN.2] at hown2
      rw [← e1]; exact Option.some.inj (hown.symm.trans hown2)
    have h6' := u_fits hfc hkC hkind (Or.inr hlay) hi (zty_ok ci h1 f h2) hn hfit
    exact W.putFinK hx hb hown hlk hi hst hcf (hin hcN.1) (by rw [q2]; exact h6') q1 q3 (by rw [hsl]; exact k2_hasslot (q4 f h2)) rfl rfl hd hfin
  · rw [h6] at hlay
    rw [if_neg (by simp [hw10])] at hlay
    have h6' := u_store hfc hkC hkind hlay hi (zty_ok ci h1 f h2) hn hfit
    exact W.putK hx hb (f := fd) ⟨hown, hlk, ⟨_, _, _, hi⟩, hst⟩ (by rw [q2]; exact h6') q1 q3 (by rw [hsl]; exact k2_hasslot (q4 f h2)) rfl rfl hd hfin
end
