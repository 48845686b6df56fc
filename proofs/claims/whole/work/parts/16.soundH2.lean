theorem znosh : ∀ c, c < 13 → ∀ k, k < zfn c → zkd (zty c k) ≠ 5 := by decide +kernel
theorem zq_nat {x : Int} (h0 : 0 ≤ x) : Int32.ofInt x = nI x.toNat := by
  show Int32.ofInt x = Int32.ofNat x.toNat
  rw [← Int32.ofInt_eq_ofNat, Int.toNat_of_nonneg h0]
theorem zq_nar {ty : FieldType} {x : Int} (h1 : zcc ty = 0) (h2 : zok (zkd ty) x = true) (h5 : zkd ty ≠ 5) : narrow ty (.int (Int32.ofInt x)) = .int (Int32.ofInt x) ∧ fits ty (.int (Int32.ofInt x)) = true := by
  cases ty with
  | int => exact ⟨rfl, rfl⟩
  | boolean =>
    have : x = 0 ∨ x = 1 := by simpa [zok, zkd] using h2
    rcases this with rfl | rfl <;> decide
  | char =>
    have h : 0 ≤ x ∧ x < 65536 := by simpa [zok, zkd] using h2
    rw [zq_nat h.1]
    exact pk_charN (by omega)
  | byte =>
    have h : -128 ≤ x ∧ x < 128 := by simpa [zok, zkd] using h2
    have e := zq_b h.1 h.2
    have e2 : (Int32.ofInt x).toInt8 = Int8.ofInt x := by
      rw [← e]
      apply Int8.toInt_inj.mp
      rw [Int32.toInt_toInt8, Int8.toInt_toInt32, Int8.toInt_ofInt]
      simp only [Int.bmod, Int8.size]
      omega
    refine ⟨?_, ?_⟩
    · show Value.int (Int32.ofInt x).toInt8.toInt32 = _
      rw [e2, e]
    · have z1 : zi3 x := by unfold zi3; omega
      show (-128 ≤ Int32.ofInt x && Int32.ofInt x ≤ 127) = true
      rw [show (-128 : Int32) = Int32.ofInt (-128) by decide, show (127 : Int32) = Int32.ofInt 127 by decide]
      simp only [Bool.and_eq_true, decide_eq_true_eq]
      rw [zq_le (by unfold zi3; omega) z1, zq_le z1 (by unfold zi3; omega)]
      omega
  | short => exact absurd rfl h5
  | long => cases h1
  | float => cases h1
  | double => cases h1
  | object => cases h1
  | array => cases h1
theorem zq_nb {x : Int} (h : zok 4 x = true) : narrow .byte (.int (Int32.ofInt x)) = .int (Int32.ofInt x) := (zq_nar (ty := .byte) rfl h (by decide)).1
theorem zq_nz {x : Int} (h : zok 2 x = true) : narrow .boolean (.int (Int32.ofInt x)) = .int (Int32.ofInt x) := (zq_nar (ty := .boolean) rfl h (by decide)).1
theorem zE_updI {I : ZI} {a k : Nat} {x : Int} : (fun j => Int32.ofInt (zu I a k x a j)) = upd (fun j => Int32.ofInt (I a j)) k (Int32.ofInt x) := by
  funext j
  unfold zu upd
  by_cases h : j = k
  · subst h; simp
  · simp [h]
theorem zE_updL {L : ZI} {a k : Nat} {x : Int} : (fun j => Value.long (Int64.ofInt (zu L a k x a j))) = updV (fun j => .long (Int64.ofInt (L a j))) k (.long (Int64.ofInt x)) := by
  funext j
  unfold zu updV
  by_cases h : j = k
  · subst h; simp
  · simp [h]
theorem zE_updI2 {I : ZI} {a k : Nat} {x : Int} : (fun j => Value.int (Int32.ofInt (zu I a k x a j))) = updV (fun j => .int (Int32.ofInt (I a j))) k (.int (Int32.ofInt x)) := by
  funext j
  unfold zu updV
  by_cases h : j = k
  · subst h; simp
  · simp [h]
theorem zE_updR {z : Nat} {R : ZR} {a k : Nat} {x : Option Nat} : (fun j => va_rf ((zu R a k x a j).map (fun b => z + b))) = updV (fun j => va_rf ((R a j).map (fun b => z + b))) k (va_rf (x.map (fun b => z + b))) := by
  funext j
  unfold zu updV
  by_cases h : j = k
  · subst h; simp
  · simp [h]
section
variable {p : Program} {l : Launch} {e : Env} {Rm : Room} {s : State} {m : MethodId} {args : Array Value} {below : List Frame} {meth : Method} {c : Code} {H : Heap} {locs : List Loc} {cells slots : Nat} {Q : State → Prop}
variable {s0 : State} {z n ct sn : Nat} {D : va_G} {xa : Nat → Value} {X : ZX} {M : ZM} {I L : ZI} {R : ZR}
theorem zs_arr (hJ : zJ s0 z D (ct, sn, I, L, R) H locs) {a : Nat} (ha : a < ct) (h : (zT a).1 < 10) (hW : s0.WarmedH s.vm) : ArrOfT s (zcy s0 (zT a).1) (zaty (zT a).1) := arrOfT_moved hW.alike (hJ.2.2.2.1 a ha h).1
/-- an element of ints is written -/
theorem zs_iast (hW : s0.WarmedH s.vm) (hx : p.tables.exec = Jvm.exec) (hb : c.code = M.1) {pc a : Nat} {j x : Int} (hd : (decode M.1 pc = .ok (.iastore, 1) ∧ (zT a).1 = 1) ∨ (decode M.1 pc = .ok (.bastore, 1) ∧ (((zT a).1 = 3 ∧ zok 4 x = true) ∨ ((zT a).1 = 4 ∧ zok 2 x = true)))) (hJ : zJ s0 z D (ct, sn, I, L, R) H locs) (ha : a < ct) (h0 : 0 ≤ j) (h1 : j < ((zT a).2 : Int)) (hj : zi3 j) (hxx : zi3 x) {ls : Array Slot} {rest : List Value}
    (kk : ∀ (H1 : Heap) (locs1 : List Loc), zJ s0 z D (ct, sn, zu I a j.toNat x, L, R) H1 locs1 → W p l e Rm s m args below meth c H1 locs1 cells slots Q (F0 m (pc + 1) ls rest)) : W p l e Rm s m args below meth c H locs cells slots Q (F0 m pc ls (.int (Int32.ofInt x) :: .int (Int32.ofInt j) :: .ref (z + a) :: rest)) := by
  have ht : (zT a).1 = 1 ∨ (zT a).1 = 3 ∨ (zT a).1 = 4 := by rcases hd with h | h <;> omega
  have hat := hJ.2.2.1 a ha
  rw [zE_int ht] at hat
  have hcell : H[z + a]? = some (arrV (zcy s0 (zT a).1) (zT a).2 (fun j => .int (Int32.ofInt (I a j)))) := hat
  have hin : ¬ (Int32.ofInt j < 0 ∨ (arrV (zcy s0 (zT a).1) (zT a).2 (fun j => .int (Int32.ofInt (I a j)))).slots.size ≤ (Int32.ofInt j).toNatClampNeg) := by rw [arrV_size]; exact zq_in hj h0 h1
  have hfin : ∀ H1 : Heap, H1[z + a]? = some ((arrV (zcy s0 (zT a).1) (zT a).2 (fun j => .int (Int32.ofInt (I a j)))).setSlot (Int32.ofInt j).toNatClampNeg (.int (Int32.ofInt x))) → H1.size = H.size → (∀ q, q ≠ z + a → H1[q]? = H[q]?) → W p l e Rm s m args below meth c H1 (locs ++ [⟨z + a, (Int32.ofInt j).toNatClampNeg⟩]) cells slots Q (F0 m (pc + 1) ls rest) := by
    intro H1 e1 e2 e3
    refine kk H1 _ (hJ.upd ha e2 e3 ?_ (fun i hia => ⟨zu_ne hia, rfl, rfl⟩) (zu_i3 hJ.2.2.2.2.2.1 hxx) hJ.2.2.2.2.2.2.1 hJ.2.2.2.2.2.2.2.1)
    rw [zE_int ht]
    show H1[z + a]? = some (vp_cell _ _)
    rw [e1, vp_cell_i, arrV_store, zq_n hj h0, zE_updI2]
  have harr := zs_arr hJ ha (by omega) hW
  rcases hd with ⟨hd, t1⟩ | ⟨hd, t1⟩
  · rw [t1] at harr hcell hin hfin
    exact W.iast hx hb hcell (harr _ _) (fun q => by cases q) hin rfl rfl hd hfin
  · rcases t1 with ⟨t1, t2⟩ | ⟨t1, t2⟩
    · rw [t1] at harr hcell hin hfin
      refine W.bast hx hb hcell (harr _ _) (fun q => by cases q) hin rfl rfl hd ?_
      rw [zq_nb t2]
      exact hfin
    · rw [t1] at harr hcell hin hfin
      refine W.zast hx hb hcell (harr _ _) (fun q => by cases q) hin rfl rfl hd ?_
      rw [zq_nz t2]
      exact hfin
/-- an element of longs -/
theorem zs_last (hW : s0.WarmedH s.vm) (hx : p.tables.exec = Jvm.exec) (hb : c.code = M.1) {pc a : Nat} {j x : Int} (hd : decode M.1 pc = .ok (.lastore, 1)) (t1 : (zT a).1 = 2) (hJ : zJ s0 z D (ct, sn, I, L, R) H locs) (ha : a < ct) (h0 : 0 ≤ j) (h1 : j < ((zT a).2 : Int)) (hj : zi3 j) (hxx : zi6 x) {ls : Array Slot} {rest : List Value}
    (kk : ∀ (H1 : Heap) (locs1 : List Loc), zJ s0 z D (ct, sn, I, zu L a j.toNat x, R) H1 locs1 → W p l e Rm s m args below meth c H1 locs1 cells slots Q (F0 m (pc + 1) ls rest)) : W p l e Rm s m args below meth c H locs cells slots Q (F0 m pc ls (.long (Int64.ofInt x) :: .int (Int32.ofInt j) :: .ref (z + a) :: rest)) := by
  have hat := hJ.2.2.1 a ha
  rw [zE_long t1] at hat
  have hcell : H[z + a]? = some (arrV (zcy s0 2) (zT a).2 (fun j => .long (Int64.ofInt (L a j)))) := hat
  have hin : ¬ (Int32.ofInt j < 0 ∨ (arrV (zcy s0 2) (zT a).2 (fun j => .long (Int64.ofInt (L a j)))).slots.size ≤ (Int32.ofInt j).toNatClampNeg) := by rw [arrV_size]; exact zq_in hj h0 h1
  have harr := zs_arr hJ ha (by omega) hW
  rw [t1] at harr
  refine W.last hx hb hcell (harr _ _) (fun q => by cases q) hin rfl rfl hd fun H1 e1 e2 e3 => ?_
  refine kk H1 _ (hJ.upd ha e2 e3 ?_ (fun i hia => ⟨rfl, zu_ne hia, rfl⟩) hJ.2.2.2.2.2.1 (zu_i6 hJ.2.2.2.2.2.2.1 hxx) hJ.2.2.2.2.2.2.2.1)
  rw [zE_long t1]
  show H1[z + a]? = some (vp_cell _ _)
  rw [e1, vp_cell_l, arrV_store, zq_n hj h0, zE_updL]
/-- an element of references -/
theorem zs_aast (hG : zG s0 z D xa X) (hW : s0.WarmedH s.vm) (hx : p.tables.exec = Jvm.exec) (hb : c.code = M.1) {pc a b : Nat} {j : Int} (hd : decode M.1 pc = .ok (.aastore, 1)) (ht : ((zT a).1 = 5 ∧ (zT b).1 = 15) ∨ ((zT a).1 = 6 ∧ (zT b).1 = 19)) (hJ : zJ s0 z D (ct, sn, I, L, R) H locs) (ha : a < ct) (hbc : b < ct) (h0 : 0 ≤ j) (h1 : j < ((zT a).2 : Int)) (hj : zi3 j) {ls : Array Slot} {rest : List Value}
    (kk : ∀ (H1 : Heap) (locs1 : List Loc), zJ s0 z D (ct, sn, I, L, zu R a j.toNat (some b)) H1 locs1 → W p l e Rm s m args below meth c H1 locs1 cells slots Q (F0 m (pc + 1) ls rest)) : W p l e Rm s m args below meth c H locs cells slots Q (F0 m pc ls (.ref (z + b) :: .int (Int32.ofInt j) :: .ref (z + a) :: rest)) := by
  have hat := hJ.2.2.1 a ha
  have hbt := hJ.2.2.1 b hbc
  rw [zE_ref (by omega)] at hat
  obtain ⟨ci, hci, hcb, hzt⟩ : ∃ ci, ci < 13 ∧ (zT b).1 = ci + 10 ∧ zaty (zT a).1 = .object (zown ci) := by
    rcases ht with ⟨t1, t2⟩ | ⟨t1, t2⟩
    · exact ⟨5, by decide, t2, by rw [t1]; rfl⟩
    · exact ⟨9, by decide, t2, by rw [t1]; rfl⟩
  rw [zE_obj hcb] at hbt
  have hcell : H[z + a]? = some (arrV (zcy s0 (zT a).1) (zT a).2 (fun j => va_rf ((R a j).map (fun b => z + b)))) := hat
  have hA := (hJ.2.2.2.1 a ha (by omega)).2.moved hW.alike
  rw [hzt] at hA
  obtain ⟨kA, comp, k1, k2, k3, -⟩ := hA
  obtain ⟨r', hr', cellV, g1, g2, g3, -⟩ := hbt
  have hcls := ((hG.K hW).1 ci _ (zcl_at ci hci)).2
  have hcomp : comp = D.1 ci := Option.some.inj (k3.symm.trans hcls.1)
  subst hcomp
  obtain ⟨kC, hkC, -⟩ := hcls.2
  have hn0 : ¬ Int32.ofInt j < 0 := by rw [← zq_0, zq_lt hj (by unfold zi3; omega)]; omega
  refine W.aast hx hb hcell (fun q h => by cases h) (fun h => by cases h) k1 k2 rfl hkC ⟨hn0, by rw [arrV_size, zq_n hj h0]; omega⟩ g1 (fun q h => by rw [g3] at h; cases h) (by rw [g2]; exact hkC) (by rw [g2]; exact va_assign hcls) rfl rfl hd fun H1 e1 e2 e3 => ?_
  refine kk H1 _ (hJ.upd ha e2 e3 ?_ (fun i hia => ⟨rfl, rfl, zu_ne hia⟩) hJ.2.2.2.2.2.1 hJ.2.2.2.2.2.2.1 (zu_r hJ.2.2.2.2.2.2.2.1 (fun d hd => by cases hd; exact hbc)))
  rw [zE_ref (by omega)]
  show H1[z + a]? = some (vp_cell _ _)
  rw [e1, vp_cell_q, arrV_store, zq_n hj h0, zE_updR]
  rfl
end
