/-! New cells. -/
theorem zct_ok : ∀ c, c < 13 → ∀ k, k < zfn c → zct c k = zcc (zty c k) ∧ zcc (zty c k) < 3 := by decide +kernel
theorem zao_moved {ty : FieldType} {u U : State} (hvm : u.vm.Alike U.vm) {a0 a1 : Array Value} (h : (Cond.arrayOver ty).before a0 u = true) : (Cond.arrayOver ty).before a1 U = true :=
  (Cond.arrayOver_setVmC (args := a0) hvm ty).trans h
section
variable {s0 : State} {z : Nat} {D : va_G} {xa : Nat → Value} {X : ZX}
theorem zJ.grow {c n n1 : Nat} {I L : ZI} {R : ZR} {H H1 : Heap} {locs : List Loc} (hJ : zJ s0 z D (c, n, I, L, R) H locs) (hsz : H1.size = H.size + 1) (ho : ∀ q, q < H.size → H1[q]? = H[q]?) (hat : va_at D vwCl (z + c, zE s0 z I L R c) H1)
    (harr : (zT c).1 < 10 → ArrOfT s0 (zcy s0 (zT c).1) (zaty (zT c).1) ∧ va_RA s0 (zcy s0 (zT c).1) (zaty (zT c).1)) : zJ s0 z D (c + 1, n1, I, L, R) H1 locs := by
  obtain ⟨h1, h2, h3, h4, h5, h6, h7, h8, h9⟩ := hJ
  have h1 : H.size = z + c := h1
  refine ⟨by rw [hsz, h1]; rfl, fun q hq => (ho q (by omega)).trans (h2 q hq), fun i hi => ?_, fun i hi ht => ?_, fun b hb j => h5 b (Nat.le_of_succ_le hb) j, h6, h7, fun a j b hb => Nat.lt_succ_of_lt (h8 a j b hb), h9⟩
  · have hi : i < c + 1 := hi
    by_cases hic : i = c
    · subst hic; exact hat
    · exact (h3 i (by show i < c; omega)).kept (ho _ (by show z + i < H.size; omega))
  · have hi : i < c + 1 := hi
    by_cases hic : i = c
    · subst hic; exact harr ht
    · exact h4 i (by show i < c; omega) ht
end
section
variable {p : Program} {l : Launch} {e : Env} {Rm : Room} {s : State} {m : MethodId} {args : Array Value} {below : List Frame} {meth : Method} {c : Code} {H : Heap} {locs : List Loc} {cells slots : Nat} {Q : State → Prop}
variable {s0 : State} {z n ct sn : Nat} {D : va_G} {xa : Nat → Value} {X : ZX} {M : ZM} {I L : ZI} {R : ZR}
theorem zs_new (hG : zG s0 z D xa X) (hW : s0.WarmedH s.vm) (hx : p.tables.exec = Jvm.exec) (hb : c.code = M.1) (hown : s.vm.findClass (zown M.2.1) = some m.cls) {ix ci pc : Nat} (hd : decode M.1 pc = .ok (.new ix, 3)) (hn : znl M.2.1 ix = some ci) (h13 : ci < 13) (ht : zT ct = (ci + 10, zfn ci)) (hJ : zJ s0 z D (ct, sn, I, L, R) H locs) (hc : cells + 1 ≤ Rm.cells) (hsl : slots + zfn ci ≤ Rm.slots) {ls : Array Slot} {rest : List Value}
    (kk : ∀ (H1 : Heap), zJ s0 z D (ct + 1, sn + zfn ci, I, L, R) H1 locs → W p l e Rm s m args below meth c H1 locs (cells + 1) (slots + zfn ci) Q (F0 m (pc + 3) ls (.ref (z + ct) :: rest))) : W p l e Rm s m args below meth c H locs cells slots Q (F0 m pc ls rest) := by
  obtain ⟨⟨i1, i2, i3⟩, hi⟩ := zip_mem znlL_len (zlk_mem _ _ _ hn)
  have hok := List.all_eq_true.mp znlL_ok _ hi
  simp only [zokN, Bool.or_eq_true, Bool.and_eq_true, decide_eq_true_eq] at hok
  rcases hok with hok | ⟨⟨o1, o2⟩, o3⟩
  · omega
  have hK := hG.K hW
  have hKn := hK.1 ci _ (zcl_at ci h13)
  have hts : ∀ w ∈ u_ws (zown ci) (zTf ci) (zfn ci), w.before args s = true := fun w hw => hG.word hW (zly ci h13 w hw) args
  refine W.newcK hx hb hown (hG.word hW (zat_ok o1) args) (hG.word hW (zat_ok o2) args) (hG.word hW (zat_ok o3) args) rfl hd hc hsl hKn.2.1 hJ.1 fun H1 kC hkC e1 z1 oq => ?_
  refine kk H1 (hJ.grow (by rw [z1, hJ.1]) (fun q hq => oq q (by rw [hJ.1] at hq; exact hq)) ?_ (fun h => by rw [ht] at h; simp at h; omega))
  rw [zE_obj (show (zT ct).1 = ci + 10 by rw [ht])]
  refine ⟨_, zcl_at ci h13, (u_born (zty ci) hts (fun _ h => h) hKn hkC e1 (zty_ok ci h13)).to (fun k hk => ?_)⟩
  rw [zvp hk]
  obtain ⟨g1, g2⟩ := zct_ok ci h13 k hk
  obtain ⟨y1, y2, y3⟩ := hJ.2.2.2.2.1 ct (Nat.le_refl _) k
  have y1 : I ct k = 0 := y1
  have y2 : L ct k = 0 := y2
  have y3 : R ct k = none := y3
  unfold zval
  rw [y1, y2, y3, g1]
  cases hz : zty ci k <;> rw [hz] at g2 <;> first | rfl | (exact absurd g2 (by decide))
/-- the class of an array that is made is the one of the law's start -/
theorem zcy_of (hW : s0.WarmedH s.vm) {t : Nat} {cA : ClassId} (h : s.vm.findClass ("[" ++ (zaty t).toString) = some cA) : cA = zcy s0 t := by
  rw [hW.alike.findClass] at h
  unfold zcy
  rw [h]
  rfl
theorem zs_newa (hG : zG s0 z D xa X) (hW : s0.WarmedH s.vm) (hx : p.tables.exec = Jvm.exec) (hb : c.code = M.1) {ty : ArrayType} {pc : Nat} {k : Int} (hd : decode M.1 pc = .ok (.newarray ty, 2)) (h1 : 1 ≤ znew ty) (h0 : 0 ≤ k) (hk : k ≤ 100000) (ht : zT ct = (znew ty, k.toNat)) (hJ : zJ s0 z D (ct, sn, I, L, R) H locs) (hc : cells + 1 ≤ Rm.cells) (hsl : slots + k.toNat ≤ Rm.slots) {ls : Array Slot} {rest : List Value}
    (kk : ∀ (H1 : Heap), zJ s0 z D (ct + 1, sn + k.toNat, I, L, R) H1 locs → W p l e Rm s m args below meth c H1 locs (cells + 1) (slots + k.toNat) Q (F0 m (pc + 2) ls (.ref (z + ct) :: rest))) : W p l e Rm s m args below meth c H locs cells slots Q (F0 m pc ls (.int (Int32.ofInt k) :: rest)) := by
  have hk3 : zi3 k := by unfold zi3; omega
  have hkn : ¬ Int32.ofInt k < 0 := by rw [← zq_0, zq_lt hk3 (by unfold zi3; omega)]; omega
  have hty : newarray.typeOf ty = zaty (znew ty) ∧ (Cond.arrayClass (newarray.typeOf ty)).before args s = true ∧ componentBytes (newarray.typeOf ty) ≤ 8 ∧ znew ty < 5 := by
    cases ty with
    | int => exact ⟨rfl, hG.word hW (zat_ok zar_int) args, by decide, by decide⟩
    | long => exact ⟨rfl, hG.word hW (zat_ok zar_long) args, by decide, by decide⟩
    | byte => exact ⟨rfl, hG.word hW (zat_ok zar_byte) args, by decide, by decide⟩
    | boolean => exact ⟨rfl, hG.word hW (zat_ok zar_bool) args, by decide, by decide⟩
    | char => exact absurd h1 (by decide)
    | short => exact absurd h1 (by decide)
    | float => exact absurd h1 (by decide)
    | double => exact absurd h1 (by decide)
  obtain ⟨t1, t2, t3, t4⟩ := hty
  refine va_newaK hx hb t2 rfl hd rfl hkn (zq_n hk3 h0) (Nat.le_trans (Nat.mul_le_mul (show k.toNat ≤ 100000 by omega) t3) (by decide)) hc hsl hJ.1 fun H1 cA e1 z1 oq hAr hNm => ?_
  rw [t1] at e1 hAr hNm
  have hcA := zcy_of hW hNm
  subst hcA
  have hz1 : (zT ct).1 = znew ty := by rw [ht]
  have hz2 : (zT ct).2 = k.toNat := by rw [ht]
  refine kk H1 (hJ.grow (by rw [z1, hJ.1]) (fun q hq => oq q (by rw [hJ.1] at hq; exact hq)) ?_ (fun _ => ?_))
  · have y := hJ.2.2.2.2.1 ct (Nat.le_refl _)
    have y1 : ∀ j, I ct j = 0 := fun j => (y j).1
    have y2 : ∀ j, L ct j = 0 := fun j => (y j).2.1
    by_cases h2 : znew ty = 2
    · rw [zE_long (by rw [hz1, h2])]
      show H1[z + ct]? = some (vp_cell _ _)
      rw [vp_cell_l, hz2, e1, h2]
      simp only [y2]
      rfl
    · rw [zE_int (by rw [hz1]; omega)]
      show H1[z + ct]? = some (vp_cell _ _)
      rw [vp_cell_i, hz2, e1, hz1]
      simp only [y1]
      rcases (show znew ty = 1 ∨ znew ty = 3 ∨ znew ty = 4 by omega) with q | q | q <;> rw [q] <;> rfl
  · rw [hz1]
    refine ⟨arrOfT_moved hW.alike.symm hAr, va_RA.moved hW.alike.symm ?_⟩
    rcases (show znew ty = 1 ∨ znew ty = 2 ∨ znew ty = 3 ∨ znew ty = 4 by omega) with q | q | q | q <;> rw [q] at hNm ⊢ <;> exact hNm
theorem zs_anew (hG : zG s0 z D xa X) (hW : s0.WarmedH s.vm) (hx : p.tables.exec = Jvm.exec) (hb : c.code = M.1) (hown : s.vm.findClass (zown M.2.1) = some m.cls) {ix ci w pc : Nat} {k : Int} (hd : decode M.1 pc = .ok (.anewarray ix, 3)) (hn : znl M.2.1 ix = some ci) (hw : (ci = 5 ∧ w = 5) ∨ (ci = 9 ∧ w = 6)) (h0 : 0 ≤ k) (hk : k ≤ 100000) (ht : zT ct = (w, k.toNat)) (hJ : zJ s0 z D (ct, sn, I, L, R) H locs) (hc : cells + 1 ≤ Rm.cells) (hsl : slots + k.toNat ≤ Rm.slots) {ls : Array Slot} {rest : List Value}
    (kk : ∀ (H1 : Heap), zJ s0 z D (ct + 1, sn + k.toNat, I, L, R) H1 locs → W p l e Rm s m args below meth c H1 locs (cells + 1) (slots + k.toNat) Q (F0 m (pc + 3) ls (.ref (z + ct) :: rest))) : W p l e Rm s m args below meth c H locs cells slots Q (F0 m pc ls (.int (Int32.ofInt k) :: rest)) := by
  have hk3 : zi3 k := by unfold zi3; omega
  have hkn : ¬ Int32.ofInt k < 0 := by rw [← zq_0, zq_lt hk3 (by unfold zi3; omega)]; omega
  obtain ⟨⟨i1, i2, i3⟩, hi⟩ := zip_mem znlL_len (zlk_mem _ _ _ hn)
  have hok := List.all_eq_true.mp znlL_ok _ hi
  simp only [zokN, Bool.or_eq_true, Bool.and_eq_true, decide_eq_true_eq] at hok
  rcases hok with hok | ⟨⟨o1, o2⟩, o3⟩
  · omega
  obtain ⟨a0, hts0⟩ := hG.2.1
  have hz1 : (zT ct).1 = w := by rw [ht]
  have hz2 : (zT ct).2 = k.toNat := by rw [ht]
  have hwo : zaty w = .object (zown ci) := by rcases hw with ⟨rfl, rfl⟩ | ⟨rfl, rfl⟩ <;> rfl
  have hov : (Cond.arrayOver (.object (zown ci))).before args s = true := by
    rcases hw with ⟨rfl, rfl⟩ | ⟨rfl, rfl⟩
    · exact zao_moved hW.alike (hts0 _ (List.mem_of_getElem? zao_rule))
    · exact zao_moved hW.alike (hts0 _ (List.mem_of_getElem? zao_terms))
  have hnn : (Int32.ofInt k).toNatClampNeg = k.toNat := zq_n hk3 h0
  refine W.anew hx hb hown (hG.word hW (zat_ok o1) args) hov rfl hd rfl hkn (by rw [hnn]; omega) hc (by rw [hnn]; exact hsl) fun cA kA comp f1 f2 f3 f4 => ?_
  rw [hnn]
  have hcA := zcy_of (t := w) hW (by rw [hwo]; exact f1)
  subst hcA
  generalize hH1 : H.push ({ cls := zcy s0 w, slots := Array.replicate k.toNat .null, vm := .none } : Cell) = H1
  have z1 : H1.size = H.size + 1 := by rw [← hH1, Array.size_push]
  have e1 : H1[H.size]? = some (arrV (zcy s0 w) k.toNat (fun _ => .null)) := by rw [← hH1, Array.getElem?_push_size, ← arrV_new]
  have o1 : ∀ q : Nat, q < H.size → H1[q]? = H[q]? := fun q hq => by rw [← hH1, Array.getElem?_push, if_neg (Nat.ne_of_lt hq)]
  rw [hJ.1] at e1 ⊢
  refine kk H1 (hJ.grow z1 o1 ?_ (fun _ => ?_))
  · have y := hJ.2.2.2.2.1 ct (Nat.le_refl _)
    have y3 : ∀ j, R ct j = none := fun j => (y j).2.2
    rw [zE_ref (by rw [hz1]; omega)]
    show H1[z + ct]? = some (vp_cell _ _)
    rw [vp_cell_q, hz2, hz1]
    simp only [y3]
    exact e1
  · rw [hz1, hwo]
    refine ⟨arrOfT_moved hW.alike.symm (fun N z => ⟨(fun k h => by cases h), kA, f2, comp, f3⟩), va_RA.moved hW.alike.symm ⟨kA, comp, f2, f3, f4, f1⟩⟩
end
