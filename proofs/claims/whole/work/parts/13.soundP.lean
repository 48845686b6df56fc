/-! The real machine does what the abstract one does: instructions without the heap. -/
theorem zq_b {n : Int} (h1 : -128 ≤ n) (h2 : n < 128) : (Int8.ofInt n).toInt32 = Int32.ofInt n := by
  apply Int32.toInt_inj.mp
  rw [Int8.toInt_toInt32, Int8.toInt_ofInt, zq_t3 (by unfold zi3; omega)]
  simp only [Int.bmod, Int8.size]
  omega
theorem zq_s {n : Int} (h1 : -32768 ≤ n) (h2 : n < 32768) : (Int16.ofInt n).toInt32 = Int32.ofInt n := by
  apply Int32.toInt_inj.mp
  rw [Int16.toInt_toInt32, Int16.toInt_ofInt, zq_t3 (by unfold zi3; omega)]
  simp only [Int.bmod, Int16.size]
  omega
theorem zq_add (x y : Int) : Int32.ofInt (zw3 (x + y)) = Int32.ofInt x + Int32.ofInt y := by rw [zq_o3, Int32.ofInt_add]
theorem zq_sub (x y : Int) : Int32.ofInt (zw3 (x - y)) = Int32.ofInt x - Int32.ofInt y := by rw [zq_o3, Int32.ofInt_sub]
theorem zq_mul (x y : Int) : Int32.ofInt (zw3 (x * y)) = Int32.ofInt x * Int32.ofInt y := by rw [zq_o3, Int32.ofInt_mul]
theorem zq_add6 (x y : Int) : Int64.ofInt (zw6 (x + y)) = Int64.ofInt x + Int64.ofInt y := by rw [zq_o6, Int64.ofInt_add]
theorem zq_mul6 (x y : Int) : Int64.ofInt (zw6 (x * y)) = Int64.ofInt x * Int64.ofInt y := by rw [zq_o6, Int64.ofInt_mul]
theorem zop2_inv {k pc q : Nat} {ls st l1 s1 : List ZV} {f : Int → Int → Int} (h : zop2 k pc ls st f = some (q, l1, s1)) : ∃ x y r, st = zi y :: zi x :: r ∧ k = 1 ∧ q = pc + 1 ∧ l1 = ls ∧ s1 = zi (f x y) :: r := by
  unfold zop2 at h
  split at h
  · split at h
    · cases h
      exact ⟨_, _, _, rfl, by assumption, rfl, rfl, rfl⟩
    · cases h
  · cases h
theorem zop2L_inv {k pc q : Nat} {ls st l1 s1 : List ZV} {f : Int → Int → Int} (h : zop2L k pc ls st f = some (q, l1, s1)) : ∃ x y r, st = zl y :: zl x :: r ∧ k = 1 ∧ q = pc + 1 ∧ l1 = ls ∧ s1 = zl (f x y) :: r := by
  unfold zop2L at h
  split at h
  · split at h
    · cases h
      exact ⟨_, _, _, rfl, by assumption, rfl, rfl, rfl⟩
    · cases h
  · cases h
theorem zop2S_inv {k pc q : Nat} {ls st l1 s1 : List ZV} {f : Int → Int → Int} (h : zop2S k pc ls st f = some (q, l1, s1)) : ∃ x y r, st = zi y :: zl x :: r ∧ k = 1 ∧ q = pc + 1 ∧ l1 = ls ∧ s1 = zl (f x y) :: r := by
  unfold zop2S at h
  split at h
  · split at h
    · cases h
      exact ⟨_, _, _, rfl, by assumption, rfl, rfl, rfl⟩
    · cases h
  · cases h
theorem zopd_inv {k pc q : Nat} {ls st l1 s1 : List ZV} {f : Int → Int → Int} (h : zopd k pc ls st f = some (q, l1, s1)) : ∃ x y r, st = zi y :: zi x :: r ∧ k = 1 ∧ ¬ y = 0 ∧ q = pc + 1 ∧ l1 = ls ∧ s1 = zi (f x y) :: r := by
  unfold zopd at h
  split at h
  · split at h
    · rename_i hh
      cases h
      exact ⟨_, _, _, rfl, hh.1, hh.2, rfl, rfl, rfl⟩
    · cases h
  · cases h
theorem zopdL_inv {k pc q : Nat} {ls st l1 s1 : List ZV} {f : Int → Int → Int} (h : zopdL k pc ls st f = some (q, l1, s1)) : ∃ x y r, st = zl y :: zl x :: r ∧ k = 1 ∧ ¬ y = 0 ∧ q = pc + 1 ∧ l1 = ls ∧ s1 = zl (f x y) :: r := by
  unfold zopdL at h
  split at h
  · split at h
    · rename_i hh
      cases h
      exact ⟨_, _, _, rfl, hh.1, hh.2, rfl, rfl, rfl⟩
    · cases h
  · cases h
theorem zldi_inv {w k pc j q : Nat} {ls st l1 s1 : List ZV} (h : zldi w k pc j ls st = some (q, l1, s1)) : ∃ x, zg ls j = zi x ∧ k = w ∧ q = pc + w ∧ l1 = ls ∧ s1 = zi x :: st := by
  unfold zldi at h
  split at h
  · split at h
    · cases h
      exact ⟨_, by assumption, by assumption, rfl, rfl, rfl⟩
    · cases h
  · cases h
theorem zldl_inv {w k pc j q : Nat} {ls st l1 s1 : List ZV} (h : zldl w k pc j ls st = some (q, l1, s1)) : ∃ x, zg ls j = zl x ∧ k = w ∧ q = pc + w ∧ l1 = ls ∧ s1 = zl x :: st := by
  unfold zldl at h
  split at h
  · split at h
    · cases h
      exact ⟨_, by assumption, by assumption, rfl, rfl, rfl⟩
    · cases h
  · cases h
theorem zlda_inv {w k pc j q : Nat} {ls st l1 s1 : List ZV} (h : zlda w k pc j ls st = some (q, l1, s1)) : ∃ v, zg ls j = v ∧ zjunk v = false ∧ ((∃ x, v = zr x) ∨ ∃ x, v = zx x) ∧ k = w ∧ q = pc + w ∧ l1 = ls ∧ s1 = v :: st := by
  unfold zlda at h
  split at h
  · split at h
    · cases h
      exact ⟨_, by assumption, rfl, Or.inl ⟨_, rfl⟩, by assumption, rfl, rfl, rfl⟩
    · cases h
      exact ⟨_, by assumption, rfl, Or.inr ⟨_, rfl⟩, by assumption, rfl, rfl, rfl⟩
    · cases h
  · cases h
theorem zsti_inv {w k pc j q : Nat} {ls st l1 s1 : List ZV} (h : zsti w k pc j ls st = some (q, l1, s1)) : ∃ x, st = zi x :: s1 ∧ k = w ∧ j < ls.length ∧ q = pc + w ∧ l1 = zst1 ls j (zi x) := by
  unfold zsti at h
  split at h
  · split at h
    · rename_i hh
      cases h
      exact ⟨_, rfl, hh.1, hh.2, rfl, rfl⟩
    · cases h
  · cases h
theorem zstl_inv {w k pc j q : Nat} {ls st l1 s1 : List ZV} (h : zstl w k pc j ls st = some (q, l1, s1)) : ∃ x, st = zl x :: s1 ∧ k = w ∧ j + 1 < ls.length ∧ q = pc + w ∧ l1 = zst2 ls j (zl x) := by
  unfold zstl at h
  split at h
  · split at h
    · rename_i hh
      cases h
      exact ⟨_, rfl, hh.1, hh.2, rfl, rfl⟩
    · cases h
  · cases h
theorem zsta_inv {w k pc j q : Nat} {ls st l1 s1 : List ZV} (h : zsta w k pc j ls st = some (q, l1, s1)) : ∃ v, st = v :: s1 ∧ ((∃ x, v = zr x) ∨ ∃ x, v = zx x) ∧ k = w ∧ j < ls.length ∧ q = pc + w ∧ l1 = zst1 ls j v := by
  unfold zsta at h
  split at h
  · split at h
    · rename_i hh
      cases h
      exact ⟨_, rfl, Or.inl ⟨_, rfl⟩, hh.1, hh.2, rfl, rfl⟩
    · cases h
  · split at h
    · rename_i hh
      cases h
      exact ⟨_, rfl, Or.inr ⟨_, rfl⟩, hh.1, hh.2, rfl, rfl⟩
    · cases h
  · cases h
theorem zc_ref {z : Nat} {xa : Nat → Value} (hxr : ∀ k, xa k = .null ∨ ∃ a, xa k = .ref a) {v : ZV} (h : (∃ x, v = zr x) ∨ ∃ x, v = zx x) : zc z xa v = .null ∨ ∃ a, zc z xa v = .ref a := by
  rcases h with ⟨x, rfl⟩ | ⟨x, rfl⟩
  · cases x with
    | none => exact Or.inl rfl
    | some a => exact Or.inr ⟨_, rfl⟩
  · exact hxr x
theorem zc_cat {z : Nat} {xa : Nat → Value} (hxr : ∀ k, xa k = .null ∨ ∃ a, xa k = .ref a) {v : ZV} (h : zcat1 v = true) : (zc z xa v).category = 1 := by
  rcases v with x | x | r | k
  · rfl
  · cases h
  · cases r <;> rfl
  · rcases hxr k with h | ⟨a, h⟩ <;> (show (xa k).category = 1; rw [h]; rfl)
theorem zxa_cat {xa : Nat → Value} (hxr : ∀ k, xa k = .null ∨ ∃ a, xa k = .ref a) : ∀ k, (xa k).category = 1 := by
  intro k
  rcases hxr k with h | ⟨a, h⟩ <;> (rw [h]; rfl)
section
variable {p : Program} {l : Launch} {e : Env} {R : Room} {s : State} {m : MethodId} {args : Array Value} {below : List Frame} {meth : Method} {c : Code} {H : Heap} {locs : List Loc} {cells slots : Nat} {Q : State → Prop}
variable {z n ct : Nat} {xa : Nat → Value} {M : ZM}
theorem zLS.push {lr : Array Slot} {ls st : List ZV} {v : ZV} (h : zLS z xa n ct lr ls st) (hv : zvk ct v) : zLS z xa n ct lr ls (v :: st) := ⟨h.1, h.2.1, h.2.2.1, fun w hw => (List.mem_cons.mp hw).elim (fun q => q ▸ hv) (h.2.2.2 w)⟩
theorem zLS.tail {lr : Array Slot} {ls st : List ZV} {v : ZV} (h : zLS z xa n ct lr ls (v :: st)) : zLS z xa n ct lr ls st := ⟨h.1, h.2.1, h.2.2.1, fun w hw => h.2.2.2 w (List.mem_cons_of_mem _ hw)⟩
theorem zLS.hd {lr : Array Slot} {ls st : List ZV} {v : ZV} (h : zLS z xa n ct lr ls (v :: st)) : zvk ct v := h.2.2.2 v List.mem_cons_self
set_option maxHeartbeats 4000000 in
theorem zs_P (hx : p.tables.exec = Jvm.exec) (hb : c.code = M.1) (hxr : ∀ k, xa k = .null ∨ ∃ a, xa k = .ref a) {i : Instr} {k pc q : Nat} {ls st l1 s1 : List ZV} (hd : decode M.1 pc = .ok (i, k)) (h : zsP i k pc ls st = some (q, l1, s1)) {lr : Array Slot} (hl : zLS z xa n ct lr ls st)
    (kk : ∀ lr1, zLS z xa n ct lr1 l1 s1 → W p l e R s m args below meth c H locs cells slots Q (F0 m q lr1 (s1.map (zc z xa)))) : W p l e R s m args below meth c H locs cells slots Q (F0 m pc lr (st.map (zc z xa))) := by
  have hxc := zxa_cat hxr
  cases i with
  | iconst v =>
    simp only [zsP] at h
    split at h
    · rename_i hh
      cases h
      obtain ⟨rfl, h1, h2⟩ := hh
      exact lv_iconst hx hb hd rfl (kk lr (hl.push (by show zi3 _; unfold zi3; omega)))
    · cases h
  | bipush v =>
    simp only [zsP] at h
    split at h
    · rename_i hh
      cases h
      obtain ⟨rfl, h1, h2⟩ := hh
      exact lv_bipush hx hb hd (zq_b h1 h2) (kk lr (hl.push (by show zi3 _; unfold zi3; omega)))
    · cases h
  | sipush v =>
    simp only [zsP] at h
    split at h
    · rename_i hh
      cases h
      obtain ⟨rfl, h1, h2⟩ := hh
      exact lv_sipush hx hb hd (zq_s h1 h2) (kk lr (hl.push (by show zi3 _; unfold zi3; omega)))
    · cases h
  | lconst v =>
    simp only [zsP] at h
    split at h
    · rename_i hh
      cases h
      subst hh
      refine lv_lconst hx hb hd ?_ (kk lr (hl.push (by show zi6 _; unfold zi6; omega)))
      obtain ⟨v, hv⟩ := v
      rcases (show v = 0 ∨ v = 1 by omega) with rfl | rfl
      · show Int64.ofNat 0 = Int64.ofInt 0
        decide
      · show Int64.ofNat 1 = Int64.ofInt 1
        decide
    · cases h
  | iload_n j =>
    obtain ⟨x, hg, rfl, rfl, rfl, rfl⟩ := zldi_inv h
    obtain ⟨h1, h2⟩ := zg_at hl hg rfl
    exact lv_iload_n hx hb hd rfl h1 (kk lr (hl.push h2))
  | iload j =>
    obtain ⟨x, hg, rfl, rfl, rfl, rfl⟩ := zldi_inv h
    obtain ⟨h1, h2⟩ := zg_at hl hg rfl
    exact lv_iload hx hb hd h1 (kk lr (hl.push h2))
  | lload_n j =>
    obtain ⟨x, hg, rfl, rfl, rfl, rfl⟩ := zldl_inv h
    obtain ⟨h1, h2⟩ := zg_at hl hg rfl
    exact lv_lload_n hx hb hd rfl h1 (kk lr (hl.push h2))
  | lload j =>
    obtain ⟨x, hg, rfl, rfl, rfl, rfl⟩ := zldl_inv h
    obtain ⟨h1, h2⟩ := zg_at hl hg rfl
    exact lv_lload hx hb hd h1 (kk lr (hl.push h2))
  | aload_n j =>
    obtain ⟨v, hg, hj, hv, rfl, rfl, rfl, rfl⟩ := zlda_inv h
    obtain ⟨h1, h2⟩ := zg_at hl hg hj
    have h3 := kk lr (hl.push h2)
    rw [List.map_cons] at h3
    rcases zc_ref (z := z) hxr hv with h4 | ⟨a, h4⟩
    · rw [h4] at h1 h3
      exact lv_aload_nN hx hb hd rfl h1 h3
    · rw [h4] at h1 h3
      exact lv_aload_n hx hb hd rfl h1 h3
  | aload j =>
    obtain ⟨v, hg, hj, hv, rfl, rfl, rfl, rfl⟩ := zlda_inv h
    obtain ⟨h1, h2⟩ := zg_at hl hg hj
    have h3 := kk lr (hl.push h2)
    rw [List.map_cons] at h3
    rcases zc_ref (z := z) hxr hv with h4 | ⟨a, h4⟩
    · rw [h4] at h1 h3
      exact lv_aloadN hx hb hd h1 h3
    · rw [h4] at h1 h3
      exact lv_aload hx hb hd h1 h3
  | istore_n j =>
    obtain ⟨x, rfl, rfl, hj, rfl, rfl⟩ := zsti_inv h
    exact lv_istore_n hx hb hd rfl hl.2.1 (by rw [← hl.1]; exact hj) rfl (fun lr1 h1 => kk lr1 ⟨(zst1_len _ _ _).trans hl.1, zst1_has hxc (v := zi x) h1 rfl, zst1_ok hl.2.2.1 hl.hd, hl.tail.2.2.2⟩)
  | istore j =>
    obtain ⟨x, rfl, rfl, hj, rfl, rfl⟩ := zsti_inv h
    exact lv_istore hx hb hd hl.2.1 (by rw [← hl.1]; exact hj) rfl (fun lr1 h1 => kk lr1 ⟨(zst1_len _ _ _).trans hl.1, zst1_has hxc (v := zi x) h1 rfl, zst1_ok hl.2.2.1 hl.hd, hl.tail.2.2.2⟩)
  | lstore_n j =>
    obtain ⟨x, rfl, rfl, hj, rfl, rfl⟩ := zstl_inv h
    exact lv_lstore_n hx hb hd rfl hl.2.1 (by rw [← hl.1]; exact hj) rfl (fun lr1 h1 => kk lr1 ⟨(zst0_len _ _).trans ((zst1_len _ _ _).trans hl.1), zst2_has hxc (v := zl x) h1 rfl, zst2_ok hl.2.2.1 hl.hd, hl.tail.2.2.2⟩)
  | lstore j =>
    obtain ⟨x, rfl, rfl, hj, rfl, rfl⟩ := zstl_inv h
    exact lv_lstore hx hb hd hl.2.1 (by rw [← hl.1]; exact hj) rfl (fun lr1 h1 => kk lr1 ⟨(zst0_len _ _).trans ((zst1_len _ _ _).trans hl.1), zst2_has hxc (v := zl x) h1 rfl, zst2_ok hl.2.2.1 hl.hd, hl.tail.2.2.2⟩)
  | astore_n j =>
    obtain ⟨v, rfl, hv, rfl, hj, rfl, rfl⟩ := zsta_inv h
    rw [List.map_cons]
    rcases zc_ref (z := z) hxr hv with h4 | ⟨a, h4⟩
    · rw [h4]
      exact lv_astore_nN hx hb hd rfl hl.2.1 (by rw [← hl.1]; exact hj) rfl (fun lr1 h1 => kk lr1 ⟨(zst1_len _ _ _).trans hl.1, zst1_has hxc (v := v) h1 (by rw [h4]), zst1_ok hl.2.2.1 hl.hd, hl.tail.2.2.2⟩)
    · rw [h4]
      exact lv_astore_n hx hb hd rfl hl.2.1 (by rw [← hl.1]; exact hj) rfl (fun lr1 h1 => kk lr1 ⟨(zst1_len _ _ _).trans hl.1, zst1_has hxc (v := v) h1 (by rw [h4]), zst1_ok hl.2.2.1 hl.hd, hl.tail.2.2.2⟩)
  | astore j =>
    obtain ⟨v, rfl, hv, rfl, hj, rfl, rfl⟩ := zsta_inv h
    rw [List.map_cons]
    rcases zc_ref (z := z) hxr hv with h4 | ⟨a, h4⟩
    · rw [h4]
      exact lv_astoreN hx hb hd hl.2.1 (by rw [← hl.1]; exact hj) rfl (fun lr1 h1 => kk lr1 ⟨(zst1_len _ _ _).trans hl.1, zst1_has hxc (v := v) h1 (by rw [h4]), zst1_ok hl.2.2.1 hl.hd, hl.tail.2.2.2⟩)
    · rw [h4]
      exact lv_astore hx hb hd hl.2.1 (by rw [← hl.1]; exact hj) rfl (fun lr1 h1 => kk lr1 ⟨(zst1_len _ _ _).trans hl.1, zst1_has hxc (v := v) h1 (by rw [h4]), zst1_ok hl.2.2.1 hl.hd, hl.tail.2.2.2⟩)
  | iinc j v =>
    simp only [zsP] at h
    split at h
    · rename_i x hg
      split at h
      · rename_i hh
        cases h
        obtain ⟨rfl, hj⟩ := hh
        obtain ⟨w, hw⟩ := List.getElem?_of_mem ((zpr_mem (z := z) (xa := xa) ls 0).mpr ⟨j, zi x, zg_get ls j _ hg rfl, rfl, rfl⟩)
        exact lv_iinc (k := w) (v := Int32.ofInt (zw3 (x + v))) hx hb hd hl.2.1 (by rw [hw]; simp; rfl) (zq_add x v).symm (by rw [← hl.1]; exact hj) rfl (fun lr1 h1 => kk lr1 ⟨(zst1_len _ _ _).trans hl.1, zst1_has hxc (v := zi (zw3 (x + v))) h1 rfl, zst1_ok hl.2.2.1 (zq_w3 _), hl.2.2.2⟩)
      · cases h
    · cases h
  | iadd =>
    obtain ⟨x, y, r, rfl, rfl, rfl, rfl, rfl⟩ := zop2_inv h
    refine lv_iadd hx hb hd ?_
    have h1 := kk lr (hl.tail.tail.push (v := zi _) (zq_w3 _))
    rw [List.map_cons] at h1
    simp only [zc, zq_add] at h1
    exact h1
  | isub =>
    obtain ⟨x, y, r, rfl, rfl, rfl, rfl, rfl⟩ := zop2_inv h
    refine lv_isub hx hb hd ?_
    have h1 := kk lr (hl.tail.tail.push (v := zi _) (zq_w3 _))
    rw [List.map_cons] at h1
    simp only [zc, zq_sub] at h1
    exact h1
  | imul =>
    obtain ⟨x, y, r, rfl, rfl, rfl, rfl, rfl⟩ := zop2_inv h
    refine lv_imul hx hb hd ?_
    have h1 := kk lr (hl.tail.tail.push (v := zi _) (zq_w3 _))
    rw [List.map_cons] at h1
    simp only [zc, zq_mul] at h1
    exact h1
  | iand =>
    obtain ⟨x, y, r, rfl, rfl, rfl, rfl, rfl⟩ := zop2_inv h
    refine lv_iand hx hb hd ?_
    have h1 := kk lr (hl.tail.tail.push (v := zi _) (zq_r3 _))
    rw [List.map_cons] at h1
    simp only [zc, zand3, zq_v3] at h1
    exact h1
  | ior =>
    obtain ⟨x, y, r, rfl, rfl, rfl, rfl, rfl⟩ := zop2_inv h
    refine lv_ior hx hb hd ?_
    have h1 := kk lr (hl.tail.tail.push (v := zi _) (zq_r3 _))
    rw [List.map_cons] at h1
    simp only [zc, zor3, zq_v3] at h1
    exact h1
  | ishl =>
    obtain ⟨x, y, r, rfl, rfl, rfl, rfl, rfl⟩ := zop2_inv h
    refine lv_ishl hx hb hd ?_
    have h1 := kk lr (hl.tail.tail.push (v := zi _) (zq_r3 _))
    rw [List.map_cons] at h1
    simp only [zc, zshl3, zq_v3] at h1
    exact h1
  | ishr =>
    obtain ⟨x, y, r, rfl, rfl, rfl, rfl, rfl⟩ := zop2_inv h
    refine lv_ishr hx hb hd ?_
    have h1 := kk lr (hl.tail.tail.push (v := zi _) (zq_r3 _))
    rw [List.map_cons] at h1
    simp only [zc, zshr3, zq_v3] at h1
    exact h1
  | iushr =>
    obtain ⟨x, y, r, rfl, rfl, rfl, rfl, rfl⟩ := zop2_inv h
    refine lv_iushr hx hb hd rfl ?_
    have h1 := kk lr (hl.tail.tail.push (v := zi _) (zq_r3 _))
    rw [List.map_cons] at h1
    simp only [zc, zushr3, zq_v3] at h1
    exact h1
  | idiv =>
    obtain ⟨x, y, r, rfl, rfl, hy, rfl, rfl, rfl⟩ := zopd_inv h
    refine lv_idiv hx hb hd (fun q => hy ((zq_eq hl.hd (by unfold zi3; omega)).mp (q.trans zq_0.symm))) ?_
    have h1 := kk lr (hl.tail.tail.push (v := zi _) (zq_r3 _))
    rw [List.map_cons] at h1
    simp only [zc, zdiv3, zq_v3] at h1
    exact h1
  | irem =>
    obtain ⟨x, y, r, rfl, rfl, hy, rfl, rfl, rfl⟩ := zopd_inv h
    refine lv_irem hx hb hd (fun q => hy ((zq_eq hl.hd (by unfold zi3; omega)).mp (q.trans zq_0.symm))) ?_
    have h1 := kk lr (hl.tail.tail.push (v := zi _) (zq_r3 _))
    rw [List.map_cons] at h1
    simp only [zc, zrem3, zq_v3] at h1
    exact h1
  | ladd =>
    obtain ⟨x, y, r, rfl, rfl, rfl, rfl, rfl⟩ := zop2L_inv h
    refine lv_ladd hx hb hd ?_
    have h1 := kk lr (hl.tail.tail.push (v := zl _) (zq_w6 _))
    rw [List.map_cons] at h1
    simp only [zc, zq_add6] at h1
    exact h1
  | lmul =>
    obtain ⟨x, y, r, rfl, rfl, rfl, rfl, rfl⟩ := zop2L_inv h
    refine lv_lmul hx hb hd ?_
    have h1 := kk lr (hl.tail.tail.push (v := zl _) (zq_w6 _))
    rw [List.map_cons] at h1
    simp only [zc, zq_mul6] at h1
    exact h1
  | land =>
    obtain ⟨x, y, r, rfl, rfl, rfl, rfl, rfl⟩ := zop2L_inv h
    refine lv_land hx hb hd ?_
    have h1 := kk lr (hl.tail.tail.push (v := zl _) (zq_r6 _))
    rw [List.map_cons] at h1
    simp only [zc, zand6, zq_v6] at h1
    exact h1
  | lor =>
    obtain ⟨x, y, r, rfl, rfl, rfl, rfl, rfl⟩ := zop2L_inv h
    refine lv_lor hx hb hd ?_
    have h1 := kk lr (hl.tail.tail.push (v := zl _) (zq_r6 _))
    rw [List.map_cons] at h1
    simp only [zc, zor6, zq_v6] at h1
    exact h1
  | lshl =>
    obtain ⟨x, y, r, rfl, rfl, rfl, rfl, rfl⟩ := zop2S_inv h
    refine lv_lshl hx hb hd rfl ?_
    have h1 := kk lr (hl.tail.tail.push (v := zl _) (zq_r6 _))
    rw [List.map_cons] at h1
    simp only [zc, zshl6, zq_v6] at h1
    exact h1
  | lshr =>
    obtain ⟨x, y, r, rfl, rfl, rfl, rfl, rfl⟩ := zop2S_inv h
    refine lv_lshr hx hb hd rfl ?_
    have h1 := kk lr (hl.tail.tail.push (v := zl _) (zq_r6 _))
    rw [List.map_cons] at h1
    simp only [zc, zshr6, zq_v6] at h1
    exact h1
  | lushr =>
    obtain ⟨x, y, r, rfl, rfl, rfl, rfl, rfl⟩ := zop2S_inv h
    refine lv_lushr hx hb hd rfl ?_
    have h1 := kk lr (hl.tail.tail.push (v := zl _) (zq_r6 _))
    rw [List.map_cons] at h1
    simp only [zc, zushr6, zq_v6] at h1
    exact h1
  | ldiv =>
    obtain ⟨x, y, r, rfl, rfl, hy, rfl, rfl, rfl⟩ := zopdL_inv h
    refine lv_ldiv hx hb hd (fun q => hy ((zq_eq6 hl.hd (by unfold zi6; omega)).mp (q.trans (by decide : (0 : Int64) = Int64.ofInt 0)))) ?_
    have h1 := kk lr (hl.tail.tail.push (v := zl _) (zq_r6 _))
    rw [List.map_cons] at h1
    simp only [zc, zdiv6, zq_v6] at h1
    exact h1
  | lrem =>
    obtain ⟨x, y, r, rfl, rfl, hy, rfl, rfl, rfl⟩ := zopdL_inv h
    refine lv_lrem hx hb hd (fun q => hy ((zq_eq6 hl.hd (by unfold zi6; omega)).mp (q.trans (by decide : (0 : Int64) = Int64.ofInt 0)))) ?_
    have h1 := kk lr (hl.tail.tail.push (v := zl _) (zq_r6 _))
    rw [List.map_cons] at h1
    simp only [zc, zrem6, zq_v6] at h1
    exact h1
  | lcmp =>
    simp only [zsP] at h
    split at h
    · rename_i y x r
      split at h
      · rename_i hh
        cases h
        subst hh
        refine W.lcmp hx hb hd ?_
        have h1 := kk lr (hl.tail.tail.push (v := zi _) (by show zi3 (zcmpl x y); unfold zcmpl zi3; split <;> (try split) <;> omega))
        rw [List.map_cons] at h1
        have e : Int32.ofInt (zcmpl x y) = lg_cmp (Int64.ofInt x) (Int64.ofInt y) := by
          unfold zcmpl lg_cmp
          have a1 := zq_lt6 hl.hd hl.tail.hd
          have a2 := zq_lt6 hl.tail.hd hl.hd
          have a3 := zq_eq6 hl.tail.hd hl.hd
          by_cases b1 : x < y
          · have b2 : ¬ y < x := by omega
            have b3 : ¬ x = y := by omega
            simp [a1, a2, a3, b1, b2, b3] <;> decide
          · by_cases b3 : x = y
            · subst b3
              simp <;> decide
            · have b2 : y < x := by omega
              simp [a1, a2, a3, b1, b2, b3] <;> decide
        simp only [zc, e] at h1
        exact h1
      · cases h
    · cases h
  | i2l =>
    simp only [zsP] at h
    split at h
    · split at h
      · rename_i hh
        cases h
        subst hh
        exact lv_i2l hx hb hd (zq_i2l hl.hd) (kk lr (hl.tail.push (v := zl _) (by have h9 := hl.hd; unfold zvk zi3 at h9; unfold zvk zi6; omega)))
      · cases h
    · cases h
  | l2i =>
    simp only [zsP] at h
    split at h
    · split at h
      · rename_i hh
        cases h
        subst hh
        exact lv_l2i hx hb hd (zq_l2i hl.hd) (kk lr (hl.tail.push (v := zi _) (zq_w3 _)))
      · cases h
    · cases h
  | i2b =>
    simp only [zsP] at h
    split at h
    · split at h
      · rename_i hh
        cases h
        subst hh
        refine lv_i2b hx hb hd rfl ?_
        have h1 := kk lr (hl.tail.push (v := zi _) (zq_r3 _))
        rw [List.map_cons] at h1
        simp only [zc, zi2b, zq_v3] at h1
        exact h1
      · cases h
    · cases h
  | i2c =>
    simp only [zsP] at h
    split at h
    · split at h
      · rename_i hh
        cases h
        subst hh
        refine lv_i2c hx hb hd rfl ?_
        have h1 := kk lr (hl.tail.push (v := zi _) (zq_r3 _))
        rw [List.map_cons] at h1
        simp only [zc, zi2c, zq_v3] at h1
        exact h1
      · cases h
    · cases h
  | dup =>
    simp only [zsP] at h
    split at h
    · split at h
      · rename_i hh
        cases h
        obtain ⟨rfl, h1⟩ := hh
        exact lv_dup hx hb hd (zc_cat hxr h1) (kk lr (hl.push hl.hd))
      · cases h
    · cases h
  | dup2 =>
    simp only [zsP] at h
    split at h
    · split at h
      · rename_i hh
        cases h
        obtain ⟨rfl, h1, h2⟩ := hh
        exact lv_dup2_11 hx hb hd (zc_cat hxr h1) (zc_cat hxr h2) (kk lr ((hl.push hl.tail.hd).push hl.hd))
      · cases h
    · cases h
  | pop =>
    simp only [zsP] at h
    split at h
    · split at h
      · rename_i hh
        cases h
        obtain ⟨rfl, h1⟩ := hh
        exact lv_pop hx hb hd (zc_cat hxr h1) (kk lr hl.tail)
      · cases h
    · cases h
  | goto off =>
    simp only [zsP] at h
    split at h
    · rename_i hh
      obtain ⟨rfl, h0⟩ := hh
      cases h
      exact lv_goto hx hb hd (by simp only [zjmp, if_pos]; omega) (kk lr hl)
    · cases h
  | ifCond cd off =>
    simp only [zsP] at h
    split at h
    · rename_i x r
      split at h
      · rename_i hh
        obtain ⟨rfl, h0⟩ := hh
        cases h
        have z0 : zi3 0 := by unfold zi3; omega
        cases cd with
        | eq =>
          refine lv_if_eq (tgt := ((pc : Int) + off).toNat) hx hb hd (by omega) (fun h1 => ?_) (fun h1 => ?_)
          · have e : zcmp .eq x 0 = true := by rw [← zq_0, zq_eq hl.hd z0] at h1; simpa [zcmp] using h1
            rw [e] at kk
            exact kk lr hl.tail
          · have e : zcmp .eq x 0 = false := by rw [← zq_0, zq_eq hl.hd z0] at h1; simpa [zcmp] using h1
            rw [e] at kk
            exact kk lr hl.tail
        | ne =>
          refine lv_if_ne (tgt := ((pc : Int) + off).toNat) hx hb hd (by omega) (fun h1 => ?_) (fun h1 => ?_)
          · have e : zcmp .ne x 0 = true := by rw [← zq_0, zq_eq hl.hd z0] at h1; simpa [zcmp] using h1
            rw [e] at kk
            exact kk lr hl.tail
          · have e : zcmp .ne x 0 = false := by rw [← zq_0, zq_eq hl.hd z0] at h1; simpa [zcmp] using h1
            rw [e] at kk
            exact kk lr hl.tail
        | lt =>
          refine lv_if_lt (tgt := ((pc : Int) + off).toNat) hx hb hd (by omega) (fun h1 => ?_) (fun h1 => ?_)
          · have e : zcmp .lt x 0 = true := by rw [← zq_0, zq_lt hl.hd z0] at h1; simpa [zcmp] using h1
            rw [e] at kk
            exact kk lr hl.tail
          · have e : zcmp .lt x 0 = false := by rw [← zq_0, zq_lt hl.hd z0] at h1; simpa [zcmp] using h1
            rw [e] at kk
            exact kk lr hl.tail
        | ge =>
          refine lv_if_ge (tgt := ((pc : Int) + off).toNat) hx hb hd (by omega) (fun h1 => ?_) (fun h1 => ?_)
          · have e : zcmp .ge x 0 = true := by rw [← zq_0, zq_le z0 hl.hd] at h1; simpa [zcmp] using h1
            rw [e] at kk
            exact kk lr hl.tail
          · have e : zcmp .ge x 0 = false := by rw [← zq_0, zq_le z0 hl.hd] at h1; simpa [zcmp] using h1
            rw [e] at kk
            exact kk lr hl.tail
        | gt =>
          refine lv_if_gt (tgt := ((pc : Int) + off).toNat) hx hb hd (by omega) (fun h1 => ?_) (fun h1 => ?_)
          · have e : zcmp .gt x 0 = true := by rw [← zq_0, zq_lt z0 hl.hd] at h1; simpa [zcmp] using h1
            rw [e] at kk
            exact kk lr hl.tail
          · have e : zcmp .gt x 0 = false := by rw [← zq_0, zq_lt z0 hl.hd] at h1; simpa [zcmp] using h1
            rw [e] at kk
            exact kk lr hl.tail
        | le =>
          refine lv_if_le (tgt := ((pc : Int) + off).toNat) hx hb hd (by omega) (fun h1 => ?_) (fun h1 => ?_)
          · have e : zcmp .le x 0 = true := by rw [← zq_0, zq_le hl.hd z0] at h1; simpa [zcmp] using h1
            rw [e] at kk
            exact kk lr hl.tail
          · have e : zcmp .le x 0 = false := by rw [← zq_0, zq_le hl.hd z0] at h1; simpa [zcmp] using h1
            rw [e] at kk
            exact kk lr hl.tail
      · cases h
    · cases h
  | if_icmp cd off =>
    simp only [zsP] at h
    split at h
    · rename_i y x r
      split at h
      · rename_i hh
        obtain ⟨rfl, h0⟩ := hh
        cases h
        cases cd with
        | eq =>
          refine lv_icmp_eq (tgt := ((pc : Int) + off).toNat) hx hb hd (by omega) (fun h1 => ?_) (fun h1 => ?_)
          · have e : zcmp .eq x y = true := by simpa [zcmp, zq_eq hl.tail.hd hl.hd] using h1
            rw [e] at kk
            exact kk lr hl.tail.tail
          · have e : zcmp .eq x y = false := by simpa [zcmp, zq_eq hl.tail.hd hl.hd] using h1
            rw [e] at kk
            exact kk lr hl.tail.tail
        | ne =>
          refine lv_icmp_ne (tgt := ((pc : Int) + off).toNat) hx hb hd (by omega) (fun h1 => ?_) (fun h1 => ?_)
          · have e : zcmp .ne x y = true := by simpa [zcmp, zq_eq hl.tail.hd hl.hd] using h1
            rw [e] at kk
            exact kk lr hl.tail.tail
          · have e : zcmp .ne x y = false := by simpa [zcmp, zq_eq hl.tail.hd hl.hd] using h1
            rw [e] at kk
            exact kk lr hl.tail.tail
        | lt =>
          refine lv_icmp_lt (tgt := ((pc : Int) + off).toNat) hx hb hd (by omega) (fun h1 => ?_) (fun h1 => ?_)
          · have e : zcmp .lt x y = true := by simpa [zcmp, zq_lt hl.tail.hd hl.hd] using h1
            rw [e] at kk
            exact kk lr hl.tail.tail
          · have e : zcmp .lt x y = false := by simpa [zcmp, zq_lt hl.tail.hd hl.hd] using h1
            rw [e] at kk
            exact kk lr hl.tail.tail
        | ge =>
          refine lv_icmp_ge (tgt := ((pc : Int) + off).toNat) hx hb hd (by omega) (fun h1 => ?_) (fun h1 => ?_)
          · have e : zcmp .ge x y = true := by simpa [zcmp, zq_le hl.hd hl.tail.hd] using h1
            rw [e] at kk
            exact kk lr hl.tail.tail
          · have e : zcmp .ge x y = false := by simpa [zcmp, zq_le hl.hd hl.tail.hd] using h1
            rw [e] at kk
            exact kk lr hl.tail.tail
        | gt =>
          refine lv_icmp_gt (tgt := ((pc : Int) + off).toNat) hx hb hd (by omega) (fun h1 => ?_) (fun h1 => ?_)
          · have e : zcmp .gt x y = true := by simpa [zcmp, zq_lt hl.hd hl.tail.hd] using h1
            rw [e] at kk
            exact kk lr hl.tail.tail
          · have e : zcmp .gt x y = false := by simpa [zcmp, zq_lt hl.hd hl.tail.hd] using h1
            rw [e] at kk
            exact kk lr hl.tail.tail
        | le =>
          refine lv_icmp_le (tgt := ((pc : Int) + off).toNat) hx hb hd (by omega) (fun h1 => ?_) (fun h1 => ?_)
          · have e : zcmp .le x y = true := by simpa [zcmp, zq_le hl.tail.hd hl.hd] using h1
            rw [e] at kk
            exact kk lr hl.tail.tail
          · have e : zcmp .le x y = false := by simpa [zcmp, zq_le hl.tail.hd hl.hd] using h1
            rw [e] at kk
            exact kk lr hl.tail.tail
      · cases h
    · cases h
  | tableswitch d lo hi offs =>
    simp only [zsP] at h
    split at h
    · rename_i x r
      have hxx := zq_t3 hl.hd
      split at h
      · rename_i hh
        split at h
        · rename_i h0
          cases h
          exact lv_tableOut hx hb hd (by rw [hxx]; exact hh) (by omega) (kk lr hl.tail)
        · cases h
      · rename_i hh
        split at h
        · rename_i o ho
          split at h
          · rename_i h0
            cases h
            exact lv_tableIn hx hb hd (by rw [hxx]; omega) (by rw [hxx]; omega) (by rw [hxx]; exact ho) (by omega) (kk lr hl.tail)
          · cases h
        · cases h
    · cases h
  | lookupswitch d ps =>
    simp only [zsP] at h
    split at h
    · rename_i x r
      have hxx := zq_t3 hl.hd
      split at h
      · rename_i hh
        cases h
        exact lv_lookup hx hb hd hh.1 (by rw [hxx]) (by omega) (kk lr hl.tail)
      · cases h
    · cases h
  | _ => cases h
end
