theorem zin_len {z : Nat} {xa : Nat → Value} (hxc : ∀ k, (xa k).category = 1) : ∀ (as : List ZV), (lg_sl (as.map (zc z xa))).length = (zin0 as).length
  | [] => rfl
  | v :: r => by
    have ih := zin_len (z := z) hxc r
    unfold lg_sl at ih ⊢
    rw [List.map_cons, List.flatMap_cons, List.length_append, ih]
    rcases v with x | x | q | k
    · show 1 + _ = (zin0 r).length + 1
      omega
    · show 2 + _ = (zin0 r).length + 1 + 1
      omega
    · cases q
      · show 1 + _ = (zin0 r).length + 1
        omega
      · show 1 + _ = (zin0 r).length + 1
        omega
    · have : (zc z xa (.inr (.inr (.inr k)))).category = 1 := hxc k
      rw [this]
      show 1 + _ = (zin0 r).length + 1
      omega
theorem zpr_rep {z : Nat} {xa : Nat → Value} : ∀ (n j : Nat), zpr z xa j (List.replicate n (zx 0)) = []
  | 0, j => rfl
  | n + 1, j => by
    rw [List.replicate_succ, zpr, if_pos (show zjunk (zx 0) = true from rfl)]
    exact zpr_rep n (j + 1)
theorem zpr_in {z : Nat} {xa : Nat → Value} (hxc : ∀ k, (xa k).category = 1) (q : Nat × Value) : ∀ (as : List ZV) (j n : Nat), q ∈ zpr z xa j (zin0 as ++ List.replicate n (zx 0)) → q ∈ lv_args j (as.map (zc z xa))
  | [], j, n, h => by
    rw [show zin0 [] = [] from rfl, List.nil_append, zpr_rep] at h
    cases h
  | v :: r, j, n, h => by
    rcases v with x | x | w | k
    · have h : q ∈ (j, zc z xa (zi x)) :: zpr z xa (j + 1) (zin0 r ++ List.replicate n (zx 0)) := h
      rcases List.mem_cons.mp h with h | h
      · rw [h]; exact List.mem_cons_self
      · exact List.mem_cons_of_mem _ (zpr_in hxc q r (j + 1) n h)
    · have h : q ∈ (j, zc z xa (zl x)) :: zpr z xa (j + 1 + 1) (zin0 r ++ List.replicate n (zx 0)) := h
      rcases List.mem_cons.mp h with h | h
      · rw [h]; exact List.mem_cons_self
      · exact List.mem_cons_of_mem _ (zpr_in hxc q r (j + 2) n h)
    · have h : q ∈ (j, zc z xa (zr w)) :: zpr z xa (j + 1) (zin0 r ++ List.replicate n (zx 0)) := h
      rcases List.mem_cons.mp h with h | h
      · rw [h]; exact List.mem_cons_self
      · refine List.mem_cons_of_mem _ ?_
        have := zpr_in hxc q r (j + 1) n h
        cases w <;> exact this
    · have hk : (zc z xa (zx k)).category = 1 := hxc k
      show q ∈ (j, zc z xa (zx k)) :: lv_args (if (zc z xa (zx k)).category = 2 then j + 2 else j + 1) (r.map (zc z xa))
      rw [hk, if_neg (by decide)]
      cases k with
      | zero =>
        have h : q ∈ zpr z xa (j + 1) (zin0 r ++ List.replicate n (zx 0)) := h
        exact List.mem_cons_of_mem _ (zpr_in hxc q r (j + 1) n h)
      | succ k =>
        have h : q ∈ (j, zc z xa (zx (k + 1))) :: zpr z xa (j + 1) (zin0 r ++ List.replicate n (zx 0)) := h
        rcases List.mem_cons.mp h with h | h
        · rw [h]; exact List.mem_cons_self
        · exact List.mem_cons_of_mem _ (zpr_in hxc q r (j + 1) n h)
theorem zin0_ok {c : Nat} : ∀ (as : List ZV), (∀ v ∈ as, zvk c v) → ∀ v ∈ zin0 as, zjunk v = true ∨ zvk c v
  | [], _, v, hv => by cases hv
  | w :: r, h, v, hv => by
    have ih := zin0_ok r (fun v hv => h v (List.mem_cons_of_mem _ hv))
    have hw := h w List.mem_cons_self
    rcases w with x | x | q | k
    · rcases List.mem_cons.mp (show v ∈ zi x :: zin0 r from hv) with rfl | hv
      · exact Or.inr hw
      · exact ih v hv
    · rcases List.mem_cons.mp (show v ∈ zl x :: zx 0 :: zin0 r from hv) with rfl | hv
      · exact Or.inr hw
      · rcases List.mem_cons.mp hv with rfl | hv
        · exact Or.inl rfl
        · exact ih v hv
    · rcases List.mem_cons.mp (show v ∈ zr q :: zin0 r from hv) with rfl | hv
      · exact Or.inr hw
      · exact ih v hv
    · rcases List.mem_cons.mp (show v ∈ zx k :: zin0 r from hv) with rfl | hv
      · exact Or.inr hw
      · exact ih v hv
/-- the locals at the start -/
theorem zLS_ini {z n c : Nat} {xa : Nat → Value} (hxc : ∀ k, (xa k).category = 1) {as : List ZV} (h : (zin0 as).length ≤ n) (hv : ∀ v ∈ as, zvk c v) : zLS z xa n c ((lg_sl (as.map (zc z xa)) ++ List.replicate (n - (lg_sl (as.map (zc z xa))).length) Slot.unset).toArray) (zini n as) [] := by
  have hl := lv_entry (as.map (zc z xa)) (n := n) (by rw [zin_len hxc]; exact h)
  refine ⟨by unfold zini; rw [List.length_append, List.length_replicate]; omega, ⟨hl.1, hl.2.1, fun q hq => hl.2.2 q (zpr_in hxc q as 0 _ hq)⟩, fun v hv' => ?_, fun v hv' => by cases hv'⟩
  rcases List.mem_append.mp hv' with h1 | h1
  · exact zin0_ok as hv v h1
  · exact Or.inl (by rw [(List.mem_replicate.mp h1).2]; rfl)
theorem zrt_int {k : Nat} {r : Option FieldType} (h : zrt k r = true) (h1 : 1 ≤ k) (h4 : k ≤ 4) : ∃ ty, r = some ty ∧ zcc ty = 0 ∧ zkd ty = k := by
  rcases (show k = 1 ∨ k = 2 ∨ k = 3 ∨ k = 4 by omega) with rfl | rfl | rfl | rfl <;> cases r with
  | none => cases h
  | some ty => cases ty <;> first | exact ⟨_, rfl, rfl, rfl⟩ | cases h
set_option maxHeartbeats 4000000 in
theorem zs_run {l : Launch} {s0 : State} {z : Nat} {D : va_G} {xa : Nat → Value} {X : ZX} (hG : zG s0 z D xa X) : ∀ (d μ : Nat) (as : List ZV) (σ : ZS) (r : Option ZV) (τ : ZS), zrun X d μ as σ = some (r, τ) → zCt l s0 z D xa d μ as σ r τ := by
  have hxc := zxa_cat hG.2.2.2.1
  intro d
  induction d with
  | zero => intro μ as σ r τ h; cases h
  | succ d ih =>
    intro μ as σ r τ h
    obtain ⟨h1, hμ, f, hf⟩ := zrun_inv h
    obtain ⟨w1, w2, w3, w4, w5, w6, w7, w8, w9, w10, w11⟩ := zmt_ok hμ
    have hmo := zex_mono f hf
    unfold zCt
    refine Met.ofW (cc := (zmt μ).1.1) (maxL := (zmt μ).2.1) (ret := zmr μ) w6 rfl ?_
    intro p e s m args below meth c s₁ B hml hv
    obtain ⟨rfl, hW, hJ, has⟩ := hv
    have hx := B.exec
    have hb := B.bytes
    have hr := B.returns
    have hlocks := B.notSynchronized
    have hown : s.vm.findClass (zown (zmt μ).1.2.1) = some m.cls := by rw [w3]; exact findClass_of_methodNamed B.named
    have hin : (zmt μ).1.2.2 = 9 → meth.name = "<init>" := fun q => by rw [(name_of_methodNamed B.named B.method).1]; exact w7.mp q
    rw [lg_entry_eq]
    refine zs_ex (M := (zmt μ).1) (n := (zmt μ).2.1) (d := d) (call := zrun X d) hG hW hx hb hown hml hin ih (Nat.le_refl (d + 1)) (show 39 * d + 39 ≤ 39 * (d + 1) by omega) (c0 := σ.1) (n0 := σ.2.1) (r := r) (τ := τ) (show τ.1 ≤ σ.1 + (τ.1 - σ.1) by omega) (show τ.2.1 ≤ σ.2.1 + (τ.2.1 - σ.2.1) by omega) ?_ f 0 _ [] σ _ s.heap [] 0 0 hf hJ (zLS_ini hxc h1 has) (by omega) (by omega)
    intro i k pc st H locs lr cells slots hd hR hJ1 hst hc hn
    obtain rfl : cells = τ.1 - σ.1 := by omega
    obtain rfl : slots = τ.2.1 - σ.2.1 := by omega
    have hfr : ∀ q ∈ locs, zA z q.base := hJ1.2.2.2.2.2.2.2.2
    cases i with
    | return_ =>
      simp only [zsR] at hR
      split at hR
      · rename_i hh
        obtain ⟨rfl, hk, rfl⟩ := hh
        cases hR
        have hret : meth.sig.returnType = none := by
          rw [hr]
          rcases hk with hk | hk <;> rw [hk] at w8 <;> (cases hz : zmr μ with
            | none => rfl
            | some ty => rw [hz] at w8; cases w8)
        exact W.vret hx hb hret (fun t ht hWt => ⟨rfl, by rw [ht]; exact hJ1.nil, fun v hv => by cases hv⟩) hfr hd
      · cases hR
    | ireturn =>
      simp only [zsR] at hR
      split at hR
      · rename_i x
        split at hR
        · rename_i hh
          obtain ⟨rfl, hk1, hk4, hok⟩ := hh
          cases hR
          obtain ⟨ty, e1, e2, e3⟩ := zrt_int w8 hk1 hk4
          have hx3 : zi3 x := hst (zi x) List.mem_cons_self
          rw [← e3] at hok hk4
          exact W.zret (ty := ty) hx hb (hr.trans e1) (zq_nar e2 hok (by omega)).1 (fun t ht hWt => ⟨rfl, by rw [ht]; exact hJ1.nil, fun v hv => by cases hv; exact hx3⟩) hfr hd
        · cases hR
      · cases hR
    | lreturn =>
      simp only [zsR] at hR
      split at hR
      · rename_i x
        split at hR
        · rename_i hh
          obtain ⟨rfl, hk⟩ := hh
          cases hR
          have hx6 : zi6 x := hst (zl x) List.mem_cons_self
          have hret : meth.sig.returnType = some .long := by
            rw [hr]
            rw [hk] at w8
            cases hz : zmr μ with
            | none => rw [hz] at w8; cases w8
            | some ty => rw [hz] at w8; cases ty <;> first | rfl | cases w8
          exact W.lret hx hb hret (fun t ht hWt => ⟨rfl, by rw [ht]; exact hJ1.nil, fun v hv => by cases hv; exact hx6⟩) hfr hd
        · cases hR
      · cases hR
    | areturn =>
      simp only [zsR] at hR
      split at hR
      · rename_i x
        split at hR
        · rename_i hh
          obtain ⟨rfl, hk⟩ := hh
          cases hR
          have hxr := hst (zr x) List.mem_cons_self
          obtain ⟨nm, hret⟩ : ∃ nm, zmr μ = some (.object nm) := by
            rw [hk] at w8
            cases hz : zmr μ with
            | none => rw [hz] at w8; cases w8
            | some ty => rw [hz] at w8; cases ty <;> first | exact ⟨_, rfl⟩ | cases w8
          exact W.aret (rt := .object nm) hx hb (hr.trans hret) (Or.inl ⟨nm, rfl⟩) (zc_ref hG.2.2.2.1 (Or.inl ⟨x, rfl⟩)) (fun t ht hWt => ⟨rfl, by rw [ht]; exact hJ1.nil, fun v hv => by cases hv; exact hxr⟩) hfr hd
        · cases hR
      · cases hR
    | _ => cases hR
