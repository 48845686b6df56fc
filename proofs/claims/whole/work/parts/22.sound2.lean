section
variable {p : Program} {l : Launch} {e : Env} {Rm : Room} {s : State} {m : MethodId} {args : Array Value} {below : List Frame} {meth : Method} {c : Code} {Q : State → Prop}
variable {s0 : State} {z n : Nat} {D : va_G} {xa : Nat → Value} {X : ZX} {M : ZM} {call : ZC}
set_option maxHeartbeats 4000000 in
theorem zs_K (hG : zG s0 z D xa X) (hW : s0.WarmedH s.vm) (hx : p.tables.exec = Jvm.exec) (hb : c.code = M.1) (hown : s.vm.findClass (zown M.2.1) = some m.cls) (hml : c.maxLocals = n) {d : Nat} (hcall : ∀ μ as σ r τ, call μ as σ = some (r, τ) → zCt l s0 z D xa d μ as σ r τ) (hfr : d + 1 ≤ Rm.frames) (hlo : 39 * d + 39 ≤ Rm.locals) {i : Instr} {k pc q : Nat} {ls st l1 s1 : List ZV} {σ τ : ZS} (hd : decode M.1 pc = .ok (i, k)) (h : zsK call M.2.1 i k pc ls st σ = some (q, l1, s1, τ)) {H : Heap} {locs : List Loc} {cells slots : Nat} {lr : Array Slot} (hl : zLS z xa n σ.1 lr ls st) (hJ : zJ s0 z D σ H locs) {c0 n0 : Nat} (hc : cells + c0 = σ.1) (hn : slots + n0 = σ.2.1) (hcE : τ.1 ≤ c0 + Rm.cells) (hnE : τ.2.1 ≤ n0 + Rm.slots)
    (kk : ∀ (H1 : Heap) (locs1 : List Loc) (cells1 slots1 : Nat), zJ s0 z D τ H1 locs1 → zLS z xa n τ.1 lr l1 s1 → cells1 + c0 = τ.1 → slots1 + n0 = τ.2.1 → W p l e Rm s m args below meth c H1 locs1 cells1 slots1 Q (F0 m q lr (s1.map (zc z xa)))) : W p l e Rm s m args below meth c H locs cells slots Q (F0 m pc lr (st.map (zc z xa))) := by
  have hxc := zxa_cat hG.2.2.2.1
  obtain ⟨ct, sn, I, L, R⟩ := σ
  have hc : cells + c0 = ct := hc
  have hn : slots + n0 = sn := hn
  cases i with
  | new ix =>
    simp only [zsK] at h
    split at h
    · rename_i ci hz
      split at h
      · rename_i hh
        obtain ⟨rfl, h13, ht⟩ := hh
        cases h
        have hcE : ct + 1 ≤ c0 + Rm.cells := hcE
        have hnE : sn + zfn ci ≤ n0 + Rm.slots := hnE
        refine zs_new hG hW hx hb hown hd hz h13 ht hJ (by omega) (by omega) (fun H1 hJ1 => ?_)
        exact kk H1 locs _ _ hJ1 ((hl.mono (Nat.le_succ ct)).push (v := zr (some ct)) (fun b hb => by cases hb; exact Nat.lt_succ_self ct)) (show cells + 1 + c0 = ct + 1 by omega) (show slots + zfn ci + n0 = sn + zfn ci by omega)
      · cases h
    · cases h
  | newarray ty =>
    simp only [zsK] at h
    split at h
    · rename_i w r
      split at h
      · rename_i hh
        obtain ⟨rfl, h1, h0, hk, ht⟩ := hh
        cases h
        have hcE : ct + 1 ≤ c0 + Rm.cells := hcE
        have hnE : sn + w.toNat ≤ n0 + Rm.slots := hnE
        refine zs_newa hG hW hx hb hd h1 h0 hk ht hJ (by omega) (by omega) (fun H1 hJ1 => ?_)
        exact kk H1 locs _ _ hJ1 ((hl.tail.mono (Nat.le_succ ct)).push (v := zr (some ct)) (fun b hb => by cases hb; exact Nat.lt_succ_self ct)) (show cells + 1 + c0 = ct + 1 by omega) (show slots + w.toNat + n0 = sn + w.toNat by omega)
      · cases h
    · cases h
  | anewarray ix =>
    simp only [zsK] at h
    split at h
    · rename_i w r
      split at h
      · rename_i ci hz
        split at h
        · rename_i hh
          obtain ⟨rfl, h0, hk, ht⟩ := hh
          cases h
          have hcE : ct + 1 ≤ c0 + Rm.cells := hcE
          have hnE : sn + w.toNat ≤ n0 + Rm.slots := hnE
          have hfin : ∀ (H1 : Heap), zJ s0 z D (ct + 1, sn + w.toNat, I, L, R) H1 locs → W p l e Rm s m args below meth c H1 locs (cells + 1) (slots + w.toNat) Q (F0 m (pc + 3) lr (.ref (z + ct) :: r.map (zc z xa))) := fun H1 hJ1 => kk H1 locs _ _ hJ1 ((hl.tail.mono (Nat.le_succ ct)).push (v := zr (some ct)) (fun b hb => by cases hb; exact Nat.lt_succ_self ct)) (show cells + 1 + c0 = ct + 1 by omega) (show slots + w.toNat + n0 = sn + w.toNat by omega)
          rcases ht with ⟨h5, ht⟩ | ⟨h5, ht⟩
          · exact zs_anew hG hW hx hb hown hd hz (Or.inl ⟨h5, rfl⟩) h0 hk ht hJ (by omega) (by omega) hfin
          · exact zs_anew hG hW hx hb hown hd hz (Or.inr ⟨h5, rfl⟩) h0 hk ht hJ (by omega) (by omega) hfin
        · cases h
      · cases h
    · cases h
  | multianewarray ix dm =>
    simp only [zsK] at h
    split at h
    · rename_i w v r
      split at h
      · rename_i hh
        obtain ⟨rfl, rfl, hM, rfl, hN0, hN1, hk0, hk1, ht, hr⟩ := hh
        cases h
        have hcE : ct + 1 + v.toNat ≤ c0 + Rm.cells := hcE
        have hnE : sn + v.toNat + v.toNat * w.toNat ≤ n0 + Rm.slots := hnE
        refine zs_mna hG hW hx hb hown hM hd hN0 hN1 hk0 hk1 ht hr hJ (by omega) (by omega) (fun H1 hJ1 => ?_)
        exact kk H1 locs _ _ hJ1 ((hl.tail.tail.mono (show ct ≤ ct + 1 + v.toNat by omega)).push (v := zr (some ct)) (fun b hb => by cases hb; show ct < ct + 1 + v.toNat; omega)) (show cells + 1 + v.toNat + c0 = ct + 1 + v.toNat by omega) (show slots + v.toNat + v.toNat * w.toNat + n0 = sn + v.toNat + v.toNat * w.toNat by omega)
      · cases h
    · cases h
  | invokevirtual ix =>
    simp only [zsK] at h
    split at h
    · rename_i kd μ na hz
      split at h
      · rename_i hh
        obtain ⟨rfl, rfl, hrv⟩ := hh
        exact zs_inv hG hW hx hb hown hml hcall hfr hlo hz (Or.inl ⟨hd, rfl, rfl, hrv⟩) h hl hJ hc hn hcE hnE kk
      · cases h
    · cases h
  | invokestatic ix =>
    simp only [zsK] at h
    split at h
    · rename_i kd μ na hz
      split at h
      · rename_i hh
        obtain ⟨rfl, rfl⟩ := hh
        exact zs_inv hG hW hx hb hown hml hcall hfr hlo hz (Or.inr (Or.inl ⟨hd, rfl, rfl⟩)) h hl hJ hc hn hcE hnE kk
      · split at h
        · rename_i hh
          obtain ⟨rfl, rfl⟩ := hh
          obtain ⟨i, hlk, -⟩ := zml_ok hz
          simp at hlk
          split at h
          · rename_i w dp b sp a r
            split at h
            · rename_i hq
              obtain ⟨ta, tb, h1, h2, h3, h4, h5, h8, -⟩ := hq
              cases h
              refine zs_cpy hG hW hx hb hown hd (hG.word hW (zat_ok hlk) args) ta tb h1 h2 h3 h4 h5 hJ (hl.tail.tail.tail.tail.hd a rfl) (hl.tail.tail.hd b rfl) (by omega) (hml.trans hl.2.1.1.symm) (by rw [zcats_c hxc]; omega) (fun H1 locs1 hJ1 => ?_)
              exact kk H1 locs1 _ _ hJ1 hl.tail.tail.tail.tail.tail hc hn
            · cases h
          · cases h
        · split at h
          · rename_i hh
            obtain ⟨rfl, rfl⟩ := hh
            obtain ⟨i, hlk, -⟩ := zml_ok hz
            simp at hlk
            split at h
            · rename_i y x r
              split at h
              · rename_i h8
                cases h
                have hy := hl.hd
                have hxx := hl.tail.hd
                refine va_mmax hx hb (hml.trans hl.2.1.1.symm) hown (hG.word hW (zat_ok hlk) args) (hG.word hW (zat_ok zmx_1) args) (hG.word hW (zat_ok zmx_3) args) (hG.word hW (zat_ok zmx_4) args) (by omega) (by rw [zcats_c hxc]; omega) (show cells ≤ Rm.cells by have hcE : ct ≤ c0 + Rm.cells := hcE; omega) (show slots ≤ Rm.slots by have hnE : sn ≤ n0 + Rm.slots := hnE; omega) hd ?_
                have h1 := kk H locs cells slots hJ (hl.tail.tail.push (v := zi (if x < y then y else x)) (by show zi3 _; split <;> assumption)) hc hn
                rw [List.map_cons] at h1
                have e1 : zc z xa (zi (if x < y then y else x)) = .int (if Int32.ofInt x < Int32.ofInt y then Int32.ofInt y else Int32.ofInt x) := by
                  show Value.int (Int32.ofInt (if x < y then y else x)) = _
                  by_cases hxy : x < y
                  · rw [if_pos hxy, if_pos ((zq_lt hxx hy).mpr hxy)]
                  · rw [if_neg hxy, if_neg (fun q => hxy ((zq_lt hxx hy).mp q))]
                rw [e1] at h1
                exact h1
              · cases h
            · cases h
          · split at h
            · rename_i hh
              obtain ⟨rfl, rfl⟩ := hh
              obtain ⟨i, hlk, -⟩ := zml_ok hz
              simp at hlk
              split at h
              · rename_i y x r
                split at h
                · rename_i h8
                  cases h
                  have hy := hl.hd
                  have hxx := hl.tail.hd
                  refine va_mmin hx hb (hml.trans hl.2.1.1.symm) hown (hG.word hW (zat_ok hlk) args) (hG.word hW (zat_ok zmx_2) args) (hG.word hW (zat_ok zmx_3) args) (hG.word hW (zat_ok zmx_5) args) (by omega) (by rw [zcats_c hxc]; omega) (show cells ≤ Rm.cells by have hcE : ct ≤ c0 + Rm.cells := hcE; omega) (show slots ≤ Rm.slots by have hnE : sn ≤ n0 + Rm.slots := hnE; omega) hd ?_
                  have h1 := kk H locs cells slots hJ (hl.tail.tail.push (v := zi (if y < x then y else x)) (by show zi3 _; split <;> assumption)) hc hn
                  rw [List.map_cons] at h1
                  have e1 : zc z xa (zi (if y < x then y else x)) = .int (if Int32.ofInt y < Int32.ofInt x then Int32.ofInt y else Int32.ofInt x) := by
                    show Value.int (Int32.ofInt (if y < x then y else x)) = _
                    by_cases hxy : y < x
                    · rw [if_pos hxy, if_pos ((zq_lt hy hxx).mpr hxy)]
                    · rw [if_neg hxy, if_neg (fun q => hxy ((zq_lt hy hxx).mp q))]
                  rw [e1] at h1
                  exact h1
                · cases h
              · cases h
            · cases h
    · cases h
  | invokespecial ix =>
    simp only [zsK] at h
    split at h
    · rename_i kd μ na hz
      split at h
      · rename_i hh
        obtain ⟨rfl, h24, hrv⟩ := hh
        exact zs_inv hG hW hx hb hown hml hcall hfr hlo hz (Or.inr (Or.inr ⟨hd, h24, rfl, hrv⟩)) h hl hJ hc hn hcE hnE kk
      · split at h
        · rename_i hh
          obtain ⟨rfl, rfl⟩ := hh
          obtain ⟨i, hlk, -⟩ := zml_ok hz
          simp at hlk
          split at h
          · rename_i a r
            split at h
            · rename_i h8
              cases h
              refine W.objInit hx hb hown (hG.word hW (zat_ok hlk) args) (hG.word hW (zat_ok zob_1) args) (hG.word hW (zat_ok zob_2) args) rfl (hl.2.1.1.trans hml.symm) rfl hd (by omega) (by show 2 * 0 + _ + 12 ≤ _; rw [zcats_c hxc]; omega) ?_
              exact kk H locs cells slots hJ hl.tail hc hn
            · cases h
          · cases h
        · cases h
    · cases h
  | _ => cases h
/-- the counters never fall -/
theorem zsK_mono {i : Instr} {k pc q : Nat} {ls st l1 s1 : List ZV} {σ τ : ZS} {cN : Nat} (h : zsK call cN i k pc ls st σ = some (q, l1, s1, τ)) : σ.1 ≤ τ.1 ∧ σ.2.1 ≤ τ.2.1 := by
  have hgo : ∀ {μ na : Nat}, zgo call μ na pc ls st σ = some (q, l1, s1, τ) → σ.1 ≤ τ.1 ∧ σ.2.1 ≤ τ.2.1 := fun h => by
    obtain ⟨-, -, r, -, h1, h2, -⟩ := zgo_inv h
    exact ⟨h1, h2⟩
  unfold zsK at h
  repeat' split at h
  all_goals first
    | exact hgo h
    | (cases h; refine ⟨?_, ?_⟩ <;> (first | exact Nat.le_refl _ | (dsimp only; omega)))
    | cases h
theorem zstep_mono {pc q : Nat} {ls st l1 s1 : List ZV} {σ τ : ZS} (h : zstep X call M pc ls st σ = some (.inr (q, l1, s1, τ))) : σ.1 ≤ τ.1 ∧ σ.2.1 ≤ τ.2.1 := by
  unfold zstep at h
  split at h
  · split at h
    · cases h; exact ⟨Nat.le_refl _, Nat.le_refl _⟩
    · split at h
      · cases h; exact ⟨Nat.le_refl _, Nat.le_refl _⟩
      · split at h
        · cases h
        · split at h
          · rename_i hk
            cases h
            exact zsK_mono hk
          · cases h
  · cases h
theorem zex_mono : ∀ (f : Nat) {pc : Nat} {ls st : List ZV} {σ τ : ZS} {r : Option ZV}, zex X call M f pc ls st σ = some (r, τ) → σ.1 ≤ τ.1 ∧ σ.2.1 ≤ τ.2.1 := by
  intro f
  induction f with
  | zero => intro pc ls st σ τ r h; cases h
  | succ f ih =>
    intro pc ls st σ τ r h
    simp only [zex] at h
    split at h
    · rename_i w hs
      cases h
      unfold zstep at hs
      split at hs
      · split at hs
        · cases hs
        · split at hs
          · cases hs
          · split at hs
            · cases hs; exact ⟨Nat.le_refl _, Nat.le_refl _⟩
            · split at hs <;> cases hs
      · cases hs
    · rename_i q l1 s1 τ1 hs
      have h1 := zstep_mono hs
      have h2 := ih h
      omega
    · cases h
/-- a walk of a body -/
theorem zs_ex (hG : zG s0 z D xa X) (hW : s0.WarmedH s.vm) (hx : p.tables.exec = Jvm.exec) (hb : c.code = M.1) (hown : s.vm.findClass (zown M.2.1) = some m.cls) (hml : c.maxLocals = n) (hin : M.2.2 = 9 → meth.name = "<init>") {d : Nat} (hcall : ∀ μ as σ r τ, call μ as σ = some (r, τ) → zCt l s0 z D xa d μ as σ r τ) (hfr : d + 1 ≤ Rm.frames) (hlo : 39 * d + 39 ≤ Rm.locals) {c0 n0 : Nat} {r : Option ZV} {τ : ZS} (hcE : τ.1 ≤ c0 + Rm.cells) (hnE : τ.2.1 ≤ n0 + Rm.slots)
    (ret : ∀ (i : Instr) (k pc : Nat) (st : List ZV) (H : Heap) (locs : List Loc) (lr : Array Slot) (cells slots : Nat), decode M.1 pc = .ok (i, k) → zsR M.2.2 i k st = some r → zJ s0 z D τ H locs → (∀ v ∈ st, zvk τ.1 v) → cells + c0 = τ.1 → slots + n0 = τ.2.1 → W p l e Rm s m args below meth c H locs cells slots Q (F0 m pc lr (st.map (zc z xa)))) :
    ∀ (f : Nat) (pc : Nat) (ls st : List ZV) (σ : ZS) (lr : Array Slot) (H : Heap) (locs : List Loc) (cells slots : Nat), zex X call M f pc ls st σ = some (r, τ) → zJ s0 z D σ H locs → zLS z xa n σ.1 lr ls st → cells + c0 = σ.1 → slots + n0 = σ.2.1 → W p l e Rm s m args below meth c H locs cells slots Q (F0 m pc lr (st.map (zc z xa))) := by
  intro f
  induction f with
  | zero => intro pc ls st σ lr H locs cells slots h; cases h
  | succ f ih =>
    intro pc ls st σ lr H locs cells slots h hJ hl hc hn
    simp only [zex] at h
    split at h
    · rename_i w hs
      cases h
      unfold zstep at hs
      split at hs
      · rename_i i k hd
        split at hs
        · cases hs
        · split at hs
          · cases hs
          · split at hs
            · rename_i hr
              cases hs
              exact ret i k pc st H locs lr cells slots hd hr hJ hl.2.2.2 hc hn
            · split at hs <;> cases hs
      · cases hs
    · rename_i q l1 s1 τ1 hs
      have hmo := zex_mono f h
      unfold zstep at hs
      split at hs
      · rename_i i k hd
        split at hs
        · rename_i hP
          cases hs
          exact zs_P hx hb hG.2.2.2.1 hd hP hl (fun lr1 hl1 => ih _ _ _ _ lr1 H locs cells slots h hJ hl1 hc hn)
        · split at hs
          · rename_i hH
            cases hs
            obtain ⟨ct, sn, I, L, R⟩ := σ
            exact zs_H hG hW hx hb hown hin hd hH hl hJ (fun H1 locs1 hJ1 hl1 => ih _ _ _ _ lr H1 locs1 cells slots h hJ1 hl1 hc hn)
          · split at hs
            · cases hs
            · split at hs
              · rename_i hK
                cases hs
                exact zs_K hG hW hx hb hown hml hcall hfr hlo hd hK hl hJ hc hn (by omega) (by omega) (fun H1 locs1 cells1 slots1 hJ1 hl1 hc1 hn1 => ih _ _ _ _ lr H1 locs1 cells1 slots1 h hJ1 hl1 hc1 hn1)
              · cases hs
      · cases hs
    · cases h
end
