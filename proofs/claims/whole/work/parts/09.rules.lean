/-! Rules for walking: V at an instruction is V behind it. -/
theorem V_st {X : ZX} {call : ZC} {M : ZM} {pc q : Nat} {ls st l1 s1 : List ZV} {σ τ : ZS} {Q : Option ZV × ZS → Prop} (h : zstep X call M pc ls st σ = some (.inr (q, l1, s1, τ))) : V X call M pc ls st σ Q ↔ V X call M q l1 s1 τ Q := by
  constructor
  · rintro ⟨r, ⟨n, hn⟩, hq⟩
    cases n with
    | zero => cases hn
    | succ n => exact ⟨r, ⟨n, by simpa only [zex, h] using hn⟩, hq⟩
  · rintro ⟨r, ⟨n, hn⟩, hq⟩
    exact ⟨r, ⟨n + 1, by simpa only [zex, h] using hn⟩, hq⟩
theorem V_en {X : ZX} {call : ZC} {M : ZM} {pc : Nat} {ls st : List ZV} {σ : ZS} {r : Option ZV × ZS} {Q : Option ZV × ZS → Prop} (h : zstep X call M pc ls st σ = some (.inl r)) : V X call M pc ls st σ Q ↔ Q r := by
  constructor
  · rintro ⟨r', ⟨n, hn⟩, hq⟩
    cases n with
    | zero => cases hn
    | succ n =>
      have hn : some r = some r' := by simpa only [zex, h] using hn
      cases hn
      exact hq
  · intro hq
    exact ⟨r, ⟨1, by simp only [zex, h]⟩, hq⟩
theorem V_no {X : ZX} {call : ZC} {M : ZM} {pc : Nat} {ls st : List ZV} {σ : ZS} {Q : Option ZV × ZS → Prop} (h : zstep X call M pc ls st σ = none) : V X call M pc ls st σ Q ↔ False := by
  constructor
  · rintro ⟨r', ⟨n, hn⟩, hq⟩
    cases n with
    | zero => cases hn
    | succ n => exact absurd (by simpa only [zex, h] using hn : (none : Option (Option ZV × ZS)) = some r') (by simp)
  · exact False.elim
theorem V_imp {X : ZX} {call : ZC} {M : ZM} {pc : Nat} {ls st : List ZV} {σ : ZS} {P Q : Option ZV × ZS → Prop} (h : V X call M pc ls st σ P) (k : ∀ r, P r → Q r) : V X call M pc ls st σ Q := by
  obtain ⟨r, hn, hq⟩ := h
  exact ⟨r, hn, k r hq⟩
def zasI (v : ZV) (P : Int → Prop) : Prop := match v with
  | .inl x => P x
  | _ => False
def zasL (v : ZV) (P : Int → Prop) : Prop := match v with
  | .inr (.inl x) => P x
  | _ => False
def zasA (v : ZV) (P : ZV → Prop) : Prop := match v with
  | .inr (.inr (.inl x)) => P (zr x)
  | .inr (.inr (.inr (x + 1))) => P (zx (x + 1))
  | _ => False
theorem zasI_i {x : Int} {P : Int → Prop} : zasI (.inl x) P = P x := rfl
theorem zasL_l {x : Int} {P : Int → Prop} : zasL (.inr (.inl x)) P = P x := rfl
theorem zasA_r {x : Option Nat} {P : ZV → Prop} : zasA (.inr (.inr (.inl x))) P = P (.inr (.inr (.inl x))) := rfl
theorem zasA_x {x : Nat} {P : ZV → Prop} : zasA (.inr (.inr (.inr (x + 1)))) P = P (.inr (.inr (.inr (x + 1)))) := rfl
def zcll (o : Option (Option ZV × ZS)) (P : Option ZV → ZS → Prop) : Prop := match o with
  | some (r, τ) => P r τ
  | none => False
theorem zcll_s {r : Option ZV} {τ : ZS} {P : Option ZV → ZS → Prop} : zcll (some (r, τ)) P = P r τ := rfl
theorem zpush_s {v : ZV} {r : List ZV} : zpush (some v) r = v :: r := rfl
theorem zpush_n {r : List ZV} : zpush none r = r := rfl
section
variable {X : ZX} {call : ZC} {M : ZM} {pc q t : Nat} {ls st : List ZV} {σ : ZS} {Q : Option ZV × ZS → Prop} {c s : Nat} {I L : ZI} {R : ZR}
theorem V_iconst {n : Int} (hd : decode M.1 pc = .ok (.iconst n, 1)) (hn : -1 ≤ n ∧ n < 6) (hq : pc + 1 = q) : V X call M pc ls st σ Q ↔ V X call M q ls (zi n :: st) σ Q := by
  subst hq
  exact V_st (by simp [zstep, hd, zsP, hn])
theorem V_bipush {n : Int} (hd : decode M.1 pc = .ok (.bipush n, 2)) (hn : -128 ≤ n ∧ n < 128) (hq : pc + 2 = q) : V X call M pc ls st σ Q ↔ V X call M q ls (zi n :: st) σ Q := by
  subst hq
  exact V_st (by simp [zstep, hd, zsP, hn])
theorem V_sipush {n : Int} (hd : decode M.1 pc = .ok (.sipush n, 3)) (hn : -32768 ≤ n ∧ n < 32768) (hq : pc + 3 = q) : V X call M pc ls st σ Q ↔ V X call M q ls (zi n :: st) σ Q := by
  subst hq
  exact V_st (by simp [zstep, hd, zsP, hn])
theorem V_lconst {n : Fin 2} {m : Int} (hd : decode M.1 pc = .ok (.lconst n, 1)) (hn : ((n : Nat) : Int) = m) (hq : pc + 1 = q) : V X call M pc ls st σ Q ↔ V X call M q ls (zl m :: st) σ Q := by
  subst hq; subst hn
  exact V_st (by simp [zstep, hd, zsP])
theorem V_iload_n {k : Fin 4} {j : Nat} (hd : decode M.1 pc = .ok (.iload_n k, 1)) (hj : (k : Nat) = j) (hq : pc + 1 = q) : V X call M pc ls st σ Q ↔ zasI (zg ls j) (fun x => V X call M q ls (zi x :: st) σ Q) := by
  subst hq; subst hj
  unfold zasI
  split
  · rename_i h
    exact V_st (by simp [zstep, hd, zsP, zldi, zldl, zlda, h])
  · rename_i h
    refine V_no ?_
    have hz : zsP (.iload_n k) 1 pc ls st = none := by
      simp only [zsP, zldi, zldl, zlda, if_pos]
      try (split <;> first | rfl | (exfalso; simp_all))
    simp only [zstep, hd, hz]
    simp [zsH, zsR, zsK]
theorem V_iload {j : Nat} (hd : decode M.1 pc = .ok (.iload j, 2)) (hq : pc + 2 = q) : V X call M pc ls st σ Q ↔ zasI (zg ls j) (fun x => V X call M q ls (zi x :: st) σ Q) := by
  subst hq
  unfold zasI
  split
  · rename_i h
    exact V_st (by simp [zstep, hd, zsP, zldi, zldl, zlda, h])
  · rename_i h
    refine V_no ?_
    have hz : zsP (.iload j) 2 pc ls st = none := by
      simp only [zsP, zldi, zldl, zlda, if_pos]
      try (split <;> first | rfl | (exfalso; simp_all))
    simp only [zstep, hd, hz]
    simp [zsH, zsR, zsK]
theorem V_lload_n {k : Fin 4} {j : Nat} (hd : decode M.1 pc = .ok (.lload_n k, 1)) (hj : (k : Nat) = j) (hq : pc + 1 = q) : V X call M pc ls st σ Q ↔ zasL (zg ls j) (fun x => V X call M q ls (zl x :: st) σ Q) := by
  subst hq; subst hj
  unfold zasL
  split
  · rename_i h
    exact V_st (by simp [zstep, hd, zsP, zldi, zldl, zlda, h])
  · rename_i h
    refine V_no ?_
    have hz : zsP (.lload_n k) 1 pc ls st = none := by
      simp only [zsP, zldi, zldl, zlda, if_pos]
      try (split <;> first | rfl | (exfalso; simp_all))
    simp only [zstep, hd, hz]
    simp [zsH, zsR, zsK]
theorem V_lload {j : Nat} (hd : decode M.1 pc = .ok (.lload j, 2)) (hq : pc + 2 = q) : V X call M pc ls st σ Q ↔ zasL (zg ls j) (fun x => V X call M q ls (zl x :: st) σ Q) := by
  subst hq
  unfold zasL
  split
  · rename_i h
    exact V_st (by simp [zstep, hd, zsP, zldi, zldl, zlda, h])
  · rename_i h
    refine V_no ?_
    have hz : zsP (.lload j) 2 pc ls st = none := by
      simp only [zsP, zldi, zldl, zlda, if_pos]
      try (split <;> first | rfl | (exfalso; simp_all))
    simp only [zstep, hd, hz]
    simp [zsH, zsR, zsK]
theorem V_aload_n {k : Fin 4} {j : Nat} (hd : decode M.1 pc = .ok (.aload_n k, 1)) (hj : (k : Nat) = j) (hq : pc + 1 = q) : V X call M pc ls st σ Q ↔ zasA (zg ls j) (fun x => V X call M q ls (x :: st) σ Q) := by
  subst hq; subst hj
  unfold zasA
  split
  · rename_i h
    exact V_st (by simp [zstep, hd, zsP, zldi, zldl, zlda, h])
  · rename_i h
    exact V_st (by simp [zstep, hd, zsP, zldi, zldl, zlda, h])
  · rename_i h
    refine V_no ?_
    have hz : zsP (.aload_n k) 1 pc ls st = none := by
      simp only [zsP, zldi, zldl, zlda, if_pos]
      try (split <;> first | rfl | (exfalso; simp_all))
    simp only [zstep, hd, hz]
    simp [zsH, zsR, zsK]
theorem V_aload {j : Nat} (hd : decode M.1 pc = .ok (.aload j, 2)) (hq : pc + 2 = q) : V X call M pc ls st σ Q ↔ zasA (zg ls j) (fun x => V X call M q ls (x :: st) σ Q) := by
  subst hq
  unfold zasA
  split
  · rename_i h
    exact V_st (by simp [zstep, hd, zsP, zldi, zldl, zlda, h])
  · rename_i h
    exact V_st (by simp [zstep, hd, zsP, zldi, zldl, zlda, h])
  · rename_i h
    refine V_no ?_
    have hz : zsP (.aload j) 2 pc ls st = none := by
      simp only [zsP, zldi, zldl, zlda, if_pos]
      try (split <;> first | rfl | (exfalso; simp_all))
    simp only [zstep, hd, hz]
    simp [zsH, zsR, zsK]
theorem V_istore_n {k : Fin 4} {j : Nat} {x : Int} (hd : decode M.1 pc = .ok (.istore_n k, 1)) (hj : (k : Nat) = j) (hq : pc + 1 = q) (hl : j < ls.length) : V X call M pc ls (zi x :: st) σ Q ↔ V X call M q (zst1 ls j (zi x)) st σ Q := by
  subst hq; subst hj
  exact V_st (by simp [zstep, hd, zsP, zsti, zsta, zstl, hl])
theorem V_istore {j : Nat} {x : Int} (hd : decode M.1 pc = .ok (.istore j, 2)) (hq : pc + 2 = q) (hl : j < ls.length) : V X call M pc ls (zi x :: st) σ Q ↔ V X call M q (zst1 ls j (zi x)) st σ Q := by
  subst hq
  exact V_st (by simp [zstep, hd, zsP, zsti, zsta, zstl, hl])
theorem V_astore_n {k : Fin 4} {j : Nat} {x : Option Nat} (hd : decode M.1 pc = .ok (.astore_n k, 1)) (hj : (k : Nat) = j) (hq : pc + 1 = q) (hl : j < ls.length) : V X call M pc ls (zr x :: st) σ Q ↔ V X call M q (zst1 ls j (zr x)) st σ Q := by
  subst hq; subst hj
  exact V_st (by simp [zstep, hd, zsP, zsti, zsta, zstl, hl])
theorem V_astore {j : Nat} {x : Option Nat} (hd : decode M.1 pc = .ok (.astore j, 2)) (hq : pc + 2 = q) (hl : j < ls.length) : V X call M pc ls (zr x :: st) σ Q ↔ V X call M q (zst1 ls j (zr x)) st σ Q := by
  subst hq
  exact V_st (by simp [zstep, hd, zsP, zsti, zsta, zstl, hl])
theorem V_lstore_n {k : Fin 4} {j : Nat} {x : Int} (hd : decode M.1 pc = .ok (.lstore_n k, 1)) (hj : (k : Nat) = j) (hq : pc + 1 = q) (hl : j + 1 < ls.length) : V X call M pc ls (zl x :: st) σ Q ↔ V X call M q (zst2 ls j (zl x)) st σ Q := by
  subst hq; subst hj
  exact V_st (by simp [zstep, hd, zsP, zsti, zsta, zstl, hl])
theorem V_lstore {j : Nat} {x : Int} (hd : decode M.1 pc = .ok (.lstore j, 2)) (hq : pc + 2 = q) (hl : j + 1 < ls.length) : V X call M pc ls (zl x :: st) σ Q ↔ V X call M q (zst2 ls j (zl x)) st σ Q := by
  subst hq
  exact V_st (by simp [zstep, hd, zsP, zsti, zsta, zstl, hl])
theorem V_iinc {j : Nat} {n : Int} (hd : decode M.1 pc = .ok (.iinc j n, 3)) (hq : pc + 3 = q) (hl : j < ls.length) : V X call M pc ls st σ Q ↔ zasI (zg ls j) (fun x => V X call M q (zst1 ls j (zi (zw3 (x + n)))) st σ Q) := by
  subst hq
  unfold zasI
  split
  · rename_i h
    exact V_st (by simp [zstep, hd, zsP, h, hl])
  · rename_i h
    refine V_no ?_
    have hz : zsP (.iinc j n) 3 pc ls st = none := by
      simp only [zsP]
      try (split <;> first | rfl | (exfalso; simp_all))
    simp only [zstep, hd, hz]
    simp [zsH, zsR, zsK]
theorem V_iadd {x y : Int} (hd : decode M.1 pc = .ok (.iadd, 1)) (hq : pc + 1 = q) : V X call M pc ls (zi y :: zi x :: st) σ Q ↔ V X call M q ls (zi (zw3 (x + y)) :: st) σ Q := by
  subst hq
  exact V_st (by simp [zstep, hd, zsP, zop2, zop2L, zop2S, zopd, zopdL, zldi, zldl, zlda, zsti, zstl, zsta, zcat1])
theorem V_isub {x y : Int} (hd : decode M.1 pc = .ok (.isub, 1)) (hq : pc + 1 = q) : V X call M pc ls (zi y :: zi x :: st) σ Q ↔ V X call M q ls (zi (zw3 (x - y)) :: st) σ Q := by
  subst hq
  exact V_st (by simp [zstep, hd, zsP, zop2, zop2L, zop2S, zopd, zopdL, zldi, zldl, zlda, zsti, zstl, zsta, zcat1])
theorem V_imul {x y : Int} (hd : decode M.1 pc = .ok (.imul, 1)) (hq : pc + 1 = q) : V X call M pc ls (zi y :: zi x :: st) σ Q ↔ V X call M q ls (zi (zw3 (x * y)) :: st) σ Q := by
  subst hq
  exact V_st (by simp [zstep, hd, zsP, zop2, zop2L, zop2S, zopd, zopdL, zldi, zldl, zlda, zsti, zstl, zsta, zcat1])
theorem V_iand {x y : Int} (hd : decode M.1 pc = .ok (.iand, 1)) (hq : pc + 1 = q) : V X call M pc ls (zi y :: zi x :: st) σ Q ↔ V X call M q ls (zi (zand3 x y) :: st) σ Q := by
  subst hq
  exact V_st (by simp [zstep, hd, zsP, zop2, zop2L, zop2S, zopd, zopdL, zldi, zldl, zlda, zsti, zstl, zsta, zcat1])
theorem V_ior {x y : Int} (hd : decode M.1 pc = .ok (.ior, 1)) (hq : pc + 1 = q) : V X call M pc ls (zi y :: zi x :: st) σ Q ↔ V X call M q ls (zi (zor3 x y) :: st) σ Q := by
  subst hq
  exact V_st (by simp [zstep, hd, zsP, zop2, zop2L, zop2S, zopd, zopdL, zldi, zldl, zlda, zsti, zstl, zsta, zcat1])
theorem V_ishl {x y : Int} (hd : decode M.1 pc = .ok (.ishl, 1)) (hq : pc + 1 = q) : V X call M pc ls (zi y :: zi x :: st) σ Q ↔ V X call M q ls (zi (zshl3 x y) :: st) σ Q := by
  subst hq
  exact V_st (by simp [zstep, hd, zsP, zop2, zop2L, zop2S, zopd, zopdL, zldi, zldl, zlda, zsti, zstl, zsta, zcat1])
theorem V_ishr {x y : Int} (hd : decode M.1 pc = .ok (.ishr, 1)) (hq : pc + 1 = q) : V X call M pc ls (zi y :: zi x :: st) σ Q ↔ V X call M q ls (zi (zshr3 x y) :: st) σ Q := by
  subst hq
  exact V_st (by simp [zstep, hd, zsP, zop2, zop2L, zop2S, zopd, zopdL, zldi, zldl, zlda, zsti, zstl, zsta, zcat1])
theorem V_iushr {x y : Int} (hd : decode M.1 pc = .ok (.iushr, 1)) (hq : pc + 1 = q) : V X call M pc ls (zi y :: zi x :: st) σ Q ↔ V X call M q ls (zi (zushr3 x y) :: st) σ Q := by
  subst hq
  exact V_st (by simp [zstep, hd, zsP, zop2, zop2L, zop2S, zopd, zopdL, zldi, zldl, zlda, zsti, zstl, zsta, zcat1])
theorem V_ladd {x y : Int} (hd : decode M.1 pc = .ok (.ladd, 1)) (hq : pc + 1 = q) : V X call M pc ls (zl y :: zl x :: st) σ Q ↔ V X call M q ls (zl (zw6 (x + y)) :: st) σ Q := by
  subst hq
  exact V_st (by simp [zstep, hd, zsP, zop2, zop2L, zop2S, zopd, zopdL, zldi, zldl, zlda, zsti, zstl, zsta, zcat1])
theorem V_lmul {x y : Int} (hd : decode M.1 pc = .ok (.lmul, 1)) (hq : pc + 1 = q) : V X call M pc ls (zl y :: zl x :: st) σ Q ↔ V X call M q ls (zl (zw6 (x * y)) :: st) σ Q := by
  subst hq
  exact V_st (by simp [zstep, hd, zsP, zop2, zop2L, zop2S, zopd, zopdL, zldi, zldl, zlda, zsti, zstl, zsta, zcat1])
theorem V_land {x y : Int} (hd : decode M.1 pc = .ok (.land, 1)) (hq : pc + 1 = q) : V X call M pc ls (zl y :: zl x :: st) σ Q ↔ V X call M q ls (zl (zand6 x y) :: st) σ Q := by
  subst hq
  exact V_st (by simp [zstep, hd, zsP, zop2, zop2L, zop2S, zopd, zopdL, zldi, zldl, zlda, zsti, zstl, zsta, zcat1])
theorem V_lor {x y : Int} (hd : decode M.1 pc = .ok (.lor, 1)) (hq : pc + 1 = q) : V X call M pc ls (zl y :: zl x :: st) σ Q ↔ V X call M q ls (zl (zor6 x y) :: st) σ Q := by
  subst hq
  exact V_st (by simp [zstep, hd, zsP, zop2, zop2L, zop2S, zopd, zopdL, zldi, zldl, zlda, zsti, zstl, zsta, zcat1])
theorem V_lshl {x y : Int} (hd : decode M.1 pc = .ok (.lshl, 1)) (hq : pc + 1 = q) : V X call M pc ls (zi y :: zl x :: st) σ Q ↔ V X call M q ls (zl (zshl6 x y) :: st) σ Q := by
  subst hq
  exact V_st (by simp [zstep, hd, zsP, zop2, zop2L, zop2S, zopd, zopdL, zldi, zldl, zlda, zsti, zstl, zsta, zcat1])
theorem V_lshr {x y : Int} (hd : decode M.1 pc = .ok (.lshr, 1)) (hq : pc + 1 = q) : V X call M pc ls (zi y :: zl x :: st) σ Q ↔ V X call M q ls (zl (zshr6 x y) :: st) σ Q := by
  subst hq
  exact V_st (by simp [zstep, hd, zsP, zop2, zop2L, zop2S, zopd, zopdL, zldi, zldl, zlda, zsti, zstl, zsta, zcat1])
theorem V_lushr {x y : Int} (hd : decode M.1 pc = .ok (.lushr, 1)) (hq : pc + 1 = q) : V X call M pc ls (zi y :: zl x :: st) σ Q ↔ V X call M q ls (zl (zushr6 x y) :: st) σ Q := by
  subst hq
  exact V_st (by simp [zstep, hd, zsP, zop2, zop2L, zop2S, zopd, zopdL, zldi, zldl, zlda, zsti, zstl, zsta, zcat1])
theorem V_idiv {x y : Int} (hd : decode M.1 pc = .ok (.idiv, 1)) (hq : pc + 1 = q) : V X call M pc ls (zi y :: zi x :: st) σ Q ↔ ¬ y = 0 ∧ V X call M q ls (zi (zdiv3 x y) :: st) σ Q := by
  subst hq
  by_cases h : y = 0
  · rw [show (¬ y = 0 ∧ V X call M (pc + 1) ls (zi (zdiv3 x y) :: st) σ Q) = False by simp [h]]
    refine V_no ?_
    simp [zstep, hd, zsP, zopd, zopdL, zsH, zsR, zsK, h]
  · rw [V_st (show zstep X call M pc ls (zi y :: zi x :: st) σ = some (.inr (pc + 1, ls, zi (zdiv3 x y) :: st, σ)) by simp [zstep, hd, zsP, zopd, zopdL, h])]
    simp [h]
theorem V_irem {x y : Int} (hd : decode M.1 pc = .ok (.irem, 1)) (hq : pc + 1 = q) : V X call M pc ls (zi y :: zi x :: st) σ Q ↔ ¬ y = 0 ∧ V X call M q ls (zi (zrem3 x y) :: st) σ Q := by
  subst hq
  by_cases h : y = 0
  · rw [show (¬ y = 0 ∧ V X call M (pc + 1) ls (zi (zrem3 x y) :: st) σ Q) = False by simp [h]]
    refine V_no ?_
    simp [zstep, hd, zsP, zopd, zopdL, zsH, zsR, zsK, h]
  · rw [V_st (show zstep X call M pc ls (zi y :: zi x :: st) σ = some (.inr (pc + 1, ls, zi (zrem3 x y) :: st, σ)) by simp [zstep, hd, zsP, zopd, zopdL, h])]
    simp [h]
theorem V_ldiv {x y : Int} (hd : decode M.1 pc = .ok (.ldiv, 1)) (hq : pc + 1 = q) : V X call M pc ls (zl y :: zl x :: st) σ Q ↔ ¬ y = 0 ∧ V X call M q ls (zl (zdiv6 x y) :: st) σ Q := by
  subst hq
  by_cases h : y = 0
  · rw [show (¬ y = 0 ∧ V X call M (pc + 1) ls (zl (zdiv6 x y) :: st) σ Q) = False by simp [h]]
    refine V_no ?_
    simp [zstep, hd, zsP, zopd, zopdL, zsH, zsR, zsK, h]
  · rw [V_st (show zstep X call M pc ls (zl y :: zl x :: st) σ = some (.inr (pc + 1, ls, zl (zdiv6 x y) :: st, σ)) by simp [zstep, hd, zsP, zopd, zopdL, h])]
    simp [h]
theorem V_lrem {x y : Int} (hd : decode M.1 pc = .ok (.lrem, 1)) (hq : pc + 1 = q) : V X call M pc ls (zl y :: zl x :: st) σ Q ↔ ¬ y = 0 ∧ V X call M q ls (zl (zrem6 x y) :: st) σ Q := by
  subst hq
  by_cases h : y = 0
  · rw [show (¬ y = 0 ∧ V X call M (pc + 1) ls (zl (zrem6 x y) :: st) σ Q) = False by simp [h]]
    refine V_no ?_
    simp [zstep, hd, zsP, zopd, zopdL, zsH, zsR, zsK, h]
  · rw [V_st (show zstep X call M pc ls (zl y :: zl x :: st) σ = some (.inr (pc + 1, ls, zl (zrem6 x y) :: st, σ)) by simp [zstep, hd, zsP, zopd, zopdL, h])]
    simp [h]
theorem V_lcmp {x y : Int} (hd : decode M.1 pc = .ok (.lcmp, 1)) (hq : pc + 1 = q) : V X call M pc ls (zl y :: zl x :: st) σ Q ↔ V X call M q ls (zi (zcmpl x y) :: st) σ Q := by
  subst hq
  exact V_st (by simp [zstep, hd, zsP, zop2, zop2L, zop2S, zopd, zopdL, zldi, zldl, zlda, zsti, zstl, zsta, zcat1])
theorem V_i2l {x : Int} (hd : decode M.1 pc = .ok (.i2l, 1)) (hq : pc + 1 = q) : V X call M pc ls (zi x :: st) σ Q ↔ V X call M q ls (zl x :: st) σ Q := by
  subst hq
  exact V_st (by simp [zstep, hd, zsP, zop2, zop2L, zop2S, zopd, zopdL, zldi, zldl, zlda, zsti, zstl, zsta, zcat1])
theorem V_l2i {x : Int} (hd : decode M.1 pc = .ok (.l2i, 1)) (hq : pc + 1 = q) : V X call M pc ls (zl x :: st) σ Q ↔ V X call M q ls (zi (zw3 x) :: st) σ Q := by
  subst hq
  exact V_st (by simp [zstep, hd, zsP, zop2, zop2L, zop2S, zopd, zopdL, zldi, zldl, zlda, zsti, zstl, zsta, zcat1])
theorem V_i2b {x : Int} (hd : decode M.1 pc = .ok (.i2b, 1)) (hq : pc + 1 = q) : V X call M pc ls (zi x :: st) σ Q ↔ V X call M q ls (zi (zi2b x) :: st) σ Q := by
  subst hq
  exact V_st (by simp [zstep, hd, zsP, zop2, zop2L, zop2S, zopd, zopdL, zldi, zldl, zlda, zsti, zstl, zsta, zcat1])
theorem V_i2c {x : Int} (hd : decode M.1 pc = .ok (.i2c, 1)) (hq : pc + 1 = q) : V X call M pc ls (zi x :: st) σ Q ↔ V X call M q ls (zi (zi2c x) :: st) σ Q := by
  subst hq
  exact V_st (by simp [zstep, hd, zsP, zop2, zop2L, zop2S, zopd, zopdL, zldi, zldl, zlda, zsti, zstl, zsta, zcat1])
theorem V_dupI {x : Int} (hd : decode M.1 pc = .ok (.dup, 1)) (hq : pc + 1 = q) : V X call M pc ls (zi x :: st) σ Q ↔ V X call M q ls (zi x :: zi x :: st) σ Q := by
  subst hq
  exact V_st (by simp [zstep, hd, zsP, zop2, zop2L, zop2S, zopd, zopdL, zldi, zldl, zlda, zsti, zstl, zsta, zcat1])
theorem V_dupA {x : Option Nat} (hd : decode M.1 pc = .ok (.dup, 1)) (hq : pc + 1 = q) : V X call M pc ls (zr x :: st) σ Q ↔ V X call M q ls (zr x :: zr x :: st) σ Q := by
  subst hq
  exact V_st (by simp [zstep, hd, zsP, zop2, zop2L, zop2S, zopd, zopdL, zldi, zldl, zlda, zsti, zstl, zsta, zcat1])
theorem V_dup2 {x : Int} {y : Option Nat} (hd : decode M.1 pc = .ok (.dup2, 1)) (hq : pc + 1 = q) : V X call M pc ls (zi x :: zr y :: st) σ Q ↔ V X call M q ls (zi x :: zr y :: zi x :: zr y :: st) σ Q := by
  subst hq
  exact V_st (by simp [zstep, hd, zsP, zop2, zop2L, zop2S, zopd, zopdL, zldi, zldl, zlda, zsti, zstl, zsta, zcat1])
theorem V_pop {x : Int} (hd : decode M.1 pc = .ok (.pop, 1)) (hq : pc + 1 = q) : V X call M pc ls (zi x :: st) σ Q ↔ V X call M q ls st σ Q := by
  subst hq
  exact V_st (by simp [zstep, hd, zsP, zop2, zop2L, zop2S, zopd, zopdL, zldi, zldl, zlda, zsti, zstl, zsta, zcat1])
theorem V_goto {off : Int} (hd : decode M.1 pc = .ok (.goto off, 3)) (hq : (pc : Int) + off = (q : Int)) : V X call M pc ls st σ Q ↔ V X call M q ls st σ Q := by
  have h0 : 0 ≤ (pc : Int) + off := by omega
  have h1 : ((pc : Int) + off).toNat = q := by omega
  exact V_st (by simp [zstep, hd, zsP, zjmp, h0, h1])
theorem V_if_eq {x off : Int} (hd : decode M.1 pc = .ok (.ifCond .eq off, 3)) (hq : pc + 3 = q) (ht : (pc : Int) + off = (t : Int)) : V X call M pc ls (zi x :: st) σ Q ↔ (if x = 0 then V X call M t ls st σ Q else V X call M q ls st σ Q) := by
  subst hq
  have h0 : 0 ≤ (pc : Int) + off := by omega
  have h1 : ((pc : Int) + off).toNat = t := by omega
  rw [V_st (show zstep X call M pc ls (zi x :: st) σ = some (.inr ((if x = 0 then t else pc + 3), ls, st, σ)) by simp [zstep, hd, zsP, zjmp, zcmp, h0, h1])]
  split <;> rfl
theorem V_ic_eq {x y off : Int} (hd : decode M.1 pc = .ok (.if_icmp .eq off, 3)) (hq : pc + 3 = q) (ht : (pc : Int) + off = (t : Int)) : V X call M pc ls (zi y :: zi x :: st) σ Q ↔ (if x = y then V X call M t ls st σ Q else V X call M q ls st σ Q) := by
  subst hq
  have h0 : 0 ≤ (pc : Int) + off := by omega
  have h1 : ((pc : Int) + off).toNat = t := by omega
  rw [V_st (show zstep X call M pc ls (zi y :: zi x :: st) σ = some (.inr ((if x = y then t else pc + 3), ls, st, σ)) by simp [zstep, hd, zsP, zjmp, zcmp, h0, h1])]
  split <;> rfl
theorem V_if_ne {x off : Int} (hd : decode M.1 pc = .ok (.ifCond .ne off, 3)) (hq : pc + 3 = q) (ht : (pc : Int) + off = (t : Int)) : V X call M pc ls (zi x :: st) σ Q ↔ (if x ≠ 0 then V X call M t ls st σ Q else V X call M q ls st σ Q) := by
  subst hq
  have h0 : 0 ≤ (pc : Int) + off := by omega
  have h1 : ((pc : Int) + off).toNat = t := by omega
  rw [V_st (show zstep X call M pc ls (zi x :: st) σ = some (.inr ((if x ≠ 0 then t else pc + 3), ls, st, σ)) by simp [zstep, hd, zsP, zjmp, zcmp, h0, h1])]
  split <;> rfl
theorem V_ic_ne {x y off : Int} (hd : decode M.1 pc = .ok (.if_icmp .ne off, 3)) (hq : pc + 3 = q) (ht : (pc : Int) + off = (t : Int)) : V X call M pc ls (zi y :: zi x :: st) σ Q ↔ (if x ≠ y then V X call M t ls st σ Q else V X call M q ls st σ Q) := by
  subst hq
  have h0 : 0 ≤ (pc : Int) + off := by omega
  have h1 : ((pc : Int) + off).toNat = t := by omega
  rw [V_st (show zstep X call M pc ls (zi y :: zi x :: st) σ = some (.inr ((if x ≠ y then t else pc + 3), ls, st, σ)) by simp [zstep, hd, zsP, zjmp, zcmp, h0, h1])]
  split <;> rfl
theorem V_if_lt {x off : Int} (hd : decode M.1 pc = .ok (.ifCond .lt off, 3)) (hq : pc + 3 = q) (ht : (pc : Int) + off = (t : Int)) : V X call M pc ls (zi x :: st) σ Q ↔ (if x < 0 then V X call M t ls st σ Q else V X call M q ls st σ Q) := by
  subst hq
  have h0 : 0 ≤ (pc : Int) + off := by omega
  have h1 : ((pc : Int) + off).toNat = t := by omega
  rw [V_st (show zstep X call M pc ls (zi x :: st) σ = some (.inr ((if x < 0 then t else pc + 3), ls, st, σ)) by simp [zstep, hd, zsP, zjmp, zcmp, h0, h1])]
  split <;> rfl
theorem V_ic_lt {x y off : Int} (hd : decode M.1 pc = .ok (.if_icmp .lt off, 3)) (hq : pc + 3 = q) (ht : (pc : Int) + off = (t : Int)) : V X call M pc ls (zi y :: zi x :: st) σ Q ↔ (if x < y then V X call M t ls st σ Q else V X call M q ls st σ Q) := by
  subst hq
  have h0 : 0 ≤ (pc : Int) + off := by omega
  have h1 : ((pc : Int) + off).toNat = t := by omega
  rw [V_st (show zstep X call M pc ls (zi y :: zi x :: st) σ = some (.inr ((if x < y then t else pc + 3), ls, st, σ)) by simp [zstep, hd, zsP, zjmp, zcmp, h0, h1])]
  split <;> rfl
theorem V_if_ge {x off : Int} (hd : decode M.1 pc = .ok (.ifCond .ge off, 3)) (hq : pc + 3 = q) (ht : (pc : Int) + off = (t : Int)) : V X call M pc ls (zi x :: st) σ Q ↔ (if 0 ≤ x then V X call M t ls st σ Q else V X call M q ls st σ Q) := by
  subst hq
  have h0 : 0 ≤ (pc : Int) + off := by omega
  have h1 : ((pc : Int) + off).toNat = t := by omega
  rw [V_st (show zstep X call M pc ls (zi x :: st) σ = some (.inr ((if 0 ≤ x then t else pc + 3), ls, st, σ)) by simp [zstep, hd, zsP, zjmp, zcmp, h0, h1])]
  split <;> rfl
theorem V_ic_ge {x y off : Int} (hd : decode M.1 pc = .ok (.if_icmp .ge off, 3)) (hq : pc + 3 = q) (ht : (pc : Int) + off = (t : Int)) : V X call M pc ls (zi y :: zi x :: st) σ Q ↔ (if y ≤ x then V X call M t ls st σ Q else V X call M q ls st σ Q) := by
  subst hq
  have h0 : 0 ≤ (pc : Int) + off := by omega
  have h1 : ((pc : Int) + off).toNat = t := by omega
  rw [V_st (show zstep X call M pc ls (zi y :: zi x :: st) σ = some (.inr ((if y ≤ x then t else pc + 3), ls, st, σ)) by simp [zstep, hd, zsP, zjmp, zcmp, h0, h1])]
  split <;> rfl
theorem V_if_gt {x off : Int} (hd : decode M.1 pc = .ok (.ifCond .gt off, 3)) (hq : pc + 3 = q) (ht : (pc : Int) + off = (t : Int)) : V X call M pc ls (zi x :: st) σ Q ↔ (if 0 < x then V X call M t ls st σ Q else V X call M q ls st σ Q) := by
  subst hq
  have h0 : 0 ≤ (pc : Int) + off := by omega
  have h1 : ((pc : Int) + off).toNat = t := by omega
  rw [V_st (show zstep X call M pc ls (zi x :: st) σ = some (.inr ((if 0 < x then t else pc + 3), ls, st, σ)) by simp [zstep, hd, zsP, zjmp, zcmp, h0, h1])]
  split <;> rfl
theorem V_ic_gt {x y off : Int} (hd : decode M.1 pc = .ok (.if_icmp .gt off, 3)) (hq : pc + 3 = q) (ht : (pc : Int) + off = (t : Int)) : V X call M pc ls (zi y :: zi x :: st) σ Q ↔ (if y < x then V X call M t ls st σ Q else V X call M q ls st σ Q) := by
  subst hq
  have h0 : 0 ≤ (pc : Int) + off := by omega
  have h1 : ((pc : Int) + off).toNat = t := by omega
  rw [V_st (show zstep X call M pc ls (zi y :: zi x :: st) σ = some (.inr ((if y < x then t else pc + 3), ls, st, σ)) by simp [zstep, hd, zsP, zjmp, zcmp, h0, h1])]
  split <;> rfl
theorem V_if_le {x off : Int} (hd : decode M.1 pc = .ok (.ifCond .le off, 3)) (hq : pc + 3 = q) (ht : (pc : Int) + off = (t : Int)) : V X call M pc ls (zi x :: st) σ Q ↔ (if x ≤ 0 then V X call M t ls st σ Q else V X call M q ls st σ Q) := by
  subst hq
  have h0 : 0 ≤ (pc : Int) + off := by omega
  have h1 : ((pc : Int) + off).toNat = t := by omega
  rw [V_st (show zstep X call M pc ls (zi x :: st) σ = some (.inr ((if x ≤ 0 then t else pc + 3), ls, st, σ)) by simp [zstep, hd, zsP, zjmp, zcmp, h0, h1])]
  split <;> rfl
theorem V_ic_le {x y off : Int} (hd : decode M.1 pc = .ok (.if_icmp .le off, 3)) (hq : pc + 3 = q) (ht : (pc : Int) + off = (t : Int)) : V X call M pc ls (zi y :: zi x :: st) σ Q ↔ (if x ≤ y then V X call M t ls st σ Q else V X call M q ls st σ Q) := by
  subst hq
  have h0 : 0 ≤ (pc : Int) + off := by omega
  have h1 : ((pc : Int) + off).toNat = t := by omega
  rw [V_st (show zstep X call M pc ls (zi y :: zi x :: st) σ = some (.inr ((if x ≤ y then t else pc + 3), ls, st, σ)) by simp [zstep, hd, zsP, zjmp, zcmp, h0, h1])]
  split <;> rfl
theorem V_getI {ix ci f w a : Nat} (hd : decode M.1 pc = .ok (.getfield ix, 3)) (hl : zfl M.2.1 ix = some (ci, f, 0, w)) (hq : pc + 3 = q) : V X call M pc ls (zr (some a) :: st) (c, s, I, L, R) Q ↔ (zT a).1 = ci + 10 ∧ V X call M q ls (zi (I a f) :: st) (c, s, I, L, R) Q := by
  subst hq
  by_cases h : (zT a).1 = ci + 10
  · rw [V_st (show zstep X call M pc ls (zr (some a) :: st) (c, s, I, L, R) = some (.inr (pc + 3, ls, zi (I a f) :: st, (c, s, I, L, R))) by simp [zstep, hd, zsP, zsH, hl, h])]
    simp [h]
  · refine iff_of_false ?_ (fun z => h z.1)
    rw [V_no]
    · exact id
    · simp only [zstep, hd, zsP, zsH, hl, zsR, zsK]
      simp [h]
theorem V_getL {ix ci f w a : Nat} (hd : decode M.1 pc = .ok (.getfield ix, 3)) (hl : zfl M.2.1 ix = some (ci, f, 1, w)) (hq : pc + 3 = q) : V X call M pc ls (zr (some a) :: st) (c, s, I, L, R) Q ↔ (zT a).1 = ci + 10 ∧ V X call M q ls (zl (L a f) :: st) (c, s, I, L, R) Q := by
  subst hq
  by_cases h : (zT a).1 = ci + 10
  · rw [V_st (show zstep X call M pc ls (zr (some a) :: st) (c, s, I, L, R) = some (.inr (pc + 3, ls, zl (L a f) :: st, (c, s, I, L, R))) by simp [zstep, hd, zsP, zsH, hl, h])]
    simp [h]
  · refine iff_of_false ?_ (fun z => h z.1)
    rw [V_no]
    · exact id
    · simp only [zstep, hd, zsP, zsH, hl, zsR, zsK]
      simp [h]
theorem V_getR {ix ci f w a : Nat} (hd : decode M.1 pc = .ok (.getfield ix, 3)) (hl : zfl M.2.1 ix = some (ci, f, 2, w)) (hq : pc + 3 = q) : V X call M pc ls (zr (some a) :: st) (c, s, I, L, R) Q ↔ (zT a).1 = ci + 10 ∧ V X call M q ls (zr (R a f) :: st) (c, s, I, L, R) Q := by
  subst hq
  by_cases h : (zT a).1 = ci + 10
  · rw [V_st (show zstep X call M pc ls (zr (some a) :: st) (c, s, I, L, R) = some (.inr (pc + 3, ls, zr (R a f) :: st, (c, s, I, L, R))) by simp [zstep, hd, zsP, zsH, hl, h])]
    simp [h]
  · refine iff_of_false ?_ (fun z => h z.1)
    rw [V_no]
    · exact id
    · simp only [zstep, hd, zsP, zsH, hl, zsR, zsK]
      simp [h]
theorem V_putI {ix ci f w a : Nat} {x : Int} (hd : decode M.1 pc = .ok (.putfield ix, 3)) (hl : zfl M.2.1 ix = some (ci, f, 0, w)) (hw : w < 10 ∨ (M.2.2 = 9 ∧ M.2.1 = ci)) (hq : pc + 3 = q) : V X call M pc ls (zi x :: zr (some a) :: st) (c, s, I, L, R) Q ↔ ((zT a).1 = ci + 10 ∧ zok (w % 10) x = true) ∧ V X call M q ls st (c, s, zu I a f x, L, R) Q := by
  subst hq
  by_cases h : (zT a).1 = ci + 10 ∧ zok (w % 10) x = true
  · rw [V_st (show zstep X call M pc ls (zi x :: zr (some a) :: st) (c, s, I, L, R) = some (.inr (pc + 3, ls, st, (c, s, zu I a f x, L, R))) by simp [zstep, hd, zsP, zsH, hl, hw, h])]
    simp [h]
  · refine iff_of_false ?_ (fun z => h z.1)
    rw [V_no]
    · exact id
    · simp only [zstep, hd, zsP, zsH, hl, zsR, zsK]
      simp [hw]
      rw [if_neg h]
theorem V_putL {ix ci f w a : Nat} {x : Int} (hd : decode M.1 pc = .ok (.putfield ix, 3)) (hl : zfl M.2.1 ix = some (ci, f, 1, w)) (hw : w < 10 ∨ (M.2.2 = 9 ∧ M.2.1 = ci)) (hq : pc + 3 = q) : V X call M pc ls (zl x :: zr (some a) :: st) (c, s, I, L, R) Q ↔ ((zT a).1 = ci + 10) ∧ V X call M q ls st (c, s, I, zu L a f x, R) Q := by
  subst hq
  by_cases h : (zT a).1 = ci + 10
  · rw [V_st (show zstep X call M pc ls (zl x :: zr (some a) :: st) (c, s, I, L, R) = some (.inr (pc + 3, ls, st, (c, s, I, zu L a f x, R))) by simp [zstep, hd, zsP, zsH, hl, hw, h])]
    simp [h]
  · refine iff_of_false ?_ (fun z => h z.1)
    rw [V_no]
    · exact id
    · simp only [zstep, hd, zsP, zsH, hl, zsR, zsK]
      simp [hw]
      rw [if_neg h]
theorem V_putR {ix ci f w a : Nat} {x : Option Nat} (hd : decode M.1 pc = .ok (.putfield ix, 3)) (hl : zfl M.2.1 ix = some (ci, f, 2, w)) (hw : w < 10 ∨ (M.2.2 = 9 ∧ M.2.1 = ci)) (hq : pc + 3 = q) : V X call M pc ls (zr x :: zr (some a) :: st) (c, s, I, L, R) Q ↔ ((zT a).1 = ci + 10) ∧ V X call M q ls st (c, s, I, L, zu R a f x) Q := by
  subst hq
  by_cases h : (zT a).1 = ci + 10
  · rw [V_st (show zstep X call M pc ls (zr x :: zr (some a) :: st) (c, s, I, L, R) = some (.inr (pc + 3, ls, st, (c, s, I, L, zu R a f x))) by simp [zstep, hd, zsP, zsH, hl, hw, h])]
    simp [h]
  · refine iff_of_false ?_ (fun z => h z.1)
    rw [V_no]
    · exact id
    · simp only [zstep, hd, zsP, zsH, hl, zsR, zsK]
      simp [hw]
      rw [if_neg h]
theorem V_iaload {j : Int} {a : Nat} (hd : decode M.1 pc = .ok (.iaload, 1)) (hq : pc + 1 = q) : V X call M pc ls (zi j :: zr (some a) :: st) (c, s, I, L, R) Q ↔ ((zT a).1 = 1 ∧ 0 ≤ j ∧ j < ((zT a).2 : Int)) ∧ V X call M q ls (zi (I a j.toNat) :: st) (c, s, I, L, R) Q := by
  subst hq
  by_cases h : (zT a).1 = 1 ∧ 0 ≤ j ∧ j < ((zT a).2 : Int)
  · rw [V_st (show zstep X call M pc ls (zi j :: zr (some a) :: st) (c, s, I, L, R) = some (.inr (pc + 1, ls, (zi (I a j.toNat) :: st), (c, s, I, L, R))) by simp [zstep, hd, zsP, zsH, h])]
    simp [h]
  · refine iff_of_false ?_ (fun z => h z.1)
    rw [V_no]
    · exact id
    · simp only [zstep, hd, zsP, zsH, zsR, zsK]
      simp
      rw [if_neg h]
theorem V_saload {j : Int} (hd : decode M.1 pc = .ok (.iaload, 1)) (hq : pc + 1 = q) : V X call M pc ls (zi j :: zx 1 :: st) (c, s, I, L, R) Q ↔ (0 ≤ j ∧ j < (X.1 : Int)) ∧ V X call M q ls (zi (X.2 j.toNat) :: st) (c, s, I, L, R) Q := by
  subst hq
  by_cases h : 0 ≤ j ∧ j < (X.1 : Int)
  · rw [V_st (show zstep X call M pc ls (zi j :: zx 1 :: st) (c, s, I, L, R) = some (.inr (pc + 1, ls, (zi (X.2 j.toNat) :: st), (c, s, I, L, R))) by simp [zstep, hd, zsP, zsH, h])]
    simp [h]
  · refine iff_of_false ?_ (fun z => h z.1)
    rw [V_no]
    · exact id
    · simp only [zstep, hd, zsP, zsH, zsR, zsK]
      simp
      rw [if_neg h]
theorem V_laload {j : Int} {a : Nat} (hd : decode M.1 pc = .ok (.laload, 1)) (hq : pc + 1 = q) : V X call M pc ls (zi j :: zr (some a) :: st) (c, s, I, L, R) Q ↔ ((zT a).1 = 2 ∧ 0 ≤ j ∧ j < ((zT a).2 : Int)) ∧ V X call M q ls (zl (L a j.toNat) :: st) (c, s, I, L, R) Q := by
  subst hq
  by_cases h : (zT a).1 = 2 ∧ 0 ≤ j ∧ j < ((zT a).2 : Int)
  · rw [V_st (show zstep X call M pc ls (zi j :: zr (some a) :: st) (c, s, I, L, R) = some (.inr (pc + 1, ls, (zl (L a j.toNat) :: st), (c, s, I, L, R))) by simp [zstep, hd, zsP, zsH, h])]
    simp [h]
  · refine iff_of_false ?_ (fun z => h z.1)
    rw [V_no]
    · exact id
    · simp only [zstep, hd, zsP, zsH, zsR, zsK]
      simp
      rw [if_neg h]
theorem V_baload {j : Int} {a : Nat} (hd : decode M.1 pc = .ok (.baload, 1)) (hq : pc + 1 = q) : V X call M pc ls (zi j :: zr (some a) :: st) (c, s, I, L, R) Q ↔ (((zT a).1 = 3 ∨ (zT a).1 = 4) ∧ 0 ≤ j ∧ j < ((zT a).2 : Int)) ∧ V X call M q ls (zi (I a j.toNat) :: st) (c, s, I, L, R) Q := by
  subst hq
  by_cases h : ((zT a).1 = 3 ∨ (zT a).1 = 4) ∧ 0 ≤ j ∧ j < ((zT a).2 : Int)
  · rw [V_st (show zstep X call M pc ls (zi j :: zr (some a) :: st) (c, s, I, L, R) = some (.inr (pc + 1, ls, (zi (I a j.toNat) :: st), (c, s, I, L, R))) by simp [zstep, hd, zsP, zsH, h])]
    simp [h]
  · refine iff_of_false ?_ (fun z => h z.1)
    rw [V_no]
    · exact id
    · simp only [zstep, hd, zsP, zsH, zsR, zsK]
      simp
      rw [if_neg h]
theorem V_taload {j : Int} {e : Nat} (hd : decode M.1 pc = .ok (.baload, 1)) (hq : pc + 1 = q) : V X call M pc ls (zi j :: zx e :: st) (c, s, I, L, R) Q ↔ (22 ≤ e ∧ e < 29 ∧ 0 ≤ j ∧ j < ((zstr (e - 22)).length : Int)) ∧ V X call M q ls (zi ((zstr (e - 22)).getD j.toNat 0) :: st) (c, s, I, L, R) Q := by
  subst hq
  by_cases h : 22 ≤ e ∧ e < 29 ∧ 0 ≤ j ∧ j < ((zstr (e - 22)).length : Int)
  · rw [V_st (show zstep X call M pc ls (zi j :: zx e :: st) (c, s, I, L, R) = some (.inr (pc + 1, ls, (zi ((zstr (e - 22)).getD j.toNat 0) :: st), (c, s, I, L, R))) by simp [zstep, hd, zsP, zsH, h])]
    simp [h]
  · refine iff_of_false ?_ (fun z => h z.1)
    rw [V_no]
    · exact id
    · simp only [zstep, hd, zsP, zsH, zsR, zsK]
      simp
      rw [if_neg h]
theorem V_aaload {j : Int} {a : Nat} (hd : decode M.1 pc = .ok (.aaload, 1)) (hq : pc + 1 = q) : V X call M pc ls (zi j :: zr (some a) :: st) (c, s, I, L, R) Q ↔ (5 ≤ (zT a).1 ∧ (zT a).1 < 8 ∧ 0 ≤ j ∧ j < ((zT a).2 : Int)) ∧ V X call M q ls (zr (R a j.toNat) :: st) (c, s, I, L, R) Q := by
  subst hq
  by_cases h : 5 ≤ (zT a).1 ∧ (zT a).1 < 8 ∧ 0 ≤ j ∧ j < ((zT a).2 : Int)
  · rw [V_st (show zstep X call M pc ls (zi j :: zr (some a) :: st) (c, s, I, L, R) = some (.inr (pc + 1, ls, (zr (R a j.toNat) :: st), (c, s, I, L, R))) by simp [zstep, hd, zsP, zsH, h])]
    simp [h]
  · refine iff_of_false ?_ (fun z => h z.1)
    rw [V_no]
    · exact id
    · simp only [zstep, hd, zsP, zsH, zsR, zsK]
      simp
      rw [if_neg h]
theorem V_iastore {x j : Int} {a : Nat} (hd : decode M.1 pc = .ok (.iastore, 1)) (hq : pc + 1 = q) : V X call M pc ls (zi x :: zi j :: zr (some a) :: st) (c, s, I, L, R) Q ↔ ((zT a).1 = 1 ∧ 0 ≤ j ∧ j < ((zT a).2 : Int)) ∧ V X call M q ls st (c, s, zu I a j.toNat x, L, R) Q := by
  subst hq
  by_cases h : (zT a).1 = 1 ∧ 0 ≤ j ∧ j < ((zT a).2 : Int)
  · rw [V_st (show zstep X call M pc ls (zi x :: zi j :: zr (some a) :: st) (c, s, I, L, R) = some (.inr (pc + 1, ls, st, (c, s, zu I a j.toNat x, L, R))) by simp [zstep, hd, zsP, zsH, h])]
    simp [h]
  · refine iff_of_false ?_ (fun z => h z.1)
    rw [V_no]
    · exact id
    · simp only [zstep, hd, zsP, zsH, zsR, zsK]
      simp
      rw [if_neg h]
theorem V_lastore {x j : Int} {a : Nat} (hd : decode M.1 pc = .ok (.lastore, 1)) (hq : pc + 1 = q) : V X call M pc ls (zl x :: zi j :: zr (some a) :: st) (c, s, I, L, R) Q ↔ ((zT a).1 = 2 ∧ 0 ≤ j ∧ j < ((zT a).2 : Int)) ∧ V X call M q ls st (c, s, I, zu L a j.toNat x, R) Q := by
  subst hq
  by_cases h : (zT a).1 = 2 ∧ 0 ≤ j ∧ j < ((zT a).2 : Int)
  · rw [V_st (show zstep X call M pc ls (zl x :: zi j :: zr (some a) :: st) (c, s, I, L, R) = some (.inr (pc + 1, ls, st, (c, s, I, zu L a j.toNat x, R))) by simp [zstep, hd, zsP, zsH, h])]
    simp [h]
  · refine iff_of_false ?_ (fun z => h z.1)
    rw [V_no]
    · exact id
    · simp only [zstep, hd, zsP, zsH, zsR, zsK]
      simp
      rw [if_neg h]
theorem V_bastore {x j : Int} {a : Nat} (hd : decode M.1 pc = .ok (.bastore, 1)) (hq : pc + 1 = q) : V X call M pc ls (zi x :: zi j :: zr (some a) :: st) (c, s, I, L, R) Q ↔ ((((zT a).1 = 3 ∧ zok 4 x = true) ∨ ((zT a).1 = 4 ∧ zok 2 x = true)) ∧ 0 ≤ j ∧ j < ((zT a).2 : Int)) ∧ V X call M q ls st (c, s, zu I a j.toNat x, L, R) Q := by
  subst hq
  by_cases h : (((zT a).1 = 3 ∧ zok 4 x = true) ∨ ((zT a).1 = 4 ∧ zok 2 x = true)) ∧ 0 ≤ j ∧ j < ((zT a).2 : Int)
  · rw [V_st (show zstep X call M pc ls (zi x :: zi j :: zr (some a) :: st) (c, s, I, L, R) = some (.inr (pc + 1, ls, st, (c, s, zu I a j.toNat x, L, R))) by simp [zstep, hd, zsP, zsH, h])]
    simp [h]
  · refine iff_of_false ?_ (fun z => h z.1)
    rw [V_no]
    · exact id
    · simp only [zstep, hd, zsP, zsH, zsR, zsK]
      simp
      rw [if_neg h]
theorem V_aastore {j : Int} {a b : Nat} (hd : decode M.1 pc = .ok (.aastore, 1)) (hq : pc + 1 = q) : V X call M pc ls (zr (some b) :: zi j :: zr (some a) :: st) (c, s, I, L, R) Q ↔ ((((zT a).1 = 5 ∧ (zT b).1 = 15) ∨ ((zT a).1 = 6 ∧ (zT b).1 = 19)) ∧ 0 ≤ j ∧ j < ((zT a).2 : Int)) ∧ V X call M q ls st (c, s, I, L, zu R a j.toNat (some b)) Q := by
  subst hq
  by_cases h : (((zT a).1 = 5 ∧ (zT b).1 = 15) ∨ ((zT a).1 = 6 ∧ (zT b).1 = 19)) ∧ 0 ≤ j ∧ j < ((zT a).2 : Int)
  · rw [V_st (show zstep X call M pc ls (zr (some b) :: zi j :: zr (some a) :: st) (c, s, I, L, R) = some (.inr (pc + 1, ls, st, (c, s, I, L, zu R a j.toNat (some b)))) by simp [zstep, hd, zsP, zsH, h])]
    simp [h]
  · refine iff_of_false ?_ (fun z => h z.1)
    rw [V_no]
    · exact id
    · simp only [zstep, hd, zsP, zsH, zsR, zsK]
      simp
      rw [if_neg h]
end
