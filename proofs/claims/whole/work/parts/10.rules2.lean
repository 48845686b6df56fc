/-! More rules: lengths, constants, switches, new cells, calls, ends; and what a run is. -/
theorem zok_1 {x : Int} : zok 1 x = true := rfl
theorem zcats_nil : zcats [] = 0 := rfl
theorem zcats_i {x : Int} {r : List ZV} : zcats (.inl x :: r) = 1 + zcats r := rfl
theorem zcats_l {x : Int} {r : List ZV} : zcats (.inr (.inl x) :: r) = 2 + zcats r := rfl
theorem zcats_r {x : Option Nat} {r : List ZV} : zcats (.inr (.inr (.inl x)) :: r) = 1 + zcats r := rfl
theorem zcats_x {x : Nat} {r : List ZV} : zcats (.inr (.inr (.inr x)) :: r) = 1 + zcats r := rfl
section
variable {X : ZX} {call : ZC} {M : ZM} {pc q t : Nat} {ls st : List ZV} {σ : ZS} {Q : Option ZV × ZS → Prop} {c s : Nat} {I L : ZI} {R : ZR}
theorem V_alen {a n : Nat} (hd : decode M.1 pc = .ok (.arraylength, 1)) (hq : pc + 1 = q) : V X call M pc ls (zr (some a) :: st) (c, s, I, L, R) Q ↔ ((zT a).1 < 10 ∧ 1 ≤ (zT a).1) ∧ V X call M q ls (zi ((zT a).2 : Int) :: st) (c, s, I, L, R) Q := by
  subst hq
  by_cases h : (zT a).1 < 10 ∧ 1 ≤ (zT a).1
  · rw [V_st (show zstep X call M pc ls (zr (some a) :: st) (c, s, I, L, R) = some (.inr (pc + 1, ls, zi ((zT a).2 : Int) :: st, (c, s, I, L, R))) by simp [zstep, hd, zsP, zsH, zalen, h])]
    simp [h]
  · refine iff_of_false ?_ (fun z => h z.1)
    rw [V_no]
    · exact id
    · simp only [zstep, hd, zsP, zsH, zalen, zsR, zsK]
      rw [if_neg h]
theorem V_slen (hd : decode M.1 pc = .ok (.arraylength, 1)) (hq : pc + 1 = q) : V X call M pc ls (zx 1 :: st) (c, s, I, L, R) Q ↔ V X call M q ls (zi (X.1 : Int) :: st) (c, s, I, L, R) Q := by
  subst hq
  exact V_st (by simp [zstep, hd, zsP, zsH, zalen])
theorem V_tlen {e : Nat} (hd : decode M.1 pc = .ok (.arraylength, 1)) (hq : pc + 1 = q) (he : 22 ≤ e ∧ e < 29) : V X call M pc ls (zx e :: st) (c, s, I, L, R) Q ↔ V X call M q ls (zi ((zstr (e - 22)).length : Int) :: st) (c, s, I, L, R) Q := by
  subst hq
  exact V_st (by simp [zstep, hd, zsP, zsH, zalen, he, show ¬ e = 1 by omega])
theorem V_tval {ix ci w e : Nat} (hd : decode M.1 pc = .ok (.getfield ix, 3)) (hl : zfl M.2.1 ix = some (ci, 0, 3, w)) (hq : pc + 3 = q) (he : 2 ≤ e ∧ e < 9) : V X call M pc ls (zx e :: st) (c, s, I, L, R) Q ↔ V X call M q ls (zx (e + 20) :: st) (c, s, I, L, R) Q := by
  subst hq
  exact V_st (by simp [zstep, hd, zsP, zsH, hl, he])
theorem V_tcod {ix ci f w e : Nat} (hd : decode M.1 pc = .ok (.getfield ix, 3)) (hl : zfl M.2.1 ix = some (ci, f + 1, 3, w)) (hq : pc + 3 = q) (he : 2 ≤ e ∧ e < 9) : V X call M pc ls (zx e :: st) (c, s, I, L, R) Q ↔ V X call M q ls (zi 0 :: st) (c, s, I, L, R) Q := by
  subst hq
  exact V_st (by simp [zstep, hd, zsP, zsH, hl, he])
theorem V_ldcI {ix : Nat} {x : Int} (hd : decode M.1 pc = .ok (.ldc ix, 2)) (hl : zcl M.2.1 ix = some (zi x)) (hq : pc + 2 = q) : V X call M pc ls st (c, s, I, L, R) Q ↔ V X call M q ls (zi x :: st) (c, s, I, L, R) Q := by
  subst hq
  exact V_st (by simp [zstep, hd, zsP, zsH, hl])
theorem V_ldcT {ix e : Nat} (hd : decode M.1 pc = .ok (.ldc ix, 2)) (hl : zcl M.2.1 ix = some (zx e)) (he : 2 ≤ e ∧ e < 9) (hq : pc + 2 = q) : V X call M pc ls st (c, s, I, L, R) Q ↔ V X call M q ls (zx e :: st) (c, s, I, L, R) Q := by
  subst hq
  exact V_st (by simp [zstep, hd, zsP, zsH, hl, he])
theorem V_ldc2 {ix : Nat} {x : Int} (hd : decode M.1 pc = .ok (.ldc2_w ix, 3)) (hl : zcl M.2.1 ix = some (zl x)) (hq : pc + 3 = q) : V X call M pc ls st (c, s, I, L, R) Q ↔ V X call M q ls (zl x :: st) (c, s, I, L, R) Q := by
  subst hq
  exact V_st (by simp [zstep, hd, zsP, zsH, hl])
theorem V_gsI (hd : decode M.1 pc = .ok (.getstatic 38, 3)) (hm : M.2.1 = 14) (hq : pc + 3 = q) : V X call M pc ls st (c, s, I, L, R) Q ↔ V X call M q ls (zi 1 :: st) (c, s, I, L, R) Q := by
  subst hq
  exact V_st (by simp [zstep, hd, zsP, zsH, hm])
theorem V_gsR (hd : decode M.1 pc = .ok (.getstatic 1053, 3)) (hm : M.2.1 = 14) (hq : pc + 3 = q) : V X call M pc ls st (c, s, I, L, R) Q ↔ V X call M q ls (zx 50 :: st) (c, s, I, L, R) Q := by
  subst hq
  exact V_st (by simp [zstep, hd, zsP, zsH, hm])
/-- a table switch: outside, and inside -/
theorem V_swO {x d lo hi : Int} {offs : Array Int} {k : Nat} (hd : decode M.1 pc = .ok (.tableswitch d lo hi offs, k)) (h : x < lo ∨ hi < x) (ht : (pc : Int) + d = (t : Int)) : V X call M pc ls (zi x :: st) σ Q ↔ V X call M t ls st σ Q := by
  have h0 : 0 ≤ (pc : Int) + d := by omega
  have h1 : ((pc : Int) + d).toNat = t := by omega
  exact V_st (by simp [zstep, hd, zsP, h, h0, h1])
theorem V_swI {x d lo hi o : Int} {offs : Array Int} {k : Nat} (hd : decode M.1 pc = .ok (.tableswitch d lo hi offs, k)) (h1 : ¬ x < lo) (h2 : ¬ hi < x) (ho : offs[(x - lo).toNat]? = some o) (ht : (pc : Int) + o = (t : Int)) : V X call M pc ls (zi x :: st) σ Q ↔ V X call M t ls st σ Q := by
  have h0 : 0 ≤ (pc : Int) + o := by omega
  have h3 : ((pc : Int) + o).toNat = t := by omega
  exact V_st (by simp [zstep, hd, zsP, show ¬ (x < lo ∨ hi < x) by omega, ho, h0, h3])
theorem V_look {x d o : Int} {ps : Array (Int × Int)} {k : Nat} (hd : decode M.1 pc = .ok (.lookupswitch d ps, k)) (hp : (ps.toList.zip (ps.toList.drop 1)).all (fun (a, next) => a.1 < next.1) = true) (ho : Op.lookupswitch.offset ps.toList d x = o) (ht : (pc : Int) + o = (t : Int)) : V X call M pc ls (zi x :: st) σ Q ↔ V X call M t ls st σ Q := by
  have h0 : 0 ≤ (pc : Int) + o := by omega
  have h3 : ((pc : Int) + o).toNat = t := by omega
  have hz : zsP (.lookupswitch d ps) k pc ls (zi x :: st) = some (t, ls, st) := by
    simp only [zsP]
    rw [if_pos ⟨hp, by rw [ho]; exact h0⟩, ho, h3]
  exact V_st (by simp only [zstep, hd, hz])
theorem V_new {ix ci n : Nat} (hd : decode M.1 pc = .ok (.new ix, 3)) (hl : znl M.2.1 ix = some ci) (h13 : ci < 13) (hn : zfn ci = n) (hq : pc + 3 = q) : V X call M pc ls st (c, s, I, L, R) Q ↔ zT c = (ci + 10, n) ∧ V X call M q ls (zr (some c) :: st) (c + 1, s + n, I, L, R) Q := by
  subst hq; subst hn
  by_cases h : zT c = (ci + 10, zfn ci)
  · rw [V_st (show zstep X call M pc ls st (c, s, I, L, R) = some (.inr (pc + 3, ls, zr (some c) :: st, (c + 1, s + zfn ci, I, L, R))) by simp [zstep, hd, zsP, zsH, zsR, zsK, hl, h13, h])]
    simp [h]
  · refine iff_of_false ?_ (fun z => h z.1)
    rw [V_no]
    · exact id
    · simp only [zstep, hd, zsP, zsH, zsR, zsK, hl]
      simp [h]
theorem V_newa {n : Int} {ty : ArrayType} (hd : decode M.1 pc = .ok (.newarray ty, 2)) (hn : 0 ≤ n ∧ n ≤ 100000) (h1 : 1 ≤ znew ty) (hq : pc + 2 = q) : V X call M pc ls (zi n :: st) (c, s, I, L, R) Q ↔ zT c = (znew ty, n.toNat) ∧ V X call M q ls (zr (some c) :: st) (c + 1, s + n.toNat, I, L, R) Q := by
  subst hq
  by_cases h : zT c = (znew ty, n.toNat)
  · rw [V_st (show zstep X call M pc ls (zi n :: st) (c, s, I, L, R) = some (.inr (pc + 2, ls, zr (some c) :: st, (c + 1, s + n.toNat, I, L, R))) by simp [zstep, hd, zsP, zsH, zsR, zsK, hn, h1, h])]
    simp [h]
  · refine iff_of_false ?_ (fun z => h z.1)
    rw [V_no]
    · exact id
    · simp only [zstep, hd, zsP, zsH, zsR, zsK]
      simp [h]
theorem V_anew {ix ci w : Nat} {n : Int} (hd : decode M.1 pc = .ok (.anewarray ix, 3)) (hl : znl M.2.1 ix = some ci) (hn : 0 ≤ n ∧ n ≤ 100000) (hc : (ci = 5 ∧ w = 5) ∨ (ci = 9 ∧ w = 6)) (hq : pc + 3 = q) : V X call M pc ls (zi n :: st) (c, s, I, L, R) Q ↔ zT c = (w, n.toNat) ∧ V X call M q ls (zr (some c) :: st) (c + 1, s + n.toNat, I, L, R) Q := by
  subst hq
  by_cases h : zT c = (w, n.toNat)
  · rw [V_st (show zstep X call M pc ls (zi n :: st) (c, s, I, L, R) = some (.inr (pc + 3, ls, zr (some c) :: st, (c + 1, s + n.toNat, I, L, R))) by rcases hc with ⟨rfl, rfl⟩ | ⟨rfl, rfl⟩ <;> simp [zstep, hd, zsP, zsH, zsR, zsK, hl, hn, h])]
    simp [h]
  · refine iff_of_false ?_ (fun z => h z.1)
    rw [V_no]
    · exact id
    · rcases hc with ⟨rfl, rfl⟩ | ⟨rfl, rfl⟩ <;> (simp only [zstep, hd, zsP, zsH, zsR, zsK, hl]; simp [h])
theorem V_mnew {n m : Int} (hd : decode M.1 pc = .ok (.multianewarray 11 2, 4)) (hm : M.2.1 = 2) (hn : 0 ≤ n ∧ n ≤ 1000) (hk : 0 ≤ m ∧ m ≤ 1000) (hq : pc + 4 = q) : V X call M pc ls (zi m :: zi n :: st) (c, s, I, L, R) Q ↔ (zT c = (7, n.toNat) ∧ ∀ j, j < n.toNat → zT (c + 1 + j) = (2, m.toNat)) ∧ V X call M q ls (zr (some c) :: st) (c + 1 + n.toNat, s + n.toNat + n.toNat * m.toNat, I, L, fun b j => if b = c ∧ j < n.toNat then some (c + 1 + j) else R b j) Q := by
  subst hq
  by_cases h : zT c = (7, n.toNat) ∧ ∀ j, j < n.toNat → zT (c + 1 + j) = (2, m.toNat)
  · have hz : zsK call M.2.1 (.multianewarray 11 2) 4 pc ls (zi m :: zi n :: st) (c, s, I, L, R) = some (pc + 4, ls, zr (some c) :: st, (c + 1 + n.toNat, s + n.toNat + n.toNat * m.toNat, I, L, fun b j => if b = c ∧ j < n.toNat then some (c + 1 + j) else R b j)) := by
      simp only [zsK]
      rw [if_pos ⟨trivial, trivial, hm, trivial, hn.1, hn.2, hk.1, hk.2, h.1, h.2⟩]
    rw [V_st (show zstep X call M pc ls (zi m :: zi n :: st) (c, s, I, L, R) = some (.inr (pc + 4, ls, zr (some c) :: st, (c + 1 + n.toNat, s + n.toNat + n.toNat * m.toNat, I, L, fun b j => if b = c ∧ j < n.toNat then some (c + 1 + j) else R b j))) by simp only [zstep, hd, zsP, zsH, zsR, hz])]
    exact ⟨fun z => ⟨h, z⟩, fun z => z.2⟩
  · refine iff_of_false ?_ (fun z => h z.1)
    rw [V_no]
    · exact id
    · have hz : zsK call M.2.1 (.multianewarray 11 2) 4 pc ls (zi m :: zi n :: st) (c, s, I, L, R) = none := by
        simp only [zsK]
        rw [if_neg (fun z => h ⟨z.2.2.2.2.2.2.2.2.1, z.2.2.2.2.2.2.2.2.2⟩)]
      simp only [zstep, hd, zsP, zsH, zsR, hz]
theorem V_ret (hd : decode M.1 pc = .ok (.return_, 1)) (hk : M.2.2 = 0 ∨ M.2.2 = 9) : V X call M pc ls [] σ Q ↔ Q (none, σ) := V_en (by simp [zstep, hd, zsP, zsH, zsR, hk])
theorem V_iret {x : Int} {k : Nat} (hd : decode M.1 pc = .ok (.ireturn, 1)) (hk : M.2.2 = k) (h1 : 1 ≤ k ∧ k ≤ 4) : V X call M pc ls [zi x] σ Q ↔ zok k x = true ∧ Q (some (zi x), σ) := by
  subst hk
  by_cases h : zok M.2.2 x = true
  · rw [V_en (show zstep X call M pc ls [zi x] σ = some (.inl (some (zi x), σ)) by simp [zstep, hd, zsP, zsH, zsR, h1, h])]
    simp [h]
  · refine iff_of_false ?_ (fun z => h z.1)
    rw [V_no]
    · exact id
    · simp [zstep, hd, zsP, zsH, zsR, zsK, h]
theorem V_lret {x : Int} (hd : decode M.1 pc = .ok (.lreturn, 1)) (hk : M.2.2 = 5) : V X call M pc ls [zl x] σ Q ↔ Q (some (zl x), σ) := V_en (by simp [zstep, hd, zsP, zsH, zsR, hk])
theorem V_aret {x : Option Nat} (hd : decode M.1 pc = .ok (.areturn, 1)) (hk : M.2.2 = 6) : V X call M pc ls [zr x] σ Q ↔ Q (some (zr x), σ) := V_en (by simp [zstep, hd, zsP, zsH, zsR, hk])
theorem V_obj {a ix μ n : Nat} (hd : decode M.1 pc = .ok (.invokespecial ix, 3)) (hl : zml M.2.1 ix = some (3, μ, n)) (hq : pc + 3 = q) : V X call M pc ls (zr (some a) :: st) σ Q ↔ zcats st ≤ 8 ∧ V X call M q ls st σ Q := by
  subst hq
  by_cases h : zcats st ≤ 8
  · rw [V_st (show zstep X call M pc ls (zr (some a) :: st) σ = some (.inr (pc + 3, ls, st, σ)) by simp [zstep, hd, zsP, zsH, zsR, zsK, hl, h])]
    simp [h]
  · refine iff_of_false ?_ (fun z => h z.1)
    rw [V_no]
    · exact id
    · simp [zstep, hd, zsP, zsH, zsR, zsK, hl, h]
theorem V_acpy {ix μ n a b : Nat} {k dp sp : Int} (hd : decode M.1 pc = .ok (.invokestatic ix, 3)) (hl : zml M.2.1 ix = some (5, μ, n)) (hq : pc + 3 = q) : V X call M pc ls (zi k :: zi dp :: zr (some b) :: zi sp :: zr (some a) :: st) (c, s, I, L, R) Q ↔ ((zT a).1 = 1 ∧ (zT b).1 = 1 ∧ 0 ≤ sp ∧ 0 ≤ dp ∧ 0 ≤ k ∧ sp + k ≤ ((zT a).2 : Int) ∧ dp + k ≤ ((zT b).2 : Int) ∧ zcats st ≤ 8 ∧ a ≠ b) ∧ V X call M q ls st (c, s, zcpy I a sp.toNat b dp.toNat k.toNat, L, R) Q := by
  subst hq
  by_cases h : (zT a).1 = 1 ∧ (zT b).1 = 1 ∧ 0 ≤ sp ∧ 0 ≤ dp ∧ 0 ≤ k ∧ sp + k ≤ ((zT a).2 : Int) ∧ dp + k ≤ ((zT b).2 : Int) ∧ zcats st ≤ 8 ∧ a ≠ b
  · have hz : zsK call M.2.1 (.invokestatic ix) 3 pc ls (zi k :: zi dp :: zr (some b) :: zi sp :: zr (some a) :: st) (c, s, I, L, R) = some (pc + 3, ls, st, (c, s, zcpy I a sp.toNat b dp.toNat k.toNat, L, R)) := by
      simp only [zsK, hl]
      rw [if_neg (by omega), if_pos (by simp), if_pos h]
    rw [V_st (show zstep X call M pc ls (zi k :: zi dp :: zr (some b) :: zi sp :: zr (some a) :: st) (c, s, I, L, R) = some (.inr (pc + 3, ls, st, (c, s, zcpy I a sp.toNat b dp.toNat k.toNat, L, R))) by simp only [zstep, hd, zsP, zsH, zsR, hz])]
    exact ⟨fun z => ⟨h, z⟩, fun z => z.2⟩
  · refine iff_of_false ?_ (fun z => h z.1)
    rw [V_no]
    · exact id
    · have hz : zsK call M.2.1 (.invokestatic ix) 3 pc ls (zi k :: zi dp :: zr (some b) :: zi sp :: zr (some a) :: st) (c, s, I, L, R) = none := by
        simp only [zsK, hl]
        rw [if_neg (by omega), if_pos (by simp), if_neg h]
      simp only [zstep, hd, zsP, zsH, zsR, hz]
theorem V_max {ix μ n : Nat} {x y : Int} (hd : decode M.1 pc = .ok (.invokestatic ix, 3)) (hl : zml M.2.1 ix = some (6, μ, n)) (hq : pc + 3 = q) : V X call M pc ls (zi y :: zi x :: st) σ Q ↔ zcats st ≤ 8 ∧ V X call M q ls (zi (if x < y then y else x) :: st) σ Q := by
  subst hq
  by_cases h : zcats st ≤ 8
  · rw [V_st (show zstep X call M pc ls (zi y :: zi x :: st) σ = some (.inr (pc + 3, ls, zi (if x < y then y else x) :: st, σ)) by simp [zstep, hd, zsP, zsH, zsR, zsK, hl, h])]
    simp [h]
  · refine iff_of_false ?_ (fun z => h z.1)
    rw [V_no]
    · exact id
    · simp [zstep, hd, zsP, zsH, zsR, zsK, hl, h]
theorem V_min {ix μ n : Nat} {x y : Int} (hd : decode M.1 pc = .ok (.invokestatic ix, 3)) (hl : zml M.2.1 ix = some (7, μ, n)) (hq : pc + 3 = q) : V X call M pc ls (zi y :: zi x :: st) σ Q ↔ zcats st ≤ 8 ∧ V X call M q ls (zi (if y < x then y else x) :: st) σ Q := by
  subst hq
  by_cases h : zcats st ≤ 8
  · rw [V_st (show zstep X call M pc ls (zi y :: zi x :: st) σ = some (.inr (pc + 3, ls, zi (if y < x then y else x) :: st, σ)) by simp [zstep, hd, zsP, zsH, zsR, zsK, hl, h])]
    simp [h]
  · refine iff_of_false ?_ (fun z => h z.1)
    rw [V_no]
    · exact id
    · simp [zstep, hd, zsP, zsH, zsR, zsK, hl, h]
theorem zgo_i {μ n : Nat} {as rest : List ZV} (h1 : n ≤ st.length) (h2 : (st.take n).reverse = as) (h3 : st.drop n = rest) : (∃ w, zgo call μ n pc ls st σ = some w ∧ V X call M w.1 w.2.1 w.2.2.1 w.2.2.2 Q) ↔ zcats rest ≤ 8 ∧ zcll (call μ as σ) (fun r τ => (σ.1 ≤ τ.1 ∧ σ.2.1 ≤ τ.2.1) ∧ V X call M (pc + 3) ls (zpush r rest) τ Q) := by
  subst h2; subst h3
  unfold zgo zcll
  by_cases h8 : zcats (st.drop n) ≤ 8
  · rw [if_pos ⟨h1, h8⟩]
    cases hc : call μ (st.take n).reverse σ with
    | none => simp
    | some w =>
      obtain ⟨r, τ⟩ := w
      by_cases h9 : σ.1 ≤ τ.1 ∧ σ.2.1 ≤ τ.2.1
      · simp only [if_pos h9]
        constructor
        · rintro ⟨w, hw, hv⟩
          cases hw
          exact ⟨h8, h9, hv⟩
        · rintro ⟨-, -, hv⟩
          exact ⟨_, rfl, hv⟩
      · simp only [if_neg h9]
        constructor
        · rintro ⟨w, hw, hv⟩
          cases hw
        · rintro ⟨-, h, -⟩
          exact absurd h h9
  · rw [if_neg (fun z => h8 z.2)]
    constructor
    · rintro ⟨w, hw, hv⟩
      cases hw
    · rintro ⟨h, -⟩
      exact absurd h h8
theorem V_K {i : Instr} {k : Nat} (hd : decode M.1 pc = .ok (i, k)) (h1 : zsP i k pc ls st = none) (h2 : zsH X M.2.1 M.2.2 i k pc ls st σ.2.2.1 σ.2.2.2.1 σ.2.2.2.2 = none) (h3 : zsR M.2.2 i k st = none) : V X call M pc ls st σ Q ↔ ∃ w, zsK call M.2.1 i k pc ls st σ = some w ∧ V X call M w.1 w.2.1 w.2.2.1 w.2.2.2 Q := by
  cases hK : zsK call M.2.1 i k pc ls st σ with
  | none =>
    rw [V_no (by simp only [zstep, hd, h1, h2, h3, hK])]
    simp
  | some w =>
    obtain ⟨q, l1, s1, τ⟩ := w
    rw [V_st (show zstep X call M pc ls st σ = some (.inr (q, l1, s1, τ)) by simp only [zstep, hd, h1, h2, h3, hK])]
    simp
theorem V_iv0 {ix μ a : Nat} (hd : decode M.1 pc = .ok (.invokevirtual ix, 3)) (hl : zml M.2.1 ix = some (0, μ, 0)) (hr : (zmt μ).2.2 = t) (h10 : 10 ≤ t) (hq : pc + 3 = q) : V X call M pc ls (zr (some a) :: st) σ Q ↔ (zT a).1 = t ∧ zcats st ≤ 8 ∧ zcll (call μ [zr (some a)] σ) (fun r τ => (σ.1 ≤ τ.1 ∧ σ.2.1 ≤ τ.2.1) ∧ V X call M q ls (zpush r st) τ Q) := by
  subst hq
  rw [V_K hd rfl rfl rfl]
  simp only [zsK, hl, hr]
  by_cases h : (zT a).1 = t
  · rw [if_pos ⟨trivial, trivial, by simp [zrecv, h, h10]⟩, zgo_i (rest := st) (as := [zr (some a)]) (by simp) (by simp) (by simp)]
    simp [h]
  · rw [if_neg (fun z => h (by simpa [zrecv, h10] using z.2.2))]
    simp [h]
theorem V_it0 {ix μ e : Nat} (hd : decode M.1 pc = .ok (.invokevirtual ix, 3)) (hl : zml M.2.1 ix = some (0, μ, 0)) (hr : (zmt μ).2.2 = 1) (he : 2 ≤ e ∧ e < 9) (hq : pc + 3 = q) : V X call M pc ls (zx e :: st) σ Q ↔ zcats st ≤ 8 ∧ zcll (call μ [zx e] σ) (fun r τ => (σ.1 ≤ τ.1 ∧ σ.2.1 ≤ τ.2.1) ∧ V X call M q ls (zpush r st) τ Q) := by
  subst hq
  rw [V_K hd rfl rfl rfl]
  simp only [zsK, hl, hr]
  rw [if_pos ⟨trivial, trivial, by simp [zrecv, he]⟩, zgo_i (rest := st) (as := [zx e]) (by simp) (by simp) (by simp)]
theorem V_in0 {ix μ a kd : Nat} (hd : decode M.1 pc = .ok (.invokespecial ix, 3)) (hl : zml M.2.1 ix = some (kd, μ, 0)) (hkd : kd = 2 ∨ kd = 4) (hr : (zmt μ).2.2 = t) (h10 : 10 ≤ t) (hq : pc + 3 = q) : V X call M pc ls (zr (some a) :: st) σ Q ↔ (zT a).1 = t ∧ zcats st ≤ 8 ∧ zcll (call μ [zr (some a)] σ) (fun r τ => (σ.1 ≤ τ.1 ∧ σ.2.1 ≤ τ.2.1) ∧ V X call M q ls (zpush r st) τ Q) := by
  subst hq
  rw [V_K hd rfl rfl rfl]
  simp only [zsK, hl, hr]
  by_cases h : (zT a).1 = t
  · rw [if_pos ⟨trivial, hkd, by simp [zrecv, h, h10]⟩, zgo_i (rest := st) (as := [zr (some a)]) (by simp) (by simp) (by simp)]
    simp [h]
  · rw [if_neg (fun z => h (by simpa [zrecv, h10] using z.2.2)), if_neg (by omega)]
    simp [h]
theorem V_iv1 {ix μ a : Nat} {a1 : ZV} (hd : decode M.1 pc = .ok (.invokevirtual ix, 3)) (hl : zml M.2.1 ix = some (0, μ, 1)) (hr : (zmt μ).2.2 = t) (h10 : 10 ≤ t) (hq : pc + 3 = q) : V X call M pc ls (a1 :: zr (some a) :: st) σ Q ↔ (zT a).1 = t ∧ zcats st ≤ 8 ∧ zcll (call μ [zr (some a), a1] σ) (fun r τ => (σ.1 ≤ τ.1 ∧ σ.2.1 ≤ τ.2.1) ∧ V X call M q ls (zpush r st) τ Q) := by
  subst hq
  rw [V_K hd rfl rfl rfl]
  simp only [zsK, hl, hr]
  by_cases h : (zT a).1 = t
  · rw [if_pos ⟨trivial, trivial, by simp [zrecv, h, h10]⟩, zgo_i (rest := st) (as := [zr (some a), a1]) (by simp) (by simp) (by simp)]
    simp [h]
  · rw [if_neg (fun z => h (by simpa [zrecv, h10] using z.2.2))]
    simp [h]
theorem V_it1 {ix μ e : Nat} {a1 : ZV} (hd : decode M.1 pc = .ok (.invokevirtual ix, 3)) (hl : zml M.2.1 ix = some (0, μ, 1)) (hr : (zmt μ).2.2 = 1) (he : 2 ≤ e ∧ e < 9) (hq : pc + 3 = q) : V X call M pc ls (a1 :: zx e :: st) σ Q ↔ zcats st ≤ 8 ∧ zcll (call μ [zx e, a1] σ) (fun r τ => (σ.1 ≤ τ.1 ∧ σ.2.1 ≤ τ.2.1) ∧ V X call M q ls (zpush r st) τ Q) := by
  subst hq
  rw [V_K hd rfl rfl rfl]
  simp only [zsK, hl, hr]
  rw [if_pos ⟨trivial, trivial, by simp [zrecv, he]⟩, zgo_i (rest := st) (as := [zx e, a1]) (by simp) (by simp) (by simp)]
theorem V_is1 {ix μ : Nat} {a1 : ZV} (hd : decode M.1 pc = .ok (.invokestatic ix, 3)) (hl : zml M.2.1 ix = some (1, μ, 1)) (hq : pc + 3 = q) : V X call M pc ls (a1 :: st) σ Q ↔ zcats st ≤ 8 ∧ zcll (call μ [a1] σ) (fun r τ => (σ.1 ≤ τ.1 ∧ σ.2.1 ≤ τ.2.1) ∧ V X call M q ls (zpush r st) τ Q) := by
  subst hq
  rw [V_K hd rfl rfl rfl]
  simp only [zsK, hl]
  rw [if_pos (by simp), zgo_i (rest := st) (as := [a1]) (by simp) (by simp) (by simp)]
theorem V_in1 {ix μ a kd : Nat} {a1 : ZV} (hd : decode M.1 pc = .ok (.invokespecial ix, 3)) (hl : zml M.2.1 ix = some (kd, μ, 1)) (hkd : kd = 2 ∨ kd = 4) (hr : (zmt μ).2.2 = t) (h10 : 10 ≤ t) (hq : pc + 3 = q) : V X call M pc ls (a1 :: zr (some a) :: st) σ Q ↔ (zT a).1 = t ∧ zcats st ≤ 8 ∧ zcll (call μ [zr (some a), a1] σ) (fun r τ => (σ.1 ≤ τ.1 ∧ σ.2.1 ≤ τ.2.1) ∧ V X call M q ls (zpush r st) τ Q) := by
  subst hq
  rw [V_K hd rfl rfl rfl]
  simp only [zsK, hl, hr]
  by_cases h : (zT a).1 = t
  · rw [if_pos ⟨trivial, hkd, by simp [zrecv, h, h10]⟩, zgo_i (rest := st) (as := [zr (some a), a1]) (by simp) (by simp) (by simp)]
    simp [h]
  · rw [if_neg (fun z => h (by simpa [zrecv, h10] using z.2.2)), if_neg (by omega)]
    simp [h]
theorem V_iv2 {ix μ a : Nat} {a1 a2 : ZV} (hd : decode M.1 pc = .ok (.invokevirtual ix, 3)) (hl : zml M.2.1 ix = some (0, μ, 2)) (hr : (zmt μ).2.2 = t) (h10 : 10 ≤ t) (hq : pc + 3 = q) : V X call M pc ls (a2 :: a1 :: zr (some a) :: st) σ Q ↔ (zT a).1 = t ∧ zcats st ≤ 8 ∧ zcll (call μ [zr (some a), a1, a2] σ) (fun r τ => (σ.1 ≤ τ.1 ∧ σ.2.1 ≤ τ.2.1) ∧ V X call M q ls (zpush r st) τ Q) := by
  subst hq
  rw [V_K hd rfl rfl rfl]
  simp only [zsK, hl, hr]
  by_cases h : (zT a).1 = t
  · rw [if_pos ⟨trivial, trivial, by simp [zrecv, h, h10]⟩, zgo_i (rest := st) (as := [zr (some a), a1, a2]) (by simp) (by simp) (by simp)]
    simp [h]
  · rw [if_neg (fun z => h (by simpa [zrecv, h10] using z.2.2))]
    simp [h]
theorem V_it2 {ix μ e : Nat} {a1 a2 : ZV} (hd : decode M.1 pc = .ok (.invokevirtual ix, 3)) (hl : zml M.2.1 ix = some (0, μ, 2)) (hr : (zmt μ).2.2 = 1) (he : 2 ≤ e ∧ e < 9) (hq : pc + 3 = q) : V X call M pc ls (a2 :: a1 :: zx e :: st) σ Q ↔ zcats st ≤ 8 ∧ zcll (call μ [zx e, a1, a2] σ) (fun r τ => (σ.1 ≤ τ.1 ∧ σ.2.1 ≤ τ.2.1) ∧ V X call M q ls (zpush r st) τ Q) := by
  subst hq
  rw [V_K hd rfl rfl rfl]
  simp only [zsK, hl, hr]
  rw [if_pos ⟨trivial, trivial, by simp [zrecv, he]⟩, zgo_i (rest := st) (as := [zx e, a1, a2]) (by simp) (by simp) (by simp)]
theorem V_is2 {ix μ : Nat} {a1 a2 : ZV} (hd : decode M.1 pc = .ok (.invokestatic ix, 3)) (hl : zml M.2.1 ix = some (1, μ, 2)) (hq : pc + 3 = q) : V X call M pc ls (a2 :: a1 :: st) σ Q ↔ zcats st ≤ 8 ∧ zcll (call μ [a1, a2] σ) (fun r τ => (σ.1 ≤ τ.1 ∧ σ.2.1 ≤ τ.2.1) ∧ V X call M q ls (zpush r st) τ Q) := by
  subst hq
  rw [V_K hd rfl rfl rfl]
  simp only [zsK, hl]
  rw [if_pos (by simp), zgo_i (rest := st) (as := [a1, a2]) (by simp) (by simp) (by simp)]
theorem V_iv3 {ix μ a : Nat} {a1 a2 a3 : ZV} (hd : decode M.1 pc = .ok (.invokevirtual ix, 3)) (hl : zml M.2.1 ix = some (0, μ, 3)) (hr : (zmt μ).2.2 = t) (h10 : 10 ≤ t) (hq : pc + 3 = q) : V X call M pc ls (a3 :: a2 :: a1 :: zr (some a) :: st) σ Q ↔ (zT a).1 = t ∧ zcats st ≤ 8 ∧ zcll (call μ [zr (some a), a1, a2, a3] σ) (fun r τ => (σ.1 ≤ τ.1 ∧ σ.2.1 ≤ τ.2.1) ∧ V X call M q ls (zpush r st) τ Q) := by
  subst hq
  rw [V_K hd rfl rfl rfl]
  simp only [zsK, hl, hr]
  by_cases h : (zT a).1 = t
  · rw [if_pos ⟨trivial, trivial, by simp [zrecv, h, h10]⟩, zgo_i (rest := st) (as := [zr (some a), a1, a2, a3]) (by simp) (by simp) (by simp)]
    simp [h]
  · rw [if_neg (fun z => h (by simpa [zrecv, h10] using z.2.2))]
    simp [h]
theorem V_is3 {ix μ : Nat} {a1 a2 a3 : ZV} (hd : decode M.1 pc = .ok (.invokestatic ix, 3)) (hl : zml M.2.1 ix = some (1, μ, 3)) (hq : pc + 3 = q) : V X call M pc ls (a3 :: a2 :: a1 :: st) σ Q ↔ zcats st ≤ 8 ∧ zcll (call μ [a1, a2, a3] σ) (fun r τ => (σ.1 ≤ τ.1 ∧ σ.2.1 ≤ τ.2.1) ∧ V X call M q ls (zpush r st) τ Q) := by
  subst hq
  rw [V_K hd rfl rfl rfl]
  simp only [zsK, hl]
  rw [if_pos (by simp), zgo_i (rest := st) (as := [a1, a2, a3]) (by simp) (by simp) (by simp)]
theorem V_iv4 {ix μ a : Nat} {a1 a2 a3 a4 : ZV} (hd : decode M.1 pc = .ok (.invokevirtual ix, 3)) (hl : zml M.2.1 ix = some (0, μ, 4)) (hr : (zmt μ).2.2 = t) (h10 : 10 ≤ t) (hq : pc + 3 = q) : V X call M pc ls (a4 :: a3 :: a2 :: a1 :: zr (some a) :: st) σ Q ↔ (zT a).1 = t ∧ zcats st ≤ 8 ∧ zcll (call μ [zr (some a), a1, a2, a3, a4] σ) (fun r τ => (σ.1 ≤ τ.1 ∧ σ.2.1 ≤ τ.2.1) ∧ V X call M q ls (zpush r st) τ Q) := by
  subst hq
  rw [V_K hd rfl rfl rfl]
  simp only [zsK, hl, hr]
  by_cases h : (zT a).1 = t
  · rw [if_pos ⟨trivial, trivial, by simp [zrecv, h, h10]⟩, zgo_i (rest := st) (as := [zr (some a), a1, a2, a3, a4]) (by simp) (by simp) (by simp)]
    simp [h]
  · rw [if_neg (fun z => h (by simpa [zrecv, h10] using z.2.2))]
    simp [h]
theorem V_is4 {ix μ : Nat} {a1 a2 a3 a4 : ZV} (hd : decode M.1 pc = .ok (.invokestatic ix, 3)) (hl : zml M.2.1 ix = some (1, μ, 4)) (hq : pc + 3 = q) : V X call M pc ls (a4 :: a3 :: a2 :: a1 :: st) σ Q ↔ zcats st ≤ 8 ∧ zcll (call μ [a1, a2, a3, a4] σ) (fun r τ => (σ.1 ≤ τ.1 ∧ σ.2.1 ≤ τ.2.1) ∧ V X call M q ls (zpush r st) τ Q) := by
  subst hq
  rw [V_K hd rfl rfl rfl]
  simp only [zsK, hl]
  rw [if_pos (by simp), zgo_i (rest := st) (as := [a1, a2, a3, a4]) (by simp) (by simp) (by simp)]
theorem V_iv5 {ix μ a : Nat} {a1 a2 a3 a4 a5 : ZV} (hd : decode M.1 pc = .ok (.invokevirtual ix, 3)) (hl : zml M.2.1 ix = some (0, μ, 5)) (hr : (zmt μ).2.2 = t) (h10 : 10 ≤ t) (hq : pc + 3 = q) : V X call M pc ls (a5 :: a4 :: a3 :: a2 :: a1 :: zr (some a) :: st) σ Q ↔ (zT a).1 = t ∧ zcats st ≤ 8 ∧ zcll (call μ [zr (some a), a1, a2, a3, a4, a5] σ) (fun r τ => (σ.1 ≤ τ.1 ∧ σ.2.1 ≤ τ.2.1) ∧ V X call M q ls (zpush r st) τ Q) := by
  subst hq
  rw [V_K hd rfl rfl rfl]
  simp only [zsK, hl, hr]
  by_cases h : (zT a).1 = t
  · rw [if_pos ⟨trivial, trivial, by simp [zrecv, h, h10]⟩, zgo_i (rest := st) (as := [zr (some a), a1, a2, a3, a4, a5]) (by simp) (by simp) (by simp)]
    simp [h]
  · rw [if_neg (fun z => h (by simpa [zrecv, h10] using z.2.2))]
    simp [h]
theorem V_is5 {ix μ : Nat} {a1 a2 a3 a4 a5 : ZV} (hd : decode M.1 pc = .ok (.invokestatic ix, 3)) (hl : zml M.2.1 ix = some (1, μ, 5)) (hq : pc + 3 = q) : V X call M pc ls (a5 :: a4 :: a3 :: a2 :: a1 :: st) σ Q ↔ zcats st ≤ 8 ∧ zcll (call μ [a1, a2, a3, a4, a5] σ) (fun r τ => (σ.1 ≤ τ.1 ∧ σ.2.1 ≤ τ.2.1) ∧ V X call M q ls (zpush r st) τ Q) := by
  subst hq
  rw [V_K hd rfl rfl rfl]
  simp only [zsK, hl]
  rw [if_pos (by simp), zgo_i (rest := st) (as := [a1, a2, a3, a4, a5]) (by simp) (by simp) (by simp)]
theorem V_iv6 {ix μ a : Nat} {a1 a2 a3 a4 a5 a6 : ZV} (hd : decode M.1 pc = .ok (.invokevirtual ix, 3)) (hl : zml M.2.1 ix = some (0, μ, 6)) (hr : (zmt μ).2.2 = t) (h10 : 10 ≤ t) (hq : pc + 3 = q) : V X call M pc ls (a6 :: a5 :: a4 :: a3 :: a2 :: a1 :: zr (some a) :: st) σ Q ↔ (zT a).1 = t ∧ zcats st ≤ 8 ∧ zcll (call μ [zr (some a), a1, a2, a3, a4, a5, a6] σ) (fun r τ => (σ.1 ≤ τ.1 ∧ σ.2.1 ≤ τ.2.1) ∧ V X call M q ls (zpush r st) τ Q) := by
  subst hq
  rw [V_K hd rfl rfl rfl]
  simp only [zsK, hl, hr]
  by_cases h : (zT a).1 = t
  · rw [if_pos ⟨trivial, trivial, by simp [zrecv, h, h10]⟩, zgo_i (rest := st) (as := [zr (some a), a1, a2, a3, a4, a5, a6]) (by simp) (by simp) (by simp)]
    simp [h]
  · rw [if_neg (fun z => h (by simpa [zrecv, h10] using z.2.2))]
    simp [h]
theorem V_is6 {ix μ : Nat} {a1 a2 a3 a4 a5 a6 : ZV} (hd : decode M.1 pc = .ok (.invokestatic ix, 3)) (hl : zml M.2.1 ix = some (1, μ, 6)) (hq : pc + 3 = q) : V X call M pc ls (a6 :: a5 :: a4 :: a3 :: a2 :: a1 :: st) σ Q ↔ zcats st ≤ 8 ∧ zcll (call μ [a1, a2, a3, a4, a5, a6] σ) (fun r τ => (σ.1 ≤ τ.1 ∧ σ.2.1 ≤ τ.2.1) ∧ V X call M q ls (zpush r st) τ Q) := by
  subst hq
  rw [V_K hd rfl rfl rfl]
  simp only [zsK, hl]
  rw [if_pos (by simp), zgo_i (rest := st) (as := [a1, a2, a3, a4, a5, a6]) (by simp) (by simp) (by simp)]
end
theorem zex_add {X : ZX} {call : ZC} {M : ZM} : ∀ (n : Nat) {pc : Nat} {ls st : List ZV} {σ : ZS} {r : Option ZV × ZS}, zex X call M n pc ls st σ = some r → ∀ k, zex X call M (n + k) pc ls st σ = some r := by
  intro n
  induction n with
  | zero => intro pc ls st σ r h; cases h
  | succ n ih =>
    intro pc ls st σ r h k
    rw [show n + 1 + k = (n + k) + 1 by omega]
    simp only [zex] at h ⊢
    cases hs : zstep X call M pc ls st σ with
    | none => rw [hs] at h; cases h
    | some w =>
      rw [hs] at h
      cases w with
      | inl w => exact h
      | inr w => exact ih h k
theorem zex_det {X : ZX} {call : ZC} {M : ZM} {n m pc : Nat} {ls st : List ZV} {σ : ZS} {r r' : Option ZV × ZS} (h : zex X call M n pc ls st σ = some r) (h' : zex X call M m pc ls st σ = some r') : r = r' := by
  have a := zex_add n h m
  have b := zex_add m h' n
  rw [Nat.add_comm m n] at b
  exact Option.some.inj (a.symm.trans b)
/-- a contract out of a walk -/
theorem zrun_of {X : ZX} {d μ k w : Nat} {M : ZM} {as ls : List ZV} {σ : ZS} {r : Option ZV × ZS} (hm : zmt μ = (M, k, w)) (hμ : μ < zmtL.length) (hls : zini k as = ls) (hk : (zin0 as).length ≤ k) (h : V X (zrun X d) M 0 ls [] σ (fun q => q = r)) : zrun X (d + 1) μ as σ = some r := by
  obtain ⟨r', ⟨n, hn⟩, rfl⟩ := h
  subst hls
  have hp : (zin0 as).length ≤ (zmt μ).2.1 ∧ μ < zmtL.length ∧ ∃ r, ∃ n, zex X (zrun X d) (zmt μ).1 n 0 (zini (zmt μ).2.1 as) [] σ = some r := ⟨by rw [hm]; exact hk, hμ, r', n, by rw [hm]; exact hn⟩
  have e : zrun X (d + 1) μ as σ = some hp.2.2.choose := by
    simp only [zrun]
    rw [dif_pos hp]
  rw [e]
  have hs := hp.2.2.choose_spec
  generalize hp.2.2.choose = r2 at hs ⊢
  obtain ⟨m, hm2⟩ := hs
  rw [hm] at hm2
  exact congrArg some (zex_det hm2 hn)
/-- the same, where the end is told by a property -/
theorem zrun_ex {X : ZX} {d μ k w : Nat} {M : ZM} {as ls : List ZV} {σ : ZS} {P : Option ZV × ZS → Prop} (hm : zmt μ = (M, k, w)) (hμ : μ < zmtL.length) (hls : zini k as = ls) (hk : (zin0 as).length ≤ k) (h : V X (zrun X d) M 0 ls [] σ P) : ∃ r, zrun X (d + 1) μ as σ = some r ∧ P r := by
  obtain ⟨r, hn, hP⟩ := h
  exact ⟨r, zrun_of hm hμ hls hk ⟨r, hn, rfl⟩, hP⟩
theorem zrun_inv {X : ZX} {d μ : Nat} {as : List ZV} {σ : ZS} {r : Option ZV × ZS} (h : zrun X (d + 1) μ as σ = some r) : (zin0 as).length ≤ (zmt μ).2.1 ∧ μ < zmtL.length ∧ ∃ n, zex X (zrun X d) (zmt μ).1 n 0 (zini (zmt μ).2.1 as) [] σ = some r := by
  simp only [zrun] at h
  by_cases hp : (zin0 as).length ≤ (zmt μ).2.1 ∧ μ < zmtL.length ∧ ∃ r, ∃ n, zex X (zrun X d) (zmt μ).1 n 0 (zini (zmt μ).2.1 as) [] σ = some r
  · rw [dif_pos hp] at h
    have := hp.2.2.choose_spec
    rw [Option.some.inj h] at this
    exact ⟨hp.1, hp.2.1, this⟩
  · rw [dif_neg hp] at h
    cases h
