/-! The abstract machine, heap and calls; X: the script (length, ints). -/
abbrev ZX : Type := Nat × (Nat → Int)
abbrev ZI : Type := Nat → Nat → Int
abbrev ZR : Type := Nat → Nat → Option Nat
/-- a call: method, arguments, state; the answer and the state behind -/
abbrev ZC : Type := Nat → List ZV → ZS → Option (Option ZV × ZS)
def zcats : List ZV → Nat
  | [] => 0
  | v :: r => (if zcat1 v = true then 1 else 2) + zcats r
def zpush : Option ZV → List ZV → List ZV
  | none, r => r
  | some v, r => v :: r
/-- the tag and the length of an array that is read: of ours, or from outside -/
def zalen (X : ZX) (v : ZV) : Option Int := match v with
  | .inr (.inr (.inl (some a))) => if (zT a).1 < 10 ∧ 1 ≤ (zT a).1 then some ((zT a).2 : Int) else none
  | .inr (.inr (.inr k)) => if k = 1 then some (X.1 : Int) else if 22 ≤ k ∧ k < 29 then some ((zstr (k - 22)).length : Int) else none
  | _ => none
def zsH (X : ZX) (cN rk : Nat) (i : Instr) (k pc : Nat) (ls st : List ZV) (I L : ZI) (R : ZR) : Option (Nat × List ZV × List ZV × ZI × ZI × ZR) := match i with
  | .getfield ix => match st with
    | .inr (.inr (.inl (some a))) :: r => (match zfl cN ix with
      | some (ci, f, s, _) => if k = 3 ∧ (zT a).1 = ci + 10 then (if s = 0 then some (pc + 3, ls, zi (I a f) :: r, I, L, R) else if s = 1 then some (pc + 3, ls, zl (L a f) :: r, I, L, R) else if s = 2 then some (pc + 3, ls, zr (R a f) :: r, I, L, R) else none) else none
      | none => none)
    | .inr (.inr (.inr e)) :: r => (match zfl cN ix with
      | some (_, f, s, _) => if k = 3 ∧ s = 3 ∧ 2 ≤ e ∧ e < 9 then some (pc + 3, ls, (if f = 0 then zx (e + 20) else zi 0) :: r, I, L, R) else none
      | none => none)
    | _ => none
  | .putfield ix => match st with
    | .inl x :: .inr (.inr (.inl (some a))) :: r => (match zfl cN ix with
      | some (ci, f, s, q) => if k = 3 ∧ (zT a).1 = ci + 10 ∧ s = 0 ∧ zok (q % 10) x = true ∧ (q < 10 ∨ (rk = 9 ∧ cN = ci)) then some (pc + 3, ls, r, zu I a f x, L, R) else none
      | none => none)
    | .inr (.inl x) :: .inr (.inr (.inl (some a))) :: r => (match zfl cN ix with
      | some (ci, f, s, q) => if k = 3 ∧ (zT a).1 = ci + 10 ∧ s = 1 ∧ (q < 10 ∨ (rk = 9 ∧ cN = ci)) then some (pc + 3, ls, r, I, zu L a f x, R) else none
      | none => none)
    | .inr (.inr (.inl x)) :: .inr (.inr (.inl (some a))) :: r => (match zfl cN ix with
      | some (ci, f, s, q) => if k = 3 ∧ (zT a).1 = ci + 10 ∧ s = 2 ∧ (q < 10 ∨ (rk = 9 ∧ cN = ci)) then some (pc + 3, ls, r, I, L, zu R a f x) else none
      | none => none)
    | _ => none
  | .iaload => match st with
    | .inl j :: .inr (.inr (.inl (some a))) :: r => if k = 1 ∧ (zT a).1 = 1 ∧ 0 ≤ j ∧ j < ((zT a).2 : Int) then some (pc + 1, ls, zi (I a j.toNat) :: r, I, L, R) else none
    | .inl j :: .inr (.inr (.inr e)) :: r => if k = 1 ∧ e = 1 ∧ 0 ≤ j ∧ j < (X.1 : Int) then some (pc + 1, ls, zi (X.2 j.toNat) :: r, I, L, R) else none
    | _ => none
  | .laload => match st with
    | .inl j :: .inr (.inr (.inl (some a))) :: r => if k = 1 ∧ (zT a).1 = 2 ∧ 0 ≤ j ∧ j < ((zT a).2 : Int) then some (pc + 1, ls, zl (L a j.toNat) :: r, I, L, R) else none
    | _ => none
  | .baload => match st with
    | .inl j :: .inr (.inr (.inl (some a))) :: r => if k = 1 ∧ ((zT a).1 = 3 ∨ (zT a).1 = 4) ∧ 0 ≤ j ∧ j < ((zT a).2 : Int) then some (pc + 1, ls, zi (I a j.toNat) :: r, I, L, R) else none
    | .inl j :: .inr (.inr (.inr e)) :: r => if k = 1 ∧ 22 ≤ e ∧ e < 29 ∧ 0 ≤ j ∧ j < ((zstr (e - 22)).length : Int) then some (pc + 1, ls, zi ((zstr (e - 22)).getD j.toNat 0) :: r, I, L, R) else none
    | _ => none
  | .aaload => match st with
    | .inl j :: .inr (.inr (.inl (some a))) :: r => if k = 1 ∧ 5 ≤ (zT a).1 ∧ (zT a).1 < 8 ∧ 0 ≤ j ∧ j < ((zT a).2 : Int) then some (pc + 1, ls, zr (R a j.toNat) :: r, I, L, R) else none
    | _ => none
  | .iastore => match st with
    | .inl x :: .inl j :: .inr (.inr (.inl (some a))) :: r => if k = 1 ∧ (zT a).1 = 1 ∧ 0 ≤ j ∧ j < ((zT a).2 : Int) then some (pc + 1, ls, r, zu I a j.toNat x, L, R) else none
    | _ => none
  | .lastore => match st with
    | .inr (.inl x) :: .inl j :: .inr (.inr (.inl (some a))) :: r => if k = 1 ∧ (zT a).1 = 2 ∧ 0 ≤ j ∧ j < ((zT a).2 : Int) then some (pc + 1, ls, r, I, zu L a j.toNat x, R) else none
    | _ => none
  | .bastore => match st with
    | .inl x :: .inl j :: .inr (.inr (.inl (some a))) :: r => if k = 1 ∧ (((zT a).1 = 3 ∧ zok 4 x = true) ∨ ((zT a).1 = 4 ∧ zok 2 x = true)) ∧ 0 ≤ j ∧ j < ((zT a).2 : Int) then some (pc + 1, ls, r, zu I a j.toNat x, L, R) else none
    | _ => none
  | .aastore => match st with
    | .inr (.inr (.inl (some b))) :: .inl j :: .inr (.inr (.inl (some a))) :: r => if k = 1 ∧ (((zT a).1 = 5 ∧ (zT b).1 = 15) ∨ ((zT a).1 = 6 ∧ (zT b).1 = 19)) ∧ 0 ≤ j ∧ j < ((zT a).2 : Int) then some (pc + 1, ls, r, I, L, zu R a j.toNat (some b)) else none
    | _ => none
  | .arraylength => match st with
    | v :: r => (match zalen X v with
      | some n => if k = 1 then some (pc + 1, ls, zi n :: r, I, L, R) else none
      | none => none)
    | _ => none
  | .ldc ix => match zcl cN ix with
    | some (.inl x) => if k = 2 then some (pc + 2, ls, zi x :: st, I, L, R) else none
    | some (.inr (.inr (.inr e))) => if k = 2 ∧ 2 ≤ e ∧ e < 9 then some (pc + 2, ls, zx e :: st, I, L, R) else none
    | _ => none
  | .ldc2_w ix => match zcl cN ix with
    | some (.inr (.inl x)) => if k = 3 then some (pc + 3, ls, zl x :: st, I, L, R) else none
    | _ => none
  | .getstatic ix => if k = 3 ∧ cN = 14 ∧ ix = 38 then some (pc + 3, ls, zi 1 :: st, I, L, R) else if k = 3 ∧ cN = 14 ∧ ix = 1053 then some (pc + 3, ls, zx 50 :: st, I, L, R) else none
  | _ => none
/-- which array a newarray makes -/
def znew (t : ArrayType) : Nat := match t with
  | .int => 1
  | .long => 2
  | .byte => 3
  | .boolean => 4
  | _ => 0
def zrecv (t : Nat) (v : ZV) : Bool := match v with
  | .inr (.inr (.inl (some a))) => decide ((zT a).1 = t ∧ 10 ≤ t)
  | .inr (.inr (.inr e)) => decide (t = 1 ∧ 2 ≤ e ∧ e < 9)
  | _ => false
/-- a call of method μ with n arguments (and the receiver among them where there is one) -/
def zgo (call : ZC) (μ n pc : Nat) (ls st : List ZV) (σ : ZS) : Option (Nat × List ZV × List ZV × ZS) := if n ≤ st.length ∧ zcats (st.drop n) ≤ 8 then (match call μ (st.take n).reverse σ with
  | some (r, τ) => if σ.1 ≤ τ.1 ∧ σ.2.1 ≤ τ.2.1 then some (pc + 3, ls, zpush r (st.drop n), τ) else none
  | none => none) else none
def zcpy (I : ZI) (a sp b dp n : Nat) : ZI := fun c k => if c = b ∧ dp ≤ k ∧ k < dp + n then I a (sp + (k - dp)) else I c k
def zsK (call : ZC) (cN : Nat) (i : Instr) (k pc : Nat) (ls st : List ZV) (σ : ZS) : Option (Nat × List ZV × List ZV × ZS) := match i with
  | .new ix => match znl cN ix with
    | some ci => if k = 3 ∧ ci < 13 ∧ zT σ.1 = (ci + 10, zfn ci) then some (pc + 3, ls, zr (some σ.1) :: st, (σ.1 + 1, σ.2.1 + zfn ci, σ.2.2)) else none
    | none => none
  | .newarray t => match st with
    | .inl n :: r => if k = 2 ∧ 1 ≤ znew t ∧ 0 ≤ n ∧ n ≤ 100000 ∧ zT σ.1 = (znew t, n.toNat) then some (pc + 2, ls, zr (some σ.1) :: r, (σ.1 + 1, σ.2.1 + n.toNat, σ.2.2)) else none
    | _ => none
  | .anewarray ix => match st with
    | .inl n :: r => (match znl cN ix with
      | some ci => if k = 3 ∧ 0 ≤ n ∧ n ≤ 100000 ∧ ((ci = 5 ∧ zT σ.1 = (5, n.toNat)) ∨ (ci = 9 ∧ zT σ.1 = (6, n.toNat))) then some (pc + 3, ls, zr (some σ.1) :: r, (σ.1 + 1, σ.2.1 + n.toNat, σ.2.2)) else none
      | none => none)
    | _ => none
  | .multianewarray ix d => match st with
    | .inl m :: .inl n :: r => if k = 4 ∧ d = 2 ∧ cN = 2 ∧ ix = 11 ∧ 0 ≤ n ∧ n ≤ 1000 ∧ 0 ≤ m ∧ m ≤ 1000 ∧ zT σ.1 = (7, n.toNat) ∧ (∀ j, j < n.toNat → zT (σ.1 + 1 + j) = (2, m.toNat)) then some (pc + 4, ls, zr (some σ.1) :: r, (σ.1 + 1 + n.toNat, σ.2.1 + n.toNat + n.toNat * m.toNat, σ.2.2.1, σ.2.2.2.1, fun c j => if c = σ.1 ∧ j < n.toNat then some (σ.1 + 1 + j) else σ.2.2.2.2 c j)) else none
    | _ => none
  | .invokevirtual ix => match zml cN ix with
    | some (kd, μ, n) => if k = 3 ∧ kd = 0 ∧ zrecv (zmt μ).2.2 (st.getD n (zi 0)) = true then zgo call μ (n + 1) pc ls st σ else none
    | none => none
  | .invokestatic ix => match zml cN ix with
    | some (kd, μ, n) => if k = 3 ∧ kd = 1 then zgo call μ n pc ls st σ else if k = 3 ∧ kd = 5 then (match st with
      | .inl c :: .inl dp :: .inr (.inr (.inl (some b))) :: .inl sp :: .inr (.inr (.inl (some a))) :: r => if (zT a).1 = 1 ∧ (zT b).1 = 1 ∧ 0 ≤ sp ∧ 0 ≤ dp ∧ 0 ≤ c ∧ sp + c ≤ ((zT a).2 : Int) ∧ dp + c ≤ ((zT b).2 : Int) ∧ zcats r ≤ 8 ∧ a ≠ b then some (pc + 3, ls, r, (σ.1, σ.2.1, zcpy σ.2.2.1 a sp.toNat b dp.toNat c.toNat, σ.2.2.2)) else none
      | _ => none) else if k = 3 ∧ kd = 6 then (match st with
      | .inl y :: .inl x :: r => if zcats r ≤ 8 then some (pc + 3, ls, zi (if x < y then y else x) :: r, σ) else none
      | _ => none) else if k = 3 ∧ kd = 7 then (match st with
      | .inl y :: .inl x :: r => if zcats r ≤ 8 then some (pc + 3, ls, zi (if y < x then y else x) :: r, σ) else none
      | _ => none) else none
    | none => none
  | .invokespecial ix => match zml cN ix with
    | some (kd, μ, n) => if k = 3 ∧ (kd = 2 ∨ kd = 4) ∧ zrecv (zmt μ).2.2 (st.getD n (zi 0)) = true then zgo call μ (n + 1) pc ls st σ else if k = 3 ∧ kd = 3 then (match st with
      | .inr (.inr (.inl (some a))) :: r => if zcats r ≤ 8 then some (pc + 3, ls, r, σ) else none
      | _ => none) else none
    | none => none
  | _ => none
def zsR (rk : Nat) (i : Instr) (k : Nat) (st : List ZV) : Option (Option ZV) := match i with
  | .return_ => if k = 1 ∧ (rk = 0 ∨ rk = 9) ∧ st = [] then some none else none
  | .ireturn => match st with
    | [.inl x] => if k = 1 ∧ 1 ≤ rk ∧ rk ≤ 4 ∧ zok rk x = true then some (some (zi x)) else none
    | _ => none
  | .lreturn => match st with
    | [.inr (.inl x)] => if k = 1 ∧ rk = 5 then some (some (zl x)) else none
    | _ => none
  | .areturn => match st with
    | [.inr (.inr (.inl x))] => if k = 1 ∧ rk = 6 then some (some (zr x)) else none
    | _ => none
  | _ => none
/-- one instruction: an end (left), or the state behind it -/
def zstep (X : ZX) (call : ZC) (M : ZM) (pc : Nat) (ls st : List ZV) (σ : ZS) : Option ((Option ZV × ZS) ⊕ (Nat × List ZV × List ZV × ZS)) := match decode M.1 pc with
  | .ok (i, k) => (match zsP i k pc ls st with
    | some (q, l1, s1) => some (.inr (q, l1, s1, σ))
    | none => (match zsH X M.2.1 M.2.2 i k pc ls st σ.2.2.1 σ.2.2.2.1 σ.2.2.2.2 with
      | some (q, l1, s1, I1, L1, R1) => some (.inr (q, l1, s1, (σ.1, σ.2.1, I1, L1, R1)))
      | none => (match zsR M.2.2 i k st with
        | some r => some (.inl (r, σ))
        | none => (match zsK call M.2.1 i k pc ls st σ with
          | some (q, l1, s1, τ) => some (.inr (q, l1, s1, τ))
          | none => none))))
  | .error _ => none
def zex (X : ZX) (call : ZC) (M : ZM) : Nat → Nat → List ZV → List ZV → ZS → Option (Option ZV × ZS)
  | 0, _, _, _, _ => none
  | n + 1, pc, ls, st, σ => match zstep X call M pc ls st σ with
    | some (.inl r) => some r
    | some (.inr (q, l1, s1, τ)) => zex X call M n q l1 s1 τ
    | none => none
/-- the locals at a method's start -/
def zin0 : List ZV → List ZV
  | [] => []
  | .inr (.inl x) :: r => zl x :: zx 0 :: zin0 r
  | v :: r => v :: zin0 r
def zini (n : Nat) (as : List ZV) : List ZV := zin0 as ++ List.replicate (n - (zin0 as).length) (zx 0)

noncomputable def zrun (X : ZX) : Nat → ZC
  | 0, _, _, _ => none
  | d + 1, μ, as, σ => @dite _ ((zin0 as).length ≤ (zmt μ).2.1 ∧ μ < zmtL.length ∧ ∃ r, ∃ n, zex X (zrun X d) (zmt μ).1 n 0 (zini (zmt μ).2.1 as) [] σ = some r) (Classical.propDecidable _) (fun h => some h.2.2.choose) (fun _ => none)
/-- from here the machine comes to an end with Q -/
def V (X : ZX) (call : ZC) (M : ZM) (pc : Nat) (ls st : List ZV) (σ : ZS) (Q : Option ZV × ZS → Prop) : Prop := ∃ r, (∃ n, zex X call M n pc ls st σ = some r) ∧ Q r
