/-! How the abstract machine's state stands in the real one. -/
def zaty : Nat → FieldType
  | 1 => .int
  | 2 => .long
  | 3 => .byte
  | 4 => .boolean
  | 5 => .object RX5
  | 6 => .object RX9
  | _ => .array .long
/-- the class of an array of a tag, at the law's start -/
def zcy (s0 : State) (t : Nat) : ClassId := (s0.vm.findClass ("[" ++ (zaty t).toString)).getD 0
/-- a value as the machine has it: z is the heap's size at the law's start, xa what lies outside -/
def zc (z : Nat) (xa : Nat → Value) : ZV → Value
  | .inl x => .int (Int32.ofInt x)
  | .inr (.inl x) => .long (Int64.ofInt x)
  | .inr (.inr (.inl r)) => va_rf (r.map (fun b => z + b))
  | .inr (.inr (.inr k)) => xa k
def zval (z cat : Nat) (I L : ZI) (R : ZR) (i k : Nat) : Value := if cat = 1 then .long (Int64.ofInt (L i k)) else if cat = 2 then va_rf ((R i k).map (fun b => z + b)) else .int (Int32.ofInt (I i k))
def zE (s0 : State) (z : Nat) (I L : ZI) (R : ZR) (i : Nat) : va_E :=
  if 10 ≤ (zT i).1 then .inr ((zT i).1 - 10, (List.range (zT i).2).map (fun k => zval z (zct ((zT i).1 - 10) k) I L R i k))
  else if (zT i).1 = 2 then .inl (zcy s0 2, (zT i).2, .inr (.inl (fun j => Int64.ofInt (L i j))))
  else if (zT i).1 < 5 then .inl (zcy s0 (zT i).1, (zT i).2, .inl (fun j => Int32.ofInt (I i j)))
  else .inl (zcy s0 (zT i).1, (zT i).2, .inr (.inr (.inr (.inr (fun j => (R i j).map (fun b => z + b))))))
def zA (z : Nat) : Nat → Prop := fun q => z ≤ q
/-- a value that may stand on the stack: in its range, its cell there -/
def zvk (c : Nat) : ZV → Prop
  | .inl x => zi3 x
  | .inr (.inl x) => zi6 x
  | .inr (.inr (.inl r)) => ∀ b, r = some b → b < c
  | .inr (.inr (.inr k)) => k = 1 ∨ (2 ≤ k ∧ k < 9) ∨ (22 ≤ k ∧ k < 29) ∨ k = 50
/-- the heap -/
def zJ (s0 : State) (z : Nat) (D : va_G) (σ : ZS) (H : Heap) (locs : List Loc) : Prop :=
  H.size = z + σ.1 ∧ (∀ q, q < z → H[q]? = s0.heap[q]?) ∧ (∀ i, i < σ.1 → va_at D vwCl (z + i, zE s0 z σ.2.2.1 σ.2.2.2.1 σ.2.2.2.2 i) H) ∧
  (∀ i, i < σ.1 → (zT i).1 < 10 → ArrOfT s0 (zcy s0 (zT i).1) (zaty (zT i).1) ∧ va_RA s0 (zcy s0 (zT i).1) (zaty (zT i).1)) ∧
  (∀ b, σ.1 ≤ b → ∀ j, σ.2.2.1 b j = 0 ∧ σ.2.2.2.1 b j = 0 ∧ σ.2.2.2.2 b j = none) ∧ (∀ a j, zi3 (σ.2.2.1 a j)) ∧ (∀ a j, zi6 (σ.2.2.2.1 a j)) ∧ (∀ a j b, σ.2.2.2.2 a j = some b → b < σ.1) ∧ ∀ q ∈ locs, z ≤ q.base
def zjunk : ZV → Bool
  | .inr (.inr (.inr 0)) => true
  | _ => false
def zpr (z : Nat) (xa : Nat → Value) : Nat → List ZV → List (Nat × Value)
  | _, [] => []
  | j, v :: l => if zjunk v = true then zpr z xa (j + 1) l else (j, zc z xa v) :: zpr z xa (j + 1) l
/-- locals and stack -/
def zLS (z : Nat) (xa : Nat → Value) (n c : Nat) (lr : Array Slot) (ls st : List ZV) : Prop := ls.length = n ∧ lv_has lr n (zpr z xa 0 ls) ∧ (∀ v ∈ ls, zjunk v = true ∨ zvk c v) ∧ ∀ v ∈ st, zvk c v
theorem zpr_mem {z : Nat} {xa : Nat → Value} {q : Nat × Value} : ∀ (l : List ZV) (j : Nat), q ∈ zpr z xa j l ↔ ∃ (i : Nat) (v : ZV), l[i]? = some v ∧ zjunk v = false ∧ q = (j + i, zc z xa v) := by
  intro l
  induction l with
  | nil => intro j; simp [zpr]
  | cons v l ih =>
    intro j
    by_cases hv : zjunk v = true
    · rw [zpr, if_pos hv, ih]
      constructor
      · rintro ⟨i, w, h1, h2, rfl⟩
        exact ⟨i + 1, w, by simpa using h1, h2, by simp; omega⟩
      · rintro ⟨i, w, h1, h2, rfl⟩
        cases i with
        | zero =>
          simp at h1
          subst h1
          rw [hv] at h2
          cases h2
        | succ i => exact ⟨i, w, by simpa using h1, h2, by simp; omega⟩
    · rw [zpr, if_neg hv, List.mem_cons, ih]
      constructor
      · rintro (rfl | ⟨i, w, h1, h2, rfl⟩)
        · exact ⟨0, v, rfl, by simpa using hv, rfl⟩
        · exact ⟨i + 1, w, by simpa using h1, h2, by simp; omega⟩
      · rintro ⟨i, w, h1, h2, rfl⟩
        cases i with
        | zero =>
          simp at h1
          subst h1
          exact Or.inl rfl
        | succ i => exact Or.inr ⟨i, w, by simpa using h1, h2, by simp; omega⟩
theorem zg_get : ∀ (l : List ZV) (j : Nat) (v : ZV), zg l j = v → zjunk v = false → l[j]? = some v := by
  intro l
  induction l with
  | nil => intro j v h hv; subst h; cases hv
  | cons w l ih =>
    intro j v h hv
    cases j with
    | zero => exact congrArg some h
    | succ j => simpa using ih j v h hv
theorem zg_at {z : Nat} {xa : Nat → Value} {n c : Nat} {lr : Array Slot} {ls st : List ZV} (h : zLS z xa n c lr ls st) {j : Nat} {v : ZV} (hg : zg ls j = v) (hv : zjunk v = false) : lr[j]? = some (.val (zc z xa v)) ∧ zvk c v := by
  have hj := zg_get ls j v hg hv
  refine ⟨h.2.1.2.2 (j, zc z xa v) ((zpr_mem ls 0).mpr ⟨j, v, hj, hv, by simp⟩), ?_⟩
  rcases h.2.2.1 v (List.mem_of_getElem? hj) with q | q
  · rw [hv] at q; cases q
  · exact q
theorem zst1_len : ∀ (l : List ZV) (j : Nat) (v : ZV), (zst1 l j v).length = l.length
  | [], j, v => by cases j <;> rfl
  | w :: l, 0, v => rfl
  | w :: l, 1, v => by simp [zst1, zst1_len l 0 v]
  | w :: l, j + 2, v => by simp [zst1, zst1_len l (j + 1) v]
theorem zst1_get : ∀ (l : List ZV) (j : Nat) (v : ZV) (i : Nat) (w : ZV), (zst1 l j v)[i]? = some w → (i = j ∧ w = v) ∨ (i ≠ j ∧ ∃ u, l[i]? = some u ∧ ((w = u ∧ i + 1 ≠ j) ∨ (w = zinv u ∧ i + 1 = j)))
  | [], j, v, i, w, h => by cases j <;> simp [zst1] at h
  | u :: l, 0, v, i, w, h => by
    cases i with
    | zero => simp [zst1] at h; exact Or.inl ⟨rfl, h.symm⟩
    | succ i => simp [zst1] at h; exact Or.inr ⟨by omega, w, by simpa using h, Or.inl ⟨rfl, by omega⟩⟩
  | u :: l, 1, v, i, w, h => by
    cases i with
    | zero => simp [zst1] at h; exact Or.inr ⟨by omega, u, rfl, Or.inr ⟨h.symm, rfl⟩⟩
    | succ i =>
      have h : (zst1 l 0 v)[i]? = some w := by simpa [zst1] using h
      rcases zst1_get l 0 v i w h with ⟨h1, h2⟩ | ⟨h1, u', h2, h3⟩
      · exact Or.inl ⟨by omega, h2⟩
      · refine Or.inr ⟨by omega, u', by simpa using h2, ?_⟩
        rcases h3 with ⟨a, b⟩ | ⟨a, b⟩
        · exact Or.inl ⟨a, by omega⟩
        · exact absurd b (by omega)
  | u :: l, j + 2, v, i, w, h => by
    cases i with
    | zero => simp [zst1] at h; exact Or.inr ⟨by omega, u, rfl, Or.inl ⟨h.symm, by omega⟩⟩
    | succ i =>
      have h : (zst1 l (j + 1) v)[i]? = some w := by simpa [zst1] using h
      rcases zst1_get l (j + 1) v i w h with ⟨h1, h2⟩ | ⟨h1, u', h2, h3⟩
      · exact Or.inl ⟨by omega, h2⟩
      · refine Or.inr ⟨by omega, u', by simpa using h2, ?_⟩
        rcases h3 with ⟨a, b⟩ | ⟨a, b⟩
        · exact Or.inl ⟨a, by omega⟩
        · exact Or.inr ⟨a, by omega⟩
theorem zst0_len : ∀ (l : List ZV) (j : Nat), (zst0 l j).length = l.length
  | [], j => by cases j <;> rfl
  | w :: l, 0 => rfl
  | w :: l, j + 1 => by simp [zst0, zst0_len l j]
theorem zst0_get : ∀ (l : List ZV) (j i : Nat) (w : ZV), (zst0 l j)[i]? = some w → (i = j ∧ w = zx 0) ∨ (i ≠ j ∧ l[i]? = some w)
  | [], j, i, w, h => by cases j <;> simp [zst0] at h
  | u :: l, 0, i, w, h => by
    cases i with
    | zero => simp [zst0] at h; exact Or.inl ⟨rfl, h.symm⟩
    | succ i => simp [zst0] at h; exact Or.inr ⟨by omega, by simpa using h⟩
  | u :: l, j + 1, i, w, h => by
    cases i with
    | zero => simp [zst0] at h; exact Or.inr ⟨by omega, by simp [h]⟩
    | succ i =>
      have h : (zst0 l j)[i]? = some w := by simpa [zst0] using h
      rcases zst0_get l j i w h with ⟨h1, h2⟩ | ⟨h1, h2⟩
      · exact Or.inl ⟨by omega, h2⟩
      · exact Or.inr ⟨by omega, by simpa using h2⟩
theorem zinv_cat {z : Nat} {xa : Nat → Value} (hxa : ∀ k, (xa k).category = 1) {u : ZV} (h : zjunk (zinv u) = false) : zinv u = u ∧ (zc z xa u).category = 1 := by
  rcases u with x | x | r | k
  · exact ⟨rfl, rfl⟩
  · cases h
  · refine ⟨rfl, ?_⟩
    cases r <;> rfl
  · exact ⟨rfl, hxa k⟩
/-- a store of one slot -/
theorem zst1_has {z : Nat} {xa : Nat → Value} (hxa : ∀ k, (xa k).category = 1) {n : Nat} {lr : Array Slot} {ls : List ZV} {j : Nat} {v : ZV} {lv' : List (Nat × Value)} (hl : lv_has lr n lv') (he : (j, zc z xa v) :: (zpr z xa 0 ls).filter (fun q => !(q.1 == j) && !(q.1 + 1 == j && q.2.category == 2)) = lv') : lv_has lr n (zpr z xa 0 (zst1 ls j v)) := by
  refine ⟨hl.1, hl.2.1, fun q hq => hl.2.2 q ?_⟩
  obtain ⟨i, w, h1, h2, rfl⟩ := (zpr_mem _ 0).mp hq
  rw [← he]
  rcases zst1_get ls j v i w h1 with ⟨rfl, rfl⟩ | ⟨h3, u, h4, h5⟩
  · simp
  · refine List.mem_cons_of_mem _ (List.mem_filter.mpr ?_)
    rcases h5 with ⟨rfl, h6⟩ | ⟨rfl, h6⟩
    · refine ⟨(zpr_mem _ 0).mpr ⟨i, w, h4, h2, rfl⟩, ?_⟩
      simp only [Nat.zero_add, Bool.and_eq_true, Bool.not_eq_true', beq_eq_false_iff_ne, ne_eq, Bool.and_eq_false_iff]
      exact ⟨h3, Or.inl h6⟩
    · obtain ⟨h7, h8⟩ := zinv_cat (z := z) hxa h2
      rw [h7] at h2 ⊢
      refine ⟨(zpr_mem _ 0).mpr ⟨i, u, h4, h2, rfl⟩, ?_⟩
      simp only [Nat.zero_add, Bool.and_eq_true, Bool.not_eq_true', beq_eq_false_iff_ne, ne_eq, Bool.and_eq_false_iff]
      exact ⟨h3, Or.inr (by rw [h8]; decide)⟩
/-- a store of two -/
theorem zst2_has {z : Nat} {xa : Nat → Value} (hxa : ∀ k, (xa k).category = 1) {n : Nat} {lr : Array Slot} {ls : List ZV} {j : Nat} {v : ZV} {lv' : List (Nat × Value)} (hl : lv_has lr n lv') (he : (j, zc z xa v) :: (zpr z xa 0 ls).filter (fun q => !(q.1 == j) && (!(q.1 == j + 1) && !(q.1 + 1 == j && q.2.category == 2))) = lv') : lv_has lr n (zpr z xa 0 (zst2 ls j v)) := by
  refine ⟨hl.1, hl.2.1, fun q hq => hl.2.2 q ?_⟩
  obtain ⟨i, w, h1, h2, rfl⟩ := (zpr_mem _ 0).mp hq
  rw [← he]
  rcases zst0_get _ _ i w h1 with ⟨rfl, rfl⟩ | ⟨h0, h1⟩
  · cases h2
  rcases zst1_get ls j v i w h1 with ⟨rfl, rfl⟩ | ⟨h3, u, h4, h5⟩
  · simp
  · refine List.mem_cons_of_mem _ (List.mem_filter.mpr ?_)
    rcases h5 with ⟨rfl, h6⟩ | ⟨rfl, h6⟩
    · refine ⟨(zpr_mem _ 0).mpr ⟨i, w, h4, h2, rfl⟩, ?_⟩
      simp only [Nat.zero_add, Bool.and_eq_true, Bool.not_eq_true', beq_eq_false_iff_ne, ne_eq, Bool.and_eq_false_iff]
      exact ⟨h3, h0, Or.inl h6⟩
    · obtain ⟨h7, h8⟩ := zinv_cat (z := z) hxa h2
      rw [h7] at h2 ⊢
      refine ⟨(zpr_mem _ 0).mpr ⟨i, u, h4, h2, rfl⟩, ?_⟩
      simp only [Nat.zero_add, Bool.and_eq_true, Bool.not_eq_true', beq_eq_false_iff_ne, ne_eq, Bool.and_eq_false_iff]
      exact ⟨h3, h0, Or.inr (by rw [h8]; decide)⟩
theorem zst1_ok {c : Nat} {ls : List ZV} {j : Nat} {v : ZV} (h : ∀ w ∈ ls, zjunk w = true ∨ zvk c w) (hv : zvk c v) : ∀ w ∈ zst1 ls j v, zjunk w = true ∨ zvk c w := by
  intro w hw
  obtain ⟨i, hi⟩ := List.getElem?_of_mem hw
  rcases zst1_get ls j v i w hi with ⟨-, rfl⟩ | ⟨-, u, h4, h5⟩
  · exact Or.inr hv
  · rcases h5 with ⟨rfl, -⟩ | ⟨rfl, -⟩
    · exact h w (List.mem_of_getElem? h4)
    · rcases u with x | x | r | k
      · exact h _ (List.mem_of_getElem? h4)
      · exact Or.inl rfl
      · exact h _ (List.mem_of_getElem? h4)
      · exact h _ (List.mem_of_getElem? h4)
theorem zst2_ok {c : Nat} {ls : List ZV} {j : Nat} {v : ZV} (h : ∀ w ∈ ls, zjunk w = true ∨ zvk c w) (hv : zvk c v) : ∀ w ∈ zst2 ls j v, zjunk w = true ∨ zvk c w := by
  intro w hw
  obtain ⟨i, hi⟩ := List.getElem?_of_mem hw
  rcases zst0_get _ _ i w hi with ⟨-, rfl⟩ | ⟨-, h1⟩
  · exact Or.inl rfl
  · exact zst1_ok h hv w (List.mem_of_getElem? h1)
