/-! Ways: both sides alike. -/
section
variable {M : MD} {W U F : Nat → Int} {g : Nat}
def sm (f : Nat → Int) : Nat → Int
  | 0 => 0
  | k + 1 => sm f k + f k
def NN (n : Nat) (f : Nat → Int) : Prop := ∀ k, k < n → 0 ≤ f k
theorem sm_nn {n : Nat} (h : NN n F) : ∀ k, k ≤ n → 0 ≤ sm F k := by
  intro k
  induction k with
  | zero => intro _; exact Int.le_refl 0
  | succ k ih => intro hk; have := ih (by omega); have := h k (by omega); unfold sm; omega
theorem sm_mono {n : Nat} (h : NN n F) : ∀ m, m ≤ n → ∀ k, k ≤ m → sm F k ≤ sm F m := by
  intro m
  induction m with
  | zero => intro _ k hk; rw [show k = 0 by omega]; exact Int.le_refl _
  | succ m ih =>
    intro hm k hk
    by_cases e : k = m + 1
    · rw [e]; exact Int.le_refl _
    · have := ih (by omega) k (by omega)
      have := h m (by omega)
      show sm F k ≤ sm F m + F m
      omega
theorem sm_le {n : Nat} (h : NN n F) {k : Nat} (hk : k < n) : F k ≤ sm F n := by
  have h1 := sm_mono h n (Nat.le_refl _) (k + 1) (by omega)
  have h2 := sm_nn h k (by omega)
  have : sm F (k + 1) = sm F k + F k := rfl
  omega
theorem sm_c {n : Nat} (h : Ag n F W) : ∀ k, k ≤ n → sm F k = sm W k := by
  intro k
  induction k with
  | zero => intro _; rfl
  | succ k ih => intro hk; show sm F k + F k = sm W k + W k; rw [ih (by omega), h k (by omega)]
theorem sm_add : ∀ n, sm (fun i => F i + W i) n = sm F n + sm W n := by
  intro n
  induction n with
  | zero => rfl
  | succ n ih => show sm _ n + (F n + W n) = sm F n + F n + (sm W n + W n); rw [ih]; omega
theorem sm_mul {y : Int} : ∀ n, sm (fun i => y * F i) n = y * sm F n := by
  intro n
  induction n with
  | zero => show 0 = y * 0; rw [Int.mul_zero]
  | succ n ih => show sm _ n + y * F n = y * (sm F n + F n); rw [ih, Int.mul_add]
theorem sm_0 : ∀ n, sm (fun _ => (0 : Int)) n = 0 := by
  intro n
  induction n with
  | zero => rfl
  | succ n ih => show sm _ n + 0 = 0; rw [ih]; rfl
theorem sm_one {m : Nat} {y : Int} : ∀ n, sm (fun i => if i = m then y else 0) n = if m < n then y else 0 := by
  intro n
  induction n with
  | zero => rw [if_neg (by omega)]; rfl
  | succ n ih =>
    show sm _ n + (if n = m then y else 0) = _
    rw [ih]
    by_cases e : n = m
    · rw [if_pos e, if_neg (by omega), if_pos (by omega), Int.zero_add]
    · rw [if_neg e, Int.add_zero]
      by_cases h : m < n
      · rw [if_pos h, if_pos (by omega)]
      · rw [if_neg h, if_neg (by omega)]
/-- how many of the lots from e on lead from t to i -/
noncomputable def hits (M : MD) (t : Int) : Nat → Int → Nat → Int
  | 0, _, _ => 0
  | j + 1, e, i => (if i = (mS M t e).toNat then 1 else 0) + hits M t j (e + 1) i
theorem hits_nn {t : Int} : ∀ (j : Nat) (e : Int) (i : Nat), 0 ≤ hits M t j e i := by
  intro j
  induction j with
  | zero => intro e i; exact Int.le_refl 0
  | succ j ih => intro e i; have := ih (e + 1) i; unfold hits; split <;> omega
theorem hits_sm (hk : MOK M) {t : Int} (ht : 0 ≤ t) : ∀ (j : Nat) (e : Int), sm (hits M t j e) (mN M) = j := by
  intro j
  induction j with
  | zero => intro e; exact sm_0 _
  | succ j ih =>
    intro e
    have hm := mS_in (M := M) hk.2.2.1 (d := e) ht
    show sm (fun i => (if i = (mS M t e).toNat then 1 else 0) + hits M t j (e + 1) i) (mN M) = _
    rw [sm_add (F := fun i => if i = (mS M t e).toNat then 1 else 0) (W := hits M t j (e + 1)), ih, sm_one, if_pos (by unfold mN; omega)]
    omega
theorem mulS {j : Nat} {y : Int} : ((j + 1 : Nat) : Int) * y = j * y + y := by
  rw [show ((j + 1 : Nat) : Int) = (j : Int) + 1 by omega, Int.add_mul, Int.one_mul]
theorem mAd_v (hk : MOK M) {t y : Int} (ht : 0 ≤ t) (hy : 0 ≤ y) : ∀ (j : Nat) (e : Int) (F : Nat → Int), NN (mN M) F → sm F (mN M) + j * y ≤ 1000000000000000000 → ∀ i, mAd M t y j e F i = F i + y * hits M t j e i := by
  intro j
  induction j with
  | zero => intro e F _ _ i; show F i = F i + y * 0; rw [Int.mul_zero, Int.add_zero]
  | succ j ih =>
    intro e F hF hs i
    have hm := mS_in (M := M) hk.2.2.1 (d := e) ht
    have hmN : (mS M t e).toNat < mN M := by unfold mN; omega
    have h1 := sm_le hF hmN
    have h2 := hF _ hmN
    rw [mulS] at hs
    have h3 : 0 ≤ (j : Int) * y := Int.mul_nonneg (by omega) hy
    unfold mAd hits
    have ez : zw6 (F (mS M t e).toNat + y) = F (mS M t e).toNat + y := zw6_id (by omega) (by omega)
    rw [ez]
    have eF : fU F (mS M t e).toNat (F (mS M t e).toNat + y) = fun i => F i + (if i = (mS M t e).toNat then y else 0) := by
      funext k
      unfold fU
      by_cases q : k = (mS M t e).toNat
      · rw [if_pos q, if_pos q, q]
      · rw [if_neg q, if_neg q, Int.add_zero]
    rw [eF, ih (e + 1) _ ?_ ?_ i]
    · show F i + (if i = (mS M t e).toNat then y else 0) + y * hits M t j (e + 1) i = _
      rw [Int.mul_add]
      by_cases q : i = (mS M t e).toNat
      · rw [if_pos q, if_pos q, Int.mul_one]; omega
      · rw [if_neg q, if_neg q, Int.mul_zero]; omega
    · intro k hk2
      have := hF k hk2
      show 0 ≤ F k + (if k = (mS M t e).toNat then y else 0)
      split <;> omega
    · rw [sm_add (F := F) (W := fun i => if i = (mS M t e).toNat then y else 0), sm_one, if_pos hmN]
      omega
/-- the ways that W gives in one step, from the states below n -/
noncomputable def tr (M : MD) (W : Nat → Int) : Nat → Nat → Int
  | 0, _ => 0
  | n + 1, i => tr M W n i + W n * hits M (n : Int) M.1.toNat 0 i
theorem tr_c {n : Nat} (h : Ag n W U) : ∀ k, k ≤ n → ∀ i, tr M W k i = tr M U k i := by
  intro k
  induction k with
  | zero => intro _ i; rfl
  | succ k ih => intro hk i; unfold tr; rw [ih (by omega), h k (by omega)]
theorem tr_nn {n : Nat} (h : NN n W) : ∀ k, k ≤ n → ∀ i, 0 ≤ tr M W k i := by
  intro k
  induction k with
  | zero => intro _ i; exact Int.le_refl 0
  | succ k ih =>
    intro hk i
    have := ih (by omega) i
    have := Int.mul_nonneg (h k (by omega)) (hits_nn (M := M) (t := (k : Int)) M.1.toNat 0 i)
    unfold tr
    omega
theorem tr_sm (hk : MOK M) : ∀ n, sm (tr M W n) (mN M) = M.1 * sm W n := by
  intro n
  have hl := hk.1
  induction n with
  | zero => show sm (fun _ => 0) _ = M.1 * 0; rw [sm_0, Int.mul_zero]
  | succ n ih =>
    show sm (fun i => tr M W n i + W n * hits M (n : Int) M.1.toNat 0 i) (mN M) = M.1 * (sm W n + W n)
    rw [sm_add (F := tr M W n) (W := fun i => W n * hits M (n : Int) M.1.toNat 0 i), ih, sm_mul, hits_sm hk (by omega), Int.mul_add, Int.mul_comm (W n), show ((M.1.toNat : Nat) : Int) = M.1 by omega]
theorem lot_mono (hk : MOK M) {x y : Int} (h : x ≤ y) : M.1 * x ≤ M.1 * y := Int.mul_le_mul_of_nonneg_left h (by have := hk.1; omega)
theorem mSt_v (hk : MOK M) (hW : NN (mN M) W) (hs : M.1 * sm W (mN M) ≤ 1000000000000000000) : ∀ (j k : Nat) (F : Nat → Int), mN M - k = j → k ≤ mN M → (∀ i, F i = tr M W k i) → ∀ i, mSt M W j k F i = tr M W (mN M) i := by
  intro j
  have hl := hk.1
  induction j with
  | zero => intro k F h1 h2 hF i; show F i = _; rw [hF i, show k = mN M by omega]
  | succ j ih =>
    intro k F h1 h2 hF i
    unfold mSt
    refine ih (k + 1) _ (by omega) (by omega) ?_ i
    intro i
    have hWk := hW k (by omega)
    show _ = tr M W k i + W k * hits M (k : Int) M.1.toNat 0 i
    by_cases q : 0 < W k
    · rw [if_pos q, mAd_v hk (by omega) hWk, hF i]
      · intro k2 hk2
        rw [hF k2]
        exact tr_nn hW k h2 k2
      · rw [show F = tr M W k from funext hF, tr_sm hk, show ((M.1.toNat : Nat) : Int) = M.1 by omega]
        have h3 := sm_mono hW (mN M) (Nat.le_refl _) (k + 1) (by omega)
        have h4 := lot_mono hk h3
        have h5 : M.1 * sm W (k + 1) = M.1 * sm W k + M.1 * W k := by show M.1 * (sm W k + W k) = _; rw [Int.mul_add]
        omega
    · rw [if_neg q, hF i, show W k = 0 by omega, Int.zero_mul, Int.add_zero]
theorem mStep_v (hk : MOK M) (hW : NN (mN M) W) (hs : M.1 * sm W (mN M) ≤ 1000000000000000000) : ∀ i, mStep M W i = tr M W (mN M) i := mSt_v hk hW hs _ 0 _ (by omega) (by omega) (fun i => rfl)
theorem cSt_m (hW : NN (mN M) W) : ∀ (j k : Nat) (F : Nat → Int), mN M - k = j → k ≤ mN M → cSt M (-1) W j k F = mSt M W j k F := by
  intro j
  induction j with
  | zero => intro k F _ _; rfl
  | succ j ih =>
    intro k F h1 h2
    have := hW k (by omega)
    unfold cSt mSt
    rw [ih (k + 1) _ (by omega) (by omega)]
    by_cases q : W k = 0
    · rw [if_pos q, if_neg (by omega)]
    · rw [if_neg q, if_pos (by omega)]
      unfold cSf
      rw [if_neg (fun z => z.1 rfl)]
theorem steps_eq (hk : MOK M) : ∀ (j : Nat) (W : Nat → Int), NN (mN M) W → M.1 ^ j * sm W (mN M) ≤ 1000000000000000000 → cSteps M (-1) j W = mSteps M j W := by
  intro j
  have hl := hk.1
  induction j with
  | zero => intro W _ _; rfl
  | succ j ih =>
    intro W hW hs
    have hp : 1 ≤ M.1 ^ j := Int.pow_pos (by omega)
    have h0 := sm_nn hW _ (Nat.le_refl _)
    have h1 : 0 ≤ M.1 * sm W (mN M) := Int.mul_nonneg (by omega) h0
    rw [Int.pow_succ, Int.mul_assoc] at hs
    have h2 : M.1 * sm W (mN M) ≤ 1000000000000000000 := by
      have := Int.mul_le_mul_of_nonneg_right hp h1
      rw [Int.one_mul] at this
      omega
    have e : cStep M (-1) W = mStep M W := cSt_m hW _ 0 _ (by omega) (by omega)
    have ev := mStep_v hk hW h2
    unfold cSteps mSteps
    rw [e]
    refine ih _ ?_ ?_
    · intro k hk2
      rw [ev]
      exact tr_nn hW _ (Nat.le_refl _) k
    · rw [show mStep M W = tr M W (mN M) from funext ev, tr_sm hk]
      exact hs
theorem tot_eq {v : Nat} : ∀ (j k : Nat) (y : Int), zw6 y = y → cTo M v W j k y = mSm M v W j k y := by
  intro j
  induction j with
  | zero => intro k y _; rfl
  | succ j ih =>
    intro k y hy
    unfold cTo mSm
    by_cases q : W k = 0
    · rw [if_pos q, q, Int.zero_mul, zw6_0, Int.add_zero, hy]
      exact ih (k + 1) y hy
    · rw [if_neg q]
      exact ih (k + 1) _ zw6_zw6
/-- W off the goal, at the goal -/
noncomputable def nG (M : MD) (g : Nat) (W : Nat → Int) : Nat → Int := fun i => @ite _ (mGoal M g (i : Int)) (Classical.propDecidable _) 0 (W i)
noncomputable def yG (M : MD) (g : Nat) (W : Nat → Int) : Nat → Int := fun i => @ite _ (mGoal M g (i : Int)) (Classical.propDecidable _) (W i) 0
theorem nG_p {i : Nat} (h : mGoal M g (i : Int)) : nG M g W i = 0 := if_pos h
theorem nG_n {i : Nat} (h : ¬ mGoal M g (i : Int)) : nG M g W i = W i := if_neg h
theorem yG_p {i : Nat} (h : mGoal M g (i : Int)) : yG M g W i = W i := if_pos h
theorem yG_n {i : Nat} (h : ¬ mGoal M g (i : Int)) : yG M g W i = 0 := if_neg h
theorem ny_a (i : Nat) : nG M g W i + yG M g W i = W i := by
  by_cases h : mGoal M g (i : Int)
  · rw [nG_p h, yG_p h, Int.zero_add]
  · rw [nG_n h, yG_n h, Int.add_zero]
theorem nG_nn {n : Nat} (h : NN n W) : NN n (nG M g W) := fun k hk => by
  by_cases q : mGoal M g (k : Int)
  · rw [nG_p q]; exact Int.le_refl 0
  · rw [nG_n q]; exact h k hk
theorem yG_nn {n : Nat} (h : NN n W) : NN n (yG M g W) := fun k hk => by
  by_cases q : mGoal M g (k : Int)
  · rw [yG_p q]; exact h k hk
  · rw [yG_n q]; exact Int.le_refl 0
theorem ny_sm (n : Nat) : sm (nG M g W) n + sm (yG M g W) n = sm W n := by
  rw [← sm_add (F := nG M g W) (W := yG M g W)]
  exact sm_c (n := n) (fun k _ => ny_a k) n (Nat.le_refl _)
theorem cSt_v (hk : MOK M) (hW : NN (mN M) W) (hs : M.1 * sm W (mN M) ≤ 1000000000000000000) : ∀ (j k : Nat) (F : Nat → Int), mN M - k = j → k ≤ mN M → NN (mN M) F → sm F (mN M) = M.1 * sm W k → (∀ i, F i = tr M (nG M g W) k i + if i < k then M.1 * yG M g W i else 0) → (∀ i, cSt M (g : Int) W j k F i = tr M (nG M g W) (mN M) i + if i < mN M then M.1 * yG M g W i else 0) ∧ NN (mN M) (cSt M (g : Int) W j k F) ∧ sm (cSt M (g : Int) W j k F) (mN M) = M.1 * sm W (mN M) := by
  intro j
  have hl := hk.1
  induction j with
  | zero =>
    intro k F h1 h2 hF hm hv
    have e : k = mN M := by omega
    rw [e] at hm hv
    exact ⟨hv, hF, hm⟩
  | succ j ih =>
    intro k F h1 h2 hF hm hv
    have hWk := hW k (by omega)
    have h3 := sm_mono hW (mN M) (Nat.le_refl _) (k + 1) (by omega)
    have h4 := lot_mono hk h3
    have h5 : M.1 * sm W (k + 1) = M.1 * sm W k + M.1 * W k := by show M.1 * (sm W k + W k) = _; rw [Int.mul_add]
    have hlW : 0 ≤ M.1 * W k := Int.mul_nonneg (by omega) hWk
    unfold cSt
    have go : ∀ G, NN (mN M) G → sm G (mN M) = M.1 * sm W (k + 1) → (∀ i, G i = tr M (nG M g W) (k + 1) i + if i < k + 1 then M.1 * yG M g W i else 0) → _ := fun G => ih (k + 1) G (by omega) (by omega)
    by_cases q0 : W k = 0
    · rw [if_pos q0]
      refine go F hF (by rw [h5, q0, Int.mul_zero, Int.add_zero]; exact hm) ?_
      intro i
      rw [hv i]
      rw [show tr M (nG M g W) (k + 1) i = tr M (nG M g W) k i + nG M g W k * hits M (k : Int) M.1.toNat 0 i from rfl]
      have en : nG M g W k = 0 := by
        by_cases q : mGoal M g (k : Int)
        · exact nG_p q
        · rw [nG_n q, q0]
      have ey : yG M g W k = 0 := by
        by_cases q : mGoal M g (k : Int)
        · rw [yG_p q, q0]
        · exact yG_n q
      rw [en, Int.zero_mul, Int.add_zero]
      by_cases e1 : i < k
      · rw [if_pos e1, if_pos (by omega)]
      · by_cases e2 : i = k
        · rw [if_neg e1, if_pos (by omega), e2, ey, Int.mul_zero]
        · rw [if_neg e1, if_neg (by omega)]
    · rw [if_neg q0]
      unfold cSf
      by_cases hg : mGoal M g (k : Int)
      · rw [if_pos ⟨by omega, by rw [Int.toNat_natCast]; exact hg⟩, Int.toNat_natCast]
        have hFk := sm_le hF (show k < mN M by omega)
        have hF0 := hF k (by omega)
        have e1 : zw6 (W k * M.1) = M.1 * W k := by rw [Int.mul_comm]; exact zw6_id (by omega) (by omega)
        have e2 : zw6 (F k + M.1 * W k) = F k + M.1 * W k := zw6_id (by omega) (by omega)
        rw [e1, e2]
        have eF : fU F k (F k + M.1 * W k) = fun i => F i + (if i = k then M.1 * W k else 0) := by
          funext i
          unfold fU
          by_cases q : i = k
          · rw [if_pos q, if_pos q, q]
          · rw [if_neg q, if_neg q, Int.add_zero]
        rw [eF]
        refine go _ ?_ ?_ ?_
        · intro i hi
          have := hF i hi
          show 0 ≤ F i + (if i = k then M.1 * W k else 0)
          split <;> omega
        · rw [sm_add (F := F) (W := fun i => if i = k then M.1 * W k else 0), sm_one, if_pos (by omega), hm, h5]
        · intro i
          show F i + (if i = k then M.1 * W k else 0) = _
          rw [hv i]
          rw [show tr M (nG M g W) (k + 1) i = tr M (nG M g W) k i + nG M g W k * hits M (k : Int) M.1.toNat 0 i from rfl]
          rw [nG_p hg, Int.zero_mul, Int.add_zero]
          by_cases e1 : i < k
          · rw [if_pos e1, if_neg (show ¬ i = k by omega), if_pos (show i < k + 1 by omega), Int.add_zero]
          · by_cases e2 : i = k
            · rw [if_neg e1, if_pos e2, if_pos (show i < k + 1 by omega), e2, yG_p hg, Int.add_zero]
            · rw [if_neg e1, if_neg e2, if_neg (show ¬ i < k + 1 by omega), Int.add_zero]
      · rw [if_neg (fun z => hg (by have := z.2; rw [Int.toNat_natCast] at this; exact this))]
        have em : sm F (mN M) + (M.1.toNat : Int) * W k ≤ 1000000000000000000 := by
          rw [show ((M.1.toNat : Nat) : Int) = M.1 by omega, hm]; omega
        have ev := mAd_v hk (t := (k : Int)) (by omega) hWk M.1.toNat 0 F hF em
        have eF : mAd M (k : Int) (W k) M.1.toNat 0 F = fun i => F i + W k * hits M (k : Int) M.1.toNat 0 i := funext ev
        rw [eF]
        refine go _ ?_ ?_ ?_
        · intro i hi
          have h6 := hF i hi
          have h7 := Int.mul_nonneg hWk (hits_nn (M := M) (t := (k : Int)) M.1.toNat 0 i)
          show 0 ≤ F i + W k * hits M (k : Int) M.1.toNat 0 i
          omega
        · rw [sm_add (F := F) (W := fun i => W k * hits M (k : Int) M.1.toNat 0 i), sm_mul, hits_sm hk (by omega), hm, h5, show ((M.1.toNat : Nat) : Int) = M.1 by omega, Int.mul_comm (W k)]
        · intro i
          show F i + W k * hits M (k : Int) M.1.toNat 0 i = _
          rw [hv i]
          rw [show tr M (nG M g W) (k + 1) i = tr M (nG M g W) k i + nG M g W k * hits M (k : Int) M.1.toNat 0 i from rfl]
          rw [nG_n hg]
          by_cases e1 : i < k
          · rw [if_pos e1, if_pos (by omega)]; omega
          · by_cases e2 : i = k
            · rw [if_neg e1, if_pos (by omega), e2, yG_n hg, Int.mul_zero]; omega
            · rw [if_neg e1, if_neg (by omega)]; omega
theorem cHo_v (hW : NN (mN M) W) (hs : sm W (mN M) ≤ 1000000000000000000) : ∀ (j k : Nat) (y : Int), mN M - k = j → k ≤ mN M → y = sm (yG M g W) k → cHo M g W j k y = sm (yG M g W) (mN M) := by
  intro j
  have hy := yG_nn (M := M) (g := g) hW
  have ht := ny_sm (M := M) (g := g) (W := W) (mN M)
  have hn := sm_nn (nG_nn (M := M) (g := g) hW) _ (Nat.le_refl _)
  induction j with
  | zero => intro k y h1 h2 h3; show y = _; rw [h3, show k = mN M by omega]
  | succ j ih =>
    intro k y h1 h2 h3
    have h4 := sm_mono hy (mN M) (Nat.le_refl _) (k + 1) (by omega)
    have h5 : sm (yG M g W) (k + 1) = sm (yG M g W) k + yG M g W k := rfl
    have h6 := sm_nn hy k h2
    have h7 := hy k (by omega)
    unfold cHo
    refine ih (k + 1) _ (by omega) (by omega) ?_
    rw [h5]
    by_cases q : W k ≠ 0 ∧ mGoal M g (k : Int)
    · rw [if_pos q, yG_p q.2, h3]
      rw [yG_p q.2] at h5 h7
      exact zw6_id (by omega) (by omega)
    · rw [if_neg q, h3]
      have : yG M g W k = 0 := by
        by_cases z : mGoal M g (k : Int)
        · rw [yG_p z]; exact Decidable.byContradiction (fun u => q ⟨u, z⟩)
        · exact yG_n z
      omega
theorem mClr_v : ∀ (j k : Nat) (h : Int) (W : Nat → Int), mN M - k = j → k ≤ mN M → NN (mN M) W → 0 ≤ h → h + sm W (mN M) ≤ 1000000000000000000 → (mClr M g j k h W).1 = h + (sm (yG M g W) (mN M) - sm (yG M g W) k) ∧ ∀ i, i < mN M → (mClr M g j k h W).2 i = if k ≤ i then nG M g W i else W i := by
  intro j
  induction j with
  | zero =>
    intro k h W h1 h2 hW h0 hs
    have e : k = mN M := by omega
    refine ⟨?_, fun i hi => ?_⟩
    · show h = _
      rw [e]; omega
    · show W i = _
      rw [if_neg (by omega)]
  | succ j ih =>
    intro k h W h1 h2 hW h0 hs
    have hWk := hW k (by omega)
    have hle := sm_le hW (show k < mN M by omega)
    unfold mClr
    by_cases q : 0 < W k ∧ mGoal M g (k : Int)
    · rw [if_pos q]
      have ez : zw6 (h + W k) = h + W k := zw6_id (by omega) (by omega)
      rw [ez]
      have eU : fU W k 0 = fun i => W i + (if i = k then - W k else 0) := by
        funext i
        unfold fU
        by_cases z : i = k
        · rw [if_pos z, if_pos z, z]; omega
        · rw [if_neg z, if_neg z, Int.add_zero]
      have hU : NN (mN M) (fU W k 0) := fun i hi => by
        unfold fU
        split
        · exact Int.le_refl 0
        · exact hW i hi
      have sU : sm (fU W k 0) (mN M) = sm W (mN M) - W k := by
        rw [eU, sm_add (F := W) (W := fun i => if i = k then - W k else 0), sm_one, if_pos (by omega)]; omega
      have yU : yG M g (fU W k 0) = fun i => yG M g W i + (if i = k then - W k else 0) := by
        funext i
        by_cases z : i = k
        · rw [if_pos z, z, yG_p q.2, yG_p q.2]
          show fU W k 0 k = _
          unfold fU
          rw [if_pos rfl]; omega
        · rw [if_neg z, Int.add_zero]
          by_cases zg : mGoal M g (i : Int)
          · rw [yG_p zg, yG_p zg]; exact if_neg z
          · rw [yG_n zg, yG_n zg]
      have r := ih (k + 1) (h + W k) (fU W k 0) (by omega) (by omega) hU (by omega) (by rw [sU]; omega)
      refine ⟨?_, fun i hi => ?_⟩
      · rw [r.1, yU, sm_add (F := yG M g W) (W := fun i => if i = k then - W k else 0), sm_add (F := yG M g W) (W := fun i => if i = k then - W k else 0), sm_one, sm_one, if_pos (by omega), if_pos (by omega)]
        have : sm (yG M g W) (k + 1) = sm (yG M g W) k + W k := by show _ + yG M g W k = _; rw [yG_p q.2]
        omega
      · rw [r.2 i hi]
        by_cases z : k + 1 ≤ i
        · rw [if_pos z, if_pos (by omega)]
          by_cases zg : mGoal M g (i : Int)
          · rw [nG_p zg, nG_p zg]
          · rw [nG_n zg, nG_n zg]; exact if_neg (by omega)
        · rw [if_neg z]
          by_cases z2 : i = k
          · rw [if_pos (by omega), z2, nG_p q.2]; exact if_pos rfl
          · rw [if_neg (by omega)]; exact if_neg z2
    · rw [if_neg q]
      have r := ih (k + 1) h W (by omega) (by omega) hW h0 hs
      have ey : yG M g W k = 0 := by
        by_cases z : mGoal M g (k : Int)
        · rw [yG_p z]; exact Int.le_antisymm (Int.not_lt.mp (fun u => q ⟨u, z⟩)) hWk
        · exact yG_n z
      refine ⟨?_, fun i hi => ?_⟩
      · rw [r.1]
        have : sm (yG M g W) (k + 1) = sm (yG M g W) k + 0 := by show _ + yG M g W k = _; rw [ey]
        omega
      · rw [r.2 i hi]
        by_cases z : k + 1 ≤ i
        · rw [if_pos z, if_pos (by omega)]
        · rw [if_neg z]
          by_cases z2 : i = k
          · rw [if_pos (by omega), z2]
            by_cases zg : mGoal M g (k : Int)
            · rw [nG_p zg]; exact Int.le_antisymm (Int.not_lt.mp (fun u => q ⟨u, zg⟩)) hWk
            · rw [nG_n zg]
          · rw [if_neg (by omega)]
theorem ex_eq (hk : MOK M) : ∀ (j : Nat) (W V : Nat → Int) (h : Int), NN (mN M) W → M.1 ^ j * sm W (mN M) ≤ 1000000000000000000 → Ag (mN M) V (nG M g W) → h = sm (yG M g W) (mN M) → mEx M g j h V = cHo M g (cSteps M (g : Int) j W) (mN M) 0 0 := by
  intro j
  have hl := hk.1
  induction j with
  | zero =>
    intro W V h hW hs hV hh
    rw [Int.pow_zero, Int.one_mul] at hs
    show h = cHo M g W (mN M) 0 0
    rw [cHo_v hW hs _ 0 0 (by omega) (by omega) rfl, hh]
  | succ j ih =>
    intro W V h hW hs hV hh
    have hp : 1 ≤ M.1 ^ j := Int.pow_pos (by omega)
    have h0 := sm_nn hW _ (Nat.le_refl _)
    have h1 : 0 ≤ M.1 * sm W (mN M) := Int.mul_nonneg (by omega) h0
    rw [Int.pow_succ, Int.mul_assoc] at hs
    have h2 : M.1 * sm W (mN M) ≤ 1000000000000000000 := by
      have := Int.mul_le_mul_of_nonneg_right hp h1
      rw [Int.one_mul] at this
      omega
    have hn := nG_nn (M := M) (g := g) hW
    have hy := yG_nn (M := M) (g := g) hW
    have hy0 := sm_nn hy _ (Nat.le_refl _)
    have hn0 := sm_nn hn _ (Nat.le_refl _)
    have hny := ny_sm (M := M) (g := g) (W := W) (mN M)
    have h3 : M.1 * sm W (mN M) = M.1 * sm (nG M g W) (mN M) + M.1 * sm (yG M g W) (mN M) := by rw [← Int.mul_add, hny]
    have h4 : 0 ≤ M.1 * sm (nG M g W) (mN M) := Int.mul_nonneg (by omega) hn0
    have h5 : 0 ≤ M.1 * sm (yG M g W) (mN M) := Int.mul_nonneg (by omega) hy0
    have hVn : NN (mN M) V := fun k hk2 => by rw [hV k hk2]; exact hn k hk2
    have sV : sm V (mN M) = sm (nG M g W) (mN M) := sm_c hV _ (Nat.le_refl _)
    have ev : ∀ i, mStep M V i = tr M (nG M g W) (mN M) i := fun i => by
      rw [mStep_v hk hVn (by rw [sV]; omega) i]
      exact tr_c hV _ (Nat.le_refl _) i
    have eS : mStep M V = tr M (nG M g W) (mN M) := funext ev
    have cv := cSt_v (g := g) hk hW h2 (mN M) 0 (fun _ => 0) (by omega) (by omega) (fun k _ => Int.le_refl 0) (by rw [sm_0]; show 0 = M.1 * 0; rw [Int.mul_zero]) (fun i => by show 0 = 0 + _; rw [if_neg (by omega)]; rfl)
    have eC : cStep M (g : Int) W = cSt M (g : Int) W (mN M) 0 (fun _ => 0) := rfl
    rw [← eC] at cv
    have hU := tr_nn (M := M) hn _ (Nat.le_refl _)
    have eh : zw6 (h * M.1) = M.1 * sm (yG M g W) (mN M) := by rw [hh, Int.mul_comm]; exact zw6_id (by omega) (by omega)
    have mc := mClr_v (M := M) (g := g) (mN M) 0 (M.1 * sm (yG M g W) (mN M)) (tr M (nG M g W) (mN M)) (by omega) (by omega) (fun k _ => hU k) h5 (by rw [tr_sm hk]; omega)
    unfold mEx cSteps
    rw [eh, eS]
    refine ih (cStep M (g : Int) W) _ _ cv.2.1 (by rw [cv.2.2]; exact hs) ?_ ?_
    · intro i hi
      rw [mc.2 i hi, if_pos (by omega)]
      by_cases q : mGoal M g (i : Int)
      · rw [nG_p q, nG_p q]
      · rw [nG_n q, nG_n q, cv.1 i, if_pos hi, yG_n q, Int.mul_zero, Int.add_zero]
    · rw [mc.1]
      have : Ag (mN M) (yG M g (cStep M (g : Int) W)) (fun i => yG M g (tr M (nG M g W) (mN M)) i + M.1 * yG M g W i) := by
        intro i hi
        by_cases q : mGoal M g (i : Int)
        · rw [yG_p q, cv.1 i, if_pos hi]
          show _ = yG M g (tr M (nG M g W) (mN M)) i + M.1 * yG M g W i
          rw [yG_p q, yG_p q]
        · rw [yG_n q]
          show _ = yG M g (tr M (nG M g W) (mN M)) i + M.1 * yG M g W i
          rw [yG_n q, yG_n q, Int.mul_zero]; rfl
      rw [sm_c this _ (Nat.le_refl _), sm_add (F := yG M g (tr M (nG M g W) (mN M))) (W := fun i => M.1 * yG M g W i), sm_mul]
      show _ + (_ - 0) = _
      omega
def cPw (lots b : Int) : Nat → Int → Int
  | 0, _ => 0
  | j + 1, v => if b / lots < v then 1 else cPw lots b j (zw6 (v * lots))
theorem cPw_m {lots b : Int} (hl : 1 ≤ lots) (hb : b ≤ 1000000000000000000) : ∀ (j : Nat) (v : Int), 0 < v → v ≤ b → (cPw lots b j v = 1 ∧ mPow lots b j v < 0) ∨ (cPw lots b j v = 0 ∧ ¬ mPow lots b j v < 0 ∧ lots ^ j * v ≤ b) := by
  intro j
  induction j with
  | zero => intro v h0 h1; refine Or.inr ⟨rfl, ?_, ?_⟩; show ¬ v < 0; omega; rw [Int.pow_zero, Int.one_mul]; exact h1
  | succ j ih =>
    intro v h0 h1
    unfold cPw mPow
    rw [if_pos h0]
    by_cases q : b / lots < v
    · rw [if_pos q, if_pos q]
      refine Or.inl ⟨rfl, ?_⟩
      cases j with
      | zero => show (-1 : Int) < 0; omega
      | succ j => unfold mPow; rw [if_neg (by omega)]; omega
    · rw [if_neg q, if_neg q]
      have h2 : v * lots ≤ b := by
        have := Int.mul_le_mul_of_nonneg_right (Int.not_lt.mp q) (show 0 ≤ lots by omega)
        have h3 := Int.ediv_mul_le b (show lots ≠ 0 by omega)
        omega
      have h4 : 0 < v * lots := Int.mul_pos h0 (by omega)
      rw [zw6_id (by omega) (by omega)]
      rcases ih (v * lots) h4 h2 with r | r
      · exact Or.inl r
      · refine Or.inr ⟨r.1, r.2.1, ?_⟩
        rw [Int.pow_succ, Int.mul_assoc, Int.mul_comm lots]
        exact r.2.2
theorem W0_nn : NN (mN M) (mW0 M) := fun k _ => by
  unfold mW0 fU
  split
  · omega
  · exact Int.le_refl 0
theorem W0_sm (hk : MOK M) : sm (mW0 M) (mN M) = 1 := by
  have hs := mS0_in (M := M) hk.2.2.1
  have : mW0 M = fun i => if i = (mS0 M).toNat then 1 else 0 := rfl
  rw [this, sm_one, if_pos (by unfold mN; omega)]
theorem exact_eq (hk : MOK M) (n : Int) (h : M.1 ^ n.toNat ≤ 1000000000000000000) : mExact M (g : Int) n = cHo M g (cSteps M (g : Int) n.toNat (mW0 M)) (mN M) 0 0 := by
  have h1 := W0_nn (M := M)
  have h2 := W0_sm hk
  have mc := mClr_v (M := M) (g := g) (mN M) 0 0 (mW0 M) (by omega) (by omega) h1 (by omega) (by rw [h2]; omega)
  unfold mExact
  rw [Int.toNat_natCast]
  refine ex_eq hk n.toNat (mW0 M) _ _ h1 (by rw [h2, Int.mul_one]; exact h) ?_ ?_
  · intro i hi
    rw [mc.2 i hi, if_pos (by omega)]
  · rw [mc.1]
    show 0 + (_ - 0) = _
    omega
theorem sum_eq (hk : MOK M) {v : Nat} (n : Int) (h : M.1 ^ n.toNat ≤ 1000000000000000000) : mSm M v (mSteps M n.toNat (mW0 M)) (mN M) 0 0 = cTo M v (cSteps M (-1) n.toNat (mW0 M)) (mN M) 0 0 := by
  rw [tot_eq _ _ _ zw6_0, steps_eq hk n.toNat (mW0 M) W0_nn (by rw [W0_sm hk, Int.mul_one]; exact h)]
end
