/-! The reference: runs. -/
section
variable {X : ZX} {d c s : Nat} {I L : ZI} {R : ZR} {call : ZC} {w : Nat} {M : MD}
/-- the step at which the goal is come to from state t with lot x, n further steps at most, k before -/
noncomputable def mHeld (M : MD) (g : Nat) : Nat → Int → Int → Int → Int
  | 0, k, x, t => @ite _ (mGoal M g t) (Classical.propDecidable _) k (-1)
  | n + 1, k, x, t => @ite _ (mGoal M g t) (Classical.propDecidable _) k (mHeld M g n (k + 1) (mlot x) (mS M t (mdr M.1 (mlot x))))
theorem zu_lot {x y : Int} : zu (zu L 310 33 x) 310 33 y = zu L 310 33 y := zu_zu
theorem p_heldAt (hR : Rok R) (h : RefS I w M) (g : Int) (h0 : 0 ≤ g) (hg : g < M.2.2.2.length) (n i : Int) (hn : n < 1000) {Q : Option ZV × ZS → Prop} : ∀ (j : Nat) (k : Int) (f : Nat → Int) (x t : Int), (n - k).toNat = j → 0 ≤ k → k ≤ n → Now M f t → (∀ f x, Q (some (zi (mHeld M g.toNat j k x0 t)), (c, s, zW I 328 f, zu L 310 33 x, R))) → True := by
  sorry
end
