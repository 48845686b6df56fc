/-! The rules in the form in which a program lays them, instruction by instruction. -/
section
variable {X : ZX} {call : ZC} {M : ZM} {pc q t : Nat} {ls l1 st : List ZV} {σ : ZS} {Q : Option ZV × ZS → Prop} {c s : Nat} {I L : ZI} {R : ZR}
theorem W_iload {j : Nat} {x : Int} (hd : decode M.1 pc = .ok (.iload j, 2)) (hq : pc + 2 = q) (hg : zg ls j = zi x) : V X call M pc ls st σ Q ↔ V X call M q ls (zi x :: st) σ Q := by
  rw [V_iload hd hq, hg]
  rfl
theorem W_iload_n {k : Fin 4} {j : Nat} {x : Int} (hd : decode M.1 pc = .ok (.iload_n k, 1)) (hj : (k : Nat) = j) (hq : pc + 1 = q) (hg : zg ls j = zi x) : V X call M pc ls st σ Q ↔ V X call M q ls (zi x :: st) σ Q := by
  rw [V_iload_n hd hj hq, hg]
  rfl
theorem W_lload {j : Nat} {x : Int} (hd : decode M.1 pc = .ok (.lload j, 2)) (hq : pc + 2 = q) (hg : zg ls j = zl x) : V X call M pc ls st σ Q ↔ V X call M q ls (zl x :: st) σ Q := by
  rw [V_lload hd hq, hg]
  rfl
theorem W_lload_n {k : Fin 4} {j : Nat} {x : Int} (hd : decode M.1 pc = .ok (.lload_n k, 1)) (hj : (k : Nat) = j) (hq : pc + 1 = q) (hg : zg ls j = zl x) : V X call M pc ls st σ Q ↔ V X call M q ls (zl x :: st) σ Q := by
  rw [V_lload_n hd hj hq, hg]
  rfl
theorem W_aload {j : Nat} {x : Option Nat} (hd : decode M.1 pc = .ok (.aload j, 2)) (hq : pc + 2 = q) (hg : zg ls j = zr x) : V X call M pc ls st σ Q ↔ V X call M q ls (zr x :: st) σ Q := by
  rw [V_aload hd hq, hg]
  rfl
theorem W_aload_n {k : Fin 4} {j : Nat} {x : Option Nat} (hd : decode M.1 pc = .ok (.aload_n k, 1)) (hj : (k : Nat) = j) (hq : pc + 1 = q) (hg : zg ls j = zr x) : V X call M pc ls st σ Q ↔ V X call M q ls (zr x :: st) σ Q := by
  rw [V_aload_n hd hj hq, hg]
  rfl
theorem W_aloadx {j : Nat} {x : Nat} (hd : decode M.1 pc = .ok (.aload j, 2)) (hq : pc + 2 = q) (hg : zg ls j = zx (x + 1)) : V X call M pc ls st σ Q ↔ V X call M q ls (zx (x + 1) :: st) σ Q := by
  rw [V_aload hd hq, hg]
  rfl
theorem W_aloadx_n {k : Fin 4} {j : Nat} {x : Nat} (hd : decode M.1 pc = .ok (.aload_n k, 1)) (hj : (k : Nat) = j) (hq : pc + 1 = q) (hg : zg ls j = zx (x + 1)) : V X call M pc ls st σ Q ↔ V X call M q ls (zx (x + 1) :: st) σ Q := by
  rw [V_aload_n hd hj hq, hg]
  rfl
theorem W_istore {j : Nat} {x : Int} (hd : decode M.1 pc = .ok (.istore j, 2)) (hq : pc + 2 = q) (hl : j < ls.length) (h1 : zst1 ls j (zi x) = l1) : V X call M pc ls (zi x :: st) σ Q ↔ V X call M q l1 st σ Q := by
  rw [V_istore hd hq hl, h1]
theorem W_istore_n {k : Fin 4} {j : Nat} {x : Int} (hd : decode M.1 pc = .ok (.istore_n k, 1)) (hj : (k : Nat) = j) (hq : pc + 1 = q) (hl : j < ls.length) (h1 : zst1 ls j (zi x) = l1) : V X call M pc ls (zi x :: st) σ Q ↔ V X call M q l1 st σ Q := by
  rw [V_istore_n hd hj hq hl, h1]
theorem W_lstore {j : Nat} {x : Int} (hd : decode M.1 pc = .ok (.lstore j, 2)) (hq : pc + 2 = q) (hl : j + 1 < ls.length) (h1 : zst2 ls j (zl x) = l1) : V X call M pc ls (zl x :: st) σ Q ↔ V X call M q l1 st σ Q := by
  rw [V_lstore hd hq hl, h1]
theorem W_lstore_n {k : Fin 4} {j : Nat} {x : Int} (hd : decode M.1 pc = .ok (.lstore_n k, 1)) (hj : (k : Nat) = j) (hq : pc + 1 = q) (hl : j + 1 < ls.length) (h1 : zst2 ls j (zl x) = l1) : V X call M pc ls (zl x :: st) σ Q ↔ V X call M q l1 st σ Q := by
  rw [V_lstore_n hd hj hq hl, h1]
theorem W_astore {j : Nat} {x : Option Nat} (hd : decode M.1 pc = .ok (.astore j, 2)) (hq : pc + 2 = q) (hl : j < ls.length) (h1 : zst1 ls j (zr x) = l1) : V X call M pc ls (zr x :: st) σ Q ↔ V X call M q l1 st σ Q := by
  rw [V_astore hd hq hl, h1]
theorem W_astore_n {k : Fin 4} {j : Nat} {x : Option Nat} (hd : decode M.1 pc = .ok (.astore_n k, 1)) (hj : (k : Nat) = j) (hq : pc + 1 = q) (hl : j < ls.length) (h1 : zst1 ls j (zr x) = l1) : V X call M pc ls (zr x :: st) σ Q ↔ V X call M q l1 st σ Q := by
  rw [V_astore_n hd hj hq hl, h1]
theorem W_iinc {j : Nat} {x n : Int} (hd : decode M.1 pc = .ok (.iinc j n, 3)) (hq : pc + 3 = q) (hl : j < ls.length) (hg : zg ls j = zi x) (h1 : zst1 ls j (zi (zw3 (x + n))) = l1) : V X call M pc ls st σ Q ↔ V X call M q l1 st σ Q := by
  rw [V_iinc hd hq hl, hg]
  show V X call M q (zst1 ls j (zi (zw3 (x + n)))) st σ Q ↔ _
  rw [h1]
theorem W_getI {ix ci f w a : Nat} (hd : decode M.1 pc = .ok (.getfield ix, 3)) (hl : zfl M.2.1 ix = some (ci, f, 0, w)) (ht : ci + 10 = t) (hq : pc + 3 = q) : V X call M pc ls (zr (some a) :: st) (c, s, I, L, R) Q ↔ (zT a).1 = t ∧ V X call M q ls (zi (I a f) :: st) (c, s, I, L, R) Q := by
  rw [← ht]
  exact V_getI hd hl hq
theorem W_getL {ix ci f w a : Nat} (hd : decode M.1 pc = .ok (.getfield ix, 3)) (hl : zfl M.2.1 ix = some (ci, f, 1, w)) (ht : ci + 10 = t) (hq : pc + 3 = q) : V X call M pc ls (zr (some a) :: st) (c, s, I, L, R) Q ↔ (zT a).1 = t ∧ V X call M q ls (zl (L a f) :: st) (c, s, I, L, R) Q := by
  rw [← ht]
  exact V_getL hd hl hq
theorem W_getR {ix ci f w a : Nat} (hd : decode M.1 pc = .ok (.getfield ix, 3)) (hl : zfl M.2.1 ix = some (ci, f, 2, w)) (ht : ci + 10 = t) (hq : pc + 3 = q) : V X call M pc ls (zr (some a) :: st) (c, s, I, L, R) Q ↔ (zT a).1 = t ∧ V X call M q ls (zr (R a f) :: st) (c, s, I, L, R) Q := by
  rw [← ht]
  exact V_getR hd hl hq
theorem W_putI {ix ci f w a k : Nat} {x : Int} (hd : decode M.1 pc = .ok (.putfield ix, 3)) (hl : zfl M.2.1 ix = some (ci, f, 0, w)) (hw : w < 10 ∨ (M.2.2 = 9 ∧ M.2.1 = ci)) (ht : ci + 10 = t) (hk : w % 10 = k) (hq : pc + 3 = q) : V X call M pc ls (zi x :: zr (some a) :: st) (c, s, I, L, R) Q ↔ ((zT a).1 = t ∧ zok k x = true) ∧ V X call M q ls st (c, s, zu I a f x, L, R) Q := by
  rw [← ht, ← hk]
  exact V_putI hd hl hw hq
theorem W_putL {ix ci f w a : Nat} {x : Int} (hd : decode M.1 pc = .ok (.putfield ix, 3)) (hl : zfl M.2.1 ix = some (ci, f, 1, w)) (hw : w < 10 ∨ (M.2.2 = 9 ∧ M.2.1 = ci)) (ht : ci + 10 = t) (hq : pc + 3 = q) : V X call M pc ls (zl x :: zr (some a) :: st) (c, s, I, L, R) Q ↔ (zT a).1 = t ∧ V X call M q ls st (c, s, I, zu L a f x, R) Q := by
  rw [← ht]
  exact V_putL hd hl hw hq
theorem W_putR {ix ci f w a : Nat} {x : Option Nat} (hd : decode M.1 pc = .ok (.putfield ix, 3)) (hl : zfl M.2.1 ix = some (ci, f, 2, w)) (hw : w < 10 ∨ (M.2.2 = 9 ∧ M.2.1 = ci)) (ht : ci + 10 = t) (hq : pc + 3 = q) : V X call M pc ls (zr x :: zr (some a) :: st) (c, s, I, L, R) Q ↔ (zT a).1 = t ∧ V X call M q ls st (c, s, I, L, zu R a f x) Q := by
  rw [← ht]
  exact V_putR hd hl hw hq
theorem W_new {ix ci n : Nat} (hd : decode M.1 pc = .ok (.new ix, 3)) (hl : znl M.2.1 ix = some ci) (h13 : ci < 13) (hn : zfn ci = n) (ht : ci + 10 = t) (hq : pc + 3 = q) : V X call M pc ls st (c, s, I, L, R) Q ↔ zT c = (t, n) ∧ V X call M q ls (zr (some c) :: st) (c + 1, s + n, I, L, R) Q := by
  rw [← ht]
  exact V_new hd hl h13 hn hq
theorem W_newa {n : Int} {ty : ArrayType} (hd : decode M.1 pc = .ok (.newarray ty, 2)) (hn : 0 ≤ n ∧ n ≤ 100000) (hz : znew ty = t) (h1 : 1 ≤ t) (hq : pc + 2 = q) : V X call M pc ls (zi n :: st) (c, s, I, L, R) Q ↔ zT c = (t, n.toNat) ∧ V X call M q ls (zr (some c) :: st) (c + 1, s + n.toNat, I, L, R) Q := by
  rw [← hz] at h1 ⊢
  exact V_newa hd hn h1 hq
end
theorem zm_0 : (zmt 0).2.2 = 10 := by decide +kernel
theorem zM_0 : zmt 0 = (mX0_init, 1, 10) := by rfl
theorem zm_1 : (zmt 1).2.2 = 10 := by decide +kernel
theorem zM_1 : zmt 1 = (mX0_clear, 1, 10) := by rfl
theorem zm_2 : (zmt 2).2.2 = 10 := by decide +kernel
theorem zM_2 : zmt 2 = (mX0_turnTo, 3, 10) := by rfl
theorem zm_3 : (zmt 3).2.2 = 10 := by decide +kernel
theorem zM_3 : zmt 3 = (mX0_takes, 5, 10) := by rfl
theorem zm_4 : (zmt 4).2.2 = 10 := by decide +kernel
theorem zM_4 : zmt 4 = (mX0_note, 2, 10) := by rfl
theorem zm_5 : (zmt 5).2.2 = 11 := by decide +kernel
theorem zM_5 : zmt 5 = (mX1_init, 2, 11) := by rfl
theorem zm_6 : (zmt 6).2.2 = 11 := by decide +kernel
theorem zM_6 : zmt 6 = (mX1_clear, 1, 11) := by rfl
theorem zm_7 : (zmt 7).2.2 = 11 := by decide +kernel
theorem zM_7 : zmt 7 = (mX1_addVar, 4, 11) := by rfl
theorem zm_8 : (zmt 8).2.2 = 11 := by decide +kernel
theorem zM_8 : zmt 8 = (mX1_varNamed, 3, 11) := by rfl
theorem zm_9 : (zmt 9).2.2 = 11 := by decide +kernel
theorem zM_9 : zmt 9 = (mX1_stateOf, 4, 11) := by rfl
theorem zm_10 : (zmt 10).2.2 = 11 := by decide +kernel
theorem zM_10 : zmt 10 = (mX1_valuesOf, 6, 11) := by rfl
theorem zm_11 : (zmt 11).2.2 = 11 := by decide +kernel
theorem zM_11 : zmt 11 = (mX1_valueIn, 7, 11) := by rfl
theorem zm_12 : (zmt 12).2.2 = 11 := by decide +kernel
theorem zM_12 : zmt 12 = (mX1_rulesMoving, 4, 11) := by rfl
theorem zm_13 : (zmt 13).2.2 = 12 := by decide +kernel
theorem zM_13 : zmt 13 = (mX2_init, 3, 12) := by rfl
theorem zm_14 : (zmt 14).2.2 = 0 := by decide +kernel
theorem zM_14 : zmt 14 = (mX2_isSize, 1, 0) := by rfl
theorem zm_15 : (zmt 15).2.2 = 0 := by decide +kernel
theorem zM_15 : zmt 15 = (mX2_isChance, 1, 0) := by rfl
theorem zm_16 : (zmt 16).2.2 = 12 := by decide +kernel
theorem zM_16 : zmt 16 = (mX2_low, 5, 12) := by rfl
theorem zm_17 : (zmt 17).2.2 = 12 := by decide +kernel
theorem zM_17 : zmt 17 = (mX2_high, 5, 12) := by rfl
theorem zm_18 : (zmt 18).2.2 = 12 := by decide +kernel
theorem zM_18 : zmt 18 = (mX2_missed, 7, 12) := by rfl
theorem zm_19 : (zmt 19).2.2 = 12 := by decide +kernel
theorem zM_19 : zmt 19 = (mX2_verdict, 10, 12) := by rfl
theorem zm_20 : (zmt 20).2.2 = 12 := by decide +kernel
theorem zM_20 : zmt 20 = (mX2_isWithin, 5, 12) := by rfl
theorem zm_21 : (zmt 21).2.2 = 12 := by decide +kernel
theorem zM_21 : zmt 21 = (mX2_casesOf, 8, 12) := by rfl
theorem zm_22 : (zmt 22).2.2 = 12 := by decide +kernel
theorem zM_22 : zmt 22 = (mX2_power, 3, 12) := by rfl
theorem zm_23 : (zmt 23).2.2 = 12 := by decide +kernel
theorem zM_23 : zmt 23 = (mX2_choose, 3, 12) := by rfl
theorem zm_24 : (zmt 24).2.2 = 13 := by decide +kernel
theorem zM_24 : zmt 24 = (mX3_init, 2, 13) := by rfl
theorem zm_25 : (zmt 25).2.2 = 13 := by decide +kernel
theorem zM_25 : zmt 25 = (mX3_reads, 3, 13) := by rfl
theorem zm_26 : (zmt 26).2.2 = 13 := by decide +kernel
theorem zM_26 : zmt 26 = (mX3_exchange, 3, 13) := by rfl
theorem zm_27 : (zmt 27).2.2 = 13 := by decide +kernel
theorem zM_27 : zmt 27 = (mX3_fails, 2, 13) := by rfl
theorem zm_28 : (zmt 28).2.2 = 13 := by decide +kernel
theorem zM_28 : zmt 28 = (mX3_readLots, 1, 13) := by rfl
theorem zm_29 : (zmt 29).2.2 = 13 := by decide +kernel
theorem zM_29 : zmt 29 = (mX3_readVar, 3, 13) := by rfl
theorem zm_30 : (zmt 30).2.2 = 13 := by decide +kernel
theorem zM_30 : zmt 30 = (mX3_readRule, 2, 13) := by rfl
theorem zm_31 : (zmt 31).2.2 = 13 := by decide +kernel
theorem zM_31 : zmt 31 = (mX3_readGoal, 2, 13) := by rfl
theorem zm_32 : (zmt 32).2.2 = 13 := by decide +kernel
theorem zM_32 : zmt 32 = (mX3_isAtEnd, 1, 13) := by rfl
theorem zm_33 : (zmt 33).2.2 = 13 := by decide +kernel
theorem zM_33 : zmt 33 = (mX3_readTerms, 6, 13) := by rfl
theorem zm_34 : (zmt 34).2.2 = 13 := by decide +kernel
theorem zM_34 : zmt 34 = (mX3_readTerm, 5, 13) := by rfl
theorem zm_35 : (zmt 35).2.2 = 13 := by decide +kernel
theorem zM_35 : zmt 35 = (mX3_isNewName, 1, 13) := by rfl
theorem zm_36 : (zmt 36).2.2 = 13 := by decide +kernel
theorem zM_36 : zmt 36 = (mX3_isNumber, 3, 13) := by rfl
theorem zm_37 : (zmt 37).2.2 = 13 := by decide +kernel
theorem zM_37 : zmt 37 = (mX3_passes, 2, 13) := by rfl
theorem zm_38 : (zmt 38).2.2 = 14 := by decide +kernel
theorem zM_38 : zmt 38 = (mX4_init, 2, 14) := by rfl
theorem zm_39 : (zmt 39).2.2 = 14 := by decide +kernel
theorem zM_39 : zmt 39 = (mX4_holding, 7, 14) := by rfl
theorem zm_40 : (zmt 40).2.2 = 14 := by decide +kernel
theorem zM_40 : zmt 40 = (mX4_total, 7, 14) := by rfl
theorem zm_41 : (zmt 41).2.2 = 14 := by decide +kernel
theorem zM_41 : zmt 41 = (mX4_statesComeTo, 5, 14) := by rfl
theorem zm_42 : (zmt 42).2.2 = 14 := by decide +kernel
theorem zM_42 : zmt 42 = (mX4_see, 3, 14) := by rfl
theorem zm_43 : (zmt 43).2.2 = 14 := by decide +kernel
theorem zM_43 : zmt 43 = (mX4_stateCount, 1, 14) := by rfl
theorem zm_44 : (zmt 44).2.2 = 14 := by decide +kernel
theorem zM_44 : zmt 44 = (mX4_spread, 7, 14) := by rfl
theorem zm_45 : (zmt 45).2.2 = 14 := by decide +kernel
theorem zM_45 : zmt 45 = (mX4_spreadFrom, 8, 14) := by rfl
theorem zm_46 : (zmt 46).2.2 = 15 := by decide +kernel
theorem zM_46 : zmt 46 = (mX5_init, 1, 15) := by rfl
theorem zm_47 : (zmt 47).2.2 = 15 := by decide +kernel
theorem zM_47 : zmt 47 = (mX5_clear, 1, 15) := by rfl
theorem zm_48 : (zmt 48).2.2 = 16 := by decide +kernel
theorem zM_48 : zmt 48 = (mX6_init, 2, 16) := by rfl
theorem zm_49 : (zmt 49).2.2 = 16 := by decide +kernel
theorem zM_49 : zmt 49 = (mX6_heldBy, 8, 16) := by rfl
theorem zm_50 : (zmt 50).2.2 = 16 := by decide +kernel
theorem zM_50 : zmt 50 = (mX6_follow, 4, 16) := by rfl
theorem zm_51 : (zmt 51).2.2 = 16 := by decide +kernel
theorem zM_51 : zmt 51 = (mX6_putCopies, 4, 16) := by rfl
theorem zm_52 : (zmt 52).2.2 = 16 := by decide +kernel
theorem zM_52 : zmt 52 = (mX6_copiesFor, 4, 16) := by rfl
theorem zm_53 : (zmt 53).2.2 = 17 := by decide +kernel
theorem zM_53 : zmt 53 = (mX7_init, 1, 17) := by rfl
theorem zm_54 : (zmt 54).2.2 = 17 := by decide +kernel
theorem zM_54 : zmt 54 = (mX7_take, 2, 17) := by rfl
theorem zm_55 : (zmt 55).2.2 = 17 := by decide +kernel
theorem zM_55 : zmt 55 = (mX7_firstState, 1, 17) := by rfl
theorem zm_56 : (zmt 56).2.2 = 17 := by decide +kernel
theorem zM_56 : zmt 56 = (mX7_cell, 4, 17) := by rfl
theorem zm_57 : (zmt 57).2.2 = 0 := by decide +kernel
theorem zM_57 : zmt 57 = (mX7_stateIn, 1, 0) := by rfl
theorem zm_58 : (zmt 58).2.2 = 0 := by decide +kernel
theorem zM_58 : zmt 58 = (mX7_ruleIn, 2, 0) := by rfl
theorem zm_59 : (zmt 59).2.2 = 17 := by decide +kernel
theorem zM_59 : zmt 59 = (mX7_hasGoal, 3, 17) := by rfl
theorem zm_60 : (zmt 60).2.2 = 17 := by decide +kernel
theorem zM_60 : zmt 60 = (mX7_isNoState, 2, 17) := by rfl
theorem zm_61 : (zmt 61).2.2 = 17 := by decide +kernel
theorem zM_61 : zmt 61 = (mX7_makeRow, 7, 17) := by rfl
theorem zm_62 : (zmt 62).2.2 = 17 := by decide +kernel
theorem zM_62 : zmt 62 = (mX7_markGoals, 4, 17) := by rfl
theorem zm_63 : (zmt 63).2.2 = 17 := by decide +kernel
theorem zM_63 : zmt 63 = (mX7_fill, 5, 17) := by rfl
theorem zm_64 : (zmt 64).2.2 = 18 := by decide +kernel
theorem zM_64 : zmt 64 = (mX8_init, 1, 18) := by rfl
theorem zm_65 : (zmt 65).2.2 = 18 := by decide +kernel
theorem zM_65 : zmt 65 = (mX8_append, 5, 18) := by rfl
theorem zm_66 : (zmt 66).2.2 = 18 := by decide +kernel
theorem zM_66 : zmt 66 = (mX8_clear, 1, 18) := by rfl
theorem zm_67 : (zmt 67).2.2 = 18 := by decide +kernel
theorem zM_67 : zmt 67 = (mX8_rewind, 1, 18) := by rfl
theorem zm_68 : (zmt 68).2.2 = 18 := by decide +kernel
theorem zM_68 : zmt 68 = (mX8_next, 2, 18) := by rfl
theorem zm_69 : (zmt 69).2.2 = 18 := by decide +kernel
theorem zM_69 : zmt 69 = (mX8_readRun, 6, 18) := by rfl
theorem zm_70 : (zmt 70).2.2 = 18 := by decide +kernel
theorem zM_70 : zmt 70 = (mX8_joinArrow, 1, 18) := by rfl
theorem zm_71 : (zmt 71).2.2 = 18 := by decide +kernel
theorem zM_71 : zmt 71 = (mX8_isSign, 2, 18) := by rfl
theorem zm_72 : (zmt 72).2.2 = 18 := by decide +kernel
theorem zM_72 : zmt 72 = (mX8_isWord, 4, 18) := by rfl
theorem zm_73 : (zmt 73).2.2 = 19 := by decide +kernel
theorem zM_73 : zmt 73 = (mX9_init, 1, 19) := by rfl
theorem zm_74 : (zmt 74).2.2 = 19 := by decide +kernel
theorem zM_74 : zmt 74 = (mX9_clear, 1, 19) := by rfl
theorem zm_75 : (zmt 75).2.2 = 19 := by decide +kernel
theorem zM_75 : zmt 75 = (mX9_add, 4, 19) := by rfl
theorem zm_76 : (zmt 76).2.2 = 19 := by decide +kernel
theorem zM_76 : zmt 76 = (mX9_allHold, 6, 19) := by rfl
theorem zm_77 : (zmt 77).2.2 = 19 := by decide +kernel
theorem zM_77 : zmt 77 = (mX9_change, 6, 19) := by rfl
theorem zm_78 : (zmt 78).2.2 = 19 := by decide +kernel
theorem zM_78 : zmt 78 = (mX9_names, 3, 19) := by rfl
theorem zm_79 : (zmt 79).2.2 = 20 := by decide +kernel
theorem zM_79 : zmt 79 = (mX10_init, 2, 20) := by rfl
theorem zm_80 : (zmt 80).2.2 = 20 := by decide +kernel
theorem zM_80 : zmt 80 = (mX10_begin, 4, 20) := by rfl
theorem zm_81 : (zmt 81).2.2 = 20 := by decide +kernel
theorem zM_81 : zmt 81 = (mX10_step, 3, 20) := by rfl
theorem zm_82 : (zmt 82).2.2 = 20 := by decide +kernel
theorem zM_82 : zmt 82 = (mX10_isAt, 2, 20) := by rfl
theorem zm_83 : (zmt 83).2.2 = 20 := by decide +kernel
theorem zM_83 : zmt 83 = (mX10_valueOf, 2, 20) := by rfl
theorem zm_84 : (zmt 84).2.2 = 21 := by decide +kernel
theorem zM_84 : zmt 84 = (mX11_init, 1, 21) := by rfl
theorem zm_85 : (zmt 85).2.2 = 21 := by decide +kernel
theorem zM_85 : zmt 85 = (mX11_feed, 4, 21) := by rfl
theorem zm_86 : (zmt 86).2.2 = 21 := by decide +kernel
theorem zM_86 : zmt 86 = (mX11_model, 2, 21) := by rfl
theorem zm_87 : (zmt 87).2.2 = 21 := by decide +kernel
theorem zM_87 : zmt 87 = (mX11_fault, 1, 21) := by rfl
theorem zm_88 : (zmt 88).2.2 = 21 := by decide +kernel
theorem zM_88 : zmt 88 = (mX11_seed, 3, 21) := by rfl
theorem zm_89 : (zmt 89).2.2 = 21 := by decide +kernel
theorem zM_89 : zmt 89 = (mX11_count, 2, 21) := by rfl
theorem zm_90 : (zmt 90).2.2 = 21 := by decide +kernel
theorem zM_90 : zmt 90 = (mX11_holds, 4, 21) := by rfl
theorem zm_91 : (zmt 91).2.2 = 21 := by decide +kernel
theorem zM_91 : zmt 91 = (mX11_value, 5, 21) := by rfl
theorem zm_92 : (zmt 92).2.2 = 21 := by decide +kernel
theorem zM_92 : zmt 92 = (mX11_goes, 5, 21) := by rfl
theorem zm_93 : (zmt 93).2.2 = 21 := by decide +kernel
theorem zM_93 : zmt 93 = (mX11_exact, 3, 21) := by rfl
theorem zm_94 : (zmt 94).2.2 = 21 := by decide +kernel
theorem zM_94 : zmt 94 = (mX11_sum, 3, 21) := by rfl
theorem zm_95 : (zmt 95).2.2 = 21 := by decide +kernel
theorem zM_95 : zmt 95 = (mX11_reached, 1, 21) := by rfl
theorem zm_96 : (zmt 96).2.2 = 21 := by decide +kernel
theorem zM_96 : zmt 96 = (mX11_block, 5, 21) := by rfl
theorem zm_97 : (zmt 97).2.2 = 21 := by decide +kernel
theorem zM_97 : zmt 97 = (mX11_told, 2, 21) := by rfl
theorem zm_98 : (zmt 98).2.2 = 21 := by decide +kernel
theorem zM_98 : zmt 98 = (mX11_both, 8, 21) := by rfl
theorem zm_99 : (zmt 99).2.2 = 21 := by decide +kernel
theorem zM_99 : zmt 99 = (mX11_ends, 5, 21) := by rfl
theorem zm_100 : (zmt 100).2.2 = 21 := by decide +kernel
theorem zM_100 : zmt 100 = (mX11_misses, 4, 21) := by rfl
theorem zm_101 : (zmt 101).2.2 = 21 := by decide +kernel
theorem zM_101 : zmt 101 = (mX11_test, 10, 21) := by rfl
theorem zm_102 : (zmt 102).2.2 = 21 := by decide +kernel
theorem zM_102 : zmt 102 = (mX11_split, 7, 21) := by rfl
theorem zm_103 : (zmt 103).2.2 = 21 := by decide +kernel
theorem zM_103 : zmt 103 = (mX11_moves, 2, 21) := by rfl
theorem zm_104 : (zmt 104).2.2 = 21 := by decide +kernel
theorem zM_104 : zmt 104 = (mX11_hasNoModel, 1, 21) := by rfl
theorem zm_105 : (zmt 105).2.2 = 21 := by decide +kernel
theorem zM_105 : zmt 105 = (mX11_isGoal, 2, 21) := by rfl
theorem zm_106 : (zmt 106).2.2 = 21 := by decide +kernel
theorem zM_106 : zmt 106 = (mX11_isVar, 2, 21) := by rfl
theorem zm_107 : (zmt 107).2.2 = 0 := by decide +kernel
theorem zM_107 : zmt 107 = (mX11_isLength, 1, 0) := by rfl
theorem zm_108 : (zmt 108).2.2 = 0 := by decide +kernel
theorem zM_108 : zmt 108 = (mX11_isRun, 1, 0) := by rfl
theorem zm_109 : (zmt 109).2.2 = 21 := by decide +kernel
theorem zM_109 : zmt 109 = (mX11_stepOfHolding, 5, 21) := by rfl
theorem zm_110 : (zmt 110).2.2 = 21 := by decide +kernel
theorem zM_110 : zmt 110 = (mX11_kindOfPair, 8, 21) := by rfl
theorem zm_111 : (zmt 111).2.2 = 0 := by decide +kernel
theorem zM_111 : zmt 111 = (mX11_powerIsAbove, 9, 0) := by rfl
theorem zm_112 : (zmt 112).2.2 = 22 := by decide +kernel
theorem zM_112 : zmt 112 = (mX12_init, 1, 22) := by rfl
theorem zm_113 : (zmt 113).2.2 = 0 := by decide +kernel
theorem zM_113 : zmt 113 = (mX12_in, 6, 0) := by rfl
theorem zm_114 : (zmt 114).2.2 = 22 := by decide +kernel
theorem zM_114 : zmt 114 = (mX12_feed, 5, 22) := by rfl
theorem zm_115 : (zmt 115).2.2 = 22 := by decide +kernel
theorem zM_115 : zmt 115 = (mX12_byteAt, 2, 22) := by rfl
theorem zm_116 : (zmt 116).2.2 = 0 := by decide +kernel
theorem zM_116 : zmt 116 = (mX12_isLetter, 1, 0) := by rfl
theorem zm_117 : (zmt 117).2.2 = 0 := by decide +kernel
theorem zM_117 : zmt 117 = (mX12_isFigure, 1, 0) := by rfl
theorem zm_118 : (zmt 118).2.2 = 22 := by decide +kernel
theorem zM_118 : zmt 118 = (mX12_next, 4, 22) := by rfl
theorem zm_119 : (zmt 119).2.2 = 22 := by decide +kernel
theorem zM_119 : zmt 119 = (mX12_bad, 3, 22) := by rfl
theorem zm_120 : (zmt 120).2.2 = 22 := by decide +kernel
theorem zM_120 : zmt 120 = (mX12_stands, 2, 22) := by rfl
theorem zm_121 : (zmt 121).2.2 = 22 := by decide +kernel
theorem zM_121 : zmt 121 = (mX12_is, 2, 22) := by rfl
theorem zm_122 : (zmt 122).2.2 = 22 := by decide +kernel
theorem zM_122 : zmt 122 = (mX12_take, 2, 22) := by rfl
theorem zm_123 : (zmt 123).2.2 = 22 := by decide +kernel
theorem zM_123 : zmt 123 = (mX12_name, 4, 22) := by rfl
theorem zm_124 : (zmt 124).2.2 = 22 := by decide +kernel
theorem zM_124 : zmt 124 = (mX12_number, 3, 22) := by rfl
theorem zm_125 : (zmt 125).2.2 = 22 := by decide +kernel
theorem zM_125 : zmt 125 = (mX12_numberIn, 4, 22) := by rfl
theorem zm_126 : (zmt 126).2.2 = 22 := by decide +kernel
theorem zM_126 : zmt 126 = (mX12_varOf, 4, 22) := by rfl
theorem zm_127 : (zmt 127).2.2 = 22 := by decide +kernel
theorem zM_127 : zmt 127 = (mX12_statesOf, 4, 22) := by rfl
theorem zm_128 : (zmt 128).2.2 = 22 := by decide +kernel
theorem zM_128 : zmt 128 = (mX12_readVar, 4, 22) := by rfl
theorem zm_129 : (zmt 129).2.2 = 22 := by decide +kernel
theorem zM_129 : zmt 129 = (mX12_readName, 2, 22) := by rfl
theorem zm_130 : (zmt 130).2.2 = 22 := by decide +kernel
theorem zM_130 : zmt 130 = (mX12_readConds, 5, 22) := by rfl
theorem zm_131 : (zmt 131).2.2 = 22 := by decide +kernel
theorem zM_131 : zmt 131 = (mX12_readEffects, 5, 22) := by rfl
theorem zm_132 : (zmt 132).2.2 = 22 := by decide +kernel
theorem zM_132 : zmt 132 = (mX12_readRule, 2, 22) := by rfl
theorem zm_133 : (zmt 133).2.2 = 22 := by decide +kernel
theorem zM_133 : zmt 133 = (mX12_readGoal, 1, 22) := by rfl
theorem zm_134 : (zmt 134).2.2 = 22 := by decide +kernel
theorem zM_134 : zmt 134 = (mX12_model, 1, 22) := by rfl
theorem zm_135 : (zmt 135).2.2 = 22 := by decide +kernel
theorem zM_135 : zmt 135 = (mX12_fault, 1, 22) := by rfl
theorem zm_136 : (zmt 136).2.2 = 22 := by decide +kernel
theorem zM_136 : zmt 136 = (mX12_seed, 3, 22) := by rfl
theorem zm_137 : (zmt 137).2.2 = 22 := by decide +kernel
theorem zM_137 : zmt 137 = (mX12_count, 2, 22) := by rfl
theorem zm_138 : (zmt 138).2.2 = 22 := by decide +kernel
theorem zM_138 : zmt 138 = (mX12_begin, 2, 22) := by rfl
theorem zm_139 : (zmt 139).2.2 = 22 := by decide +kernel
theorem zM_139 : zmt 139 = (mX12_areHeld, 5, 22) := by rfl
theorem zm_140 : (zmt 140).2.2 = 22 := by decide +kernel
theorem zM_140 : zmt 140 = (mX12_isGoal, 2, 22) := by rfl
theorem zm_141 : (zmt 141).2.2 = 22 := by decide +kernel
theorem zM_141 : zmt 141 = (mX12_ruleBy, 4, 22) := by rfl
theorem zm_142 : (zmt 142).2.2 = 22 := by decide +kernel
theorem zM_142 : zmt 142 = (mX12_go, 6, 22) := by rfl
theorem zm_143 : (zmt 143).2.2 = 22 := by decide +kernel
theorem zM_143 : zmt 143 = (mX12_beginRun, 2, 22) := by rfl
theorem zm_144 : (zmt 144).2.2 = 22 := by decide +kernel
theorem zM_144 : zmt 144 = (mX12_draw, 1, 22) := by rfl
theorem zm_145 : (zmt 145).2.2 = 22 := by decide +kernel
theorem zM_145 : zmt 145 = (mX12_isGoalNumber, 2, 22) := by rfl
theorem zm_146 : (zmt 146).2.2 = 22 := by decide +kernel
theorem zM_146 : zmt 146 = (mX12_isVar, 2, 22) := by rfl
theorem zm_147 : (zmt 147).2.2 = 0 := by decide +kernel
theorem zM_147 : zmt 147 = (mX12_isRun, 1, 0) := by rfl
theorem zm_148 : (zmt 148).2.2 = 22 := by decide +kernel
theorem zM_148 : zmt 148 = (mX12_heldAt, 5, 22) := by rfl
theorem zm_149 : (zmt 149).2.2 = 22 := by decide +kernel
theorem zM_149 : zmt 149 = (mX12_holds, 4, 22) := by rfl
theorem zm_150 : (zmt 150).2.2 = 22 := by decide +kernel
theorem zM_150 : zmt 150 = (mX12_value, 5, 22) := by rfl
theorem zm_151 : (zmt 151).2.2 = 22 := by decide +kernel
theorem zM_151 : zmt 151 = (mX12_goes, 5, 22) := by rfl
theorem zm_152 : (zmt 152).2.2 = 22 := by decide +kernel
theorem zM_152 : zmt 152 = (mX12_stateNumber, 3, 22) := by rfl
theorem zm_153 : (zmt 153).2.2 = 22 := by decide +kernel
theorem zM_153 : zmt 153 = (mX12_be, 5, 22) := by rfl
theorem zm_154 : (zmt 154).2.2 = 22 := by decide +kernel
theorem zM_154 : zmt 154 = (mX12_powerOf, 7, 22) := by rfl
theorem zm_155 : (zmt 155).2.2 = 22 := by decide +kernel
theorem zM_155 : zmt 155 = (mX12_step, 4, 22) := by rfl
theorem zm_156 : (zmt 156).2.2 = 22 := by decide +kernel
theorem zM_156 : zmt 156 = (mX12_beginWays, 2, 22) := by rfl
theorem zm_157 : (zmt 157).2.2 = 22 := by decide +kernel
theorem zM_157 : zmt 157 = (mX12_exact, 7, 22) := by rfl
theorem zm_158 : (zmt 158).2.2 = 22 := by decide +kernel
theorem zM_158 : zmt 158 = (mX12_sum, 6, 22) := by rfl
theorem zm_159 : (zmt 159).2.2 = 22 := by decide +kernel
theorem zM_159 : zmt 159 = (mX12_reached, 5, 22) := by rfl
theorem zm_160 : (zmt 160).2.2 = 22 := by decide +kernel
theorem zM_160 : zmt 160 = (mX12_beginCounts, 2, 22) := by rfl
theorem zm_161 : (zmt 161).2.2 = 22 := by decide +kernel
theorem zM_161 : zmt 161 = (mX12_block, 6, 22) := by rfl
theorem zm_162 : (zmt 162).2.2 = 22 := by decide +kernel
theorem zM_162 : zmt 162 = (mX12_told, 2, 22) := by rfl
theorem zm_163 : (zmt 163).2.2 = 22 := by decide +kernel
theorem zM_163 : zmt 163 = (mX12_both, 10, 22) := by rfl
theorem zm_164 : (zmt 164).2.2 = 0 := by decide +kernel
theorem zM_164 : zmt 164 = (mX12_power, 6, 0) := by rfl
theorem zm_165 : (zmt 165).2.2 = 0 := by decide +kernel
theorem zM_165 : zmt 165 = (mX12_cases, 6, 0) := by rfl
theorem zm_166 : (zmt 166).2.2 = 0 := by decide +kernel
theorem zM_166 : zmt 166 = (mX12_casesFrom, 7, 0) := by rfl
theorem zm_167 : (zmt 167).2.2 = 0 := by decide +kernel
theorem zM_167 : zmt 167 = (mX12_low, 5, 0) := by rfl
theorem zm_168 : (zmt 168).2.2 = 0 := by decide +kernel
theorem zM_168 : zmt 168 = (mX12_high, 5, 0) := by rfl
theorem zm_169 : (zmt 169).2.2 = 22 := by decide +kernel
theorem zM_169 : zmt 169 = (mX12_ends, 5, 22) := by rfl
theorem zm_170 : (zmt 170).2.2 = 22 := by decide +kernel
theorem zM_170 : zmt 170 = (mX12_misses, 7, 22) := by rfl
theorem zm_171 : (zmt 171).2.2 = 22 := by decide +kernel
theorem zM_171 : zmt 171 = (mX12_test, 14, 22) := by rfl
theorem zm_172 : (zmt 172).2.2 = 22 := by decide +kernel
theorem zM_172 : zmt 172 = (mX12_pass, 8, 22) := by rfl
theorem zm_173 : (zmt 173).2.2 = 22 := by decide +kernel
theorem zM_173 : zmt 173 = (mX12_split, 10, 22) := by rfl
theorem zm_174 : (zmt 174).2.2 = 22 := by decide +kernel
theorem zM_174 : zmt 174 = (mX12_moves, 6, 22) := by rfl
theorem zm_175 : (zmt 175).2.2 = 1 := by decide +kernel
theorem zM_175 : zmt 175 = (mJ0_length_8abf5, 1, 1) := by rfl
theorem zm_176 : (zmt 176).2.2 = 1 := by decide +kernel
theorem zM_176 : zmt 176 = (mJ0_charAt_5068e, 2, 1) := by rfl
theorem zm_177 : (zmt 177).2.2 = 1 := by decide +kernel
theorem zM_177 : zmt 177 = (mJ0_indexOf_0f7a4, 2, 1) := by rfl
theorem zm_178 : (zmt 178).2.2 = 1 := by decide +kernel
theorem zM_178 : zmt 178 = (mJ0_indexOf_7cf53, 3, 1) := by rfl
theorem zm_179 : (zmt 179).2.2 = 1 := by decide +kernel
theorem zM_179 : zmt 179 = (mJ0_coder_7d493, 1, 1) := by rfl
theorem zm_180 : (zmt 180).2.2 = 1 := by decide +kernel
theorem zM_180 : zmt 180 = (mJ0_isLatin1_aae02, 1, 1) := by rfl
theorem zm_181 : (zmt 181).2.2 = 0 := by decide +kernel
theorem zM_181 : zmt 181 = (mJ0_checkIndex_df160, 2, 0) := by rfl
theorem zm_182 : (zmt 182).2.2 = 0 := by decide +kernel
theorem zM_182 : zmt 182 = (mJ1_charAt_3b067, 2, 0) := by rfl
theorem zm_183 : (zmt 183).2.2 = 0 := by decide +kernel
theorem zM_183 : zmt 183 = (mJ1_canEncode_9a6ad, 1, 0) := by rfl
theorem zm_184 : (zmt 184).2.2 = 0 := by decide +kernel
theorem zM_184 : zmt 184 = (mJ1_indexOf_4cfef, 4, 0) := by rfl
theorem zm_185 : (zmt 185).2.2 = 0 := by decide +kernel
theorem zM_185 : zmt 185 = (mJ1_indexOfChar_4cfef, 6, 0) := by rfl
theorem zm_186 : (zmt 186).2.2 = 0 := by decide +kernel
theorem zM_186 : zmt 186 = (mJ7_fill_d0a16, 5, 0) := by rfl
theorem zm_187 : (zmt 187).2.2 = 0 := by decide +kernel
theorem zM_187 : zmt 187 = (mJ7_fill_53178, 4, 0) := by rfl
theorem zm_188 : (zmt 188).2.2 = 0 := by decide +kernel
theorem zM_188 : zmt 188 = (mJ3_checkIndex_8e157, 3, 0) := by rfl
theorem tg_0 : (zT 0).1 = 21 := by decide +kernel
theorem tg_1 : (zT 1).1 = 18 := by decide +kernel
theorem tg_2 : (zT 2).1 = 3 := by decide +kernel
theorem tn_2 : (((zT 2).2 : Nat) : Int) = 800 := by decide +kernel
theorem tg_3 : (zT 3).1 = 13 := by decide +kernel
theorem tg_4 : (zT 4).1 = 11 := by decide +kernel
theorem tg_5 : (zT 5).1 = 1 := by decide +kernel
theorem tn_5 : (((zT 5).2 : Nat) : Int) = 4 := by decide +kernel
theorem tg_6 : (zT 6).1 = 1 := by decide +kernel
theorem tn_6 : (((zT 6).2 : Nat) : Int) = 4 := by decide +kernel
theorem tg_7 : (zT 7).1 = 5 := by decide +kernel
theorem tn_7 : (((zT 7).2 : Nat) : Int) = 12 := by decide +kernel
theorem tg_8 : (zT 8).1 = 6 := by decide +kernel
theorem tn_8 : (((zT 8).2 : Nat) : Int) = 4 := by decide +kernel
theorem tg_9 : (zT 9).1 = 1 := by decide +kernel
theorem tn_9 : (((zT 9).2 : Nat) : Int) = 4 := by decide +kernel
theorem tg_10 : (zT 10).1 = 15 := by decide +kernel
theorem tg_11 : (zT 11).1 = 19 := by decide +kernel
theorem tg_12 : (zT 12).1 = 1 := by decide +kernel
theorem tn_12 : (((zT 12).2 : Nat) : Int) = 3 := by decide +kernel
theorem tg_13 : (zT 13).1 = 1 := by decide +kernel
theorem tn_13 : (((zT 13).2 : Nat) : Int) = 3 := by decide +kernel
theorem tg_14 : (zT 14).1 = 1 := by decide +kernel
theorem tn_14 : (((zT 14).2 : Nat) : Int) = 3 := by decide +kernel
theorem tg_15 : (zT 15).1 = 19 := by decide +kernel
theorem tg_16 : (zT 16).1 = 1 := by decide +kernel
theorem tn_16 : (((zT 16).2 : Nat) : Int) = 3 := by decide +kernel
theorem tg_17 : (zT 17).1 = 1 := by decide +kernel
theorem tn_17 : (((zT 17).2 : Nat) : Int) = 3 := by decide +kernel
theorem tg_18 : (zT 18).1 = 1 := by decide +kernel
theorem tn_18 : (((zT 18).2 : Nat) : Int) = 3 := by decide +kernel
theorem tg_19 : (zT 19).1 = 15 := by decide +kernel
theorem tg_20 : (zT 20).1 = 19 := by decide +kernel
theorem tg_21 : (zT 21).1 = 1 := by decide +kernel
theorem tn_21 : (((zT 21).2 : Nat) : Int) = 3 := by decide +kernel
theorem tg_22 : (zT 22).1 = 1 := by decide +kernel
theorem tn_22 : (((zT 22).2 : Nat) : Int) = 3 := by decide +kernel
theorem tg_23 : (zT 23).1 = 1 := by decide +kernel
theorem tn_23 : (((zT 23).2 : Nat) : Int) = 3 := by decide +kernel
theorem tg_24 : (zT 24).1 = 19 := by decide +kernel
theorem tg_25 : (zT 25).1 = 1 := by decide +kernel
theorem tn_25 : (((zT 25).2 : Nat) : Int) = 3 := by decide +kernel
theorem tg_26 : (zT 26).1 = 1 := by decide +kernel
theorem tn_26 : (((zT 26).2 : Nat) : Int) = 3 := by decide +kernel
theorem tg_27 : (zT 27).1 = 1 := by decide +kernel
theorem tn_27 : (((zT 27).2 : Nat) : Int) = 3 := by decide +kernel
theorem tg_28 : (zT 28).1 = 15 := by decide +kernel
theorem tg_29 : (zT 29).1 = 19 := by decide +kernel
theorem tg_30 : (zT 30).1 = 1 := by decide +kernel
theorem tn_30 : (((zT 30).2 : Nat) : Int) = 3 := by decide +kernel
theorem tg_31 : (zT 31).1 = 1 := by decide +kernel
theorem tn_31 : (((zT 31).2 : Nat) : Int) = 3 := by decide +kernel
theorem tg_32 : (zT 32).1 = 1 := by decide +kernel
theorem tn_32 : (((zT 32).2 : Nat) : Int) = 3 := by decide +kernel
theorem tg_33 : (zT 33).1 = 19 := by decide +kernel
theorem tg_34 : (zT 34).1 = 1 := by decide +kernel
theorem tn_34 : (((zT 34).2 : Nat) : Int) = 3 := by decide +kernel
theorem tg_35 : (zT 35).1 = 1 := by decide +kernel
theorem tn_35 : (((zT 35).2 : Nat) : Int) = 3 := by decide +kernel
theorem tg_36 : (zT 36).1 = 1 := by decide +kernel
theorem tn_36 : (((zT 36).2 : Nat) : Int) = 3 := by decide +kernel
theorem tg_37 : (zT 37).1 = 15 := by decide +kernel
theorem tg_38 : (zT 38).1 = 19 := by decide +kernel
theorem tg_39 : (zT 39).1 = 1 := by decide +kernel
theorem tn_39 : (((zT 39).2 : Nat) : Int) = 3 := by decide +kernel
theorem tg_40 : (zT 40).1 = 1 := by decide +kernel
theorem tn_40 : (((zT 40).2 : Nat) : Int) = 3 := by decide +kernel
theorem tg_41 : (zT 41).1 = 1 := by decide +kernel
theorem tn_41 : (((zT 41).2 : Nat) : Int) = 3 := by decide +kernel
theorem tg_42 : (zT 42).1 = 19 := by decide +kernel
theorem tg_43 : (zT 43).1 = 1 := by decide +kernel
theorem tn_43 : (((zT 43).2 : Nat) : Int) = 3 := by decide +kernel
theorem tg_44 : (zT 44).1 = 1 := by decide +kernel
theorem tn_44 : (((zT 44).2 : Nat) : Int) = 3 := by decide +kernel
theorem tg_45 : (zT 45).1 = 1 := by decide +kernel
theorem tn_45 : (((zT 45).2 : Nat) : Int) = 3 := by decide +kernel
theorem tg_46 : (zT 46).1 = 15 := by decide +kernel
theorem tg_47 : (zT 47).1 = 19 := by decide +kernel
theorem tg_48 : (zT 48).1 = 1 := by decide +kernel
theorem tn_48 : (((zT 48).2 : Nat) : Int) = 3 := by decide +kernel
theorem tg_49 : (zT 49).1 = 1 := by decide +kernel
theorem tn_49 : (((zT 49).2 : Nat) : Int) = 3 := by decide +kernel
theorem tg_50 : (zT 50).1 = 1 := by decide +kernel
theorem tn_50 : (((zT 50).2 : Nat) : Int) = 3 := by decide +kernel
theorem tg_51 : (zT 51).1 = 19 := by decide +kernel
theorem tg_52 : (zT 52).1 = 1 := by decide +kernel
theorem tn_52 : (((zT 52).2 : Nat) : Int) = 3 := by decide +kernel
theorem tg_53 : (zT 53).1 = 1 := by decide +kernel
theorem tn_53 : (((zT 53).2 : Nat) : Int) = 3 := by decide +kernel
theorem tg_54 : (zT 54).1 = 1 := by decide +kernel
theorem tn_54 : (((zT 54).2 : Nat) : Int) = 3 := by decide +kernel
theorem tg_55 : (zT 55).1 = 15 := by decide +kernel
theorem tg_56 : (zT 56).1 = 19 := by decide +kernel
theorem tg_57 : (zT 57).1 = 1 := by decide +kernel
theorem tn_57 : (((zT 57).2 : Nat) : Int) = 3 := by decide +kernel
theorem tg_58 : (zT 58).1 = 1 := by decide +kernel
theorem tn_58 : (((zT 58).2 : Nat) : Int) = 3 := by decide +kernel
theorem tg_59 : (zT 59).1 = 1 := by decide +kernel
theorem tn_59 : (((zT 59).2 : Nat) : Int) = 3 := by decide +kernel
theorem tg_60 : (zT 60).1 = 19 := by decide +kernel
theorem tg_61 : (zT 61).1 = 1 := by decide +kernel
theorem tn_61 : (((zT 61).2 : Nat) : Int) = 3 := by decide +kernel
theorem tg_62 : (zT 62).1 = 1 := by decide +kernel
theorem tn_62 : (((zT 62).2 : Nat) : Int) = 3 := by decide +kernel
theorem tg_63 : (zT 63).1 = 1 := by decide +kernel
theorem tn_63 : (((zT 63).2 : Nat) : Int) = 3 := by decide +kernel
theorem tg_64 : (zT 64).1 = 15 := by decide +kernel
theorem tg_65 : (zT 65).1 = 19 := by decide +kernel
theorem tg_66 : (zT 66).1 = 1 := by decide +kernel
theorem tn_66 : (((zT 66).2 : Nat) : Int) = 3 := by decide +kernel
theorem tg_67 : (zT 67).1 = 1 := by decide +kernel
theorem tn_67 : (((zT 67).2 : Nat) : Int) = 3 := by decide +kernel
theorem tg_68 : (zT 68).1 = 1 := by decide +kernel
theorem tn_68 : (((zT 68).2 : Nat) : Int) = 3 := by decide +kernel
theorem tg_69 : (zT 69).1 = 19 := by decide +kernel
theorem tg_70 : (zT 70).1 = 1 := by decide +kernel
theorem tn_70 : (((zT 70).2 : Nat) : Int) = 3 := by decide +kernel
theorem tg_71 : (zT 71).1 = 1 := by decide +kernel
theorem tn_71 : (((zT 71).2 : Nat) : Int) = 3 := by decide +kernel
theorem tg_72 : (zT 72).1 = 1 := by decide +kernel
theorem tn_72 : (((zT 72).2 : Nat) : Int) = 3 := by decide +kernel
theorem tg_73 : (zT 73).1 = 15 := by decide +kernel
theorem tg_74 : (zT 74).1 = 19 := by decide +kernel
theorem tg_75 : (zT 75).1 = 1 := by decide +kernel
theorem tn_75 : (((zT 75).2 : Nat) : Int) = 3 := by decide +kernel
theorem tg_76 : (zT 76).1 = 1 := by decide +kernel
theorem tn_76 : (((zT 76).2 : Nat) : Int) = 3 := by decide +kernel
theorem tg_77 : (zT 77).1 = 1 := by decide +kernel
theorem tn_77 : (((zT 77).2 : Nat) : Int) = 3 := by decide +kernel
theorem tg_78 : (zT 78).1 = 19 := by decide +kernel
theorem tg_79 : (zT 79).1 = 1 := by decide +kernel
theorem tn_79 : (((zT 79).2 : Nat) : Int) = 3 := by decide +kernel
theorem tg_80 : (zT 80).1 = 1 := by decide +kernel
theorem tn_80 : (((zT 80).2 : Nat) : Int) = 3 := by decide +kernel
theorem tg_81 : (zT 81).1 = 1 := by decide +kernel
theorem tn_81 : (((zT 81).2 : Nat) : Int) = 3 := by decide +kernel
theorem tg_82 : (zT 82).1 = 15 := by decide +kernel
theorem tg_83 : (zT 83).1 = 19 := by decide +kernel
theorem tg_84 : (zT 84).1 = 1 := by decide +kernel
theorem tn_84 : (((zT 84).2 : Nat) : Int) = 3 := by decide +kernel
theorem tg_85 : (zT 85).1 = 1 := by decide +kernel
theorem tn_85 : (((zT 85).2 : Nat) : Int) = 3 := by decide +kernel
theorem tg_86 : (zT 86).1 = 1 := by decide +kernel
theorem tn_86 : (((zT 86).2 : Nat) : Int) = 3 := by decide +kernel
theorem tg_87 : (zT 87).1 = 19 := by decide +kernel
theorem tg_88 : (zT 88).1 = 1 := by decide +kernel
theorem tn_88 : (((zT 88).2 : Nat) : Int) = 3 := by decide +kernel
theorem tg_89 : (zT 89).1 = 1 := by decide +kernel
theorem tn_89 : (((zT 89).2 : Nat) : Int) = 3 := by decide +kernel
theorem tg_90 : (zT 90).1 = 1 := by decide +kernel
theorem tn_90 : (((zT 90).2 : Nat) : Int) = 3 := by decide +kernel
theorem tg_91 : (zT 91).1 = 15 := by decide +kernel
theorem tg_92 : (zT 92).1 = 19 := by decide +kernel
theorem tg_93 : (zT 93).1 = 1 := by decide +kernel
theorem tn_93 : (((zT 93).2 : Nat) : Int) = 3 := by decide +kernel
theorem tg_94 : (zT 94).1 = 1 := by decide +kernel
theorem tn_94 : (((zT 94).2 : Nat) : Int) = 3 := by decide +kernel
theorem tg_95 : (zT 95).1 = 1 := by decide +kernel
theorem tn_95 : (((zT 95).2 : Nat) : Int) = 3 := by decide +kernel
theorem tg_96 : (zT 96).1 = 19 := by decide +kernel
theorem tg_97 : (zT 97).1 = 1 := by decide +kernel
theorem tn_97 : (((zT 97).2 : Nat) : Int) = 3 := by decide +kernel
theorem tg_98 : (zT 98).1 = 1 := by decide +kernel
theorem tn_98 : (((zT 98).2 : Nat) : Int) = 3 := by decide +kernel
theorem tg_99 : (zT 99).1 = 1 := by decide +kernel
theorem tn_99 : (((zT 99).2 : Nat) : Int) = 3 := by decide +kernel
theorem tg_100 : (zT 100).1 = 15 := by decide +kernel
theorem tg_101 : (zT 101).1 = 19 := by decide +kernel
theorem tg_102 : (zT 102).1 = 1 := by decide +kernel
theorem tn_102 : (((zT 102).2 : Nat) : Int) = 3 := by decide +kernel
theorem tg_103 : (zT 103).1 = 1 := by decide +kernel
theorem tn_103 : (((zT 103).2 : Nat) : Int) = 3 := by decide +kernel
theorem tg_104 : (zT 104).1 = 1 := by decide +kernel
theorem tn_104 : (((zT 104).2 : Nat) : Int) = 3 := by decide +kernel
theorem tg_105 : (zT 105).1 = 19 := by decide +kernel
theorem tg_106 : (zT 106).1 = 1 := by decide +kernel
theorem tn_106 : (((zT 106).2 : Nat) : Int) = 3 := by decide +kernel
theorem tg_107 : (zT 107).1 = 1 := by decide +kernel
theorem tn_107 : (((zT 107).2 : Nat) : Int) = 3 := by decide +kernel
theorem tg_108 : (zT 108).1 = 1 := by decide +kernel
theorem tn_108 : (((zT 108).2 : Nat) : Int) = 3 := by decide +kernel
theorem tg_109 : (zT 109).1 = 15 := by decide +kernel
theorem tg_110 : (zT 110).1 = 19 := by decide +kernel
theorem tg_111 : (zT 111).1 = 1 := by decide +kernel
theorem tn_111 : (((zT 111).2 : Nat) : Int) = 3 := by decide +kernel
theorem tg_112 : (zT 112).1 = 1 := by decide +kernel
theorem tn_112 : (((zT 112).2 : Nat) : Int) = 3 := by decide +kernel
theorem tg_113 : (zT 113).1 = 1 := by decide +kernel
theorem tn_113 : (((zT 113).2 : Nat) : Int) = 3 := by decide +kernel
theorem tg_114 : (zT 114).1 = 19 := by decide +kernel
theorem tg_115 : (zT 115).1 = 1 := by decide +kernel
theorem tn_115 : (((zT 115).2 : Nat) : Int) = 3 := by decide +kernel
theorem tg_116 : (zT 116).1 = 1 := by decide +kernel
theorem tn_116 : (((zT 116).2 : Nat) : Int) = 3 := by decide +kernel
theorem tg_117 : (zT 117).1 = 1 := by decide +kernel
theorem tn_117 : (((zT 117).2 : Nat) : Int) = 3 := by decide +kernel
theorem tg_118 : (zT 118).1 = 19 := by decide +kernel
theorem tg_119 : (zT 119).1 = 1 := by decide +kernel
theorem tn_119 : (((zT 119).2 : Nat) : Int) = 3 := by decide +kernel
theorem tg_120 : (zT 120).1 = 1 := by decide +kernel
theorem tn_120 : (((zT 120).2 : Nat) : Int) = 3 := by decide +kernel
theorem tg_121 : (zT 121).1 = 1 := by decide +kernel
theorem tn_121 : (((zT 121).2 : Nat) : Int) = 3 := by decide +kernel
theorem tg_122 : (zT 122).1 = 19 := by decide +kernel
theorem tg_123 : (zT 123).1 = 1 := by decide +kernel
theorem tn_123 : (((zT 123).2 : Nat) : Int) = 3 := by decide +kernel
theorem tg_124 : (zT 124).1 = 1 := by decide +kernel
theorem tn_124 : (((zT 124).2 : Nat) : Int) = 3 := by decide +kernel
theorem tg_125 : (zT 125).1 = 1 := by decide +kernel
theorem tn_125 : (((zT 125).2 : Nat) : Int) = 3 := by decide +kernel
theorem tg_126 : (zT 126).1 = 19 := by decide +kernel
theorem tg_127 : (zT 127).1 = 1 := by decide +kernel
theorem tn_127 : (((zT 127).2 : Nat) : Int) = 3 := by decide +kernel
theorem tg_128 : (zT 128).1 = 1 := by decide +kernel
theorem tn_128 : (((zT 128).2 : Nat) : Int) = 3 := by decide +kernel
theorem tg_129 : (zT 129).1 = 1 := by decide +kernel
theorem tn_129 : (((zT 129).2 : Nat) : Int) = 3 := by decide +kernel
theorem tg_130 : (zT 130).1 = 19 := by decide +kernel
theorem tg_131 : (zT 131).1 = 1 := by decide +kernel
theorem tn_131 : (((zT 131).2 : Nat) : Int) = 3 := by decide +kernel
theorem tg_132 : (zT 132).1 = 1 := by decide +kernel
theorem tn_132 : (((zT 132).2 : Nat) : Int) = 3 := by decide +kernel
theorem tg_133 : (zT 133).1 = 1 := by decide +kernel
theorem tn_133 : (((zT 133).2 : Nat) : Int) = 3 := by decide +kernel
theorem tg_134 : (zT 134).1 = 17 := by decide +kernel
theorem tg_135 : (zT 135).1 = 11 := by decide +kernel
theorem tg_136 : (zT 136).1 = 1 := by decide +kernel
theorem tn_136 : (((zT 136).2 : Nat) : Int) = 4 := by decide +kernel
theorem tg_137 : (zT 137).1 = 1 := by decide +kernel
theorem tn_137 : (((zT 137).2 : Nat) : Int) = 4 := by decide +kernel
theorem tg_138 : (zT 138).1 = 5 := by decide +kernel
theorem tn_138 : (((zT 138).2 : Nat) : Int) = 12 := by decide +kernel
theorem tg_139 : (zT 139).1 = 6 := by decide +kernel
theorem tn_139 : (((zT 139).2 : Nat) : Int) = 4 := by decide +kernel
theorem tg_140 : (zT 140).1 = 1 := by decide +kernel
theorem tn_140 : (((zT 140).2 : Nat) : Int) = 4 := by decide +kernel
theorem tg_141 : (zT 141).1 = 15 := by decide +kernel
theorem tg_142 : (zT 142).1 = 19 := by decide +kernel
theorem tg_143 : (zT 143).1 = 1 := by decide +kernel
theorem tn_143 : (((zT 143).2 : Nat) : Int) = 3 := by decide +kernel
theorem tg_144 : (zT 144).1 = 1 := by decide +kernel
theorem tn_144 : (((zT 144).2 : Nat) : Int) = 3 := by decide +kernel
theorem tg_145 : (zT 145).1 = 1 := by decide +kernel
theorem tn_145 : (((zT 145).2 : Nat) : Int) = 3 := by decide +kernel
theorem tg_146 : (zT 146).1 = 19 := by decide +kernel
theorem tg_147 : (zT 147).1 = 1 := by decide +kernel
theorem tn_147 : (((zT 147).2 : Nat) : Int) = 3 := by decide +kernel
theorem tg_148 : (zT 148).1 = 1 := by decide +kernel
theorem tn_148 : (((zT 148).2 : Nat) : Int) = 3 := by decide +kernel
theorem tg_149 : (zT 149).1 = 1 := by decide +kernel
theorem tn_149 : (((zT 149).2 : Nat) : Int) = 3 := by decide +kernel
theorem tg_150 : (zT 150).1 = 15 := by decide +kernel
theorem tg_151 : (zT 151).1 = 19 := by decide +kernel
theorem tg_152 : (zT 152).1 = 1 := by decide +kernel
theorem tn_152 : (((zT 152).2 : Nat) : Int) = 3 := by decide +kernel
theorem tg_153 : (zT 153).1 = 1 := by decide +kernel
theorem tn_153 : (((zT 153).2 : Nat) : Int) = 3 := by decide +kernel
theorem tg_154 : (zT 154).1 = 1 := by decide +kernel
theorem tn_154 : (((zT 154).2 : Nat) : Int) = 3 := by decide +kernel
theorem tg_155 : (zT 155).1 = 19 := by decide +kernel
theorem tg_156 : (zT 156).1 = 1 := by decide +kernel
theorem tn_156 : (((zT 156).2 : Nat) : Int) = 3 := by decide +kernel
theorem tg_157 : (zT 157).1 = 1 := by decide +kernel
theorem tn_157 : (((zT 157).2 : Nat) : Int) = 3 := by decide +kernel
theorem tg_158 : (zT 158).1 = 1 := by decide +kernel
theorem tn_158 : (((zT 158).2 : Nat) : Int) = 3 := by decide +kernel
theorem tg_159 : (zT 159).1 = 15 := by decide +kernel
theorem tg_160 : (zT 160).1 = 19 := by decide +kernel
theorem tg_161 : (zT 161).1 = 1 := by decide +kernel
theorem tn_161 : (((zT 161).2 : Nat) : Int) = 3 := by decide +kernel
theorem tg_162 : (zT 162).1 = 1 := by decide +kernel
theorem tn_162 : (((zT 162).2 : Nat) : Int) = 3 := by decide +kernel
theorem tg_163 : (zT 163).1 = 1 := by decide +kernel
theorem tn_163 : (((zT 163).2 : Nat) : Int) = 3 := by decide +kernel
theorem tg_164 : (zT 164).1 = 19 := by decide +kernel
theorem tg_165 : (zT 165).1 = 1 := by decide +kernel
theorem tn_165 : (((zT 165).2 : Nat) : Int) = 3 := by decide +kernel
theorem tg_166 : (zT 166).1 = 1 := by decide +kernel
theorem tn_166 : (((zT 166).2 : Nat) : Int) = 3 := by decide +kernel
theorem tg_167 : (zT 167).1 = 1 := by decide +kernel
theorem tn_167 : (((zT 167).2 : Nat) : Int) = 3 := by decide +kernel
theorem tg_168 : (zT 168).1 = 15 := by decide +kernel
theorem tg_169 : (zT 169).1 = 19 := by decide +kernel
theorem tg_170 : (zT 170).1 = 1 := by decide +kernel
theorem tn_170 : (((zT 170).2 : Nat) : Int) = 3 := by decide +kernel
theorem tg_171 : (zT 171).1 = 1 := by decide +kernel
theorem tn_171 : (((zT 171).2 : Nat) : Int) = 3 := by decide +kernel
theorem tg_172 : (zT 172).1 = 1 := by decide +kernel
theorem tn_172 : (((zT 172).2 : Nat) : Int) = 3 := by decide +kernel
theorem tg_173 : (zT 173).1 = 19 := by decide +kernel
theorem tg_174 : (zT 174).1 = 1 := by decide +kernel
theorem tn_174 : (((zT 174).2 : Nat) : Int) = 3 := by decide +kernel
theorem tg_175 : (zT 175).1 = 1 := by decide +kernel
theorem tn_175 : (((zT 175).2 : Nat) : Int) = 3 := by decide +kernel
theorem tg_176 : (zT 176).1 = 1 := by decide +kernel
theorem tn_176 : (((zT 176).2 : Nat) : Int) = 3 := by decide +kernel
theorem tg_177 : (zT 177).1 = 15 := by decide +kernel
theorem tg_178 : (zT 178).1 = 19 := by decide +kernel
theorem tg_179 : (zT 179).1 = 1 := by decide +kernel
theorem tn_179 : (((zT 179).2 : Nat) : Int) = 3 := by decide +kernel
theorem tg_180 : (zT 180).1 = 1 := by decide +kernel
theorem tn_180 : (((zT 180).2 : Nat) : Int) = 3 := by decide +kernel
theorem tg_181 : (zT 181).1 = 1 := by decide +kernel
theorem tn_181 : (((zT 181).2 : Nat) : Int) = 3 := by decide +kernel
theorem tg_182 : (zT 182).1 = 19 := by decide +kernel
theorem tg_183 : (zT 183).1 = 1 := by decide +kernel
theorem tn_183 : (((zT 183).2 : Nat) : Int) = 3 := by decide +kernel
theorem tg_184 : (zT 184).1 = 1 := by decide +kernel
theorem tn_184 : (((zT 184).2 : Nat) : Int) = 3 := by decide +kernel
theorem tg_185 : (zT 185).1 = 1 := by decide +kernel
theorem tn_185 : (((zT 185).2 : Nat) : Int) = 3 := by decide +kernel
theorem tg_186 : (zT 186).1 = 15 := by decide +kernel
theorem tg_187 : (zT 187).1 = 19 := by decide +kernel
theorem tg_188 : (zT 188).1 = 1 := by decide +kernel
theorem tn_188 : (((zT 188).2 : Nat) : Int) = 3 := by decide +kernel
theorem tg_189 : (zT 189).1 = 1 := by decide +kernel
theorem tn_189 : (((zT 189).2 : Nat) : Int) = 3 := by decide +kernel
theorem tg_190 : (zT 190).1 = 1 := by decide +kernel
theorem tn_190 : (((zT 190).2 : Nat) : Int) = 3 := by decide +kernel
theorem tg_191 : (zT 191).1 = 19 := by decide +kernel
theorem tg_192 : (zT 192).1 = 1 := by decide +kernel
theorem tn_192 : (((zT 192).2 : Nat) : Int) = 3 := by decide +kernel
theorem tg_193 : (zT 193).1 = 1 := by decide +kernel
theorem tn_193 : (((zT 193).2 : Nat) : Int) = 3 := by decide +kernel
theorem tg_194 : (zT 194).1 = 1 := by decide +kernel
theorem tn_194 : (((zT 194).2 : Nat) : Int) = 3 := by decide +kernel
theorem tg_195 : (zT 195).1 = 15 := by decide +kernel
theorem tg_196 : (zT 196).1 = 19 := by decide +kernel
theorem tg_197 : (zT 197).1 = 1 := by decide +kernel
theorem tn_197 : (((zT 197).2 : Nat) : Int) = 3 := by decide +kernel
theorem tg_198 : (zT 198).1 = 1 := by decide +kernel
theorem tn_198 : (((zT 198).2 : Nat) : Int) = 3 := by decide +kernel
theorem tg_199 : (zT 199).1 = 1 := by decide +kernel
theorem tn_199 : (((zT 199).2 : Nat) : Int) = 3 := by decide +kernel
theorem tg_200 : (zT 200).1 = 19 := by decide +kernel
theorem tg_201 : (zT 201).1 = 1 := by decide +kernel
theorem tn_201 : (((zT 201).2 : Nat) : Int) = 3 := by decide +kernel
theorem tg_202 : (zT 202).1 = 1 := by decide +kernel
theorem tn_202 : (((zT 202).2 : Nat) : Int) = 3 := by decide +kernel
theorem tg_203 : (zT 203).1 = 1 := by decide +kernel
theorem tn_203 : (((zT 203).2 : Nat) : Int) = 3 := by decide +kernel
theorem tg_204 : (zT 204).1 = 15 := by decide +kernel
theorem tg_205 : (zT 205).1 = 19 := by decide +kernel
theorem tg_206 : (zT 206).1 = 1 := by decide +kernel
theorem tn_206 : (((zT 206).2 : Nat) : Int) = 3 := by decide +kernel
theorem tg_207 : (zT 207).1 = 1 := by decide +kernel
theorem tn_207 : (((zT 207).2 : Nat) : Int) = 3 := by decide +kernel
theorem tg_208 : (zT 208).1 = 1 := by decide +kernel
theorem tn_208 : (((zT 208).2 : Nat) : Int) = 3 := by decide +kernel
theorem tg_209 : (zT 209).1 = 19 := by decide +kernel
theorem tg_210 : (zT 210).1 = 1 := by decide +kernel
theorem tn_210 : (((zT 210).2 : Nat) : Int) = 3 := by decide +kernel
theorem tg_211 : (zT 211).1 = 1 := by decide +kernel
theorem tn_211 : (((zT 211).2 : Nat) : Int) = 3 := by decide +kernel
theorem tg_212 : (zT 212).1 = 1 := by decide +kernel
theorem tn_212 : (((zT 212).2 : Nat) : Int) = 3 := by decide +kernel
theorem tg_213 : (zT 213).1 = 15 := by decide +kernel
theorem tg_214 : (zT 214).1 = 19 := by decide +kernel
theorem tg_215 : (zT 215).1 = 1 := by decide +kernel
theorem tn_215 : (((zT 215).2 : Nat) : Int) = 3 := by decide +kernel
theorem tg_216 : (zT 216).1 = 1 := by decide +kernel
theorem tn_216 : (((zT 216).2 : Nat) : Int) = 3 := by decide +kernel
theorem tg_217 : (zT 217).1 = 1 := by decide +kernel
theorem tn_217 : (((zT 217).2 : Nat) : Int) = 3 := by decide +kernel
theorem tg_218 : (zT 218).1 = 19 := by decide +kernel
theorem tg_219 : (zT 219).1 = 1 := by decide +kernel
theorem tn_219 : (((zT 219).2 : Nat) : Int) = 3 := by decide +kernel
theorem tg_220 : (zT 220).1 = 1 := by decide +kernel
theorem tn_220 : (((zT 220).2 : Nat) : Int) = 3 := by decide +kernel
theorem tg_221 : (zT 221).1 = 1 := by decide +kernel
theorem tn_221 : (((zT 221).2 : Nat) : Int) = 3 := by decide +kernel
theorem tg_222 : (zT 222).1 = 15 := by decide +kernel
theorem tg_223 : (zT 223).1 = 19 := by decide +kernel
theorem tg_224 : (zT 224).1 = 1 := by decide +kernel
theorem tn_224 : (((zT 224).2 : Nat) : Int) = 3 := by decide +kernel
theorem tg_225 : (zT 225).1 = 1 := by decide +kernel
theorem tn_225 : (((zT 225).2 : Nat) : Int) = 3 := by decide +kernel
theorem tg_226 : (zT 226).1 = 1 := by decide +kernel
theorem tn_226 : (((zT 226).2 : Nat) : Int) = 3 := by decide +kernel
theorem tg_227 : (zT 227).1 = 19 := by decide +kernel
theorem tg_228 : (zT 228).1 = 1 := by decide +kernel
theorem tn_228 : (((zT 228).2 : Nat) : Int) = 3 := by decide +kernel
theorem tg_229 : (zT 229).1 = 1 := by decide +kernel
theorem tn_229 : (((zT 229).2 : Nat) : Int) = 3 := by decide +kernel
theorem tg_230 : (zT 230).1 = 1 := by decide +kernel
theorem tn_230 : (((zT 230).2 : Nat) : Int) = 3 := by decide +kernel
theorem tg_231 : (zT 231).1 = 15 := by decide +kernel
theorem tg_232 : (zT 232).1 = 19 := by decide +kernel
theorem tg_233 : (zT 233).1 = 1 := by decide +kernel
theorem tn_233 : (((zT 233).2 : Nat) : Int) = 3 := by decide +kernel
theorem tg_234 : (zT 234).1 = 1 := by decide +kernel
theorem tn_234 : (((zT 234).2 : Nat) : Int) = 3 := by decide +kernel
theorem tg_235 : (zT 235).1 = 1 := by decide +kernel
theorem tn_235 : (((zT 235).2 : Nat) : Int) = 3 := by decide +kernel
theorem tg_236 : (zT 236).1 = 19 := by decide +kernel
theorem tg_237 : (zT 237).1 = 1 := by decide +kernel
theorem tn_237 : (((zT 237).2 : Nat) : Int) = 3 := by decide +kernel
theorem tg_238 : (zT 238).1 = 1 := by decide +kernel
theorem tn_238 : (((zT 238).2 : Nat) : Int) = 3 := by decide +kernel
theorem tg_239 : (zT 239).1 = 1 := by decide +kernel
theorem tn_239 : (((zT 239).2 : Nat) : Int) = 3 := by decide +kernel
theorem tg_240 : (zT 240).1 = 15 := by decide +kernel
theorem tg_241 : (zT 241).1 = 19 := by decide +kernel
theorem tg_242 : (zT 242).1 = 1 := by decide +kernel
theorem tn_242 : (((zT 242).2 : Nat) : Int) = 3 := by decide +kernel
theorem tg_243 : (zT 243).1 = 1 := by decide +kernel
theorem tn_243 : (((zT 243).2 : Nat) : Int) = 3 := by decide +kernel
theorem tg_244 : (zT 244).1 = 1 := by decide +kernel
theorem tn_244 : (((zT 244).2 : Nat) : Int) = 3 := by decide +kernel
theorem tg_245 : (zT 245).1 = 19 := by decide +kernel
theorem tg_246 : (zT 246).1 = 1 := by decide +kernel
theorem tn_246 : (((zT 246).2 : Nat) : Int) = 3 := by decide +kernel
theorem tg_247 : (zT 247).1 = 1 := by decide +kernel
theorem tn_247 : (((zT 247).2 : Nat) : Int) = 3 := by decide +kernel
theorem tg_248 : (zT 248).1 = 1 := by decide +kernel
theorem tn_248 : (((zT 248).2 : Nat) : Int) = 3 := by decide +kernel
theorem tg_249 : (zT 249).1 = 19 := by decide +kernel
theorem tg_250 : (zT 250).1 = 1 := by decide +kernel
theorem tn_250 : (((zT 250).2 : Nat) : Int) = 3 := by decide +kernel
theorem tg_251 : (zT 251).1 = 1 := by decide +kernel
theorem tn_251 : (((zT 251).2 : Nat) : Int) = 3 := by decide +kernel
theorem tg_252 : (zT 252).1 = 1 := by decide +kernel
theorem tn_252 : (((zT 252).2 : Nat) : Int) = 3 := by decide +kernel
theorem tg_253 : (zT 253).1 = 19 := by decide +kernel
theorem tg_254 : (zT 254).1 = 1 := by decide +kernel
theorem tn_254 : (((zT 254).2 : Nat) : Int) = 3 := by decide +kernel
theorem tg_255 : (zT 255).1 = 1 := by decide +kernel
theorem tn_255 : (((zT 255).2 : Nat) : Int) = 3 := by decide +kernel
theorem tg_256 : (zT 256).1 = 1 := by decide +kernel
theorem tn_256 : (((zT 256).2 : Nat) : Int) = 3 := by decide +kernel
theorem tg_257 : (zT 257).1 = 19 := by decide +kernel
theorem tg_258 : (zT 258).1 = 1 := by decide +kernel
theorem tn_258 : (((zT 258).2 : Nat) : Int) = 3 := by decide +kernel
theorem tg_259 : (zT 259).1 = 1 := by decide +kernel
theorem tn_259 : (((zT 259).2 : Nat) : Int) = 3 := by decide +kernel
theorem tg_260 : (zT 260).1 = 1 := by decide +kernel
theorem tn_260 : (((zT 260).2 : Nat) : Int) = 3 := by decide +kernel
theorem tg_261 : (zT 261).1 = 19 := by decide +kernel
theorem tg_262 : (zT 262).1 = 1 := by decide +kernel
theorem tn_262 : (((zT 262).2 : Nat) : Int) = 3 := by decide +kernel
theorem tg_263 : (zT 263).1 = 1 := by decide +kernel
theorem tn_263 : (((zT 263).2 : Nat) : Int) = 3 := by decide +kernel
theorem tg_264 : (zT 264).1 = 1 := by decide +kernel
theorem tn_264 : (((zT 264).2 : Nat) : Int) = 3 := by decide +kernel
theorem tg_265 : (zT 265).1 = 1 := by decide +kernel
theorem tn_265 : (((zT 265).2 : Nat) : Int) = 0 := by decide +kernel
theorem tg_266 : (zT 266).1 = 1 := by decide +kernel
theorem tn_266 : (((zT 266).2 : Nat) : Int) = 1000 := by decide +kernel
theorem tg_267 : (zT 267).1 = 1 := by decide +kernel
theorem tn_267 : (((zT 267).2 : Nat) : Int) = 4 := by decide +kernel
theorem tg_268 : (zT 268).1 = 1 := by decide +kernel
theorem tn_268 : (((zT 268).2 : Nat) : Int) = 4 := by decide +kernel
theorem tg_269 : (zT 269).1 = 20 := by decide +kernel
theorem tg_270 : (zT 270).1 = 14 := by decide +kernel
theorem tg_271 : (zT 271).1 = 2 := by decide +kernel
theorem tn_271 : (((zT 271).2 : Nat) : Int) = 1000 := by decide +kernel
theorem tg_272 : (zT 272).1 = 2 := by decide +kernel
theorem tn_272 : (((zT 272).2 : Nat) : Int) = 1000 := by decide +kernel
theorem tg_273 : (zT 273).1 = 4 := by decide +kernel
theorem tn_273 : (((zT 273).2 : Nat) : Int) = 1000 := by decide +kernel
theorem tg_274 : (zT 274).1 = 1 := by decide +kernel
theorem tn_274 : (((zT 274).2 : Nat) : Int) = 1000 := by decide +kernel
theorem tg_275 : (zT 275).1 = 10 := by decide +kernel
theorem tg_276 : (zT 276).1 = 2 := by decide +kernel
theorem tn_276 : (((zT 276).2 : Nat) : Int) = 157 := by decide +kernel
theorem tg_277 : (zT 277).1 = 12 := by decide +kernel
theorem tg_278 : (zT 278).1 = 7 := by decide +kernel
theorem tn_278 : (((zT 278).2 : Nat) : Int) = 11 := by decide +kernel
theorem tg_279 : (zT 279).1 = 2 := by decide +kernel
theorem tn_279 : (((zT 279).2 : Nat) : Int) = 17 := by decide +kernel
theorem tg_280 : (zT 280).1 = 2 := by decide +kernel
theorem tn_280 : (((zT 280).2 : Nat) : Int) = 17 := by decide +kernel
theorem tg_281 : (zT 281).1 = 2 := by decide +kernel
theorem tn_281 : (((zT 281).2 : Nat) : Int) = 17 := by decide +kernel
theorem tg_282 : (zT 282).1 = 2 := by decide +kernel
theorem tn_282 : (((zT 282).2 : Nat) : Int) = 17 := by decide +kernel
theorem tg_283 : (zT 283).1 = 2 := by decide +kernel
theorem tn_283 : (((zT 283).2 : Nat) : Int) = 17 := by decide +kernel
theorem tg_284 : (zT 284).1 = 2 := by decide +kernel
theorem tn_284 : (((zT 284).2 : Nat) : Int) = 17 := by decide +kernel
theorem tg_285 : (zT 285).1 = 2 := by decide +kernel
theorem tn_285 : (((zT 285).2 : Nat) : Int) = 17 := by decide +kernel
theorem tg_286 : (zT 286).1 = 2 := by decide +kernel
theorem tn_286 : (((zT 286).2 : Nat) : Int) = 17 := by decide +kernel
theorem tg_287 : (zT 287).1 = 2 := by decide +kernel
theorem tn_287 : (((zT 287).2 : Nat) : Int) = 17 := by decide +kernel
theorem tg_288 : (zT 288).1 = 2 := by decide +kernel
theorem tn_288 : (((zT 288).2 : Nat) : Int) = 17 := by decide +kernel
theorem tg_289 : (zT 289).1 = 2 := by decide +kernel
theorem tn_289 : (((zT 289).2 : Nat) : Int) = 17 := by decide +kernel
theorem tg_290 : (zT 290).1 = 7 := by decide +kernel
theorem tn_290 : (((zT 290).2 : Nat) : Int) = 15 := by decide +kernel
theorem tg_291 : (zT 291).1 = 2 := by decide +kernel
theorem tn_291 : (((zT 291).2 : Nat) : Int) = 15 := by decide +kernel
theorem tg_292 : (zT 292).1 = 2 := by decide +kernel
theorem tn_292 : (((zT 292).2 : Nat) : Int) = 15 := by decide +kernel
theorem tg_293 : (zT 293).1 = 2 := by decide +kernel
theorem tn_293 : (((zT 293).2 : Nat) : Int) = 15 := by decide +kernel
theorem tg_294 : (zT 294).1 = 2 := by decide +kernel
theorem tn_294 : (((zT 294).2 : Nat) : Int) = 15 := by decide +kernel
theorem tg_295 : (zT 295).1 = 2 := by decide +kernel
theorem tn_295 : (((zT 295).2 : Nat) : Int) = 15 := by decide +kernel
theorem tg_296 : (zT 296).1 = 2 := by decide +kernel
theorem tn_296 : (((zT 296).2 : Nat) : Int) = 15 := by decide +kernel
theorem tg_297 : (zT 297).1 = 2 := by decide +kernel
theorem tn_297 : (((zT 297).2 : Nat) : Int) = 15 := by decide +kernel
theorem tg_298 : (zT 298).1 = 2 := by decide +kernel
theorem tn_298 : (((zT 298).2 : Nat) : Int) = 15 := by decide +kernel
theorem tg_299 : (zT 299).1 = 2 := by decide +kernel
theorem tn_299 : (((zT 299).2 : Nat) : Int) = 15 := by decide +kernel
theorem tg_300 : (zT 300).1 = 2 := by decide +kernel
theorem tn_300 : (((zT 300).2 : Nat) : Int) = 15 := by decide +kernel
theorem tg_301 : (zT 301).1 = 2 := by decide +kernel
theorem tn_301 : (((zT 301).2 : Nat) : Int) = 15 := by decide +kernel
theorem tg_302 : (zT 302).1 = 2 := by decide +kernel
theorem tn_302 : (((zT 302).2 : Nat) : Int) = 15 := by decide +kernel
theorem tg_303 : (zT 303).1 = 2 := by decide +kernel
theorem tn_303 : (((zT 303).2 : Nat) : Int) = 15 := by decide +kernel
theorem tg_304 : (zT 304).1 = 2 := by decide +kernel
theorem tn_304 : (((zT 304).2 : Nat) : Int) = 15 := by decide +kernel
theorem tg_305 : (zT 305).1 = 2 := by decide +kernel
theorem tn_305 : (((zT 305).2 : Nat) : Int) = 15 := by decide +kernel
theorem tg_306 : (zT 306).1 = 16 := by decide +kernel
theorem tg_307 : (zT 307).1 = 1 := by decide +kernel
theorem tn_307 : (((zT 307).2 : Nat) : Int) = 6 := by decide +kernel
theorem tg_308 : (zT 308).1 = 1 := by decide +kernel
theorem tn_308 : (((zT 308).2 : Nat) : Int) = 6 := by decide +kernel
theorem tg_309 : (zT 309).1 = 1 := by decide +kernel
theorem tn_309 : (((zT 309).2 : Nat) : Int) = 6 := by decide +kernel
theorem tg_310 : (zT 310).1 = 22 := by decide +kernel
theorem tg_311 : (zT 311).1 = 1 := by decide +kernel
theorem tn_311 : (((zT 311).2 : Nat) : Int) = 800 := by decide +kernel
theorem tg_312 : (zT 312).1 = 1 := by decide +kernel
theorem tn_312 : (((zT 312).2 : Nat) : Int) = 2 := by decide +kernel
theorem tg_313 : (zT 313).1 = 1 := by decide +kernel
theorem tn_313 : (((zT 313).2 : Nat) : Int) = 2 := by decide +kernel
theorem tg_314 : (zT 314).1 = 2 := by decide +kernel
theorem tn_314 : (((zT 314).2 : Nat) : Int) = 8 := by decide +kernel
theorem tg_315 : (zT 315).1 = 1 := by decide +kernel
theorem tn_315 : (((zT 315).2 : Nat) : Int) = 8 := by decide +kernel
theorem tg_316 : (zT 316).1 = 1 := by decide +kernel
theorem tn_316 : (((zT 316).2 : Nat) : Int) = 8 := by decide +kernel
theorem tg_317 : (zT 317).1 = 1 := by decide +kernel
theorem tn_317 : (((zT 317).2 : Nat) : Int) = 2 := by decide +kernel
theorem tg_318 : (zT 318).1 = 1 := by decide +kernel
theorem tn_318 : (((zT 318).2 : Nat) : Int) = 24 := by decide +kernel
theorem tg_319 : (zT 319).1 = 1 := by decide +kernel
theorem tn_319 : (((zT 319).2 : Nat) : Int) = 2 := by decide +kernel
theorem tg_320 : (zT 320).1 = 1 := by decide +kernel
theorem tn_320 : (((zT 320).2 : Nat) : Int) = 32 := by decide +kernel
theorem tg_321 : (zT 321).1 = 1 := by decide +kernel
theorem tn_321 : (((zT 321).2 : Nat) : Int) = 96 := by decide +kernel
theorem tg_322 : (zT 322).1 = 1 := by decide +kernel
theorem tn_322 : (((zT 322).2 : Nat) : Int) = 96 := by decide +kernel
theorem tg_323 : (zT 323).1 = 1 := by decide +kernel
theorem tn_323 : (((zT 323).2 : Nat) : Int) = 96 := by decide +kernel
theorem tg_324 : (zT 324).1 = 1 := by decide +kernel
theorem tn_324 : (((zT 324).2 : Nat) : Int) = 24 := by decide +kernel
theorem tg_325 : (zT 325).1 = 1 := by decide +kernel
theorem tn_325 : (((zT 325).2 : Nat) : Int) = 72 := by decide +kernel
theorem tg_326 : (zT 326).1 = 1 := by decide +kernel
theorem tn_326 : (((zT 326).2 : Nat) : Int) = 72 := by decide +kernel
theorem tg_327 : (zT 327).1 = 1 := by decide +kernel
theorem tn_327 : (((zT 327).2 : Nat) : Int) = 72 := by decide +kernel
theorem tg_328 : (zT 328).1 = 1 := by decide +kernel
theorem tn_328 : (((zT 328).2 : Nat) : Int) = 4 := by decide +kernel
theorem tg_329 : (zT 329).1 = 2 := by decide +kernel
theorem tn_329 : (((zT 329).2 : Nat) : Int) = 1000 := by decide +kernel
theorem tg_330 : (zT 330).1 = 2 := by decide +kernel
theorem tn_330 : (((zT 330).2 : Nat) : Int) = 1000 := by decide +kernel
theorem tg_331 : (zT 331).1 = 1 := by decide +kernel
theorem tn_331 : (((zT 331).2 : Nat) : Int) = 1000 := by decide +kernel
theorem tg_332 : (zT 332).1 = 4 := by decide +kernel
theorem tn_332 : (((zT 332).2 : Nat) : Int) = 1000 := by decide +kernel
theorem tg_333 : (zT 333).1 = 4 := by decide +kernel
theorem tn_333 : (((zT 333).2 : Nat) : Int) = 10000 := by decide +kernel
theorem tg_334 : (zT 334).1 = 1 := by decide +kernel
theorem tn_334 : (((zT 334).2 : Nat) : Int) = 61 := by decide +kernel
theorem tg_335 : (zT 335).1 = 1 := by decide +kernel
theorem tn_335 : (((zT 335).2 : Nat) : Int) = 61 := by decide +kernel
theorem tg_336 : (zT 336).1 = 1 := by decide +kernel
theorem tn_336 : (((zT 336).2 : Nat) : Int) = 61 := by decide +kernel
theorem tg_337 : (zT 337).1 = 1 := by decide +kernel
theorem tn_337 : (((zT 337).2 : Nat) : Int) = 20000 := by decide +kernel
