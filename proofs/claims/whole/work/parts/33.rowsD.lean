section
variable {X : ZX} {call : ZC} {ls st : List ZV} {σ : ZS} {Q : Option ZV × ZS → Prop} {c s : Nat} {I L : ZI} {R : ZR} {x y j k : Int} {a b e : Nat} {u w : Option Nat} {a1 a2 a3 a4 a5 a6 : ZV} {v0 v1 v2 v3 v4 v5 v6 v7 v8 v9 v10 v11 v12 v13 : ZV}

theorem e_L_law_0 : V X call mL_law 0 [v0, v1, v2, v3] st (c, s, I, L, R) Q ↔ zT c = (21, 11) ∧ V X call mL_law 3 [v0, v1, v2, v3] (zr (some c) :: st) (c + 1, s + 11, I, L, R) Q := W_new dL_law_0 ln_13_7 (by decide) rfl rfl rfl
theorem e_L_law_3 : V X call mL_law 3 [v0, v1, v2, v3] (zi x :: st) σ Q ↔ V X call mL_law 4 [v0, v1, v2, v3] (zi x :: zi x :: st) σ Q := V_dupI dL_law_3 rfl
theorem e_L_law_3r : V X call mL_law 3 [v0, v1, v2, v3] (zr u :: st) σ Q ↔ V X call mL_law 4 [v0, v1, v2, v3] (zr u :: zr u :: st) σ Q := V_dupA dL_law_3 rfl
theorem e_L_law_4 : V X call mL_law 4 [v0, v1, v2, v3] (zr (some a) :: st) σ Q ↔ (zT a).1 = 21 ∧ zcats st ≤ 8 ∧ zcll (call 84 [zr (some a)] σ) (fun r τ => (σ.1 ≤ τ.1 ∧ σ.2.1 ≤ τ.2.1) ∧ V X call mL_law 7 [v0, v1, v2, v3] (zpush r st) τ Q) := V_in0 dL_law_4 lm_13_9 (by decide) zm_84 (by decide) rfl
theorem e_L_law_7 : V X call mL_law 7 [v0, v1, v2, v3] (zr u :: st) σ Q ↔ V X call mL_law 8 [zinv v0, zr u, v2, v3] st σ Q := W_astore_n (j := 1) dL_law_7 rfl rfl (by show 1 < 4; decide) rfl
theorem e_L_law_8 : V X call mL_law 8 [v0, v1, v2, v3] st (c, s, I, L, R) Q ↔ zT c = (22, 47) ∧ V X call mL_law 11 [v0, v1, v2, v3] (zr (some c) :: st) (c + 1, s + 47, I, L, R) Q := W_new dL_law_8 ln_13_10 (by decide) rfl rfl rfl
theorem e_L_law_11 : V X call mL_law 11 [v0, v1, v2, v3] (zi x :: st) σ Q ↔ V X call mL_law 12 [v0, v1, v2, v3] (zi x :: zi x :: st) σ Q := V_dupI dL_law_11 rfl
theorem e_L_law_11r : V X call mL_law 11 [v0, v1, v2, v3] (zr u :: st) σ Q ↔ V X call mL_law 12 [v0, v1, v2, v3] (zr u :: zr u :: st) σ Q := V_dupA dL_law_11 rfl
theorem e_L_law_12 : V X call mL_law 12 [v0, v1, v2, v3] (zr (some a) :: st) σ Q ↔ (zT a).1 = 22 ∧ zcats st ≤ 8 ∧ zcll (call 112 [zr (some a)] σ) (fun r τ => (σ.1 ≤ τ.1 ∧ σ.2.1 ≤ τ.2.1) ∧ V X call mL_law 15 [v0, v1, v2, v3] (zpush r st) τ Q) := V_in0 dL_law_12 lm_13_12 (by decide) zm_112 (by decide) rfl
theorem e_L_law_15 : V X call mL_law 15 [v0, v1, v2, v3] (zr u :: st) σ Q ↔ V X call mL_law 16 [v0, zinv v1, zr u, v3] st σ Q := W_astore_n (j := 2) dL_law_15 rfl rfl (by show 2 < 4; decide) rfl
theorem e_L_law_16 : V X call mL_law 16 [v0, v1, v2, v3] st σ Q ↔ V X call mL_law 17 [v0, v1, v2, v3] (zi (0) :: st) σ Q := V_iconst dL_law_16 (by decide) rfl
theorem e_L_law_17 : V X call mL_law 17 [v0, v1, v2, v3] (zi x :: st) σ Q ↔ V X call mL_law 18 [v0, v1, zinv v2, zi x] st σ Q := W_istore_n (j := 3) dL_law_17 rfl rfl (by show 3 < 4; decide) rfl
theorem e_L_law_18 : V X call mL_law 18 [v0, v1, v2, zi x] st σ Q ↔ V X call mL_law 19 [v0, v1, v2, zi x] (zi x :: st) σ Q := W_iload_n (j := 3) dL_law_18 rfl rfl rfl
theorem e_L_law_19 : V X call mL_law 19 [zr u, v1, v2, v3] st σ Q ↔ V X call mL_law 20 [zr u, v1, v2, v3] (zr u :: st) σ Q := W_aload_n (j := 0) dL_law_19 rfl rfl rfl
theorem e_L_law_19x : V X call mL_law 19 [zx (e + 1), v1, v2, v3] st σ Q ↔ V X call mL_law 20 [zx (e + 1), v1, v2, v3] (zx (e + 1) :: st) σ Q := W_aloadx_n (j := 0) dL_law_19 rfl rfl rfl
theorem e_L_law_20 : V X call mL_law 20 [v0, v1, v2, v3] (zr (some a) :: st) (c, s, I, L, R) Q ↔ ((zT a).1 < 10 ∧ 1 ≤ (zT a).1) ∧ V X call mL_law 21 [v0, v1, v2, v3] (zi ((zT a).2 : Int) :: st) (c, s, I, L, R) Q := V_alen (n := 0) dL_law_20 rfl
theorem e_L_law_20x : V X call mL_law 20 [v0, v1, v2, v3] (zx 1 :: st) (c, s, I, L, R) Q ↔ V X call mL_law 21 [v0, v1, v2, v3] (zi (X.1 : Int) :: st) (c, s, I, L, R) Q := V_slen dL_law_20 rfl
theorem e_L_law_21 : V X call mL_law 21 [v0, v1, v2, v3] st σ Q ↔ V X call mL_law 23 [v0, v1, v2, v3] (zi (7) :: st) σ Q := V_bipush dL_law_21 (by decide) rfl
theorem e_L_law_23 : V X call mL_law 23 [v0, v1, v2, v3] (zi y :: zi x :: st) σ Q ↔ V X call mL_law 24 [v0, v1, v2, v3] (zi (zw3 (x - y)) :: st) σ Q := V_isub dL_law_23 rfl
theorem e_L_law_24 : V X call mL_law 24 [v0, v1, v2, v3] (zi y :: zi x :: st) σ Q ↔ (if y < x then V X call mL_law 894 [v0, v1, v2, v3] st σ Q else V X call mL_law 27 [v0, v1, v2, v3] st σ Q) := V_ic_gt dL_law_24 rfl rfl
theorem e_L_law_27 : V X call mL_law 27 [zr u, v1, v2, v3] st σ Q ↔ V X call mL_law 28 [zr u, v1, v2, v3] (zr u :: st) σ Q := W_aload_n (j := 0) dL_law_27 rfl rfl rfl
theorem e_L_law_27x : V X call mL_law 27 [zx (e + 1), v1, v2, v3] st σ Q ↔ V X call mL_law 28 [zx (e + 1), v1, v2, v3] (zx (e + 1) :: st) σ Q := W_aloadx_n (j := 0) dL_law_27 rfl rfl rfl
theorem e_L_law_28 : V X call mL_law 28 [v0, v1, v2, zi x] st σ Q ↔ V X call mL_law 29 [v0, v1, v2, zi x] (zi x :: st) σ Q := W_iload_n (j := 3) dL_law_28 rfl rfl rfl
theorem e_L_law_29 : V X call mL_law 29 [v0, v1, v2, v3] (zi j :: zr (some a) :: st) (c, s, I, L, R) Q ↔ ((zT a).1 = 1 ∧ 0 ≤ j ∧ j < ((zT a).2 : Int)) ∧ V X call mL_law 30 [v0, v1, v2, v3] (zi (I a j.toNat) :: st) (c, s, I, L, R) Q := V_iaload dL_law_29 rfl
theorem e_L_law_29x : V X call mL_law 29 [v0, v1, v2, v3] (zi j :: zx 1 :: st) (c, s, I, L, R) Q ↔ (0 ≤ j ∧ j < (X.1 : Int)) ∧ V X call mL_law 30 [v0, v1, v2, v3] (zi (X.2 j.toNat) :: st) (c, s, I, L, R) Q := V_saload dL_law_29 rfl
theorem e_L_law_30 : V X call mL_law 30 [v0, v1, v2, v3] st σ Q ↔ V X call mL_law 32 [v0, v1, v2, v3] (zi (31) :: st) σ Q := V_bipush dL_law_30 (by decide) rfl
theorem e_L_law_32 : V X call mL_law 32 [v0, v1, v2, v3] (zi y :: zi x :: st) σ Q ↔ V X call mL_law 33 [v0, v1, v2, v3] (zi (zand3 x y) :: st) σ Q := V_iand dL_law_32 rfl
theorem e_L_law_124 : V X call mL_law 124 [v0, zr u, v2, v3] st σ Q ↔ V X call mL_law 125 [v0, zr u, v2, v3] (zr u :: st) σ Q := W_aload_n (j := 1) dL_law_124 rfl rfl rfl
theorem e_L_law_124x : V X call mL_law 124 [v0, zx (e + 1), v2, v3] st σ Q ↔ V X call mL_law 125 [v0, zx (e + 1), v2, v3] (zx (e + 1) :: st) σ Q := W_aloadx_n (j := 1) dL_law_124 rfl rfl rfl
theorem e_L_law_125 : V X call mL_law 125 [zr u, v1, v2, v3] st σ Q ↔ V X call mL_law 126 [zr u, v1, v2, v3] (zr u :: st) σ Q := W_aload_n (j := 0) dL_law_125 rfl rfl rfl
theorem e_L_law_125x : V X call mL_law 125 [zx (e + 1), v1, v2, v3] st σ Q ↔ V X call mL_law 126 [zx (e + 1), v1, v2, v3] (zx (e + 1) :: st) σ Q := W_aloadx_n (j := 0) dL_law_125 rfl rfl rfl
theorem e_L_law_126 : V X call mL_law 126 [v0, v1, v2, zi x] st σ Q ↔ V X call mL_law 127 [v0, v1, v2, zi x] (zi x :: st) σ Q := W_iload_n (j := 3) dL_law_126 rfl rfl rfl
theorem e_L_law_127 : V X call mL_law 127 [v0, v1, v2, v3] st σ Q ↔ V X call mL_law 128 [v0, v1, v2, v3] (zi (1) :: st) σ Q := V_iconst dL_law_127 (by decide) rfl
theorem e_L_law_128 : V X call mL_law 128 [v0, v1, v2, v3] (zi y :: zi x :: st) σ Q ↔ V X call mL_law 129 [v0, v1, v2, v3] (zi (zw3 (x + y)) :: st) σ Q := V_iadd dL_law_128 rfl
theorem e_L_law_129 : V X call mL_law 129 [v0, v1, v2, v3] (zi j :: zr (some a) :: st) (c, s, I, L, R) Q ↔ ((zT a).1 = 1 ∧ 0 ≤ j ∧ j < ((zT a).2 : Int)) ∧ V X call mL_law 130 [v0, v1, v2, v3] (zi (I a j.toNat) :: st) (c, s, I, L, R) Q := V_iaload dL_law_129 rfl
theorem e_L_law_129x : V X call mL_law 129 [v0, v1, v2, v3] (zi j :: zx 1 :: st) (c, s, I, L, R) Q ↔ (0 ≤ j ∧ j < (X.1 : Int)) ∧ V X call mL_law 130 [v0, v1, v2, v3] (zi (X.2 j.toNat) :: st) (c, s, I, L, R) Q := V_saload dL_law_129 rfl
theorem e_L_law_130 : V X call mL_law 130 [v0, v1, v2, v3] (zi x :: st) σ Q ↔ V X call mL_law 131 [v0, v1, v2, v3] (zl x :: st) σ Q := V_i2l dL_law_130 rfl
theorem e_L_law_131 : V X call mL_law 131 [v0, v1, v2, v3] st σ Q ↔ V X call mL_law 133 [v0, v1, v2, v3] (zi (32) :: st) σ Q := V_bipush dL_law_131 (by decide) rfl
theorem e_L_law_133 : V X call mL_law 133 [v0, v1, v2, v3] (zi y :: zl x :: st) σ Q ↔ V X call mL_law 134 [v0, v1, v2, v3] (zl (zshl6 x y) :: st) σ Q := V_lshl dL_law_133 rfl
theorem e_L_law_134 : V X call mL_law 134 [zr u, v1, v2, v3] st σ Q ↔ V X call mL_law 135 [zr u, v1, v2, v3] (zr u :: st) σ Q := W_aload_n (j := 0) dL_law_134 rfl rfl rfl
theorem e_L_law_134x : V X call mL_law 134 [zx (e + 1), v1, v2, v3] st σ Q ↔ V X call mL_law 135 [zx (e + 1), v1, v2, v3] (zx (e + 1) :: st) σ Q := W_aloadx_n (j := 0) dL_law_134 rfl rfl rfl
theorem e_L_law_135 : V X call mL_law 135 [v0, v1, v2, zi x] st σ Q ↔ V X call mL_law 136 [v0, v1, v2, zi x] (zi x :: st) σ Q := W_iload_n (j := 3) dL_law_135 rfl rfl rfl
theorem e_L_law_136 : V X call mL_law 136 [v0, v1, v2, v3] st σ Q ↔ V X call mL_law 137 [v0, v1, v2, v3] (zi (2) :: st) σ Q := V_iconst dL_law_136 (by decide) rfl
theorem e_L_law_137 : V X call mL_law 137 [v0, v1, v2, v3] (zi y :: zi x :: st) σ Q ↔ V X call mL_law 138 [v0, v1, v2, v3] (zi (zw3 (x + y)) :: st) σ Q := V_iadd dL_law_137 rfl
theorem e_L_law_138 : V X call mL_law 138 [v0, v1, v2, v3] (zi j :: zr (some a) :: st) (c, s, I, L, R) Q ↔ ((zT a).1 = 1 ∧ 0 ≤ j ∧ j < ((zT a).2 : Int)) ∧ V X call mL_law 139 [v0, v1, v2, v3] (zi (I a j.toNat) :: st) (c, s, I, L, R) Q := V_iaload dL_law_138 rfl
theorem e_L_law_138x : V X call mL_law 138 [v0, v1, v2, v3] (zi j :: zx 1 :: st) (c, s, I, L, R) Q ↔ (0 ≤ j ∧ j < (X.1 : Int)) ∧ V X call mL_law 139 [v0, v1, v2, v3] (zi (X.2 j.toNat) :: st) (c, s, I, L, R) Q := V_saload dL_law_138 rfl
theorem e_L_law_139 : V X call mL_law 139 [v0, v1, v2, v3] (zi x :: st) σ Q ↔ V X call mL_law 140 [v0, v1, v2, v3] (zl x :: st) σ Q := V_i2l dL_law_139 rfl
theorem e_L_law_140 : V X call mL_law 140 [v0, v1, v2, v3] st (c, s, I, L, R) Q ↔ V X call mL_law 143 [v0, v1, v2, v3] (zl (4294967295) :: st) (c, s, I, L, R) Q := V_ldc2 dL_law_140 lc_13_13 rfl
theorem e_L_law_143 : V X call mL_law 143 [v0, v1, v2, v3] (zl y :: zl x :: st) σ Q ↔ V X call mL_law 144 [v0, v1, v2, v3] (zl (zand6 x y) :: st) σ Q := V_land dL_law_143 rfl
theorem e_L_law_144 : V X call mL_law 144 [v0, v1, v2, v3] (zl y :: zl x :: st) σ Q ↔ V X call mL_law 145 [v0, v1, v2, v3] (zl (zor6 x y) :: st) σ Q := V_lor dL_law_144 rfl
theorem e_L_law_145 : V X call mL_law 145 [zr u, v1, v2, v3] st σ Q ↔ V X call mL_law 146 [zr u, v1, v2, v3] (zr u :: st) σ Q := W_aload_n (j := 0) dL_law_145 rfl rfl rfl
theorem e_L_law_145x : V X call mL_law 145 [zx (e + 1), v1, v2, v3] st σ Q ↔ V X call mL_law 146 [zx (e + 1), v1, v2, v3] (zx (e + 1) :: st) σ Q := W_aloadx_n (j := 0) dL_law_145 rfl rfl rfl
theorem e_L_law_146 : V X call mL_law 146 [v0, v1, v2, zi x] st σ Q ↔ V X call mL_law 147 [v0, v1, v2, zi x] (zi x :: st) σ Q := W_iload_n (j := 3) dL_law_146 rfl rfl rfl
theorem e_L_law_147 : V X call mL_law 147 [v0, v1, v2, v3] st σ Q ↔ V X call mL_law 148 [v0, v1, v2, v3] (zi (3) :: st) σ Q := V_iconst dL_law_147 (by decide) rfl
theorem e_L_law_148 : V X call mL_law 148 [v0, v1, v2, v3] (zi y :: zi x :: st) σ Q ↔ V X call mL_law 149 [v0, v1, v2, v3] (zi (zw3 (x + y)) :: st) σ Q := V_iadd dL_law_148 rfl
theorem e_L_law_149 : V X call mL_law 149 [v0, v1, v2, v3] (zi j :: zr (some a) :: st) (c, s, I, L, R) Q ↔ ((zT a).1 = 1 ∧ 0 ≤ j ∧ j < ((zT a).2 : Int)) ∧ V X call mL_law 150 [v0, v1, v2, v3] (zi (I a j.toNat) :: st) (c, s, I, L, R) Q := V_iaload dL_law_149 rfl
theorem e_L_law_149x : V X call mL_law 149 [v0, v1, v2, v3] (zi j :: zx 1 :: st) (c, s, I, L, R) Q ↔ (0 ≤ j ∧ j < (X.1 : Int)) ∧ V X call mL_law 150 [v0, v1, v2, v3] (zi (X.2 j.toNat) :: st) (c, s, I, L, R) Q := V_saload dL_law_149 rfl
theorem e_L_law_150 : V X call mL_law 150 [v0, v1, v2, v3] (a2 :: a1 :: zr (some a) :: st) σ Q ↔ (zT a).1 = 21 ∧ zcats st ≤ 8 ∧ zcll (call 85 [zr (some a), a1, a2] σ) (fun r τ => (σ.1 ≤ τ.1 ∧ σ.2.1 ≤ τ.2.1) ∧ V X call mL_law 153 [v0, v1, v2, v3] (zpush r st) τ Q) := V_iv2 dL_law_150 lm_13_15 zm_85 (by decide) rfl
theorem e_L_law_153 : V X call mL_law 153 [v0, v1, zr u, v3] st σ Q ↔ V X call mL_law 154 [v0, v1, zr u, v3] (zr u :: st) σ Q := W_aload_n (j := 2) dL_law_153 rfl rfl rfl
theorem e_L_law_153x : V X call mL_law 153 [v0, v1, zx (e + 1), v3] st σ Q ↔ V X call mL_law 154 [v0, v1, zx (e + 1), v3] (zx (e + 1) :: st) σ Q := W_aloadx_n (j := 2) dL_law_153 rfl rfl rfl
theorem e_L_law_154 : V X call mL_law 154 [zr u, v1, v2, v3] st σ Q ↔ V X call mL_law 155 [zr u, v1, v2, v3] (zr u :: st) σ Q := W_aload_n (j := 0) dL_law_154 rfl rfl rfl
theorem e_L_law_154x : V X call mL_law 154 [zx (e + 1), v1, v2, v3] st σ Q ↔ V X call mL_law 155 [zx (e + 1), v1, v2, v3] (zx (e + 1) :: st) σ Q := W_aloadx_n (j := 0) dL_law_154 rfl rfl rfl
theorem e_L_law_155 : V X call mL_law 155 [v0, v1, v2, zi x] st σ Q ↔ V X call mL_law 156 [v0, v1, v2, zi x] (zi x :: st) σ Q := W_iload_n (j := 3) dL_law_155 rfl rfl rfl
theorem e_L_law_156 : V X call mL_law 156 [v0, v1, v2, v3] st σ Q ↔ V X call mL_law 157 [v0, v1, v2, v3] (zi (1) :: st) σ Q := V_iconst dL_law_156 (by decide) rfl
theorem e_L_law_157 : V X call mL_law 157 [v0, v1, v2, v3] (zi y :: zi x :: st) σ Q ↔ V X call mL_law 158 [v0, v1, v2, v3] (zi (zw3 (x + y)) :: st) σ Q := V_iadd dL_law_157 rfl
theorem e_L_law_158 : V X call mL_law 158 [v0, v1, v2, v3] (zi j :: zr (some a) :: st) (c, s, I, L, R) Q ↔ ((zT a).1 = 1 ∧ 0 ≤ j ∧ j < ((zT a).2 : Int)) ∧ V X call mL_law 159 [v0, v1, v2, v3] (zi (I a j.toNat) :: st) (c, s, I, L, R) Q := V_iaload dL_law_158 rfl
theorem e_L_law_158x : V X call mL_law 158 [v0, v1, v2, v3] (zi j :: zx 1 :: st) (c, s, I, L, R) Q ↔ (0 ≤ j ∧ j < (X.1 : Int)) ∧ V X call mL_law 159 [v0, v1, v2, v3] (zi (X.2 j.toNat) :: st) (c, s, I, L, R) Q := V_saload dL_law_158 rfl
theorem e_L_law_159 : V X call mL_law 159 [v0, v1, v2, v3] (zi x :: st) σ Q ↔ V X call mL_law 160 [v0, v1, v2, v3] (zl x :: st) σ Q := V_i2l dL_law_159 rfl
theorem e_L_law_160 : V X call mL_law 160 [v0, v1, v2, v3] st σ Q ↔ V X call mL_law 162 [v0, v1, v2, v3] (zi (32) :: st) σ Q := V_bipush dL_law_160 (by decide) rfl
theorem e_L_law_162 : V X call mL_law 162 [v0, v1, v2, v3] (zi y :: zl x :: st) σ Q ↔ V X call mL_law 163 [v0, v1, v2, v3] (zl (zshl6 x y) :: st) σ Q := V_lshl dL_law_162 rfl
theorem e_L_law_163 : V X call mL_law 163 [zr u, v1, v2, v3] st σ Q ↔ V X call mL_law 164 [zr u, v1, v2, v3] (zr u :: st) σ Q := W_aload_n (j := 0) dL_law_163 rfl rfl rfl
theorem e_L_law_163x : V X call mL_law 163 [zx (e + 1), v1, v2, v3] st σ Q ↔ V X call mL_law 164 [zx (e + 1), v1, v2, v3] (zx (e + 1) :: st) σ Q := W_aloadx_n (j := 0) dL_law_163 rfl rfl rfl
theorem e_L_law_164 : V X call mL_law 164 [v0, v1, v2, zi x] st σ Q ↔ V X call mL_law 165 [v0, v1, v2, zi x] (zi x :: st) σ Q := W_iload_n (j := 3) dL_law_164 rfl rfl rfl
theorem e_L_law_165 : V X call mL_law 165 [v0, v1, v2, v3] st σ Q ↔ V X call mL_law 166 [v0, v1, v2, v3] (zi (2) :: st) σ Q := V_iconst dL_law_165 (by decide) rfl
theorem e_L_law_166 : V X call mL_law 166 [v0, v1, v2, v3] (zi y :: zi x :: st) σ Q ↔ V X call mL_law 167 [v0, v1, v2, v3] (zi (zw3 (x + y)) :: st) σ Q := V_iadd dL_law_166 rfl
theorem e_L_law_167 : V X call mL_law 167 [v0, v1, v2, v3] (zi j :: zr (some a) :: st) (c, s, I, L, R) Q ↔ ((zT a).1 = 1 ∧ 0 ≤ j ∧ j < ((zT a).2 : Int)) ∧ V X call mL_law 168 [v0, v1, v2, v3] (zi (I a j.toNat) :: st) (c, s, I, L, R) Q := V_iaload dL_law_167 rfl
theorem e_L_law_167x : V X call mL_law 167 [v0, v1, v2, v3] (zi j :: zx 1 :: st) (c, s, I, L, R) Q ↔ (0 ≤ j ∧ j < (X.1 : Int)) ∧ V X call mL_law 168 [v0, v1, v2, v3] (zi (X.2 j.toNat) :: st) (c, s, I, L, R) Q := V_saload dL_law_167 rfl
theorem e_L_law_168 : V X call mL_law 168 [v0, v1, v2, v3] (zi x :: st) σ Q ↔ V X call mL_law 169 [v0, v1, v2, v3] (zl x :: st) σ Q := V_i2l dL_law_168 rfl
theorem e_L_law_169 : V X call mL_law 169 [v0, v1, v2, v3] st (c, s, I, L, R) Q ↔ V X call mL_law 172 [v0, v1, v2, v3] (zl (4294967295) :: st) (c, s, I, L, R) Q := V_ldc2 dL_law_169 lc_13_13 rfl
theorem e_L_law_172 : V X call mL_law 172 [v0, v1, v2, v3] (zl y :: zl x :: st) σ Q ↔ V X call mL_law 173 [v0, v1, v2, v3] (zl (zand6 x y) :: st) σ Q := V_land dL_law_172 rfl
theorem e_L_law_173 : V X call mL_law 173 [v0, v1, v2, v3] (zl y :: zl x :: st) σ Q ↔ V X call mL_law 174 [v0, v1, v2, v3] (zl (zor6 x y) :: st) σ Q := V_lor dL_law_173 rfl
theorem e_L_law_174 : V X call mL_law 174 [zr u, v1, v2, v3] st σ Q ↔ V X call mL_law 175 [zr u, v1, v2, v3] (zr u :: st) σ Q := W_aload_n (j := 0) dL_law_174 rfl rfl rfl
theorem e_L_law_174x : V X call mL_law 174 [zx (e + 1), v1, v2, v3] st σ Q ↔ V X call mL_law 175 [zx (e + 1), v1, v2, v3] (zx (e + 1) :: st) σ Q := W_aloadx_n (j := 0) dL_law_174 rfl rfl rfl
theorem e_L_law_175 : V X call mL_law 175 [v0, v1, v2, zi x] st σ Q ↔ V X call mL_law 176 [v0, v1, v2, zi x] (zi x :: st) σ Q := W_iload_n (j := 3) dL_law_175 rfl rfl rfl
theorem e_L_law_176 : V X call mL_law 176 [v0, v1, v2, v3] st σ Q ↔ V X call mL_law 177 [v0, v1, v2, v3] (zi (3) :: st) σ Q := V_iconst dL_law_176 (by decide) rfl
theorem e_L_law_177 : V X call mL_law 177 [v0, v1, v2, v3] (zi y :: zi x :: st) σ Q ↔ V X call mL_law 178 [v0, v1, v2, v3] (zi (zw3 (x + y)) :: st) σ Q := V_iadd dL_law_177 rfl
theorem e_L_law_178 : V X call mL_law 178 [v0, v1, v2, v3] (zi j :: zr (some a) :: st) (c, s, I, L, R) Q ↔ ((zT a).1 = 1 ∧ 0 ≤ j ∧ j < ((zT a).2 : Int)) ∧ V X call mL_law 179 [v0, v1, v2, v3] (zi (I a j.toNat) :: st) (c, s, I, L, R) Q := V_iaload dL_law_178 rfl
theorem e_L_law_178x : V X call mL_law 178 [v0, v1, v2, v3] (zi j :: zx 1 :: st) (c, s, I, L, R) Q ↔ (0 ≤ j ∧ j < (X.1 : Int)) ∧ V X call mL_law 179 [v0, v1, v2, v3] (zi (X.2 j.toNat) :: st) (c, s, I, L, R) Q := V_saload dL_law_178 rfl
theorem e_L_law_179 : V X call mL_law 179 [v0, v1, v2, v3] (a2 :: a1 :: zr (some a) :: st) σ Q ↔ (zT a).1 = 22 ∧ zcats st ≤ 8 ∧ zcll (call 114 [zr (some a), a1, a2] σ) (fun r τ => (σ.1 ≤ τ.1 ∧ σ.2.1 ≤ τ.2.1) ∧ V X call mL_law 182 [v0, v1, v2, v3] (zpush r st) τ Q) := V_iv2 dL_law_179 lm_13_19 zm_114 (by decide) rfl
theorem e_L_law_182 : V X call mL_law 182 [v0, v1, v2, v3] (zi y :: zi x :: st) σ Q ↔ (if x = y then V X call mL_law 888 [v0, v1, v2, v3] st σ Q else V X call mL_law 185 [v0, v1, v2, v3] st σ Q) := V_ic_eq dL_law_182 rfl rfl
theorem e_L_law_185 : V X call mL_law 185 [v0, v1, v2, v3] st σ Q ↔ V X call mL_law 186 [v0, v1, v2, v3] (zi (0) :: st) σ Q := V_iconst dL_law_185 (by decide) rfl
theorem e_L_law_186 : V X call mL_law 186 [v0, v1, v2, v3] [zi x] σ Q ↔ zok 2 x = true ∧ Q (some (zi x), σ) := V_iret dL_law_186 rfl (by decide)
theorem e_L_law_187 : V X call mL_law 187 [v0, zr u, v2, v3] st σ Q ↔ V X call mL_law 188 [v0, zr u, v2, v3] (zr u :: st) σ Q := W_aload_n (j := 1) dL_law_187 rfl rfl rfl
theorem e_L_law_187x : V X call mL_law 187 [v0, zx (e + 1), v2, v3] st σ Q ↔ V X call mL_law 188 [v0, zx (e + 1), v2, v3] (zx (e + 1) :: st) σ Q := W_aloadx_n (j := 1) dL_law_187 rfl rfl rfl
theorem e_L_law_188 : V X call mL_law 188 [v0, v1, v2, v3] (zr (some a) :: st) σ Q ↔ (zT a).1 = 21 ∧ zcats st ≤ 8 ∧ zcll (call 86 [zr (some a)] σ) (fun r τ => (σ.1 ≤ τ.1 ∧ σ.2.1 ≤ τ.2.1) ∧ V X call mL_law 191 [v0, v1, v2, v3] (zpush r st) τ Q) := V_iv0 dL_law_188 lm_13_20 zm_86 (by decide) rfl
theorem e_L_law_191 : V X call mL_law 191 [v0, v1, zr u, v3] st σ Q ↔ V X call mL_law 192 [v0, v1, zr u, v3] (zr u :: st) σ Q := W_aload_n (j := 2) dL_law_191 rfl rfl rfl
theorem e_L_law_191x : V X call mL_law 191 [v0, v1, zx (e + 1), v3] st σ Q ↔ V X call mL_law 192 [v0, v1, zx (e + 1), v3] (zx (e + 1) :: st) σ Q := W_aloadx_n (j := 2) dL_law_191 rfl rfl rfl
theorem e_L_law_192 : V X call mL_law 192 [v0, v1, v2, v3] (zr (some a) :: st) σ Q ↔ (zT a).1 = 22 ∧ zcats st ≤ 8 ∧ zcll (call 134 [zr (some a)] σ) (fun r τ => (σ.1 ≤ τ.1 ∧ σ.2.1 ≤ τ.2.1) ∧ V X call mL_law 195 [v0, v1, v2, v3] (zpush r st) τ Q) := V_iv0 dL_law_192 lm_13_24 zm_134 (by decide) rfl
theorem e_L_law_195 : V X call mL_law 195 [v0, v1, v2, v3] (zi y :: zi x :: st) σ Q ↔ (if x = y then V X call mL_law 888 [v0, v1, v2, v3] st σ Q else V X call mL_law 198 [v0, v1, v2, v3] st σ Q) := V_ic_eq dL_law_195 rfl rfl
theorem e_L_law_198 : V X call mL_law 198 [v0, v1, v2, v3] st σ Q ↔ V X call mL_law 199 [v0, v1, v2, v3] (zi (0) :: st) σ Q := V_iconst dL_law_198 (by decide) rfl
theorem e_L_law_199 : V X call mL_law 199 [v0, v1, v2, v3] [zi x] σ Q ↔ zok 2 x = true ∧ Q (some (zi x), σ) := V_iret dL_law_199 rfl (by decide)
theorem e_L_law_200 : V X call mL_law 200 [v0, zr u, v2, v3] st σ Q ↔ V X call mL_law 201 [v0, zr u, v2, v3] (zr u :: st) σ Q := W_aload_n (j := 1) dL_law_200 rfl rfl rfl
theorem e_L_law_200x : V X call mL_law 200 [v0, zx (e + 1), v2, v3] st σ Q ↔ V X call mL_law 201 [v0, zx (e + 1), v2, v3] (zx (e + 1) :: st) σ Q := W_aloadx_n (j := 1) dL_law_200 rfl rfl rfl
theorem e_L_law_201 : V X call mL_law 201 [v0, v1, v2, v3] (zr (some a) :: st) σ Q ↔ (zT a).1 = 21 ∧ zcats st ≤ 8 ∧ zcll (call 87 [zr (some a)] σ) (fun r τ => (σ.1 ≤ τ.1 ∧ σ.2.1 ≤ τ.2.1) ∧ V X call mL_law 204 [v0, v1, v2, v3] (zpush r st) τ Q) := V_iv0 dL_law_201 lm_13_25 zm_87 (by decide) rfl
theorem e_L_law_204 : V X call mL_law 204 [v0, v1, zr u, v3] st σ Q ↔ V X call mL_law 205 [v0, v1, zr u, v3] (zr u :: st) σ Q := W_aload_n (j := 2) dL_law_204 rfl rfl rfl
theorem e_L_law_204x : V X call mL_law 204 [v0, v1, zx (e + 1), v3] st σ Q ↔ V X call mL_law 205 [v0, v1, zx (e + 1), v3] (zx (e + 1) :: st) σ Q := W_aloadx_n (j := 2) dL_law_204 rfl rfl rfl
theorem e_L_law_205 : V X call mL_law 205 [v0, v1, v2, v3] (zr (some a) :: st) σ Q ↔ (zT a).1 = 22 ∧ zcats st ≤ 8 ∧ zcll (call 135 [zr (some a)] σ) (fun r τ => (σ.1 ≤ τ.1 ∧ σ.2.1 ≤ τ.2.1) ∧ V X call mL_law 208 [v0, v1, v2, v3] (zpush r st) τ Q) := V_iv0 dL_law_205 lm_13_28 zm_135 (by decide) rfl
theorem e_L_law_208 : V X call mL_law 208 [v0, v1, v2, v3] (zi y :: zi x :: st) σ Q ↔ (if x = y then V X call mL_law 888 [v0, v1, v2, v3] st σ Q else V X call mL_law 211 [v0, v1, v2, v3] st σ Q) := V_ic_eq dL_law_208 rfl rfl
theorem e_L_law_211 : V X call mL_law 211 [v0, v1, v2, v3] st σ Q ↔ V X call mL_law 212 [v0, v1, v2, v3] (zi (0) :: st) σ Q := V_iconst dL_law_211 (by decide) rfl
theorem e_L_law_212 : V X call mL_law 212 [v0, v1, v2, v3] [zi x] σ Q ↔ zok 2 x = true ∧ Q (some (zi x), σ) := V_iret dL_law_212 rfl (by decide)
theorem e_L_law_213 : V X call mL_law 213 [v0, zr u, v2, v3] st σ Q ↔ V X call mL_law 214 [v0, zr u, v2, v3] (zr u :: st) σ Q := W_aload_n (j := 1) dL_law_213 rfl rfl rfl
theorem e_L_law_213x : V X call mL_law 213 [v0, zx (e + 1), v2, v3] st σ Q ↔ V X call mL_law 214 [v0, zx (e + 1), v2, v3] (zx (e + 1) :: st) σ Q := W_aloadx_n (j := 1) dL_law_213 rfl rfl rfl
theorem e_L_law_214 : V X call mL_law 214 [zr u, v1, v2, v3] st σ Q ↔ V X call mL_law 215 [zr u, v1, v2, v3] (zr u :: st) σ Q := W_aload_n (j := 0) dL_law_214 rfl rfl rfl
theorem e_L_law_214x : V X call mL_law 214 [zx (e + 1), v1, v2, v3] st σ Q ↔ V X call mL_law 215 [zx (e + 1), v1, v2, v3] (zx (e + 1) :: st) σ Q := W_aloadx_n (j := 0) dL_law_214 rfl rfl rfl
theorem e_L_law_215 : V X call mL_law 215 [v0, v1, v2, zi x] st σ Q ↔ V X call mL_law 216 [v0, v1, v2, zi x] (zi x :: st) σ Q := W_iload_n (j := 3) dL_law_215 rfl rfl rfl
theorem e_L_law_216 : V X call mL_law 216 [v0, v1, v2, v3] st σ Q ↔ V X call mL_law 217 [v0, v1, v2, v3] (zi (1) :: st) σ Q := V_iconst dL_law_216 (by decide) rfl
theorem e_L_law_217 : V X call mL_law 217 [v0, v1, v2, v3] (zi y :: zi x :: st) σ Q ↔ V X call mL_law 218 [v0, v1, v2, v3] (zi (zw3 (x + y)) :: st) σ Q := V_iadd dL_law_217 rfl
theorem e_L_law_218 : V X call mL_law 218 [v0, v1, v2, v3] (zi j :: zr (some a) :: st) (c, s, I, L, R) Q ↔ ((zT a).1 = 1 ∧ 0 ≤ j ∧ j < ((zT a).2 : Int)) ∧ V X call mL_law 219 [v0, v1, v2, v3] (zi (I a j.toNat) :: st) (c, s, I, L, R) Q := V_iaload dL_law_218 rfl
theorem e_L_law_218x : V X call mL_law 218 [v0, v1, v2, v3] (zi j :: zx 1 :: st) (c, s, I, L, R) Q ↔ (0 ≤ j ∧ j < (X.1 : Int)) ∧ V X call mL_law 219 [v0, v1, v2, v3] (zi (X.2 j.toNat) :: st) (c, s, I, L, R) Q := V_saload dL_law_218 rfl
theorem e_L_law_219 : V X call mL_law 219 [v0, v1, v2, v3] (zi x :: st) σ Q ↔ V X call mL_law 220 [v0, v1, v2, v3] (zl x :: st) σ Q := V_i2l dL_law_219 rfl
theorem e_L_law_220 : V X call mL_law 220 [v0, v1, v2, v3] st σ Q ↔ V X call mL_law 222 [v0, v1, v2, v3] (zi (32) :: st) σ Q := V_bipush dL_law_220 (by decide) rfl
theorem e_L_law_222 : V X call mL_law 222 [v0, v1, v2, v3] (zi y :: zl x :: st) σ Q ↔ V X call mL_law 223 [v0, v1, v2, v3] (zl (zshl6 x y) :: st) σ Q := V_lshl dL_law_222 rfl
theorem e_L_law_223 : V X call mL_law 223 [zr u, v1, v2, v3] st σ Q ↔ V X call mL_law 224 [zr u, v1, v2, v3] (zr u :: st) σ Q := W_aload_n (j := 0) dL_law_223 rfl rfl rfl
theorem e_L_law_223x : V X call mL_law 223 [zx (e + 1), v1, v2, v3] st σ Q ↔ V X call mL_law 224 [zx (e + 1), v1, v2, v3] (zx (e + 1) :: st) σ Q := W_aloadx_n (j := 0) dL_law_223 rfl rfl rfl
theorem e_L_law_224 : V X call mL_law 224 [v0, v1, v2, zi x] st σ Q ↔ V X call mL_law 225 [v0, v1, v2, zi x] (zi x :: st) σ Q := W_iload_n (j := 3) dL_law_224 rfl rfl rfl
theorem e_L_law_225 : V X call mL_law 225 [v0, v1, v2, v3] st σ Q ↔ V X call mL_law 226 [v0, v1, v2, v3] (zi (2) :: st) σ Q := V_iconst dL_law_225 (by decide) rfl
theorem e_L_law_226 : V X call mL_law 226 [v0, v1, v2, v3] (zi y :: zi x :: st) σ Q ↔ V X call mL_law 227 [v0, v1, v2, v3] (zi (zw3 (x + y)) :: st) σ Q := V_iadd dL_law_226 rfl
theorem e_L_law_227 : V X call mL_law 227 [v0, v1, v2, v3] (zi j :: zr (some a) :: st) (c, s, I, L, R) Q ↔ ((zT a).1 = 1 ∧ 0 ≤ j ∧ j < ((zT a).2 : Int)) ∧ V X call mL_law 228 [v0, v1, v2, v3] (zi (I a j.toNat) :: st) (c, s, I, L, R) Q := V_iaload dL_law_227 rfl
theorem e_L_law_227x : V X call mL_law 227 [v0, v1, v2, v3] (zi j :: zx 1 :: st) (c, s, I, L, R) Q ↔ (0 ≤ j ∧ j < (X.1 : Int)) ∧ V X call mL_law 228 [v0, v1, v2, v3] (zi (X.2 j.toNat) :: st) (c, s, I, L, R) Q := V_saload dL_law_227 rfl
theorem e_L_law_228 : V X call mL_law 228 [v0, v1, v2, v3] (zi x :: st) σ Q ↔ V X call mL_law 229 [v0, v1, v2, v3] (zl x :: st) σ Q := V_i2l dL_law_228 rfl
theorem e_L_law_229 : V X call mL_law 229 [v0, v1, v2, v3] st (c, s, I, L, R) Q ↔ V X call mL_law 232 [v0, v1, v2, v3] (zl (4294967295) :: st) (c, s, I, L, R) Q := V_ldc2 dL_law_229 lc_13_13 rfl
theorem e_L_law_232 : V X call mL_law 232 [v0, v1, v2, v3] (zl y :: zl x :: st) σ Q ↔ V X call mL_law 233 [v0, v1, v2, v3] (zl (zand6 x y) :: st) σ Q := V_land dL_law_232 rfl
theorem e_L_law_233 : V X call mL_law 233 [v0, v1, v2, v3] (zl y :: zl x :: st) σ Q ↔ V X call mL_law 234 [v0, v1, v2, v3] (zl (zor6 x y) :: st) σ Q := V_lor dL_law_233 rfl
theorem e_L_law_234 : V X call mL_law 234 [v0, v1, v2, v3] (a1 :: zr (some a) :: st) σ Q ↔ (zT a).1 = 21 ∧ zcats st ≤ 8 ∧ zcll (call 88 [zr (some a), a1] σ) (fun r τ => (σ.1 ≤ τ.1 ∧ σ.2.1 ≤ τ.2.1) ∧ V X call mL_law 237 [v0, v1, v2, v3] (zpush r st) τ Q) := V_iv1 dL_law_234 lm_13_29 zm_88 (by decide) rfl
theorem e_L_law_237 : V X call mL_law 237 [v0, v1, zr u, v3] st σ Q ↔ V X call mL_law 238 [v0, v1, zr u, v3] (zr u :: st) σ Q := W_aload_n (j := 2) dL_law_237 rfl rfl rfl
theorem e_L_law_237x : V X call mL_law 237 [v0, v1, zx (e + 1), v3] st σ Q ↔ V X call mL_law 238 [v0, v1, zx (e + 1), v3] (zx (e + 1) :: st) σ Q := W_aloadx_n (j := 2) dL_law_237 rfl rfl rfl
theorem e_L_law_238 : V X call mL_law 238 [zr u, v1, v2, v3] st σ Q ↔ V X call mL_law 239 [zr u, v1, v2, v3] (zr u :: st) σ Q := W_aload_n (j := 0) dL_law_238 rfl rfl rfl
theorem e_L_law_238x : V X call mL_law 238 [zx (e + 1), v1, v2, v3] st σ Q ↔ V X call mL_law 239 [zx (e + 1), v1, v2, v3] (zx (e + 1) :: st) σ Q := W_aloadx_n (j := 0) dL_law_238 rfl rfl rfl
theorem e_L_law_239 : V X call mL_law 239 [v0, v1, v2, zi x] st σ Q ↔ V X call mL_law 240 [v0, v1, v2, zi x] (zi x :: st) σ Q := W_iload_n (j := 3) dL_law_239 rfl rfl rfl
theorem e_L_law_240 : V X call mL_law 240 [v0, v1, v2, v3] st σ Q ↔ V X call mL_law 241 [v0, v1, v2, v3] (zi (1) :: st) σ Q := V_iconst dL_law_240 (by decide) rfl
theorem e_L_law_241 : V X call mL_law 241 [v0, v1, v2, v3] (zi y :: zi x :: st) σ Q ↔ V X call mL_law 242 [v0, v1, v2, v3] (zi (zw3 (x + y)) :: st) σ Q := V_iadd dL_law_241 rfl
theorem e_L_law_242 : V X call mL_law 242 [v0, v1, v2, v3] (zi j :: zr (some a) :: st) (c, s, I, L, R) Q ↔ ((zT a).1 = 1 ∧ 0 ≤ j ∧ j < ((zT a).2 : Int)) ∧ V X call mL_law 243 [v0, v1, v2, v3] (zi (I a j.toNat) :: st) (c, s, I, L, R) Q := V_iaload dL_law_242 rfl
theorem e_L_law_242x : V X call mL_law 242 [v0, v1, v2, v3] (zi j :: zx 1 :: st) (c, s, I, L, R) Q ↔ (0 ≤ j ∧ j < (X.1 : Int)) ∧ V X call mL_law 243 [v0, v1, v2, v3] (zi (X.2 j.toNat) :: st) (c, s, I, L, R) Q := V_saload dL_law_242 rfl
theorem e_L_law_243 : V X call mL_law 243 [v0, v1, v2, v3] (zi x :: st) σ Q ↔ V X call mL_law 244 [v0, v1, v2, v3] (zl x :: st) σ Q := V_i2l dL_law_243 rfl
theorem e_L_law_244 : V X call mL_law 244 [v0, v1, v2, v3] st σ Q ↔ V X call mL_law 246 [v0, v1, v2, v3] (zi (32) :: st) σ Q := V_bipush dL_law_244 (by decide) rfl
theorem e_L_law_246 : V X call mL_law 246 [v0, v1, v2, v3] (zi y :: zl x :: st) σ Q ↔ V X call mL_law 247 [v0, v1, v2, v3] (zl (zshl6 x y) :: st) σ Q := V_lshl dL_law_246 rfl
theorem e_L_law_247 : V X call mL_law 247 [zr u, v1, v2, v3] st σ Q ↔ V X call mL_law 248 [zr u, v1, v2, v3] (zr u :: st) σ Q := W_aload_n (j := 0) dL_law_247 rfl rfl rfl
theorem e_L_law_247x : V X call mL_law 247 [zx (e + 1), v1, v2, v3] st σ Q ↔ V X call mL_law 248 [zx (e + 1), v1, v2, v3] (zx (e + 1) :: st) σ Q := W_aloadx_n (j := 0) dL_law_247 rfl rfl rfl
theorem e_L_law_248 : V X call mL_law 248 [v0, v1, v2, zi x] st σ Q ↔ V X call mL_law 249 [v0, v1, v2, zi x] (zi x :: st) σ Q := W_iload_n (j := 3) dL_law_248 rfl rfl rfl
theorem e_L_law_249 : V X call mL_law 249 [v0, v1, v2, v3] st σ Q ↔ V X call mL_law 250 [v0, v1, v2, v3] (zi (2) :: st) σ Q := V_iconst dL_law_249 (by decide) rfl
theorem e_L_law_250 : V X call mL_law 250 [v0, v1, v2, v3] (zi y :: zi x :: st) σ Q ↔ V X call mL_law 251 [v0, v1, v2, v3] (zi (zw3 (x + y)) :: st) σ Q := V_iadd dL_law_250 rfl
theorem e_L_law_251 : V X call mL_law 251 [v0, v1, v2, v3] (zi j :: zr (some a) :: st) (c, s, I, L, R) Q ↔ ((zT a).1 = 1 ∧ 0 ≤ j ∧ j < ((zT a).2 : Int)) ∧ V X call mL_law 252 [v0, v1, v2, v3] (zi (I a j.toNat) :: st) (c, s, I, L, R) Q := V_iaload dL_law_251 rfl
theorem e_L_law_251x : V X call mL_law 251 [v0, v1, v2, v3] (zi j :: zx 1 :: st) (c, s, I, L, R) Q ↔ (0 ≤ j ∧ j < (X.1 : Int)) ∧ V X call mL_law 252 [v0, v1, v2, v3] (zi (X.2 j.toNat) :: st) (c, s, I, L, R) Q := V_saload dL_law_251 rfl
theorem e_L_law_252 : V X call mL_law 252 [v0, v1, v2, v3] (zi x :: st) σ Q ↔ V X call mL_law 253 [v0, v1, v2, v3] (zl x :: st) σ Q := V_i2l dL_law_252 rfl
theorem e_L_law_253 : V X call mL_law 253 [v0, v1, v2, v3] st (c, s, I, L, R) Q ↔ V X call mL_law 256 [v0, v1, v2, v3] (zl (4294967295) :: st) (c, s, I, L, R) Q := V_ldc2 dL_law_253 lc_13_13 rfl
theorem e_L_law_256 : V X call mL_law 256 [v0, v1, v2, v3] (zl y :: zl x :: st) σ Q ↔ V X call mL_law 257 [v0, v1, v2, v3] (zl (zand6 x y) :: st) σ Q := V_land dL_law_256 rfl
theorem e_L_law_257 : V X call mL_law 257 [v0, v1, v2, v3] (zl y :: zl x :: st) σ Q ↔ V X call mL_law 258 [v0, v1, v2, v3] (zl (zor6 x y) :: st) σ Q := V_lor dL_law_257 rfl
theorem e_L_law_258 : V X call mL_law 258 [v0, v1, v2, v3] (a1 :: zr (some a) :: st) σ Q ↔ (zT a).1 = 22 ∧ zcats st ≤ 8 ∧ zcll (call 136 [zr (some a), a1] σ) (fun r τ => (σ.1 ≤ τ.1 ∧ σ.2.1 ≤ τ.2.1) ∧ V X call mL_law 261 [v0, v1, v2, v3] (zpush r st) τ Q) := V_iv1 dL_law_258 lm_13_33 zm_136 (by decide) rfl
theorem e_L_law_261 : V X call mL_law 261 [v0, v1, v2, v3] (zi y :: zi x :: st) σ Q ↔ (if x = y then V X call mL_law 888 [v0, v1, v2, v3] st σ Q else V X call mL_law 264 [v0, v1, v2, v3] st σ Q) := V_ic_eq dL_law_261 rfl rfl
theorem e_L_law_264 : V X call mL_law 264 [v0, v1, v2, v3] st σ Q ↔ V X call mL_law 265 [v0, v1, v2, v3] (zi (0) :: st) σ Q := V_iconst dL_law_264 (by decide) rfl
theorem e_L_law_265 : V X call mL_law 265 [v0, v1, v2, v3] [zi x] σ Q ↔ zok 2 x = true ∧ Q (some (zi x), σ) := V_iret dL_law_265 rfl (by decide)
theorem e_L_law_266 : V X call mL_law 266 [v0, zr u, v2, v3] st σ Q ↔ V X call mL_law 267 [v0, zr u, v2, v3] (zr u :: st) σ Q := W_aload_n (j := 1) dL_law_266 rfl rfl rfl
theorem e_L_law_266x : V X call mL_law 266 [v0, zx (e + 1), v2, v3] st σ Q ↔ V X call mL_law 267 [v0, zx (e + 1), v2, v3] (zx (e + 1) :: st) σ Q := W_aloadx_n (j := 1) dL_law_266 rfl rfl rfl
theorem e_L_law_267 : V X call mL_law 267 [zr u, v1, v2, v3] st σ Q ↔ V X call mL_law 268 [zr u, v1, v2, v3] (zr u :: st) σ Q := W_aload_n (j := 0) dL_law_267 rfl rfl rfl
theorem e_L_law_267x : V X call mL_law 267 [zx (e + 1), v1, v2, v3] st σ Q ↔ V X call mL_law 268 [zx (e + 1), v1, v2, v3] (zx (e + 1) :: st) σ Q := W_aloadx_n (j := 0) dL_law_267 rfl rfl rfl
theorem e_L_law_268 : V X call mL_law 268 [v0, v1, v2, zi x] st σ Q ↔ V X call mL_law 269 [v0, v1, v2, zi x] (zi x :: st) σ Q := W_iload_n (j := 3) dL_law_268 rfl rfl rfl
theorem e_L_law_269 : V X call mL_law 269 [v0, v1, v2, v3] st σ Q ↔ V X call mL_law 270 [v0, v1, v2, v3] (zi (1) :: st) σ Q := V_iconst dL_law_269 (by decide) rfl
theorem e_L_law_270 : V X call mL_law 270 [v0, v1, v2, v3] (zi y :: zi x :: st) σ Q ↔ V X call mL_law 271 [v0, v1, v2, v3] (zi (zw3 (x + y)) :: st) σ Q := V_iadd dL_law_270 rfl
theorem e_L_law_271 : V X call mL_law 271 [v0, v1, v2, v3] (zi j :: zr (some a) :: st) (c, s, I, L, R) Q ↔ ((zT a).1 = 1 ∧ 0 ≤ j ∧ j < ((zT a).2 : Int)) ∧ V X call mL_law 272 [v0, v1, v2, v3] (zi (I a j.toNat) :: st) (c, s, I, L, R) Q := V_iaload dL_law_271 rfl
theorem e_L_law_271x : V X call mL_law 271 [v0, v1, v2, v3] (zi j :: zx 1 :: st) (c, s, I, L, R) Q ↔ (0 ≤ j ∧ j < (X.1 : Int)) ∧ V X call mL_law 272 [v0, v1, v2, v3] (zi (X.2 j.toNat) :: st) (c, s, I, L, R) Q := V_saload dL_law_271 rfl
theorem e_L_law_272 : V X call mL_law 272 [v0, v1, v2, v3] (a1 :: zr (some a) :: st) σ Q ↔ (zT a).1 = 21 ∧ zcats st ≤ 8 ∧ zcll (call 89 [zr (some a), a1] σ) (fun r τ => (σ.1 ≤ τ.1 ∧ σ.2.1 ≤ τ.2.1) ∧ V X call mL_law 275 [v0, v1, v2, v3] (zpush r st) τ Q) := V_iv1 dL_law_272 lm_13_34 zm_89 (by decide) rfl
theorem e_L_law_275 : V X call mL_law 275 [v0, v1, zr u, v3] st σ Q ↔ V X call mL_law 276 [v0, v1, zr u, v3] (zr u :: st) σ Q := W_aload_n (j := 2) dL_law_275 rfl rfl rfl
theorem e_L_law_275x : V X call mL_law 275 [v0, v1, zx (e + 1), v3] st σ Q ↔ V X call mL_law 276 [v0, v1, zx (e + 1), v3] (zx (e + 1) :: st) σ Q := W_aloadx_n (j := 2) dL_law_275 rfl rfl rfl
theorem e_L_law_276 : V X call mL_law 276 [zr u, v1, v2, v3] st σ Q ↔ V X call mL_law 277 [zr u, v1, v2, v3] (zr u :: st) σ Q := W_aload_n (j := 0) dL_law_276 rfl rfl rfl
theorem e_L_law_276x : V X call mL_law 276 [zx (e + 1), v1, v2, v3] st σ Q ↔ V X call mL_law 277 [zx (e + 1), v1, v2, v3] (zx (e + 1) :: st) σ Q := W_aloadx_n (j := 0) dL_law_276 rfl rfl rfl
theorem e_L_law_277 : V X call mL_law 277 [v0, v1, v2, zi x] st σ Q ↔ V X call mL_law 278 [v0, v1, v2, zi x] (zi x :: st) σ Q := W_iload_n (j := 3) dL_law_277 rfl rfl rfl
theorem e_L_law_278 : V X call mL_law 278 [v0, v1, v2, v3] st σ Q ↔ V X call mL_law 279 [v0, v1, v2, v3] (zi (1) :: st) σ Q := V_iconst dL_law_278 (by decide) rfl
theorem e_L_law_279 : V X call mL_law 279 [v0, v1, v2, v3] (zi y :: zi x :: st) σ Q ↔ V X call mL_law 280 [v0, v1, v2, v3] (zi (zw3 (x + y)) :: st) σ Q := V_iadd dL_law_279 rfl
theorem e_L_law_280 : V X call mL_law 280 [v0, v1, v2, v3] (zi j :: zr (some a) :: st) (c, s, I, L, R) Q ↔ ((zT a).1 = 1 ∧ 0 ≤ j ∧ j < ((zT a).2 : Int)) ∧ V X call mL_law 281 [v0, v1, v2, v3] (zi (I a j.toNat) :: st) (c, s, I, L, R) Q := V_iaload dL_law_280 rfl
theorem e_L_law_280x : V X call mL_law 280 [v0, v1, v2, v3] (zi j :: zx 1 :: st) (c, s, I, L, R) Q ↔ (0 ≤ j ∧ j < (X.1 : Int)) ∧ V X call mL_law 281 [v0, v1, v2, v3] (zi (X.2 j.toNat) :: st) (c, s, I, L, R) Q := V_saload dL_law_280 rfl
theorem e_L_law_281 : V X call mL_law 281 [v0, v1, v2, v3] (a1 :: zr (some a) :: st) σ Q ↔ (zT a).1 = 22 ∧ zcats st ≤ 8 ∧ zcll (call 137 [zr (some a), a1] σ) (fun r τ => (σ.1 ≤ τ.1 ∧ σ.2.1 ≤ τ.2.1) ∧ V X call mL_law 284 [v0, v1, v2, v3] (zpush r st) τ Q) := V_iv1 dL_law_281 lm_13_38 zm_137 (by decide) rfl
theorem e_L_law_284 : V X call mL_law 284 [v0, v1, v2, v3] (zi y :: zi x :: st) σ Q ↔ (if x = y then V X call mL_law 888 [v0, v1, v2, v3] st σ Q else V X call mL_law 287 [v0, v1, v2, v3] st σ Q) := V_ic_eq dL_law_284 rfl rfl
theorem e_L_law_287 : V X call mL_law 287 [v0, v1, v2, v3] st σ Q ↔ V X call mL_law 288 [v0, v1, v2, v3] (zi (0) :: st) σ Q := V_iconst dL_law_287 (by decide) rfl
theorem e_L_law_288 : V X call mL_law 288 [v0, v1, v2, v3] [zi x] σ Q ↔ zok 2 x = true ∧ Q (some (zi x), σ) := V_iret dL_law_288 rfl (by decide)
theorem e_L_law_289 : V X call mL_law 289 [v0, zr u, v2, v3] st σ Q ↔ V X call mL_law 290 [v0, zr u, v2, v3] (zr u :: st) σ Q := W_aload_n (j := 1) dL_law_289 rfl rfl rfl
theorem e_L_law_289x : V X call mL_law 289 [v0, zx (e + 1), v2, v3] st σ Q ↔ V X call mL_law 290 [v0, zx (e + 1), v2, v3] (zx (e + 1) :: st) σ Q := W_aloadx_n (j := 1) dL_law_289 rfl rfl rfl
theorem e_L_law_290 : V X call mL_law 290 [zr u, v1, v2, v3] st σ Q ↔ V X call mL_law 291 [zr u, v1, v2, v3] (zr u :: st) σ Q := W_aload_n (j := 0) dL_law_290 rfl rfl rfl
theorem e_L_law_290x : V X call mL_law 290 [zx (e + 1), v1, v2, v3] st σ Q ↔ V X call mL_law 291 [zx (e + 1), v1, v2, v3] (zx (e + 1) :: st) σ Q := W_aloadx_n (j := 0) dL_law_290 rfl rfl rfl
theorem e_L_law_291 : V X call mL_law 291 [v0, v1, v2, zi x] st σ Q ↔ V X call mL_law 292 [v0, v1, v2, zi x] (zi x :: st) σ Q := W_iload_n (j := 3) dL_law_291 rfl rfl rfl
theorem e_L_law_292 : V X call mL_law 292 [v0, v1, v2, v3] st σ Q ↔ V X call mL_law 293 [v0, v1, v2, v3] (zi (1) :: st) σ Q := V_iconst dL_law_292 (by decide) rfl
theorem e_L_law_293 : V X call mL_law 293 [v0, v1, v2, v3] (zi y :: zi x :: st) σ Q ↔ V X call mL_law 294 [v0, v1, v2, v3] (zi (zw3 (x + y)) :: st) σ Q := V_iadd dL_law_293 rfl
theorem e_L_law_294 : V X call mL_law 294 [v0, v1, v2, v3] (zi j :: zr (some a) :: st) (c, s, I, L, R) Q ↔ ((zT a).1 = 1 ∧ 0 ≤ j ∧ j < ((zT a).2 : Int)) ∧ V X call mL_law 295 [v0, v1, v2, v3] (zi (I a j.toNat) :: st) (c, s, I, L, R) Q := V_iaload dL_law_294 rfl
theorem e_L_law_294x : V X call mL_law 294 [v0, v1, v2, v3] (zi j :: zx 1 :: st) (c, s, I, L, R) Q ↔ (0 ≤ j ∧ j < (X.1 : Int)) ∧ V X call mL_law 295 [v0, v1, v2, v3] (zi (X.2 j.toNat) :: st) (c, s, I, L, R) Q := V_saload dL_law_294 rfl
theorem e_L_law_295 : V X call mL_law 295 [zr u, v1, v2, v3] st σ Q ↔ V X call mL_law 296 [zr u, v1, v2, v3] (zr u :: st) σ Q := W_aload_n (j := 0) dL_law_295 rfl rfl rfl
theorem e_L_law_295x : V X call mL_law 295 [zx (e + 1), v1, v2, v3] st σ Q ↔ V X call mL_law 296 [zx (e + 1), v1, v2, v3] (zx (e + 1) :: st) σ Q := W_aloadx_n (j := 0) dL_law_295 rfl rfl rfl
theorem e_L_law_296 : V X call mL_law 296 [v0, v1, v2, zi x] st σ Q ↔ V X call mL_law 297 [v0, v1, v2, zi x] (zi x :: st) σ Q := W_iload_n (j := 3) dL_law_296 rfl rfl rfl
theorem e_L_law_297 : V X call mL_law 297 [v0, v1, v2, v3] st σ Q ↔ V X call mL_law 298 [v0, v1, v2, v3] (zi (2) :: st) σ Q := V_iconst dL_law_297 (by decide) rfl
theorem e_L_law_298 : V X call mL_law 298 [v0, v1, v2, v3] (zi y :: zi x :: st) σ Q ↔ V X call mL_law 299 [v0, v1, v2, v3] (zi (zw3 (x + y)) :: st) σ Q := V_iadd dL_law_298 rfl
theorem e_L_law_299 : V X call mL_law 299 [v0, v1, v2, v3] (zi j :: zr (some a) :: st) (c, s, I, L, R) Q ↔ ((zT a).1 = 1 ∧ 0 ≤ j ∧ j < ((zT a).2 : Int)) ∧ V X call mL_law 300 [v0, v1, v2, v3] (zi (I a j.toNat) :: st) (c, s, I, L, R) Q := V_iaload dL_law_299 rfl
theorem e_L_law_299x : V X call mL_law 299 [v0, v1, v2, v3] (zi j :: zx 1 :: st) (c, s, I, L, R) Q ↔ (0 ≤ j ∧ j < (X.1 : Int)) ∧ V X call mL_law 300 [v0, v1, v2, v3] (zi (X.2 j.toNat) :: st) (c, s, I, L, R) Q := V_saload dL_law_299 rfl
theorem e_L_law_300 : V X call mL_law 300 [zr u, v1, v2, v3] st σ Q ↔ V X call mL_law 301 [zr u, v1, v2, v3] (zr u :: st) σ Q := W_aload_n (j := 0) dL_law_300 rfl rfl rfl
theorem e_L_law_300x : V X call mL_law 300 [zx (e + 1), v1, v2, v3] st σ Q ↔ V X call mL_law 301 [zx (e + 1), v1, v2, v3] (zx (e + 1) :: st) σ Q := W_aloadx_n (j := 0) dL_law_300 rfl rfl rfl
theorem e_L_law_301 : V X call mL_law 301 [v0, v1, v2, zi x] st σ Q ↔ V X call mL_law 302 [v0, v1, v2, zi x] (zi x :: st) σ Q := W_iload_n (j := 3) dL_law_301 rfl rfl rfl
theorem e_L_law_302 : V X call mL_law 302 [v0, v1, v2, v3] st σ Q ↔ V X call mL_law 303 [v0, v1, v2, v3] (zi (3) :: st) σ Q := V_iconst dL_law_302 (by decide) rfl
theorem e_L_law_303 : V X call mL_law 303 [v0, v1, v2, v3] (zi y :: zi x :: st) σ Q ↔ V X call mL_law 304 [v0, v1, v2, v3] (zi (zw3 (x + y)) :: st) σ Q := V_iadd dL_law_303 rfl
theorem e_L_law_304 : V X call mL_law 304 [v0, v1, v2, v3] (zi j :: zr (some a) :: st) (c, s, I, L, R) Q ↔ ((zT a).1 = 1 ∧ 0 ≤ j ∧ j < ((zT a).2 : Int)) ∧ V X call mL_law 305 [v0, v1, v2, v3] (zi (I a j.toNat) :: st) (c, s, I, L, R) Q := V_iaload dL_law_304 rfl
theorem e_L_law_304x : V X call mL_law 304 [v0, v1, v2, v3] (zi j :: zx 1 :: st) (c, s, I, L, R) Q ↔ (0 ≤ j ∧ j < (X.1 : Int)) ∧ V X call mL_law 305 [v0, v1, v2, v3] (zi (X.2 j.toNat) :: st) (c, s, I, L, R) Q := V_saload dL_law_304 rfl
theorem e_L_law_305 : V X call mL_law 305 [v0, v1, v2, v3] (a3 :: a2 :: a1 :: zr (some a) :: st) σ Q ↔ (zT a).1 = 21 ∧ zcats st ≤ 8 ∧ zcll (call 90 [zr (some a), a1, a2, a3] σ) (fun r τ => (σ.1 ≤ τ.1 ∧ σ.2.1 ≤ τ.2.1) ∧ V X call mL_law 308 [v0, v1, v2, v3] (zpush r st) τ Q) := V_iv3 dL_law_305 lm_13_39 zm_90 (by decide) rfl
theorem e_L_law_308 : V X call mL_law 308 [v0, v1, zr u, v3] st σ Q ↔ V X call mL_law 309 [v0, v1, zr u, v3] (zr u :: st) σ Q := W_aload_n (j := 2) dL_law_308 rfl rfl rfl
theorem e_L_law_308x : V X call mL_law 308 [v0, v1, zx (e + 1), v3] st σ Q ↔ V X call mL_law 309 [v0, v1, zx (e + 1), v3] (zx (e + 1) :: st) σ Q := W_aloadx_n (j := 2) dL_law_308 rfl rfl rfl
theorem e_L_law_309 : V X call mL_law 309 [zr u, v1, v2, v3] st σ Q ↔ V X call mL_law 310 [zr u, v1, v2, v3] (zr u :: st) σ Q := W_aload_n (j := 0) dL_law_309 rfl rfl rfl
theorem e_L_law_309x : V X call mL_law 309 [zx (e + 1), v1, v2, v3] st σ Q ↔ V X call mL_law 310 [zx (e + 1), v1, v2, v3] (zx (e + 1) :: st) σ Q := W_aloadx_n (j := 0) dL_law_309 rfl rfl rfl
theorem e_L_law_310 : V X call mL_law 310 [v0, v1, v2, zi x] st σ Q ↔ V X call mL_law 311 [v0, v1, v2, zi x] (zi x :: st) σ Q := W_iload_n (j := 3) dL_law_310 rfl rfl rfl
theorem e_L_law_311 : V X call mL_law 311 [v0, v1, v2, v3] st σ Q ↔ V X call mL_law 312 [v0, v1, v2, v3] (zi (1) :: st) σ Q := V_iconst dL_law_311 (by decide) rfl
theorem e_L_law_312 : V X call mL_law 312 [v0, v1, v2, v3] (zi y :: zi x :: st) σ Q ↔ V X call mL_law 313 [v0, v1, v2, v3] (zi (zw3 (x + y)) :: st) σ Q := V_iadd dL_law_312 rfl
theorem e_L_law_313 : V X call mL_law 313 [v0, v1, v2, v3] (zi j :: zr (some a) :: st) (c, s, I, L, R) Q ↔ ((zT a).1 = 1 ∧ 0 ≤ j ∧ j < ((zT a).2 : Int)) ∧ V X call mL_law 314 [v0, v1, v2, v3] (zi (I a j.toNat) :: st) (c, s, I, L, R) Q := V_iaload dL_law_313 rfl
theorem e_L_law_313x : V X call mL_law 313 [v0, v1, v2, v3] (zi j :: zx 1 :: st) (c, s, I, L, R) Q ↔ (0 ≤ j ∧ j < (X.1 : Int)) ∧ V X call mL_law 314 [v0, v1, v2, v3] (zi (X.2 j.toNat) :: st) (c, s, I, L, R) Q := V_saload dL_law_313 rfl
theorem e_L_law_314 : V X call mL_law 314 [zr u, v1, v2, v3] st σ Q ↔ V X call mL_law 315 [zr u, v1, v2, v3] (zr u :: st) σ Q := W_aload_n (j := 0) dL_law_314 rfl rfl rfl
theorem e_L_law_314x : V X call mL_law 314 [zx (e + 1), v1, v2, v3] st σ Q ↔ V X call mL_law 315 [zx (e + 1), v1, v2, v3] (zx (e + 1) :: st) σ Q := W_aloadx_n (j := 0) dL_law_314 rfl rfl rfl
theorem e_L_law_315 : V X call mL_law 315 [v0, v1, v2, zi x] st σ Q ↔ V X call mL_law 316 [v0, v1, v2, zi x] (zi x :: st) σ Q := W_iload_n (j := 3) dL_law_315 rfl rfl rfl
theorem e_L_law_316 : V X call mL_law 316 [v0, v1, v2, v3] st σ Q ↔ V X call mL_law 317 [v0, v1, v2, v3] (zi (2) :: st) σ Q := V_iconst dL_law_316 (by decide) rfl
theorem e_L_law_317 : V X call mL_law 317 [v0, v1, v2, v3] (zi y :: zi x :: st) σ Q ↔ V X call mL_law 318 [v0, v1, v2, v3] (zi (zw3 (x + y)) :: st) σ Q := V_iadd dL_law_317 rfl
theorem e_L_law_318 : V X call mL_law 318 [v0, v1, v2, v3] (zi j :: zr (some a) :: st) (c, s, I, L, R) Q ↔ ((zT a).1 = 1 ∧ 0 ≤ j ∧ j < ((zT a).2 : Int)) ∧ V X call mL_law 319 [v0, v1, v2, v3] (zi (I a j.toNat) :: st) (c, s, I, L, R) Q := V_iaload dL_law_318 rfl
theorem e_L_law_318x : V X call mL_law 318 [v0, v1, v2, v3] (zi j :: zx 1 :: st) (c, s, I, L, R) Q ↔ (0 ≤ j ∧ j < (X.1 : Int)) ∧ V X call mL_law 319 [v0, v1, v2, v3] (zi (X.2 j.toNat) :: st) (c, s, I, L, R) Q := V_saload dL_law_318 rfl
theorem e_L_law_319 : V X call mL_law 319 [zr u, v1, v2, v3] st σ Q ↔ V X call mL_law 320 [zr u, v1, v2, v3] (zr u :: st) σ Q := W_aload_n (j := 0) dL_law_319 rfl rfl rfl
theorem e_L_law_319x : V X call mL_law 319 [zx (e + 1), v1, v2, v3] st σ Q ↔ V X call mL_law 320 [zx (e + 1), v1, v2, v3] (zx (e + 1) :: st) σ Q := W_aloadx_n (j := 0) dL_law_319 rfl rfl rfl
theorem e_L_law_320 : V X call mL_law 320 [v0, v1, v2, zi x] st σ Q ↔ V X call mL_law 321 [v0, v1, v2, zi x] (zi x :: st) σ Q := W_iload_n (j := 3) dL_law_320 rfl rfl rfl
theorem e_L_law_321 : V X call mL_law 321 [v0, v1, v2, v3] st σ Q ↔ V X call mL_law 322 [v0, v1, v2, v3] (zi (3) :: st) σ Q := V_iconst dL_law_321 (by decide) rfl
theorem e_L_law_322 : V X call mL_law 322 [v0, v1, v2, v3] (zi y :: zi x :: st) σ Q ↔ V X call mL_law 323 [v0, v1, v2, v3] (zi (zw3 (x + y)) :: st) σ Q := V_iadd dL_law_322 rfl
theorem e_L_law_323 : V X call mL_law 323 [v0, v1, v2, v3] (zi j :: zr (some a) :: st) (c, s, I, L, R) Q ↔ ((zT a).1 = 1 ∧ 0 ≤ j ∧ j < ((zT a).2 : Int)) ∧ V X call mL_law 324 [v0, v1, v2, v3] (zi (I a j.toNat) :: st) (c, s, I, L, R) Q := V_iaload dL_law_323 rfl
theorem e_L_law_323x : V X call mL_law 323 [v0, v1, v2, v3] (zi j :: zx 1 :: st) (c, s, I, L, R) Q ↔ (0 ≤ j ∧ j < (X.1 : Int)) ∧ V X call mL_law 324 [v0, v1, v2, v3] (zi (X.2 j.toNat) :: st) (c, s, I, L, R) Q := V_saload dL_law_323 rfl
theorem e_L_law_324 : V X call mL_law 324 [v0, v1, v2, v3] (a3 :: a2 :: a1 :: zr (some a) :: st) σ Q ↔ (zT a).1 = 22 ∧ zcats st ≤ 8 ∧ zcll (call 149 [zr (some a), a1, a2, a3] σ) (fun r τ => (σ.1 ≤ τ.1 ∧ σ.2.1 ≤ τ.2.1) ∧ V X call mL_law 327 [v0, v1, v2, v3] (zpush r st) τ Q) := V_iv3 dL_law_324 lm_13_43 zm_149 (by decide) rfl
theorem e_L_law_327 : V X call mL_law 327 [v0, v1, v2, v3] (zi y :: zi x :: st) σ Q ↔ (if x = y then V X call mL_law 888 [v0, v1, v2, v3] st σ Q else V X call mL_law 330 [v0, v1, v2, v3] st σ Q) := V_ic_eq dL_law_327 rfl rfl
theorem e_L_law_330 : V X call mL_law 330 [v0, v1, v2, v3] st σ Q ↔ V X call mL_law 331 [v0, v1, v2, v3] (zi (0) :: st) σ Q := V_iconst dL_law_330 (by decide) rfl
theorem e_L_law_331 : V X call mL_law 331 [v0, v1, v2, v3] [zi x] σ Q ↔ zok 2 x = true ∧ Q (some (zi x), σ) := V_iret dL_law_331 rfl (by decide)
theorem e_L_law_332 : V X call mL_law 332 [v0, zr u, v2, v3] st σ Q ↔ V X call mL_law 333 [v0, zr u, v2, v3] (zr u :: st) σ Q := W_aload_n (j := 1) dL_law_332 rfl rfl rfl
theorem e_L_law_332x : V X call mL_law 332 [v0, zx (e + 1), v2, v3] st σ Q ↔ V X call mL_law 333 [v0, zx (e + 1), v2, v3] (zx (e + 1) :: st) σ Q := W_aloadx_n (j := 1) dL_law_332 rfl rfl rfl
theorem e_L_law_333 : V X call mL_law 333 [zr u, v1, v2, v3] st σ Q ↔ V X call mL_law 334 [zr u, v1, v2, v3] (zr u :: st) σ Q := W_aload_n (j := 0) dL_law_333 rfl rfl rfl
theorem e_L_law_333x : V X call mL_law 333 [zx (e + 1), v1, v2, v3] st σ Q ↔ V X call mL_law 334 [zx (e + 1), v1, v2, v3] (zx (e + 1) :: st) σ Q := W_aloadx_n (j := 0) dL_law_333 rfl rfl rfl
theorem e_L_law_334 : V X call mL_law 334 [v0, v1, v2, zi x] st σ Q ↔ V X call mL_law 335 [v0, v1, v2, zi x] (zi x :: st) σ Q := W_iload_n (j := 3) dL_law_334 rfl rfl rfl
theorem e_L_law_335 : V X call mL_law 335 [v0, v1, v2, v3] st σ Q ↔ V X call mL_law 336 [v0, v1, v2, v3] (zi (1) :: st) σ Q := V_iconst dL_law_335 (by decide) rfl
theorem e_L_law_336 : V X call mL_law 336 [v0, v1, v2, v3] (zi y :: zi x :: st) σ Q ↔ V X call mL_law 337 [v0, v1, v2, v3] (zi (zw3 (x + y)) :: st) σ Q := V_iadd dL_law_336 rfl
theorem e_L_law_337 : V X call mL_law 337 [v0, v1, v2, v3] (zi j :: zr (some a) :: st) (c, s, I, L, R) Q ↔ ((zT a).1 = 1 ∧ 0 ≤ j ∧ j < ((zT a).2 : Int)) ∧ V X call mL_law 338 [v0, v1, v2, v3] (zi (I a j.toNat) :: st) (c, s, I, L, R) Q := V_iaload dL_law_337 rfl
theorem e_L_law_337x : V X call mL_law 337 [v0, v1, v2, v3] (zi j :: zx 1 :: st) (c, s, I, L, R) Q ↔ (0 ≤ j ∧ j < (X.1 : Int)) ∧ V X call mL_law 338 [v0, v1, v2, v3] (zi (X.2 j.toNat) :: st) (c, s, I, L, R) Q := V_saload dL_law_337 rfl
theorem e_L_law_338 : V X call mL_law 338 [zr u, v1, v2, v3] st σ Q ↔ V X call mL_law 339 [zr u, v1, v2, v3] (zr u :: st) σ Q := W_aload_n (j := 0) dL_law_338 rfl rfl rfl
theorem e_L_law_338x : V X call mL_law 338 [zx (e + 1), v1, v2, v3] st σ Q ↔ V X call mL_law 339 [zx (e + 1), v1, v2, v3] (zx (e + 1) :: st) σ Q := W_aloadx_n (j := 0) dL_law_338 rfl rfl rfl
theorem e_L_law_339 : V X call mL_law 339 [v0, v1, v2, zi x] st σ Q ↔ V X call mL_law 340 [v0, v1, v2, zi x] (zi x :: st) σ Q := W_iload_n (j := 3) dL_law_339 rfl rfl rfl
theorem e_L_law_340 : V X call mL_law 340 [v0, v1, v2, v3] st σ Q ↔ V X call mL_law 341 [v0, v1, v2, v3] (zi (2) :: st) σ Q := V_iconst dL_law_340 (by decide) rfl
theorem e_L_law_341 : V X call mL_law 341 [v0, v1, v2, v3] (zi y :: zi x :: st) σ Q ↔ V X call mL_law 342 [v0, v1, v2, v3] (zi (zw3 (x + y)) :: st) σ Q := V_iadd dL_law_341 rfl
theorem e_L_law_342 : V X call mL_law 342 [v0, v1, v2, v3] (zi j :: zr (some a) :: st) (c, s, I, L, R) Q ↔ ((zT a).1 = 1 ∧ 0 ≤ j ∧ j < ((zT a).2 : Int)) ∧ V X call mL_law 343 [v0, v1, v2, v3] (zi (I a j.toNat) :: st) (c, s, I, L, R) Q := V_iaload dL_law_342 rfl
theorem e_L_law_342x : V X call mL_law 342 [v0, v1, v2, v3] (zi j :: zx 1 :: st) (c, s, I, L, R) Q ↔ (0 ≤ j ∧ j < (X.1 : Int)) ∧ V X call mL_law 343 [v0, v1, v2, v3] (zi (X.2 j.toNat) :: st) (c, s, I, L, R) Q := V_saload dL_law_342 rfl
theorem e_L_law_343 : V X call mL_law 343 [zr u, v1, v2, v3] st σ Q ↔ V X call mL_law 344 [zr u, v1, v2, v3] (zr u :: st) σ Q := W_aload_n (j := 0) dL_law_343 rfl rfl rfl
theorem e_L_law_343x : V X call mL_law 343 [zx (e + 1), v1, v2, v3] st σ Q ↔ V X call mL_law 344 [zx (e + 1), v1, v2, v3] (zx (e + 1) :: st) σ Q := W_aloadx_n (j := 0) dL_law_343 rfl rfl rfl
theorem e_L_law_344 : V X call mL_law 344 [v0, v1, v2, zi x] st σ Q ↔ V X call mL_law 345 [v0, v1, v2, zi x] (zi x :: st) σ Q := W_iload_n (j := 3) dL_law_344 rfl rfl rfl
theorem e_L_law_345 : V X call mL_law 345 [v0, v1, v2, v3] st σ Q ↔ V X call mL_law 346 [v0, v1, v2, v3] (zi (3) :: st) σ Q := V_iconst dL_law_345 (by decide) rfl
theorem e_L_law_346 : V X call mL_law 346 [v0, v1, v2, v3] (zi y :: zi x :: st) σ Q ↔ V X call mL_law 347 [v0, v1, v2, v3] (zi (zw3 (x + y)) :: st) σ Q := V_iadd dL_law_346 rfl
theorem e_L_law_347 : V X call mL_law 347 [v0, v1, v2, v3] (zi j :: zr (some a) :: st) (c, s, I, L, R) Q ↔ ((zT a).1 = 1 ∧ 0 ≤ j ∧ j < ((zT a).2 : Int)) ∧ V X call mL_law 348 [v0, v1, v2, v3] (zi (I a j.toNat) :: st) (c, s, I, L, R) Q := V_iaload dL_law_347 rfl
theorem e_L_law_347x : V X call mL_law 347 [v0, v1, v2, v3] (zi j :: zx 1 :: st) (c, s, I, L, R) Q ↔ (0 ≤ j ∧ j < (X.1 : Int)) ∧ V X call mL_law 348 [v0, v1, v2, v3] (zi (X.2 j.toNat) :: st) (c, s, I, L, R) Q := V_saload dL_law_347 rfl
theorem e_L_law_348 : V X call mL_law 348 [v0, v1, v2, v3] (a3 :: a2 :: a1 :: zr (some a) :: st) σ Q ↔ (zT a).1 = 21 ∧ zcats st ≤ 8 ∧ zcll (call 91 [zr (some a), a1, a2, a3] σ) (fun r τ => (σ.1 ≤ τ.1 ∧ σ.2.1 ≤ τ.2.1) ∧ V X call mL_law 351 [v0, v1, v2, v3] (zpush r st) τ Q) := V_iv3 dL_law_348 lm_13_44 zm_91 (by decide) rfl
theorem e_L_law_351 : V X call mL_law 351 [v0, v1, zr u, v3] st σ Q ↔ V X call mL_law 352 [v0, v1, zr u, v3] (zr u :: st) σ Q := W_aload_n (j := 2) dL_law_351 rfl rfl rfl
theorem e_L_law_351x : V X call mL_law 351 [v0, v1, zx (e + 1), v3] st σ Q ↔ V X call mL_law 352 [v0, v1, zx (e + 1), v3] (zx (e + 1) :: st) σ Q := W_aloadx_n (j := 2) dL_law_351 rfl rfl rfl
theorem e_L_law_352 : V X call mL_law 352 [zr u, v1, v2, v3] st σ Q ↔ V X call mL_law 353 [zr u, v1, v2, v3] (zr u :: st) σ Q := W_aload_n (j := 0) dL_law_352 rfl rfl rfl
theorem e_L_law_352x : V X call mL_law 352 [zx (e + 1), v1, v2, v3] st σ Q ↔ V X call mL_law 353 [zx (e + 1), v1, v2, v3] (zx (e + 1) :: st) σ Q := W_aloadx_n (j := 0) dL_law_352 rfl rfl rfl
theorem e_L_law_353 : V X call mL_law 353 [v0, v1, v2, zi x] st σ Q ↔ V X call mL_law 354 [v0, v1, v2, zi x] (zi x :: st) σ Q := W_iload_n (j := 3) dL_law_353 rfl rfl rfl
theorem e_L_law_354 : V X call mL_law 354 [v0, v1, v2, v3] st σ Q ↔ V X call mL_law 355 [v0, v1, v2, v3] (zi (1) :: st) σ Q := V_iconst dL_law_354 (by decide) rfl
theorem e_L_law_355 : V X call mL_law 355 [v0, v1, v2, v3] (zi y :: zi x :: st) σ Q ↔ V X call mL_law 356 [v0, v1, v2, v3] (zi (zw3 (x + y)) :: st) σ Q := V_iadd dL_law_355 rfl
theorem e_L_law_356 : V X call mL_law 356 [v0, v1, v2, v3] (zi j :: zr (some a) :: st) (c, s, I, L, R) Q ↔ ((zT a).1 = 1 ∧ 0 ≤ j ∧ j < ((zT a).2 : Int)) ∧ V X call mL_law 357 [v0, v1, v2, v3] (zi (I a j.toNat) :: st) (c, s, I, L, R) Q := V_iaload dL_law_356 rfl
theorem e_L_law_356x : V X call mL_law 356 [v0, v1, v2, v3] (zi j :: zx 1 :: st) (c, s, I, L, R) Q ↔ (0 ≤ j ∧ j < (X.1 : Int)) ∧ V X call mL_law 357 [v0, v1, v2, v3] (zi (X.2 j.toNat) :: st) (c, s, I, L, R) Q := V_saload dL_law_356 rfl
theorem e_L_law_357 : V X call mL_law 357 [zr u, v1, v2, v3] st σ Q ↔ V X call mL_law 358 [zr u, v1, v2, v3] (zr u :: st) σ Q := W_aload_n (j := 0) dL_law_357 rfl rfl rfl
theorem e_L_law_357x : V X call mL_law 357 [zx (e + 1), v1, v2, v3] st σ Q ↔ V X call mL_law 358 [zx (e + 1), v1, v2, v3] (zx (e + 1) :: st) σ Q := W_aloadx_n (j := 0) dL_law_357 rfl rfl rfl
theorem e_L_law_358 : V X call mL_law 358 [v0, v1, v2, zi x] st σ Q ↔ V X call mL_law 359 [v0, v1, v2, zi x] (zi x :: st) σ Q := W_iload_n (j := 3) dL_law_358 rfl rfl rfl
theorem e_L_law_359 : V X call mL_law 359 [v0, v1, v2, v3] st σ Q ↔ V X call mL_law 360 [v0, v1, v2, v3] (zi (2) :: st) σ Q := V_iconst dL_law_359 (by decide) rfl
theorem e_L_law_360 : V X call mL_law 360 [v0, v1, v2, v3] (zi y :: zi x :: st) σ Q ↔ V X call mL_law 361 [v0, v1, v2, v3] (zi (zw3 (x + y)) :: st) σ Q := V_iadd dL_law_360 rfl
theorem e_L_law_361 : V X call mL_law 361 [v0, v1, v2, v3] (zi j :: zr (some a) :: st) (c, s, I, L, R) Q ↔ ((zT a).1 = 1 ∧ 0 ≤ j ∧ j < ((zT a).2 : Int)) ∧ V X call mL_law 362 [v0, v1, v2, v3] (zi (I a j.toNat) :: st) (c, s, I, L, R) Q := V_iaload dL_law_361 rfl
theorem e_L_law_361x : V X call mL_law 361 [v0, v1, v2, v3] (zi j :: zx 1 :: st) (c, s, I, L, R) Q ↔ (0 ≤ j ∧ j < (X.1 : Int)) ∧ V X call mL_law 362 [v0, v1, v2, v3] (zi (X.2 j.toNat) :: st) (c, s, I, L, R) Q := V_saload dL_law_361 rfl
theorem e_L_law_362 : V X call mL_law 362 [zr u, v1, v2, v3] st σ Q ↔ V X call mL_law 363 [zr u, v1, v2, v3] (zr u :: st) σ Q := W_aload_n (j := 0) dL_law_362 rfl rfl rfl
theorem e_L_law_362x : V X call mL_law 362 [zx (e + 1), v1, v2, v3] st σ Q ↔ V X call mL_law 363 [zx (e + 1), v1, v2, v3] (zx (e + 1) :: st) σ Q := W_aloadx_n (j := 0) dL_law_362 rfl rfl rfl
theorem e_L_law_363 : V X call mL_law 363 [v0, v1, v2, zi x] st σ Q ↔ V X call mL_law 364 [v0, v1, v2, zi x] (zi x :: st) σ Q := W_iload_n (j := 3) dL_law_363 rfl rfl rfl
theorem e_L_law_364 : V X call mL_law 364 [v0, v1, v2, v3] st σ Q ↔ V X call mL_law 365 [v0, v1, v2, v3] (zi (3) :: st) σ Q := V_iconst dL_law_364 (by decide) rfl
theorem e_L_law_365 : V X call mL_law 365 [v0, v1, v2, v3] (zi y :: zi x :: st) σ Q ↔ V X call mL_law 366 [v0, v1, v2, v3] (zi (zw3 (x + y)) :: st) σ Q := V_iadd dL_law_365 rfl
theorem e_L_law_366 : V X call mL_law 366 [v0, v1, v2, v3] (zi j :: zr (some a) :: st) (c, s, I, L, R) Q ↔ ((zT a).1 = 1 ∧ 0 ≤ j ∧ j < ((zT a).2 : Int)) ∧ V X call mL_law 367 [v0, v1, v2, v3] (zi (I a j.toNat) :: st) (c, s, I, L, R) Q := V_iaload dL_law_366 rfl
theorem e_L_law_366x : V X call mL_law 366 [v0, v1, v2, v3] (zi j :: zx 1 :: st) (c, s, I, L, R) Q ↔ (0 ≤ j ∧ j < (X.1 : Int)) ∧ V X call mL_law 367 [v0, v1, v2, v3] (zi (X.2 j.toNat) :: st) (c, s, I, L, R) Q := V_saload dL_law_366 rfl
theorem e_L_law_367 : V X call mL_law 367 [v0, v1, v2, v3] (a3 :: a2 :: a1 :: zr (some a) :: st) σ Q ↔ (zT a).1 = 22 ∧ zcats st ≤ 8 ∧ zcll (call 150 [zr (some a), a1, a2, a3] σ) (fun r τ => (σ.1 ≤ τ.1 ∧ σ.2.1 ≤ τ.2.1) ∧ V X call mL_law 370 [v0, v1, v2, v3] (zpush r st) τ Q) := V_iv3 dL_law_367 lm_13_47 zm_150 (by decide) rfl
theorem e_L_law_370 : V X call mL_law 370 [v0, v1, v2, v3] (zi y :: zi x :: st) σ Q ↔ (if x = y then V X call mL_law 888 [v0, v1, v2, v3] st σ Q else V X call mL_law 373 [v0, v1, v2, v3] st σ Q) := V_ic_eq dL_law_370 rfl rfl
theorem e_L_law_373 : V X call mL_law 373 [v0, v1, v2, v3] st σ Q ↔ V X call mL_law 374 [v0, v1, v2, v3] (zi (0) :: st) σ Q := V_iconst dL_law_373 (by decide) rfl
theorem e_L_law_374 : V X call mL_law 374 [v0, v1, v2, v3] [zi x] σ Q ↔ zok 2 x = true ∧ Q (some (zi x), σ) := V_iret dL_law_374 rfl (by decide)
theorem e_L_law_375 : V X call mL_law 375 [v0, zr u, v2, v3] st σ Q ↔ V X call mL_law 376 [v0, zr u, v2, v3] (zr u :: st) σ Q := W_aload_n (j := 1) dL_law_375 rfl rfl rfl
theorem e_L_law_375x : V X call mL_law 375 [v0, zx (e + 1), v2, v3] st σ Q ↔ V X call mL_law 376 [v0, zx (e + 1), v2, v3] (zx (e + 1) :: st) σ Q := W_aloadx_n (j := 1) dL_law_375 rfl rfl rfl
theorem e_L_law_376 : V X call mL_law 376 [zr u, v1, v2, v3] st σ Q ↔ V X call mL_law 377 [zr u, v1, v2, v3] (zr u :: st) σ Q := W_aload_n (j := 0) dL_law_376 rfl rfl rfl
theorem e_L_law_376x : V X call mL_law 376 [zx (e + 1), v1, v2, v3] st σ Q ↔ V X call mL_law 377 [zx (e + 1), v1, v2, v3] (zx (e + 1) :: st) σ Q := W_aloadx_n (j := 0) dL_law_376 rfl rfl rfl
theorem e_L_law_377 : V X call mL_law 377 [v0, v1, v2, zi x] st σ Q ↔ V X call mL_law 378 [v0, v1, v2, zi x] (zi x :: st) σ Q := W_iload_n (j := 3) dL_law_377 rfl rfl rfl
theorem e_L_law_378 : V X call mL_law 378 [v0, v1, v2, v3] st σ Q ↔ V X call mL_law 379 [v0, v1, v2, v3] (zi (1) :: st) σ Q := V_iconst dL_law_378 (by decide) rfl
theorem e_L_law_379 : V X call mL_law 379 [v0, v1, v2, v3] (zi y :: zi x :: st) σ Q ↔ V X call mL_law 380 [v0, v1, v2, v3] (zi (zw3 (x + y)) :: st) σ Q := V_iadd dL_law_379 rfl
theorem e_L_law_380 : V X call mL_law 380 [v0, v1, v2, v3] (zi j :: zr (some a) :: st) (c, s, I, L, R) Q ↔ ((zT a).1 = 1 ∧ 0 ≤ j ∧ j < ((zT a).2 : Int)) ∧ V X call mL_law 381 [v0, v1, v2, v3] (zi (I a j.toNat) :: st) (c, s, I, L, R) Q := V_iaload dL_law_380 rfl
theorem e_L_law_380x : V X call mL_law 380 [v0, v1, v2, v3] (zi j :: zx 1 :: st) (c, s, I, L, R) Q ↔ (0 ≤ j ∧ j < (X.1 : Int)) ∧ V X call mL_law 381 [v0, v1, v2, v3] (zi (X.2 j.toNat) :: st) (c, s, I, L, R) Q := V_saload dL_law_380 rfl
theorem e_L_law_381 : V X call mL_law 381 [zr u, v1, v2, v3] st σ Q ↔ V X call mL_law 382 [zr u, v1, v2, v3] (zr u :: st) σ Q := W_aload_n (j := 0) dL_law_381 rfl rfl rfl
theorem e_L_law_381x : V X call mL_law 381 [zx (e + 1), v1, v2, v3] st σ Q ↔ V X call mL_law 382 [zx (e + 1), v1, v2, v3] (zx (e + 1) :: st) σ Q := W_aloadx_n (j := 0) dL_law_381 rfl rfl rfl
theorem e_L_law_382 : V X call mL_law 382 [v0, v1, v2, zi x] st σ Q ↔ V X call mL_law 383 [v0, v1, v2, zi x] (zi x :: st) σ Q := W_iload_n (j := 3) dL_law_382 rfl rfl rfl
theorem e_L_law_383 : V X call mL_law 383 [v0, v1, v2, v3] st σ Q ↔ V X call mL_law 384 [v0, v1, v2, v3] (zi (2) :: st) σ Q := V_iconst dL_law_383 (by decide) rfl
theorem e_L_law_384 : V X call mL_law 384 [v0, v1, v2, v3] (zi y :: zi x :: st) σ Q ↔ V X call mL_law 385 [v0, v1, v2, v3] (zi (zw3 (x + y)) :: st) σ Q := V_iadd dL_law_384 rfl
theorem e_L_law_385 : V X call mL_law 385 [v0, v1, v2, v3] (zi j :: zr (some a) :: st) (c, s, I, L, R) Q ↔ ((zT a).1 = 1 ∧ 0 ≤ j ∧ j < ((zT a).2 : Int)) ∧ V X call mL_law 386 [v0, v1, v2, v3] (zi (I a j.toNat) :: st) (c, s, I, L, R) Q := V_iaload dL_law_385 rfl
theorem e_L_law_385x : V X call mL_law 385 [v0, v1, v2, v3] (zi j :: zx 1 :: st) (c, s, I, L, R) Q ↔ (0 ≤ j ∧ j < (X.1 : Int)) ∧ V X call mL_law 386 [v0, v1, v2, v3] (zi (X.2 j.toNat) :: st) (c, s, I, L, R) Q := V_saload dL_law_385 rfl
theorem e_L_law_386 : V X call mL_law 386 [v0, v1, v2, v3] (a2 :: a1 :: zr (some a) :: st) σ Q ↔ (zT a).1 = 21 ∧ zcats st ≤ 8 ∧ zcll (call 92 [zr (some a), a1, a2] σ) (fun r τ => (σ.1 ≤ τ.1 ∧ σ.2.1 ≤ τ.2.1) ∧ V X call mL_law 389 [v0, v1, v2, v3] (zpush r st) τ Q) := V_iv2 dL_law_386 lm_13_48 zm_92 (by decide) rfl
theorem e_L_law_389 : V X call mL_law 389 [v0, v1, zr u, v3] st σ Q ↔ V X call mL_law 390 [v0, v1, zr u, v3] (zr u :: st) σ Q := W_aload_n (j := 2) dL_law_389 rfl rfl rfl
theorem e_L_law_389x : V X call mL_law 389 [v0, v1, zx (e + 1), v3] st σ Q ↔ V X call mL_law 390 [v0, v1, zx (e + 1), v3] (zx (e + 1) :: st) σ Q := W_aloadx_n (j := 2) dL_law_389 rfl rfl rfl
theorem e_L_law_390 : V X call mL_law 390 [zr u, v1, v2, v3] st σ Q ↔ V X call mL_law 391 [zr u, v1, v2, v3] (zr u :: st) σ Q := W_aload_n (j := 0) dL_law_390 rfl rfl rfl
theorem e_L_law_390x : V X call mL_law 390 [zx (e + 1), v1, v2, v3] st σ Q ↔ V X call mL_law 391 [zx (e + 1), v1, v2, v3] (zx (e + 1) :: st) σ Q := W_aloadx_n (j := 0) dL_law_390 rfl rfl rfl
theorem e_L_law_391 : V X call mL_law 391 [v0, v1, v2, zi x] st σ Q ↔ V X call mL_law 392 [v0, v1, v2, zi x] (zi x :: st) σ Q := W_iload_n (j := 3) dL_law_391 rfl rfl rfl
theorem e_L_law_392 : V X call mL_law 392 [v0, v1, v2, v3] st σ Q ↔ V X call mL_law 393 [v0, v1, v2, v3] (zi (1) :: st) σ Q := V_iconst dL_law_392 (by decide) rfl
theorem e_L_law_393 : V X call mL_law 393 [v0, v1, v2, v3] (zi y :: zi x :: st) σ Q ↔ V X call mL_law 394 [v0, v1, v2, v3] (zi (zw3 (x + y)) :: st) σ Q := V_iadd dL_law_393 rfl
theorem e_L_law_394 : V X call mL_law 394 [v0, v1, v2, v3] (zi j :: zr (some a) :: st) (c, s, I, L, R) Q ↔ ((zT a).1 = 1 ∧ 0 ≤ j ∧ j < ((zT a).2 : Int)) ∧ V X call mL_law 395 [v0, v1, v2, v3] (zi (I a j.toNat) :: st) (c, s, I, L, R) Q := V_iaload dL_law_394 rfl
theorem e_L_law_394x : V X call mL_law 394 [v0, v1, v2, v3] (zi j :: zx 1 :: st) (c, s, I, L, R) Q ↔ (0 ≤ j ∧ j < (X.1 : Int)) ∧ V X call mL_law 395 [v0, v1, v2, v3] (zi (X.2 j.toNat) :: st) (c, s, I, L, R) Q := V_saload dL_law_394 rfl
theorem e_L_law_395 : V X call mL_law 395 [zr u, v1, v2, v3] st σ Q ↔ V X call mL_law 396 [zr u, v1, v2, v3] (zr u :: st) σ Q := W_aload_n (j := 0) dL_law_395 rfl rfl rfl
theorem e_L_law_395x : V X call mL_law 395 [zx (e + 1), v1, v2, v3] st σ Q ↔ V X call mL_law 396 [zx (e + 1), v1, v2, v3] (zx (e + 1) :: st) σ Q := W_aloadx_n (j := 0) dL_law_395 rfl rfl rfl
theorem e_L_law_396 : V X call mL_law 396 [v0, v1, v2, zi x] st σ Q ↔ V X call mL_law 397 [v0, v1, v2, zi x] (zi x :: st) σ Q := W_iload_n (j := 3) dL_law_396 rfl rfl rfl
theorem e_L_law_397 : V X call mL_law 397 [v0, v1, v2, v3] st σ Q ↔ V X call mL_law 398 [v0, v1, v2, v3] (zi (2) :: st) σ Q := V_iconst dL_law_397 (by decide) rfl
theorem e_L_law_398 : V X call mL_law 398 [v0, v1, v2, v3] (zi y :: zi x :: st) σ Q ↔ V X call mL_law 399 [v0, v1, v2, v3] (zi (zw3 (x + y)) :: st) σ Q := V_iadd dL_law_398 rfl
theorem e_L_law_399 : V X call mL_law 399 [v0, v1, v2, v3] (zi j :: zr (some a) :: st) (c, s, I, L, R) Q ↔ ((zT a).1 = 1 ∧ 0 ≤ j ∧ j < ((zT a).2 : Int)) ∧ V X call mL_law 400 [v0, v1, v2, v3] (zi (I a j.toNat) :: st) (c, s, I, L, R) Q := V_iaload dL_law_399 rfl
theorem e_L_law_399x : V X call mL_law 399 [v0, v1, v2, v3] (zi j :: zx 1 :: st) (c, s, I, L, R) Q ↔ (0 ≤ j ∧ j < (X.1 : Int)) ∧ V X call mL_law 400 [v0, v1, v2, v3] (zi (X.2 j.toNat) :: st) (c, s, I, L, R) Q := V_saload dL_law_399 rfl
theorem e_L_law_400 : V X call mL_law 400 [v0, v1, v2, v3] (a2 :: a1 :: zr (some a) :: st) σ Q ↔ (zT a).1 = 22 ∧ zcats st ≤ 8 ∧ zcll (call 151 [zr (some a), a1, a2] σ) (fun r τ => (σ.1 ≤ τ.1 ∧ σ.2.1 ≤ τ.2.1) ∧ V X call mL_law 403 [v0, v1, v2, v3] (zpush r st) τ Q) := V_iv2 dL_law_400 lm_13_52 zm_151 (by decide) rfl
theorem e_L_law_403 : V X call mL_law 403 [v0, v1, v2, v3] (zi y :: zi x :: st) σ Q ↔ (if x = y then V X call mL_law 888 [v0, v1, v2, v3] st σ Q else V X call mL_law 406 [v0, v1, v2, v3] st σ Q) := V_ic_eq dL_law_403 rfl rfl
theorem e_L_law_406 : V X call mL_law 406 [v0, v1, v2, v3] st σ Q ↔ V X call mL_law 407 [v0, v1, v2, v3] (zi (0) :: st) σ Q := V_iconst dL_law_406 (by decide) rfl
theorem e_L_law_407 : V X call mL_law 407 [v0, v1, v2, v3] [zi x] σ Q ↔ zok 2 x = true ∧ Q (some (zi x), σ) := V_iret dL_law_407 rfl (by decide)
theorem e_L_law_408 : V X call mL_law 408 [v0, zr u, v2, v3] st σ Q ↔ V X call mL_law 409 [v0, zr u, v2, v3] (zr u :: st) σ Q := W_aload_n (j := 1) dL_law_408 rfl rfl rfl
theorem e_L_law_408x : V X call mL_law 408 [v0, zx (e + 1), v2, v3] st σ Q ↔ V X call mL_law 409 [v0, zx (e + 1), v2, v3] (zx (e + 1) :: st) σ Q := W_aloadx_n (j := 1) dL_law_408 rfl rfl rfl
theorem e_L_law_409 : V X call mL_law 409 [zr u, v1, v2, v3] st σ Q ↔ V X call mL_law 410 [zr u, v1, v2, v3] (zr u :: st) σ Q := W_aload_n (j := 0) dL_law_409 rfl rfl rfl
theorem e_L_law_409x : V X call mL_law 409 [zx (e + 1), v1, v2, v3] st σ Q ↔ V X call mL_law 410 [zx (e + 1), v1, v2, v3] (zx (e + 1) :: st) σ Q := W_aloadx_n (j := 0) dL_law_409 rfl rfl rfl
theorem e_L_law_410 : V X call mL_law 410 [v0, v1, v2, zi x] st σ Q ↔ V X call mL_law 411 [v0, v1, v2, zi x] (zi x :: st) σ Q := W_iload_n (j := 3) dL_law_410 rfl rfl rfl
theorem e_L_law_411 : V X call mL_law 411 [v0, v1, v2, v3] st σ Q ↔ V X call mL_law 412 [v0, v1, v2, v3] (zi (1) :: st) σ Q := V_iconst dL_law_411 (by decide) rfl
theorem e_L_law_412 : V X call mL_law 412 [v0, v1, v2, v3] (zi y :: zi x :: st) σ Q ↔ V X call mL_law 413 [v0, v1, v2, v3] (zi (zw3 (x + y)) :: st) σ Q := V_iadd dL_law_412 rfl
theorem e_L_law_413 : V X call mL_law 413 [v0, v1, v2, v3] (zi j :: zr (some a) :: st) (c, s, I, L, R) Q ↔ ((zT a).1 = 1 ∧ 0 ≤ j ∧ j < ((zT a).2 : Int)) ∧ V X call mL_law 414 [v0, v1, v2, v3] (zi (I a j.toNat) :: st) (c, s, I, L, R) Q := V_iaload dL_law_413 rfl
theorem e_L_law_413x : V X call mL_law 413 [v0, v1, v2, v3] (zi j :: zx 1 :: st) (c, s, I, L, R) Q ↔ (0 ≤ j ∧ j < (X.1 : Int)) ∧ V X call mL_law 414 [v0, v1, v2, v3] (zi (X.2 j.toNat) :: st) (c, s, I, L, R) Q := V_saload dL_law_413 rfl
theorem e_L_law_414 : V X call mL_law 414 [zr u, v1, v2, v3] st σ Q ↔ V X call mL_law 415 [zr u, v1, v2, v3] (zr u :: st) σ Q := W_aload_n (j := 0) dL_law_414 rfl rfl rfl
theorem e_L_law_414x : V X call mL_law 414 [zx (e + 1), v1, v2, v3] st σ Q ↔ V X call mL_law 415 [zx (e + 1), v1, v2, v3] (zx (e + 1) :: st) σ Q := W_aloadx_n (j := 0) dL_law_414 rfl rfl rfl
theorem e_L_law_415 : V X call mL_law 415 [v0, v1, v2, zi x] st σ Q ↔ V X call mL_law 416 [v0, v1, v2, zi x] (zi x :: st) σ Q := W_iload_n (j := 3) dL_law_415 rfl rfl rfl
theorem e_L_law_416 : V X call mL_law 416 [v0, v1, v2, v3] st σ Q ↔ V X call mL_law 417 [v0, v1, v2, v3] (zi (2) :: st) σ Q := V_iconst dL_law_416 (by decide) rfl
theorem e_L_law_417 : V X call mL_law 417 [v0, v1, v2, v3] (zi y :: zi x :: st) σ Q ↔ V X call mL_law 418 [v0, v1, v2, v3] (zi (zw3 (x + y)) :: st) σ Q := V_iadd dL_law_417 rfl
theorem e_L_law_418 : V X call mL_law 418 [v0, v1, v2, v3] (zi j :: zr (some a) :: st) (c, s, I, L, R) Q ↔ ((zT a).1 = 1 ∧ 0 ≤ j ∧ j < ((zT a).2 : Int)) ∧ V X call mL_law 419 [v0, v1, v2, v3] (zi (I a j.toNat) :: st) (c, s, I, L, R) Q := V_iaload dL_law_418 rfl
theorem e_L_law_418x : V X call mL_law 418 [v0, v1, v2, v3] (zi j :: zx 1 :: st) (c, s, I, L, R) Q ↔ (0 ≤ j ∧ j < (X.1 : Int)) ∧ V X call mL_law 419 [v0, v1, v2, v3] (zi (X.2 j.toNat) :: st) (c, s, I, L, R) Q := V_saload dL_law_418 rfl
theorem e_L_law_419 : V X call mL_law 419 [v0, v1, v2, v3] (a2 :: a1 :: zr (some a) :: st) σ Q ↔ (zT a).1 = 21 ∧ zcats st ≤ 8 ∧ zcll (call 93 [zr (some a), a1, a2] σ) (fun r τ => (σ.1 ≤ τ.1 ∧ σ.2.1 ≤ τ.2.1) ∧ V X call mL_law 422 [v0, v1, v2, v3] (zpush r st) τ Q) := V_iv2 dL_law_419 lm_13_53 zm_93 (by decide) rfl
theorem e_L_law_422 : V X call mL_law 422 [v0, v1, zr u, v3] st σ Q ↔ V X call mL_law 423 [v0, v1, zr u, v3] (zr u :: st) σ Q := W_aload_n (j := 2) dL_law_422 rfl rfl rfl
theorem e_L_law_422x : V X call mL_law 422 [v0, v1, zx (e + 1), v3] st σ Q ↔ V X call mL_law 423 [v0, v1, zx (e + 1), v3] (zx (e + 1) :: st) σ Q := W_aloadx_n (j := 2) dL_law_422 rfl rfl rfl
theorem e_L_law_423 : V X call mL_law 423 [zr u, v1, v2, v3] st σ Q ↔ V X call mL_law 424 [zr u, v1, v2, v3] (zr u :: st) σ Q := W_aload_n (j := 0) dL_law_423 rfl rfl rfl
theorem e_L_law_423x : V X call mL_law 423 [zx (e + 1), v1, v2, v3] st σ Q ↔ V X call mL_law 424 [zx (e + 1), v1, v2, v3] (zx (e + 1) :: st) σ Q := W_aloadx_n (j := 0) dL_law_423 rfl rfl rfl
theorem e_L_law_424 : V X call mL_law 424 [v0, v1, v2, zi x] st σ Q ↔ V X call mL_law 425 [v0, v1, v2, zi x] (zi x :: st) σ Q := W_iload_n (j := 3) dL_law_424 rfl rfl rfl
theorem e_L_law_425 : V X call mL_law 425 [v0, v1, v2, v3] st σ Q ↔ V X call mL_law 426 [v0, v1, v2, v3] (zi (1) :: st) σ Q := V_iconst dL_law_425 (by decide) rfl
theorem e_L_law_426 : V X call mL_law 426 [v0, v1, v2, v3] (zi y :: zi x :: st) σ Q ↔ V X call mL_law 427 [v0, v1, v2, v3] (zi (zw3 (x + y)) :: st) σ Q := V_iadd dL_law_426 rfl
theorem e_L_law_427 : V X call mL_law 427 [v0, v1, v2, v3] (zi j :: zr (some a) :: st) (c, s, I, L, R) Q ↔ ((zT a).1 = 1 ∧ 0 ≤ j ∧ j < ((zT a).2 : Int)) ∧ V X call mL_law 428 [v0, v1, v2, v3] (zi (I a j.toNat) :: st) (c, s, I, L, R) Q := V_iaload dL_law_427 rfl
theorem e_L_law_427x : V X call mL_law 427 [v0, v1, v2, v3] (zi j :: zx 1 :: st) (c, s, I, L, R) Q ↔ (0 ≤ j ∧ j < (X.1 : Int)) ∧ V X call mL_law 428 [v0, v1, v2, v3] (zi (X.2 j.toNat) :: st) (c, s, I, L, R) Q := V_saload dL_law_427 rfl
theorem e_L_law_428 : V X call mL_law 428 [zr u, v1, v2, v3] st σ Q ↔ V X call mL_law 429 [zr u, v1, v2, v3] (zr u :: st) σ Q := W_aload_n (j := 0) dL_law_428 rfl rfl rfl
theorem e_L_law_428x : V X call mL_law 428 [zx (e + 1), v1, v2, v3] st σ Q ↔ V X call mL_law 429 [zx (e + 1), v1, v2, v3] (zx (e + 1) :: st) σ Q := W_aloadx_n (j := 0) dL_law_428 rfl rfl rfl
theorem e_L_law_429 : V X call mL_law 429 [v0, v1, v2, zi x] st σ Q ↔ V X call mL_law 430 [v0, v1, v2, zi x] (zi x :: st) σ Q := W_iload_n (j := 3) dL_law_429 rfl rfl rfl
theorem e_L_law_430 : V X call mL_law 430 [v0, v1, v2, v3] st σ Q ↔ V X call mL_law 431 [v0, v1, v2, v3] (zi (2) :: st) σ Q := V_iconst dL_law_430 (by decide) rfl
theorem e_L_law_431 : V X call mL_law 431 [v0, v1, v2, v3] (zi y :: zi x :: st) σ Q ↔ V X call mL_law 432 [v0, v1, v2, v3] (zi (zw3 (x + y)) :: st) σ Q := V_iadd dL_law_431 rfl
theorem e_L_law_432 : V X call mL_law 432 [v0, v1, v2, v3] (zi j :: zr (some a) :: st) (c, s, I, L, R) Q ↔ ((zT a).1 = 1 ∧ 0 ≤ j ∧ j < ((zT a).2 : Int)) ∧ V X call mL_law 433 [v0, v1, v2, v3] (zi (I a j.toNat) :: st) (c, s, I, L, R) Q := V_iaload dL_law_432 rfl
theorem e_L_law_432x : V X call mL_law 432 [v0, v1, v2, v3] (zi j :: zx 1 :: st) (c, s, I, L, R) Q ↔ (0 ≤ j ∧ j < (X.1 : Int)) ∧ V X call mL_law 433 [v0, v1, v2, v3] (zi (X.2 j.toNat) :: st) (c, s, I, L, R) Q := V_saload dL_law_432 rfl
theorem e_L_law_433 : V X call mL_law 433 [v0, v1, v2, v3] (a2 :: a1 :: zr (some a) :: st) σ Q ↔ (zT a).1 = 22 ∧ zcats st ≤ 8 ∧ zcll (call 157 [zr (some a), a1, a2] σ) (fun r τ => (σ.1 ≤ τ.1 ∧ σ.2.1 ≤ τ.2.1) ∧ V X call mL_law 436 [v0, v1, v2, v3] (zpush r st) τ Q) := V_iv2 dL_law_433 lm_13_57 zm_157 (by decide) rfl
theorem e_L_law_436 : V X call mL_law 436 [v0, v1, v2, v3] (zl y :: zl x :: st) σ Q ↔ V X call mL_law 437 [v0, v1, v2, v3] (zi (zcmpl x y) :: st) σ Q := V_lcmp dL_law_436 rfl
theorem e_L_law_437 : V X call mL_law 437 [v0, v1, v2, v3] (zi x :: st) σ Q ↔ (if x = 0 then V X call mL_law 888 [v0, v1, v2, v3] st σ Q else V X call mL_law 440 [v0, v1, v2, v3] st σ Q) := V_if_eq dL_law_437 rfl rfl
theorem e_L_law_440 : V X call mL_law 440 [v0, v1, v2, v3] st σ Q ↔ V X call mL_law 441 [v0, v1, v2, v3] (zi (0) :: st) σ Q := V_iconst dL_law_440 (by decide) rfl
theorem e_L_law_441 : V X call mL_law 441 [v0, v1, v2, v3] [zi x] σ Q ↔ zok 2 x = true ∧ Q (some (zi x), σ) := V_iret dL_law_441 rfl (by decide)
theorem e_L_law_442 : V X call mL_law 442 [v0, zr u, v2, v3] st σ Q ↔ V X call mL_law 443 [v0, zr u, v2, v3] (zr u :: st) σ Q := W_aload_n (j := 1) dL_law_442 rfl rfl rfl
theorem e_L_law_442x : V X call mL_law 442 [v0, zx (e + 1), v2, v3] st σ Q ↔ V X call mL_law 443 [v0, zx (e + 1), v2, v3] (zx (e + 1) :: st) σ Q := W_aloadx_n (j := 1) dL_law_442 rfl rfl rfl
theorem e_L_law_443 : V X call mL_law 443 [zr u, v1, v2, v3] st σ Q ↔ V X call mL_law 444 [zr u, v1, v2, v3] (zr u :: st) σ Q := W_aload_n (j := 0) dL_law_443 rfl rfl rfl
theorem e_L_law_443x : V X call mL_law 443 [zx (e + 1), v1, v2, v3] st σ Q ↔ V X call mL_law 444 [zx (e + 1), v1, v2, v3] (zx (e + 1) :: st) σ Q := W_aloadx_n (j := 0) dL_law_443 rfl rfl rfl
theorem e_L_law_444 : V X call mL_law 444 [v0, v1, v2, zi x] st σ Q ↔ V X call mL_law 445 [v0, v1, v2, zi x] (zi x :: st) σ Q := W_iload_n (j := 3) dL_law_444 rfl rfl rfl
theorem e_L_law_445 : V X call mL_law 445 [v0, v1, v2, v3] st σ Q ↔ V X call mL_law 446 [v0, v1, v2, v3] (zi (1) :: st) σ Q := V_iconst dL_law_445 (by decide) rfl
theorem e_L_law_446 : V X call mL_law 446 [v0, v1, v2, v3] (zi y :: zi x :: st) σ Q ↔ V X call mL_law 447 [v0, v1, v2, v3] (zi (zw3 (x + y)) :: st) σ Q := V_iadd dL_law_446 rfl
theorem e_L_law_447 : V X call mL_law 447 [v0, v1, v2, v3] (zi j :: zr (some a) :: st) (c, s, I, L, R) Q ↔ ((zT a).1 = 1 ∧ 0 ≤ j ∧ j < ((zT a).2 : Int)) ∧ V X call mL_law 448 [v0, v1, v2, v3] (zi (I a j.toNat) :: st) (c, s, I, L, R) Q := V_iaload dL_law_447 rfl
theorem e_L_law_447x : V X call mL_law 447 [v0, v1, v2, v3] (zi j :: zx 1 :: st) (c, s, I, L, R) Q ↔ (0 ≤ j ∧ j < (X.1 : Int)) ∧ V X call mL_law 448 [v0, v1, v2, v3] (zi (X.2 j.toNat) :: st) (c, s, I, L, R) Q := V_saload dL_law_447 rfl
theorem e_L_law_448 : V X call mL_law 448 [zr u, v1, v2, v3] st σ Q ↔ V X call mL_law 449 [zr u, v1, v2, v3] (zr u :: st) σ Q := W_aload_n (j := 0) dL_law_448 rfl rfl rfl
theorem e_L_law_448x : V X call mL_law 448 [zx (e + 1), v1, v2, v3] st σ Q ↔ V X call mL_law 449 [zx (e + 1), v1, v2, v3] (zx (e + 1) :: st) σ Q := W_aloadx_n (j := 0) dL_law_448 rfl rfl rfl
theorem e_L_law_449 : V X call mL_law 449 [v0, v1, v2, zi x] st σ Q ↔ V X call mL_law 450 [v0, v1, v2, zi x] (zi x :: st) σ Q := W_iload_n (j := 3) dL_law_449 rfl rfl rfl
theorem e_L_law_450 : V X call mL_law 450 [v0, v1, v2, v3] st σ Q ↔ V X call mL_law 451 [v0, v1, v2, v3] (zi (2) :: st) σ Q := V_iconst dL_law_450 (by decide) rfl
theorem e_L_law_451 : V X call mL_law 451 [v0, v1, v2, v3] (zi y :: zi x :: st) σ Q ↔ V X call mL_law 452 [v0, v1, v2, v3] (zi (zw3 (x + y)) :: st) σ Q := V_iadd dL_law_451 rfl
theorem e_L_law_452 : V X call mL_law 452 [v0, v1, v2, v3] (zi j :: zr (some a) :: st) (c, s, I, L, R) Q ↔ ((zT a).1 = 1 ∧ 0 ≤ j ∧ j < ((zT a).2 : Int)) ∧ V X call mL_law 453 [v0, v1, v2, v3] (zi (I a j.toNat) :: st) (c, s, I, L, R) Q := V_iaload dL_law_452 rfl
theorem e_L_law_452x : V X call mL_law 452 [v0, v1, v2, v3] (zi j :: zx 1 :: st) (c, s, I, L, R) Q ↔ (0 ≤ j ∧ j < (X.1 : Int)) ∧ V X call mL_law 453 [v0, v1, v2, v3] (zi (X.2 j.toNat) :: st) (c, s, I, L, R) Q := V_saload dL_law_452 rfl
theorem e_L_law_453 : V X call mL_law 453 [v0, v1, v2, v3] (a2 :: a1 :: zr (some a) :: st) σ Q ↔ (zT a).1 = 21 ∧ zcats st ≤ 8 ∧ zcll (call 94 [zr (some a), a1, a2] σ) (fun r τ => (σ.1 ≤ τ.1 ∧ σ.2.1 ≤ τ.2.1) ∧ V X call mL_law 456 [v0, v1, v2, v3] (zpush r st) τ Q) := V_iv2 dL_law_453 lm_13_58 zm_94 (by decide) rfl
theorem e_L_law_456 : V X call mL_law 456 [v0, v1, zr u, v3] st σ Q ↔ V X call mL_law 457 [v0, v1, zr u, v3] (zr u :: st) σ Q := W_aload_n (j := 2) dL_law_456 rfl rfl rfl
theorem e_L_law_456x : V X call mL_law 456 [v0, v1, zx (e + 1), v3] st σ Q ↔ V X call mL_law 457 [v0, v1, zx (e + 1), v3] (zx (e + 1) :: st) σ Q := W_aloadx_n (j := 2) dL_law_456 rfl rfl rfl
theorem e_L_law_457 : V X call mL_law 457 [zr u, v1, v2, v3] st σ Q ↔ V X call mL_law 458 [zr u, v1, v2, v3] (zr u :: st) σ Q := W_aload_n (j := 0) dL_law_457 rfl rfl rfl
theorem e_L_law_457x : V X call mL_law 457 [zx (e + 1), v1, v2, v3] st σ Q ↔ V X call mL_law 458 [zx (e + 1), v1, v2, v3] (zx (e + 1) :: st) σ Q := W_aloadx_n (j := 0) dL_law_457 rfl rfl rfl
theorem e_L_law_458 : V X call mL_law 458 [v0, v1, v2, zi x] st σ Q ↔ V X call mL_law 459 [v0, v1, v2, zi x] (zi x :: st) σ Q := W_iload_n (j := 3) dL_law_458 rfl rfl rfl
theorem e_L_law_459 : V X call mL_law 459 [v0, v1, v2, v3] st σ Q ↔ V X call mL_law 460 [v0, v1, v2, v3] (zi (1) :: st) σ Q := V_iconst dL_law_459 (by decide) rfl
theorem e_L_law_460 : V X call mL_law 460 [v0, v1, v2, v3] (zi y :: zi x :: st) σ Q ↔ V X call mL_law 461 [v0, v1, v2, v3] (zi (zw3 (x + y)) :: st) σ Q := V_iadd dL_law_460 rfl
theorem e_L_law_461 : V X call mL_law 461 [v0, v1, v2, v3] (zi j :: zr (some a) :: st) (c, s, I, L, R) Q ↔ ((zT a).1 = 1 ∧ 0 ≤ j ∧ j < ((zT a).2 : Int)) ∧ V X call mL_law 462 [v0, v1, v2, v3] (zi (I a j.toNat) :: st) (c, s, I, L, R) Q := V_iaload dL_law_461 rfl
theorem e_L_law_461x : V X call mL_law 461 [v0, v1, v2, v3] (zi j :: zx 1 :: st) (c, s, I, L, R) Q ↔ (0 ≤ j ∧ j < (X.1 : Int)) ∧ V X call mL_law 462 [v0, v1, v2, v3] (zi (X.2 j.toNat) :: st) (c, s, I, L, R) Q := V_saload dL_law_461 rfl
theorem e_L_law_462 : V X call mL_law 462 [zr u, v1, v2, v3] st σ Q ↔ V X call mL_law 463 [zr u, v1, v2, v3] (zr u :: st) σ Q := W_aload_n (j := 0) dL_law_462 rfl rfl rfl
theorem e_L_law_462x : V X call mL_law 462 [zx (e + 1), v1, v2, v3] st σ Q ↔ V X call mL_law 463 [zx (e + 1), v1, v2, v3] (zx (e + 1) :: st) σ Q := W_aloadx_n (j := 0) dL_law_462 rfl rfl rfl
theorem e_L_law_463 : V X call mL_law 463 [v0, v1, v2, zi x] st σ Q ↔ V X call mL_law 464 [v0, v1, v2, zi x] (zi x :: st) σ Q := W_iload_n (j := 3) dL_law_463 rfl rfl rfl
theorem e_L_law_464 : V X call mL_law 464 [v0, v1, v2, v3] st σ Q ↔ V X call mL_law 465 [v0, v1, v2, v3] (zi (2) :: st) σ Q := V_iconst dL_law_464 (by decide) rfl
theorem e_L_law_465 : V X call mL_law 465 [v0, v1, v2, v3] (zi y :: zi x :: st) σ Q ↔ V X call mL_law 466 [v0, v1, v2, v3] (zi (zw3 (x + y)) :: st) σ Q := V_iadd dL_law_465 rfl
theorem e_L_law_466 : V X call mL_law 466 [v0, v1, v2, v3] (zi j :: zr (some a) :: st) (c, s, I, L, R) Q ↔ ((zT a).1 = 1 ∧ 0 ≤ j ∧ j < ((zT a).2 : Int)) ∧ V X call mL_law 467 [v0, v1, v2, v3] (zi (I a j.toNat) :: st) (c, s, I, L, R) Q := V_iaload dL_law_466 rfl
theorem e_L_law_466x : V X call mL_law 466 [v0, v1, v2, v3] (zi j :: zx 1 :: st) (c, s, I, L, R) Q ↔ (0 ≤ j ∧ j < (X.1 : Int)) ∧ V X call mL_law 467 [v0, v1, v2, v3] (zi (X.2 j.toNat) :: st) (c, s, I, L, R) Q := V_saload dL_law_466 rfl
theorem e_L_law_467 : V X call mL_law 467 [v0, v1, v2, v3] (a2 :: a1 :: zr (some a) :: st) σ Q ↔ (zT a).1 = 22 ∧ zcats st ≤ 8 ∧ zcll (call 158 [zr (some a), a1, a2] σ) (fun r τ => (σ.1 ≤ τ.1 ∧ σ.2.1 ≤ τ.2.1) ∧ V X call mL_law 470 [v0, v1, v2, v3] (zpush r st) τ Q) := V_iv2 dL_law_467 lm_13_61 zm_158 (by decide) rfl
theorem e_L_law_470 : V X call mL_law 470 [v0, v1, v2, v3] (zl y :: zl x :: st) σ Q ↔ V X call mL_law 471 [v0, v1, v2, v3] (zi (zcmpl x y) :: st) σ Q := V_lcmp dL_law_470 rfl
theorem e_L_law_471 : V X call mL_law 471 [v0, v1, v2, v3] (zi x :: st) σ Q ↔ (if x = 0 then V X call mL_law 888 [v0, v1, v2, v3] st σ Q else V X call mL_law 474 [v0, v1, v2, v3] st σ Q) := V_if_eq dL_law_471 rfl rfl
theorem e_L_law_474 : V X call mL_law 474 [v0, v1, v2, v3] st σ Q ↔ V X call mL_law 475 [v0, v1, v2, v3] (zi (0) :: st) σ Q := V_iconst dL_law_474 (by decide) rfl
theorem e_L_law_475 : V X call mL_law 475 [v0, v1, v2, v3] [zi x] σ Q ↔ zok 2 x = true ∧ Q (some (zi x), σ) := V_iret dL_law_475 rfl (by decide)
theorem e_L_law_476 : V X call mL_law 476 [v0, zr u, v2, v3] st σ Q ↔ V X call mL_law 477 [v0, zr u, v2, v3] (zr u :: st) σ Q := W_aload_n (j := 1) dL_law_476 rfl rfl rfl
theorem e_L_law_476x : V X call mL_law 476 [v0, zx (e + 1), v2, v3] st σ Q ↔ V X call mL_law 477 [v0, zx (e + 1), v2, v3] (zx (e + 1) :: st) σ Q := W_aloadx_n (j := 1) dL_law_476 rfl rfl rfl
theorem e_L_law_477 : V X call mL_law 477 [v0, v1, v2, v3] (zr (some a) :: st) σ Q ↔ (zT a).1 = 21 ∧ zcats st ≤ 8 ∧ zcll (call 95 [zr (some a)] σ) (fun r τ => (σ.1 ≤ τ.1 ∧ σ.2.1 ≤ τ.2.1) ∧ V X call mL_law 480 [v0, v1, v2, v3] (zpush r st) τ Q) := V_iv0 dL_law_477 lm_13_62 zm_95 (by decide) rfl
theorem e_L_law_480 : V X call mL_law 480 [v0, v1, zr u, v3] st σ Q ↔ V X call mL_law 481 [v0, v1, zr u, v3] (zr u :: st) σ Q := W_aload_n (j := 2) dL_law_480 rfl rfl rfl
theorem e_L_law_480x : V X call mL_law 480 [v0, v1, zx (e + 1), v3] st σ Q ↔ V X call mL_law 481 [v0, v1, zx (e + 1), v3] (zx (e + 1) :: st) σ Q := W_aloadx_n (j := 2) dL_law_480 rfl rfl rfl
theorem e_L_law_481 : V X call mL_law 481 [v0, v1, v2, v3] (zr (some a) :: st) σ Q ↔ (zT a).1 = 22 ∧ zcats st ≤ 8 ∧ zcll (call 159 [zr (some a)] σ) (fun r τ => (σ.1 ≤ τ.1 ∧ σ.2.1 ≤ τ.2.1) ∧ V X call mL_law 484 [v0, v1, v2, v3] (zpush r st) τ Q) := V_iv0 dL_law_481 lm_13_65 zm_159 (by decide) rfl
theorem e_L_law_484 : V X call mL_law 484 [v0, v1, v2, v3] (zi y :: zi x :: st) σ Q ↔ (if x = y then V X call mL_law 888 [v0, v1, v2, v3] st σ Q else V X call mL_law 487 [v0, v1, v2, v3] st σ Q) := V_ic_eq dL_law_484 rfl rfl
theorem e_L_law_487 : V X call mL_law 487 [v0, v1, v2, v3] st σ Q ↔ V X call mL_law 488 [v0, v1, v2, v3] (zi (0) :: st) σ Q := V_iconst dL_law_487 (by decide) rfl
theorem e_L_law_488 : V X call mL_law 488 [v0, v1, v2, v3] [zi x] σ Q ↔ zok 2 x = true ∧ Q (some (zi x), σ) := V_iret dL_law_488 rfl (by decide)
theorem e_L_law_489 : V X call mL_law 489 [v0, zr u, v2, v3] st σ Q ↔ V X call mL_law 490 [v0, zr u, v2, v3] (zr u :: st) σ Q := W_aload_n (j := 1) dL_law_489 rfl rfl rfl
theorem e_L_law_489x : V X call mL_law 489 [v0, zx (e + 1), v2, v3] st σ Q ↔ V X call mL_law 490 [v0, zx (e + 1), v2, v3] (zx (e + 1) :: st) σ Q := W_aloadx_n (j := 1) dL_law_489 rfl rfl rfl
theorem e_L_law_490 : V X call mL_law 490 [zr u, v1, v2, v3] st σ Q ↔ V X call mL_law 491 [zr u, v1, v2, v3] (zr u :: st) σ Q := W_aload_n (j := 0) dL_law_490 rfl rfl rfl
theorem e_L_law_490x : V X call mL_law 490 [zx (e + 1), v1, v2, v3] st σ Q ↔ V X call mL_law 491 [zx (e + 1), v1, v2, v3] (zx (e + 1) :: st) σ Q := W_aloadx_n (j := 0) dL_law_490 rfl rfl rfl
theorem e_L_law_491 : V X call mL_law 491 [v0, v1, v2, zi x] st σ Q ↔ V X call mL_law 492 [v0, v1, v2, zi x] (zi x :: st) σ Q := W_iload_n (j := 3) dL_law_491 rfl rfl rfl
theorem e_L_law_492 : V X call mL_law 492 [v0, v1, v2, v3] st σ Q ↔ V X call mL_law 493 [v0, v1, v2, v3] (zi (1) :: st) σ Q := V_iconst dL_law_492 (by decide) rfl
theorem e_L_law_493 : V X call mL_law 493 [v0, v1, v2, v3] (zi y :: zi x :: st) σ Q ↔ V X call mL_law 494 [v0, v1, v2, v3] (zi (zw3 (x + y)) :: st) σ Q := V_iadd dL_law_493 rfl
theorem e_L_law_494 : V X call mL_law 494 [v0, v1, v2, v3] (zi j :: zr (some a) :: st) (c, s, I, L, R) Q ↔ ((zT a).1 = 1 ∧ 0 ≤ j ∧ j < ((zT a).2 : Int)) ∧ V X call mL_law 495 [v0, v1, v2, v3] (zi (I a j.toNat) :: st) (c, s, I, L, R) Q := V_iaload dL_law_494 rfl
theorem e_L_law_494x : V X call mL_law 494 [v0, v1, v2, v3] (zi j :: zx 1 :: st) (c, s, I, L, R) Q ↔ (0 ≤ j ∧ j < (X.1 : Int)) ∧ V X call mL_law 495 [v0, v1, v2, v3] (zi (X.2 j.toNat) :: st) (c, s, I, L, R) Q := V_saload dL_law_494 rfl
theorem e_L_law_495 : V X call mL_law 495 [zr u, v1, v2, v3] st σ Q ↔ V X call mL_law 496 [zr u, v1, v2, v3] (zr u :: st) σ Q := W_aload_n (j := 0) dL_law_495 rfl rfl rfl
theorem e_L_law_495x : V X call mL_law 495 [zx (e + 1), v1, v2, v3] st σ Q ↔ V X call mL_law 496 [zx (e + 1), v1, v2, v3] (zx (e + 1) :: st) σ Q := W_aloadx_n (j := 0) dL_law_495 rfl rfl rfl
theorem e_L_law_496 : V X call mL_law 496 [v0, v1, v2, zi x] st σ Q ↔ V X call mL_law 497 [v0, v1, v2, zi x] (zi x :: st) σ Q := W_iload_n (j := 3) dL_law_496 rfl rfl rfl
theorem e_L_law_497 : V X call mL_law 497 [v0, v1, v2, v3] st σ Q ↔ V X call mL_law 498 [v0, v1, v2, v3] (zi (2) :: st) σ Q := V_iconst dL_law_497 (by decide) rfl
theorem e_L_law_498 : V X call mL_law 498 [v0, v1, v2, v3] (zi y :: zi x :: st) σ Q ↔ V X call mL_law 499 [v0, v1, v2, v3] (zi (zw3 (x + y)) :: st) σ Q := V_iadd dL_law_498 rfl
theorem e_L_law_499 : V X call mL_law 499 [v0, v1, v2, v3] (zi j :: zr (some a) :: st) (c, s, I, L, R) Q ↔ ((zT a).1 = 1 ∧ 0 ≤ j ∧ j < ((zT a).2 : Int)) ∧ V X call mL_law 500 [v0, v1, v2, v3] (zi (I a j.toNat) :: st) (c, s, I, L, R) Q := V_iaload dL_law_499 rfl
theorem e_L_law_499x : V X call mL_law 499 [v0, v1, v2, v3] (zi j :: zx 1 :: st) (c, s, I, L, R) Q ↔ (0 ≤ j ∧ j < (X.1 : Int)) ∧ V X call mL_law 500 [v0, v1, v2, v3] (zi (X.2 j.toNat) :: st) (c, s, I, L, R) Q := V_saload dL_law_499 rfl
theorem e_L_law_500 : V X call mL_law 500 [zr u, v1, v2, v3] st σ Q ↔ V X call mL_law 501 [zr u, v1, v2, v3] (zr u :: st) σ Q := W_aload_n (j := 0) dL_law_500 rfl rfl rfl
theorem e_L_law_500x : V X call mL_law 500 [zx (e + 1), v1, v2, v3] st σ Q ↔ V X call mL_law 501 [zx (e + 1), v1, v2, v3] (zx (e + 1) :: st) σ Q := W_aloadx_n (j := 0) dL_law_500 rfl rfl rfl
theorem e_L_law_501 : V X call mL_law 501 [v0, v1, v2, zi x] st σ Q ↔ V X call mL_law 502 [v0, v1, v2, zi x] (zi x :: st) σ Q := W_iload_n (j := 3) dL_law_501 rfl rfl rfl
theorem e_L_law_502 : V X call mL_law 502 [v0, v1, v2, v3] st σ Q ↔ V X call mL_law 503 [v0, v1, v2, v3] (zi (3) :: st) σ Q := V_iconst dL_law_502 (by decide) rfl
theorem e_L_law_503 : V X call mL_law 503 [v0, v1, v2, v3] (zi y :: zi x :: st) σ Q ↔ V X call mL_law 504 [v0, v1, v2, v3] (zi (zw3 (x + y)) :: st) σ Q := V_iadd dL_law_503 rfl
theorem e_L_law_504 : V X call mL_law 504 [v0, v1, v2, v3] (zi j :: zr (some a) :: st) (c, s, I, L, R) Q ↔ ((zT a).1 = 1 ∧ 0 ≤ j ∧ j < ((zT a).2 : Int)) ∧ V X call mL_law 505 [v0, v1, v2, v3] (zi (I a j.toNat) :: st) (c, s, I, L, R) Q := V_iaload dL_law_504 rfl
theorem e_L_law_504x : V X call mL_law 504 [v0, v1, v2, v3] (zi j :: zx 1 :: st) (c, s, I, L, R) Q ↔ (0 ≤ j ∧ j < (X.1 : Int)) ∧ V X call mL_law 505 [v0, v1, v2, v3] (zi (X.2 j.toNat) :: st) (c, s, I, L, R) Q := V_saload dL_law_504 rfl
theorem e_L_law_505 : V X call mL_law 505 [v0, v1, v2, v3] (a3 :: a2 :: a1 :: zr (some a) :: st) σ Q ↔ (zT a).1 = 21 ∧ zcats st ≤ 8 ∧ zcll (call 96 [zr (some a), a1, a2, a3] σ) (fun r τ => (σ.1 ≤ τ.1 ∧ σ.2.1 ≤ τ.2.1) ∧ V X call mL_law 508 [v0, v1, v2, v3] (zpush r st) τ Q) := V_iv3 dL_law_505 lm_13_66 zm_96 (by decide) rfl
theorem e_L_law_508 : V X call mL_law 508 [v0, v1, zr u, v3] st σ Q ↔ V X call mL_law 509 [v0, v1, zr u, v3] (zr u :: st) σ Q := W_aload_n (j := 2) dL_law_508 rfl rfl rfl
theorem e_L_law_508x : V X call mL_law 508 [v0, v1, zx (e + 1), v3] st σ Q ↔ V X call mL_law 509 [v0, v1, zx (e + 1), v3] (zx (e + 1) :: st) σ Q := W_aloadx_n (j := 2) dL_law_508 rfl rfl rfl
theorem e_L_law_509 : V X call mL_law 509 [zr u, v1, v2, v3] st σ Q ↔ V X call mL_law 510 [zr u, v1, v2, v3] (zr u :: st) σ Q := W_aload_n (j := 0) dL_law_509 rfl rfl rfl
theorem e_L_law_509x : V X call mL_law 509 [zx (e + 1), v1, v2, v3] st σ Q ↔ V X call mL_law 510 [zx (e + 1), v1, v2, v3] (zx (e + 1) :: st) σ Q := W_aloadx_n (j := 0) dL_law_509 rfl rfl rfl
theorem e_L_law_510 : V X call mL_law 510 [v0, v1, v2, zi x] st σ Q ↔ V X call mL_law 511 [v0, v1, v2, zi x] (zi x :: st) σ Q := W_iload_n (j := 3) dL_law_510 rfl rfl rfl
theorem e_L_law_511 : V X call mL_law 511 [v0, v1, v2, v3] st σ Q ↔ V X call mL_law 512 [v0, v1, v2, v3] (zi (1) :: st) σ Q := V_iconst dL_law_511 (by decide) rfl
theorem e_L_law_512 : V X call mL_law 512 [v0, v1, v2, v3] (zi y :: zi x :: st) σ Q ↔ V X call mL_law 513 [v0, v1, v2, v3] (zi (zw3 (x + y)) :: st) σ Q := V_iadd dL_law_512 rfl
theorem e_L_law_513 : V X call mL_law 513 [v0, v1, v2, v3] (zi j :: zr (some a) :: st) (c, s, I, L, R) Q ↔ ((zT a).1 = 1 ∧ 0 ≤ j ∧ j < ((zT a).2 : Int)) ∧ V X call mL_law 514 [v0, v1, v2, v3] (zi (I a j.toNat) :: st) (c, s, I, L, R) Q := V_iaload dL_law_513 rfl
theorem e_L_law_513x : V X call mL_law 513 [v0, v1, v2, v3] (zi j :: zx 1 :: st) (c, s, I, L, R) Q ↔ (0 ≤ j ∧ j < (X.1 : Int)) ∧ V X call mL_law 514 [v0, v1, v2, v3] (zi (X.2 j.toNat) :: st) (c, s, I, L, R) Q := V_saload dL_law_513 rfl
theorem e_L_law_514 : V X call mL_law 514 [zr u, v1, v2, v3] st σ Q ↔ V X call mL_law 515 [zr u, v1, v2, v3] (zr u :: st) σ Q := W_aload_n (j := 0) dL_law_514 rfl rfl rfl
theorem e_L_law_514x : V X call mL_law 514 [zx (e + 1), v1, v2, v3] st σ Q ↔ V X call mL_law 515 [zx (e + 1), v1, v2, v3] (zx (e + 1) :: st) σ Q := W_aloadx_n (j := 0) dL_law_514 rfl rfl rfl
theorem e_L_law_515 : V X call mL_law 515 [v0, v1, v2, zi x] st σ Q ↔ V X call mL_law 516 [v0, v1, v2, zi x] (zi x :: st) σ Q := W_iload_n (j := 3) dL_law_515 rfl rfl rfl
theorem e_L_law_516 : V X call mL_law 516 [v0, v1, v2, v3] st σ Q ↔ V X call mL_law 517 [v0, v1, v2, v3] (zi (2) :: st) σ Q := V_iconst dL_law_516 (by decide) rfl
theorem e_L_law_517 : V X call mL_law 517 [v0, v1, v2, v3] (zi y :: zi x :: st) σ Q ↔ V X call mL_law 518 [v0, v1, v2, v3] (zi (zw3 (x + y)) :: st) σ Q := V_iadd dL_law_517 rfl
theorem e_L_law_518 : V X call mL_law 518 [v0, v1, v2, v3] (zi j :: zr (some a) :: st) (c, s, I, L, R) Q ↔ ((zT a).1 = 1 ∧ 0 ≤ j ∧ j < ((zT a).2 : Int)) ∧ V X call mL_law 519 [v0, v1, v2, v3] (zi (I a j.toNat) :: st) (c, s, I, L, R) Q := V_iaload dL_law_518 rfl
theorem e_L_law_518x : V X call mL_law 518 [v0, v1, v2, v3] (zi j :: zx 1 :: st) (c, s, I, L, R) Q ↔ (0 ≤ j ∧ j < (X.1 : Int)) ∧ V X call mL_law 519 [v0, v1, v2, v3] (zi (X.2 j.toNat) :: st) (c, s, I, L, R) Q := V_saload dL_law_518 rfl
theorem e_L_law_519 : V X call mL_law 519 [zr u, v1, v2, v3] st σ Q ↔ V X call mL_law 520 [zr u, v1, v2, v3] (zr u :: st) σ Q := W_aload_n (j := 0) dL_law_519 rfl rfl rfl
theorem e_L_law_519x : V X call mL_law 519 [zx (e + 1), v1, v2, v3] st σ Q ↔ V X call mL_law 520 [zx (e + 1), v1, v2, v3] (zx (e + 1) :: st) σ Q := W_aloadx_n (j := 0) dL_law_519 rfl rfl rfl
theorem e_L_law_520 : V X call mL_law 520 [v0, v1, v2, zi x] st σ Q ↔ V X call mL_law 521 [v0, v1, v2, zi x] (zi x :: st) σ Q := W_iload_n (j := 3) dL_law_520 rfl rfl rfl
theorem e_L_law_521 : V X call mL_law 521 [v0, v1, v2, v3] st σ Q ↔ V X call mL_law 522 [v0, v1, v2, v3] (zi (3) :: st) σ Q := V_iconst dL_law_521 (by decide) rfl
theorem e_L_law_522 : V X call mL_law 522 [v0, v1, v2, v3] (zi y :: zi x :: st) σ Q ↔ V X call mL_law 523 [v0, v1, v2, v3] (zi (zw3 (x + y)) :: st) σ Q := V_iadd dL_law_522 rfl
theorem e_L_law_523 : V X call mL_law 523 [v0, v1, v2, v3] (zi j :: zr (some a) :: st) (c, s, I, L, R) Q ↔ ((zT a).1 = 1 ∧ 0 ≤ j ∧ j < ((zT a).2 : Int)) ∧ V X call mL_law 524 [v0, v1, v2, v3] (zi (I a j.toNat) :: st) (c, s, I, L, R) Q := V_iaload dL_law_523 rfl
theorem e_L_law_523x : V X call mL_law 523 [v0, v1, v2, v3] (zi j :: zx 1 :: st) (c, s, I, L, R) Q ↔ (0 ≤ j ∧ j < (X.1 : Int)) ∧ V X call mL_law 524 [v0, v1, v2, v3] (zi (X.2 j.toNat) :: st) (c, s, I, L, R) Q := V_saload dL_law_523 rfl
theorem e_L_law_524 : V X call mL_law 524 [v0, v1, v2, v3] (a3 :: a2 :: a1 :: zr (some a) :: st) σ Q ↔ (zT a).1 = 22 ∧ zcats st ≤ 8 ∧ zcll (call 161 [zr (some a), a1, a2, a3] σ) (fun r τ => (σ.1 ≤ τ.1 ∧ σ.2.1 ≤ τ.2.1) ∧ V X call mL_law 527 [v0, v1, v2, v3] (zpush r st) τ Q) := V_iv3 dL_law_524 lm_13_69 zm_161 (by decide) rfl
theorem e_L_law_527 : V X call mL_law 527 [v0, v1, v2, v3] (zi y :: zi x :: st) σ Q ↔ (if x = y then V X call mL_law 888 [v0, v1, v2, v3] st σ Q else V X call mL_law 530 [v0, v1, v2, v3] st σ Q) := V_ic_eq dL_law_527 rfl rfl
theorem e_L_law_530 : V X call mL_law 530 [v0, v1, v2, v3] st σ Q ↔ V X call mL_law 531 [v0, v1, v2, v3] (zi (0) :: st) σ Q := V_iconst dL_law_530 (by decide) rfl
theorem e_L_law_531 : V X call mL_law 531 [v0, v1, v2, v3] [zi x] σ Q ↔ zok 2 x = true ∧ Q (some (zi x), σ) := V_iret dL_law_531 rfl (by decide)
theorem e_L_law_532 : V X call mL_law 532 [v0, zr u, v2, v3] st σ Q ↔ V X call mL_law 533 [v0, zr u, v2, v3] (zr u :: st) σ Q := W_aload_n (j := 1) dL_law_532 rfl rfl rfl
theorem e_L_law_532x : V X call mL_law 532 [v0, zx (e + 1), v2, v3] st σ Q ↔ V X call mL_law 533 [v0, zx (e + 1), v2, v3] (zx (e + 1) :: st) σ Q := W_aloadx_n (j := 1) dL_law_532 rfl rfl rfl
theorem e_L_law_533 : V X call mL_law 533 [zr u, v1, v2, v3] st σ Q ↔ V X call mL_law 534 [zr u, v1, v2, v3] (zr u :: st) σ Q := W_aload_n (j := 0) dL_law_533 rfl rfl rfl
theorem e_L_law_533x : V X call mL_law 533 [zx (e + 1), v1, v2, v3] st σ Q ↔ V X call mL_law 534 [zx (e + 1), v1, v2, v3] (zx (e + 1) :: st) σ Q := W_aloadx_n (j := 0) dL_law_533 rfl rfl rfl
theorem e_L_law_534 : V X call mL_law 534 [v0, v1, v2, zi x] st σ Q ↔ V X call mL_law 535 [v0, v1, v2, zi x] (zi x :: st) σ Q := W_iload_n (j := 3) dL_law_534 rfl rfl rfl
theorem e_L_law_535 : V X call mL_law 535 [v0, v1, v2, v3] st σ Q ↔ V X call mL_law 536 [v0, v1, v2, v3] (zi (1) :: st) σ Q := V_iconst dL_law_535 (by decide) rfl
theorem e_L_law_536 : V X call mL_law 536 [v0, v1, v2, v3] (zi y :: zi x :: st) σ Q ↔ V X call mL_law 537 [v0, v1, v2, v3] (zi (zw3 (x + y)) :: st) σ Q := V_iadd dL_law_536 rfl
theorem e_L_law_537 : V X call mL_law 537 [v0, v1, v2, v3] (zi j :: zr (some a) :: st) (c, s, I, L, R) Q ↔ ((zT a).1 = 1 ∧ 0 ≤ j ∧ j < ((zT a).2 : Int)) ∧ V X call mL_law 538 [v0, v1, v2, v3] (zi (I a j.toNat) :: st) (c, s, I, L, R) Q := V_iaload dL_law_537 rfl
theorem e_L_law_537x : V X call mL_law 537 [v0, v1, v2, v3] (zi j :: zx 1 :: st) (c, s, I, L, R) Q ↔ (0 ≤ j ∧ j < (X.1 : Int)) ∧ V X call mL_law 538 [v0, v1, v2, v3] (zi (X.2 j.toNat) :: st) (c, s, I, L, R) Q := V_saload dL_law_537 rfl
theorem e_L_law_538 : V X call mL_law 538 [v0, v1, v2, v3] (a1 :: zr (some a) :: st) σ Q ↔ (zT a).1 = 21 ∧ zcats st ≤ 8 ∧ zcll (call 97 [zr (some a), a1] σ) (fun r τ => (σ.1 ≤ τ.1 ∧ σ.2.1 ≤ τ.2.1) ∧ V X call mL_law 541 [v0, v1, v2, v3] (zpush r st) τ Q) := V_iv1 dL_law_538 lm_13_70 zm_97 (by decide) rfl
theorem e_L_law_541 : V X call mL_law 541 [v0, v1, zr u, v3] st σ Q ↔ V X call mL_law 542 [v0, v1, zr u, v3] (zr u :: st) σ Q := W_aload_n (j := 2) dL_law_541 rfl rfl rfl
theorem e_L_law_541x : V X call mL_law 541 [v0, v1, zx (e + 1), v3] st σ Q ↔ V X call mL_law 542 [v0, v1, zx (e + 1), v3] (zx (e + 1) :: st) σ Q := W_aloadx_n (j := 2) dL_law_541 rfl rfl rfl
theorem e_L_law_542 : V X call mL_law 542 [zr u, v1, v2, v3] st σ Q ↔ V X call mL_law 543 [zr u, v1, v2, v3] (zr u :: st) σ Q := W_aload_n (j := 0) dL_law_542 rfl rfl rfl
theorem e_L_law_542x : V X call mL_law 542 [zx (e + 1), v1, v2, v3] st σ Q ↔ V X call mL_law 543 [zx (e + 1), v1, v2, v3] (zx (e + 1) :: st) σ Q := W_aloadx_n (j := 0) dL_law_542 rfl rfl rfl
theorem e_L_law_543 : V X call mL_law 543 [v0, v1, v2, zi x] st σ Q ↔ V X call mL_law 544 [v0, v1, v2, zi x] (zi x :: st) σ Q := W_iload_n (j := 3) dL_law_543 rfl rfl rfl
theorem e_L_law_544 : V X call mL_law 544 [v0, v1, v2, v3] st σ Q ↔ V X call mL_law 545 [v0, v1, v2, v3] (zi (1) :: st) σ Q := V_iconst dL_law_544 (by decide) rfl
theorem e_L_law_545 : V X call mL_law 545 [v0, v1, v2, v3] (zi y :: zi x :: st) σ Q ↔ V X call mL_law 546 [v0, v1, v2, v3] (zi (zw3 (x + y)) :: st) σ Q := V_iadd dL_law_545 rfl
theorem e_L_law_546 : V X call mL_law 546 [v0, v1, v2, v3] (zi j :: zr (some a) :: st) (c, s, I, L, R) Q ↔ ((zT a).1 = 1 ∧ 0 ≤ j ∧ j < ((zT a).2 : Int)) ∧ V X call mL_law 547 [v0, v1, v2, v3] (zi (I a j.toNat) :: st) (c, s, I, L, R) Q := V_iaload dL_law_546 rfl
theorem e_L_law_546x : V X call mL_law 546 [v0, v1, v2, v3] (zi j :: zx 1 :: st) (c, s, I, L, R) Q ↔ (0 ≤ j ∧ j < (X.1 : Int)) ∧ V X call mL_law 547 [v0, v1, v2, v3] (zi (X.2 j.toNat) :: st) (c, s, I, L, R) Q := V_saload dL_law_546 rfl
theorem e_L_law_547 : V X call mL_law 547 [v0, v1, v2, v3] (a1 :: zr (some a) :: st) σ Q ↔ (zT a).1 = 22 ∧ zcats st ≤ 8 ∧ zcll (call 162 [zr (some a), a1] σ) (fun r τ => (σ.1 ≤ τ.1 ∧ σ.2.1 ≤ τ.2.1) ∧ V X call mL_law 550 [v0, v1, v2, v3] (zpush r st) τ Q) := V_iv1 dL_law_547 lm_13_73 zm_162 (by decide) rfl
theorem e_L_law_550 : V X call mL_law 550 [v0, v1, v2, v3] (zi y :: zi x :: st) σ Q ↔ (if x = y then V X call mL_law 888 [v0, v1, v2, v3] st σ Q else V X call mL_law 553 [v0, v1, v2, v3] st σ Q) := V_ic_eq dL_law_550 rfl rfl
theorem e_L_law_553 : V X call mL_law 553 [v0, v1, v2, v3] st σ Q ↔ V X call mL_law 554 [v0, v1, v2, v3] (zi (0) :: st) σ Q := V_iconst dL_law_553 (by decide) rfl
theorem e_L_law_554 : V X call mL_law 554 [v0, v1, v2, v3] [zi x] σ Q ↔ zok 2 x = true ∧ Q (some (zi x), σ) := V_iret dL_law_554 rfl (by decide)
theorem e_L_law_555 : V X call mL_law 555 [v0, zr u, v2, v3] st σ Q ↔ V X call mL_law 556 [v0, zr u, v2, v3] (zr u :: st) σ Q := W_aload_n (j := 1) dL_law_555 rfl rfl rfl
theorem e_L_law_555x : V X call mL_law 555 [v0, zx (e + 1), v2, v3] st σ Q ↔ V X call mL_law 556 [v0, zx (e + 1), v2, v3] (zx (e + 1) :: st) σ Q := W_aloadx_n (j := 1) dL_law_555 rfl rfl rfl
theorem e_L_law_556 : V X call mL_law 556 [zr u, v1, v2, v3] st σ Q ↔ V X call mL_law 557 [zr u, v1, v2, v3] (zr u :: st) σ Q := W_aload_n (j := 0) dL_law_556 rfl rfl rfl
theorem e_L_law_556x : V X call mL_law 556 [zx (e + 1), v1, v2, v3] st σ Q ↔ V X call mL_law 557 [zx (e + 1), v1, v2, v3] (zx (e + 1) :: st) σ Q := W_aloadx_n (j := 0) dL_law_556 rfl rfl rfl
theorem e_L_law_557 : V X call mL_law 557 [v0, v1, v2, zi x] st σ Q ↔ V X call mL_law 558 [v0, v1, v2, zi x] (zi x :: st) σ Q := W_iload_n (j := 3) dL_law_557 rfl rfl rfl
theorem e_L_law_558 : V X call mL_law 558 [v0, v1, v2, v3] st σ Q ↔ V X call mL_law 559 [v0, v1, v2, v3] (zi (1) :: st) σ Q := V_iconst dL_law_558 (by decide) rfl
theorem e_L_law_559 : V X call mL_law 559 [v0, v1, v2, v3] (zi y :: zi x :: st) σ Q ↔ V X call mL_law 560 [v0, v1, v2, v3] (zi (zw3 (x + y)) :: st) σ Q := V_iadd dL_law_559 rfl
theorem e_L_law_560 : V X call mL_law 560 [v0, v1, v2, v3] (zi j :: zr (some a) :: st) (c, s, I, L, R) Q ↔ ((zT a).1 = 1 ∧ 0 ≤ j ∧ j < ((zT a).2 : Int)) ∧ V X call mL_law 561 [v0, v1, v2, v3] (zi (I a j.toNat) :: st) (c, s, I, L, R) Q := V_iaload dL_law_560 rfl
theorem e_L_law_560x : V X call mL_law 560 [v0, v1, v2, v3] (zi j :: zx 1 :: st) (c, s, I, L, R) Q ↔ (0 ≤ j ∧ j < (X.1 : Int)) ∧ V X call mL_law 561 [v0, v1, v2, v3] (zi (X.2 j.toNat) :: st) (c, s, I, L, R) Q := V_saload dL_law_560 rfl
theorem e_L_law_561 : V X call mL_law 561 [zr u, v1, v2, v3] st σ Q ↔ V X call mL_law 562 [zr u, v1, v2, v3] (zr u :: st) σ Q := W_aload_n (j := 0) dL_law_561 rfl rfl rfl
theorem e_L_law_561x : V X call mL_law 561 [zx (e + 1), v1, v2, v3] st σ Q ↔ V X call mL_law 562 [zx (e + 1), v1, v2, v3] (zx (e + 1) :: st) σ Q := W_aloadx_n (j := 0) dL_law_561 rfl rfl rfl
theorem e_L_law_562 : V X call mL_law 562 [v0, v1, v2, zi x] st σ Q ↔ V X call mL_law 563 [v0, v1, v2, zi x] (zi x :: st) σ Q := W_iload_n (j := 3) dL_law_562 rfl rfl rfl
theorem e_L_law_563 : V X call mL_law 563 [v0, v1, v2, v3] st σ Q ↔ V X call mL_law 564 [v0, v1, v2, v3] (zi (2) :: st) σ Q := V_iconst dL_law_563 (by decide) rfl
theorem e_L_law_564 : V X call mL_law 564 [v0, v1, v2, v3] (zi y :: zi x :: st) σ Q ↔ V X call mL_law 565 [v0, v1, v2, v3] (zi (zw3 (x + y)) :: st) σ Q := V_iadd dL_law_564 rfl
theorem e_L_law_565 : V X call mL_law 565 [v0, v1, v2, v3] (zi j :: zr (some a) :: st) (c, s, I, L, R) Q ↔ ((zT a).1 = 1 ∧ 0 ≤ j ∧ j < ((zT a).2 : Int)) ∧ V X call mL_law 566 [v0, v1, v2, v3] (zi (I a j.toNat) :: st) (c, s, I, L, R) Q := V_iaload dL_law_565 rfl
theorem e_L_law_565x : V X call mL_law 565 [v0, v1, v2, v3] (zi j :: zx 1 :: st) (c, s, I, L, R) Q ↔ (0 ≤ j ∧ j < (X.1 : Int)) ∧ V X call mL_law 566 [v0, v1, v2, v3] (zi (X.2 j.toNat) :: st) (c, s, I, L, R) Q := V_saload dL_law_565 rfl
theorem e_L_law_566 : V X call mL_law 566 [zr u, v1, v2, v3] st σ Q ↔ V X call mL_law 567 [zr u, v1, v2, v3] (zr u :: st) σ Q := W_aload_n (j := 0) dL_law_566 rfl rfl rfl
theorem e_L_law_566x : V X call mL_law 566 [zx (e + 1), v1, v2, v3] st σ Q ↔ V X call mL_law 567 [zx (e + 1), v1, v2, v3] (zx (e + 1) :: st) σ Q := W_aloadx_n (j := 0) dL_law_566 rfl rfl rfl
theorem e_L_law_567 : V X call mL_law 567 [v0, v1, v2, zi x] st σ Q ↔ V X call mL_law 568 [v0, v1, v2, zi x] (zi x :: st) σ Q := W_iload_n (j := 3) dL_law_567 rfl rfl rfl
theorem e_L_law_568 : V X call mL_law 568 [v0, v1, v2, v3] st σ Q ↔ V X call mL_law 569 [v0, v1, v2, v3] (zi (3) :: st) σ Q := V_iconst dL_law_568 (by decide) rfl
theorem e_L_law_569 : V X call mL_law 569 [v0, v1, v2, v3] (zi y :: zi x :: st) σ Q ↔ V X call mL_law 570 [v0, v1, v2, v3] (zi (zw3 (x + y)) :: st) σ Q := V_iadd dL_law_569 rfl
theorem e_L_law_570 : V X call mL_law 570 [v0, v1, v2, v3] (zi j :: zr (some a) :: st) (c, s, I, L, R) Q ↔ ((zT a).1 = 1 ∧ 0 ≤ j ∧ j < ((zT a).2 : Int)) ∧ V X call mL_law 571 [v0, v1, v2, v3] (zi (I a j.toNat) :: st) (c, s, I, L, R) Q := V_iaload dL_law_570 rfl
theorem e_L_law_570x : V X call mL_law 570 [v0, v1, v2, v3] (zi j :: zx 1 :: st) (c, s, I, L, R) Q ↔ (0 ≤ j ∧ j < (X.1 : Int)) ∧ V X call mL_law 571 [v0, v1, v2, v3] (zi (X.2 j.toNat) :: st) (c, s, I, L, R) Q := V_saload dL_law_570 rfl
theorem e_L_law_571 : V X call mL_law 571 [zr u, v1, v2, v3] st σ Q ↔ V X call mL_law 572 [zr u, v1, v2, v3] (zr u :: st) σ Q := W_aload_n (j := 0) dL_law_571 rfl rfl rfl
theorem e_L_law_571x : V X call mL_law 571 [zx (e + 1), v1, v2, v3] st σ Q ↔ V X call mL_law 572 [zx (e + 1), v1, v2, v3] (zx (e + 1) :: st) σ Q := W_aloadx_n (j := 0) dL_law_571 rfl rfl rfl
theorem e_L_law_572 : V X call mL_law 572 [v0, v1, v2, zi x] st σ Q ↔ V X call mL_law 573 [v0, v1, v2, zi x] (zi x :: st) σ Q := W_iload_n (j := 3) dL_law_572 rfl rfl rfl
theorem e_L_law_573 : V X call mL_law 573 [v0, v1, v2, v3] st σ Q ↔ V X call mL_law 574 [v0, v1, v2, v3] (zi (4) :: st) σ Q := V_iconst dL_law_573 (by decide) rfl
theorem e_L_law_574 : V X call mL_law 574 [v0, v1, v2, v3] (zi y :: zi x :: st) σ Q ↔ V X call mL_law 575 [v0, v1, v2, v3] (zi (zw3 (x + y)) :: st) σ Q := V_iadd dL_law_574 rfl
theorem e_L_law_575 : V X call mL_law 575 [v0, v1, v2, v3] (zi j :: zr (some a) :: st) (c, s, I, L, R) Q ↔ ((zT a).1 = 1 ∧ 0 ≤ j ∧ j < ((zT a).2 : Int)) ∧ V X call mL_law 576 [v0, v1, v2, v3] (zi (I a j.toNat) :: st) (c, s, I, L, R) Q := V_iaload dL_law_575 rfl
theorem e_L_law_575x : V X call mL_law 575 [v0, v1, v2, v3] (zi j :: zx 1 :: st) (c, s, I, L, R) Q ↔ (0 ≤ j ∧ j < (X.1 : Int)) ∧ V X call mL_law 576 [v0, v1, v2, v3] (zi (X.2 j.toNat) :: st) (c, s, I, L, R) Q := V_saload dL_law_575 rfl
theorem e_L_law_576 : V X call mL_law 576 [zr u, v1, v2, v3] st σ Q ↔ V X call mL_law 577 [zr u, v1, v2, v3] (zr u :: st) σ Q := W_aload_n (j := 0) dL_law_576 rfl rfl rfl
theorem e_L_law_576x : V X call mL_law 576 [zx (e + 1), v1, v2, v3] st σ Q ↔ V X call mL_law 577 [zx (e + 1), v1, v2, v3] (zx (e + 1) :: st) σ Q := W_aloadx_n (j := 0) dL_law_576 rfl rfl rfl
theorem e_L_law_577 : V X call mL_law 577 [v0, v1, v2, zi x] st σ Q ↔ V X call mL_law 578 [v0, v1, v2, zi x] (zi x :: st) σ Q := W_iload_n (j := 3) dL_law_577 rfl rfl rfl
theorem e_L_law_578 : V X call mL_law 578 [v0, v1, v2, v3] st σ Q ↔ V X call mL_law 579 [v0, v1, v2, v3] (zi (5) :: st) σ Q := V_iconst dL_law_578 (by decide) rfl
theorem e_L_law_579 : V X call mL_law 579 [v0, v1, v2, v3] (zi y :: zi x :: st) σ Q ↔ V X call mL_law 580 [v0, v1, v2, v3] (zi (zw3 (x + y)) :: st) σ Q := V_iadd dL_law_579 rfl
theorem e_L_law_580 : V X call mL_law 580 [v0, v1, v2, v3] (zi j :: zr (some a) :: st) (c, s, I, L, R) Q ↔ ((zT a).1 = 1 ∧ 0 ≤ j ∧ j < ((zT a).2 : Int)) ∧ V X call mL_law 581 [v0, v1, v2, v3] (zi (I a j.toNat) :: st) (c, s, I, L, R) Q := V_iaload dL_law_580 rfl
theorem e_L_law_580x : V X call mL_law 580 [v0, v1, v2, v3] (zi j :: zx 1 :: st) (c, s, I, L, R) Q ↔ (0 ≤ j ∧ j < (X.1 : Int)) ∧ V X call mL_law 581 [v0, v1, v2, v3] (zi (X.2 j.toNat) :: st) (c, s, I, L, R) Q := V_saload dL_law_580 rfl
theorem e_L_law_581 : V X call mL_law 581 [v0, v1, v2, v3] (a5 :: a4 :: a3 :: a2 :: a1 :: zr (some a) :: st) σ Q ↔ (zT a).1 = 21 ∧ zcats st ≤ 8 ∧ zcll (call 98 [zr (some a), a1, a2, a3, a4, a5] σ) (fun r τ => (σ.1 ≤ τ.1 ∧ σ.2.1 ≤ τ.2.1) ∧ V X call mL_law 584 [v0, v1, v2, v3] (zpush r st) τ Q) := V_iv5 dL_law_581 lm_13_74 zm_98 (by decide) rfl
theorem e_L_law_584 : V X call mL_law 584 [v0, v1, zr u, v3] st σ Q ↔ V X call mL_law 585 [v0, v1, zr u, v3] (zr u :: st) σ Q := W_aload_n (j := 2) dL_law_584 rfl rfl rfl
theorem e_L_law_584x : V X call mL_law 584 [v0, v1, zx (e + 1), v3] st σ Q ↔ V X call mL_law 585 [v0, v1, zx (e + 1), v3] (zx (e + 1) :: st) σ Q := W_aloadx_n (j := 2) dL_law_584 rfl rfl rfl
theorem e_L_law_585 : V X call mL_law 585 [zr u, v1, v2, v3] st σ Q ↔ V X call mL_law 586 [zr u, v1, v2, v3] (zr u :: st) σ Q := W_aload_n (j := 0) dL_law_585 rfl rfl rfl
theorem e_L_law_585x : V X call mL_law 585 [zx (e + 1), v1, v2, v3] st σ Q ↔ V X call mL_law 586 [zx (e + 1), v1, v2, v3] (zx (e + 1) :: st) σ Q := W_aloadx_n (j := 0) dL_law_585 rfl rfl rfl
theorem e_L_law_586 : V X call mL_law 586 [v0, v1, v2, zi x] st σ Q ↔ V X call mL_law 587 [v0, v1, v2, zi x] (zi x :: st) σ Q := W_iload_n (j := 3) dL_law_586 rfl rfl rfl
theorem e_L_law_587 : V X call mL_law 587 [v0, v1, v2, v3] st σ Q ↔ V X call mL_law 588 [v0, v1, v2, v3] (zi (1) :: st) σ Q := V_iconst dL_law_587 (by decide) rfl
theorem e_L_law_588 : V X call mL_law 588 [v0, v1, v2, v3] (zi y :: zi x :: st) σ Q ↔ V X call mL_law 589 [v0, v1, v2, v3] (zi (zw3 (x + y)) :: st) σ Q := V_iadd dL_law_588 rfl
theorem e_L_law_589 : V X call mL_law 589 [v0, v1, v2, v3] (zi j :: zr (some a) :: st) (c, s, I, L, R) Q ↔ ((zT a).1 = 1 ∧ 0 ≤ j ∧ j < ((zT a).2 : Int)) ∧ V X call mL_law 590 [v0, v1, v2, v3] (zi (I a j.toNat) :: st) (c, s, I, L, R) Q := V_iaload dL_law_589 rfl
theorem e_L_law_589x : V X call mL_law 589 [v0, v1, v2, v3] (zi j :: zx 1 :: st) (c, s, I, L, R) Q ↔ (0 ≤ j ∧ j < (X.1 : Int)) ∧ V X call mL_law 590 [v0, v1, v2, v3] (zi (X.2 j.toNat) :: st) (c, s, I, L, R) Q := V_saload dL_law_589 rfl
theorem e_L_law_590 : V X call mL_law 590 [zr u, v1, v2, v3] st σ Q ↔ V X call mL_law 591 [zr u, v1, v2, v3] (zr u :: st) σ Q := W_aload_n (j := 0) dL_law_590 rfl rfl rfl
theorem e_L_law_590x : V X call mL_law 590 [zx (e + 1), v1, v2, v3] st σ Q ↔ V X call mL_law 591 [zx (e + 1), v1, v2, v3] (zx (e + 1) :: st) σ Q := W_aloadx_n (j := 0) dL_law_590 rfl rfl rfl
theorem e_L_law_591 : V X call mL_law 591 [v0, v1, v2, zi x] st σ Q ↔ V X call mL_law 592 [v0, v1, v2, zi x] (zi x :: st) σ Q := W_iload_n (j := 3) dL_law_591 rfl rfl rfl
theorem e_L_law_592 : V X call mL_law 592 [v0, v1, v2, v3] st σ Q ↔ V X call mL_law 593 [v0, v1, v2, v3] (zi (2) :: st) σ Q := V_iconst dL_law_592 (by decide) rfl
theorem e_L_law_593 : V X call mL_law 593 [v0, v1, v2, v3] (zi y :: zi x :: st) σ Q ↔ V X call mL_law 594 [v0, v1, v2, v3] (zi (zw3 (x + y)) :: st) σ Q := V_iadd dL_law_593 rfl
theorem e_L_law_594 : V X call mL_law 594 [v0, v1, v2, v3] (zi j :: zr (some a) :: st) (c, s, I, L, R) Q ↔ ((zT a).1 = 1 ∧ 0 ≤ j ∧ j < ((zT a).2 : Int)) ∧ V X call mL_law 595 [v0, v1, v2, v3] (zi (I a j.toNat) :: st) (c, s, I, L, R) Q := V_iaload dL_law_594 rfl
theorem e_L_law_594x : V X call mL_law 594 [v0, v1, v2, v3] (zi j :: zx 1 :: st) (c, s, I, L, R) Q ↔ (0 ≤ j ∧ j < (X.1 : Int)) ∧ V X call mL_law 595 [v0, v1, v2, v3] (zi (X.2 j.toNat) :: st) (c, s, I, L, R) Q := V_saload dL_law_594 rfl
theorem e_L_law_595 : V X call mL_law 595 [zr u, v1, v2, v3] st σ Q ↔ V X call mL_law 596 [zr u, v1, v2, v3] (zr u :: st) σ Q := W_aload_n (j := 0) dL_law_595 rfl rfl rfl
theorem e_L_law_595x : V X call mL_law 595 [zx (e + 1), v1, v2, v3] st σ Q ↔ V X call mL_law 596 [zx (e + 1), v1, v2, v3] (zx (e + 1) :: st) σ Q := W_aloadx_n (j := 0) dL_law_595 rfl rfl rfl
theorem e_L_law_596 : V X call mL_law 596 [v0, v1, v2, zi x] st σ Q ↔ V X call mL_law 597 [v0, v1, v2, zi x] (zi x :: st) σ Q := W_iload_n (j := 3) dL_law_596 rfl rfl rfl
theorem e_L_law_597 : V X call mL_law 597 [v0, v1, v2, v3] st σ Q ↔ V X call mL_law 598 [v0, v1, v2, v3] (zi (3) :: st) σ Q := V_iconst dL_law_597 (by decide) rfl
theorem e_L_law_598 : V X call mL_law 598 [v0, v1, v2, v3] (zi y :: zi x :: st) σ Q ↔ V X call mL_law 599 [v0, v1, v2, v3] (zi (zw3 (x + y)) :: st) σ Q := V_iadd dL_law_598 rfl
theorem e_L_law_599 : V X call mL_law 599 [v0, v1, v2, v3] (zi j :: zr (some a) :: st) (c, s, I, L, R) Q ↔ ((zT a).1 = 1 ∧ 0 ≤ j ∧ j < ((zT a).2 : Int)) ∧ V X call mL_law 600 [v0, v1, v2, v3] (zi (I a j.toNat) :: st) (c, s, I, L, R) Q := V_iaload dL_law_599 rfl
theorem e_L_law_599x : V X call mL_law 599 [v0, v1, v2, v3] (zi j :: zx 1 :: st) (c, s, I, L, R) Q ↔ (0 ≤ j ∧ j < (X.1 : Int)) ∧ V X call mL_law 600 [v0, v1, v2, v3] (zi (X.2 j.toNat) :: st) (c, s, I, L, R) Q := V_saload dL_law_599 rfl
theorem e_L_law_600 : V X call mL_law 600 [zr u, v1, v2, v3] st σ Q ↔ V X call mL_law 601 [zr u, v1, v2, v3] (zr u :: st) σ Q := W_aload_n (j := 0) dL_law_600 rfl rfl rfl
theorem e_L_law_600x : V X call mL_law 600 [zx (e + 1), v1, v2, v3] st σ Q ↔ V X call mL_law 601 [zx (e + 1), v1, v2, v3] (zx (e + 1) :: st) σ Q := W_aloadx_n (j := 0) dL_law_600 rfl rfl rfl
theorem e_L_law_601 : V X call mL_law 601 [v0, v1, v2, zi x] st σ Q ↔ V X call mL_law 602 [v0, v1, v2, zi x] (zi x :: st) σ Q := W_iload_n (j := 3) dL_law_601 rfl rfl rfl
theorem e_L_law_602 : V X call mL_law 602 [v0, v1, v2, v3] st σ Q ↔ V X call mL_law 603 [v0, v1, v2, v3] (zi (4) :: st) σ Q := V_iconst dL_law_602 (by decide) rfl
theorem e_L_law_603 : V X call mL_law 603 [v0, v1, v2, v3] (zi y :: zi x :: st) σ Q ↔ V X call mL_law 604 [v0, v1, v2, v3] (zi (zw3 (x + y)) :: st) σ Q := V_iadd dL_law_603 rfl
theorem e_L_law_604 : V X call mL_law 604 [v0, v1, v2, v3] (zi j :: zr (some a) :: st) (c, s, I, L, R) Q ↔ ((zT a).1 = 1 ∧ 0 ≤ j ∧ j < ((zT a).2 : Int)) ∧ V X call mL_law 605 [v0, v1, v2, v3] (zi (I a j.toNat) :: st) (c, s, I, L, R) Q := V_iaload dL_law_604 rfl
theorem e_L_law_604x : V X call mL_law 604 [v0, v1, v2, v3] (zi j :: zx 1 :: st) (c, s, I, L, R) Q ↔ (0 ≤ j ∧ j < (X.1 : Int)) ∧ V X call mL_law 605 [v0, v1, v2, v3] (zi (X.2 j.toNat) :: st) (c, s, I, L, R) Q := V_saload dL_law_604 rfl
theorem e_L_law_605 : V X call mL_law 605 [zr u, v1, v2, v3] st σ Q ↔ V X call mL_law 606 [zr u, v1, v2, v3] (zr u :: st) σ Q := W_aload_n (j := 0) dL_law_605 rfl rfl rfl
theorem e_L_law_605x : V X call mL_law 605 [zx (e + 1), v1, v2, v3] st σ Q ↔ V X call mL_law 606 [zx (e + 1), v1, v2, v3] (zx (e + 1) :: st) σ Q := W_aloadx_n (j := 0) dL_law_605 rfl rfl rfl
theorem e_L_law_606 : V X call mL_law 606 [v0, v1, v2, zi x] st σ Q ↔ V X call mL_law 607 [v0, v1, v2, zi x] (zi x :: st) σ Q := W_iload_n (j := 3) dL_law_606 rfl rfl rfl
theorem e_L_law_607 : V X call mL_law 607 [v0, v1, v2, v3] st σ Q ↔ V X call mL_law 608 [v0, v1, v2, v3] (zi (5) :: st) σ Q := V_iconst dL_law_607 (by decide) rfl
theorem e_L_law_608 : V X call mL_law 608 [v0, v1, v2, v3] (zi y :: zi x :: st) σ Q ↔ V X call mL_law 609 [v0, v1, v2, v3] (zi (zw3 (x + y)) :: st) σ Q := V_iadd dL_law_608 rfl
theorem e_L_law_609 : V X call mL_law 609 [v0, v1, v2, v3] (zi j :: zr (some a) :: st) (c, s, I, L, R) Q ↔ ((zT a).1 = 1 ∧ 0 ≤ j ∧ j < ((zT a).2 : Int)) ∧ V X call mL_law 610 [v0, v1, v2, v3] (zi (I a j.toNat) :: st) (c, s, I, L, R) Q := V_iaload dL_law_609 rfl
theorem e_L_law_609x : V X call mL_law 609 [v0, v1, v2, v3] (zi j :: zx 1 :: st) (c, s, I, L, R) Q ↔ (0 ≤ j ∧ j < (X.1 : Int)) ∧ V X call mL_law 610 [v0, v1, v2, v3] (zi (X.2 j.toNat) :: st) (c, s, I, L, R) Q := V_saload dL_law_609 rfl
theorem e_L_law_610 : V X call mL_law 610 [v0, v1, v2, v3] (a5 :: a4 :: a3 :: a2 :: a1 :: zr (some a) :: st) σ Q ↔ (zT a).1 = 22 ∧ zcats st ≤ 8 ∧ zcll (call 163 [zr (some a), a1, a2, a3, a4, a5] σ) (fun r τ => (σ.1 ≤ τ.1 ∧ σ.2.1 ≤ τ.2.1) ∧ V X call mL_law 613 [v0, v1, v2, v3] (zpush r st) τ Q) := V_iv5 dL_law_610 lm_13_78 zm_163 (by decide) rfl
theorem e_L_law_613 : V X call mL_law 613 [v0, v1, v2, v3] (zi y :: zi x :: st) σ Q ↔ (if x = y then V X call mL_law 888 [v0, v1, v2, v3] st σ Q else V X call mL_law 616 [v0, v1, v2, v3] st σ Q) := V_ic_eq dL_law_613 rfl rfl
theorem e_L_law_616 : V X call mL_law 616 [v0, v1, v2, v3] st σ Q ↔ V X call mL_law 617 [v0, v1, v2, v3] (zi (0) :: st) σ Q := V_iconst dL_law_616 (by decide) rfl
theorem e_L_law_617 : V X call mL_law 617 [v0, v1, v2, v3] [zi x] σ Q ↔ zok 2 x = true ∧ Q (some (zi x), σ) := V_iret dL_law_617 rfl (by decide)
theorem e_L_law_618 : V X call mL_law 618 [v0, zr u, v2, v3] st σ Q ↔ V X call mL_law 619 [v0, zr u, v2, v3] (zr u :: st) σ Q := W_aload_n (j := 1) dL_law_618 rfl rfl rfl
theorem e_L_law_618x : V X call mL_law 618 [v0, zx (e + 1), v2, v3] st σ Q ↔ V X call mL_law 619 [v0, zx (e + 1), v2, v3] (zx (e + 1) :: st) σ Q := W_aloadx_n (j := 1) dL_law_618 rfl rfl rfl
theorem e_L_law_619 : V X call mL_law 619 [zr u, v1, v2, v3] st σ Q ↔ V X call mL_law 620 [zr u, v1, v2, v3] (zr u :: st) σ Q := W_aload_n (j := 0) dL_law_619 rfl rfl rfl
theorem e_L_law_619x : V X call mL_law 619 [zx (e + 1), v1, v2, v3] st σ Q ↔ V X call mL_law 620 [zx (e + 1), v1, v2, v3] (zx (e + 1) :: st) σ Q := W_aloadx_n (j := 0) dL_law_619 rfl rfl rfl
theorem e_L_law_620 : V X call mL_law 620 [v0, v1, v2, zi x] st σ Q ↔ V X call mL_law 621 [v0, v1, v2, zi x] (zi x :: st) σ Q := W_iload_n (j := 3) dL_law_620 rfl rfl rfl
theorem e_L_law_621 : V X call mL_law 621 [v0, v1, v2, v3] st σ Q ↔ V X call mL_law 622 [v0, v1, v2, v3] (zi (1) :: st) σ Q := V_iconst dL_law_621 (by decide) rfl
theorem e_L_law_622 : V X call mL_law 622 [v0, v1, v2, v3] (zi y :: zi x :: st) σ Q ↔ V X call mL_law 623 [v0, v1, v2, v3] (zi (zw3 (x + y)) :: st) σ Q := V_iadd dL_law_622 rfl
theorem e_L_law_623 : V X call mL_law 623 [v0, v1, v2, v3] (zi j :: zr (some a) :: st) (c, s, I, L, R) Q ↔ ((zT a).1 = 1 ∧ 0 ≤ j ∧ j < ((zT a).2 : Int)) ∧ V X call mL_law 624 [v0, v1, v2, v3] (zi (I a j.toNat) :: st) (c, s, I, L, R) Q := V_iaload dL_law_623 rfl
theorem e_L_law_623x : V X call mL_law 623 [v0, v1, v2, v3] (zi j :: zx 1 :: st) (c, s, I, L, R) Q ↔ (0 ≤ j ∧ j < (X.1 : Int)) ∧ V X call mL_law 624 [v0, v1, v2, v3] (zi (X.2 j.toNat) :: st) (c, s, I, L, R) Q := V_saload dL_law_623 rfl
theorem e_L_law_624 : V X call mL_law 624 [zr u, v1, v2, v3] st σ Q ↔ V X call mL_law 625 [zr u, v1, v2, v3] (zr u :: st) σ Q := W_aload_n (j := 0) dL_law_624 rfl rfl rfl
theorem e_L_law_624x : V X call mL_law 624 [zx (e + 1), v1, v2, v3] st σ Q ↔ V X call mL_law 625 [zx (e + 1), v1, v2, v3] (zx (e + 1) :: st) σ Q := W_aloadx_n (j := 0) dL_law_624 rfl rfl rfl
theorem e_L_law_625 : V X call mL_law 625 [v0, v1, v2, zi x] st σ Q ↔ V X call mL_law 626 [v0, v1, v2, zi x] (zi x :: st) σ Q := W_iload_n (j := 3) dL_law_625 rfl rfl rfl
theorem e_L_law_626 : V X call mL_law 626 [v0, v1, v2, v3] st σ Q ↔ V X call mL_law 627 [v0, v1, v2, v3] (zi (2) :: st) σ Q := V_iconst dL_law_626 (by decide) rfl
theorem e_L_law_627 : V X call mL_law 627 [v0, v1, v2, v3] (zi y :: zi x :: st) σ Q ↔ V X call mL_law 628 [v0, v1, v2, v3] (zi (zw3 (x + y)) :: st) σ Q := V_iadd dL_law_627 rfl
theorem e_L_law_628 : V X call mL_law 628 [v0, v1, v2, v3] (zi j :: zr (some a) :: st) (c, s, I, L, R) Q ↔ ((zT a).1 = 1 ∧ 0 ≤ j ∧ j < ((zT a).2 : Int)) ∧ V X call mL_law 629 [v0, v1, v2, v3] (zi (I a j.toNat) :: st) (c, s, I, L, R) Q := V_iaload dL_law_628 rfl
theorem e_L_law_628x : V X call mL_law 628 [v0, v1, v2, v3] (zi j :: zx 1 :: st) (c, s, I, L, R) Q ↔ (0 ≤ j ∧ j < (X.1 : Int)) ∧ V X call mL_law 629 [v0, v1, v2, v3] (zi (X.2 j.toNat) :: st) (c, s, I, L, R) Q := V_saload dL_law_628 rfl
theorem e_L_law_629 : V X call mL_law 629 [zr u, v1, v2, v3] st σ Q ↔ V X call mL_law 630 [zr u, v1, v2, v3] (zr u :: st) σ Q := W_aload_n (j := 0) dL_law_629 rfl rfl rfl
theorem e_L_law_629x : V X call mL_law 629 [zx (e + 1), v1, v2, v3] st σ Q ↔ V X call mL_law 630 [zx (e + 1), v1, v2, v3] (zx (e + 1) :: st) σ Q := W_aloadx_n (j := 0) dL_law_629 rfl rfl rfl
theorem e_L_law_630 : V X call mL_law 630 [v0, v1, v2, zi x] st σ Q ↔ V X call mL_law 631 [v0, v1, v2, zi x] (zi x :: st) σ Q := W_iload_n (j := 3) dL_law_630 rfl rfl rfl
theorem e_L_law_631 : V X call mL_law 631 [v0, v1, v2, v3] st σ Q ↔ V X call mL_law 632 [v0, v1, v2, v3] (zi (3) :: st) σ Q := V_iconst dL_law_631 (by decide) rfl
theorem e_L_law_632 : V X call mL_law 632 [v0, v1, v2, v3] (zi y :: zi x :: st) σ Q ↔ V X call mL_law 633 [v0, v1, v2, v3] (zi (zw3 (x + y)) :: st) σ Q := V_iadd dL_law_632 rfl
theorem e_L_law_633 : V X call mL_law 633 [v0, v1, v2, v3] (zi j :: zr (some a) :: st) (c, s, I, L, R) Q ↔ ((zT a).1 = 1 ∧ 0 ≤ j ∧ j < ((zT a).2 : Int)) ∧ V X call mL_law 634 [v0, v1, v2, v3] (zi (I a j.toNat) :: st) (c, s, I, L, R) Q := V_iaload dL_law_633 rfl
theorem e_L_law_633x : V X call mL_law 633 [v0, v1, v2, v3] (zi j :: zx 1 :: st) (c, s, I, L, R) Q ↔ (0 ≤ j ∧ j < (X.1 : Int)) ∧ V X call mL_law 634 [v0, v1, v2, v3] (zi (X.2 j.toNat) :: st) (c, s, I, L, R) Q := V_saload dL_law_633 rfl
theorem e_L_law_634 : V X call mL_law 634 [zr u, v1, v2, v3] st σ Q ↔ V X call mL_law 635 [zr u, v1, v2, v3] (zr u :: st) σ Q := W_aload_n (j := 0) dL_law_634 rfl rfl rfl
theorem e_L_law_634x : V X call mL_law 634 [zx (e + 1), v1, v2, v3] st σ Q ↔ V X call mL_law 635 [zx (e + 1), v1, v2, v3] (zx (e + 1) :: st) σ Q := W_aloadx_n (j := 0) dL_law_634 rfl rfl rfl
theorem e_L_law_635 : V X call mL_law 635 [v0, v1, v2, zi x] st σ Q ↔ V X call mL_law 636 [v0, v1, v2, zi x] (zi x :: st) σ Q := W_iload_n (j := 3) dL_law_635 rfl rfl rfl
theorem e_L_law_636 : V X call mL_law 636 [v0, v1, v2, v3] st σ Q ↔ V X call mL_law 637 [v0, v1, v2, v3] (zi (4) :: st) σ Q := V_iconst dL_law_636 (by decide) rfl
theorem e_L_law_637 : V X call mL_law 637 [v0, v1, v2, v3] (zi y :: zi x :: st) σ Q ↔ V X call mL_law 638 [v0, v1, v2, v3] (zi (zw3 (x + y)) :: st) σ Q := V_iadd dL_law_637 rfl
theorem e_L_law_638 : V X call mL_law 638 [v0, v1, v2, v3] (zi j :: zr (some a) :: st) (c, s, I, L, R) Q ↔ ((zT a).1 = 1 ∧ 0 ≤ j ∧ j < ((zT a).2 : Int)) ∧ V X call mL_law 639 [v0, v1, v2, v3] (zi (I a j.toNat) :: st) (c, s, I, L, R) Q := V_iaload dL_law_638 rfl
theorem e_L_law_638x : V X call mL_law 638 [v0, v1, v2, v3] (zi j :: zx 1 :: st) (c, s, I, L, R) Q ↔ (0 ≤ j ∧ j < (X.1 : Int)) ∧ V X call mL_law 639 [v0, v1, v2, v3] (zi (X.2 j.toNat) :: st) (c, s, I, L, R) Q := V_saload dL_law_638 rfl
theorem e_L_law_639 : V X call mL_law 639 [v0, v1, v2, v3] (a4 :: a3 :: a2 :: a1 :: zr (some a) :: st) σ Q ↔ (zT a).1 = 21 ∧ zcats st ≤ 8 ∧ zcll (call 99 [zr (some a), a1, a2, a3, a4] σ) (fun r τ => (σ.1 ≤ τ.1 ∧ σ.2.1 ≤ τ.2.1) ∧ V X call mL_law 642 [v0, v1, v2, v3] (zpush r st) τ Q) := V_iv4 dL_law_639 lm_13_79 zm_99 (by decide) rfl
theorem e_L_law_642 : V X call mL_law 642 [v0, v1, zr u, v3] st σ Q ↔ V X call mL_law 643 [v0, v1, zr u, v3] (zr u :: st) σ Q := W_aload_n (j := 2) dL_law_642 rfl rfl rfl
theorem e_L_law_642x : V X call mL_law 642 [v0, v1, zx (e + 1), v3] st σ Q ↔ V X call mL_law 643 [v0, v1, zx (e + 1), v3] (zx (e + 1) :: st) σ Q := W_aloadx_n (j := 2) dL_law_642 rfl rfl rfl
theorem e_L_law_643 : V X call mL_law 643 [zr u, v1, v2, v3] st σ Q ↔ V X call mL_law 644 [zr u, v1, v2, v3] (zr u :: st) σ Q := W_aload_n (j := 0) dL_law_643 rfl rfl rfl
theorem e_L_law_643x : V X call mL_law 643 [zx (e + 1), v1, v2, v3] st σ Q ↔ V X call mL_law 644 [zx (e + 1), v1, v2, v3] (zx (e + 1) :: st) σ Q := W_aloadx_n (j := 0) dL_law_643 rfl rfl rfl
theorem e_L_law_644 : V X call mL_law 644 [v0, v1, v2, zi x] st σ Q ↔ V X call mL_law 645 [v0, v1, v2, zi x] (zi x :: st) σ Q := W_iload_n (j := 3) dL_law_644 rfl rfl rfl
theorem e_L_law_645 : V X call mL_law 645 [v0, v1, v2, v3] st σ Q ↔ V X call mL_law 646 [v0, v1, v2, v3] (zi (1) :: st) σ Q := V_iconst dL_law_645 (by decide) rfl
theorem e_L_law_646 : V X call mL_law 646 [v0, v1, v2, v3] (zi y :: zi x :: st) σ Q ↔ V X call mL_law 647 [v0, v1, v2, v3] (zi (zw3 (x + y)) :: st) σ Q := V_iadd dL_law_646 rfl
theorem e_L_law_647 : V X call mL_law 647 [v0, v1, v2, v3] (zi j :: zr (some a) :: st) (c, s, I, L, R) Q ↔ ((zT a).1 = 1 ∧ 0 ≤ j ∧ j < ((zT a).2 : Int)) ∧ V X call mL_law 648 [v0, v1, v2, v3] (zi (I a j.toNat) :: st) (c, s, I, L, R) Q := V_iaload dL_law_647 rfl
theorem e_L_law_647x : V X call mL_law 647 [v0, v1, v2, v3] (zi j :: zx 1 :: st) (c, s, I, L, R) Q ↔ (0 ≤ j ∧ j < (X.1 : Int)) ∧ V X call mL_law 648 [v0, v1, v2, v3] (zi (X.2 j.toNat) :: st) (c, s, I, L, R) Q := V_saload dL_law_647 rfl
theorem e_L_law_648 : V X call mL_law 648 [zr u, v1, v2, v3] st σ Q ↔ V X call mL_law 649 [zr u, v1, v2, v3] (zr u :: st) σ Q := W_aload_n (j := 0) dL_law_648 rfl rfl rfl
theorem e_L_law_648x : V X call mL_law 648 [zx (e + 1), v1, v2, v3] st σ Q ↔ V X call mL_law 649 [zx (e + 1), v1, v2, v3] (zx (e + 1) :: st) σ Q := W_aloadx_n (j := 0) dL_law_648 rfl rfl rfl
theorem e_L_law_649 : V X call mL_law 649 [v0, v1, v2, zi x] st σ Q ↔ V X call mL_law 650 [v0, v1, v2, zi x] (zi x :: st) σ Q := W_iload_n (j := 3) dL_law_649 rfl rfl rfl
theorem e_L_law_650 : V X call mL_law 650 [v0, v1, v2, v3] st σ Q ↔ V X call mL_law 651 [v0, v1, v2, v3] (zi (2) :: st) σ Q := V_iconst dL_law_650 (by decide) rfl
theorem e_L_law_651 : V X call mL_law 651 [v0, v1, v2, v3] (zi y :: zi x :: st) σ Q ↔ V X call mL_law 652 [v0, v1, v2, v3] (zi (zw3 (x + y)) :: st) σ Q := V_iadd dL_law_651 rfl
theorem e_L_law_652 : V X call mL_law 652 [v0, v1, v2, v3] (zi j :: zr (some a) :: st) (c, s, I, L, R) Q ↔ ((zT a).1 = 1 ∧ 0 ≤ j ∧ j < ((zT a).2 : Int)) ∧ V X call mL_law 653 [v0, v1, v2, v3] (zi (I a j.toNat) :: st) (c, s, I, L, R) Q := V_iaload dL_law_652 rfl
theorem e_L_law_652x : V X call mL_law 652 [v0, v1, v2, v3] (zi j :: zx 1 :: st) (c, s, I, L, R) Q ↔ (0 ≤ j ∧ j < (X.1 : Int)) ∧ V X call mL_law 653 [v0, v1, v2, v3] (zi (X.2 j.toNat) :: st) (c, s, I, L, R) Q := V_saload dL_law_652 rfl
theorem e_L_law_653 : V X call mL_law 653 [zr u, v1, v2, v3] st σ Q ↔ V X call mL_law 654 [zr u, v1, v2, v3] (zr u :: st) σ Q := W_aload_n (j := 0) dL_law_653 rfl rfl rfl
theorem e_L_law_653x : V X call mL_law 653 [zx (e + 1), v1, v2, v3] st σ Q ↔ V X call mL_law 654 [zx (e + 1), v1, v2, v3] (zx (e + 1) :: st) σ Q := W_aloadx_n (j := 0) dL_law_653 rfl rfl rfl
theorem e_L_law_654 : V X call mL_law 654 [v0, v1, v2, zi x] st σ Q ↔ V X call mL_law 655 [v0, v1, v2, zi x] (zi x :: st) σ Q := W_iload_n (j := 3) dL_law_654 rfl rfl rfl
theorem e_L_law_655 : V X call mL_law 655 [v0, v1, v2, v3] st σ Q ↔ V X call mL_law 656 [v0, v1, v2, v3] (zi (3) :: st) σ Q := V_iconst dL_law_655 (by decide) rfl
theorem e_L_law_656 : V X call mL_law 656 [v0, v1, v2, v3] (zi y :: zi x :: st) σ Q ↔ V X call mL_law 657 [v0, v1, v2, v3] (zi (zw3 (x + y)) :: st) σ Q := V_iadd dL_law_656 rfl
theorem e_L_law_657 : V X call mL_law 657 [v0, v1, v2, v3] (zi j :: zr (some a) :: st) (c, s, I, L, R) Q ↔ ((zT a).1 = 1 ∧ 0 ≤ j ∧ j < ((zT a).2 : Int)) ∧ V X call mL_law 658 [v0, v1, v2, v3] (zi (I a j.toNat) :: st) (c, s, I, L, R) Q := V_iaload dL_law_657 rfl
theorem e_L_law_657x : V X call mL_law 657 [v0, v1, v2, v3] (zi j :: zx 1 :: st) (c, s, I, L, R) Q ↔ (0 ≤ j ∧ j < (X.1 : Int)) ∧ V X call mL_law 658 [v0, v1, v2, v3] (zi (X.2 j.toNat) :: st) (c, s, I, L, R) Q := V_saload dL_law_657 rfl
theorem e_L_law_658 : V X call mL_law 658 [zr u, v1, v2, v3] st σ Q ↔ V X call mL_law 659 [zr u, v1, v2, v3] (zr u :: st) σ Q := W_aload_n (j := 0) dL_law_658 rfl rfl rfl
theorem e_L_law_658x : V X call mL_law 658 [zx (e + 1), v1, v2, v3] st σ Q ↔ V X call mL_law 659 [zx (e + 1), v1, v2, v3] (zx (e + 1) :: st) σ Q := W_aloadx_n (j := 0) dL_law_658 rfl rfl rfl
theorem e_L_law_659 : V X call mL_law 659 [v0, v1, v2, zi x] st σ Q ↔ V X call mL_law 660 [v0, v1, v2, zi x] (zi x :: st) σ Q := W_iload_n (j := 3) dL_law_659 rfl rfl rfl
theorem e_L_law_660 : V X call mL_law 660 [v0, v1, v2, v3] st σ Q ↔ V X call mL_law 661 [v0, v1, v2, v3] (zi (4) :: st) σ Q := V_iconst dL_law_660 (by decide) rfl
theorem e_L_law_661 : V X call mL_law 661 [v0, v1, v2, v3] (zi y :: zi x :: st) σ Q ↔ V X call mL_law 662 [v0, v1, v2, v3] (zi (zw3 (x + y)) :: st) σ Q := V_iadd dL_law_661 rfl
theorem e_L_law_662 : V X call mL_law 662 [v0, v1, v2, v3] (zi j :: zr (some a) :: st) (c, s, I, L, R) Q ↔ ((zT a).1 = 1 ∧ 0 ≤ j ∧ j < ((zT a).2 : Int)) ∧ V X call mL_law 663 [v0, v1, v2, v3] (zi (I a j.toNat) :: st) (c, s, I, L, R) Q := V_iaload dL_law_662 rfl
theorem e_L_law_662x : V X call mL_law 662 [v0, v1, v2, v3] (zi j :: zx 1 :: st) (c, s, I, L, R) Q ↔ (0 ≤ j ∧ j < (X.1 : Int)) ∧ V X call mL_law 663 [v0, v1, v2, v3] (zi (X.2 j.toNat) :: st) (c, s, I, L, R) Q := V_saload dL_law_662 rfl
theorem e_L_law_663 : V X call mL_law 663 [v0, v1, v2, v3] (a4 :: a3 :: a2 :: a1 :: zr (some a) :: st) σ Q ↔ (zT a).1 = 22 ∧ zcats st ≤ 8 ∧ zcll (call 169 [zr (some a), a1, a2, a3, a4] σ) (fun r τ => (σ.1 ≤ τ.1 ∧ σ.2.1 ≤ τ.2.1) ∧ V X call mL_law 666 [v0, v1, v2, v3] (zpush r st) τ Q) := V_iv4 dL_law_663 lm_13_83 zm_169 (by decide) rfl
theorem e_L_law_666 : V X call mL_law 666 [v0, v1, v2, v3] (zi y :: zi x :: st) σ Q ↔ (if x = y then V X call mL_law 888 [v0, v1, v2, v3] st σ Q else V X call mL_law 669 [v0, v1, v2, v3] st σ Q) := V_ic_eq dL_law_666 rfl rfl
theorem e_L_law_669 : V X call mL_law 669 [v0, v1, v2, v3] st σ Q ↔ V X call mL_law 670 [v0, v1, v2, v3] (zi (0) :: st) σ Q := V_iconst dL_law_669 (by decide) rfl
theorem e_L_law_670 : V X call mL_law 670 [v0, v1, v2, v3] [zi x] σ Q ↔ zok 2 x = true ∧ Q (some (zi x), σ) := V_iret dL_law_670 rfl (by decide)
theorem e_L_law_671 : V X call mL_law 671 [v0, zr u, v2, v3] st σ Q ↔ V X call mL_law 672 [v0, zr u, v2, v3] (zr u :: st) σ Q := W_aload_n (j := 1) dL_law_671 rfl rfl rfl
theorem e_L_law_671x : V X call mL_law 671 [v0, zx (e + 1), v2, v3] st σ Q ↔ V X call mL_law 672 [v0, zx (e + 1), v2, v3] (zx (e + 1) :: st) σ Q := W_aloadx_n (j := 1) dL_law_671 rfl rfl rfl
theorem e_L_law_672 : V X call mL_law 672 [zr u, v1, v2, v3] st σ Q ↔ V X call mL_law 673 [zr u, v1, v2, v3] (zr u :: st) σ Q := W_aload_n (j := 0) dL_law_672 rfl rfl rfl
theorem e_L_law_672x : V X call mL_law 672 [zx (e + 1), v1, v2, v3] st σ Q ↔ V X call mL_law 673 [zx (e + 1), v1, v2, v3] (zx (e + 1) :: st) σ Q := W_aloadx_n (j := 0) dL_law_672 rfl rfl rfl
theorem e_L_law_673 : V X call mL_law 673 [v0, v1, v2, zi x] st σ Q ↔ V X call mL_law 674 [v0, v1, v2, zi x] (zi x :: st) σ Q := W_iload_n (j := 3) dL_law_673 rfl rfl rfl
theorem e_L_law_674 : V X call mL_law 674 [v0, v1, v2, v3] st σ Q ↔ V X call mL_law 675 [v0, v1, v2, v3] (zi (1) :: st) σ Q := V_iconst dL_law_674 (by decide) rfl
theorem e_L_law_675 : V X call mL_law 675 [v0, v1, v2, v3] (zi y :: zi x :: st) σ Q ↔ V X call mL_law 676 [v0, v1, v2, v3] (zi (zw3 (x + y)) :: st) σ Q := V_iadd dL_law_675 rfl
theorem e_L_law_676 : V X call mL_law 676 [v0, v1, v2, v3] (zi j :: zr (some a) :: st) (c, s, I, L, R) Q ↔ ((zT a).1 = 1 ∧ 0 ≤ j ∧ j < ((zT a).2 : Int)) ∧ V X call mL_law 677 [v0, v1, v2, v3] (zi (I a j.toNat) :: st) (c, s, I, L, R) Q := V_iaload dL_law_676 rfl
theorem e_L_law_676x : V X call mL_law 676 [v0, v1, v2, v3] (zi j :: zx 1 :: st) (c, s, I, L, R) Q ↔ (0 ≤ j ∧ j < (X.1 : Int)) ∧ V X call mL_law 677 [v0, v1, v2, v3] (zi (X.2 j.toNat) :: st) (c, s, I, L, R) Q := V_saload dL_law_676 rfl
theorem e_L_law_677 : V X call mL_law 677 [zr u, v1, v2, v3] st σ Q ↔ V X call mL_law 678 [zr u, v1, v2, v3] (zr u :: st) σ Q := W_aload_n (j := 0) dL_law_677 rfl rfl rfl
theorem e_L_law_677x : V X call mL_law 677 [zx (e + 1), v1, v2, v3] st σ Q ↔ V X call mL_law 678 [zx (e + 1), v1, v2, v3] (zx (e + 1) :: st) σ Q := W_aloadx_n (j := 0) dL_law_677 rfl rfl rfl
theorem e_L_law_678 : V X call mL_law 678 [v0, v1, v2, zi x] st σ Q ↔ V X call mL_law 679 [v0, v1, v2, zi x] (zi x :: st) σ Q := W_iload_n (j := 3) dL_law_678 rfl rfl rfl
theorem e_L_law_679 : V X call mL_law 679 [v0, v1, v2, v3] st σ Q ↔ V X call mL_law 680 [v0, v1, v2, v3] (zi (2) :: st) σ Q := V_iconst dL_law_679 (by decide) rfl
theorem e_L_law_680 : V X call mL_law 680 [v0, v1, v2, v3] (zi y :: zi x :: st) σ Q ↔ V X call mL_law 681 [v0, v1, v2, v3] (zi (zw3 (x + y)) :: st) σ Q := V_iadd dL_law_680 rfl
theorem e_L_law_681 : V X call mL_law 681 [v0, v1, v2, v3] (zi j :: zr (some a) :: st) (c, s, I, L, R) Q ↔ ((zT a).1 = 1 ∧ 0 ≤ j ∧ j < ((zT a).2 : Int)) ∧ V X call mL_law 682 [v0, v1, v2, v3] (zi (I a j.toNat) :: st) (c, s, I, L, R) Q := V_iaload dL_law_681 rfl
theorem e_L_law_681x : V X call mL_law 681 [v0, v1, v2, v3] (zi j :: zx 1 :: st) (c, s, I, L, R) Q ↔ (0 ≤ j ∧ j < (X.1 : Int)) ∧ V X call mL_law 682 [v0, v1, v2, v3] (zi (X.2 j.toNat) :: st) (c, s, I, L, R) Q := V_saload dL_law_681 rfl
theorem e_L_law_682 : V X call mL_law 682 [zr u, v1, v2, v3] st σ Q ↔ V X call mL_law 683 [zr u, v1, v2, v3] (zr u :: st) σ Q := W_aload_n (j := 0) dL_law_682 rfl rfl rfl
theorem e_L_law_682x : V X call mL_law 682 [zx (e + 1), v1, v2, v3] st σ Q ↔ V X call mL_law 683 [zx (e + 1), v1, v2, v3] (zx (e + 1) :: st) σ Q := W_aloadx_n (j := 0) dL_law_682 rfl rfl rfl
theorem e_L_law_683 : V X call mL_law 683 [v0, v1, v2, zi x] st σ Q ↔ V X call mL_law 684 [v0, v1, v2, zi x] (zi x :: st) σ Q := W_iload_n (j := 3) dL_law_683 rfl rfl rfl
theorem e_L_law_684 : V X call mL_law 684 [v0, v1, v2, v3] st σ Q ↔ V X call mL_law 685 [v0, v1, v2, v3] (zi (3) :: st) σ Q := V_iconst dL_law_684 (by decide) rfl
theorem e_L_law_685 : V X call mL_law 685 [v0, v1, v2, v3] (zi y :: zi x :: st) σ Q ↔ V X call mL_law 686 [v0, v1, v2, v3] (zi (zw3 (x + y)) :: st) σ Q := V_iadd dL_law_685 rfl
theorem e_L_law_686 : V X call mL_law 686 [v0, v1, v2, v3] (zi j :: zr (some a) :: st) (c, s, I, L, R) Q ↔ ((zT a).1 = 1 ∧ 0 ≤ j ∧ j < ((zT a).2 : Int)) ∧ V X call mL_law 687 [v0, v1, v2, v3] (zi (I a j.toNat) :: st) (c, s, I, L, R) Q := V_iaload dL_law_686 rfl
theorem e_L_law_686x : V X call mL_law 686 [v0, v1, v2, v3] (zi j :: zx 1 :: st) (c, s, I, L, R) Q ↔ (0 ≤ j ∧ j < (X.1 : Int)) ∧ V X call mL_law 687 [v0, v1, v2, v3] (zi (X.2 j.toNat) :: st) (c, s, I, L, R) Q := V_saload dL_law_686 rfl
theorem e_L_law_687 : V X call mL_law 687 [v0, v1, v2, v3] (a3 :: a2 :: a1 :: zr (some a) :: st) σ Q ↔ (zT a).1 = 21 ∧ zcats st ≤ 8 ∧ zcll (call 100 [zr (some a), a1, a2, a3] σ) (fun r τ => (σ.1 ≤ τ.1 ∧ σ.2.1 ≤ τ.2.1) ∧ V X call mL_law 690 [v0, v1, v2, v3] (zpush r st) τ Q) := V_iv3 dL_law_687 lm_13_84 zm_100 (by decide) rfl
theorem e_L_law_690 : V X call mL_law 690 [v0, v1, zr u, v3] st σ Q ↔ V X call mL_law 691 [v0, v1, zr u, v3] (zr u :: st) σ Q := W_aload_n (j := 2) dL_law_690 rfl rfl rfl
theorem e_L_law_690x : V X call mL_law 690 [v0, v1, zx (e + 1), v3] st σ Q ↔ V X call mL_law 691 [v0, v1, zx (e + 1), v3] (zx (e + 1) :: st) σ Q := W_aloadx_n (j := 2) dL_law_690 rfl rfl rfl
theorem e_L_law_691 : V X call mL_law 691 [zr u, v1, v2, v3] st σ Q ↔ V X call mL_law 692 [zr u, v1, v2, v3] (zr u :: st) σ Q := W_aload_n (j := 0) dL_law_691 rfl rfl rfl
theorem e_L_law_691x : V X call mL_law 691 [zx (e + 1), v1, v2, v3] st σ Q ↔ V X call mL_law 692 [zx (e + 1), v1, v2, v3] (zx (e + 1) :: st) σ Q := W_aloadx_n (j := 0) dL_law_691 rfl rfl rfl
theorem e_L_law_692 : V X call mL_law 692 [v0, v1, v2, zi x] st σ Q ↔ V X call mL_law 693 [v0, v1, v2, zi x] (zi x :: st) σ Q := W_iload_n (j := 3) dL_law_692 rfl rfl rfl
theorem e_L_law_693 : V X call mL_law 693 [v0, v1, v2, v3] st σ Q ↔ V X call mL_law 694 [v0, v1, v2, v3] (zi (1) :: st) σ Q := V_iconst dL_law_693 (by decide) rfl
theorem e_L_law_694 : V X call mL_law 694 [v0, v1, v2, v3] (zi y :: zi x :: st) σ Q ↔ V X call mL_law 695 [v0, v1, v2, v3] (zi (zw3 (x + y)) :: st) σ Q := V_iadd dL_law_694 rfl
theorem e_L_law_695 : V X call mL_law 695 [v0, v1, v2, v3] (zi j :: zr (some a) :: st) (c, s, I, L, R) Q ↔ ((zT a).1 = 1 ∧ 0 ≤ j ∧ j < ((zT a).2 : Int)) ∧ V X call mL_law 696 [v0, v1, v2, v3] (zi (I a j.toNat) :: st) (c, s, I, L, R) Q := V_iaload dL_law_695 rfl
theorem e_L_law_695x : V X call mL_law 695 [v0, v1, v2, v3] (zi j :: zx 1 :: st) (c, s, I, L, R) Q ↔ (0 ≤ j ∧ j < (X.1 : Int)) ∧ V X call mL_law 696 [v0, v1, v2, v3] (zi (X.2 j.toNat) :: st) (c, s, I, L, R) Q := V_saload dL_law_695 rfl
theorem e_L_law_696 : V X call mL_law 696 [zr u, v1, v2, v3] st σ Q ↔ V X call mL_law 697 [zr u, v1, v2, v3] (zr u :: st) σ Q := W_aload_n (j := 0) dL_law_696 rfl rfl rfl
theorem e_L_law_696x : V X call mL_law 696 [zx (e + 1), v1, v2, v3] st σ Q ↔ V X call mL_law 697 [zx (e + 1), v1, v2, v3] (zx (e + 1) :: st) σ Q := W_aloadx_n (j := 0) dL_law_696 rfl rfl rfl
theorem e_L_law_697 : V X call mL_law 697 [v0, v1, v2, zi x] st σ Q ↔ V X call mL_law 698 [v0, v1, v2, zi x] (zi x :: st) σ Q := W_iload_n (j := 3) dL_law_697 rfl rfl rfl
theorem e_L_law_698 : V X call mL_law 698 [v0, v1, v2, v3] st σ Q ↔ V X call mL_law 699 [v0, v1, v2, v3] (zi (2) :: st) σ Q := V_iconst dL_law_698 (by decide) rfl
theorem e_L_law_699 : V X call mL_law 699 [v0, v1, v2, v3] (zi y :: zi x :: st) σ Q ↔ V X call mL_law 700 [v0, v1, v2, v3] (zi (zw3 (x + y)) :: st) σ Q := V_iadd dL_law_699 rfl
theorem e_L_law_700 : V X call mL_law 700 [v0, v1, v2, v3] (zi j :: zr (some a) :: st) (c, s, I, L, R) Q ↔ ((zT a).1 = 1 ∧ 0 ≤ j ∧ j < ((zT a).2 : Int)) ∧ V X call mL_law 701 [v0, v1, v2, v3] (zi (I a j.toNat) :: st) (c, s, I, L, R) Q := V_iaload dL_law_700 rfl
theorem e_L_law_700x : V X call mL_law 700 [v0, v1, v2, v3] (zi j :: zx 1 :: st) (c, s, I, L, R) Q ↔ (0 ≤ j ∧ j < (X.1 : Int)) ∧ V X call mL_law 701 [v0, v1, v2, v3] (zi (X.2 j.toNat) :: st) (c, s, I, L, R) Q := V_saload dL_law_700 rfl
theorem e_L_law_701 : V X call mL_law 701 [zr u, v1, v2, v3] st σ Q ↔ V X call mL_law 702 [zr u, v1, v2, v3] (zr u :: st) σ Q := W_aload_n (j := 0) dL_law_701 rfl rfl rfl
theorem e_L_law_701x : V X call mL_law 701 [zx (e + 1), v1, v2, v3] st σ Q ↔ V X call mL_law 702 [zx (e + 1), v1, v2, v3] (zx (e + 1) :: st) σ Q := W_aloadx_n (j := 0) dL_law_701 rfl rfl rfl
theorem e_L_law_702 : V X call mL_law 702 [v0, v1, v2, zi x] st σ Q ↔ V X call mL_law 703 [v0, v1, v2, zi x] (zi x :: st) σ Q := W_iload_n (j := 3) dL_law_702 rfl rfl rfl
theorem e_L_law_703 : V X call mL_law 703 [v0, v1, v2, v3] st σ Q ↔ V X call mL_law 704 [v0, v1, v2, v3] (zi (3) :: st) σ Q := V_iconst dL_law_703 (by decide) rfl
theorem e_L_law_704 : V X call mL_law 704 [v0, v1, v2, v3] (zi y :: zi x :: st) σ Q ↔ V X call mL_law 705 [v0, v1, v2, v3] (zi (zw3 (x + y)) :: st) σ Q := V_iadd dL_law_704 rfl
theorem e_L_law_705 : V X call mL_law 705 [v0, v1, v2, v3] (zi j :: zr (some a) :: st) (c, s, I, L, R) Q ↔ ((zT a).1 = 1 ∧ 0 ≤ j ∧ j < ((zT a).2 : Int)) ∧ V X call mL_law 706 [v0, v1, v2, v3] (zi (I a j.toNat) :: st) (c, s, I, L, R) Q := V_iaload dL_law_705 rfl
theorem e_L_law_705x : V X call mL_law 705 [v0, v1, v2, v3] (zi j :: zx 1 :: st) (c, s, I, L, R) Q ↔ (0 ≤ j ∧ j < (X.1 : Int)) ∧ V X call mL_law 706 [v0, v1, v2, v3] (zi (X.2 j.toNat) :: st) (c, s, I, L, R) Q := V_saload dL_law_705 rfl
theorem e_L_law_706 : V X call mL_law 706 [v0, v1, v2, v3] (a3 :: a2 :: a1 :: zr (some a) :: st) σ Q ↔ (zT a).1 = 22 ∧ zcats st ≤ 8 ∧ zcll (call 170 [zr (some a), a1, a2, a3] σ) (fun r τ => (σ.1 ≤ τ.1 ∧ σ.2.1 ≤ τ.2.1) ∧ V X call mL_law 709 [v0, v1, v2, v3] (zpush r st) τ Q) := V_iv3 dL_law_706 lm_13_88 zm_170 (by decide) rfl
theorem e_L_law_709 : V X call mL_law 709 [v0, v1, v2, v3] (zl y :: zl x :: st) σ Q ↔ V X call mL_law 710 [v0, v1, v2, v3] (zi (zcmpl x y) :: st) σ Q := V_lcmp dL_law_709 rfl
theorem e_L_law_710 : V X call mL_law 710 [v0, v1, v2, v3] (zi x :: st) σ Q ↔ (if x = 0 then V X call mL_law 888 [v0, v1, v2, v3] st σ Q else V X call mL_law 713 [v0, v1, v2, v3] st σ Q) := V_if_eq dL_law_710 rfl rfl
theorem e_L_law_713 : V X call mL_law 713 [v0, v1, v2, v3] st σ Q ↔ V X call mL_law 714 [v0, v1, v2, v3] (zi (0) :: st) σ Q := V_iconst dL_law_713 (by decide) rfl
theorem e_L_law_714 : V X call mL_law 714 [v0, v1, v2, v3] [zi x] σ Q ↔ zok 2 x = true ∧ Q (some (zi x), σ) := V_iret dL_law_714 rfl (by decide)
theorem e_L_law_715 : V X call mL_law 715 [v0, zr u, v2, v3] st σ Q ↔ V X call mL_law 716 [v0, zr u, v2, v3] (zr u :: st) σ Q := W_aload_n (j := 1) dL_law_715 rfl rfl rfl
theorem e_L_law_715x : V X call mL_law 715 [v0, zx (e + 1), v2, v3] st σ Q ↔ V X call mL_law 716 [v0, zx (e + 1), v2, v3] (zx (e + 1) :: st) σ Q := W_aloadx_n (j := 1) dL_law_715 rfl rfl rfl
theorem e_L_law_716 : V X call mL_law 716 [zr u, v1, v2, v3] st σ Q ↔ V X call mL_law 717 [zr u, v1, v2, v3] (zr u :: st) σ Q := W_aload_n (j := 0) dL_law_716 rfl rfl rfl
theorem e_L_law_716x : V X call mL_law 716 [zx (e + 1), v1, v2, v3] st σ Q ↔ V X call mL_law 717 [zx (e + 1), v1, v2, v3] (zx (e + 1) :: st) σ Q := W_aloadx_n (j := 0) dL_law_716 rfl rfl rfl
theorem e_L_law_717 : V X call mL_law 717 [v0, v1, v2, zi x] st σ Q ↔ V X call mL_law 718 [v0, v1, v2, zi x] (zi x :: st) σ Q := W_iload_n (j := 3) dL_law_717 rfl rfl rfl
theorem e_L_law_718 : V X call mL_law 718 [v0, v1, v2, v3] st σ Q ↔ V X call mL_law 719 [v0, v1, v2, v3] (zi (1) :: st) σ Q := V_iconst dL_law_718 (by decide) rfl
theorem e_L_law_719 : V X call mL_law 719 [v0, v1, v2, v3] (zi y :: zi x :: st) σ Q ↔ V X call mL_law 720 [v0, v1, v2, v3] (zi (zw3 (x + y)) :: st) σ Q := V_iadd dL_law_719 rfl
theorem e_L_law_720 : V X call mL_law 720 [v0, v1, v2, v3] (zi j :: zr (some a) :: st) (c, s, I, L, R) Q ↔ ((zT a).1 = 1 ∧ 0 ≤ j ∧ j < ((zT a).2 : Int)) ∧ V X call mL_law 721 [v0, v1, v2, v3] (zi (I a j.toNat) :: st) (c, s, I, L, R) Q := V_iaload dL_law_720 rfl
theorem e_L_law_720x : V X call mL_law 720 [v0, v1, v2, v3] (zi j :: zx 1 :: st) (c, s, I, L, R) Q ↔ (0 ≤ j ∧ j < (X.1 : Int)) ∧ V X call mL_law 721 [v0, v1, v2, v3] (zi (X.2 j.toNat) :: st) (c, s, I, L, R) Q := V_saload dL_law_720 rfl
theorem e_L_law_721 : V X call mL_law 721 [zr u, v1, v2, v3] st σ Q ↔ V X call mL_law 722 [zr u, v1, v2, v3] (zr u :: st) σ Q := W_aload_n (j := 0) dL_law_721 rfl rfl rfl
theorem e_L_law_721x : V X call mL_law 721 [zx (e + 1), v1, v2, v3] st σ Q ↔ V X call mL_law 722 [zx (e + 1), v1, v2, v3] (zx (e + 1) :: st) σ Q := W_aloadx_n (j := 0) dL_law_721 rfl rfl rfl
theorem e_L_law_722 : V X call mL_law 722 [v0, v1, v2, zi x] st σ Q ↔ V X call mL_law 723 [v0, v1, v2, zi x] (zi x :: st) σ Q := W_iload_n (j := 3) dL_law_722 rfl rfl rfl
theorem e_L_law_723 : V X call mL_law 723 [v0, v1, v2, v3] st σ Q ↔ V X call mL_law 724 [v0, v1, v2, v3] (zi (2) :: st) σ Q := V_iconst dL_law_723 (by decide) rfl
theorem e_L_law_724 : V X call mL_law 724 [v0, v1, v2, v3] (zi y :: zi x :: st) σ Q ↔ V X call mL_law 725 [v0, v1, v2, v3] (zi (zw3 (x + y)) :: st) σ Q := V_iadd dL_law_724 rfl
theorem e_L_law_725 : V X call mL_law 725 [v0, v1, v2, v3] (zi j :: zr (some a) :: st) (c, s, I, L, R) Q ↔ ((zT a).1 = 1 ∧ 0 ≤ j ∧ j < ((zT a).2 : Int)) ∧ V X call mL_law 726 [v0, v1, v2, v3] (zi (I a j.toNat) :: st) (c, s, I, L, R) Q := V_iaload dL_law_725 rfl
theorem e_L_law_725x : V X call mL_law 725 [v0, v1, v2, v3] (zi j :: zx 1 :: st) (c, s, I, L, R) Q ↔ (0 ≤ j ∧ j < (X.1 : Int)) ∧ V X call mL_law 726 [v0, v1, v2, v3] (zi (X.2 j.toNat) :: st) (c, s, I, L, R) Q := V_saload dL_law_725 rfl
theorem e_L_law_726 : V X call mL_law 726 [zr u, v1, v2, v3] st σ Q ↔ V X call mL_law 727 [zr u, v1, v2, v3] (zr u :: st) σ Q := W_aload_n (j := 0) dL_law_726 rfl rfl rfl
theorem e_L_law_726x : V X call mL_law 726 [zx (e + 1), v1, v2, v3] st σ Q ↔ V X call mL_law 727 [zx (e + 1), v1, v2, v3] (zx (e + 1) :: st) σ Q := W_aloadx_n (j := 0) dL_law_726 rfl rfl rfl
theorem e_L_law_727 : V X call mL_law 727 [v0, v1, v2, zi x] st σ Q ↔ V X call mL_law 728 [v0, v1, v2, zi x] (zi x :: st) σ Q := W_iload_n (j := 3) dL_law_727 rfl rfl rfl
theorem e_L_law_728 : V X call mL_law 728 [v0, v1, v2, v3] st σ Q ↔ V X call mL_law 729 [v0, v1, v2, v3] (zi (3) :: st) σ Q := V_iconst dL_law_728 (by decide) rfl
theorem e_L_law_729 : V X call mL_law 729 [v0, v1, v2, v3] (zi y :: zi x :: st) σ Q ↔ V X call mL_law 730 [v0, v1, v2, v3] (zi (zw3 (x + y)) :: st) σ Q := V_iadd dL_law_729 rfl
theorem e_L_law_730 : V X call mL_law 730 [v0, v1, v2, v3] (zi j :: zr (some a) :: st) (c, s, I, L, R) Q ↔ ((zT a).1 = 1 ∧ 0 ≤ j ∧ j < ((zT a).2 : Int)) ∧ V X call mL_law 731 [v0, v1, v2, v3] (zi (I a j.toNat) :: st) (c, s, I, L, R) Q := V_iaload dL_law_730 rfl
theorem e_L_law_730x : V X call mL_law 730 [v0, v1, v2, v3] (zi j :: zx 1 :: st) (c, s, I, L, R) Q ↔ (0 ≤ j ∧ j < (X.1 : Int)) ∧ V X call mL_law 731 [v0, v1, v2, v3] (zi (X.2 j.toNat) :: st) (c, s, I, L, R) Q := V_saload dL_law_730 rfl
theorem e_L_law_731 : V X call mL_law 731 [zr u, v1, v2, v3] st σ Q ↔ V X call mL_law 732 [zr u, v1, v2, v3] (zr u :: st) σ Q := W_aload_n (j := 0) dL_law_731 rfl rfl rfl
theorem e_L_law_731x : V X call mL_law 731 [zx (e + 1), v1, v2, v3] st σ Q ↔ V X call mL_law 732 [zx (e + 1), v1, v2, v3] (zx (e + 1) :: st) σ Q := W_aloadx_n (j := 0) dL_law_731 rfl rfl rfl
theorem e_L_law_732 : V X call mL_law 732 [v0, v1, v2, zi x] st σ Q ↔ V X call mL_law 733 [v0, v1, v2, zi x] (zi x :: st) σ Q := W_iload_n (j := 3) dL_law_732 rfl rfl rfl
theorem e_L_law_733 : V X call mL_law 733 [v0, v1, v2, v3] st σ Q ↔ V X call mL_law 734 [v0, v1, v2, v3] (zi (4) :: st) σ Q := V_iconst dL_law_733 (by decide) rfl
theorem e_L_law_734 : V X call mL_law 734 [v0, v1, v2, v3] (zi y :: zi x :: st) σ Q ↔ V X call mL_law 735 [v0, v1, v2, v3] (zi (zw3 (x + y)) :: st) σ Q := V_iadd dL_law_734 rfl
theorem e_L_law_735 : V X call mL_law 735 [v0, v1, v2, v3] (zi j :: zr (some a) :: st) (c, s, I, L, R) Q ↔ ((zT a).1 = 1 ∧ 0 ≤ j ∧ j < ((zT a).2 : Int)) ∧ V X call mL_law 736 [v0, v1, v2, v3] (zi (I a j.toNat) :: st) (c, s, I, L, R) Q := V_iaload dL_law_735 rfl
theorem e_L_law_735x : V X call mL_law 735 [v0, v1, v2, v3] (zi j :: zx 1 :: st) (c, s, I, L, R) Q ↔ (0 ≤ j ∧ j < (X.1 : Int)) ∧ V X call mL_law 736 [v0, v1, v2, v3] (zi (X.2 j.toNat) :: st) (c, s, I, L, R) Q := V_saload dL_law_735 rfl
theorem e_L_law_736 : V X call mL_law 736 [zr u, v1, v2, v3] st σ Q ↔ V X call mL_law 737 [zr u, v1, v2, v3] (zr u :: st) σ Q := W_aload_n (j := 0) dL_law_736 rfl rfl rfl
theorem e_L_law_736x : V X call mL_law 736 [zx (e + 1), v1, v2, v3] st σ Q ↔ V X call mL_law 737 [zx (e + 1), v1, v2, v3] (zx (e + 1) :: st) σ Q := W_aloadx_n (j := 0) dL_law_736 rfl rfl rfl
theorem e_L_law_737 : V X call mL_law 737 [v0, v1, v2, zi x] st σ Q ↔ V X call mL_law 738 [v0, v1, v2, zi x] (zi x :: st) σ Q := W_iload_n (j := 3) dL_law_737 rfl rfl rfl
theorem e_L_law_738 : V X call mL_law 738 [v0, v1, v2, v3] st σ Q ↔ V X call mL_law 739 [v0, v1, v2, v3] (zi (5) :: st) σ Q := V_iconst dL_law_738 (by decide) rfl
theorem e_L_law_739 : V X call mL_law 739 [v0, v1, v2, v3] (zi y :: zi x :: st) σ Q ↔ V X call mL_law 740 [v0, v1, v2, v3] (zi (zw3 (x + y)) :: st) σ Q := V_iadd dL_law_739 rfl
theorem e_L_law_740 : V X call mL_law 740 [v0, v1, v2, v3] (zi j :: zr (some a) :: st) (c, s, I, L, R) Q ↔ ((zT a).1 = 1 ∧ 0 ≤ j ∧ j < ((zT a).2 : Int)) ∧ V X call mL_law 741 [v0, v1, v2, v3] (zi (I a j.toNat) :: st) (c, s, I, L, R) Q := V_iaload dL_law_740 rfl
theorem e_L_law_740x : V X call mL_law 740 [v0, v1, v2, v3] (zi j :: zx 1 :: st) (c, s, I, L, R) Q ↔ (0 ≤ j ∧ j < (X.1 : Int)) ∧ V X call mL_law 741 [v0, v1, v2, v3] (zi (X.2 j.toNat) :: st) (c, s, I, L, R) Q := V_saload dL_law_740 rfl
theorem e_L_law_741 : V X call mL_law 741 [zr u, v1, v2, v3] st σ Q ↔ V X call mL_law 742 [zr u, v1, v2, v3] (zr u :: st) σ Q := W_aload_n (j := 0) dL_law_741 rfl rfl rfl
theorem e_L_law_741x : V X call mL_law 741 [zx (e + 1), v1, v2, v3] st σ Q ↔ V X call mL_law 742 [zx (e + 1), v1, v2, v3] (zx (e + 1) :: st) σ Q := W_aloadx_n (j := 0) dL_law_741 rfl rfl rfl
theorem e_L_law_742 : V X call mL_law 742 [v0, v1, v2, zi x] st σ Q ↔ V X call mL_law 743 [v0, v1, v2, zi x] (zi x :: st) σ Q := W_iload_n (j := 3) dL_law_742 rfl rfl rfl
theorem e_L_law_743 : V X call mL_law 743 [v0, v1, v2, v3] st σ Q ↔ V X call mL_law 745 [v0, v1, v2, v3] (zi (6) :: st) σ Q := V_bipush dL_law_743 (by decide) rfl
theorem e_L_law_745 : V X call mL_law 745 [v0, v1, v2, v3] (zi y :: zi x :: st) σ Q ↔ V X call mL_law 746 [v0, v1, v2, v3] (zi (zw3 (x + y)) :: st) σ Q := V_iadd dL_law_745 rfl
theorem e_L_law_746 : V X call mL_law 746 [v0, v1, v2, v3] (zi j :: zr (some a) :: st) (c, s, I, L, R) Q ↔ ((zT a).1 = 1 ∧ 0 ≤ j ∧ j < ((zT a).2 : Int)) ∧ V X call mL_law 747 [v0, v1, v2, v3] (zi (I a j.toNat) :: st) (c, s, I, L, R) Q := V_iaload dL_law_746 rfl
theorem e_L_law_746x : V X call mL_law 746 [v0, v1, v2, v3] (zi j :: zx 1 :: st) (c, s, I, L, R) Q ↔ (0 ≤ j ∧ j < (X.1 : Int)) ∧ V X call mL_law 747 [v0, v1, v2, v3] (zi (X.2 j.toNat) :: st) (c, s, I, L, R) Q := V_saload dL_law_746 rfl
theorem e_L_law_747 : V X call mL_law 747 [v0, v1, v2, v3] (a6 :: a5 :: a4 :: a3 :: a2 :: a1 :: zr (some a) :: st) σ Q ↔ (zT a).1 = 21 ∧ zcats st ≤ 8 ∧ zcll (call 101 [zr (some a), a1, a2, a3, a4, a5, a6] σ) (fun r τ => (σ.1 ≤ τ.1 ∧ σ.2.1 ≤ τ.2.1) ∧ V X call mL_law 750 [v0, v1, v2, v3] (zpush r st) τ Q) := V_iv6 dL_law_747 lm_13_89 zm_101 (by decide) rfl
theorem e_L_law_750 : V X call mL_law 750 [v0, v1, zr u, v3] st σ Q ↔ V X call mL_law 751 [v0, v1, zr u, v3] (zr u :: st) σ Q := W_aload_n (j := 2) dL_law_750 rfl rfl rfl
theorem e_L_law_750x : V X call mL_law 750 [v0, v1, zx (e + 1), v3] st σ Q ↔ V X call mL_law 751 [v0, v1, zx (e + 1), v3] (zx (e + 1) :: st) σ Q := W_aloadx_n (j := 2) dL_law_750 rfl rfl rfl
theorem e_L_law_751 : V X call mL_law 751 [zr u, v1, v2, v3] st σ Q ↔ V X call mL_law 752 [zr u, v1, v2, v3] (zr u :: st) σ Q := W_aload_n (j := 0) dL_law_751 rfl rfl rfl
theorem e_L_law_751x : V X call mL_law 751 [zx (e + 1), v1, v2, v3] st σ Q ↔ V X call mL_law 752 [zx (e + 1), v1, v2, v3] (zx (e + 1) :: st) σ Q := W_aloadx_n (j := 0) dL_law_751 rfl rfl rfl
theorem e_L_law_752 : V X call mL_law 752 [v0, v1, v2, zi x] st σ Q ↔ V X call mL_law 753 [v0, v1, v2, zi x] (zi x :: st) σ Q := W_iload_n (j := 3) dL_law_752 rfl rfl rfl
theorem e_L_law_753 : V X call mL_law 753 [v0, v1, v2, v3] st σ Q ↔ V X call mL_law 754 [v0, v1, v2, v3] (zi (1) :: st) σ Q := V_iconst dL_law_753 (by decide) rfl
theorem e_L_law_754 : V X call mL_law 754 [v0, v1, v2, v3] (zi y :: zi x :: st) σ Q ↔ V X call mL_law 755 [v0, v1, v2, v3] (zi (zw3 (x + y)) :: st) σ Q := V_iadd dL_law_754 rfl
theorem e_L_law_755 : V X call mL_law 755 [v0, v1, v2, v3] (zi j :: zr (some a) :: st) (c, s, I, L, R) Q ↔ ((zT a).1 = 1 ∧ 0 ≤ j ∧ j < ((zT a).2 : Int)) ∧ V X call mL_law 756 [v0, v1, v2, v3] (zi (I a j.toNat) :: st) (c, s, I, L, R) Q := V_iaload dL_law_755 rfl
theorem e_L_law_755x : V X call mL_law 755 [v0, v1, v2, v3] (zi j :: zx 1 :: st) (c, s, I, L, R) Q ↔ (0 ≤ j ∧ j < (X.1 : Int)) ∧ V X call mL_law 756 [v0, v1, v2, v3] (zi (X.2 j.toNat) :: st) (c, s, I, L, R) Q := V_saload dL_law_755 rfl
theorem e_L_law_756 : V X call mL_law 756 [zr u, v1, v2, v3] st σ Q ↔ V X call mL_law 757 [zr u, v1, v2, v3] (zr u :: st) σ Q := W_aload_n (j := 0) dL_law_756 rfl rfl rfl
theorem e_L_law_756x : V X call mL_law 756 [zx (e + 1), v1, v2, v3] st σ Q ↔ V X call mL_law 757 [zx (e + 1), v1, v2, v3] (zx (e + 1) :: st) σ Q := W_aloadx_n (j := 0) dL_law_756 rfl rfl rfl
theorem e_L_law_757 : V X call mL_law 757 [v0, v1, v2, zi x] st σ Q ↔ V X call mL_law 758 [v0, v1, v2, zi x] (zi x :: st) σ Q := W_iload_n (j := 3) dL_law_757 rfl rfl rfl
theorem e_L_law_758 : V X call mL_law 758 [v0, v1, v2, v3] st σ Q ↔ V X call mL_law 759 [v0, v1, v2, v3] (zi (2) :: st) σ Q := V_iconst dL_law_758 (by decide) rfl
theorem e_L_law_759 : V X call mL_law 759 [v0, v1, v2, v3] (zi y :: zi x :: st) σ Q ↔ V X call mL_law 760 [v0, v1, v2, v3] (zi (zw3 (x + y)) :: st) σ Q := V_iadd dL_law_759 rfl
theorem e_L_law_760 : V X call mL_law 760 [v0, v1, v2, v3] (zi j :: zr (some a) :: st) (c, s, I, L, R) Q ↔ ((zT a).1 = 1 ∧ 0 ≤ j ∧ j < ((zT a).2 : Int)) ∧ V X call mL_law 761 [v0, v1, v2, v3] (zi (I a j.toNat) :: st) (c, s, I, L, R) Q := V_iaload dL_law_760 rfl
theorem e_L_law_760x : V X call mL_law 760 [v0, v1, v2, v3] (zi j :: zx 1 :: st) (c, s, I, L, R) Q ↔ (0 ≤ j ∧ j < (X.1 : Int)) ∧ V X call mL_law 761 [v0, v1, v2, v3] (zi (X.2 j.toNat) :: st) (c, s, I, L, R) Q := V_saload dL_law_760 rfl
theorem e_L_law_761 : V X call mL_law 761 [zr u, v1, v2, v3] st σ Q ↔ V X call mL_law 762 [zr u, v1, v2, v3] (zr u :: st) σ Q := W_aload_n (j := 0) dL_law_761 rfl rfl rfl
theorem e_L_law_761x : V X call mL_law 761 [zx (e + 1), v1, v2, v3] st σ Q ↔ V X call mL_law 762 [zx (e + 1), v1, v2, v3] (zx (e + 1) :: st) σ Q := W_aloadx_n (j := 0) dL_law_761 rfl rfl rfl
theorem e_L_law_762 : V X call mL_law 762 [v0, v1, v2, zi x] st σ Q ↔ V X call mL_law 763 [v0, v1, v2, zi x] (zi x :: st) σ Q := W_iload_n (j := 3) dL_law_762 rfl rfl rfl
theorem e_L_law_763 : V X call mL_law 763 [v0, v1, v2, v3] st σ Q ↔ V X call mL_law 764 [v0, v1, v2, v3] (zi (3) :: st) σ Q := V_iconst dL_law_763 (by decide) rfl
theorem e_L_law_764 : V X call mL_law 764 [v0, v1, v2, v3] (zi y :: zi x :: st) σ Q ↔ V X call mL_law 765 [v0, v1, v2, v3] (zi (zw3 (x + y)) :: st) σ Q := V_iadd dL_law_764 rfl
theorem e_L_law_765 : V X call mL_law 765 [v0, v1, v2, v3] (zi j :: zr (some a) :: st) (c, s, I, L, R) Q ↔ ((zT a).1 = 1 ∧ 0 ≤ j ∧ j < ((zT a).2 : Int)) ∧ V X call mL_law 766 [v0, v1, v2, v3] (zi (I a j.toNat) :: st) (c, s, I, L, R) Q := V_iaload dL_law_765 rfl
theorem e_L_law_765x : V X call mL_law 765 [v0, v1, v2, v3] (zi j :: zx 1 :: st) (c, s, I, L, R) Q ↔ (0 ≤ j ∧ j < (X.1 : Int)) ∧ V X call mL_law 766 [v0, v1, v2, v3] (zi (X.2 j.toNat) :: st) (c, s, I, L, R) Q := V_saload dL_law_765 rfl
theorem e_L_law_766 : V X call mL_law 766 [zr u, v1, v2, v3] st σ Q ↔ V X call mL_law 767 [zr u, v1, v2, v3] (zr u :: st) σ Q := W_aload_n (j := 0) dL_law_766 rfl rfl rfl
theorem e_L_law_766x : V X call mL_law 766 [zx (e + 1), v1, v2, v3] st σ Q ↔ V X call mL_law 767 [zx (e + 1), v1, v2, v3] (zx (e + 1) :: st) σ Q := W_aloadx_n (j := 0) dL_law_766 rfl rfl rfl
theorem e_L_law_767 : V X call mL_law 767 [v0, v1, v2, zi x] st σ Q ↔ V X call mL_law 768 [v0, v1, v2, zi x] (zi x :: st) σ Q := W_iload_n (j := 3) dL_law_767 rfl rfl rfl
theorem e_L_law_768 : V X call mL_law 768 [v0, v1, v2, v3] st σ Q ↔ V X call mL_law 769 [v0, v1, v2, v3] (zi (4) :: st) σ Q := V_iconst dL_law_768 (by decide) rfl
theorem e_L_law_769 : V X call mL_law 769 [v0, v1, v2, v3] (zi y :: zi x :: st) σ Q ↔ V X call mL_law 770 [v0, v1, v2, v3] (zi (zw3 (x + y)) :: st) σ Q := V_iadd dL_law_769 rfl
theorem e_L_law_770 : V X call mL_law 770 [v0, v1, v2, v3] (zi j :: zr (some a) :: st) (c, s, I, L, R) Q ↔ ((zT a).1 = 1 ∧ 0 ≤ j ∧ j < ((zT a).2 : Int)) ∧ V X call mL_law 771 [v0, v1, v2, v3] (zi (I a j.toNat) :: st) (c, s, I, L, R) Q := V_iaload dL_law_770 rfl
theorem e_L_law_770x : V X call mL_law 770 [v0, v1, v2, v3] (zi j :: zx 1 :: st) (c, s, I, L, R) Q ↔ (0 ≤ j ∧ j < (X.1 : Int)) ∧ V X call mL_law 771 [v0, v1, v2, v3] (zi (X.2 j.toNat) :: st) (c, s, I, L, R) Q := V_saload dL_law_770 rfl
theorem e_L_law_771 : V X call mL_law 771 [zr u, v1, v2, v3] st σ Q ↔ V X call mL_law 772 [zr u, v1, v2, v3] (zr u :: st) σ Q := W_aload_n (j := 0) dL_law_771 rfl rfl rfl
theorem e_L_law_771x : V X call mL_law 771 [zx (e + 1), v1, v2, v3] st σ Q ↔ V X call mL_law 772 [zx (e + 1), v1, v2, v3] (zx (e + 1) :: st) σ Q := W_aloadx_n (j := 0) dL_law_771 rfl rfl rfl
theorem e_L_law_772 : V X call mL_law 772 [v0, v1, v2, zi x] st σ Q ↔ V X call mL_law 773 [v0, v1, v2, zi x] (zi x :: st) σ Q := W_iload_n (j := 3) dL_law_772 rfl rfl rfl
theorem e_L_law_773 : V X call mL_law 773 [v0, v1, v2, v3] st σ Q ↔ V X call mL_law 774 [v0, v1, v2, v3] (zi (5) :: st) σ Q := V_iconst dL_law_773 (by decide) rfl
theorem e_L_law_774 : V X call mL_law 774 [v0, v1, v2, v3] (zi y :: zi x :: st) σ Q ↔ V X call mL_law 775 [v0, v1, v2, v3] (zi (zw3 (x + y)) :: st) σ Q := V_iadd dL_law_774 rfl
theorem e_L_law_775 : V X call mL_law 775 [v0, v1, v2, v3] (zi j :: zr (some a) :: st) (c, s, I, L, R) Q ↔ ((zT a).1 = 1 ∧ 0 ≤ j ∧ j < ((zT a).2 : Int)) ∧ V X call mL_law 776 [v0, v1, v2, v3] (zi (I a j.toNat) :: st) (c, s, I, L, R) Q := V_iaload dL_law_775 rfl
theorem e_L_law_775x : V X call mL_law 775 [v0, v1, v2, v3] (zi j :: zx 1 :: st) (c, s, I, L, R) Q ↔ (0 ≤ j ∧ j < (X.1 : Int)) ∧ V X call mL_law 776 [v0, v1, v2, v3] (zi (X.2 j.toNat) :: st) (c, s, I, L, R) Q := V_saload dL_law_775 rfl
theorem e_L_law_776 : V X call mL_law 776 [zr u, v1, v2, v3] st σ Q ↔ V X call mL_law 777 [zr u, v1, v2, v3] (zr u :: st) σ Q := W_aload_n (j := 0) dL_law_776 rfl rfl rfl
theorem e_L_law_776x : V X call mL_law 776 [zx (e + 1), v1, v2, v3] st σ Q ↔ V X call mL_law 777 [zx (e + 1), v1, v2, v3] (zx (e + 1) :: st) σ Q := W_aloadx_n (j := 0) dL_law_776 rfl rfl rfl
theorem e_L_law_777 : V X call mL_law 777 [v0, v1, v2, zi x] st σ Q ↔ V X call mL_law 778 [v0, v1, v2, zi x] (zi x :: st) σ Q := W_iload_n (j := 3) dL_law_777 rfl rfl rfl
theorem e_L_law_778 : V X call mL_law 778 [v0, v1, v2, v3] st σ Q ↔ V X call mL_law 780 [v0, v1, v2, v3] (zi (6) :: st) σ Q := V_bipush dL_law_778 (by decide) rfl
theorem e_L_law_780 : V X call mL_law 780 [v0, v1, v2, v3] (zi y :: zi x :: st) σ Q ↔ V X call mL_law 781 [v0, v1, v2, v3] (zi (zw3 (x + y)) :: st) σ Q := V_iadd dL_law_780 rfl
theorem e_L_law_781 : V X call mL_law 781 [v0, v1, v2, v3] (zi j :: zr (some a) :: st) (c, s, I, L, R) Q ↔ ((zT a).1 = 1 ∧ 0 ≤ j ∧ j < ((zT a).2 : Int)) ∧ V X call mL_law 782 [v0, v1, v2, v3] (zi (I a j.toNat) :: st) (c, s, I, L, R) Q := V_iaload dL_law_781 rfl
theorem e_L_law_781x : V X call mL_law 781 [v0, v1, v2, v3] (zi j :: zx 1 :: st) (c, s, I, L, R) Q ↔ (0 ≤ j ∧ j < (X.1 : Int)) ∧ V X call mL_law 782 [v0, v1, v2, v3] (zi (X.2 j.toNat) :: st) (c, s, I, L, R) Q := V_saload dL_law_781 rfl
theorem e_L_law_782 : V X call mL_law 782 [v0, v1, v2, v3] (a6 :: a5 :: a4 :: a3 :: a2 :: a1 :: zr (some a) :: st) σ Q ↔ (zT a).1 = 22 ∧ zcats st ≤ 8 ∧ zcll (call 171 [zr (some a), a1, a2, a3, a4, a5, a6] σ) (fun r τ => (σ.1 ≤ τ.1 ∧ σ.2.1 ≤ τ.2.1) ∧ V X call mL_law 785 [v0, v1, v2, v3] (zpush r st) τ Q) := V_iv6 dL_law_782 lm_13_93 zm_171 (by decide) rfl
theorem e_L_law_785 : V X call mL_law 785 [v0, v1, v2, v3] (zi y :: zi x :: st) σ Q ↔ (if x = y then V X call mL_law 888 [v0, v1, v2, v3] st σ Q else V X call mL_law 788 [v0, v1, v2, v3] st σ Q) := V_ic_eq dL_law_785 rfl rfl
theorem e_L_law_788 : V X call mL_law 788 [v0, v1, v2, v3] st σ Q ↔ V X call mL_law 789 [v0, v1, v2, v3] (zi (0) :: st) σ Q := V_iconst dL_law_788 (by decide) rfl
theorem e_L_law_789 : V X call mL_law 789 [v0, v1, v2, v3] [zi x] σ Q ↔ zok 2 x = true ∧ Q (some (zi x), σ) := V_iret dL_law_789 rfl (by decide)
theorem e_L_law_790 : V X call mL_law 790 [v0, zr u, v2, v3] st σ Q ↔ V X call mL_law 791 [v0, zr u, v2, v3] (zr u :: st) σ Q := W_aload_n (j := 1) dL_law_790 rfl rfl rfl
theorem e_L_law_790x : V X call mL_law 790 [v0, zx (e + 1), v2, v3] st σ Q ↔ V X call mL_law 791 [v0, zx (e + 1), v2, v3] (zx (e + 1) :: st) σ Q := W_aloadx_n (j := 1) dL_law_790 rfl rfl rfl
theorem e_L_law_791 : V X call mL_law 791 [zr u, v1, v2, v3] st σ Q ↔ V X call mL_law 792 [zr u, v1, v2, v3] (zr u :: st) σ Q := W_aload_n (j := 0) dL_law_791 rfl rfl rfl
theorem e_L_law_791x : V X call mL_law 791 [zx (e + 1), v1, v2, v3] st σ Q ↔ V X call mL_law 792 [zx (e + 1), v1, v2, v3] (zx (e + 1) :: st) σ Q := W_aloadx_n (j := 0) dL_law_791 rfl rfl rfl
theorem e_L_law_792 : V X call mL_law 792 [v0, v1, v2, zi x] st σ Q ↔ V X call mL_law 793 [v0, v1, v2, zi x] (zi x :: st) σ Q := W_iload_n (j := 3) dL_law_792 rfl rfl rfl
theorem e_L_law_793 : V X call mL_law 793 [v0, v1, v2, v3] st σ Q ↔ V X call mL_law 794 [v0, v1, v2, v3] (zi (1) :: st) σ Q := V_iconst dL_law_793 (by decide) rfl
theorem e_L_law_794 : V X call mL_law 794 [v0, v1, v2, v3] (zi y :: zi x :: st) σ Q ↔ V X call mL_law 795 [v0, v1, v2, v3] (zi (zw3 (x + y)) :: st) σ Q := V_iadd dL_law_794 rfl
theorem e_L_law_795 : V X call mL_law 795 [v0, v1, v2, v3] (zi j :: zr (some a) :: st) (c, s, I, L, R) Q ↔ ((zT a).1 = 1 ∧ 0 ≤ j ∧ j < ((zT a).2 : Int)) ∧ V X call mL_law 796 [v0, v1, v2, v3] (zi (I a j.toNat) :: st) (c, s, I, L, R) Q := V_iaload dL_law_795 rfl
theorem e_L_law_795x : V X call mL_law 795 [v0, v1, v2, v3] (zi j :: zx 1 :: st) (c, s, I, L, R) Q ↔ (0 ≤ j ∧ j < (X.1 : Int)) ∧ V X call mL_law 796 [v0, v1, v2, v3] (zi (X.2 j.toNat) :: st) (c, s, I, L, R) Q := V_saload dL_law_795 rfl
theorem e_L_law_796 : V X call mL_law 796 [zr u, v1, v2, v3] st σ Q ↔ V X call mL_law 797 [zr u, v1, v2, v3] (zr u :: st) σ Q := W_aload_n (j := 0) dL_law_796 rfl rfl rfl
theorem e_L_law_796x : V X call mL_law 796 [zx (e + 1), v1, v2, v3] st σ Q ↔ V X call mL_law 797 [zx (e + 1), v1, v2, v3] (zx (e + 1) :: st) σ Q := W_aloadx_n (j := 0) dL_law_796 rfl rfl rfl
theorem e_L_law_797 : V X call mL_law 797 [v0, v1, v2, zi x] st σ Q ↔ V X call mL_law 798 [v0, v1, v2, zi x] (zi x :: st) σ Q := W_iload_n (j := 3) dL_law_797 rfl rfl rfl
theorem e_L_law_798 : V X call mL_law 798 [v0, v1, v2, v3] st σ Q ↔ V X call mL_law 799 [v0, v1, v2, v3] (zi (2) :: st) σ Q := V_iconst dL_law_798 (by decide) rfl
theorem e_L_law_799 : V X call mL_law 799 [v0, v1, v2, v3] (zi y :: zi x :: st) σ Q ↔ V X call mL_law 800 [v0, v1, v2, v3] (zi (zw3 (x + y)) :: st) σ Q := V_iadd dL_law_799 rfl
theorem e_L_law_800 : V X call mL_law 800 [v0, v1, v2, v3] (zi j :: zr (some a) :: st) (c, s, I, L, R) Q ↔ ((zT a).1 = 1 ∧ 0 ≤ j ∧ j < ((zT a).2 : Int)) ∧ V X call mL_law 801 [v0, v1, v2, v3] (zi (I a j.toNat) :: st) (c, s, I, L, R) Q := V_iaload dL_law_800 rfl
theorem e_L_law_800x : V X call mL_law 800 [v0, v1, v2, v3] (zi j :: zx 1 :: st) (c, s, I, L, R) Q ↔ (0 ≤ j ∧ j < (X.1 : Int)) ∧ V X call mL_law 801 [v0, v1, v2, v3] (zi (X.2 j.toNat) :: st) (c, s, I, L, R) Q := V_saload dL_law_800 rfl
theorem e_L_law_801 : V X call mL_law 801 [zr u, v1, v2, v3] st σ Q ↔ V X call mL_law 802 [zr u, v1, v2, v3] (zr u :: st) σ Q := W_aload_n (j := 0) dL_law_801 rfl rfl rfl
theorem e_L_law_801x : V X call mL_law 801 [zx (e + 1), v1, v2, v3] st σ Q ↔ V X call mL_law 802 [zx (e + 1), v1, v2, v3] (zx (e + 1) :: st) σ Q := W_aloadx_n (j := 0) dL_law_801 rfl rfl rfl
theorem e_L_law_802 : V X call mL_law 802 [v0, v1, v2, zi x] st σ Q ↔ V X call mL_law 803 [v0, v1, v2, zi x] (zi x :: st) σ Q := W_iload_n (j := 3) dL_law_802 rfl rfl rfl
theorem e_L_law_803 : V X call mL_law 803 [v0, v1, v2, v3] st σ Q ↔ V X call mL_law 804 [v0, v1, v2, v3] (zi (3) :: st) σ Q := V_iconst dL_law_803 (by decide) rfl
theorem e_L_law_804 : V X call mL_law 804 [v0, v1, v2, v3] (zi y :: zi x :: st) σ Q ↔ V X call mL_law 805 [v0, v1, v2, v3] (zi (zw3 (x + y)) :: st) σ Q := V_iadd dL_law_804 rfl
theorem e_L_law_805 : V X call mL_law 805 [v0, v1, v2, v3] (zi j :: zr (some a) :: st) (c, s, I, L, R) Q ↔ ((zT a).1 = 1 ∧ 0 ≤ j ∧ j < ((zT a).2 : Int)) ∧ V X call mL_law 806 [v0, v1, v2, v3] (zi (I a j.toNat) :: st) (c, s, I, L, R) Q := V_iaload dL_law_805 rfl
theorem e_L_law_805x : V X call mL_law 805 [v0, v1, v2, v3] (zi j :: zx 1 :: st) (c, s, I, L, R) Q ↔ (0 ≤ j ∧ j < (X.1 : Int)) ∧ V X call mL_law 806 [v0, v1, v2, v3] (zi (X.2 j.toNat) :: st) (c, s, I, L, R) Q := V_saload dL_law_805 rfl
theorem e_L_law_806 : V X call mL_law 806 [zr u, v1, v2, v3] st σ Q ↔ V X call mL_law 807 [zr u, v1, v2, v3] (zr u :: st) σ Q := W_aload_n (j := 0) dL_law_806 rfl rfl rfl
theorem e_L_law_806x : V X call mL_law 806 [zx (e + 1), v1, v2, v3] st σ Q ↔ V X call mL_law 807 [zx (e + 1), v1, v2, v3] (zx (e + 1) :: st) σ Q := W_aloadx_n (j := 0) dL_law_806 rfl rfl rfl
theorem e_L_law_807 : V X call mL_law 807 [v0, v1, v2, zi x] st σ Q ↔ V X call mL_law 808 [v0, v1, v2, zi x] (zi x :: st) σ Q := W_iload_n (j := 3) dL_law_807 rfl rfl rfl
theorem e_L_law_808 : V X call mL_law 808 [v0, v1, v2, v3] st σ Q ↔ V X call mL_law 809 [v0, v1, v2, v3] (zi (4) :: st) σ Q := V_iconst dL_law_808 (by decide) rfl
theorem e_L_law_809 : V X call mL_law 809 [v0, v1, v2, v3] (zi y :: zi x :: st) σ Q ↔ V X call mL_law 810 [v0, v1, v2, v3] (zi (zw3 (x + y)) :: st) σ Q := V_iadd dL_law_809 rfl
theorem e_L_law_810 : V X call mL_law 810 [v0, v1, v2, v3] (zi j :: zr (some a) :: st) (c, s, I, L, R) Q ↔ ((zT a).1 = 1 ∧ 0 ≤ j ∧ j < ((zT a).2 : Int)) ∧ V X call mL_law 811 [v0, v1, v2, v3] (zi (I a j.toNat) :: st) (c, s, I, L, R) Q := V_iaload dL_law_810 rfl
theorem e_L_law_810x : V X call mL_law 810 [v0, v1, v2, v3] (zi j :: zx 1 :: st) (c, s, I, L, R) Q ↔ (0 ≤ j ∧ j < (X.1 : Int)) ∧ V X call mL_law 811 [v0, v1, v2, v3] (zi (X.2 j.toNat) :: st) (c, s, I, L, R) Q := V_saload dL_law_810 rfl
theorem e_L_law_811 : V X call mL_law 811 [zr u, v1, v2, v3] st σ Q ↔ V X call mL_law 812 [zr u, v1, v2, v3] (zr u :: st) σ Q := W_aload_n (j := 0) dL_law_811 rfl rfl rfl
theorem e_L_law_811x : V X call mL_law 811 [zx (e + 1), v1, v2, v3] st σ Q ↔ V X call mL_law 812 [zx (e + 1), v1, v2, v3] (zx (e + 1) :: st) σ Q := W_aloadx_n (j := 0) dL_law_811 rfl rfl rfl
theorem e_L_law_812 : V X call mL_law 812 [v0, v1, v2, zi x] st σ Q ↔ V X call mL_law 813 [v0, v1, v2, zi x] (zi x :: st) σ Q := W_iload_n (j := 3) dL_law_812 rfl rfl rfl
theorem e_L_law_813 : V X call mL_law 813 [v0, v1, v2, v3] st σ Q ↔ V X call mL_law 814 [v0, v1, v2, v3] (zi (5) :: st) σ Q := V_iconst dL_law_813 (by decide) rfl
theorem e_L_law_814 : V X call mL_law 814 [v0, v1, v2, v3] (zi y :: zi x :: st) σ Q ↔ V X call mL_law 815 [v0, v1, v2, v3] (zi (zw3 (x + y)) :: st) σ Q := V_iadd dL_law_814 rfl
theorem e_L_law_815 : V X call mL_law 815 [v0, v1, v2, v3] (zi j :: zr (some a) :: st) (c, s, I, L, R) Q ↔ ((zT a).1 = 1 ∧ 0 ≤ j ∧ j < ((zT a).2 : Int)) ∧ V X call mL_law 816 [v0, v1, v2, v3] (zi (I a j.toNat) :: st) (c, s, I, L, R) Q := V_iaload dL_law_815 rfl
theorem e_L_law_815x : V X call mL_law 815 [v0, v1, v2, v3] (zi j :: zx 1 :: st) (c, s, I, L, R) Q ↔ (0 ≤ j ∧ j < (X.1 : Int)) ∧ V X call mL_law 816 [v0, v1, v2, v3] (zi (X.2 j.toNat) :: st) (c, s, I, L, R) Q := V_saload dL_law_815 rfl
theorem e_L_law_816 : V X call mL_law 816 [zr u, v1, v2, v3] st σ Q ↔ V X call mL_law 817 [zr u, v1, v2, v3] (zr u :: st) σ Q := W_aload_n (j := 0) dL_law_816 rfl rfl rfl
theorem e_L_law_816x : V X call mL_law 816 [zx (e + 1), v1, v2, v3] st σ Q ↔ V X call mL_law 817 [zx (e + 1), v1, v2, v3] (zx (e + 1) :: st) σ Q := W_aloadx_n (j := 0) dL_law_816 rfl rfl rfl
theorem e_L_law_817 : V X call mL_law 817 [v0, v1, v2, zi x] st σ Q ↔ V X call mL_law 818 [v0, v1, v2, zi x] (zi x :: st) σ Q := W_iload_n (j := 3) dL_law_817 rfl rfl rfl
theorem e_L_law_818 : V X call mL_law 818 [v0, v1, v2, v3] st σ Q ↔ V X call mL_law 820 [v0, v1, v2, v3] (zi (6) :: st) σ Q := V_bipush dL_law_818 (by decide) rfl
theorem e_L_law_820 : V X call mL_law 820 [v0, v1, v2, v3] (zi y :: zi x :: st) σ Q ↔ V X call mL_law 821 [v0, v1, v2, v3] (zi (zw3 (x + y)) :: st) σ Q := V_iadd dL_law_820 rfl
theorem e_L_law_821 : V X call mL_law 821 [v0, v1, v2, v3] (zi j :: zr (some a) :: st) (c, s, I, L, R) Q ↔ ((zT a).1 = 1 ∧ 0 ≤ j ∧ j < ((zT a).2 : Int)) ∧ V X call mL_law 822 [v0, v1, v2, v3] (zi (I a j.toNat) :: st) (c, s, I, L, R) Q := V_iaload dL_law_821 rfl
theorem e_L_law_821x : V X call mL_law 821 [v0, v1, v2, v3] (zi j :: zx 1 :: st) (c, s, I, L, R) Q ↔ (0 ≤ j ∧ j < (X.1 : Int)) ∧ V X call mL_law 822 [v0, v1, v2, v3] (zi (X.2 j.toNat) :: st) (c, s, I, L, R) Q := V_saload dL_law_821 rfl
theorem e_L_law_822 : V X call mL_law 822 [v0, v1, v2, v3] (a6 :: a5 :: a4 :: a3 :: a2 :: a1 :: zr (some a) :: st) σ Q ↔ (zT a).1 = 21 ∧ zcats st ≤ 8 ∧ zcll (call 102 [zr (some a), a1, a2, a3, a4, a5, a6] σ) (fun r τ => (σ.1 ≤ τ.1 ∧ σ.2.1 ≤ τ.2.1) ∧ V X call mL_law 825 [v0, v1, v2, v3] (zpush r st) τ Q) := V_iv6 dL_law_822 lm_13_94 zm_102 (by decide) rfl
theorem e_L_law_825 : V X call mL_law 825 [v0, v1, zr u, v3] st σ Q ↔ V X call mL_law 826 [v0, v1, zr u, v3] (zr u :: st) σ Q := W_aload_n (j := 2) dL_law_825 rfl rfl rfl
theorem e_L_law_825x : V X call mL_law 825 [v0, v1, zx (e + 1), v3] st σ Q ↔ V X call mL_law 826 [v0, v1, zx (e + 1), v3] (zx (e + 1) :: st) σ Q := W_aloadx_n (j := 2) dL_law_825 rfl rfl rfl
theorem e_L_law_826 : V X call mL_law 826 [zr u, v1, v2, v3] st σ Q ↔ V X call mL_law 827 [zr u, v1, v2, v3] (zr u :: st) σ Q := W_aload_n (j := 0) dL_law_826 rfl rfl rfl
theorem e_L_law_826x : V X call mL_law 826 [zx (e + 1), v1, v2, v3] st σ Q ↔ V X call mL_law 827 [zx (e + 1), v1, v2, v3] (zx (e + 1) :: st) σ Q := W_aloadx_n (j := 0) dL_law_826 rfl rfl rfl
theorem e_L_law_827 : V X call mL_law 827 [v0, v1, v2, zi x] st σ Q ↔ V X call mL_law 828 [v0, v1, v2, zi x] (zi x :: st) σ Q := W_iload_n (j := 3) dL_law_827 rfl rfl rfl
theorem e_L_law_828 : V X call mL_law 828 [v0, v1, v2, v3] st σ Q ↔ V X call mL_law 829 [v0, v1, v2, v3] (zi (1) :: st) σ Q := V_iconst dL_law_828 (by decide) rfl
theorem e_L_law_829 : V X call mL_law 829 [v0, v1, v2, v3] (zi y :: zi x :: st) σ Q ↔ V X call mL_law 830 [v0, v1, v2, v3] (zi (zw3 (x + y)) :: st) σ Q := V_iadd dL_law_829 rfl
theorem e_L_law_830 : V X call mL_law 830 [v0, v1, v2, v3] (zi j :: zr (some a) :: st) (c, s, I, L, R) Q ↔ ((zT a).1 = 1 ∧ 0 ≤ j ∧ j < ((zT a).2 : Int)) ∧ V X call mL_law 831 [v0, v1, v2, v3] (zi (I a j.toNat) :: st) (c, s, I, L, R) Q := V_iaload dL_law_830 rfl
theorem e_L_law_830x : V X call mL_law 830 [v0, v1, v2, v3] (zi j :: zx 1 :: st) (c, s, I, L, R) Q ↔ (0 ≤ j ∧ j < (X.1 : Int)) ∧ V X call mL_law 831 [v0, v1, v2, v3] (zi (X.2 j.toNat) :: st) (c, s, I, L, R) Q := V_saload dL_law_830 rfl
theorem e_L_law_831 : V X call mL_law 831 [zr u, v1, v2, v3] st σ Q ↔ V X call mL_law 832 [zr u, v1, v2, v3] (zr u :: st) σ Q := W_aload_n (j := 0) dL_law_831 rfl rfl rfl
theorem e_L_law_831x : V X call mL_law 831 [zx (e + 1), v1, v2, v3] st σ Q ↔ V X call mL_law 832 [zx (e + 1), v1, v2, v3] (zx (e + 1) :: st) σ Q := W_aloadx_n (j := 0) dL_law_831 rfl rfl rfl
theorem e_L_law_832 : V X call mL_law 832 [v0, v1, v2, zi x] st σ Q ↔ V X call mL_law 833 [v0, v1, v2, zi x] (zi x :: st) σ Q := W_iload_n (j := 3) dL_law_832 rfl rfl rfl
theorem e_L_law_833 : V X call mL_law 833 [v0, v1, v2, v3] st σ Q ↔ V X call mL_law 834 [v0, v1, v2, v3] (zi (2) :: st) σ Q := V_iconst dL_law_833 (by decide) rfl
theorem e_L_law_834 : V X call mL_law 834 [v0, v1, v2, v3] (zi y :: zi x :: st) σ Q ↔ V X call mL_law 835 [v0, v1, v2, v3] (zi (zw3 (x + y)) :: st) σ Q := V_iadd dL_law_834 rfl
theorem e_L_law_835 : V X call mL_law 835 [v0, v1, v2, v3] (zi j :: zr (some a) :: st) (c, s, I, L, R) Q ↔ ((zT a).1 = 1 ∧ 0 ≤ j ∧ j < ((zT a).2 : Int)) ∧ V X call mL_law 836 [v0, v1, v2, v3] (zi (I a j.toNat) :: st) (c, s, I, L, R) Q := V_iaload dL_law_835 rfl
theorem e_L_law_835x : V X call mL_law 835 [v0, v1, v2, v3] (zi j :: zx 1 :: st) (c, s, I, L, R) Q ↔ (0 ≤ j ∧ j < (X.1 : Int)) ∧ V X call mL_law 836 [v0, v1, v2, v3] (zi (X.2 j.toNat) :: st) (c, s, I, L, R) Q := V_saload dL_law_835 rfl
theorem e_L_law_836 : V X call mL_law 836 [zr u, v1, v2, v3] st σ Q ↔ V X call mL_law 837 [zr u, v1, v2, v3] (zr u :: st) σ Q := W_aload_n (j := 0) dL_law_836 rfl rfl rfl
theorem e_L_law_836x : V X call mL_law 836 [zx (e + 1), v1, v2, v3] st σ Q ↔ V X call mL_law 837 [zx (e + 1), v1, v2, v3] (zx (e + 1) :: st) σ Q := W_aloadx_n (j := 0) dL_law_836 rfl rfl rfl
theorem e_L_law_837 : V X call mL_law 837 [v0, v1, v2, zi x] st σ Q ↔ V X call mL_law 838 [v0, v1, v2, zi x] (zi x :: st) σ Q := W_iload_n (j := 3) dL_law_837 rfl rfl rfl
theorem e_L_law_838 : V X call mL_law 838 [v0, v1, v2, v3] st σ Q ↔ V X call mL_law 839 [v0, v1, v2, v3] (zi (3) :: st) σ Q := V_iconst dL_law_838 (by decide) rfl
theorem e_L_law_839 : V X call mL_law 839 [v0, v1, v2, v3] (zi y :: zi x :: st) σ Q ↔ V X call mL_law 840 [v0, v1, v2, v3] (zi (zw3 (x + y)) :: st) σ Q := V_iadd dL_law_839 rfl
theorem e_L_law_840 : V X call mL_law 840 [v0, v1, v2, v3] (zi j :: zr (some a) :: st) (c, s, I, L, R) Q ↔ ((zT a).1 = 1 ∧ 0 ≤ j ∧ j < ((zT a).2 : Int)) ∧ V X call mL_law 841 [v0, v1, v2, v3] (zi (I a j.toNat) :: st) (c, s, I, L, R) Q := V_iaload dL_law_840 rfl
theorem e_L_law_840x : V X call mL_law 840 [v0, v1, v2, v3] (zi j :: zx 1 :: st) (c, s, I, L, R) Q ↔ (0 ≤ j ∧ j < (X.1 : Int)) ∧ V X call mL_law 841 [v0, v1, v2, v3] (zi (X.2 j.toNat) :: st) (c, s, I, L, R) Q := V_saload dL_law_840 rfl
theorem e_L_law_841 : V X call mL_law 841 [zr u, v1, v2, v3] st σ Q ↔ V X call mL_law 842 [zr u, v1, v2, v3] (zr u :: st) σ Q := W_aload_n (j := 0) dL_law_841 rfl rfl rfl
theorem e_L_law_841x : V X call mL_law 841 [zx (e + 1), v1, v2, v3] st σ Q ↔ V X call mL_law 842 [zx (e + 1), v1, v2, v3] (zx (e + 1) :: st) σ Q := W_aloadx_n (j := 0) dL_law_841 rfl rfl rfl
theorem e_L_law_842 : V X call mL_law 842 [v0, v1, v2, zi x] st σ Q ↔ V X call mL_law 843 [v0, v1, v2, zi x] (zi x :: st) σ Q := W_iload_n (j := 3) dL_law_842 rfl rfl rfl
theorem e_L_law_843 : V X call mL_law 843 [v0, v1, v2, v3] st σ Q ↔ V X call mL_law 844 [v0, v1, v2, v3] (zi (4) :: st) σ Q := V_iconst dL_law_843 (by decide) rfl
theorem e_L_law_844 : V X call mL_law 844 [v0, v1, v2, v3] (zi y :: zi x :: st) σ Q ↔ V X call mL_law 845 [v0, v1, v2, v3] (zi (zw3 (x + y)) :: st) σ Q := V_iadd dL_law_844 rfl
theorem e_L_law_845 : V X call mL_law 845 [v0, v1, v2, v3] (zi j :: zr (some a) :: st) (c, s, I, L, R) Q ↔ ((zT a).1 = 1 ∧ 0 ≤ j ∧ j < ((zT a).2 : Int)) ∧ V X call mL_law 846 [v0, v1, v2, v3] (zi (I a j.toNat) :: st) (c, s, I, L, R) Q := V_iaload dL_law_845 rfl
theorem e_L_law_845x : V X call mL_law 845 [v0, v1, v2, v3] (zi j :: zx 1 :: st) (c, s, I, L, R) Q ↔ (0 ≤ j ∧ j < (X.1 : Int)) ∧ V X call mL_law 846 [v0, v1, v2, v3] (zi (X.2 j.toNat) :: st) (c, s, I, L, R) Q := V_saload dL_law_845 rfl
theorem e_L_law_846 : V X call mL_law 846 [zr u, v1, v2, v3] st σ Q ↔ V X call mL_law 847 [zr u, v1, v2, v3] (zr u :: st) σ Q := W_aload_n (j := 0) dL_law_846 rfl rfl rfl
theorem e_L_law_846x : V X call mL_law 846 [zx (e + 1), v1, v2, v3] st σ Q ↔ V X call mL_law 847 [zx (e + 1), v1, v2, v3] (zx (e + 1) :: st) σ Q := W_aloadx_n (j := 0) dL_law_846 rfl rfl rfl
theorem e_L_law_847 : V X call mL_law 847 [v0, v1, v2, zi x] st σ Q ↔ V X call mL_law 848 [v0, v1, v2, zi x] (zi x :: st) σ Q := W_iload_n (j := 3) dL_law_847 rfl rfl rfl
theorem e_L_law_848 : V X call mL_law 848 [v0, v1, v2, v3] st σ Q ↔ V X call mL_law 849 [v0, v1, v2, v3] (zi (5) :: st) σ Q := V_iconst dL_law_848 (by decide) rfl
theorem e_L_law_849 : V X call mL_law 849 [v0, v1, v2, v3] (zi y :: zi x :: st) σ Q ↔ V X call mL_law 850 [v0, v1, v2, v3] (zi (zw3 (x + y)) :: st) σ Q := V_iadd dL_law_849 rfl
theorem e_L_law_850 : V X call mL_law 850 [v0, v1, v2, v3] (zi j :: zr (some a) :: st) (c, s, I, L, R) Q ↔ ((zT a).1 = 1 ∧ 0 ≤ j ∧ j < ((zT a).2 : Int)) ∧ V X call mL_law 851 [v0, v1, v2, v3] (zi (I a j.toNat) :: st) (c, s, I, L, R) Q := V_iaload dL_law_850 rfl
theorem e_L_law_850x : V X call mL_law 850 [v0, v1, v2, v3] (zi j :: zx 1 :: st) (c, s, I, L, R) Q ↔ (0 ≤ j ∧ j < (X.1 : Int)) ∧ V X call mL_law 851 [v0, v1, v2, v3] (zi (X.2 j.toNat) :: st) (c, s, I, L, R) Q := V_saload dL_law_850 rfl
theorem e_L_law_851 : V X call mL_law 851 [zr u, v1, v2, v3] st σ Q ↔ V X call mL_law 852 [zr u, v1, v2, v3] (zr u :: st) σ Q := W_aload_n (j := 0) dL_law_851 rfl rfl rfl
theorem e_L_law_851x : V X call mL_law 851 [zx (e + 1), v1, v2, v3] st σ Q ↔ V X call mL_law 852 [zx (e + 1), v1, v2, v3] (zx (e + 1) :: st) σ Q := W_aloadx_n (j := 0) dL_law_851 rfl rfl rfl
theorem e_L_law_852 : V X call mL_law 852 [v0, v1, v2, zi x] st σ Q ↔ V X call mL_law 853 [v0, v1, v2, zi x] (zi x :: st) σ Q := W_iload_n (j := 3) dL_law_852 rfl rfl rfl
theorem e_L_law_853 : V X call mL_law 853 [v0, v1, v2, v3] st σ Q ↔ V X call mL_law 855 [v0, v1, v2, v3] (zi (6) :: st) σ Q := V_bipush dL_law_853 (by decide) rfl
theorem e_L_law_855 : V X call mL_law 855 [v0, v1, v2, v3] (zi y :: zi x :: st) σ Q ↔ V X call mL_law 856 [v0, v1, v2, v3] (zi (zw3 (x + y)) :: st) σ Q := V_iadd dL_law_855 rfl
theorem e_L_law_856 : V X call mL_law 856 [v0, v1, v2, v3] (zi j :: zr (some a) :: st) (c, s, I, L, R) Q ↔ ((zT a).1 = 1 ∧ 0 ≤ j ∧ j < ((zT a).2 : Int)) ∧ V X call mL_law 857 [v0, v1, v2, v3] (zi (I a j.toNat) :: st) (c, s, I, L, R) Q := V_iaload dL_law_856 rfl
theorem e_L_law_856x : V X call mL_law 856 [v0, v1, v2, v3] (zi j :: zx 1 :: st) (c, s, I, L, R) Q ↔ (0 ≤ j ∧ j < (X.1 : Int)) ∧ V X call mL_law 857 [v0, v1, v2, v3] (zi (X.2 j.toNat) :: st) (c, s, I, L, R) Q := V_saload dL_law_856 rfl
theorem e_L_law_857 : V X call mL_law 857 [v0, v1, v2, v3] (a6 :: a5 :: a4 :: a3 :: a2 :: a1 :: zr (some a) :: st) σ Q ↔ (zT a).1 = 22 ∧ zcats st ≤ 8 ∧ zcll (call 173 [zr (some a), a1, a2, a3, a4, a5, a6] σ) (fun r τ => (σ.1 ≤ τ.1 ∧ σ.2.1 ≤ τ.2.1) ∧ V X call mL_law 860 [v0, v1, v2, v3] (zpush r st) τ Q) := V_iv6 dL_law_857 lm_13_97 zm_173 (by decide) rfl
theorem e_L_law_860 : V X call mL_law 860 [v0, v1, v2, v3] (zi y :: zi x :: st) σ Q ↔ (if x = y then V X call mL_law 888 [v0, v1, v2, v3] st σ Q else V X call mL_law 863 [v0, v1, v2, v3] st σ Q) := V_ic_eq dL_law_860 rfl rfl
theorem e_L_law_863 : V X call mL_law 863 [v0, v1, v2, v3] st σ Q ↔ V X call mL_law 864 [v0, v1, v2, v3] (zi (0) :: st) σ Q := V_iconst dL_law_863 (by decide) rfl
theorem e_L_law_864 : V X call mL_law 864 [v0, v1, v2, v3] [zi x] σ Q ↔ zok 2 x = true ∧ Q (some (zi x), σ) := V_iret dL_law_864 rfl (by decide)
theorem e_L_law_865 : V X call mL_law 865 [v0, zr u, v2, v3] st σ Q ↔ V X call mL_law 866 [v0, zr u, v2, v3] (zr u :: st) σ Q := W_aload_n (j := 1) dL_law_865 rfl rfl rfl
theorem e_L_law_865x : V X call mL_law 865 [v0, zx (e + 1), v2, v3] st σ Q ↔ V X call mL_law 866 [v0, zx (e + 1), v2, v3] (zx (e + 1) :: st) σ Q := W_aloadx_n (j := 1) dL_law_865 rfl rfl rfl
theorem e_L_law_866 : V X call mL_law 866 [zr u, v1, v2, v3] st σ Q ↔ V X call mL_law 867 [zr u, v1, v2, v3] (zr u :: st) σ Q := W_aload_n (j := 0) dL_law_866 rfl rfl rfl
theorem e_L_law_866x : V X call mL_law 866 [zx (e + 1), v1, v2, v3] st σ Q ↔ V X call mL_law 867 [zx (e + 1), v1, v2, v3] (zx (e + 1) :: st) σ Q := W_aloadx_n (j := 0) dL_law_866 rfl rfl rfl
theorem e_L_law_867 : V X call mL_law 867 [v0, v1, v2, zi x] st σ Q ↔ V X call mL_law 868 [v0, v1, v2, zi x] (zi x :: st) σ Q := W_iload_n (j := 3) dL_law_867 rfl rfl rfl
theorem e_L_law_868 : V X call mL_law 868 [v0, v1, v2, v3] st σ Q ↔ V X call mL_law 869 [v0, v1, v2, v3] (zi (1) :: st) σ Q := V_iconst dL_law_868 (by decide) rfl
theorem e_L_law_869 : V X call mL_law 869 [v0, v1, v2, v3] (zi y :: zi x :: st) σ Q ↔ V X call mL_law 870 [v0, v1, v2, v3] (zi (zw3 (x + y)) :: st) σ Q := V_iadd dL_law_869 rfl
theorem e_L_law_870 : V X call mL_law 870 [v0, v1, v2, v3] (zi j :: zr (some a) :: st) (c, s, I, L, R) Q ↔ ((zT a).1 = 1 ∧ 0 ≤ j ∧ j < ((zT a).2 : Int)) ∧ V X call mL_law 871 [v0, v1, v2, v3] (zi (I a j.toNat) :: st) (c, s, I, L, R) Q := V_iaload dL_law_870 rfl
theorem e_L_law_870x : V X call mL_law 870 [v0, v1, v2, v3] (zi j :: zx 1 :: st) (c, s, I, L, R) Q ↔ (0 ≤ j ∧ j < (X.1 : Int)) ∧ V X call mL_law 871 [v0, v1, v2, v3] (zi (X.2 j.toNat) :: st) (c, s, I, L, R) Q := V_saload dL_law_870 rfl
theorem e_L_law_871 : V X call mL_law 871 [v0, v1, v2, v3] (a1 :: zr (some a) :: st) σ Q ↔ (zT a).1 = 21 ∧ zcats st ≤ 8 ∧ zcll (call 103 [zr (some a), a1] σ) (fun r τ => (σ.1 ≤ τ.1 ∧ σ.2.1 ≤ τ.2.1) ∧ V X call mL_law 874 [v0, v1, v2, v3] (zpush r st) τ Q) := V_iv1 dL_law_871 lm_13_98 zm_103 (by decide) rfl
theorem e_L_law_874 : V X call mL_law 874 [v0, v1, zr u, v3] st σ Q ↔ V X call mL_law 875 [v0, v1, zr u, v3] (zr u :: st) σ Q := W_aload_n (j := 2) dL_law_874 rfl rfl rfl
theorem e_L_law_874x : V X call mL_law 874 [v0, v1, zx (e + 1), v3] st σ Q ↔ V X call mL_law 875 [v0, v1, zx (e + 1), v3] (zx (e + 1) :: st) σ Q := W_aloadx_n (j := 2) dL_law_874 rfl rfl rfl
theorem e_L_law_875 : V X call mL_law 875 [zr u, v1, v2, v3] st σ Q ↔ V X call mL_law 876 [zr u, v1, v2, v3] (zr u :: st) σ Q := W_aload_n (j := 0) dL_law_875 rfl rfl rfl
theorem e_L_law_875x : V X call mL_law 875 [zx (e + 1), v1, v2, v3] st σ Q ↔ V X call mL_law 876 [zx (e + 1), v1, v2, v3] (zx (e + 1) :: st) σ Q := W_aloadx_n (j := 0) dL_law_875 rfl rfl rfl
theorem e_L_law_876 : V X call mL_law 876 [v0, v1, v2, zi x] st σ Q ↔ V X call mL_law 877 [v0, v1, v2, zi x] (zi x :: st) σ Q := W_iload_n (j := 3) dL_law_876 rfl rfl rfl
theorem e_L_law_877 : V X call mL_law 877 [v0, v1, v2, v3] st σ Q ↔ V X call mL_law 878 [v0, v1, v2, v3] (zi (1) :: st) σ Q := V_iconst dL_law_877 (by decide) rfl
theorem e_L_law_878 : V X call mL_law 878 [v0, v1, v2, v3] (zi y :: zi x :: st) σ Q ↔ V X call mL_law 879 [v0, v1, v2, v3] (zi (zw3 (x + y)) :: st) σ Q := V_iadd dL_law_878 rfl
theorem e_L_law_879 : V X call mL_law 879 [v0, v1, v2, v3] (zi j :: zr (some a) :: st) (c, s, I, L, R) Q ↔ ((zT a).1 = 1 ∧ 0 ≤ j ∧ j < ((zT a).2 : Int)) ∧ V X call mL_law 880 [v0, v1, v2, v3] (zi (I a j.toNat) :: st) (c, s, I, L, R) Q := V_iaload dL_law_879 rfl
theorem e_L_law_879x : V X call mL_law 879 [v0, v1, v2, v3] (zi j :: zx 1 :: st) (c, s, I, L, R) Q ↔ (0 ≤ j ∧ j < (X.1 : Int)) ∧ V X call mL_law 880 [v0, v1, v2, v3] (zi (X.2 j.toNat) :: st) (c, s, I, L, R) Q := V_saload dL_law_879 rfl
theorem e_L_law_880 : V X call mL_law 880 [v0, v1, v2, v3] (a1 :: zr (some a) :: st) σ Q ↔ (zT a).1 = 22 ∧ zcats st ≤ 8 ∧ zcll (call 174 [zr (some a), a1] σ) (fun r τ => (σ.1 ≤ τ.1 ∧ σ.2.1 ≤ τ.2.1) ∧ V X call mL_law 883 [v0, v1, v2, v3] (zpush r st) τ Q) := V_iv1 dL_law_880 lm_13_101 zm_174 (by decide) rfl
theorem e_L_law_883 : V X call mL_law 883 [v0, v1, v2, v3] (zi y :: zi x :: st) σ Q ↔ (if x = y then V X call mL_law 888 [v0, v1, v2, v3] st σ Q else V X call mL_law 886 [v0, v1, v2, v3] st σ Q) := V_ic_eq dL_law_883 rfl rfl
theorem e_L_law_886 : V X call mL_law 886 [v0, v1, v2, v3] st σ Q ↔ V X call mL_law 887 [v0, v1, v2, v3] (zi (0) :: st) σ Q := V_iconst dL_law_886 (by decide) rfl
theorem e_L_law_887 : V X call mL_law 887 [v0, v1, v2, v3] [zi x] σ Q ↔ zok 2 x = true ∧ Q (some (zi x), σ) := V_iret dL_law_887 rfl (by decide)
theorem e_L_law_888 : V X call mL_law 888 [v0, v1, v2, zi x] st σ Q ↔ V X call mL_law 891 [v0, v1, zinv v2, zi (zw3 (x + (7)))] st σ Q := W_iinc (j := 3) dL_law_888 rfl (by show 3 < 4; decide) rfl rfl
theorem e_L_law_891 : V X call mL_law 891 [v0, v1, v2, v3] st σ Q ↔ V X call mL_law 18 [v0, v1, v2, v3] st σ Q := V_goto dL_law_891 rfl
theorem e_L_law_894 : V X call mL_law 894 [v0, v1, v2, v3] st σ Q ↔ V X call mL_law 895 [v0, v1, v2, v3] (zi (1) :: st) σ Q := V_iconst dL_law_894 (by decide) rfl
theorem e_L_law_895 : V X call mL_law 895 [v0, v1, v2, v3] [zi x] σ Q ↔ zok 2 x = true ∧ Q (some (zi x), σ) := V_iret dL_law_895 rfl (by decide)
end
