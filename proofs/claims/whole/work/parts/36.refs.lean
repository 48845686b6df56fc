/-! The references that never change once both objects are made. -/
def zRL : List (Nat × Nat × Nat) := [(0, 0, 1), (0, 1, 3), (0, 2, 134), (0, 3, 269), (0, 4, 270), (0, 5, 275), (0, 6, 277), (0, 7, 306), (1, 0, 2), (3, 0, 1), (4, 5, 5), (4, 6, 6), (4, 7, 7), (4, 8, 8), (4, 9, 9), (7, 0, 10), (10, 1, 11), (10, 2, 15), (11, 1, 12), (11, 2, 13), (11, 3, 14), (15, 1, 16), (15, 2, 17), (15, 3, 18), (7, 1, 19), (19, 1, 20), (19, 2, 24), (20, 1, 21), (20, 2, 22), (20, 3, 23), (24, 1, 25), (24, 2, 26), (24, 3, 27), (7, 2, 28), (28, 1, 29), (28, 2, 33), (29, 1, 30), (29, 2, 31), (29, 3, 32), (33, 1, 34), (33, 2, 35), (33, 3, 36), (7, 3, 37), (37, 1, 38), (37, 2, 42), (38, 1, 39), (38, 2, 40), (38, 3, 41), (42, 1, 43), (42, 2, 44), (42, 3, 45), (7, 4, 46), (46, 1, 47), (46, 2, 51), (47, 1, 48), (47, 2, 49), (47, 3, 50), (51, 1, 52), (51, 2, 53), (51, 3, 54), (7, 5, 55), (55, 1, 56), (55, 2, 60), (56, 1, 57), (56, 2, 58), (56, 3, 59), (60, 1, 61), (60, 2, 62), (60, 3, 63), (7, 6, 64), (64, 1, 65), (64, 2, 69), (65, 1, 66), (65, 2, 67), (65, 3, 68), (69, 1, 70), (69, 2, 71), (69, 3, 72), (7, 7, 73), (73, 1, 74), (73, 2, 78), (74, 1, 75), (74, 2, 76), (74, 3, 77), (78, 1, 79), (78, 2, 80), (78, 3, 81), (7, 8, 82), (82, 1, 83), (82, 2, 87), (83, 1, 84), (83, 2, 85), (83, 3, 86), (87, 1, 88), (87, 2, 89), (87, 3, 90), (7, 9, 91), (91, 1, 92), (91, 2, 96), (92, 1, 93), (92, 2, 94), (92, 3, 95), (96, 1, 97), (96, 2, 98), (96, 3, 99), (7, 10, 100), (100, 1, 101), (100, 2, 105), (101, 1, 102), (101, 2, 103), (101, 3, 104), (105, 1, 106), (105, 2, 107), (105, 3, 108), (7, 11, 109), (109, 1, 110), (109, 2, 114), (110, 1, 111), (110, 2, 112), (110, 3, 113), (114, 1, 115), (114, 2, 116), (114, 3, 117), (8, 0, 118), (118, 1, 119), (118, 2, 120), (118, 3, 121), (8, 1, 122), (122, 1, 123), (122, 2, 124), (122, 3, 125), (8, 2, 126), (126, 1, 127), (126, 2, 128), (126, 3, 129), (8, 3, 130), (130, 1, 131), (130, 2, 132), (130, 3, 133), (135, 5, 136), (135, 6, 137), (135, 7, 138), (135, 8, 139), (135, 9, 140), (138, 0, 141), (141, 1, 142), (141, 2, 146), (142, 1, 143), (142, 2, 144), (142, 3, 145), (146, 1, 147), (146, 2, 148), (146, 3, 149), (138, 1, 150), (150, 1, 151), (150, 2, 155), (151, 1, 152), (151, 2, 153), (151, 3, 154), (155, 1, 156), (155, 2, 157), (155, 3, 158), (138, 2, 159), (159, 1, 160), (159, 2, 164), (160, 1, 161), (160, 2, 162), (160, 3, 163), (164, 1, 165), (164, 2, 166), (164, 3, 167), (138, 3, 168), (168, 1, 169), (168, 2, 173), (169, 1, 170), (169, 2, 171), (169, 3, 172), (173, 1, 174), (173, 2, 175), (173, 3, 176), (138, 4, 177), (177, 1, 178), (177, 2, 182), (178, 1, 179), (178, 2, 180), (178, 3, 181), (182, 1, 183), (182, 2, 184), (182, 3, 185), (138, 5, 186), (186, 1, 187), (186, 2, 191), (187, 1, 188), (187, 2, 189), (187, 3, 190), (191, 1, 192), (191, 2, 193), (191, 3, 194), (138, 6, 195), (195, 1, 196), (195, 2, 200), (196, 1, 197), (196, 2, 198), (196, 3, 199), (200, 1, 201), (200, 2, 202), (200, 3, 203), (138, 7, 204), (204, 1, 205), (204, 2, 209), (205, 1, 206), (205, 2, 207), (205, 3, 208), (209, 1, 210), (209, 2, 211), (209, 3, 212), (138, 8, 213), (213, 1, 214), (213, 2, 218), (214, 1, 215), (214, 2, 216), (214, 3, 217), (218, 1, 219), (218, 2, 220), (218, 3, 221), (138, 9, 222), (222, 1, 223), (222, 2, 227), (223, 1, 224), (223, 2, 225), (223, 3, 226), (227, 1, 228), (227, 2, 229), (227, 3, 230), (138, 10, 231), (231, 1, 232), (231, 2, 236), (232, 1, 233), (232, 2, 234), (232, 3, 235), (236, 1, 237), (236, 2, 238), (236, 3, 239), (138, 11, 240), (240, 1, 241), (240, 2, 245), (241, 1, 242), (241, 2, 243), (241, 3, 244), (245, 1, 246), (245, 2, 247), (245, 3, 248), (139, 0, 249), (249, 1, 250), (249, 2, 251), (249, 3, 252), (139, 1, 253), (253, 1, 254), (253, 2, 255), (253, 3, 256), (139, 2, 257), (257, 1, 258), (257, 2, 259), (257, 3, 260), (139, 3, 261), (261, 1, 262), (261, 2, 263), (261, 3, 264), (134, 2, 266), (134, 3, 267), (134, 4, 268), (269, 0, 134), (270, 0, 134), (270, 3, 273), (270, 4, 274), (275, 0, 276), (277, 0, 278), (277, 1, 290), (278, 0, 279), (278, 1, 280), (278, 2, 281), (278, 3, 282), (278, 4, 283), (278, 5, 284), (278, 6, 285), (278, 7, 286), (278, 8, 287), (278, 9, 288), (278, 10, 289), (290, 0, 291), (290, 1, 292), (290, 2, 293), (290, 3, 294), (290, 4, 295), (290, 5, 296), (290, 6, 297), (290, 7, 298), (290, 8, 299), (290, 9, 300), (290, 10, 301), (290, 11, 302), (290, 12, 303), (290, 13, 304), (290, 14, 305), (306, 0, 269), (306, 1, 307), (306, 2, 308), (306, 3, 309), (310, 1, 311), (310, 15, 312), (310, 16, 313), (310, 17, 314), (310, 18, 315), (310, 19, 316), (310, 20, 317), (310, 21, 318), (310, 22, 319), (310, 23, 320), (310, 24, 321), (310, 25, 322), (310, 26, 323), (310, 27, 324), (310, 28, 325), (310, 29, 326), (310, 30, 327), (310, 32, 328), (310, 34, 329), (310, 35, 330), (310, 36, 331), (310, 37, 332), (310, 40, 333), (310, 44, 334), (310, 45, 335), (310, 46, 336)]
def Rok (R : ZR) : Prop := ∀ e ∈ zRL, R e.1 e.2.1 = some e.2.2
theorem rr_0_0 {R : ZR} (h : Rok R) : R 0 0 = some 1 := h (0, 0, 1) (by decide +kernel)
theorem rr_0_1 {R : ZR} (h : Rok R) : R 0 1 = some 3 := h (0, 1, 3) (by decide +kernel)
theorem rr_0_2 {R : ZR} (h : Rok R) : R 0 2 = some 134 := h (0, 2, 134) (by decide +kernel)
theorem rr_0_3 {R : ZR} (h : Rok R) : R 0 3 = some 269 := h (0, 3, 269) (by decide +kernel)
theorem rr_0_4 {R : ZR} (h : Rok R) : R 0 4 = some 270 := h (0, 4, 270) (by decide +kernel)
theorem rr_0_5 {R : ZR} (h : Rok R) : R 0 5 = some 275 := h (0, 5, 275) (by decide +kernel)
theorem rr_0_6 {R : ZR} (h : Rok R) : R 0 6 = some 277 := h (0, 6, 277) (by decide +kernel)
theorem rr_0_7 {R : ZR} (h : Rok R) : R 0 7 = some 306 := h (0, 7, 306) (by decide +kernel)
theorem rr_1_0 {R : ZR} (h : Rok R) : R 1 0 = some 2 := h (1, 0, 2) (by decide +kernel)
theorem rr_3_0 {R : ZR} (h : Rok R) : R 3 0 = some 1 := h (3, 0, 1) (by decide +kernel)
theorem rr_4_5 {R : ZR} (h : Rok R) : R 4 5 = some 5 := h (4, 5, 5) (by decide +kernel)
theorem rr_4_6 {R : ZR} (h : Rok R) : R 4 6 = some 6 := h (4, 6, 6) (by decide +kernel)
theorem rr_4_7 {R : ZR} (h : Rok R) : R 4 7 = some 7 := h (4, 7, 7) (by decide +kernel)
theorem rr_4_8 {R : ZR} (h : Rok R) : R 4 8 = some 8 := h (4, 8, 8) (by decide +kernel)
theorem rr_4_9 {R : ZR} (h : Rok R) : R 4 9 = some 9 := h (4, 9, 9) (by decide +kernel)
theorem rr_135_5 {R : ZR} (h : Rok R) : R 135 5 = some 136 := h (135, 5, 136) (by decide +kernel)
theorem rr_135_6 {R : ZR} (h : Rok R) : R 135 6 = some 137 := h (135, 6, 137) (by decide +kernel)
theorem rr_135_7 {R : ZR} (h : Rok R) : R 135 7 = some 138 := h (135, 7, 138) (by decide +kernel)
theorem rr_135_8 {R : ZR} (h : Rok R) : R 135 8 = some 139 := h (135, 8, 139) (by decide +kernel)
theorem rr_135_9 {R : ZR} (h : Rok R) : R 135 9 = some 140 := h (135, 9, 140) (by decide +kernel)
theorem rr_134_2 {R : ZR} (h : Rok R) : R 134 2 = some 266 := h (134, 2, 266) (by decide +kernel)
theorem rr_134_3 {R : ZR} (h : Rok R) : R 134 3 = some 267 := h (134, 3, 267) (by decide +kernel)
theorem rr_134_4 {R : ZR} (h : Rok R) : R 134 4 = some 268 := h (134, 4, 268) (by decide +kernel)
theorem rr_269_0 {R : ZR} (h : Rok R) : R 269 0 = some 134 := h (269, 0, 134) (by decide +kernel)
theorem rr_270_0 {R : ZR} (h : Rok R) : R 270 0 = some 134 := h (270, 0, 134) (by decide +kernel)
theorem rr_270_3 {R : ZR} (h : Rok R) : R 270 3 = some 273 := h (270, 3, 273) (by decide +kernel)
theorem rr_270_4 {R : ZR} (h : Rok R) : R 270 4 = some 274 := h (270, 4, 274) (by decide +kernel)
theorem rr_275_0 {R : ZR} (h : Rok R) : R 275 0 = some 276 := h (275, 0, 276) (by decide +kernel)
theorem rr_277_0 {R : ZR} (h : Rok R) : R 277 0 = some 278 := h (277, 0, 278) (by decide +kernel)
theorem rr_277_1 {R : ZR} (h : Rok R) : R 277 1 = some 290 := h (277, 1, 290) (by decide +kernel)
theorem rr_278_0 {R : ZR} (h : Rok R) : R 278 0 = some 279 := h (278, 0, 279) (by decide +kernel)
theorem rr_278_1 {R : ZR} (h : Rok R) : R 278 1 = some 280 := h (278, 1, 280) (by decide +kernel)
theorem rr_278_2 {R : ZR} (h : Rok R) : R 278 2 = some 281 := h (278, 2, 281) (by decide +kernel)
theorem rr_278_3 {R : ZR} (h : Rok R) : R 278 3 = some 282 := h (278, 3, 282) (by decide +kernel)
theorem rr_278_4 {R : ZR} (h : Rok R) : R 278 4 = some 283 := h (278, 4, 283) (by decide +kernel)
theorem rr_278_5 {R : ZR} (h : Rok R) : R 278 5 = some 284 := h (278, 5, 284) (by decide +kernel)
theorem rr_278_6 {R : ZR} (h : Rok R) : R 278 6 = some 285 := h (278, 6, 285) (by decide +kernel)
theorem rr_278_7 {R : ZR} (h : Rok R) : R 278 7 = some 286 := h (278, 7, 286) (by decide +kernel)
theorem rr_278_8 {R : ZR} (h : Rok R) : R 278 8 = some 287 := h (278, 8, 287) (by decide +kernel)
theorem rr_278_9 {R : ZR} (h : Rok R) : R 278 9 = some 288 := h (278, 9, 288) (by decide +kernel)
theorem rr_278_10 {R : ZR} (h : Rok R) : R 278 10 = some 289 := h (278, 10, 289) (by decide +kernel)
theorem rr_290_0 {R : ZR} (h : Rok R) : R 290 0 = some 291 := h (290, 0, 291) (by decide +kernel)
theorem rr_290_1 {R : ZR} (h : Rok R) : R 290 1 = some 292 := h (290, 1, 292) (by decide +kernel)
theorem rr_290_2 {R : ZR} (h : Rok R) : R 290 2 = some 293 := h (290, 2, 293) (by decide +kernel)
theorem rr_290_3 {R : ZR} (h : Rok R) : R 290 3 = some 294 := h (290, 3, 294) (by decide +kernel)
theorem rr_290_4 {R : ZR} (h : Rok R) : R 290 4 = some 295 := h (290, 4, 295) (by decide +kernel)
theorem rr_290_5 {R : ZR} (h : Rok R) : R 290 5 = some 296 := h (290, 5, 296) (by decide +kernel)
theorem rr_290_6 {R : ZR} (h : Rok R) : R 290 6 = some 297 := h (290, 6, 297) (by decide +kernel)
theorem rr_290_7 {R : ZR} (h : Rok R) : R 290 7 = some 298 := h (290, 7, 298) (by decide +kernel)
theorem rr_290_8 {R : ZR} (h : Rok R) : R 290 8 = some 299 := h (290, 8, 299) (by decide +kernel)
theorem rr_290_9 {R : ZR} (h : Rok R) : R 290 9 = some 300 := h (290, 9, 300) (by decide +kernel)
theorem rr_290_10 {R : ZR} (h : Rok R) : R 290 10 = some 301 := h (290, 10, 301) (by decide +kernel)
theorem rr_290_11 {R : ZR} (h : Rok R) : R 290 11 = some 302 := h (290, 11, 302) (by decide +kernel)
theorem rr_290_12 {R : ZR} (h : Rok R) : R 290 12 = some 303 := h (290, 12, 303) (by decide +kernel)
theorem rr_290_13 {R : ZR} (h : Rok R) : R 290 13 = some 304 := h (290, 13, 304) (by decide +kernel)
theorem rr_290_14 {R : ZR} (h : Rok R) : R 290 14 = some 305 := h (290, 14, 305) (by decide +kernel)
theorem rr_306_0 {R : ZR} (h : Rok R) : R 306 0 = some 269 := h (306, 0, 269) (by decide +kernel)
theorem rr_306_1 {R : ZR} (h : Rok R) : R 306 1 = some 307 := h (306, 1, 307) (by decide +kernel)
theorem rr_306_2 {R : ZR} (h : Rok R) : R 306 2 = some 308 := h (306, 2, 308) (by decide +kernel)
theorem rr_306_3 {R : ZR} (h : Rok R) : R 306 3 = some 309 := h (306, 3, 309) (by decide +kernel)
theorem rr_310_1 {R : ZR} (h : Rok R) : R 310 1 = some 311 := h (310, 1, 311) (by decide +kernel)
theorem rr_310_15 {R : ZR} (h : Rok R) : R 310 15 = some 312 := h (310, 15, 312) (by decide +kernel)
theorem rr_310_16 {R : ZR} (h : Rok R) : R 310 16 = some 313 := h (310, 16, 313) (by decide +kernel)
theorem rr_310_17 {R : ZR} (h : Rok R) : R 310 17 = some 314 := h (310, 17, 314) (by decide +kernel)
theorem rr_310_18 {R : ZR} (h : Rok R) : R 310 18 = some 315 := h (310, 18, 315) (by decide +kernel)
theorem rr_310_19 {R : ZR} (h : Rok R) : R 310 19 = some 316 := h (310, 19, 316) (by decide +kernel)
theorem rr_310_20 {R : ZR} (h : Rok R) : R 310 20 = some 317 := h (310, 20, 317) (by decide +kernel)
theorem rr_310_21 {R : ZR} (h : Rok R) : R 310 21 = some 318 := h (310, 21, 318) (by decide +kernel)
theorem rr_310_22 {R : ZR} (h : Rok R) : R 310 22 = some 319 := h (310, 22, 319) (by decide +kernel)
theorem rr_310_23 {R : ZR} (h : Rok R) : R 310 23 = some 320 := h (310, 23, 320) (by decide +kernel)
theorem rr_310_24 {R : ZR} (h : Rok R) : R 310 24 = some 321 := h (310, 24, 321) (by decide +kernel)
theorem rr_310_25 {R : ZR} (h : Rok R) : R 310 25 = some 322 := h (310, 25, 322) (by decide +kernel)
theorem rr_310_26 {R : ZR} (h : Rok R) : R 310 26 = some 323 := h (310, 26, 323) (by decide +kernel)
theorem rr_310_27 {R : ZR} (h : Rok R) : R 310 27 = some 324 := h (310, 27, 324) (by decide +kernel)
theorem rr_310_28 {R : ZR} (h : Rok R) : R 310 28 = some 325 := h (310, 28, 325) (by decide +kernel)
theorem rr_310_29 {R : ZR} (h : Rok R) : R 310 29 = some 326 := h (310, 29, 326) (by decide +kernel)
theorem rr_310_30 {R : ZR} (h : Rok R) : R 310 30 = some 327 := h (310, 30, 327) (by decide +kernel)
theorem rr_310_32 {R : ZR} (h : Rok R) : R 310 32 = some 328 := h (310, 32, 328) (by decide +kernel)
theorem rr_310_34 {R : ZR} (h : Rok R) : R 310 34 = some 329 := h (310, 34, 329) (by decide +kernel)
theorem rr_310_35 {R : ZR} (h : Rok R) : R 310 35 = some 330 := h (310, 35, 330) (by decide +kernel)
theorem rr_310_36 {R : ZR} (h : Rok R) : R 310 36 = some 331 := h (310, 36, 331) (by decide +kernel)
theorem rr_310_37 {R : ZR} (h : Rok R) : R 310 37 = some 332 := h (310, 37, 332) (by decide +kernel)
theorem rr_310_40 {R : ZR} (h : Rok R) : R 310 40 = some 333 := h (310, 40, 333) (by decide +kernel)
theorem rr_310_44 {R : ZR} (h : Rok R) : R 310 44 = some 334 := h (310, 44, 334) (by decide +kernel)
theorem rr_310_45 {R : ZR} (h : Rok R) : R 310 45 = some 335 := h (310, 45, 335) (by decide +kernel)
theorem rr_310_46 {R : ZR} (h : Rok R) : R 310 46 = some 336 := h (310, 46, 336) (by decide +kernel)
theorem Rok_zu {R : ZR} {a k : Nat} {v : Option Nat} (h : Rok R) (hn : ∀ e ∈ zRL, ¬ (e.1 = a ∧ e.2.1 = k)) : Rok (zu R a k v) := fun e he => by
  unfold zu
  rw [if_neg (hn e he)]
  exact h e he
theorem rr_rule {R : ZR} (h : Rok R) {b i : Nat} (hb : b = 4 ∨ b = 135) (hi : i < 12) : R (b + 3) i = some (b + 6 + 9 * i) := by
  have : ∀ b, b = 4 ∨ b = 135 → ∀ i, i < 12 → (b + 3, i, b + 6 + 9 * i) ∈ zRL := by
    intro b hb
    rcases hb with rfl | rfl <;> decide +kernel
  exact h _ (this b hb i hi)
theorem rr_goal {R : ZR} (h : Rok R) {b i : Nat} (hb : b = 4 ∨ b = 135) (hi : i < 4) : R (b + 4) i = some (b + 114 + 4 * i) := by
  have : ∀ b, b = 4 ∨ b = 135 → ∀ i, i < 4 → (b + 4, i, b + 114 + 4 * i) ∈ zRL := by
    intro b hb
    rcases hb with rfl | rfl <;> decide +kernel
  exact h _ (this b hb i hi)
theorem rr_model {R : ZR} (h : Rok R) {b : Nat} (hb : b = 4 ∨ b = 135) : R b 5 = some (b + 1) ∧ R b 6 = some (b + 2) ∧ R b 7 = some (b + 3) ∧ R b 8 = some (b + 4) ∧ R b 9 = some (b + 5) := by
  rcases hb with rfl | rfl
  · exact ⟨h (4, 5, 5) (by decide +kernel), h (4, 6, 6) (by decide +kernel), h (4, 7, 7) (by decide +kernel), h (4, 8, 8) (by decide +kernel), h (4, 9, 9) (by decide +kernel)⟩
  · exact ⟨h (135, 5, 136) (by decide +kernel), h (135, 6, 137) (by decide +kernel), h (135, 7, 138) (by decide +kernel), h (135, 8, 139) (by decide +kernel), h (135, 9, 140) (by decide +kernel)⟩
/-- the cells of terms: those of rules and of goals -/
def zTm (t : Nat) : Prop := ∃ b, (b = 4 ∨ b = 135) ∧ ((∃ i, i < 12 ∧ (t = b + 6 + 9 * i + 1 ∨ t = b + 6 + 9 * i + 5)) ∨ ∃ i, i < 4 ∧ t = b + 114 + 4 * i)
theorem rr_t1 : ∀ b, b = 4 ∨ b = 135 → ∀ i, i < 12 → ∀ k, k < 3 → (b + 6 + 9 * i + 1, k + 1, b + 6 + 9 * i + 1 + (k + 1)) ∈ zRL := by
  intro b hb
  rcases hb with rfl | rfl <;> decide +kernel
theorem rr_t2 : ∀ b, b = 4 ∨ b = 135 → ∀ i, i < 12 → ∀ k, k < 3 → (b + 6 + 9 * i + 5, k + 1, b + 6 + 9 * i + 5 + (k + 1)) ∈ zRL := by
  intro b hb
  rcases hb with rfl | rfl <;> decide +kernel
theorem rr_t3 : ∀ b, b = 4 ∨ b = 135 → ∀ i, i < 4 → ∀ k, k < 3 → (b + 114 + 4 * i, k + 1, b + 114 + 4 * i + (k + 1)) ∈ zRL := by
  intro b hb
  rcases hb with rfl | rfl <;> decide +kernel
theorem rr_terms {R : ZR} (h : Rok R) {t : Nat} (ht : zTm t) : R t 1 = some (t + 1) ∧ R t 2 = some (t + 2) ∧ R t 3 = some (t + 3) := by
  obtain ⟨b, hb, ht⟩ := ht
  rcases ht with ⟨i, hi, rfl | rfl⟩ | ⟨i, hi, rfl⟩
  · exact ⟨h _ (rr_t1 b hb i hi 0 (by decide)), h _ (rr_t1 b hb i hi 1 (by decide)), h _ (rr_t1 b hb i hi 2 (by decide))⟩
  · exact ⟨h _ (rr_t2 b hb i hi 0 (by decide)), h _ (rr_t2 b hb i hi 1 (by decide)), h _ (rr_t2 b hb i hi 2 (by decide))⟩
  · exact ⟨h _ (rr_t3 b hb i hi 0 (by decide)), h _ (rr_t3 b hb i hi 1 (by decide)), h _ (rr_t3 b hb i hi 2 (by decide))⟩
theorem rr_ruleT {R : ZR} (h : Rok R) {b i : Nat} (hb : b = 4 ∨ b = 135) (hi : i < 12) : R (b + 6 + 9 * i) 1 = some (b + 6 + 9 * i + 1) ∧ R (b + 6 + 9 * i) 2 = some (b + 6 + 9 * i + 5) := by
  have : ∀ b, b = 4 ∨ b = 135 → ∀ i, i < 12 → (b + 6 + 9 * i, 1, b + 6 + 9 * i + 1) ∈ zRL ∧ (b + 6 + 9 * i, 2, b + 6 + 9 * i + 5) ∈ zRL := by
    intro b hb
    rcases hb with rfl | rfl <;> decide +kernel
  exact ⟨h _ (this b hb i hi).1, h _ (this b hb i hi).2⟩
theorem tt_model {b : Nat} (hb : b = 4 ∨ b = 135) : (zT b).1 = 11 ∧ zT (b + 1) = (1, 4) ∧ zT (b + 2) = (1, 4) ∧ zT (b + 3) = (5, 12) ∧ zT (b + 4) = (6, 4) ∧ zT (b + 5) = (1, 4) := by
  rcases hb with rfl | rfl <;> decide +kernel
theorem tt_rule {b i : Nat} (hb : b = 4 ∨ b = 135) (hi : i < 12) : (zT (b + 6 + 9 * i)).1 = 15 := by
  have : ∀ b, b = 4 ∨ b = 135 → ∀ i, i < 12 → (zT (b + 6 + 9 * i)).1 = 15 := by
    intro b hb
    rcases hb with rfl | rfl <;> decide +kernel
  exact this b hb i hi
theorem tt_t1 : ∀ b, b = 4 ∨ b = 135 → ∀ i, i < 12 → zT (b + 6 + 9 * i + 1) = (19, 4) := by
  intro b hb
  rcases hb with rfl | rfl <;> decide +kernel
theorem tt_t2 : ∀ b, b = 4 ∨ b = 135 → ∀ i, i < 12 → ∀ k, k < 3 → zT (b + 6 + 9 * i + 1 + (k + 1)) = (1, 3) := by
  intro b hb
  rcases hb with rfl | rfl <;> decide +kernel
theorem tt_t3 : ∀ b, b = 4 ∨ b = 135 → ∀ i, i < 12 → zT (b + 6 + 9 * i + 5) = (19, 4) := by
  intro b hb
  rcases hb with rfl | rfl <;> decide +kernel
theorem tt_t4 : ∀ b, b = 4 ∨ b = 135 → ∀ i, i < 12 → ∀ k, k < 3 → zT (b + 6 + 9 * i + 5 + (k + 1)) = (1, 3) := by
  intro b hb
  rcases hb with rfl | rfl <;> decide +kernel
theorem tt_t5 : ∀ b, b = 4 ∨ b = 135 → ∀ i, i < 4 → zT (b + 114 + 4 * i) = (19, 4) := by
  intro b hb
  rcases hb with rfl | rfl <;> decide +kernel
theorem tt_t6 : ∀ b, b = 4 ∨ b = 135 → ∀ i, i < 4 → ∀ k, k < 3 → zT (b + 114 + 4 * i + (k + 1)) = (1, 3) := by
  intro b hb
  rcases hb with rfl | rfl <;> decide +kernel
theorem tt_terms {t : Nat} (ht : zTm t) : (zT t).1 = 19 ∧ zT (t + 1) = (1, 3) ∧ zT (t + 2) = (1, 3) ∧ zT (t + 3) = (1, 3) := by
  obtain ⟨b, hb, ht⟩ := ht
  rcases ht with ⟨i, hi, rfl | rfl⟩ | ⟨i, hi, rfl⟩
  · exact ⟨by rw [tt_t1 b hb i hi], tt_t2 b hb i hi 0 (by decide), tt_t2 b hb i hi 1 (by decide), tt_t2 b hb i hi 2 (by decide)⟩
  · exact ⟨by rw [tt_t3 b hb i hi], tt_t4 b hb i hi 0 (by decide), tt_t4 b hb i hi 1 (by decide), tt_t4 b hb i hi 2 (by decide)⟩
  · exact ⟨by rw [tt_t5 b hb i hi], tt_t6 b hb i hi 0 (by decide), tt_t6 b hb i hi 1 (by decide), tt_t6 b hb i hi 2 (by decide)⟩

