/-! What the tables stand on: words of the Statement by their places in lw_tbl. -/
theorem zlk_mem {α β : Type} [BEq α] [LawfulBEq α] : ∀ (l : List (α × β)) (a : α) (b : β), l.lookup a = some b → (a, b) ∈ l := by
  intro l a b
  induction l with
  | nil => intro h; cases h
  | cons x l ih =>
    intro h
    obtain ⟨k, v⟩ := x
    rw [List.lookup_cons] at h
    by_cases hk : (a == k) = true
    · rw [hk] at h
      have hk := eq_of_beq hk
      cases h
      subst hk
      exact List.mem_cons_self
    · rw [Bool.not_eq_true] at hk
      rw [hk] at h
      exact List.mem_cons_of_mem _ (ih h)
theorem zip_mem {α β : Type} {l : List α} {m : List β} (hl : l.length = m.length) {a : α} (h : a ∈ l) : ∃ b, (a, b) ∈ l.zip m := by
  obtain ⟨i, hi⟩ := List.getElem?_of_mem h
  have h1 : i < l.length := (List.getElem?_eq_some_iff.mp hi).1
  refine ⟨m[i]'(by omega), List.mem_of_getElem? (i := i) ?_⟩
  rw [List.getElem?_zip_eq_some]
  exact ⟨hi, List.getElem?_eq_getElem (by omega)⟩
def zat (i : Nat) (w : Cond) : Bool := decide (lw_tbl[i]? = some w) && goodWord w
theorem zat_ok {i : Nat} {w : Cond} (h : zat i w = true) : w ∈ lw_tbl ∧ goodWord w = true := by
  unfold zat at h
  rw [Bool.and_eq_true, decide_eq_true_eq] at h
  exact ⟨List.mem_of_getElem? h.1, h.2⟩
def zTf : Nat → u_T := fun c => ([TX0, TX1, TX2, TX3, TX4, TX5, TX6, TX7, TX8, TX9, TX10, TX11, TX12] : List u_T).getD c TX0
def zty : Nat → Nat → FieldType := fun c => ([tyX0, tyX1, tyX2, tyX3, tyX4, tyX5, tyX6, tyX7, tyX8, tyX9, tyX10, tyX11, tyX12] : List (Nat → FieldType)).getD c tyX0
def zkd : FieldType → Nat
  | .boolean => 2
  | .char => 3
  | .byte => 4
  | .short => 5
  | _ => 1
def zcc : FieldType → Nat
  | .long => 1
  | .object _ => 2
  | .array _ => 2
  | .float => 3
  | .double => 3
  | _ => 0
theorem zcl_at : ∀ c, c < 13 → vwCl[c]? = some (zown c, zTf c, zfn c) := by
  intro c hc
  match c, hc with
  | 0, _ => rfl
  | 1, _ => rfl
  | 2, _ => rfl
  | 3, _ => rfl
  | 4, _ => rfl
  | 5, _ => rfl
  | 6, _ => rfl
  | 7, _ => rfl
  | 8, _ => rfl
  | 9, _ => rfl
  | 10, _ => rfl
  | 11, _ => rfl
  | 12, _ => rfl
  | c + 13, h => exact absurd h (by omega)
theorem zty_ok : ∀ c, c < 13 → ∀ k, k < zfn c → parseFieldDescriptor (zTf c k).2.2.1 = some (zty c k) := by
  intro c hc
  match c, hc with
  | 0, _ => exact tyX0_ok
  | 1, _ => exact tyX1_ok
  | 2, _ => exact tyX2_ok
  | 3, _ => exact tyX3_ok
  | 4, _ => exact tyX4_ok
  | 5, _ => exact tyX5_ok
  | 6, _ => exact tyX6_ok
  | 7, _ => exact tyX7_ok
  | 8, _ => exact tyX8_ok
  | 9, _ => exact tyX9_ok
  | 10, _ => exact tyX10_ok
  | 11, _ => exact tyX11_ok
  | 12, _ => exact tyX12_ok
  | c + 13, h => exact absurd h (by omega)
theorem znm_ok : ∀ c, c < 13 → ∀ a, a < zfn c → ∀ b, b < zfn c → a ≠ b → (zTf c a).2.1 ≠ (zTf c b).2.1 := by
  intro c hc
  match c, hc with
  | 0, _ => exact nmX0
  | 1, _ => exact nmX1
  | 2, _ => exact nmX2
  | 3, _ => exact nmX3
  | 4, _ => exact nmX4
  | 5, _ => exact nmX5
  | 6, _ => exact nmX6
  | 7, _ => exact nmX7
  | 8, _ => exact nmX8
  | 9, _ => exact nmX9
  | 10, _ => exact nmX10
  | 11, _ => exact nmX11
  | 12, _ => exact nmX12
  | c + 13, h => exact absurd h (by omega)
theorem zly_0 : ((List.range 6).zip [348, 350, 352, 354, 356, 358]).all (fun q => zat q.2 (u_lay RX0 TX0 q.1)) = true := by decide +kernel
theorem zly_1 : ((List.range 10).zip [227, 229, 231, 233, 235, 237, 239, 241, 243, 245]).all (fun q => zat q.2 (u_lay RX1 TX1 q.1)) = true := by decide +kernel
theorem zly_2 : ((List.range 2).zip [371, 373]).all (fun q => zat q.2 (u_lay RX2 TX2 q.1)) = true := by decide +kernel
theorem zly_3 : ((List.range 4).zip [254, 256, 258, 260]).all (fun q => zat q.2 (u_lay RX3 TX3 q.1)) = true := by decide +kernel
theorem zly_4 : ((List.range 5).zip [318, 320, 322, 324, 326]).all (fun q => zat q.2 (u_lay RX4 TX4 q.1)) = true := by decide +kernel
theorem zly_5 : ((List.range 3).zip [187, 189, 191]).all (fun q => zat q.2 (u_lay RX5 TX5 q.1)) = true := by decide +kernel
theorem zly_6 : ((List.range 10).zip [392, 394, 396, 398, 400, 402, 404, 406, 408, 410]).all (fun q => zat q.2 (u_lay RX6 TX6 q.1)) = true := by decide +kernel
theorem zly_7 : ((List.range 5).zip [279, 281, 283, 285, 287]).all (fun q => zat q.2 (u_lay RX7 TX7 q.1)) = true := by decide +kernel
theorem zly_8 : ((List.range 8).zip [117, 119, 121, 123, 125, 127, 129, 131]).all (fun q => zat q.2 (u_lay RX8 TX8 q.1)) = true := by decide +kernel
theorem zly_9 : ((List.range 4).zip [167, 169, 171, 173]).all (fun q => zat q.2 (u_lay RX9 TX9 q.1)) = true := by decide +kernel
theorem zly_10 : ((List.range 3).zip [300, 302, 304]).all (fun q => zat q.2 (u_lay RX10 TX10 q.1)) = true := by decide +kernel
theorem zly_11 : ((List.range 11).zip [424, 426, 428, 430, 432, 434, 436, 438, 440, 442, 444]).all (fun q => zat q.2 (u_lay RX11 TX11 q.1)) = true := by decide +kernel
theorem zly_12 : ((List.range 47).zip [1049, 1051, 1053, 1055, 1057, 1059, 1061, 1063, 1065, 1067, 1069, 1071, 1073, 1075, 1077, 1079, 1081, 1083, 1085, 1087, 1089, 1091, 1093, 1095, 1097, 1099, 1101, 1103, 1105, 1107, 1109, 1111, 1113, 1115, 1117, 1119, 1121, 1123, 1125, 1127, 1129, 1131, 1133, 1135, 1137, 1139, 1141]).all (fun q => zat q.2 (u_lay RX12 TX12 q.1)) = true := by decide +kernel
theorem zly_of {C : String} {T : u_T} {N : Nat} {ps : List Nat} (hN : ps.length = N) (h : ((List.range N).zip ps).all (fun q => zat q.2 (u_lay C T q.1)) = true) : ∀ w ∈ u_ws C T N, w ∈ lw_tbl ∧ goodWord w = true := by
  intro w hw
  obtain ⟨k, hk, rfl⟩ := List.mem_map.mp hw
  obtain ⟨i, hi⟩ := zip_mem (m := ps) (by rw [List.length_range, hN]) hk
  exact zat_ok (List.all_eq_true.mp h _ hi)
theorem zly : ∀ c, c < 13 → ∀ w ∈ u_ws (zown c) (zTf c) (zfn c), w ∈ lw_tbl ∧ goodWord w = true := by
  intro c hc
  match c, hc with
  | 0, _ => exact zly_of rfl zly_0
  | 1, _ => exact zly_of rfl zly_1
  | 2, _ => exact zly_of rfl zly_2
  | 3, _ => exact zly_of rfl zly_3
  | 4, _ => exact zly_of rfl zly_4
  | 5, _ => exact zly_of rfl zly_5
  | 6, _ => exact zly_of rfl zly_6
  | 7, _ => exact zly_of rfl zly_7
  | 8, _ => exact zly_of rfl zly_8
  | 9, _ => exact zly_of rfl zly_9
  | 10, _ => exact zly_of rfl zly_10
  | 11, _ => exact zly_of rfl zly_11
  | 12, _ => exact zly_of rfl zly_12
  | c + 13, h => exact absurd h (by omega)
def zfW : List Nat := [337, 338, 340, 342, 344, 346, 211, 216, 218, 220, 223, 226, 195, 201, 203, 207, 185, 369, 370, 249, 248, 221, 204, 224, 208, 251, 106, 253, 113, 199, 112, 214, 178, 181, 184, 110, 163, 116, 314, 315, 316, 317, 313, 274, 198, 213, 180, 183, 177, 383, 384, 385, 382, 386, 387, 388, 389, 390, 391, 299, 271, 275, 276, 277, 278, 219, 197, 215, 206, 222, 182, 186, 217, 179, 210, 225, 103, 104, 108, 107, 109, 111, 114, 115, 164, 165, 166, 162, 296, 297, 298, 273, 196, 413, 414, 415, 416, 417, 418, 419, 420, 272, 421, 105, 250, 423, 252, 212, 422, 200, 202, 205, 209, 343, 345, 347, 339, 341, 1003, 1017, 1018, 1019, 1020, 1021, 1022, 1023, 1024, 1025, 1026, 1027, 1028, 1029, 1030, 1031, 1032, 1034, 1036, 1037, 1038, 1039, 1040, 1041, 1042, 1046, 1047, 1048, 1002, 1004, 1006, 1007, 1009, 1011, 1008, 1010, 1012, 1013, 1015, 1014, 1005, 1016, 1033, 1035, 1043, 1044, 1045, 1413, 1412]
def zokF (q : ((Nat × Nat) × Nat × Nat × Nat × Nat) × Nat) : Bool := match q with
  | (((cN, ix), ci, f, s, w), i) => decide (s = 3 ∧ cN = 14 ∧ ci = 100) || (decide (ci < 13 ∧ f < zfn ci ∧ s = zct ci f ∧ s = zcc (zty ci f) ∧ s < 3 ∧ w % 10 = zkd (zty ci f) ∧ (zTf ci f).2.2.2 = decide (10 ≤ w) ∧ (zTf ci f).1 = zown ci) && zat i (.fieldLink (zown cN) ix (zown ci) (zTf ci f).2.1 (zTf ci f).2.2.1))
theorem zflL_ok : (zflL.zip zfW).all zokF = true := by decide +kernel
theorem zflL_len : zflL.length = zfW.length := by decide +kernel
theorem zfl_ok {cN ix ci f s w : Nat} (h : zfl cN ix = some (ci, f, s, w)) (hs : ¬ s = 3) : ci < 13 ∧ f < zfn ci ∧ s = zct ci f ∧ s = zcc (zty ci f) ∧ w % 10 = zkd (zty ci f) ∧ (zTf ci f).2.2.2 = decide (10 ≤ w) ∧ (zTf ci f).1 = zown ci ∧ (Cond.fieldLink (zown cN) ix (zown ci) (zTf ci f).2.1 (zTf ci f).2.2.1 ∈ lw_tbl ∧ goodWord (Cond.fieldLink (zown cN) ix (zown ci) (zTf ci f).2.1 (zTf ci f).2.2.1) = true) := by
  obtain ⟨i, hi⟩ := zip_mem zflL_len (zlk_mem _ _ _ h)
  have h1 := List.all_eq_true.mp zflL_ok _ hi
  simp only [zokF, Bool.or_eq_true, Bool.and_eq_true, decide_eq_true_eq] at h1
  rcases h1 with h1 | h1
  · exact absurd h1.1 hs
  · obtain ⟨⟨h1, h2, h3, h4, h5, h6, h7, h8⟩, h9⟩ := h1
    exact ⟨h1, h2, h3, h4, h6, h7, h8, zat_ok h9⟩
theorem zfl_txt {cN ix ci f w : Nat} (h : zfl cN ix = some (ci, f, 3, w)) : cN = 14 ∧ ((ix = 9 ∧ f = 0) ∨ (ix = 15 ∧ f = 1)) := by
  have hm := zlk_mem _ _ _ h
  have h0 : ∀ e ∈ zflL, e.2.2.2.1 = 3 → e.1.1 = 14 ∧ ((e.1.2 = 9 ∧ e.2.2.1 = 0) ∨ (e.1.2 = 15 ∧ e.2.2.1 = 1)) := by decide +kernel
  exact h0 _ hm rfl
theorem zlay_ok : ∀ e ∈ zlay, (10 ≤ e.1 → e.2 = zfn (e.1 - 10) ∧ e.1 < 23) ∧ (1 ≤ e.1) ∧ (e.1 < 10 → e.1 < 8) ∧ e.2 < 100000 := by decide +kernel
theorem zT_ok {a : Nat} (h : 1 ≤ (zT a).1) : (10 ≤ (zT a).1 → (zT a).2 = zfn ((zT a).1 - 10) ∧ (zT a).1 < 23) ∧ ((zT a).1 < 10 → (zT a).1 < 8) ∧ (zT a).2 < 100000 := by
  unfold zT at h ⊢
  rw [List.getD_eq_getElem?_getD] at h ⊢
  cases hz : zlay[a]? with
  | none => rw [hz] at h; exact absurd h (by decide)
  | some e =>
    have := zlay_ok e (List.mem_of_getElem? hz)
    exact ⟨this.1, this.2.2.1, this.2.2.2⟩
def zmW : List (Nat × Nat × Nat × Nat) := [(335, 77, 334, 0), (690, 77, 688, 689), (883, 77, 881, 882), (888, 77, 886, 887), (892, 77, 890, 891), (145, 71, 144, 0), (466, 71, 464, 465), (633, 71, 631, 632), (629, 71, 627, 628), (741, 71, 739, 740), (762, 71, 760, 761), (817, 71, 815, 816), (991, 71, 989, 990), (365, 78, 364, 0), (911, 78, 910, 0), (914, 78, 913, 0), (918, 78, 916, 917), (939, 78, 937, 938), (947, 78, 945, 946), (957, 78, 955, 956), (934, 78, 933, 29), (922, 78, 921, 26), (930, 78, 929, 28), (926, 78, 925, 27), (139, 70, 138, 0), (462, 70, 460, 461), (679, 70, 677, 678), (603, 70, 602, 3), (573, 70, 572, 2), (621, 70, 620, 6), (638, 70, 637, 8), (666, 70, 665, 11), (671, 70, 670, 12), (651, 70, 650, 9), (655, 70, 654, 10), (625, 70, 624, 7), (608, 70, 607, 4), (612, 70, 611, 5), (311, 76, 310, 0), (835, 76, 833, 834), (862, 76, 860, 861), (871, 76, 869, 870), (875, 76, 874, 24), (843, 76, 842, 22), (839, 76, 838, 21), (850, 76, 849, 23), (154, 72, 153, 0), (642, 72, 640, 641), (380, 79, 379, 0), (965, 79, 963, 964), (976, 79, 975, 31), (971, 79, 970, 30), (981, 79, 980, 32), (267, 74, 266, 0), (683, 74, 681, 682), (737, 74, 735, 736), (795, 74, 793, 794), (798, 74, 797, 0), (801, 74, 800, 0), (750, 74, 748, 749), (754, 74, 753, 16), (758, 74, 757, 17), (766, 74, 765, 18), (784, 74, 783, 19), (101, 69, 100, 0), (454, 69, 452, 453), (675, 69, 673, 674), (470, 69, 468, 469), (474, 69, 472, 473), (478, 69, 477, 0), (569, 69, 568, 1), (616, 69, 614, 615), (578, 69, 576, 577), (160, 73, 159, 0), (646, 73, 644, 645), (660, 73, 658, 659), (770, 73, 768, 769), (777, 73, 775, 776), (995, 73, 993, 994), (294, 75, 293, 0), (732, 75, 730, 731), (788, 75, 786, 787), (746, 75, 744, 745), (813, 75, 811, 812), (93, 68, 92, 0), (450, 68, 448, 449), (458, 68, 456, 457), (697, 68, 695, 696), (701, 68, 699, 700), (705, 68, 703, 704), (713, 68, 711, 712), (805, 68, 803, 804), (821, 68, 819, 820), (825, 68, 823, 824), (857, 68, 855, 856), (867, 68, 865, 866), (879, 68, 877, 878), (896, 68, 894, 895), (900, 68, 898, 899), (908, 68, 906, 907), (943, 68, 941, 942), (953, 68, 951, 952), (961, 68, 959, 960), (987, 68, 985, 986), (709, 68, 708, 13), (717, 68, 716, 14), (809, 68, 808, 20), (720, 68, 719, 0), (723, 68, 722, 0), (728, 68, 727, 15), (904, 68, 903, 25), (830, 68, 829, 0), (1000, 80, 999, 0), (1151, 80, 1150, 0), (1147, 80, 1145, 1146), (1164, 80, 1163, 34), (1167, 80, 1166, 0), (1170, 80, 1169, 0), (1160, 80, 1159, 33), (1183, 80, 1182, 37), (1179, 80, 1178, 36), (1199, 80, 1198, 41), (1195, 80, 1194, 40), (1174, 80, 1173, 35), (1191, 80, 1190, 39), (1187, 80, 1186, 38), (1208, 80, 1207, 43), (1213, 80, 1212, 44), (1204, 80, 1203, 42), (1226, 80, 1225, 47), (1222, 80, 1221, 46), (1230, 80, 1229, 48), (1218, 80, 1217, 45), (1235, 80, 1234, 49), (1156, 80, 1154, 1155), (1243, 80, 1241, 1242), (1247, 80, 1245, 1246), (1251, 80, 1249, 1250), (1278, 80, 1277, 54), (1286, 80, 1285, 56), (1282, 80, 1281, 55), (1296, 80, 1295, 58), (1300, 80, 1299, 59), (1273, 80, 1272, 53), (1290, 80, 1289, 57), (1260, 80, 1259, 51), (1308, 80, 1307, 60), (1264, 80, 1263, 0), (1269, 80, 1268, 52), (1256, 80, 1254, 1255), (1304, 80, 1302, 1303), (1312, 80, 1310, 1311), (1332, 80, 1331, 63), (1340, 80, 1339, 65), (1322, 80, 1321, 61), (1336, 80, 1335, 64), (1328, 80, 1327, 62), (1316, 80, 1314, 1315), (1344, 80, 1342, 1343), (1349, 80, 1347, 1348), (1239, 80, 1238, 50), (1353, 80, 1351, 1352), (1358, 80, 1356, 1357), (1362, 80, 1360, 1361), (1381, 80, 1380, 0), (1378, 80, 1377, 0), (1375, 80, 1374, 0), (1372, 80, 1371, 0), (1385, 80, 1384, 0), (1367, 80, 1365, 1366), (1389, 80, 1387, 1388), (1393, 80, 1391, 1392), (1406, 80, 1405, 66), (1400, 80, 1398, 1399), (1410, 80, 1408, 1409), (497, 81, 495, 496), (583, 81, 581, 582), (483, 81, 481, 482), (487, 81, 485, 486), (501, 81, 499, 500), (491, 81, 489, 490), (589, 81, 588, 0), (586, 82, 585, 0), (507, 82, 506, 0), (504, 82, 503, 0), (516, 82, 515, 0), (693, 87, 692, 0), (686, 87, 685, 0), (592, 85, 591, 0)]
/-- what a kind of answer is -/
def zrt (k : Nat) (r : Option FieldType) : Bool := match k, r with
  | 0, none => true
  | 9, none => true
  | 1, some .int => true
  | 2, some .boolean => true
  | 3, some .char => true
  | 4, some .byte => true
  | 5, some .long => true
  | 6, some (.object _) => true
  | _, _ => false
def zokM (q : (((ZM × Nat × Nat) × MethodName) × Option FieldType) × (Nat × Nat × Nat × Nat)) : Bool := match q with
  | (((((cd, cN, rk), mL, rt), y), r), (i1, i2, i3, i4)) => zat i2 (.initialized y.cls) && decide (zown cN = y.cls ∧ mL ≤ 14 ∧ y.cls ≠ "java/lang/invoke/MethodHandle" ∧ y.cls ≠ "java/lang/invoke/VarHandle" ∧ plainName y.cls = true ∧ (rk = 9 ↔ y.name = "<init>") ∧ cN < 22) && zrt rk r && (if rt = 0 then zat i3 (.static y) else zat i3 (.instanceMethod y)) && (decide (rt = 0 ∨ rk = 9) || zat i4 (.selects y.cls y y)) && decide (rt = 0 ∨ (rt = 1 ∧ y.cls = "java/lang/String") ∨ (10 ≤ rt ∧ rt < 23 ∧ zown (rt - 10) = y.cls))
def zmAll : List ((((ZM × Nat × Nat) × MethodName) × Option FieldType) × (Nat × Nat × Nat × Nat)) := ((zmtL.zip zmnL).zip zmrL).zip zmW
theorem zmtL_ok0 : ((zmAll.drop 0).take 40).all zokM = true := by decide +kernel
theorem zmtL_ok1 : ((zmAll.drop 40).take 40).all zokM = true := by decide +kernel
theorem zmtL_ok2 : ((zmAll.drop 80).take 40).all zokM = true := by decide +kernel
theorem zmtL_ok3 : ((zmAll.drop 120).take 40).all zokM = true := by decide +kernel
theorem zmtL_ok4 : ((zmAll.drop 160).take 40).all zokM = true := by decide +kernel
theorem zmtL_len : zmtL.length = 189 ∧ zmnL.length = 189 ∧ zmrL.length = 189 ∧ zmW.length = 189 ∧ zmAll.length = 189 := by decide +kernel
theorem zmAll_ok {k : Nat} {q : (((ZM × Nat × Nat) × MethodName) × Option FieldType) × (Nat × Nat × Nat × Nat)} (h : zmAll[k]? = some q) : zokM q = true := by
  have hk : k < 189 := by
    have := (List.getElem?_eq_some_iff.mp h).1
    rw [zmtL_len.2.2.2.2] at this
    exact this
  have h1 : ∀ j : Nat, j * 40 ≤ k → k < j * 40 + 40 → ((zmAll.drop (j * 40)).take 40).all zokM = true → zokM q = true := by
    intro j h1 h2 h3
    refine List.all_eq_true.mp h3 q (List.mem_of_getElem? (i := k - j * 40) ?_)
    rw [List.getElem?_take_of_lt (by omega), List.getElem?_drop, show j * 40 + (k - j * 40) = k by omega]
    exact h
  rcases (show k < 40 ∨ (40 ≤ k ∧ k < 80) ∨ (80 ≤ k ∧ k < 120) ∨ (120 ≤ k ∧ k < 160) ∨ (160 ≤ k ∧ k < 200) by omega) with h2 | h2 | h2 | h2 | h2
  · exact h1 0 (by omega) (by omega) zmtL_ok0
  · exact h1 1 (by omega) (by omega) zmtL_ok1
  · exact h1 2 (by omega) (by omega) zmtL_ok2
  · exact h1 3 (by omega) (by omega) zmtL_ok3
  · exact h1 4 (by omega) (by omega) zmtL_ok4
def zall (P : Nat → Prop) : Nat → Prop
  | 0 => True
  | n + 1 => zall P n ∧ P n
theorem zall_at {P : Nat → Prop} : ∀ (n : Nat), zall P n → ∀ k, k < n → P k := by
  intro n
  induction n with
  | zero => intro _ k hk; omega
  | succ n ih =>
    intro h k hk
    by_cases hkn : k = n
    · subst hkn; exact h.2
    · exact ih h.1 k (by omega)
abbrev zcdP : Nat → Prop := fun μ => Cond.code (zmn μ) (zmt μ).1.1 (zmt μ).2.1 (zmr μ) ∈ lw_tbl
set_option maxRecDepth 20000 in
theorem zcd_0 : Cond.code yX0_init cX0_init 1 none ∈ lw_tbl := List.mem_append_right _ (List.mem_append_right _ (List.mem_append_left _ (List.mem_of_getElem? (i := 28) rfl)))
set_option maxRecDepth 20000 in
theorem zcd_1 : Cond.code yX0_clear cX0_clear 1 none ∈ lw_tbl := List.mem_append_right _ (List.mem_append_right _ (List.mem_append_right _ (List.mem_append_left _ (List.mem_of_getElem? (i := 143) rfl))))
set_option maxRecDepth 20000 in
theorem zcd_2 : Cond.code yX0_turnTo cX0_turnTo 3 none ∈ lw_tbl := List.mem_append_right _ (List.mem_append_right _ (List.mem_append_right _ (List.mem_append_right _ (List.mem_append_left _ (List.mem_of_getElem? (i := 96) rfl)))))
set_option maxRecDepth 20000 in
theorem zcd_3 : Cond.code yX0_takes cX0_takes 5 (some .boolean) ∈ lw_tbl := List.mem_append_right _ (List.mem_append_right _ (List.mem_append_right _ (List.mem_append_right _ (List.mem_append_left _ (List.mem_of_getElem? (i := 101) rfl)))))
set_option maxRecDepth 20000 in
theorem zcd_4 : Cond.code yX0_note cX0_note 2 none ∈ lw_tbl := List.mem_append_right _ (List.mem_append_right _ (List.mem_append_right _ (List.mem_append_right _ (List.mem_append_left _ (List.mem_of_getElem? (i := 105) rfl)))))
set_option maxRecDepth 20000 in
theorem zcd_5 : Cond.code yX1_init cX1_init 2 none ∈ lw_tbl := List.mem_append_right _ (List.mem_append_left _ (List.mem_of_getElem? (i := 78) rfl))
set_option maxRecDepth 20000 in
theorem zcd_6 : Cond.code yX1_clear cX1_clear 1 none ∈ lw_tbl := List.mem_append_right _ (List.mem_append_right _ (List.mem_append_left _ (List.mem_of_getElem? (i := 159) rfl)))
set_option maxRecDepth 20000 in
theorem zcd_7 : Cond.code yX1_addVar cX1_addVar 4 none ∈ lw_tbl := List.mem_append_right _ (List.mem_append_right _ (List.mem_append_right _ (List.mem_append_left _ (List.mem_of_getElem? (i := 86) rfl))))
set_option maxRecDepth 20000 in
theorem zcd_8 : Cond.code yX1_varNamed cX1_varNamed 3 (some .int) ∈ lw_tbl := List.mem_append_right _ (List.mem_append_right _ (List.mem_append_right _ (List.mem_append_left _ (List.mem_of_getElem? (i := 82) rfl))))
set_option maxRecDepth 20000 in
theorem zcd_9 : Cond.code yX1_stateOf cX1_stateOf 4 (some .int) ∈ lw_tbl := List.mem_append_right _ (List.mem_append_right _ (List.mem_append_right _ (List.mem_append_left _ (List.mem_of_getElem? (i := 194) rfl))))
set_option maxRecDepth 20000 in
theorem zcd_10 : Cond.code yX1_valuesOf cX1_valuesOf 6 none ∈ lw_tbl := List.mem_append_right _ (List.mem_append_right _ (List.mem_append_right _ (List.mem_append_left _ (List.mem_of_getElem? (i := 215) rfl))))
set_option maxRecDepth 20000 in
theorem zcd_11 : Cond.code yX1_valueIn cX1_valueIn 7 (some .int) ∈ lw_tbl := List.mem_append_right _ (List.mem_append_right _ (List.mem_append_right _ (List.mem_append_right _ (List.mem_append_left _ (List.mem_of_getElem? (i := 30) rfl)))))
set_option maxRecDepth 20000 in
theorem zcd_12 : Cond.code yX1_rulesMoving cX1_rulesMoving 4 (some .int) ∈ lw_tbl := List.mem_append_right _ (List.mem_append_right _ (List.mem_append_right _ (List.mem_append_right _ (List.mem_append_left _ (List.mem_of_getElem? (i := 204) rfl)))))
set_option maxRecDepth 20000 in
theorem zcd_13 : Cond.code yX2_init cX2_init 3 none ∈ lw_tbl := List.mem_append_right _ (List.mem_append_right _ (List.mem_append_left _ (List.mem_of_getElem? (i := 58) rfl)))
set_option maxRecDepth 20000 in
theorem zcd_14 : Cond.code yX2_isSize cX2_isSize 1 (some .boolean) ∈ lw_tbl := List.mem_append_right _ (List.mem_append_right _ (List.mem_append_right _ (List.mem_append_right _ (List.mem_append_left _ (List.mem_of_getElem? (i := 124) rfl)))))
set_option maxRecDepth 20000 in
theorem zcd_15 : Cond.code yX2_isChance cX2_isChance 1 (some .boolean) ∈ lw_tbl := List.mem_append_right _ (List.mem_append_right _ (List.mem_append_right _ (List.mem_append_right _ (List.mem_append_left _ (List.mem_of_getElem? (i := 127) rfl)))))
set_option maxRecDepth 20000 in
theorem zcd_16 : Cond.code yX2_low cX2_low 5 (some .int) ∈ lw_tbl := List.mem_append_right _ (List.mem_append_right _ (List.mem_append_right _ (List.mem_append_right _ (List.mem_append_left _ (List.mem_of_getElem? (i := 131) rfl)))))
set_option maxRecDepth 20000 in
theorem zcd_17 : Cond.code yX2_high cX2_high 5 (some .int) ∈ lw_tbl := List.mem_append_right _ (List.mem_append_right _ (List.mem_append_right _ (List.mem_append_right _ (List.mem_append_left _ (List.mem_of_getElem? (i := 152) rfl)))))
set_option maxRecDepth 20000 in
theorem zcd_18 : Cond.code yX2_missed cX2_missed 7 (some .long) ∈ lw_tbl := List.mem_append_right _ (List.mem_append_right _ (List.mem_append_right _ (List.mem_append_right _ (List.mem_append_left _ (List.mem_of_getElem? (i := 160) rfl)))))
set_option maxRecDepth 20000 in
theorem zcd_19 : Cond.code yX2_verdict cX2_verdict 10 (some .int) ∈ lw_tbl := List.mem_append_right _ (List.mem_append_right _ (List.mem_append_right _ (List.mem_append_right _ (List.mem_append_left _ (List.mem_of_getElem? (i := 170) rfl)))))
set_option maxRecDepth 20000 in
theorem zcd_20 : Cond.code yX2_isWithin cX2_isWithin 5 (some .boolean) ∈ lw_tbl := List.mem_append_right _ (List.mem_append_right _ (List.mem_append_right _ (List.mem_append_right _ (List.mem_append_left _ (List.mem_of_getElem? (i := 147) rfl)))))
set_option maxRecDepth 20000 in
theorem zcd_21 : Cond.code yX2_casesOf cX2_casesOf 8 (some .long) ∈ lw_tbl := List.mem_append_right _ (List.mem_append_right _ (List.mem_append_right _ (List.mem_append_right _ (List.mem_append_left _ (List.mem_of_getElem? (i := 135) rfl)))))
set_option maxRecDepth 20000 in
theorem zcd_22 : Cond.code yX2_power cX2_power 3 (some .long) ∈ lw_tbl := List.mem_append_right _ (List.mem_append_right _ (List.mem_append_right _ (List.mem_append_right _ (List.mem_append_left _ (List.mem_of_getElem? (i := 143) rfl)))))
set_option maxRecDepth 20000 in
theorem zcd_23 : Cond.code yX2_choose cX2_choose 3 (some .long) ∈ lw_tbl := List.mem_append_right _ (List.mem_append_right _ (List.mem_append_right _ (List.mem_append_right _ (List.mem_append_left _ (List.mem_of_getElem? (i := 139) rfl)))))
set_option maxRecDepth 20000 in
theorem zcd_24 : Cond.code yX3_init cX3_init 2 none ∈ lw_tbl := List.mem_append_right _ (List.mem_append_left _ (List.mem_of_getElem? (i := 72) rfl))
set_option maxRecDepth 20000 in
theorem zcd_25 : Cond.code yX3_reads cX3_reads 3 (some .boolean) ∈ lw_tbl := List.mem_append_right _ (List.mem_append_right _ (List.mem_append_left _ (List.mem_of_getElem? (i := 155) rfl)))
set_option maxRecDepth 20000 in
theorem zcd_26 : Cond.code yX3_exchange cX3_exchange 3 (some (.object "ChanceRuns$Model")) ∈ lw_tbl := List.mem_append_right _ (List.mem_append_right _ (List.mem_append_right _ (List.mem_append_left _ (List.mem_of_getElem? (i := 132) rfl))))
set_option maxRecDepth 20000 in
theorem zcd_27 : Cond.code yX3_fails cX3_fails 2 (some .boolean) ∈ lw_tbl := List.mem_append_right _ (List.mem_append_right _ (List.mem_append_right _ (List.mem_append_left _ (List.mem_of_getElem? (i := 56) rfl))))
set_option maxRecDepth 20000 in
theorem zcd_28 : Cond.code yX3_readLots cX3_readLots 1 (some .boolean) ∈ lw_tbl := List.mem_append_right _ (List.mem_append_right _ (List.mem_append_right _ (List.mem_append_left _ (List.mem_of_getElem? (i := 26) rfl))))
set_option maxRecDepth 20000 in
theorem zcd_29 : Cond.code yX3_readVar cX3_readVar 3 (some .boolean) ∈ lw_tbl := List.mem_append_right _ (List.mem_append_right _ (List.mem_append_right _ (List.mem_append_left _ (List.mem_of_getElem? (i := 74) rfl))))
set_option maxRecDepth 20000 in
theorem zcd_30 : Cond.code yX3_readRule cX3_readRule 2 (some .boolean) ∈ lw_tbl := List.mem_append_right _ (List.mem_append_right _ (List.mem_append_right _ (List.mem_append_left _ (List.mem_of_getElem? (i := 91) rfl))))
set_option maxRecDepth 20000 in
theorem zcd_31 : Cond.code yX3_readGoal cX3_readGoal 2 (some .boolean) ∈ lw_tbl := List.mem_append_right _ (List.mem_append_right _ (List.mem_append_right _ (List.mem_append_left _ (List.mem_of_getElem? (i := 119) rfl))))
set_option maxRecDepth 20000 in
theorem zcd_32 : Cond.code yX3_isAtEnd cX3_isAtEnd 1 (some .boolean) ∈ lw_tbl := List.mem_append_right _ (List.mem_append_right _ (List.mem_append_right _ (List.mem_append_left _ (List.mem_of_getElem? (i := 124) rfl))))
set_option maxRecDepth 20000 in
theorem zcd_33 : Cond.code yX3_readTerms cX3_readTerms 6 (some .boolean) ∈ lw_tbl := List.mem_append_right _ (List.mem_append_right _ (List.mem_append_right _ (List.mem_append_left _ (List.mem_of_getElem? (i := 104) rfl))))
set_option maxRecDepth 20000 in
theorem zcd_34 : Cond.code yX3_readTerm cX3_readTerm 5 (some .boolean) ∈ lw_tbl := List.mem_append_right _ (List.mem_append_right _ (List.mem_append_right _ (List.mem_append_left _ (List.mem_of_getElem? (i := 108) rfl))))
set_option maxRecDepth 20000 in
theorem zcd_35 : Cond.code yX3_isNewName cX3_isNewName 1 (some .boolean) ∈ lw_tbl := List.mem_append_right _ (List.mem_append_right _ (List.mem_append_right _ (List.mem_append_left _ (List.mem_of_getElem? (i := 78) rfl))))
set_option maxRecDepth 20000 in
theorem zcd_36 : Cond.code yX3_isNumber cX3_isNumber 3 (some .boolean) ∈ lw_tbl := List.mem_append_right _ (List.mem_append_right _ (List.mem_append_right _ (List.mem_append_left _ (List.mem_of_getElem? (i := 61) rfl))))
set_option maxRecDepth 20000 in
theorem zcd_37 : Cond.code yX3_passes cX3_passes 2 (some .boolean) ∈ lw_tbl := List.mem_append_right _ (List.mem_append_right _ (List.mem_append_right _ (List.mem_append_left _ (List.mem_of_getElem? (i := 65) rfl))))
set_option maxRecDepth 20000 in
theorem zcd_38 : Cond.code yX4_init cX4_init 2 none ∈ lw_tbl := List.mem_append_right _ (List.mem_append_right _ (List.mem_append_left _ (List.mem_of_getElem? (i := 4) rfl)))
set_option maxRecDepth 20000 in
theorem zcd_39 : Cond.code yX4_holding cX4_holding 7 (some .long) ∈ lw_tbl := List.mem_append_right _ (List.mem_append_right _ (List.mem_append_right _ (List.mem_append_right _ (List.mem_append_left _ (List.mem_of_getElem? (i := 48) rfl)))))
set_option maxRecDepth 20000 in
theorem zcd_40 : Cond.code yX4_total cX4_total 7 (some .long) ∈ lw_tbl := List.mem_append_right _ (List.mem_append_right _ (List.mem_append_right _ (List.mem_append_right _ (List.mem_append_left _ (List.mem_of_getElem? (i := 75) rfl)))))
set_option maxRecDepth 20000 in
theorem zcd_41 : Cond.code yX4_statesComeTo cX4_statesComeTo 5 (some .int) ∈ lw_tbl := List.mem_append_right _ (List.mem_append_right _ (List.mem_append_right _ (List.mem_append_right _ (List.mem_append_left _ (List.mem_of_getElem? (i := 84) rfl)))))
set_option maxRecDepth 20000 in
theorem zcd_42 : Cond.code yX4_see cX4_see 3 (some .int) ∈ lw_tbl := List.mem_append_right _ (List.mem_append_right _ (List.mem_append_right _ (List.mem_append_right _ (List.mem_append_left _ (List.mem_of_getElem? (i := 88) rfl)))))
set_option maxRecDepth 20000 in
theorem zcd_43 : Cond.code yX4_stateCount cX4_stateCount 1 (some .int) ∈ lw_tbl := List.mem_append_right _ (List.mem_append_right _ (List.mem_append_right _ (List.mem_append_right _ (List.mem_append_left _ (List.mem_of_getElem? (i := 56) rfl)))))
set_option maxRecDepth 20000 in
theorem zcd_44 : Cond.code yX4_spread cX4_spread 7 none ∈ lw_tbl := List.mem_append_right _ (List.mem_append_right _ (List.mem_append_right _ (List.mem_append_right _ (List.mem_append_left _ (List.mem_of_getElem? (i := 52) rfl)))))
set_option maxRecDepth 20000 in
theorem zcd_45 : Cond.code yX4_spreadFrom cX4_spreadFrom 8 none ∈ lw_tbl := List.mem_append_right _ (List.mem_append_right _ (List.mem_append_right _ (List.mem_append_right _ (List.mem_append_left _ (List.mem_of_getElem? (i := 63) rfl)))))
set_option maxRecDepth 20000 in
theorem zcd_46 : Cond.code yX5_init cX5_init 1 none ∈ lw_tbl := List.mem_append_right _ (List.mem_append_left _ (List.mem_of_getElem? (i := 87) rfl))
set_option maxRecDepth 20000 in
theorem zcd_47 : Cond.code yX5_clear cX5_clear 1 none ∈ lw_tbl := List.mem_append_right _ (List.mem_append_right _ (List.mem_append_right _ (List.mem_append_left _ (List.mem_of_getElem? (i := 95) rfl))))
set_option maxRecDepth 20000 in
theorem zcd_48 : Cond.code yX6_init cX6_init 2 none ∈ lw_tbl := List.mem_append_right _ (List.mem_append_right _ (List.mem_append_left _ (List.mem_of_getElem? (i := 73) rfl)))
set_option maxRecDepth 20000 in
theorem zcd_49 : Cond.code yX6_heldBy cX6_heldBy 8 (some .int) ∈ lw_tbl := List.mem_append_right _ (List.mem_append_right _ (List.mem_append_right _ (List.mem_append_right _ (List.mem_append_left _ (List.mem_of_getElem? (i := 178) rfl)))))
set_option maxRecDepth 20000 in
theorem zcd_50 : Cond.code yX6_follow cX6_follow 4 (some .int) ∈ lw_tbl := List.mem_append_right _ (List.mem_append_right _ (List.mem_append_right _ (List.mem_append_right _ (List.mem_append_left _ (List.mem_of_getElem? (i := 189) rfl)))))
set_option maxRecDepth 20000 in
theorem zcd_51 : Cond.code yX6_putCopies cX6_putCopies 4 none ∈ lw_tbl := List.mem_append_right _ (List.mem_append_right _ (List.mem_append_right _ (List.mem_append_right _ (List.mem_append_left _ (List.mem_of_getElem? (i := 184) rfl)))))
set_option maxRecDepth 20000 in
theorem zcd_52 : Cond.code yX6_copiesFor cX6_copiesFor 4 (some .int) ∈ lw_tbl := List.mem_append_right _ (List.mem_append_right _ (List.mem_append_right _ (List.mem_append_right _ (List.mem_append_left _ (List.mem_of_getElem? (i := 194) rfl)))))
set_option maxRecDepth 20000 in
theorem zcd_53 : Cond.code yX7_init cX7_init 1 none ∈ lw_tbl := List.mem_append_right _ (List.mem_append_left _ (List.mem_of_getElem? (i := 200) rfl))
set_option maxRecDepth 20000 in
theorem zcd_54 : Cond.code yX7_take cX7_take 2 none ∈ lw_tbl := List.mem_append_right _ (List.mem_append_right _ (List.mem_append_right _ (List.mem_append_left _ (List.mem_of_getElem? (i := 136) rfl))))
set_option maxRecDepth 20000 in
theorem zcd_55 : Cond.code yX7_firstState cX7_firstState 1 (some .int) ∈ lw_tbl := List.mem_append_right _ (List.mem_append_right _ (List.mem_append_right _ (List.mem_append_left _ (List.mem_of_getElem? (i := 190) rfl))))
set_option maxRecDepth 20000 in
theorem zcd_56 : Cond.code yX7_cell cX7_cell 4 (some .int) ∈ lw_tbl := List.mem_append_right _ (List.mem_append_right _ (List.mem_append_right _ (List.mem_append_right _ (List.mem_append_left _ (List.mem_of_getElem? (i := 8) rfl)))))
set_option maxRecDepth 20000 in
theorem zcd_57 : Cond.code yX7_stateIn cX7_stateIn 1 (some .int) ∈ lw_tbl := List.mem_append_right _ (List.mem_append_right _ (List.mem_append_right _ (List.mem_append_right _ (List.mem_append_left _ (List.mem_of_getElem? (i := 11) rfl)))))
set_option maxRecDepth 20000 in
theorem zcd_58 : Cond.code yX7_ruleIn cX7_ruleIn 2 (some .int) ∈ lw_tbl := List.mem_append_right _ (List.mem_append_right _ (List.mem_append_right _ (List.mem_append_right _ (List.mem_append_left _ (List.mem_of_getElem? (i := 14) rfl)))))
set_option maxRecDepth 20000 in
theorem zcd_59 : Cond.code yX7_hasGoal cX7_hasGoal 3 (some .boolean) ∈ lw_tbl := List.mem_append_right _ (List.mem_append_right _ (List.mem_append_right _ (List.mem_append_left _ (List.mem_of_getElem? (i := 203) rfl))))
set_option maxRecDepth 20000 in
theorem zcd_60 : Cond.code yX7_isNoState cX7_isNoState 2 (some .boolean) ∈ lw_tbl := List.mem_append_right _ (List.mem_append_right _ (List.mem_append_right _ (List.mem_append_left _ (List.mem_of_getElem? (i := 207) rfl))))
set_option maxRecDepth 20000 in
theorem zcd_61 : Cond.code yX7_makeRow cX7_makeRow 7 none ∈ lw_tbl := List.mem_append_right _ (List.mem_append_right _ (List.mem_append_right _ (List.mem_append_left _ (List.mem_of_getElem? (i := 211) rfl))))
set_option maxRecDepth 20000 in
theorem zcd_62 : Cond.code yX7_markGoals cX7_markGoals 4 none ∈ lw_tbl := List.mem_append_right _ (List.mem_append_right _ (List.mem_append_right _ (List.mem_append_left _ (List.mem_of_getElem? (i := 219) rfl))))
set_option maxRecDepth 20000 in
theorem zcd_63 : Cond.code yX7_fill cX7_fill 5 none ∈ lw_tbl := List.mem_append_right _ (List.mem_append_right _ (List.mem_append_right _ (List.mem_append_left _ (List.mem_of_getElem? (i := 237) rfl))))
set_option maxRecDepth 20000 in
theorem zcd_64 : Cond.code yX8_init cX8_init 1 none ∈ lw_tbl := List.mem_append_right _ (List.mem_append_left _ (List.mem_of_getElem? (i := 34) rfl))
set_option maxRecDepth 20000 in
theorem zcd_65 : Cond.code yX8_append cX8_append 5 (some .boolean) ∈ lw_tbl := List.mem_append_right _ (List.mem_append_right _ (List.mem_append_left _ (List.mem_of_getElem? (i := 147) rfl)))
set_option maxRecDepth 20000 in
theorem zcd_66 : Cond.code yX8_clear cX8_clear 1 none ∈ lw_tbl := List.mem_append_right _ (List.mem_append_right _ (List.mem_append_right _ (List.mem_append_left _ (List.mem_of_getElem? (i := 128) rfl))))
set_option maxRecDepth 20000 in
theorem zcd_67 : Cond.code yX8_rewind cX8_rewind 1 none ∈ lw_tbl := List.mem_append_right _ (List.mem_append_right _ (List.mem_append_left _ (List.mem_of_getElem? (i := 163) rfl)))
set_option maxRecDepth 20000 in
theorem zcd_68 : Cond.code yX8_next cX8_next 2 none ∈ lw_tbl := List.mem_append_right _ (List.mem_append_right _ (List.mem_append_left _ (List.mem_of_getElem? (i := 167) rfl)))
set_option maxRecDepth 20000 in
theorem zcd_69 : Cond.code yX8_readRun cX8_readRun 6 (some .int) ∈ lw_tbl := List.mem_append_right _ (List.mem_append_right _ (List.mem_append_left _ (List.mem_of_getElem? (i := 171) rfl)))
set_option maxRecDepth 20000 in
theorem zcd_70 : Cond.code yX8_joinArrow cX8_joinArrow 1 none ∈ lw_tbl := List.mem_append_right _ (List.mem_append_right _ (List.mem_append_right _ (List.mem_append_left _ (List.mem_of_getElem? (i := 22) rfl))))
set_option maxRecDepth 20000 in
theorem zcd_71 : Cond.code yX8_isSign cX8_isSign 2 (some .boolean) ∈ lw_tbl := List.mem_append_right _ (List.mem_append_right _ (List.mem_append_right _ (List.mem_append_left _ (List.mem_of_getElem? (i := 69) rfl))))
set_option maxRecDepth 20000 in
theorem zcd_72 : Cond.code yX8_isWord cX8_isWord 4 (some .boolean) ∈ lw_tbl := List.mem_append_right _ (List.mem_append_right _ (List.mem_append_right _ (List.mem_append_left _ (List.mem_of_getElem? (i := 31) rfl))))
set_option maxRecDepth 20000 in
theorem zcd_73 : Cond.code yX9_init cX9_init 1 none ∈ lw_tbl := List.mem_append_right _ (List.mem_append_left _ (List.mem_of_getElem? (i := 93) rfl))
set_option maxRecDepth 20000 in
theorem zcd_74 : Cond.code yX9_clear cX9_clear 1 none ∈ lw_tbl := List.mem_append_right _ (List.mem_append_right _ (List.mem_append_right _ (List.mem_append_left _ (List.mem_of_getElem? (i := 99) rfl))))
set_option maxRecDepth 20000 in
theorem zcd_75 : Cond.code yX9_add cX9_add 4 none ∈ lw_tbl := List.mem_append_right _ (List.mem_append_right _ (List.mem_append_right _ (List.mem_append_left _ (List.mem_of_getElem? (i := 113) rfl))))
set_option maxRecDepth 20000 in
theorem zcd_76 : Cond.code yX9_allHold cX9_allHold 6 (some .boolean) ∈ lw_tbl := List.mem_append_right _ (List.mem_append_right _ (List.mem_append_right _ (List.mem_append_left _ (List.mem_of_getElem? (i := 223) rfl))))
set_option maxRecDepth 20000 in
theorem zcd_77 : Cond.code yX9_change cX9_change 6 none ∈ lw_tbl := List.mem_append_right _ (List.mem_append_right _ (List.mem_append_right _ (List.mem_append_left _ (List.mem_of_getElem? (i := 230) rfl))))
set_option maxRecDepth 20000 in
theorem zcd_78 : Cond.code yX9_names cX9_names 3 (some .boolean) ∈ lw_tbl := List.mem_append_right _ (List.mem_append_right _ (List.mem_append_right _ (List.mem_append_right _ (List.mem_append_left _ (List.mem_of_getElem? (i := 208) rfl)))))
set_option maxRecDepth 20000 in
theorem zcd_79 : Cond.code yX10_init cX10_init 2 none ∈ lw_tbl := List.mem_append_right _ (List.mem_append_left _ (List.mem_of_getElem? (i := 227) rfl))
set_option maxRecDepth 20000 in
theorem zcd_80 : Cond.code yX10_begin cX10_begin 4 none ∈ lw_tbl := List.mem_append_right _ (List.mem_append_right _ (List.mem_append_right _ (List.mem_append_left _ (List.mem_of_getElem? (i := 185) rfl))))
set_option maxRecDepth 20000 in
theorem zcd_81 : Cond.code yX10_step cX10_step 3 (some .int) ∈ lw_tbl := List.mem_append_right _ (List.mem_append_right _ (List.mem_append_right _ (List.mem_append_right _ (List.mem_append_left _ (List.mem_of_getElem? (i := 1) rfl)))))
set_option maxRecDepth 20000 in
theorem zcd_82 : Cond.code yX10_isAt cX10_isAt 2 (some .boolean) ∈ lw_tbl := List.mem_append_right _ (List.mem_append_right _ (List.mem_append_right _ (List.mem_append_left _ (List.mem_of_getElem? (i := 199) rfl))))
set_option maxRecDepth 20000 in
theorem zcd_83 : Cond.code yX10_valueOf cX10_valueOf 2 (some .int) ∈ lw_tbl := List.mem_append_right _ (List.mem_append_right _ (List.mem_append_right _ (List.mem_append_right _ (List.mem_append_left _ (List.mem_of_getElem? (i := 26) rfl)))))
set_option maxRecDepth 20000 in
theorem zcd_84 : Cond.code yX11_init cX11_init 1 none ∈ lw_tbl := List.mem_append_right _ (List.mem_append_left _ (List.mem_of_getElem? (i := 26) rfl))
set_option maxRecDepth 20000 in
theorem zcd_85 : Cond.code yX11_feed cX11_feed 4 (some .int) ∈ lw_tbl := List.mem_append_right _ (List.mem_append_right _ (List.mem_append_left _ (List.mem_of_getElem? (i := 143) rfl)))
set_option maxRecDepth 20000 in
theorem zcd_86 : Cond.code yX11_model cX11_model 2 (some .int) ∈ lw_tbl := List.mem_append_right _ (List.mem_append_right _ (List.mem_append_left _ (List.mem_of_getElem? (i := 151) rfl)))
set_option maxRecDepth 20000 in
theorem zcd_87 : Cond.code yX11_fault cX11_fault 1 (some .int) ∈ lw_tbl := List.mem_append_right _ (List.mem_append_right _ (List.mem_append_right _ (List.mem_append_left _ (List.mem_of_getElem? (i := 150) rfl))))
set_option maxRecDepth 20000 in
theorem zcd_88 : Cond.code yX11_seed cX11_seed 3 (some .int) ∈ lw_tbl := List.mem_append_right _ (List.mem_append_right _ (List.mem_append_right _ (List.mem_append_left _ (List.mem_of_getElem? (i := 154) rfl))))
set_option maxRecDepth 20000 in
theorem zcd_89 : Cond.code yX11_count cX11_count 2 (some .int) ∈ lw_tbl := List.mem_append_right _ (List.mem_append_right _ (List.mem_append_right _ (List.mem_append_left _ (List.mem_of_getElem? (i := 158) rfl))))
set_option maxRecDepth 20000 in
theorem zcd_90 : Cond.code yX11_holds cX11_holds 4 (some .int) ∈ lw_tbl := List.mem_append_right _ (List.mem_append_right _ (List.mem_append_right _ (List.mem_append_left _ (List.mem_of_getElem? (i := 166) rfl))))
set_option maxRecDepth 20000 in
theorem zcd_91 : Cond.code yX11_value cX11_value 5 (some .int) ∈ lw_tbl := List.mem_append_right _ (List.mem_append_right _ (List.mem_append_right _ (List.mem_append_right _ (List.mem_append_left _ (List.mem_of_getElem? (i := 18) rfl)))))
set_option maxRecDepth 20000 in
theorem zcd_92 : Cond.code yX11_goes cX11_goes 5 (some .int) ∈ lw_tbl := List.mem_append_right _ (List.mem_append_right _ (List.mem_append_right _ (List.mem_append_right _ (List.mem_append_left _ (List.mem_of_getElem? (i := 34) rfl)))))
set_option maxRecDepth 20000 in
theorem zcd_93 : Cond.code yX11_exact cX11_exact 3 (some .long) ∈ lw_tbl := List.mem_append_right _ (List.mem_append_right _ (List.mem_append_right _ (List.mem_append_right _ (List.mem_append_left _ (List.mem_of_getElem? (i := 38) rfl)))))
set_option maxRecDepth 20000 in
theorem zcd_94 : Cond.code yX11_sum cX11_sum 3 (some .long) ∈ lw_tbl := List.mem_append_right _ (List.mem_append_right _ (List.mem_append_right _ (List.mem_append_right _ (List.mem_append_left _ (List.mem_of_getElem? (i := 70) rfl)))))
set_option maxRecDepth 20000 in
theorem zcd_95 : Cond.code yX11_reached cX11_reached 1 (some .int) ∈ lw_tbl := List.mem_append_right _ (List.mem_append_right _ (List.mem_append_right _ (List.mem_append_right _ (List.mem_append_left _ (List.mem_of_getElem? (i := 80) rfl)))))
set_option maxRecDepth 20000 in
theorem zcd_96 : Cond.code yX11_block cX11_block 5 (some .int) ∈ lw_tbl := List.mem_append_right _ (List.mem_append_right _ (List.mem_append_right _ (List.mem_append_right _ (List.mem_append_left _ (List.mem_of_getElem? (i := 92) rfl)))))
set_option maxRecDepth 20000 in
theorem zcd_97 : Cond.code yX11_told cX11_told 2 (some .int) ∈ lw_tbl := List.mem_append_right _ (List.mem_append_right _ (List.mem_append_right _ (List.mem_append_right _ (List.mem_append_left _ (List.mem_of_getElem? (i := 109) rfl)))))
set_option maxRecDepth 20000 in
theorem zcd_98 : Cond.code yX11_both cX11_both 8 (some .int) ∈ lw_tbl := List.mem_append_right _ (List.mem_append_right _ (List.mem_append_right _ (List.mem_append_right _ (List.mem_append_left _ (List.mem_of_getElem? (i := 113) rfl)))))
set_option maxRecDepth 20000 in
theorem zcd_99 : Cond.code yX11_ends cX11_ends 5 (some .int) ∈ lw_tbl := List.mem_append_right _ (List.mem_append_right _ (List.mem_append_right _ (List.mem_append_right _ (List.mem_append_left _ (List.mem_of_getElem? (i := 121) rfl)))))
set_option maxRecDepth 20000 in
theorem zcd_100 : Cond.code yX11_misses cX11_misses 4 (some .long) ∈ lw_tbl := List.mem_append_right _ (List.mem_append_right _ (List.mem_append_right _ (List.mem_append_right _ (List.mem_append_left _ (List.mem_of_getElem? (i := 156) rfl)))))
set_option maxRecDepth 20000 in
theorem zcd_101 : Cond.code yX11_test cX11_test 10 (some .int) ∈ lw_tbl := List.mem_append_right _ (List.mem_append_right _ (List.mem_append_right _ (List.mem_append_right _ (List.mem_append_left _ (List.mem_of_getElem? (i := 166) rfl)))))
set_option maxRecDepth 20000 in
theorem zcd_102 : Cond.code yX11_split cX11_split 7 (some .int) ∈ lw_tbl := List.mem_append_right _ (List.mem_append_right _ (List.mem_append_right _ (List.mem_append_right _ (List.mem_append_left _ (List.mem_of_getElem? (i := 174) rfl)))))
set_option maxRecDepth 20000 in
theorem zcd_103 : Cond.code yX11_moves cX11_moves 2 (some .int) ∈ lw_tbl := List.mem_append_right _ (List.mem_append_right _ (List.mem_append_right _ (List.mem_append_right _ (List.mem_append_left _ (List.mem_of_getElem? (i := 200) rfl)))))
set_option maxRecDepth 20000 in
theorem zcd_104 : Cond.code yX11_hasNoModel cX11_hasNoModel 1 (some .boolean) ∈ lw_tbl := List.mem_append_right _ (List.mem_append_right _ (List.mem_append_right _ (List.mem_append_left _ (List.mem_of_getElem? (i := 162) rfl))))
set_option maxRecDepth 20000 in
theorem zcd_105 : Cond.code yX11_isGoal cX11_isGoal 2 (some .boolean) ∈ lw_tbl := List.mem_append_right _ (List.mem_append_right _ (List.mem_append_right _ (List.mem_append_left _ (List.mem_of_getElem? (i := 170) rfl))))
set_option maxRecDepth 20000 in
theorem zcd_106 : Cond.code yX11_isVar cX11_isVar 2 (some .boolean) ∈ lw_tbl := List.mem_append_right _ (List.mem_append_right _ (List.mem_append_right _ (List.mem_append_right _ (List.mem_append_left _ (List.mem_of_getElem? (i := 22) rfl)))))
set_option maxRecDepth 20000 in
theorem zcd_107 : Cond.code yX11_isLength cX11_isLength 1 (some .boolean) ∈ lw_tbl := List.mem_append_right _ (List.mem_append_right _ (List.mem_append_right _ (List.mem_append_left _ (List.mem_of_getElem? (i := 173) rfl))))
set_option maxRecDepth 20000 in
theorem zcd_108 : Cond.code yX11_isRun cX11_isRun 1 (some .boolean) ∈ lw_tbl := List.mem_append_right _ (List.mem_append_right _ (List.mem_append_right _ (List.mem_append_left _ (List.mem_of_getElem? (i := 176) rfl))))
set_option maxRecDepth 20000 in
theorem zcd_109 : Cond.code yX11_stepOfHolding cX11_stepOfHolding 5 (some .int) ∈ lw_tbl := List.mem_append_right _ (List.mem_append_right _ (List.mem_append_right _ (List.mem_append_left _ (List.mem_of_getElem? (i := 181) rfl))))
set_option maxRecDepth 20000 in
theorem zcd_110 : Cond.code yX11_kindOfPair cX11_kindOfPair 8 (some .int) ∈ lw_tbl := List.mem_append_right _ (List.mem_append_right _ (List.mem_append_right _ (List.mem_append_right _ (List.mem_append_left _ (List.mem_of_getElem? (i := 117) rfl)))))
set_option maxRecDepth 20000 in
theorem zcd_111 : Cond.code yX11_powerIsAbove cX11_powerIsAbove 9 (some .boolean) ∈ lw_tbl := List.mem_append_right _ (List.mem_append_right _ (List.mem_append_right _ (List.mem_append_right _ (List.mem_append_left _ (List.mem_of_getElem? (i := 43) rfl)))))
set_option maxRecDepth 20000 in
theorem zcd_112 : Cond.code yX12_init cX12_init 1 none ∈ lw_tbl := List.mem_append_right _ (List.mem_append_right _ (List.mem_append_right _ (List.mem_append_right _ (List.mem_append_left _ (List.mem_of_getElem? (i := 213) rfl)))))
set_option maxRecDepth 20000 in
theorem zcd_113 : Cond.code yX12_in cX12_in 6 (some .boolean) ∈ lw_tbl := List.mem_append_right _ (List.mem_append_right _ (List.mem_append_right _ (List.mem_append_right _ (List.mem_append_right _ (List.mem_append_left _ (List.mem_of_getElem? (i := 124) rfl))))))
set_option maxRecDepth 20000 in
theorem zcd_114 : Cond.code yX12_feed cX12_feed 5 (some .int) ∈ lw_tbl := List.mem_append_right _ (List.mem_append_right _ (List.mem_append_right _ (List.mem_append_right _ (List.mem_append_right _ (List.mem_append_left _ (List.mem_of_getElem? (i := 120) rfl))))))
set_option maxRecDepth 20000 in
theorem zcd_115 : Cond.code yX12_byteAt cX12_byteAt 2 (some .int) ∈ lw_tbl := List.mem_append_right _ (List.mem_append_right _ (List.mem_append_right _ (List.mem_append_right _ (List.mem_append_right _ (List.mem_append_left _ (List.mem_of_getElem? (i := 137) rfl))))))
set_option maxRecDepth 20000 in
theorem zcd_116 : Cond.code yX12_isLetter cX12_isLetter 1 (some .boolean) ∈ lw_tbl := List.mem_append_right _ (List.mem_append_right _ (List.mem_append_right _ (List.mem_append_right _ (List.mem_append_right _ (List.mem_append_left _ (List.mem_of_getElem? (i := 140) rfl))))))
set_option maxRecDepth 20000 in
theorem zcd_117 : Cond.code yX12_isFigure cX12_isFigure 1 (some .boolean) ∈ lw_tbl := List.mem_append_right _ (List.mem_append_right _ (List.mem_append_right _ (List.mem_append_right _ (List.mem_append_right _ (List.mem_append_left _ (List.mem_of_getElem? (i := 143) rfl))))))
set_option maxRecDepth 20000 in
theorem zcd_118 : Cond.code yX12_next cX12_next 4 none ∈ lw_tbl := List.mem_append_right _ (List.mem_append_right _ (List.mem_append_right _ (List.mem_append_right _ (List.mem_append_right _ (List.mem_append_left _ (List.mem_of_getElem? (i := 133) rfl))))))
set_option maxRecDepth 20000 in
theorem zcd_119 : Cond.code yX12_bad cX12_bad 3 none ∈ lw_tbl := List.mem_append_right _ (List.mem_append_right _ (List.mem_append_right _ (List.mem_append_right _ (List.mem_append_right _ (List.mem_append_left _ (List.mem_of_getElem? (i := 156) rfl))))))
set_option maxRecDepth 20000 in
theorem zcd_120 : Cond.code yX12_stands cX12_stands 2 none ∈ lw_tbl := List.mem_append_right _ (List.mem_append_right _ (List.mem_append_right _ (List.mem_append_right _ (List.mem_append_right _ (List.mem_append_left _ (List.mem_of_getElem? (i := 152) rfl))))))
set_option maxRecDepth 20000 in
theorem zcd_121 : Cond.code yX12_is cX12_is 2 (some .boolean) ∈ lw_tbl := List.mem_append_right _ (List.mem_append_right _ (List.mem_append_right _ (List.mem_append_right _ (List.mem_append_right _ (List.mem_append_left _ (List.mem_of_getElem? (i := 172) rfl))))))
set_option maxRecDepth 20000 in
theorem zcd_122 : Cond.code yX12_take cX12_take 2 none ∈ lw_tbl := List.mem_append_right _ (List.mem_append_right _ (List.mem_append_right _ (List.mem_append_right _ (List.mem_append_right _ (List.mem_append_left _ (List.mem_of_getElem? (i := 168) rfl))))))
set_option maxRecDepth 20000 in
theorem zcd_123 : Cond.code yX12_name cX12_name 4 (some .long) ∈ lw_tbl := List.mem_append_right _ (List.mem_append_right _ (List.mem_append_right _ (List.mem_append_right _ (List.mem_append_right _ (List.mem_append_left _ (List.mem_of_getElem? (i := 147) rfl))))))
set_option maxRecDepth 20000 in
theorem zcd_124 : Cond.code yX12_number cX12_number 3 (some .int) ∈ lw_tbl := List.mem_append_right _ (List.mem_append_right _ (List.mem_append_right _ (List.mem_append_right _ (List.mem_append_right _ (List.mem_append_left _ (List.mem_of_getElem? (i := 164) rfl))))))
set_option maxRecDepth 20000 in
theorem zcd_125 : Cond.code yX12_numberIn cX12_numberIn 4 (some .int) ∈ lw_tbl := List.mem_append_right _ (List.mem_append_right _ (List.mem_append_right _ (List.mem_append_right _ (List.mem_append_right _ (List.mem_append_left _ (List.mem_of_getElem? (i := 160) rfl))))))
set_option maxRecDepth 20000 in
theorem zcd_126 : Cond.code yX12_varOf cX12_varOf 4 (some .int) ∈ lw_tbl := List.mem_append_right _ (List.mem_append_right _ (List.mem_append_right _ (List.mem_append_right _ (List.mem_append_right _ (List.mem_append_left _ (List.mem_of_getElem? (i := 181) rfl))))))
set_option maxRecDepth 20000 in
theorem zcd_127 : Cond.code yX12_statesOf cX12_statesOf 4 (some .int) ∈ lw_tbl := List.mem_append_right _ (List.mem_append_right _ (List.mem_append_right _ (List.mem_append_right _ (List.mem_append_right _ (List.mem_append_left _ (List.mem_of_getElem? (i := 186) rfl))))))
set_option maxRecDepth 20000 in
theorem zcd_128 : Cond.code yX12_readVar cX12_readVar 4 none ∈ lw_tbl := List.mem_append_right _ (List.mem_append_right _ (List.mem_append_right _ (List.mem_append_right _ (List.mem_append_right _ (List.mem_append_left _ (List.mem_of_getElem? (i := 177) rfl))))))
set_option maxRecDepth 20000 in
theorem zcd_129 : Cond.code yX12_readName cX12_readName 2 (some .int) ∈ lw_tbl := List.mem_append_right _ (List.mem_append_right _ (List.mem_append_right _ (List.mem_append_right _ (List.mem_append_right _ (List.mem_append_left _ (List.mem_of_getElem? (i := 199) rfl))))))
set_option maxRecDepth 20000 in
theorem zcd_130 : Cond.code yX12_readConds cX12_readConds 5 none ∈ lw_tbl := List.mem_append_right _ (List.mem_append_right _ (List.mem_append_right _ (List.mem_append_right _ (List.mem_append_right _ (List.mem_append_left _ (List.mem_of_getElem? (i := 195) rfl))))))
set_option maxRecDepth 20000 in
theorem zcd_131 : Cond.code yX12_readEffects cX12_readEffects 5 none ∈ lw_tbl := List.mem_append_right _ (List.mem_append_right _ (List.mem_append_right _ (List.mem_append_right _ (List.mem_append_right _ (List.mem_append_left _ (List.mem_of_getElem? (i := 203) rfl))))))
set_option maxRecDepth 20000 in
theorem zcd_132 : Cond.code yX12_readRule cX12_readRule 2 none ∈ lw_tbl := List.mem_append_right _ (List.mem_append_right _ (List.mem_append_right _ (List.mem_append_right _ (List.mem_append_right _ (List.mem_append_left _ (List.mem_of_getElem? (i := 191) rfl))))))
set_option maxRecDepth 20000 in
theorem zcd_133 : Cond.code yX12_readGoal cX12_readGoal 1 none ∈ lw_tbl := List.mem_append_right _ (List.mem_append_right _ (List.mem_append_right _ (List.mem_append_right _ (List.mem_append_right _ (List.mem_append_left _ (List.mem_of_getElem? (i := 208) rfl))))))
set_option maxRecDepth 20000 in
theorem zcd_134 : Cond.code yX12_model cX12_model 1 (some .int) ∈ lw_tbl := List.mem_append_right _ (List.mem_append_right _ (List.mem_append_right _ (List.mem_append_right _ (List.mem_append_right _ (List.mem_append_left _ (List.mem_of_getElem? (i := 129) rfl))))))
set_option maxRecDepth 20000 in
theorem zcd_135 : Cond.code yX12_fault cX12_fault 1 (some .int) ∈ lw_tbl := List.mem_append_right _ (List.mem_append_right _ (List.mem_append_right _ (List.mem_append_right _ (List.mem_append_right _ (List.mem_append_left _ (List.mem_of_getElem? (i := 216) rfl))))))
set_option maxRecDepth 20000 in
theorem zcd_136 : Cond.code yX12_seed cX12_seed 3 (some .int) ∈ lw_tbl := List.mem_append_right _ (List.mem_append_right _ (List.mem_append_right _ (List.mem_append_right _ (List.mem_append_right _ (List.mem_append_left _ (List.mem_of_getElem? (i := 220) rfl))))))
set_option maxRecDepth 20000 in
theorem zcd_137 : Cond.code yX12_count cX12_count 2 (some .int) ∈ lw_tbl := List.mem_append_right _ (List.mem_append_right _ (List.mem_append_right _ (List.mem_append_right _ (List.mem_append_right _ (List.mem_append_left _ (List.mem_of_getElem? (i := 224) rfl))))))
set_option maxRecDepth 20000 in
theorem zcd_138 : Cond.code yX12_begin cX12_begin 2 none ∈ lw_tbl := List.mem_append_right _ (List.mem_append_right _ (List.mem_append_right _ (List.mem_append_right _ (List.mem_append_right _ (List.mem_append_right _ (List.mem_of_getElem? (i := 11) rfl))))))
set_option maxRecDepth 20000 in
theorem zcd_139 : Cond.code yX12_areHeld cX12_areHeld 5 (some .boolean) ∈ lw_tbl := List.mem_append_right _ (List.mem_append_right _ (List.mem_append_right _ (List.mem_append_right _ (List.mem_append_right _ (List.mem_append_right _ (List.mem_of_getElem? (i := 19) rfl))))))
set_option maxRecDepth 20000 in
theorem zcd_140 : Cond.code yX12_isGoal cX12_isGoal 2 (some .boolean) ∈ lw_tbl := List.mem_append_right _ (List.mem_append_right _ (List.mem_append_right _ (List.mem_append_right _ (List.mem_append_right _ (List.mem_append_right _ (List.mem_of_getElem? (i := 15) rfl))))))
set_option maxRecDepth 20000 in
theorem zcd_141 : Cond.code yX12_ruleBy cX12_ruleBy 4 (some .int) ∈ lw_tbl := List.mem_append_right _ (List.mem_append_right _ (List.mem_append_right _ (List.mem_append_right _ (List.mem_append_right _ (List.mem_append_right _ (List.mem_of_getElem? (i := 29) rfl))))))
set_option maxRecDepth 20000 in
theorem zcd_142 : Cond.code yX12_go cX12_go 6 none ∈ lw_tbl := List.mem_append_right _ (List.mem_append_right _ (List.mem_append_right _ (List.mem_append_right _ (List.mem_append_right _ (List.mem_append_right _ (List.mem_of_getElem? (i := 33) rfl))))))
set_option maxRecDepth 20000 in
theorem zcd_143 : Cond.code yX12_beginRun cX12_beginRun 2 none ∈ lw_tbl := List.mem_append_right _ (List.mem_append_right _ (List.mem_append_right _ (List.mem_append_right _ (List.mem_append_right _ (List.mem_append_right _ (List.mem_of_getElem? (i := 6) rfl))))))
set_option maxRecDepth 20000 in
theorem zcd_144 : Cond.code yX12_draw cX12_draw 1 (some .int) ∈ lw_tbl := List.mem_append_right _ (List.mem_append_right _ (List.mem_append_right _ (List.mem_append_right _ (List.mem_append_right _ (List.mem_append_right _ (List.mem_of_getElem? (i := 23) rfl))))))
set_option maxRecDepth 20000 in
theorem zcd_145 : Cond.code yX12_isGoalNumber cX12_isGoalNumber 2 (some .boolean) ∈ lw_tbl := List.mem_append_right _ (List.mem_append_right _ (List.mem_append_right _ (List.mem_append_right _ (List.mem_append_right _ (List.mem_append_left _ (List.mem_of_getElem? (i := 233) rfl))))))
set_option maxRecDepth 20000 in
theorem zcd_146 : Cond.code yX12_isVar cX12_isVar 2 (some .boolean) ∈ lw_tbl := List.mem_append_right _ (List.mem_append_right _ (List.mem_append_right _ (List.mem_append_right _ (List.mem_append_right _ (List.mem_append_right _ (List.mem_of_getElem? (i := 41) rfl))))))
set_option maxRecDepth 20000 in
theorem zcd_147 : Cond.code yX12_isRun cX12_isRun 1 (some .boolean) ∈ lw_tbl := List.mem_append_right _ (List.mem_append_right _ (List.mem_append_right _ (List.mem_append_right _ (List.mem_append_right _ (List.mem_append_left _ (List.mem_of_getElem? (i := 237) rfl))))))
set_option maxRecDepth 20000 in
theorem zcd_148 : Cond.code yX12_heldAt cX12_heldAt 5 (some .int) ∈ lw_tbl := List.mem_append_right _ (List.mem_append_right _ (List.mem_append_right _ (List.mem_append_right _ (List.mem_append_right _ (List.mem_append_right _ (List.mem_of_getElem? (i := 2) rfl))))))
set_option maxRecDepth 20000 in
theorem zcd_149 : Cond.code yX12_holds cX12_holds 4 (some .int) ∈ lw_tbl := List.mem_append_right _ (List.mem_append_right _ (List.mem_append_right _ (List.mem_append_right _ (List.mem_append_right _ (List.mem_append_left _ (List.mem_of_getElem? (i := 229) rfl))))))
set_option maxRecDepth 20000 in
theorem zcd_150 : Cond.code yX12_value cX12_value 5 (some .int) ∈ lw_tbl := List.mem_append_right _ (List.mem_append_right _ (List.mem_append_right _ (List.mem_append_right _ (List.mem_append_right _ (List.mem_append_right _ (List.mem_of_getElem? (i := 37) rfl))))))
set_option maxRecDepth 20000 in
theorem zcd_151 : Cond.code yX12_goes cX12_goes 5 (some .int) ∈ lw_tbl := List.mem_append_right _ (List.mem_append_right _ (List.mem_append_right _ (List.mem_append_right _ (List.mem_append_right _ (List.mem_append_right _ (List.mem_of_getElem? (i := 45) rfl))))))
set_option maxRecDepth 20000 in
theorem zcd_152 : Cond.code yX12_stateNumber cX12_stateNumber 3 (some .int) ∈ lw_tbl := List.mem_append_right _ (List.mem_append_right _ (List.mem_append_right _ (List.mem_append_right _ (List.mem_append_right _ (List.mem_append_right _ (List.mem_of_getElem? (i := 65) rfl))))))
set_option maxRecDepth 20000 in
theorem zcd_153 : Cond.code yX12_be cX12_be 5 none ∈ lw_tbl := List.mem_append_right _ (List.mem_append_right _ (List.mem_append_right _ (List.mem_append_right _ (List.mem_append_right _ (List.mem_append_right _ (List.mem_of_getElem? (i := 73) rfl))))))
set_option maxRecDepth 20000 in
theorem zcd_154 : Cond.code yX12_powerOf cX12_powerOf 7 (some .long) ∈ lw_tbl := List.mem_append_right _ (List.mem_append_right _ (List.mem_append_right _ (List.mem_append_right _ (List.mem_append_right _ (List.mem_append_right _ (List.mem_of_getElem? (i := 55) rfl))))))
set_option maxRecDepth 20000 in
theorem zcd_155 : Cond.code yX12_step cX12_step 4 none ∈ lw_tbl := List.mem_append_right _ (List.mem_append_right _ (List.mem_append_right _ (List.mem_append_right _ (List.mem_append_right _ (List.mem_append_right _ (List.mem_of_getElem? (i := 69) rfl))))))
set_option maxRecDepth 20000 in
theorem zcd_156 : Cond.code yX12_beginWays cX12_beginWays 2 none ∈ lw_tbl := List.mem_append_right _ (List.mem_append_right _ (List.mem_append_right _ (List.mem_append_right _ (List.mem_append_right _ (List.mem_append_right _ (List.mem_of_getElem? (i := 61) rfl))))))
set_option maxRecDepth 20000 in
theorem zcd_157 : Cond.code yX12_exact cX12_exact 7 (some .long) ∈ lw_tbl := List.mem_append_right _ (List.mem_append_right _ (List.mem_append_right _ (List.mem_append_right _ (List.mem_append_right _ (List.mem_append_right _ (List.mem_of_getElem? (i := 49) rfl))))))
set_option maxRecDepth 20000 in
theorem zcd_158 : Cond.code yX12_sum cX12_sum 6 (some .long) ∈ lw_tbl := List.mem_append_right _ (List.mem_append_right _ (List.mem_append_right _ (List.mem_append_right _ (List.mem_append_right _ (List.mem_append_right _ (List.mem_of_getElem? (i := 77) rfl))))))
set_option maxRecDepth 20000 in
theorem zcd_159 : Cond.code yX12_reached cX12_reached 5 (some .int) ∈ lw_tbl := List.mem_append_right _ (List.mem_append_right _ (List.mem_append_right _ (List.mem_append_right _ (List.mem_append_right _ (List.mem_append_right _ (List.mem_of_getElem? (i := 82) rfl))))))
set_option maxRecDepth 20000 in
theorem zcd_160 : Cond.code yX12_beginCounts cX12_beginCounts 2 none ∈ lw_tbl := List.mem_append_right _ (List.mem_append_right _ (List.mem_append_right _ (List.mem_append_right _ (List.mem_append_right _ (List.mem_append_left _ (List.mem_of_getElem? (i := 212) rfl))))))
set_option maxRecDepth 20000 in
theorem zcd_161 : Cond.code yX12_block cX12_block 6 (some .int) ∈ lw_tbl := List.mem_append_right _ (List.mem_append_right _ (List.mem_append_right _ (List.mem_append_right _ (List.mem_append_right _ (List.mem_append_right _ (List.mem_of_getElem? (i := 86) rfl))))))
set_option maxRecDepth 20000 in
theorem zcd_162 : Cond.code yX12_told cX12_told 2 (some .int) ∈ lw_tbl := List.mem_append_right _ (List.mem_append_right _ (List.mem_append_right _ (List.mem_append_right _ (List.mem_append_right _ (List.mem_append_right _ (List.mem_of_getElem? (i := 91) rfl))))))
set_option maxRecDepth 20000 in
theorem zcd_163 : Cond.code yX12_both cX12_both 10 (some .int) ∈ lw_tbl := List.mem_append_right _ (List.mem_append_right _ (List.mem_append_right _ (List.mem_append_right _ (List.mem_append_right _ (List.mem_append_right _ (List.mem_of_getElem? (i := 95) rfl))))))
set_option maxRecDepth 20000 in
theorem zcd_164 : Cond.code yX12_power cX12_power 6 (some .long) ∈ lw_tbl := List.mem_append_right _ (List.mem_append_right _ (List.mem_append_right _ (List.mem_append_right _ (List.mem_append_right _ (List.mem_append_right _ (List.mem_of_getElem? (i := 114) rfl))))))
set_option maxRecDepth 20000 in
theorem zcd_165 : Cond.code yX12_cases cX12_cases 6 (some .long) ∈ lw_tbl := List.mem_append_right _ (List.mem_append_right _ (List.mem_append_right _ (List.mem_append_right _ (List.mem_append_right _ (List.mem_append_right _ (List.mem_of_getElem? (i := 111) rfl))))))
set_option maxRecDepth 20000 in
theorem zcd_166 : Cond.code yX12_casesFrom cX12_casesFrom 7 (some .long) ∈ lw_tbl := List.mem_append_right _ (List.mem_append_right _ (List.mem_append_right _ (List.mem_append_right _ (List.mem_append_right _ (List.mem_append_right _ (List.mem_of_getElem? (i := 108) rfl))))))
set_option maxRecDepth 20000 in
theorem zcd_167 : Cond.code yX12_low cX12_low 5 (some .int) ∈ lw_tbl := List.mem_append_right _ (List.mem_append_right _ (List.mem_append_right _ (List.mem_append_right _ (List.mem_append_right _ (List.mem_append_right _ (List.mem_of_getElem? (i := 105) rfl))))))
set_option maxRecDepth 20000 in
theorem zcd_168 : Cond.code yX12_high cX12_high 5 (some .int) ∈ lw_tbl := List.mem_append_right _ (List.mem_append_right _ (List.mem_append_right _ (List.mem_append_right _ (List.mem_append_right _ (List.mem_append_right _ (List.mem_of_getElem? (i := 118) rfl))))))
set_option maxRecDepth 20000 in
theorem zcd_169 : Cond.code yX12_ends cX12_ends 5 (some .int) ∈ lw_tbl := List.mem_append_right _ (List.mem_append_right _ (List.mem_append_right _ (List.mem_append_right _ (List.mem_append_right _ (List.mem_append_right _ (List.mem_of_getElem? (i := 100) rfl))))))
set_option maxRecDepth 20000 in
theorem zcd_170 : Cond.code yX12_misses cX12_misses 7 (some .long) ∈ lw_tbl := List.mem_append_right _ (List.mem_append_right _ (List.mem_append_right _ (List.mem_append_right _ (List.mem_append_right _ (List.mem_append_right _ (List.mem_of_getElem? (i := 122) rfl))))))
set_option maxRecDepth 20000 in
theorem zcd_171 : Cond.code yX12_test cX12_test 14 (some .int) ∈ lw_tbl := List.mem_append_right _ (List.mem_append_right _ (List.mem_append_right _ (List.mem_append_right _ (List.mem_append_right _ (List.mem_append_right _ (List.mem_of_getElem? (i := 126) rfl))))))
set_option maxRecDepth 20000 in
theorem zcd_172 : Cond.code yX12_pass cX12_pass 8 none ∈ lw_tbl := List.mem_append_right _ (List.mem_append_right _ (List.mem_append_right _ (List.mem_append_right _ (List.mem_append_right _ (List.mem_append_right _ (List.mem_of_getElem? (i := 139) rfl))))))
set_option maxRecDepth 20000 in
theorem zcd_173 : Cond.code yX12_split cX12_split 10 (some .int) ∈ lw_tbl := List.mem_append_right _ (List.mem_append_right _ (List.mem_append_right _ (List.mem_append_right _ (List.mem_append_right _ (List.mem_append_right _ (List.mem_of_getElem? (i := 133) rfl))))))
set_option maxRecDepth 20000 in
theorem zcd_174 : Cond.code yX12_moves cX12_moves 6 (some .int) ∈ lw_tbl := List.mem_append_right _ (List.mem_append_right _ (List.mem_append_right _ (List.mem_append_right _ (List.mem_append_right _ (List.mem_append_right _ (List.mem_of_getElem? (i := 143) rfl))))))
set_option maxRecDepth 20000 in
theorem zcd_175 : Cond.code yJ0_length_8abf5 cJ0_length_8abf5 1 (some .int) ∈ lw_tbl := List.mem_append_right _ (List.mem_append_right _ (List.mem_append_left _ (List.mem_of_getElem? (i := 190) rfl)))
set_option maxRecDepth 20000 in
theorem zcd_176 : Cond.code yJ0_charAt_5068e cJ0_charAt_5068e 2 (some .char) ∈ lw_tbl := List.mem_append_right _ (List.mem_append_right _ (List.mem_append_right _ (List.mem_append_left _ (List.mem_of_getElem? (i := 36) rfl))))
set_option maxRecDepth 20000 in
theorem zcd_177 : Cond.code yJ0_indexOf_0f7a4 cJ0_indexOf_0f7a4 2 (some .int) ∈ lw_tbl := List.mem_append_right _ (List.mem_append_right _ (List.mem_append_left _ (List.mem_of_getElem? (i := 176) rfl)))
set_option maxRecDepth 20000 in
theorem zcd_178 : Cond.code yJ0_indexOf_7cf53 cJ0_indexOf_7cf53 3 (some .int) ∈ lw_tbl := List.mem_append_right _ (List.mem_append_right _ (List.mem_append_left _ (List.mem_of_getElem? (i := 180) rfl)))
set_option maxRecDepth 20000 in
theorem zcd_179 : Cond.code yJ0_coder_7d493 cJ0_coder_7d493 1 (some .byte) ∈ lw_tbl := List.mem_append_right _ (List.mem_append_right _ (List.mem_append_left _ (List.mem_of_getElem? (i := 194) rfl)))
set_option maxRecDepth 20000 in
theorem zcd_180 : Cond.code yJ0_isLatin1_aae02 cJ0_isLatin1_aae02 1 (some .boolean) ∈ lw_tbl := List.mem_append_right _ (List.mem_append_right _ (List.mem_append_left _ (List.mem_of_getElem? (i := 184) rfl)))
set_option maxRecDepth 20000 in
theorem zcd_181 : Cond.code yJ0_checkIndex_df160 cJ0_checkIndex_df160 2 none ∈ lw_tbl := List.mem_append_right _ (List.mem_append_right _ (List.mem_append_right _ (List.mem_append_left _ (List.mem_of_getElem? (i := 42) rfl))))
set_option maxRecDepth 20000 in
theorem zcd_182 : Cond.code yJ1_charAt_3b067 cJ1_charAt_3b067 2 (some .char) ∈ lw_tbl := List.mem_append_right _ (List.mem_append_right _ (List.mem_append_right _ (List.mem_append_left _ (List.mem_of_getElem? (i := 39) rfl))))
set_option maxRecDepth 20000 in
theorem zcd_183 : Cond.code yJ1_canEncode_9a6ad cJ1_canEncode_9a6ad 1 (some .boolean) ∈ lw_tbl := List.mem_append_right _ (List.mem_append_right _ (List.mem_append_left _ (List.mem_of_getElem? (i := 200) rfl)))
set_option maxRecDepth 20000 in
theorem zcd_184 : Cond.code yJ1_indexOf_4cfef cJ1_indexOf_4cfef 4 (some .int) ∈ lw_tbl := List.mem_append_right _ (List.mem_append_right _ (List.mem_append_left _ (List.mem_of_getElem? (i := 197) rfl)))
set_option maxRecDepth 20000 in
theorem zcd_185 : Cond.code yJ1_indexOfChar_4cfef cJ1_indexOfChar_4cfef 6 (some .int) ∈ lw_tbl := List.mem_append_right _ (List.mem_append_right _ (List.mem_append_left _ (List.mem_of_getElem? (i := 209) rfl)))
set_option maxRecDepth 20000 in
theorem zcd_186 : Cond.code yJ7_fill_d0a16 cJ7_fill_d0a16 5 none ∈ lw_tbl := List.mem_append_right _ (List.mem_append_right _ (List.mem_append_right _ (List.mem_append_left _ (List.mem_of_getElem? (i := 146) rfl))))
set_option maxRecDepth 20000 in
theorem zcd_187 : Cond.code yJ7_fill_53178 cJ7_fill_53178 4 none ∈ lw_tbl := List.mem_append_right _ (List.mem_append_right _ (List.mem_append_right _ (List.mem_append_left _ (List.mem_of_getElem? (i := 139) rfl))))
set_option maxRecDepth 20000 in
theorem zcd_188 : Cond.code yJ3_checkIndex_8e157 cJ3_checkIndex_8e157 3 (some .int) ∈ lw_tbl := List.mem_append_right _ (List.mem_append_right _ (List.mem_append_right _ (List.mem_append_left _ (List.mem_of_getElem? (i := 45) rfl))))
set_option maxRecDepth 20000 in
theorem zcdA_10 : zall zcdP 10 := ⟨⟨⟨⟨⟨⟨⟨⟨⟨⟨trivial, zcd_0⟩, zcd_1⟩, zcd_2⟩, zcd_3⟩, zcd_4⟩, zcd_5⟩, zcd_6⟩, zcd_7⟩, zcd_8⟩, zcd_9⟩
set_option maxRecDepth 20000 in
theorem zcdA_20 : zall zcdP 20 := ⟨⟨⟨⟨⟨⟨⟨⟨⟨⟨zcdA_10, zcd_10⟩, zcd_11⟩, zcd_12⟩, zcd_13⟩, zcd_14⟩, zcd_15⟩, zcd_16⟩, zcd_17⟩, zcd_18⟩, zcd_19⟩
set_option maxRecDepth 20000 in
theorem zcdA_30 : zall zcdP 30 := ⟨⟨⟨⟨⟨⟨⟨⟨⟨⟨zcdA_20, zcd_20⟩, zcd_21⟩, zcd_22⟩, zcd_23⟩, zcd_24⟩, zcd_25⟩, zcd_26⟩, zcd_27⟩, zcd_28⟩, zcd_29⟩
set_option maxRecDepth 20000 in
theorem zcdA_40 : zall zcdP 40 := ⟨⟨⟨⟨⟨⟨⟨⟨⟨⟨zcdA_30, zcd_30⟩, zcd_31⟩, zcd_32⟩, zcd_33⟩, zcd_34⟩, zcd_35⟩, zcd_36⟩, zcd_37⟩, zcd_38⟩, zcd_39⟩
set_option maxRecDepth 20000 in
theorem zcdA_50 : zall zcdP 50 := ⟨⟨⟨⟨⟨⟨⟨⟨⟨⟨zcdA_40, zcd_40⟩, zcd_41⟩, zcd_42⟩, zcd_43⟩, zcd_44⟩, zcd_45⟩, zcd_46⟩, zcd_47⟩, zcd_48⟩, zcd_49⟩
set_option maxRecDepth 20000 in
theorem zcdA_60 : zall zcdP 60 := ⟨⟨⟨⟨⟨⟨⟨⟨⟨⟨zcdA_50, zcd_50⟩, zcd_51⟩, zcd_52⟩, zcd_53⟩, zcd_54⟩, zcd_55⟩, zcd_56⟩, zcd_57⟩, zcd_58⟩, zcd_59⟩
set_option maxRecDepth 20000 in
theorem zcdA_70 : zall zcdP 70 := ⟨⟨⟨⟨⟨⟨⟨⟨⟨⟨zcdA_60, zcd_60⟩, zcd_61⟩, zcd_62⟩, zcd_63⟩, zcd_64⟩, zcd_65⟩, zcd_66⟩, zcd_67⟩, zcd_68⟩, zcd_69⟩
set_option maxRecDepth 20000 in
theorem zcdA_80 : zall zcdP 80 := ⟨⟨⟨⟨⟨⟨⟨⟨⟨⟨zcdA_70, zcd_70⟩, zcd_71⟩, zcd_72⟩, zcd_73⟩, zcd_74⟩, zcd_75⟩, zcd_76⟩, zcd_77⟩, zcd_78⟩, zcd_79⟩
set_option maxRecDepth 20000 in
theorem zcdA_90 : zall zcdP 90 := ⟨⟨⟨⟨⟨⟨⟨⟨⟨⟨zcdA_80, zcd_80⟩, zcd_81⟩, zcd_82⟩, zcd_83⟩, zcd_84⟩, zcd_85⟩, zcd_86⟩, zcd_87⟩, zcd_88⟩, zcd_89⟩
set_option maxRecDepth 20000 in
theorem zcdA_100 : zall zcdP 100 := ⟨⟨⟨⟨⟨⟨⟨⟨⟨⟨zcdA_90, zcd_90⟩, zcd_91⟩, zcd_92⟩, zcd_93⟩, zcd_94⟩, zcd_95⟩, zcd_96⟩, zcd_97⟩, zcd_98⟩, zcd_99⟩
set_option maxRecDepth 20000 in
theorem zcdA_110 : zall zcdP 110 := ⟨⟨⟨⟨⟨⟨⟨⟨⟨⟨zcdA_100, zcd_100⟩, zcd_101⟩, zcd_102⟩, zcd_103⟩, zcd_104⟩, zcd_105⟩, zcd_106⟩, zcd_107⟩, zcd_108⟩, zcd_109⟩
set_option maxRecDepth 20000 in
theorem zcdA_120 : zall zcdP 120 := ⟨⟨⟨⟨⟨⟨⟨⟨⟨⟨zcdA_110, zcd_110⟩, zcd_111⟩, zcd_112⟩, zcd_113⟩, zcd_114⟩, zcd_115⟩, zcd_116⟩, zcd_117⟩, zcd_118⟩, zcd_119⟩
set_option maxRecDepth 20000 in
theorem zcdA_130 : zall zcdP 130 := ⟨⟨⟨⟨⟨⟨⟨⟨⟨⟨zcdA_120, zcd_120⟩, zcd_121⟩, zcd_122⟩, zcd_123⟩, zcd_124⟩, zcd_125⟩, zcd_126⟩, zcd_127⟩, zcd_128⟩, zcd_129⟩
set_option maxRecDepth 20000 in
theorem zcdA_140 : zall zcdP 140 := ⟨⟨⟨⟨⟨⟨⟨⟨⟨⟨zcdA_130, zcd_130⟩, zcd_131⟩, zcd_132⟩, zcd_133⟩, zcd_134⟩, zcd_135⟩, zcd_136⟩, zcd_137⟩, zcd_138⟩, zcd_139⟩
set_option maxRecDepth 20000 in
theorem zcdA_150 : zall zcdP 150 := ⟨⟨⟨⟨⟨⟨⟨⟨⟨⟨zcdA_140, zcd_140⟩, zcd_141⟩, zcd_142⟩, zcd_143⟩, zcd_144⟩, zcd_145⟩, zcd_146⟩, zcd_147⟩, zcd_148⟩, zcd_149⟩
set_option maxRecDepth 20000 in
theorem zcdA_160 : zall zcdP 160 := ⟨⟨⟨⟨⟨⟨⟨⟨⟨⟨zcdA_150, zcd_150⟩, zcd_151⟩, zcd_152⟩, zcd_153⟩, zcd_154⟩, zcd_155⟩, zcd_156⟩, zcd_157⟩, zcd_158⟩, zcd_159⟩
set_option maxRecDepth 20000 in
theorem zcdA_170 : zall zcdP 170 := ⟨⟨⟨⟨⟨⟨⟨⟨⟨⟨zcdA_160, zcd_160⟩, zcd_161⟩, zcd_162⟩, zcd_163⟩, zcd_164⟩, zcd_165⟩, zcd_166⟩, zcd_167⟩, zcd_168⟩, zcd_169⟩
set_option maxRecDepth 20000 in
theorem zcdA_180 : zall zcdP 180 := ⟨⟨⟨⟨⟨⟨⟨⟨⟨⟨zcdA_170, zcd_170⟩, zcd_171⟩, zcd_172⟩, zcd_173⟩, zcd_174⟩, zcd_175⟩, zcd_176⟩, zcd_177⟩, zcd_178⟩, zcd_179⟩
set_option maxRecDepth 20000 in
theorem zcdA_189 : zall zcdP 189 := ⟨⟨⟨⟨⟨⟨⟨⟨⟨zcdA_180, zcd_180⟩, zcd_181⟩, zcd_182⟩, zcd_183⟩, zcd_184⟩, zcd_185⟩, zcd_186⟩, zcd_187⟩, zcd_188⟩
theorem zcd_all {μ : Nat} (h : μ < 189) : Cond.code (zmn μ) (zmt μ).1.1 (zmt μ).2.1 (zmr μ) ∈ lw_tbl := zall_at 189 zcdA_189 μ h
def zcW : List Nat := [336, 691, 884, 146, 152, 194, 742, 992, 366, 919, 931, 948, 949, 927, 923, 140, 143, 463, 467, 570, 575, 618, 600, 635, 663, 668, 604, 605, 609, 622, 630, 639, 613, 648, 667, 652, 626, 656, 657, 312, 836, 840, 851, 863, 846, 872, 852, 853, 844, 845, 847, 155, 158, 643, 381, 966, 967, 968, 973, 977, 978, 982, 983, 268, 270, 684, 738, 751, 755, 759, 763, 767, 771, 774, 780, 781, 102, 471, 475, 480, 566, 579, 580, 161, 778, 779, 295, 734, 791, 792, 796, 799, 747, 814, 94, 99, 137, 265, 292, 309, 333, 363, 378, 451, 459, 672, 676, 680, 687, 706, 714, 718, 721, 725, 806, 729, 785, 810, 828, 832, 859, 868, 880, 885, 889, 901, 909, 912, 915, 936, 944, 954, 962, 988, 743, 1001, 1149, 1161, 1165, 1168, 1180, 1196, 1176, 1157, 1188, 1171, 1205, 1210, 1184, 1192, 1223, 1219, 1227, 1201, 1215, 1232, 1236, 1283, 1275, 1270, 1279, 1287, 1293, 1297, 1257, 1262, 1266, 1305, 1337, 1329, 1319, 1325, 1333, 1379, 1376, 1373, 1370, 1383, 1403, 91, 998, 447, 1144, 455, 1153, 694, 1240, 698, 1244, 702, 1248, 710, 1253, 802, 1301, 818, 1309, 822, 1313, 854, 1341, 864, 1346, 876, 1350, 893, 1355, 897, 1359, 905, 1364, 940, 1386, 950, 1390, 958, 1397, 984, 1407, 498, 488, 584, 494, 484, 502, 590, 587, 511, 505, 508, 514]
def zokC (q : ((Nat × Nat) × Nat × Nat × Nat) × Nat) : Bool := match q with
  | (((cN, ix), kd, μ, n), i) => (if kd = 3 then zat i (.methodLink (zown cN) ix objectInit) else if kd = 6 then zat i (.methodLink (zown cN) ix Lib.Math.max.name) else if kd = 7 then zat i (.methodLink (zown cN) ix Lib.Math.min.name) else if kd = 5 then zat i (.methodLink (zown cN) ix arraycopyName) else if kd = 4 then decide (lw_tbl[i]? = some (.methodLinkNest (zown cN) ix (zmn μ) "ChanceRuns")) else zat i (.methodLink (zown cN) ix (zmn μ))) && (decide (kd = 3 ∨ kd = 5 ∨ kd = 6 ∨ kd = 7) || decide (μ < 189 ∧ (parseMethodDescriptor (zmn μ).desc).map (fun d => d.parameters.length) = some n ∧ (kd = 1 ↔ (zmt μ).2.2 = 0) ∧ ((kd = 2 ∨ kd = 4) ↔ (zmt μ).1.2.2 = 9) ∧ kd < 5))
theorem zmlL_ok : (zmlL.zip zcW).all zokC = true := by decide +kernel
theorem zmlL_len : zmlL.length = zcW.length := by decide +kernel
def znW : List (Nat × Nat × Nat) := [(147, 151, 72), (149, 157, 73), (367, 0, 0), (141, 142, 71), (156, 157, 73), (269, 142, 71), (97, 98, 69), (135, 136, 70), (263, 264, 74), (290, 291, 75), (307, 308, 76), (331, 332, 77), (361, 362, 78), (376, 377, 79), (89, 90, 68), (996, 997, 80)]
def zokN (q : ((Nat × Nat) × Nat) × (Nat × Nat × Nat)) : Bool := match q with
  | (((cN, ix), ci), (i1, i2, i3)) => decide (13 ≤ ci) || (zat i1 (.classLink (zown cN) ix (zown ci)) && zat i2 (.instantiable (zown ci) (zfn ci)) && zat i3 (.initialized (zown ci)))
theorem znlL_ok : (znlL.zip znW).all zokN = true := by decide +kernel
theorem znlL_len : znlL.length = znW.length := by decide +kernel
def zkW : List Nat := [935, 617, 634, 662, 574, 647, 661, 972, 479, 733, 789, 790, 826, 827, 831, 858, 724, 1148, 1152, 1209, 1175, 1200, 1214, 1231, 1252, 1274, 1291, 1292, 1265, 1261, 1323, 1317, 1318, 1324, 1345, 1354, 1363, 1369, 1382, 1368, 1394, 1395, 1396, 1401, 1402, 1411]
def zokK (q : ((Nat × Nat) × ZV) × Nat) : Bool := match q with
  | (((cN, ix), .inl x), i) => zat i (.constant (zown cN) ix (Int32.ofInt x)) && decide (-2147483648 ≤ x ∧ x < 2147483648)
  | (((cN, ix), .inr (.inl x)), i) => zat i (.constantLong (zown cN) ix (Int64.ofInt x)) && decide (-9223372036854775808 ≤ x ∧ x < 9223372036854775808)
  | (((cN, ix), .inr (.inr (.inr e))), i) => decide (2 ≤ e ∧ e < 9)
  | _ => false
theorem zclL_ok : (zclL.zip zkW).all zokK = true := by decide +kernel
theorem zclL_len : zclL.length = zkW.length := by decide +kernel
theorem zcl_I {cN ix : Nat} {x : Int} (h : zcl cN ix = some (zi x)) : (Cond.constant (zown cN) ix (Int32.ofInt x) ∈ lw_tbl ∧ goodWord (Cond.constant (zown cN) ix (Int32.ofInt x)) = true) ∧ zi3 x := by
  obtain ⟨i, hi⟩ := zip_mem zclL_len (zlk_mem _ _ _ h)
  have h1 := List.all_eq_true.mp zclL_ok _ hi
  simp only [zokK, Bool.and_eq_true, decide_eq_true_eq] at h1
  exact ⟨zat_ok h1.1, h1.2⟩
theorem zcl_L {cN ix : Nat} {x : Int} (h : zcl cN ix = some (zl x)) : (Cond.constantLong (zown cN) ix (Int64.ofInt x) ∈ lw_tbl ∧ goodWord (Cond.constantLong (zown cN) ix (Int64.ofInt x)) = true) ∧ zi6 x := by
  obtain ⟨i, hi⟩ := zip_mem zclL_len (zlk_mem _ _ _ h)
  have h1 := List.all_eq_true.mp zclL_ok _ hi
  simp only [zokK, Bool.and_eq_true, decide_eq_true_eq] at h1
  exact ⟨zat_ok h1.1, h1.2⟩
def zsRef : List (Nat × Nat × String) := [(8, 43, ";:&,<>=+-"), (3, 86, "lots"), (3, 34, "var"), (3, 47, "rule"), (3, 130, "<=>"), (3, 139, "-=+"), (3, 61, "goal")]
theorem zcl_T : ∀ e ∈ zclL, ∀ k, e.2 = zx k → zsRef.getD (k - 2) (0, 0, "") = (e.1.1, e.1.2, (zsRef.getD (k - 2) (0, 0, "")).2.2) := by
  have h : zclL.all (fun e => match e.2 with
    | .inr (.inr (.inr k)) => decide (zsRef.getD (k - 2) (0, 0, "") = (e.1.1, e.1.2, (zsRef.getD (k - 2) (0, 0, "")).2.2))
    | _ => true) = true := by decide +kernel
  intro e he k hk
  have := List.all_eq_true.mp h e he
  rw [hk] at this
  simpa using this
theorem zst_1 : zat 492 (.fieldLink "java/lang/String" 38 "java/lang/String" "COMPACT_STRINGS" "Z") = true := by decide +kernel
theorem zst_2 : zat 535 (.fieldLink "java/lang/String" 1053 "jdk/internal/util/Preconditions" "SIOOBE_FORMATTER" "Ljava/util/function/BiFunction;") = true := by decide +kernel
theorem zst_3 : zat 1413 (.fieldLink "java/lang/String" 9 "java/lang/String" "value" "[B") = true := by decide +kernel
theorem zst_4 : zat 1412 (.fieldLink "java/lang/String" 15 "java/lang/String" "coder" "B") = true := by decide +kernel
theorem zar_int : zat 176 (.arrayClass .int) = true := by decide +kernel
theorem zar_long : zat 329 (.arrayClass .long) = true := by decide +kernel
theorem zar_byte : zat 134 (.arrayClass .byte) = true := by decide +kernel
theorem zar_bool : zat 330 (.arrayClass .boolean) = true := by decide +kernel
theorem zao_rule : lw_tbl[148]? = some (.arrayOver (.object RX5)) := by decide +kernel
theorem zao_terms : lw_tbl[150]? = some (.arrayOver (.object RX9)) := by decide +kernel
theorem zao_rows : lw_tbl[368]? = some (.arrayOver (.array .long)) := by decide +kernel
theorem zao_mlink : lw_tbl[367]? = some (.classLink RX2 11 "[[J") := by decide +kernel
theorem zac_1 : zat 772 (.static arraycopyName) = true := by decide +kernel
theorem zac_2 : lw_tbl[773]? = some (.native arraycopyName) := by decide +kernel
theorem zac_3 : zat 88 (.initialized "java/lang/System") = true := by decide +kernel
theorem zmx_1 : zat 509 (.static Lib.Math.max.name) = true := by decide +kernel
theorem zmx_2 : zat 512 (.static Lib.Math.min.name) = true := by decide +kernel
theorem zmx_3 : zat 83 (.initialized "java/lang/Math") = true := by decide +kernel
theorem zmx_4 : zat 510 (.code Lib.Math.max.name Lib.Math.max.code 2 (some .int)) = true := by decide +kernel
theorem zmx_5 : zat 513 (.code Lib.Math.min.name Lib.Math.min.code 2 (some .int)) = true := by decide +kernel
theorem zob_1 : zat 95 (.instanceMethod objectInit) = true := by decide +kernel
theorem zob_2 : zat 96 (.code objectInit ⟨#[0xb1]⟩ 1 none) = true := by decide +kernel
