/-! ===== the tables' words among lw_tbl, by their places (gen.py) ===== -/
def zTs : List Cond := lw_tbl.filter goodWord
theorem zTs_of {ws : List Cond} (ps : List Nat) (hp : ws = ps.filterMap (fun i => lw_tbl[i]?)) (h : ws.all goodWord = true) : ∀ w ∈ ws, w ∈ zTs := by
  intro w hw
  have h1 := List.all_eq_true.mp h w hw
  rw [hp] at hw
  obtain ⟨i, -, hi⟩ := List.mem_filterMap.mp hw
  exact List.mem_filter.mpr ⟨List.mem_of_getElem? hi, h1⟩
theorem zTs_good : ∀ w ∈ zTs, goodWord w = true := fun _ h => (List.mem_filter.mp h).2
theorem zTs_tbl : ∀ w ∈ zTs, w ∈ lw_tbl := fun _ h => (List.mem_filter.mp h).1
def zflat {α : Type} (t : List (List α)) : List (Nat × α) := (List.range t.length).flatMap (fun o => (t.getD o []).map (fun e => (o, e)))
theorem zflat_in {α : Type} {t : List (List α)} {o : Nat} {e : α} (h : e ∈ t.getD o []) : (o, e) ∈ zflat t := by
  refine List.mem_flatMap.mpr ⟨o, ?_, List.mem_map.mpr ⟨e, h, rfl⟩⟩
  rw [List.mem_range]
  rcases Nat.lt_or_ge o t.length with g | g
  · exact g
  · rw [List.getD_eq_getElem?_getD, List.getElem?_eq_none g] at h
    cases h
def zFw (q : Nat × Nat × Nat × Nat) : Cond := .fieldLink (zRs q.1) q.2.1 (zTt q.2.2.1 q.2.2.2).1 (zTt q.2.2.1 q.2.2.2).2.1 (zTt q.2.2.1 q.2.2.2).2.2.1
def zMw (q : Nat × Nat × Nat × Nat) : Cond := .methodLink (zRs q.1) q.2.1 (zM q.2.2.1).1
def zNw (q : Nat × Nat × Nat × Nat) : Cond := .methodLinkNest (zRs q.1) q.2.1 (zM q.2.2.1).1 "InsuredFlame"
def zKw (q : Nat × Nat × Int32) : Cond := .constant (zRs q.1) q.2.1 q.2.2
def zCw (q : Nat × Nat × Nat) : Cond := .classLink (zRs q.1) q.2.1 (zRs q.2.2)
def zOw (q : Nat × Nat) : Cond := .methodLink (zRs q.1) q.2 objectInit
theorem zFL_ok : ∀ w ∈ (zflat zFL).map zFw, w ∈ zTs := zTs_of [368, 345, 346, 347, 348, 349, 143, 147, 166, 169, 305, 306, 140, 144, 318, 320, 322, 323, 324, 325, 203, 204, 205, 206, 207, 208, 209, 210, 211, 212, 213, 253, 267, 139, 150, 153, 156, 159, 163, 165, 255, 295, 138, 142, 146, 149, 152, 155, 158, 161, 164, 168, 171, 248, 249, 250, 251, 252, 254, 279, 281, 141, 145, 148, 151, 154, 157, 160, 162, 167, 170, 172, 214, 280, 319, 321, 372, 373, 374, 375, 376, 377, 378, 379, 380, 381, 382, 383, 384, 385, 386, 1081, 1082, 1083, 1084, 1085, 1086, 1087, 1088, 1089, 1090, 1091, 1092, 1093, 1094, 1095, 1096, 1097, 1098, 1099, 1100, 1101, 1102, 1103, 1104, 1105, 1106, 1107, 1108, 1109, 1110, 1111, 1112, 1113, 1114, 1115, 1116, 1117, 1118, 1119, 1120, 1121, 1122, 1123, 1124, 1125, 1126] (by decide +kernel) (by decide +kernel)
theorem zML_ok : ∀ w ∈ ((zflat zML).filter (fun q => Nat.beq q.2.2.2 0)).map zMw, w ∈ zTs := zTs_of [981, 994, 1007, 1024, 1028, 926, 930, 934, 939, 943, 947, 754, 758, 771, 778, 779, 783, 787, 792, 796, 800, 817, 822, 823, 827, 889, 910, 911, 912, 913, 963, 966, 804, 808, 812, 441, 448, 452, 456, 460, 464, 468, 472, 476, 480, 486, 490, 494, 583, 587, 591, 595, 599, 603, 607, 687, 688, 692, 693, 694, 695, 699, 700, 704, 708, 709, 710, 714, 718, 719, 723, 724, 728, 732, 737, 741, 745, 660, 679, 762, 766, 767, 484, 485, 620, 621, 625, 629, 633, 634, 637, 638, 642, 643, 650, 654, 655, 422, 430, 434, 437, 616, 656, 664, 672, 683, 750, 831, 839, 843, 851, 852, 856, 857, 862, 863, 864, 880, 881, 885, 893, 902, 906, 918, 921, 922, 955, 959, 978, 984, 990, 1004, 1010, 1020, 1037, 1058, 1059, 1067, 1224, 1232, 1235, 1239, 1243, 1247, 1251, 1255, 1259, 1264, 1268, 1272, 1276, 1279, 1282, 1286, 1290, 1294, 1298, 1302, 1306, 1310, 1314, 1322, 1326, 1330, 1333, 1337, 1341, 1348, 1351, 1355, 1359, 1363, 1367, 1371, 1375, 1379, 1387, 1391, 1395, 1399, 1403, 1407, 1411, 1414, 1417, 1421, 1425, 1429, 1433, 1437, 1441, 1444, 1449, 1453, 1461, 1465, 1473, 1493, 1497, 1501, 1509, 1517, 1521, 1525, 1529, 1537, 1541, 1552, 1556, 1563, 1566, 1576, 1583, 1587, 1594, 1598, 1627, 1631, 126, 418, 426, 612, 668, 746, 835, 847, 858, 868, 872, 876, 898, 914, 951, 970, 974, 985, 1000, 1016, 1033, 1040, 1045, 1050, 1054, 1063, 1071, 1077, 1220, 1228, 1318, 1344, 1383, 1457, 1469, 1477, 1481, 1485, 1489, 1505, 1513, 1533, 1544, 1548, 1559, 1570, 1579, 1590, 1602, 1606, 1611, 1615, 1619, 1623] (by decide +kernel) (by decide +kernel)
def zNs : List Cond := ((zflat zML).filter (fun q => Nat.beq q.2.2.2 1)).map zNw
theorem zNL_ok : ∀ w ∈ zNs, w ∈ lw_tbl := by
  intro w hw
  rw [show zNs = ([938, 775, 897, 244, 294, 711, 736, 791, 278, 647, 134, 199, 238, 273, 289, 301, 314, 341, 364] : List Nat).filterMap (fun i => lw_tbl[i]?) by decide +kernel] at hw
  obtain ⟨i, -, hi⟩ := List.mem_filterMap.mp hw
  exact List.mem_of_getElem? hi
theorem zKL_ok : ∀ w ∈ (zflat zKL).map zKw, w ∈ zTs := zTs_of [993, 821, 989, 1049, 1263, 1448, 1574, 1575, 1610, 1013, 1014, 1015] (by decide +kernel) (by decide +kernel)
theorem zCL_ok : ∀ w ∈ (zflat zCL).map zCw, w ∈ zTs := zTs_of [242, 293, 277, 132, 197, 236, 271, 287, 299, 312, 339, 362, 124, 1075] (by decide +kernel) (by decide +kernel)
theorem zOL_ok : ∀ w ∈ (zflat zOL).map zOw, w ∈ zTs := zTs_of [367, 344, 304, 317, 202, 241, 292, 137, 247, 276, 129, 1080] (by decide +kernel) (by decide +kernel)
def zTn (r : Nat) : MethodName := if r = 903 then Lib.Math.max.name else if r = 904 then Lib.Math.min.name else Lib.Math.abs.name
def zTw (q : Nat × Nat × Nat) : Cond := .methodLink (zRs q.1) q.2.1 (zTn q.2.2)
theorem zTL_ok : ∀ w ∈ (zflat zTL).map zTw, w ∈ zTs := zTs_of [997, 1032, 815, 816, 445, 1044] (by decide +kernel) (by decide +kernel)
theorem zMT_ok : ∀ w ∈ ([.static Lib.Math.max.name, .code Lib.Math.max.name Lib.Math.max.code 2 (some .int), .static Lib.Math.min.name, .code Lib.Math.min.name Lib.Math.min.code 2 (some .int), .static Lib.Math.abs.name, .code Lib.Math.abs.name Lib.Math.abs.code 1 (some .int), .initialized "java/lang/Math"] : List Cond), w ∈ zTs := zTs_of [528, 529, 446, 447, 998, 999, 116] (by decide +kernel) (by decide +kernel)
theorem zTLk_ok : (zflat zTL).all (fun q => Nat.beq q.2.2 903 || Nat.beq q.2.2 904 || Nat.beq q.2.2 905) = true := by decide +kernel
theorem zOI_ok : ∀ w ∈ ([.instanceMethod objectInit, .code objectInit ⟨#[0xb1]⟩ 1 none] : List Cond), w ∈ zTs := zTs_of [130, 131] (by decide +kernel) (by decide +kernel)
theorem zAC_ok : ∀ w ∈ ([.methodLink (zRs 7) 46 arraycopyName, .static arraycopyName, .native arraycopyName, .initialized "java/lang/System"] : List Cond), w ∈ zTs := zTs_of [676, 677, 678, 122] (by decide +kernel) (by decide +kernel)
theorem zAA_ok : ∀ w ∈ ([.arrayClass .int, .arrayClass .byte, .arrayClass .boolean] : List Cond), w ∈ zTs := zTs_of [196, 611, 361] (by decide +kernel) (by decide +kernel)
def zNf (c : Nat) : Nat := (zFTl.getD c []).length
def zTyl : List (Nat → FieldType) := [tyX0, tyX1, tyX2, tyX3, tyX4, tyX5, tyX6, tyX7, tyX8, tyX9, tyX10, tyX11]
def zTy (c : Nat) : Nat → FieldType := zTyl.getD c tyX0
theorem zK0_ok : ∀ w ∈ u_ws (zRs 0) (zTt 0) (zNf 0) ++ [.instantiable (zRs 0) (zNf 0), .initialized (zRs 0)], w ∈ zTs := zTs_of [369, 363, 114] (by decide +kernel) (by decide +kernel)
theorem zK1_ok : ∀ w ∈ u_ws (zRs 1) (zTt 1) (zNf 1) ++ [.instantiable (zRs 1) (zNf 1), .initialized (zRs 1)], w ∈ zTs := zTs_of [350, 352, 354, 356, 358, 340, 113] (by decide +kernel) (by decide +kernel)
theorem zK2_ok : ∀ w ∈ u_ws (zRs 2) (zTt 2) (zNf 2) ++ [.instantiable (zRs 2) (zNf 2), .initialized (zRs 2)], w ∈ zTs := zTs_of [307, 309, 300, 111] (by decide +kernel) (by decide +kernel)
theorem zK3_ok : ∀ w ∈ u_ws (zRs 3) (zTt 3) (zNf 3) ++ [.instantiable (zRs 3) (zNf 3), .initialized (zRs 3)], w ∈ zTs := zTs_of [326, 328, 330, 332, 334, 336, 313, 112] (by decide +kernel) (by decide +kernel)
theorem zK4_ok : ∀ w ∈ u_ws (zRs 4) (zTt 4) (zNf 4) ++ [.instantiable (zRs 4) (zNf 4), .initialized (zRs 4)], w ∈ zTs := zTs_of [215, 217, 219, 221, 223, 225, 227, 229, 231, 233, 198, 106] (by decide +kernel) (by decide +kernel)
theorem zK5_ok : ∀ w ∈ u_ws (zRs 5) (zTt 5) (zNf 5) ++ [.instantiable (zRs 5) (zNf 5), .initialized (zRs 5)], w ∈ zTs := zTs_of [268, 237, 107] (by decide +kernel) (by decide +kernel)
theorem zK6_ok : ∀ w ∈ u_ws (zRs 6) (zTt 6) (zNf 6) ++ [.instantiable (zRs 6) (zNf 6), .initialized (zRs 6)], w ∈ zTs := zTs_of [296, 288, 110] (by decide +kernel) (by decide +kernel)
theorem zK7_ok : ∀ w ∈ u_ws (zRs 7) (zTt 7) (zNf 7) ++ [.instantiable (zRs 7) (zNf 7), .initialized (zRs 7)], w ∈ zTs := zTs_of [173, 175, 177, 179, 181, 183, 185, 187, 189, 191, 193, 133, 105] (by decide +kernel) (by decide +kernel)
theorem zK8_ok : ∀ w ∈ u_ws (zRs 8) (zTt 8) (zNf 8) ++ [.instantiable (zRs 8) (zNf 8), .initialized (zRs 8)], w ∈ zTs := zTs_of [256, 258, 260, 262, 264, 243, 108] (by decide +kernel) (by decide +kernel)
theorem zK9_ok : ∀ w ∈ u_ws (zRs 9) (zTt 9) (zNf 9) ++ [.instantiable (zRs 9) (zNf 9), .initialized (zRs 9)], w ∈ zTs := zTs_of [282, 284, 272, 109] (by decide +kernel) (by decide +kernel)
theorem zK10_ok : ∀ w ∈ u_ws (zRs 10) (zTt 10) (zNf 10) ++ [.instantiable (zRs 10) (zNf 10), .initialized (zRs 10)], w ∈ zTs := zTs_of [387, 389, 391, 393, 395, 397, 399, 401, 403, 405, 407, 409, 411, 413, 415, 125, 104] (by decide +kernel) (by decide +kernel)
theorem zK11_ok : ∀ w ∈ u_ws (zRs 11) (zTt 11) (zNf 11) ++ [.instantiable (zRs 11) (zNf 11), .initialized (zRs 11)], w ∈ zTs := zTs_of [1127, 1129, 1131, 1133, 1135, 1137, 1139, 1141, 1143, 1145, 1147, 1149, 1151, 1153, 1155, 1157, 1159, 1161, 1163, 1165, 1167, 1169, 1171, 1173, 1175, 1177, 1179, 1181, 1183, 1185, 1187, 1189, 1191, 1193, 1195, 1197, 1199, 1201, 1203, 1205, 1207, 1209, 1211, 1213, 1215, 1217, 1076, 115] (by decide +kernel) (by decide +kernel)
theorem zK_ok : ∀ c, c < 12 → ∀ w ∈ u_ws (zRs c) (zTt c) (zNf c) ++ [.instantiable (zRs c) (zNf c), .initialized (zRs c)], w ∈ zTs
  | 0, _ => zK0_ok
  | 1, _ => zK1_ok
  | 2, _ => zK2_ok
  | 3, _ => zK3_ok
  | 4, _ => zK4_ok
  | 5, _ => zK5_ok
  | 6, _ => zK6_ok
  | 7, _ => zK7_ok
  | 8, _ => zK8_ok
  | 9, _ => zK9_ok
  | 10, _ => zK10_ok
  | 11, _ => zK11_ok
  | c + 12, h => absurd h (by omega)
theorem zcl_ok : ∀ c, c < 12 → vwCl[c]? = some (zRs c, zTt c, zNf c)
  | 0, _ => rfl
  | 1, _ => rfl
  | 2, _ => rfl
  | 3, _ => rfl
  | 4, _ => rfl
  | 5, _ => rfl
  | 6, _ => rfl
  | 7, _ => rfl
  | 8, _ => rfl
  | 9, _ => rfl
  | 10, _ => rfl
  | 11, _ => rfl
  | c + 12, h => absurd h (by omega)
theorem zty_ok : ∀ c, c < 12 → ∀ k, k < zNf c → parseFieldDescriptor (zTt c k).2.2.1 = some (zTy c k)
  | 0, _ => tyX0_ok
  | 1, _ => tyX1_ok
  | 2, _ => tyX2_ok
  | 3, _ => tyX3_ok
  | 4, _ => tyX4_ok
  | 5, _ => tyX5_ok
  | 6, _ => tyX6_ok
  | 7, _ => tyX7_ok
  | 8, _ => tyX8_ok
  | 9, _ => tyX9_ok
  | 10, _ => tyX10_ok
  | 11, _ => tyX11_ok
  | c + 12, h => absurd h (by omega)
theorem znm_ok : ∀ c, c < 12 → ∀ a, a < zNf c → ∀ b, b < zNf c → a ≠ b → (zTt c a).2.1 ≠ (zTt c b).2.1
  | 0, _ => nmX0
  | 1, _ => nmX1
  | 2, _ => nmX2
  | 3, _ => nmX3
  | 4, _ => nmX4
  | 5, _ => nmX5
  | 6, _ => nmX6
  | 7, _ => nmX7
  | 8, _ => nmX8
  | 9, _ => nmX9
  | 10, _ => nmX10
  | 11, _ => nmX11
  | c + 12, h => absurd h (by omega)
/-- the kinds of the fields, and who declares them -/
def zfk (c k : Nat) : Bool := decide ((zTt c k).1 = zRs c) && (match zTy c k with
  | .int => Nat.beq (zFT c k) 0
  | .boolean => Nat.beq (zFT c k) 1
  | .object _ => Nat.beq (zFT c k) 2
  | .array _ => Nat.beq (zFT c k) 2
  | _ => false)
theorem zfk_ok : (List.range 12).all (fun c => (List.range (zNf c)).all (fun k => zfk c k)) = true := by decide +kernel
theorem zFLk_ok : (zflat zFL).all (fun q => Nat.blt q.2.2.1 12 && Nat.blt q.2.2.2 (zNf q.2.2.1)) = true := by decide +kernel
theorem zCLk_ok : (zflat zCL).all (fun q => Nat.blt q.2.2 12) = true := by decide +kernel
def zUw (m : zMi) : List Cond := [.initialized m.1.cls] ++ (match m.2.2.2.2.2.2 with
  | 0 => [.instanceMethod m.1, .selects m.1.cls m.1 m.1]
  | 1 => [.static m.1]
  | _ => [.instanceMethod m.1])
def zUk (m : zMi) : Bool := plainName m.1.cls && (decide (m.1.cls ≠ "java/lang/invoke/MethodHandle" ∧ m.1.cls ≠ "java/lang/invoke/VarHandle") && (decide ((parseMethodDescriptor m.1.desc).map (fun d => d.parameters.length + (if m.2.2.2.2.2.2 = 1 then 0 else if m.2.2.2.2.2.2 = 3 then 0 else 1)) = some m.2.2.2.2.2.1) && (Nat.ble m.2.2.1 60 && (Nat.ble m.2.2.2.2.2.1 m.2.2.1 && (decide (m.1.cls = zRs m.2.2.2.2.1) && ((Nat.blt m.2.2.2.2.1 12 || !Nat.beq m.2.2.2.2.2.2 0) && (Nat.beq m.2.2.2.2.2.2 2 == decide (m.1.name = "<init>") && ((!Nat.beq m.2.2.2.2.2.2 2 || decide (m.2.2.2.1 = none)) && decide (m.2.2.2.1 = none ∨ m.2.2.2.1 = some .int ∨ m.2.2.2.1 = some .boolean)))))))))
theorem zin_1 {w : Cond} {i : Nat} (h : tables_1_1[i]? = some w) (g : goodWord w = true) : w ∈ zTs := List.mem_filter.mpr ⟨List.mem_append_right _ (show w ∈ tables_1 from (fun (h : w ∈ tables_1_1) => List.mem_append_left _ h) (List.mem_of_getElem? h)), g⟩
theorem zin_2 {w : Cond} {i : Nat} (h : tables_1_2[i]? = some w) (g : goodWord w = true) : w ∈ zTs := List.mem_filter.mpr ⟨List.mem_append_right _ (show w ∈ tables_1 from (fun (h : w ∈ tables_1_2) => List.mem_append_right _ (List.mem_append_left _ h)) (List.mem_of_getElem? h)), g⟩
theorem zin_3 {w : Cond} {i : Nat} (h : tables_1_3[i]? = some w) (g : goodWord w = true) : w ∈ zTs := List.mem_filter.mpr ⟨List.mem_append_right _ (show w ∈ tables_1 from (fun (h : w ∈ tables_1_3) => List.mem_append_right _ (List.mem_append_right _ (List.mem_append_left _ h))) (List.mem_of_getElem? h)), g⟩
theorem zin_4 {w : Cond} {i : Nat} (h : tables_1_4[i]? = some w) (g : goodWord w = true) : w ∈ zTs := List.mem_filter.mpr ⟨List.mem_append_right _ (show w ∈ tables_1 from (fun (h : w ∈ tables_1_4) => List.mem_append_right _ (List.mem_append_right _ (List.mem_append_right _ (List.mem_append_left _ h)))) (List.mem_of_getElem? h)), g⟩
theorem zin_5 {w : Cond} {i : Nat} (h : tables_1_5[i]? = some w) (g : goodWord w = true) : w ∈ zTs := List.mem_filter.mpr ⟨List.mem_append_right _ (show w ∈ tables_1 from (fun (h : w ∈ tables_1_5) => List.mem_append_right _ (List.mem_append_right _ (List.mem_append_right _ (List.mem_append_right _ (List.mem_append_left _ h))))) (List.mem_of_getElem? h)), g⟩
theorem zin_6 {w : Cond} {i : Nat} (h : tables_1_6[i]? = some w) (g : goodWord w = true) : w ∈ zTs := List.mem_filter.mpr ⟨List.mem_append_right _ (show w ∈ tables_1 from (fun (h : w ∈ tables_1_6) => List.mem_append_right _ (List.mem_append_right _ (List.mem_append_right _ (List.mem_append_right _ (List.mem_append_right _ (List.mem_append_left _ h)))))) (List.mem_of_getElem? h)), g⟩
theorem zin_7 {w : Cond} {i : Nat} (h : tables_1_7[i]? = some w) (g : goodWord w = true) : w ∈ zTs := List.mem_filter.mpr ⟨List.mem_append_right _ (show w ∈ tables_1 from (fun (h : w ∈ tables_1_7) => List.mem_append_right _ (List.mem_append_right _ (List.mem_append_right _ (List.mem_append_right _ (List.mem_append_right _ (List.mem_append_right _ (h))))))) (List.mem_of_getElem? h)), g⟩
def zCdw (m : zMi) : Cond := .code m.1 m.2.1 m.2.2.1 m.2.2.2.1
def zUp_0 : List (List Nat) := [[114, 365], [114, 979], [114, 982], [114, 991], [114, 995], [114, 1005], [114, 1008], [114, 1021, 1022], [114, 1026, 35], [114, 1030, 36], [114, 1038], [113, 342], [113, 923, 924], [113, 928, 28], [113, 932, 29], [113, 936, 30]]
theorem zU_ok_0 : ((zMs_0).zip zUp_0).all (fun q => Nat.beq q.1.2.2.2.2.2.2 3 || (decide (zUw q.1 = q.2.filterMap (fun i => lw_tbl[i]?)) && (zUw q.1).all goodWord)) = true := by decide +kernel
theorem zUl_0 : (zUp_0).length = (zMs_0).length := by decide +kernel
set_option maxRecDepth 20000 in
theorem zcw_0 : ∀ m ∈ zMs_0, m.2.2.2.2.2.2 = 3 ∨ zCdw m ∈ zTs := List.forall_mem_cons.mpr ⟨Or.inr (zin_2 (i := 23) rfl rfl), List.forall_mem_cons.mpr ⟨Or.inr (zin_4 (i := 157) rfl rfl), List.forall_mem_cons.mpr ⟨Or.inr (zin_4 (i := 160) rfl rfl), List.forall_mem_cons.mpr ⟨Or.inr (zin_4 (i := 169) rfl rfl), List.forall_mem_cons.mpr ⟨Or.inr (zin_4 (i := 173) rfl rfl), List.forall_mem_cons.mpr ⟨Or.inr (zin_4 (i := 183) rfl rfl), List.forall_mem_cons.mpr ⟨Or.inr (zin_4 (i := 186) rfl rfl), List.forall_mem_cons.mpr ⟨Or.inr (zin_4 (i := 200) rfl rfl), List.forall_mem_cons.mpr ⟨Or.inr (zin_4 (i := 204) rfl rfl), List.forall_mem_cons.mpr ⟨Or.inr (zin_4 (i := 208) rfl rfl), List.forall_mem_cons.mpr ⟨Or.inr (zin_4 (i := 216) rfl rfl), List.forall_mem_cons.mpr ⟨Or.inr (zin_2 (i := 0) rfl rfl), List.forall_mem_cons.mpr ⟨Or.inr (zin_4 (i := 102) rfl rfl), List.forall_mem_cons.mpr ⟨Or.inr (zin_4 (i := 106) rfl rfl), List.forall_mem_cons.mpr ⟨Or.inr (zin_4 (i := 110) rfl rfl), List.forall_mem_cons.mpr ⟨Or.inr (zin_4 (i := 114) rfl rfl), fun _ h => absurd h List.not_mem_nil⟩⟩⟩⟩⟩⟩⟩⟩⟩⟩⟩⟩⟩⟩⟩⟩
def zUp_1 : List (List Nat) := [[113, 941, 31], [113, 945, 32], [113, 949, 33], [111, 302], [111, 751, 752], [111, 756, 21], [111, 773, 22], [111, 825, 26], [111, 781, 23], [112, 315], [112, 882, 883], [112, 886, 887], [112, 891, 27], [112, 894, 895], [112, 956, 957], [112, 907, 908]]
theorem zU_ok_1 : ((zMs_1).zip zUp_1).all (fun q => Nat.beq q.1.2.2.2.2.2.2 3 || (decide (zUw q.1 = q.2.filterMap (fun i => lw_tbl[i]?)) && (zUw q.1).all goodWord)) = true := by decide +kernel
theorem zUl_1 : (zUp_1).length = (zMs_1).length := by decide +kernel
set_option maxRecDepth 20000 in
theorem zcw_1 : ∀ m ∈ zMs_1, m.2.2.2.2.2.2 = 3 ∨ zCdw m ∈ zTs := List.forall_mem_cons.mpr ⟨Or.inr (zin_4 (i := 119) rfl rfl), List.forall_mem_cons.mpr ⟨Or.inr (zin_4 (i := 123) rfl rfl), List.forall_mem_cons.mpr ⟨Or.inr (zin_4 (i := 127) rfl rfl), List.forall_mem_cons.mpr ⟨Or.inr (zin_1 (i := 200) rfl rfl), List.forall_mem_cons.mpr ⟨Or.inr (zin_3 (i := 170) rfl rfl), List.forall_mem_cons.mpr ⟨Or.inr (zin_3 (i := 174) rfl rfl), List.forall_mem_cons.mpr ⟨Or.inr (zin_3 (i := 191) rfl rfl), List.forall_mem_cons.mpr ⟨Or.inr (zin_4 (i := 3) rfl rfl), List.forall_mem_cons.mpr ⟨Or.inr (zin_3 (i := 199) rfl rfl), List.forall_mem_cons.mpr ⟨Or.inr (zin_1 (i := 213) rfl rfl), List.forall_mem_cons.mpr ⟨Or.inr (zin_4 (i := 61) rfl rfl), List.forall_mem_cons.mpr ⟨Or.inr (zin_4 (i := 65) rfl rfl), List.forall_mem_cons.mpr ⟨Or.inr (zin_4 (i := 69) rfl rfl), List.forall_mem_cons.mpr ⟨Or.inr (zin_4 (i := 73) rfl rfl), List.forall_mem_cons.mpr ⟨Or.inr (zin_4 (i := 135) rfl rfl), List.forall_mem_cons.mpr ⟨Or.inr (zin_4 (i := 86) rfl rfl), fun _ h => absurd h List.not_mem_nil⟩⟩⟩⟩⟩⟩⟩⟩⟩⟩⟩⟩⟩⟩⟩⟩
def zUp_2 : List (List Nat) := [[112, 960, 961], [112, 968, 34], [112, 964], [106, 200], [106, 449, 450], [106, 469, 470], [106, 584, 585], [106, 600, 601], [106, 495, 496], [106, 596, 597], [106, 784, 785], [106, 801, 802], [106, 828, 829], [106, 806, 24], [106, 810, 25], [106, 813]]
theorem zU_ok_2 : ((zMs_2).zip zUp_2).all (fun q => Nat.beq q.1.2.2.2.2.2.2 3 || (decide (zUw q.1 = q.2.filterMap (fun i => lw_tbl[i]?)) && (zUw q.1).all goodWord)) = true := by decide +kernel
theorem zUl_2 : (zUp_2).length = (zMs_2).length := by decide +kernel
set_option maxRecDepth 20000 in
theorem zcw_2 : ∀ m ∈ zMs_2, m.2.2.2.2.2.2 = 3 ∨ zCdw m ∈ zTs := List.forall_mem_cons.mpr ⟨Or.inr (zin_4 (i := 139) rfl rfl), List.forall_mem_cons.mpr ⟨Or.inr (zin_4 (i := 146) rfl rfl), List.forall_mem_cons.mpr ⟨Or.inr (zin_4 (i := 142) rfl rfl), List.forall_mem_cons.mpr ⟨Or.inr (zin_1 (i := 98) rfl rfl), List.forall_mem_cons.mpr ⟨Or.inr (zin_2 (i := 108) rfl rfl), List.forall_mem_cons.mpr ⟨Or.inr (zin_2 (i := 128) rfl rfl), List.forall_mem_cons.mpr ⟨Or.inr (zin_3 (i := 3) rfl rfl), List.forall_mem_cons.mpr ⟨Or.inr (zin_3 (i := 19) rfl rfl), List.forall_mem_cons.mpr ⟨Or.inr (zin_2 (i := 154) rfl rfl), List.forall_mem_cons.mpr ⟨Or.inr (zin_3 (i := 15) rfl rfl), List.forall_mem_cons.mpr ⟨Or.inr (zin_3 (i := 203) rfl rfl), List.forall_mem_cons.mpr ⟨Or.inr (zin_3 (i := 220) rfl rfl), List.forall_mem_cons.mpr ⟨Or.inr (zin_4 (i := 7) rfl rfl), List.forall_mem_cons.mpr ⟨Or.inr (zin_3 (i := 224) rfl rfl), List.forall_mem_cons.mpr ⟨Or.inr (zin_3 (i := 228) rfl rfl), List.forall_mem_cons.mpr ⟨Or.inr (zin_3 (i := 231) rfl rfl), fun _ h => absurd h List.not_mem_nil⟩⟩⟩⟩⟩⟩⟩⟩⟩⟩⟩⟩⟩⟩⟩⟩
def zUp_3 : List (List Nat) := [[107, 239], [107, 438, 439], [107, 454, 2], [107, 589, 5], [107, 593, 6], [107, 474, 3], [107, 478, 4], [110, 290], [110, 684, 685], [110, 690, 12], [110, 697, 13], [110, 726, 17], [110, 730, 18], [110, 734, 19], [110, 739, 20], [110, 702, 14]]
theorem zU_ok_3 : ((zMs_3).zip zUp_3).all (fun q => Nat.beq q.1.2.2.2.2.2.2 3 || (decide (zUw q.1 = q.2.filterMap (fun i => lw_tbl[i]?)) && (zUw q.1).all goodWord)) = true := by decide +kernel
theorem zUl_3 : (zUp_3).length = (zMs_3).length := by decide +kernel
set_option maxRecDepth 20000 in
theorem zcw_3 : ∀ m ∈ zMs_3, m.2.2.2.2.2.2 = 3 ∨ zCdw m ∈ zTs := List.forall_mem_cons.mpr ⟨Or.inr (zin_1 (i := 137) rfl rfl), List.forall_mem_cons.mpr ⟨Or.inr (zin_2 (i := 97) rfl rfl), List.forall_mem_cons.mpr ⟨Or.inr (zin_2 (i := 112) rfl rfl), List.forall_mem_cons.mpr ⟨Or.inr (zin_3 (i := 7) rfl rfl), List.forall_mem_cons.mpr ⟨Or.inr (zin_3 (i := 11) rfl rfl), List.forall_mem_cons.mpr ⟨Or.inr (zin_2 (i := 132) rfl rfl), List.forall_mem_cons.mpr ⟨Or.inr (zin_2 (i := 136) rfl rfl), List.forall_mem_cons.mpr ⟨Or.inr (zin_1 (i := 188) rfl rfl), List.forall_mem_cons.mpr ⟨Or.inr (zin_3 (i := 103) rfl rfl), List.forall_mem_cons.mpr ⟨Or.inr (zin_3 (i := 108) rfl rfl), List.forall_mem_cons.mpr ⟨Or.inr (zin_3 (i := 115) rfl rfl), List.forall_mem_cons.mpr ⟨Or.inr (zin_3 (i := 144) rfl rfl), List.forall_mem_cons.mpr ⟨Or.inr (zin_3 (i := 148) rfl rfl), List.forall_mem_cons.mpr ⟨Or.inr (zin_3 (i := 152) rfl rfl), List.forall_mem_cons.mpr ⟨Or.inr (zin_3 (i := 157) rfl rfl), List.forall_mem_cons.mpr ⟨Or.inr (zin_3 (i := 120) rfl rfl), fun _ h => absurd h List.not_mem_nil⟩⟩⟩⟩⟩⟩⟩⟩⟩⟩⟩⟩⟩⟩⟩⟩
def zUp_4 : List (List Nat) := [[110, 706, 15], [110, 721, 16], [105, 135], [105, 673, 674], [105, 680, 681], [105, 657, 658], [105, 1060, 1061], [105, 661, 662], [105, 818, 819], [105, 715, 716], [105, 903, 904], [105, 665, 666], [105, 832, 833], [105, 788, 789], [105, 742, 743], [105, 768, 769]]
theorem zU_ok_4 : ((zMs_4).zip zUp_4).all (fun q => Nat.beq q.1.2.2.2.2.2.2 3 || (decide (zUw q.1 = q.2.filterMap (fun i => lw_tbl[i]?)) && (zUw q.1).all goodWord)) = true := by decide +kernel
theorem zUl_4 : (zUp_4).length = (zMs_4).length := by decide +kernel
set_option maxRecDepth 20000 in
theorem zcw_4 : ∀ m ∈ zMs_4, m.2.2.2.2.2.2 = 3 ∨ zCdw m ∈ zTs := List.forall_mem_cons.mpr ⟨Or.inr (zin_3 (i := 124) rfl rfl), List.forall_mem_cons.mpr ⟨Or.inr (zin_3 (i := 139) rfl rfl), List.forall_mem_cons.mpr ⟨Or.inr (zin_1 (i := 33) rfl rfl), List.forall_mem_cons.mpr ⟨Or.inr (zin_3 (i := 92) rfl rfl), List.forall_mem_cons.mpr ⟨Or.inr (zin_3 (i := 99) rfl rfl), List.forall_mem_cons.mpr ⟨Or.inr (zin_3 (i := 76) rfl rfl), List.forall_mem_cons.mpr ⟨Or.inr (zin_4 (i := 239) rfl rfl), List.forall_mem_cons.mpr ⟨Or.inr (zin_3 (i := 80) rfl rfl), List.forall_mem_cons.mpr ⟨Or.inr (zin_3 (i := 237) rfl rfl), List.forall_mem_cons.mpr ⟨Or.inr (zin_3 (i := 134) rfl rfl), List.forall_mem_cons.mpr ⟨Or.inr (zin_4 (i := 82) rfl rfl), List.forall_mem_cons.mpr ⟨Or.inr (zin_3 (i := 84) rfl rfl), List.forall_mem_cons.mpr ⟨Or.inr (zin_4 (i := 11) rfl rfl), List.forall_mem_cons.mpr ⟨Or.inr (zin_3 (i := 207) rfl rfl), List.forall_mem_cons.mpr ⟨Or.inr (zin_3 (i := 161) rfl rfl), List.forall_mem_cons.mpr ⟨Or.inr (zin_3 (i := 187) rfl rfl), fun _ h => absurd h List.not_mem_nil⟩⟩⟩⟩⟩⟩⟩⟩⟩⟩⟩⟩⟩⟩⟩⟩
def zUp_5 : List (List Nat) := [[105, 763, 764], [105, 853, 854], [105, 793, 794], [105, 797, 798], [105, 844, 845], [105, 840, 841], [105, 759, 760], [105, 865, 866], [105, 1068, 1069], [108, 245], [108, 442, 443], [108, 651, 652], [108, 604, 605], [108, 457, 458], [108, 487, 488], [108, 465, 466]]
theorem zU_ok_5 : ((zMs_5).zip zUp_5).all (fun q => Nat.beq q.1.2.2.2.2.2.2 3 || (decide (zUw q.1 = q.2.filterMap (fun i => lw_tbl[i]?)) && (zUw q.1).all goodWord)) = true := by decide +kernel
theorem zUl_5 : (zUp_5).length = (zMs_5).length := by decide +kernel
set_option maxRecDepth 20000 in
theorem zcw_5 : ∀ m ∈ zMs_5, m.2.2.2.2.2.2 = 3 ∨ zCdw m ∈ zTs := List.forall_mem_cons.mpr ⟨Or.inr (zin_3 (i := 182) rfl rfl), List.forall_mem_cons.mpr ⟨Or.inr (zin_4 (i := 32) rfl rfl), List.forall_mem_cons.mpr ⟨Or.inr (zin_3 (i := 212) rfl rfl), List.forall_mem_cons.mpr ⟨Or.inr (zin_3 (i := 216) rfl rfl), List.forall_mem_cons.mpr ⟨Or.inr (zin_4 (i := 23) rfl rfl), List.forall_mem_cons.mpr ⟨Or.inr (zin_4 (i := 19) rfl rfl), List.forall_mem_cons.mpr ⟨Or.inr (zin_3 (i := 178) rfl rfl), List.forall_mem_cons.mpr ⟨Or.inr (zin_4 (i := 44) rfl rfl), List.forall_mem_cons.mpr ⟨Or.inr (zin_5 (i := 7) rfl rfl), List.forall_mem_cons.mpr ⟨Or.inr (zin_1 (i := 143) rfl rfl), List.forall_mem_cons.mpr ⟨Or.inr (zin_2 (i := 101) rfl rfl), List.forall_mem_cons.mpr ⟨Or.inr (zin_3 (i := 70) rfl rfl), List.forall_mem_cons.mpr ⟨Or.inr (zin_3 (i := 23) rfl rfl), List.forall_mem_cons.mpr ⟨Or.inr (zin_2 (i := 116) rfl rfl), List.forall_mem_cons.mpr ⟨Or.inr (zin_2 (i := 146) rfl rfl), List.forall_mem_cons.mpr ⟨Or.inr (zin_2 (i := 124) rfl rfl), fun _ h => absurd h List.not_mem_nil⟩⟩⟩⟩⟩⟩⟩⟩⟩⟩⟩⟩⟩⟩⟩⟩
def zUp_6 : List (List Nat) := [[108, 481, 482], [108, 461, 462], [108, 491, 492], [108, 608, 609], [109, 274], [109, 617, 618], [109, 623, 7], [109, 627, 8], [109, 631, 9], [109, 640, 10], [109, 645, 11], [109, 635], [104, 127], [104, 419, 420], [104, 427, 428], [104, 613, 614]]
theorem zU_ok_6 : ((zMs_6).zip zUp_6).all (fun q => Nat.beq q.1.2.2.2.2.2.2 3 || (decide (zUw q.1 = q.2.filterMap (fun i => lw_tbl[i]?)) && (zUw q.1).all goodWord)) = true := by decide +kernel
theorem zUl_6 : (zUp_6).length = (zMs_6).length := by decide +kernel
set_option maxRecDepth 20000 in
theorem zcw_6 : ∀ m ∈ zMs_6, m.2.2.2.2.2.2 = 3 ∨ zCdw m ∈ zTs := List.forall_mem_cons.mpr ⟨Or.inr (zin_2 (i := 140) rfl rfl), List.forall_mem_cons.mpr ⟨Or.inr (zin_2 (i := 120) rfl rfl), List.forall_mem_cons.mpr ⟨Or.inr (zin_2 (i := 150) rfl rfl), List.forall_mem_cons.mpr ⟨Or.inr (zin_3 (i := 27) rfl rfl), List.forall_mem_cons.mpr ⟨Or.inr (zin_1 (i := 172) rfl rfl), List.forall_mem_cons.mpr ⟨Or.inr (zin_3 (i := 36) rfl rfl), List.forall_mem_cons.mpr ⟨Or.inr (zin_3 (i := 41) rfl rfl), List.forall_mem_cons.mpr ⟨Or.inr (zin_3 (i := 45) rfl rfl), List.forall_mem_cons.mpr ⟨Or.inr (zin_3 (i := 49) rfl rfl), List.forall_mem_cons.mpr ⟨Or.inr (zin_3 (i := 58) rfl rfl), List.forall_mem_cons.mpr ⟨Or.inr (zin_3 (i := 63) rfl rfl), List.forall_mem_cons.mpr ⟨Or.inr (zin_3 (i := 53) rfl rfl), List.forall_mem_cons.mpr ⟨Or.inr (zin_1 (i := 25) rfl rfl), List.forall_mem_cons.mpr ⟨Or.inr (zin_2 (i := 78) rfl rfl), List.forall_mem_cons.mpr ⟨Or.inr (zin_2 (i := 86) rfl rfl), List.forall_mem_cons.mpr ⟨Or.inr (zin_3 (i := 32) rfl rfl), fun _ h => absurd h List.not_mem_nil⟩⟩⟩⟩⟩⟩⟩⟩⟩⟩⟩⟩⟩⟩⟩⟩
def zUp_7 : List (List Nat) := [[104, 669, 670], [104, 747, 748], [104, 836, 837], [104, 848, 849], [104, 859, 860], [104, 869, 870], [104, 873, 874], [104, 877, 878], [104, 899, 900], [104, 915, 916], [104, 952, 953], [104, 971, 972], [104, 975, 976], [104, 986, 987], [104, 1001, 1002], [104, 1017, 1018]]
theorem zU_ok_7 : ((zMs_7).zip zUp_7).all (fun q => Nat.beq q.1.2.2.2.2.2.2 3 || (decide (zUw q.1 = q.2.filterMap (fun i => lw_tbl[i]?)) && (zUw q.1).all goodWord)) = true := by decide +kernel
theorem zUl_7 : (zUp_7).length = (zMs_7).length := by decide +kernel
set_option maxRecDepth 20000 in
theorem zcw_7 : ∀ m ∈ zMs_7, m.2.2.2.2.2.2 = 3 ∨ zCdw m ∈ zTs := List.forall_mem_cons.mpr ⟨Or.inr (zin_3 (i := 88) rfl rfl), List.forall_mem_cons.mpr ⟨Or.inr (zin_3 (i := 166) rfl rfl), List.forall_mem_cons.mpr ⟨Or.inr (zin_4 (i := 15) rfl rfl), List.forall_mem_cons.mpr ⟨Or.inr (zin_4 (i := 27) rfl rfl), List.forall_mem_cons.mpr ⟨Or.inr (zin_4 (i := 38) rfl rfl), List.forall_mem_cons.mpr ⟨Or.inr (zin_4 (i := 48) rfl rfl), List.forall_mem_cons.mpr ⟨Or.inr (zin_4 (i := 52) rfl rfl), List.forall_mem_cons.mpr ⟨Or.inr (zin_4 (i := 56) rfl rfl), List.forall_mem_cons.mpr ⟨Or.inr (zin_4 (i := 78) rfl rfl), List.forall_mem_cons.mpr ⟨Or.inr (zin_4 (i := 94) rfl rfl), List.forall_mem_cons.mpr ⟨Or.inr (zin_4 (i := 131) rfl rfl), List.forall_mem_cons.mpr ⟨Or.inr (zin_4 (i := 150) rfl rfl), List.forall_mem_cons.mpr ⟨Or.inr (zin_4 (i := 154) rfl rfl), List.forall_mem_cons.mpr ⟨Or.inr (zin_4 (i := 165) rfl rfl), List.forall_mem_cons.mpr ⟨Or.inr (zin_4 (i := 180) rfl rfl), List.forall_mem_cons.mpr ⟨Or.inr (zin_4 (i := 196) rfl rfl), fun _ h => absurd h List.not_mem_nil⟩⟩⟩⟩⟩⟩⟩⟩⟩⟩⟩⟩⟩⟩⟩⟩
def zUp_8 : List (List Nat) := [[104, 1034, 1035], [104, 1041, 1042], [104, 1046, 1047], [104, 1051, 1052], [104, 1055, 1056], [104, 1064, 1065], [104, 1072, 1073], [104, 424, 0], [104, 432, 1], [104, 435], [104, 712], [104, 648], [104, 776], [104, 919], [115, 1078], [115, 1233]]
theorem zU_ok_8 : ((zMs_8).zip zUp_8).all (fun q => Nat.beq q.1.2.2.2.2.2.2 3 || (decide (zUw q.1 = q.2.filterMap (fun i => lw_tbl[i]?)) && (zUw q.1).all goodWord)) = true := by decide +kernel
theorem zUl_8 : (zUp_8).length = (zMs_8).length := by decide +kernel
set_option maxRecDepth 20000 in
theorem zcw_8 : ∀ m ∈ zMs_8, m.2.2.2.2.2.2 = 3 ∨ zCdw m ∈ zTs := List.forall_mem_cons.mpr ⟨Or.inr (zin_4 (i := 213) rfl rfl), List.forall_mem_cons.mpr ⟨Or.inr (zin_4 (i := 220) rfl rfl), List.forall_mem_cons.mpr ⟨Or.inr (zin_4 (i := 225) rfl rfl), List.forall_mem_cons.mpr ⟨Or.inr (zin_4 (i := 230) rfl rfl), List.forall_mem_cons.mpr ⟨Or.inr (zin_4 (i := 234) rfl rfl), List.forall_mem_cons.mpr ⟨Or.inr (zin_5 (i := 3) rfl rfl), List.forall_mem_cons.mpr ⟨Or.inr (zin_5 (i := 11) rfl rfl), List.forall_mem_cons.mpr ⟨Or.inr (zin_2 (i := 82) rfl rfl), List.forall_mem_cons.mpr ⟨Or.inr (zin_2 (i := 90) rfl rfl), List.forall_mem_cons.mpr ⟨Or.inr (zin_2 (i := 93) rfl rfl), List.forall_mem_cons.mpr ⟨Or.inr (zin_3 (i := 130) rfl rfl), List.forall_mem_cons.mpr ⟨Or.inr (zin_3 (i := 66) rfl rfl), List.forall_mem_cons.mpr ⟨Or.inr (zin_3 (i := 194) rfl rfl), List.forall_mem_cons.mpr ⟨Or.inr (zin_4 (i := 97) rfl rfl), List.forall_mem_cons.mpr ⟨Or.inr (zin_5 (i := 16) rfl rfl), List.forall_mem_cons.mpr ⟨Or.inr (zin_5 (i := 171) rfl rfl), fun _ h => absurd h List.not_mem_nil⟩⟩⟩⟩⟩⟩⟩⟩⟩⟩⟩⟩⟩⟩⟩⟩
def zUp_9 : List (List Nat) := [[115, 1557], [115, 1577], [115, 1564], [115, 1588], [115, 1349], [115, 1342], [115, 1415], [115, 1412], [115, 1339, 60], [115, 1365, 64], [115, 1405, 73], [115, 1226, 37], [115, 1221, 1222], [115, 1568, 97], [115, 1245, 40], [115, 1266, 45]]
theorem zU_ok_9 : ((zMs_9).zip zUp_9).all (fun q => Nat.beq q.1.2.2.2.2.2.2 3 || (decide (zUw q.1 = q.2.filterMap (fun i => lw_tbl[i]?)) && (zUw q.1).all goodWord)) = true := by decide +kernel
theorem zUl_9 : (zUp_9).length = (zMs_9).length := by decide +kernel
set_option maxRecDepth 20000 in
theorem zcw_9 : ∀ m ∈ zMs_9, m.2.2.2.2.2.2 = 3 ∨ zCdw m ∈ zTs := List.forall_mem_cons.mpr ⟨Or.inr (zin_7 (i := 15) rfl rfl), List.forall_mem_cons.mpr ⟨Or.inr (zin_7 (i := 35) rfl rfl), List.forall_mem_cons.mpr ⟨Or.inr (zin_7 (i := 22) rfl rfl), List.forall_mem_cons.mpr ⟨Or.inr (zin_7 (i := 46) rfl rfl), List.forall_mem_cons.mpr ⟨Or.inr (zin_6 (i := 47) rfl rfl), List.forall_mem_cons.mpr ⟨Or.inr (zin_6 (i := 40) rfl rfl), List.forall_mem_cons.mpr ⟨Or.inr (zin_6 (i := 113) rfl rfl), List.forall_mem_cons.mpr ⟨Or.inr (zin_6 (i := 110) rfl rfl), List.forall_mem_cons.mpr ⟨Or.inr (zin_6 (i := 37) rfl rfl), List.forall_mem_cons.mpr ⟨Or.inr (zin_6 (i := 63) rfl rfl), List.forall_mem_cons.mpr ⟨Or.inr (zin_6 (i := 103) rfl rfl), List.forall_mem_cons.mpr ⟨Or.inr (zin_5 (i := 164) rfl rfl), List.forall_mem_cons.mpr ⟨Or.inr (zin_5 (i := 160) rfl rfl), List.forall_mem_cons.mpr ⟨Or.inr (zin_7 (i := 26) rfl rfl), List.forall_mem_cons.mpr ⟨Or.inr (zin_5 (i := 183) rfl rfl), List.forall_mem_cons.mpr ⟨Or.inr (zin_5 (i := 204) rfl rfl), fun _ h => absurd h List.not_mem_nil⟩⟩⟩⟩⟩⟩⟩⟩⟩⟩⟩⟩⟩⟩⟩⟩
def zUp_10 : List (List Nat) := [[115, 1249, 41], [115, 1316, 56], [115, 1270, 46], [115, 1274, 47], [115, 1261, 44], [115, 1288, 49], [115, 1277], [115, 1280], [115, 1284, 48], [115, 1257, 43], [115, 1292, 50], [115, 1253, 42], [115, 1304, 53], [115, 1308, 54], [115, 1312, 55], [115, 1300, 52]]
theorem zU_ok_10 : ((zMs_10).zip zUp_10).all (fun q => Nat.beq q.1.2.2.2.2.2.2 3 || (decide (zUw q.1 = q.2.filterMap (fun i => lw_tbl[i]?)) && (zUw q.1).all goodWord)) = true := by decide +kernel
theorem zUl_10 : (zUp_10).length = (zMs_10).length := by decide +kernel
set_option maxRecDepth 20000 in
theorem zcw_10 : ∀ m ∈ zMs_10, m.2.2.2.2.2.2 = 3 ∨ zCdw m ∈ zTs := List.forall_mem_cons.mpr ⟨Or.inr (zin_5 (i := 187) rfl rfl), List.forall_mem_cons.mpr ⟨Or.inr (zin_6 (i := 14) rfl rfl), List.forall_mem_cons.mpr ⟨Or.inr (zin_5 (i := 208) rfl rfl), List.forall_mem_cons.mpr ⟨Or.inr (zin_5 (i := 212) rfl rfl), List.forall_mem_cons.mpr ⟨Or.inr (zin_5 (i := 199) rfl rfl), List.forall_mem_cons.mpr ⟨Or.inr (zin_5 (i := 226) rfl rfl), List.forall_mem_cons.mpr ⟨Or.inr (zin_5 (i := 215) rfl rfl), List.forall_mem_cons.mpr ⟨Or.inr (zin_5 (i := 218) rfl rfl), List.forall_mem_cons.mpr ⟨Or.inr (zin_5 (i := 222) rfl rfl), List.forall_mem_cons.mpr ⟨Or.inr (zin_5 (i := 195) rfl rfl), List.forall_mem_cons.mpr ⟨Or.inr (zin_5 (i := 230) rfl rfl), List.forall_mem_cons.mpr ⟨Or.inr (zin_5 (i := 191) rfl rfl), List.forall_mem_cons.mpr ⟨Or.inr (zin_6 (i := 2) rfl rfl), List.forall_mem_cons.mpr ⟨Or.inr (zin_6 (i := 6) rfl rfl), List.forall_mem_cons.mpr ⟨Or.inr (zin_6 (i := 10) rfl rfl), List.forall_mem_cons.mpr ⟨Or.inr (zin_5 (i := 238) rfl rfl), fun _ h => absurd h List.not_mem_nil⟩⟩⟩⟩⟩⟩⟩⟩⟩⟩⟩⟩⟩⟩⟩⟩
def zUp_11 : List (List Nat) := [[115, 1296, 51], [115, 1241, 39], [115, 1237, 38], [115, 1229, 1230], [115, 1442], [115, 1439, 80], [115, 1435, 79], [115, 1451, 82], [115, 1331], [115, 1328, 58], [115, 1324, 57], [115, 1319, 1320], [115, 1335, 59], [115, 1361, 63], [115, 1369, 65], [115, 1357, 62]]
theorem zU_ok_11 : ((zMs_11).zip zUp_11).all (fun q => Nat.beq q.1.2.2.2.2.2.2 3 || (decide (zUw q.1 = q.2.filterMap (fun i => lw_tbl[i]?)) && (zUw q.1).all goodWord)) = true := by decide +kernel
theorem zUl_11 : (zUp_11).length = (zMs_11).length := by decide +kernel
set_option maxRecDepth 20000 in
theorem zcw_11 : ∀ m ∈ zMs_11, m.2.2.2.2.2.2 = 3 ∨ zCdw m ∈ zTs := List.forall_mem_cons.mpr ⟨Or.inr (zin_5 (i := 234) rfl rfl), List.forall_mem_cons.mpr ⟨Or.inr (zin_5 (i := 179) rfl rfl), List.forall_mem_cons.mpr ⟨Or.inr (zin_5 (i := 175) rfl rfl), List.forall_mem_cons.mpr ⟨Or.inr (zin_5 (i := 168) rfl rfl), List.forall_mem_cons.mpr ⟨Or.inr (zin_6 (i := 140) rfl rfl), List.forall_mem_cons.mpr ⟨Or.inr (zin_6 (i := 137) rfl rfl), List.forall_mem_cons.mpr ⟨Or.inr (zin_6 (i := 133) rfl rfl), List.forall_mem_cons.mpr ⟨Or.inr (zin_6 (i := 149) rfl rfl), List.forall_mem_cons.mpr ⟨Or.inr (zin_6 (i := 29) rfl rfl), List.forall_mem_cons.mpr ⟨Or.inr (zin_6 (i := 26) rfl rfl), List.forall_mem_cons.mpr ⟨Or.inr (zin_6 (i := 22) rfl rfl), List.forall_mem_cons.mpr ⟨Or.inr (zin_6 (i := 18) rfl rfl), List.forall_mem_cons.mpr ⟨Or.inr (zin_6 (i := 33) rfl rfl), List.forall_mem_cons.mpr ⟨Or.inr (zin_6 (i := 59) rfl rfl), List.forall_mem_cons.mpr ⟨Or.inr (zin_6 (i := 67) rfl rfl), List.forall_mem_cons.mpr ⟨Or.inr (zin_6 (i := 55) rfl rfl), fun _ h => absurd h List.not_mem_nil⟩⟩⟩⟩⟩⟩⟩⟩⟩⟩⟩⟩⟩⟩⟩⟩
def zUp_12 : List (List Nat) := [[115, 1373, 66], [115, 1377, 67], [115, 1381, 68], [115, 1353, 61], [115, 1345, 1346], [115, 1427, 77], [115, 1431, 78], [115, 1423, 76], [115, 1419, 75], [115, 1446, 81], [115, 1401, 72], [115, 1409, 74], [115, 1397, 71], [115, 1393, 70], [115, 1389, 69], [115, 1455, 83]]
theorem zU_ok_12 : ((zMs_12).zip zUp_12).all (fun q => Nat.beq q.1.2.2.2.2.2.2 3 || (decide (zUw q.1 = q.2.filterMap (fun i => lw_tbl[i]?)) && (zUw q.1).all goodWord)) = true := by decide +kernel
theorem zUl_12 : (zUp_12).length = (zMs_12).length := by decide +kernel
set_option maxRecDepth 20000 in
theorem zcw_12 : ∀ m ∈ zMs_12, m.2.2.2.2.2.2 = 3 ∨ zCdw m ∈ zTs := List.forall_mem_cons.mpr ⟨Or.inr (zin_6 (i := 71) rfl rfl), List.forall_mem_cons.mpr ⟨Or.inr (zin_6 (i := 75) rfl rfl), List.forall_mem_cons.mpr ⟨Or.inr (zin_6 (i := 79) rfl rfl), List.forall_mem_cons.mpr ⟨Or.inr (zin_6 (i := 51) rfl rfl), List.forall_mem_cons.mpr ⟨Or.inr (zin_6 (i := 44) rfl rfl), List.forall_mem_cons.mpr ⟨Or.inr (zin_6 (i := 125) rfl rfl), List.forall_mem_cons.mpr ⟨Or.inr (zin_6 (i := 129) rfl rfl), List.forall_mem_cons.mpr ⟨Or.inr (zin_6 (i := 121) rfl rfl), List.forall_mem_cons.mpr ⟨Or.inr (zin_6 (i := 117) rfl rfl), List.forall_mem_cons.mpr ⟨Or.inr (zin_6 (i := 144) rfl rfl), List.forall_mem_cons.mpr ⟨Or.inr (zin_6 (i := 99) rfl rfl), List.forall_mem_cons.mpr ⟨Or.inr (zin_6 (i := 107) rfl rfl), List.forall_mem_cons.mpr ⟨Or.inr (zin_6 (i := 95) rfl rfl), List.forall_mem_cons.mpr ⟨Or.inr (zin_6 (i := 91) rfl rfl), List.forall_mem_cons.mpr ⟨Or.inr (zin_6 (i := 87) rfl rfl), List.forall_mem_cons.mpr ⟨Or.inr (zin_6 (i := 153) rfl rfl), fun _ h => absurd h List.not_mem_nil⟩⟩⟩⟩⟩⟩⟩⟩⟩⟩⟩⟩⟩⟩⟩⟩
def zUp_13 : List (List Nat) := [[115, 1384, 1385], [115, 1463, 84], [115, 1467, 85], [115, 1458, 1459], [115, 1475, 86], [115, 1470, 1471], [115, 1478, 1479], [115, 1482, 1483], [115, 1486, 1487], [115, 1503, 89], [115, 1499, 88], [115, 1495, 87], [115, 1539, 95], [115, 1490, 1491], [115, 1511, 90], [115, 1506, 1507]]
theorem zU_ok_13 : ((zMs_13).zip zUp_13).all (fun q => Nat.beq q.1.2.2.2.2.2.2 3 || (decide (zUw q.1 = q.2.filterMap (fun i => lw_tbl[i]?)) && (zUw q.1).all goodWord)) = true := by decide +kernel
theorem zUl_13 : (zUp_13).length = (zMs_13).length := by decide +kernel
set_option maxRecDepth 20000 in
theorem zcw_13 : ∀ m ∈ zMs_13, m.2.2.2.2.2.2 = 3 ∨ zCdw m ∈ zTs := List.forall_mem_cons.mpr ⟨Or.inr (zin_6 (i := 83) rfl rfl), List.forall_mem_cons.mpr ⟨Or.inr (zin_6 (i := 161) rfl rfl), List.forall_mem_cons.mpr ⟨Or.inr (zin_6 (i := 165) rfl rfl), List.forall_mem_cons.mpr ⟨Or.inr (zin_6 (i := 157) rfl rfl), List.forall_mem_cons.mpr ⟨Or.inr (zin_6 (i := 173) rfl rfl), List.forall_mem_cons.mpr ⟨Or.inr (zin_6 (i := 169) rfl rfl), List.forall_mem_cons.mpr ⟨Or.inr (zin_6 (i := 177) rfl rfl), List.forall_mem_cons.mpr ⟨Or.inr (zin_6 (i := 181) rfl rfl), List.forall_mem_cons.mpr ⟨Or.inr (zin_6 (i := 185) rfl rfl), List.forall_mem_cons.mpr ⟨Or.inr (zin_6 (i := 201) rfl rfl), List.forall_mem_cons.mpr ⟨Or.inr (zin_6 (i := 197) rfl rfl), List.forall_mem_cons.mpr ⟨Or.inr (zin_6 (i := 193) rfl rfl), List.forall_mem_cons.mpr ⟨Or.inr (zin_6 (i := 237) rfl rfl), List.forall_mem_cons.mpr ⟨Or.inr (zin_6 (i := 189) rfl rfl), List.forall_mem_cons.mpr ⟨Or.inr (zin_6 (i := 209) rfl rfl), List.forall_mem_cons.mpr ⟨Or.inr (zin_6 (i := 205) rfl rfl), fun _ h => absurd h List.not_mem_nil⟩⟩⟩⟩⟩⟩⟩⟩⟩⟩⟩⟩⟩⟩⟩⟩
def zUp_14 : List (List Nat) := [[115, 1527, 93], [115, 1523, 92], [115, 1519, 91], [115, 1531, 94], [115, 1514, 1515], [115, 1542], [115, 1534, 1535], [115, 1545, 1546], [115, 1549, 1550], [115, 1554, 96], [115, 1560, 1561], [115, 1571, 1572], [115, 1585, 98], [115, 1580, 1581], [115, 1596, 99], [115, 1600, 100]]
theorem zU_ok_14 : ((zMs_14).zip zUp_14).all (fun q => Nat.beq q.1.2.2.2.2.2.2 3 || (decide (zUw q.1 = q.2.filterMap (fun i => lw_tbl[i]?)) && (zUw q.1).all goodWord)) = true := by decide +kernel
theorem zUl_14 : (zUp_14).length = (zMs_14).length := by decide +kernel
set_option maxRecDepth 20000 in
theorem zcw_14 : ∀ m ∈ zMs_14, m.2.2.2.2.2.2 = 3 ∨ zCdw m ∈ zTs := List.forall_mem_cons.mpr ⟨Or.inr (zin_6 (i := 225) rfl rfl), List.forall_mem_cons.mpr ⟨Or.inr (zin_6 (i := 221) rfl rfl), List.forall_mem_cons.mpr ⟨Or.inr (zin_6 (i := 217) rfl rfl), List.forall_mem_cons.mpr ⟨Or.inr (zin_6 (i := 229) rfl rfl), List.forall_mem_cons.mpr ⟨Or.inr (zin_6 (i := 213) rfl rfl), List.forall_mem_cons.mpr ⟨Or.inr (zin_7 (i := 0) rfl rfl), List.forall_mem_cons.mpr ⟨Or.inr (zin_6 (i := 233) rfl rfl), List.forall_mem_cons.mpr ⟨Or.inr (zin_7 (i := 4) rfl rfl), List.forall_mem_cons.mpr ⟨Or.inr (zin_7 (i := 8) rfl rfl), List.forall_mem_cons.mpr ⟨Or.inr (zin_7 (i := 12) rfl rfl), List.forall_mem_cons.mpr ⟨Or.inr (zin_7 (i := 19) rfl rfl), List.forall_mem_cons.mpr ⟨Or.inr (zin_7 (i := 30) rfl rfl), List.forall_mem_cons.mpr ⟨Or.inr (zin_7 (i := 43) rfl rfl), List.forall_mem_cons.mpr ⟨Or.inr (zin_7 (i := 39) rfl rfl), List.forall_mem_cons.mpr ⟨Or.inr (zin_7 (i := 54) rfl rfl), List.forall_mem_cons.mpr ⟨Or.inr (zin_7 (i := 58) rfl rfl), fun _ h => absurd h List.not_mem_nil⟩⟩⟩⟩⟩⟩⟩⟩⟩⟩⟩⟩⟩⟩⟩⟩
def zUp_15 : List (List Nat) := [[115, 1591, 1592], [115, 1603, 1604], [115, 1607, 1608], [115, 1612, 1613], [115, 1616, 1617], [115, 1620, 1621], [115, 1629, 101], [115, 1633, 102], [115, 1624, 1625], [], [123, 1011]]
theorem zU_ok_15 : ((zMs_15).zip zUp_15).all (fun q => Nat.beq q.1.2.2.2.2.2.2 3 || (decide (zUw q.1 = q.2.filterMap (fun i => lw_tbl[i]?)) && (zUw q.1).all goodWord)) = true := by decide +kernel
theorem zUl_15 : (zUp_15).length = (zMs_15).length := by decide +kernel
set_option maxRecDepth 20000 in
theorem zcw_15 : ∀ m ∈ zMs_15, m.2.2.2.2.2.2 = 3 ∨ zCdw m ∈ zTs := List.forall_mem_cons.mpr ⟨Or.inr (zin_7 (i := 50) rfl rfl), List.forall_mem_cons.mpr ⟨Or.inr (zin_7 (i := 62) rfl rfl), List.forall_mem_cons.mpr ⟨Or.inr (zin_7 (i := 66) rfl rfl), List.forall_mem_cons.mpr ⟨Or.inr (zin_7 (i := 71) rfl rfl), List.forall_mem_cons.mpr ⟨Or.inr (zin_7 (i := 75) rfl rfl), List.forall_mem_cons.mpr ⟨Or.inr (zin_7 (i := 79) rfl rfl), List.forall_mem_cons.mpr ⟨Or.inr (zin_7 (i := 87) rfl rfl), List.forall_mem_cons.mpr ⟨Or.inr (zin_7 (i := 91) rfl rfl), List.forall_mem_cons.mpr ⟨Or.inr (zin_7 (i := 83) rfl rfl), List.forall_mem_cons.mpr ⟨Or.inl rfl, List.forall_mem_cons.mpr ⟨Or.inr (zin_4 (i := 189) rfl rfl), fun _ h => absurd h List.not_mem_nil⟩⟩⟩⟩⟩⟩⟩⟩⟩⟩⟩
theorem zUk_ok : zMs.all zUk = true := by decide +kernel
theorem zip_fst {α β : Type} : ∀ {l : List α} {r : List β} {a : α}, r.length = l.length → a ∈ l → ∃ b, (a, b) ∈ l.zip r
  | [], _, _, _, h => by cases h
  | x :: l, [], _, h, _ => by cases h
  | x :: l, y :: r, a, h, m => by
    rcases List.mem_cons.mp m with rfl | m
    · exact ⟨y, List.mem_cons_self⟩
    · obtain ⟨b, hb⟩ := zip_fst (Nat.succ.inj h) m
      exact ⟨b, List.mem_cons_of_mem _ hb⟩
theorem zU_in {ms : List zMi} {up : List (List Nat)} (hl : up.length = ms.length) (h : (ms.zip up).all (fun q => Nat.beq q.1.2.2.2.2.2.2 3 || (decide (zUw q.1 = q.2.filterMap (fun i => lw_tbl[i]?)) && (zUw q.1).all goodWord)) = true) {m : zMi} (hm : m ∈ ms) (hk : m.2.2.2.2.2.2 ≠ 3) : ∀ w ∈ zUw m, w ∈ zTs := by
  obtain ⟨b, hb⟩ := zip_fst hl hm
  have h1 := List.all_eq_true.mp h (m, b) hb
  rcases Bool.or_eq_true_iff.mp h1 with h2 | h2
  · exact absurd (Nat.eq_of_beq_eq_true h2) hk
  · rw [Bool.and_eq_true] at h2
    exact zTs_of b (of_decide_eq_true h2.1) h2.2
theorem zM_mem {u : Nat} (h : (zM u).2.2.2.2.2.2 ≠ 9) : zM u ∈ zMs := by
  unfold zM at h ⊢
  rw [List.getD_eq_getElem?_getD] at h ⊢
  cases hu : zMs[u]? with
  | none => rw [hu] at h; exact absurd rfl h
  | some q => exact List.mem_of_getElem? hu
theorem zU_ok {u : Nat} (h : (zM u).2.2.2.2.2.2 < 3) : ∀ w ∈ zUw (zM u), w ∈ zTs := by
  have hm := zM_mem (u := u) (by omega)
  have hk : (zM u).2.2.2.2.2.2 ≠ 3 := by omega
  unfold zMs at hm
  simp only [List.mem_append] at hm
  rcases hm with (((((((((((((((hm) | hm) | hm) | hm) | hm) | hm) | hm) | hm) | hm) | hm) | hm) | hm) | hm) | hm) | hm) | hm
  · exact zU_in zUl_0 zU_ok_0 hm hk
  · exact zU_in zUl_1 zU_ok_1 hm hk
  · exact zU_in zUl_2 zU_ok_2 hm hk
  · exact zU_in zUl_3 zU_ok_3 hm hk
  · exact zU_in zUl_4 zU_ok_4 hm hk
  · exact zU_in zUl_5 zU_ok_5 hm hk
  · exact zU_in zUl_6 zU_ok_6 hm hk
  · exact zU_in zUl_7 zU_ok_7 hm hk
  · exact zU_in zUl_8 zU_ok_8 hm hk
  · exact zU_in zUl_9 zU_ok_9 hm hk
  · exact zU_in zUl_10 zU_ok_10 hm hk
  · exact zU_in zUl_11 zU_ok_11 hm hk
  · exact zU_in zUl_12 zU_ok_12 hm hk
  · exact zU_in zUl_13 zU_ok_13 hm hk
  · exact zU_in zUl_14 zU_ok_14 hm hk
  · exact zU_in zUl_15 zU_ok_15 hm hk
theorem zUc_ok {u : Nat} (h : (zM u).2.2.2.2.2.2 < 3) : zCdw (zM u) ∈ zTs := by
  have hm := zM_mem (u := u) (by omega)
  have hk : (zM u).2.2.2.2.2.2 ≠ 3 := by omega
  unfold zMs at hm
  simp only [List.mem_append] at hm
  rcases hm with (((((((((((((((hm) | hm) | hm) | hm) | hm) | hm) | hm) | hm) | hm) | hm) | hm) | hm) | hm) | hm) | hm) | hm
  · exact (zcw_0 _ hm).resolve_left hk
  · exact (zcw_1 _ hm).resolve_left hk
  · exact (zcw_2 _ hm).resolve_left hk
  · exact (zcw_3 _ hm).resolve_left hk
  · exact (zcw_4 _ hm).resolve_left hk
  · exact (zcw_5 _ hm).resolve_left hk
  · exact (zcw_6 _ hm).resolve_left hk
  · exact (zcw_7 _ hm).resolve_left hk
  · exact (zcw_8 _ hm).resolve_left hk
  · exact (zcw_9 _ hm).resolve_left hk
  · exact (zcw_10 _ hm).resolve_left hk
  · exact (zcw_11 _ hm).resolve_left hk
  · exact (zcw_12 _ hm).resolve_left hk
  · exact (zcw_13 _ hm).resolve_left hk
  · exact (zcw_14 _ hm).resolve_left hk
  · exact (zcw_15 _ hm).resolve_left hk
theorem zUk_of {u : Nat} (h : (zM u).2.2.2.2.2.2 < 3) : zUk (zM u) = true := List.all_eq_true.mp zUk_ok _ (zM_mem (by omega))
