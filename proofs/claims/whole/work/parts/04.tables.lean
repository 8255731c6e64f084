/-! ===== tables: by wip/whole/gen.py out of the claim's own rows ===== -/
def zRn : List String := [RX0, RX1, RX2, RX3, RX4, RX5, RX6, RX7, RX8, RX9, RX10, RX11, "InsuredFlameLaw", "java/lang/Integer", "java/lang/Math"]
def zRs (c : Nat) : String := zRn.getD c ""
def zTl : List u_T := [TX0, TX1, TX2, TX3, TX4, TX5, TX6, TX7, TX8, TX9, TX10, TX11]
def zTt (c : Nat) : u_T := zTl.getD c TX0
def zFTl : List (List Nat) := [[2], [2, 2, 2, 2, 0], [2, 2], [2, 0, 2, 0, 2, 2], [2, 2, 2, 2, 2, 2, 2, 0, 0, 0], [2], [2], [2, 2, 2, 2, 2, 2, 0, 0, 0, 0, 0], [2, 0, 0, 0, 0], [2, 2], [2, 0, 2, 2, 2, 1, 2, 2, 2, 2, 2, 2, 2, 2, 2], [2, 2, 2, 2, 2, 2, 0, 0, 0, 0, 0, 0, 0, 0, 0, 0, 2, 2, 2, 2, 2, 2, 2, 2, 2, 2, 2, 2, 2, 2, 0, 0, 0, 2, 0, 2, 2, 2, 2, 2, 0, 2, 2, 2, 2, 1]]
def zFT (c k : Nat) : Nat := (zFTl.getD c []).getD k 0
def zFL : List (List (Nat × Nat × Nat)) := [[(11, 0, 0)], [(9, 1, 0), (15, 1, 1), (18, 1, 2), (22, 1, 3), (25, 1, 4)], [(28, 7, 1), (51, 7, 2), (89, 7, 8), (18, 7, 9), (9, 2, 0), (15, 2, 1)], [(51, 7, 0), (42, 7, 1), (9, 3, 0), (15, 3, 1), (19, 3, 2), (22, 3, 3), (25, 3, 4), (28, 3, 5)], [(11, 4, 0), (15, 4, 1), (18, 4, 2), (21, 4, 3), (24, 4, 4), (27, 4, 5), (30, 4, 6), (33, 4, 7), (37, 4, 8), (40, 4, 9)], [(67, 4, 9), (59, 8, 4), (12, 5, 0)], [(84, 7, 0), (114, 7, 3), (108, 7, 4), (111, 7, 5), (117, 7, 6), (120, 7, 7), (88, 7, 8), (41, 8, 4), (12, 6, 0)], [(9, 7, 0), (15, 7, 1), (18, 7, 2), (21, 7, 3), (24, 7, 4), (27, 7, 5), (30, 7, 6), (34, 7, 7), (37, 7, 8), (40, 7, 9), (43, 7, 10)], [(7, 8, 0), (13, 8, 1), (17, 8, 2), (20, 8, 3), (23, 8, 4)], [(45, 8, 4), (9, 9, 0), (18, 9, 1)], [(150, 7, 0), (153, 7, 1), (156, 7, 2), (172, 7, 3), (175, 7, 4), (178, 7, 5), (272, 7, 6), (140, 7, 7), (275, 7, 8), (260, 7, 9), (257, 7, 10), (278, 4, 9), (108, 9, 0), (199, 3, 0), (247, 3, 1), (9, 10, 0), (13, 10, 1), (20, 10, 2), (24, 10, 3), (27, 10, 4), (30, 10, 5), (37, 10, 6), (41, 10, 7), (47, 10, 8), (54, 10, 9), (61, 10, 10), (68, 10, 11), (75, 10, 12), (82, 10, 13), (89, 10, 14)], [(7, 11, 0), (13, 11, 1), (16, 11, 2), (19, 11, 3), (22, 11, 4), (25, 11, 5), (117, 11, 6), (125, 11, 7), (128, 11, 8), (135, 11, 9), (141, 11, 10), (152, 11, 11), (148, 11, 12), (155, 11, 13), (203, 11, 14), (218, 11, 15), (29, 11, 16), (32, 11, 17), (35, 11, 18), (38, 11, 19), (41, 11, 20), (44, 11, 21), (47, 11, 22), (50, 11, 23), (53, 11, 24), (56, 11, 25), (59, 11, 26), (62, 11, 27), (65, 11, 28), (68, 11, 29), (256, 11, 30), (250, 11, 31), (244, 11, 32), (71, 11, 33), (294, 11, 34), (75, 11, 35), (78, 11, 36), (81, 11, 37), (84, 11, 38), (87, 11, 39), (349, 11, 40), (90, 11, 41), (93, 11, 42), (96, 11, 43), (99, 11, 44), (400, 11, 45)], [], [], []]
def zML : List (List (Nat × Nat × Nat)) := [[(15, 2, 0), (20, 4, 0), (30, 6, 0), (34, 8, 0), (38, 9, 0)], [(29, 13, 0), (37, 14, 0), (40, 15, 0), (47, 140, 1), (44, 16, 0), (33, 17, 0), (51, 18, 0)], [(24, 21, 0), (31, 86, 0), (35, 22, 0), (43, 140, 1), (47, 73, 0), (54, 24, 0), (76, 42, 0), (79, 77, 0), (83, 82, 0), (86, 83, 0), (58, 43, 0), (64, 72, 0), (68, 71, 0), (39, 23, 0), (72, 44, 0)], [(31, 28, 0), (35, 140, 1), (39, 26, 0), (47, 27, 0), (54, 29, 0), (58, 74, 0), (62, 34, 0), (65, 33, 0)], [(43, 45, 0), (47, 46, 0), (60, 47, 0)], [(11, 89, 1), (18, 90, 0), (22, 36, 0), (27, 50, 0), (48, 93, 0), (63, 97, 0), (52, 95, 0), (74, 37, 0), (31, 53, 0), (87, 54, 0), (38, 96, 0), (90, 94, 0), (93, 98, 0), (80, 40, 0), (35, 38, 0), (42, 51, 0), (77, 52, 0), (84, 41, 0), (45, 39, 0), (55, 92, 0), (70, 99, 0)], [(11, 89, 1), (18, 90, 0), (22, 57, 0), (26, 93, 0), (37, 94, 0), (45, 97, 0), (49, 58, 0), (30, 95, 0), (62, 63, 0), (91, 64, 0), (105, 98, 0), (123, 96, 0), (65, 91, 0), (68, 138, 1), (72, 73, 0), (77, 71, 0), (81, 65, 0), (127, 92, 0), (53, 59, 0), (56, 60, 0), (59, 61, 0), (94, 137, 1), (98, 62, 0), (102, 78, 0), (33, 99, 0)], [(56, 71, 0), (52, 68, 0), (72, 80, 0), (65, 78, 0), (69, 79, 0), (61, 140, 1)], [(32, 93, 0), (36, 97, 0)], [(17, 89, 1), (22, 90, 0), (26, 102, 0), (41, 103, 0), (63, 104, 0), (30, 93, 0), (66, 107, 0), (49, 97, 0), (53, 105, 0), (34, 95, 0), (69, 106, 0), (73, 139, 1), (57, 91, 0), (60, 92, 0), (37, 99, 0)], [(19, 66, 1), (36, 35, 1), (46, 48, 1), (53, 100, 1), (60, 55, 1), (67, 19, 1), (74, 25, 1), (81, 11, 1), (88, 0, 1), (93, 135, 0), (97, 136, 0), (126, 137, 0), (101, 49, 0), (105, 101, 0), (111, 69, 0), (115, 75, 0), (119, 67, 0), (123, 56, 0), (129, 20, 0), (133, 76, 0), (136, 85, 0), (143, 84, 0), (146, 139, 0), (159, 81, 0), (162, 82, 0), (165, 83, 0), (168, 78, 0), (181, 79, 0), (184, 87, 0), (187, 138, 0), (190, 26, 0), (193, 27, 0), (196, 29, 0), (202, 74, 0), (205, 31, 0), (209, 141, 0), (281, 140, 0), (212, 12, 0), (216, 30, 0), (219, 32, 0), (222, 1, 0), (225, 2, 0), (230, 3, 0), (233, 5, 0), (236, 250, 0), (241, 7, 0), (244, 10, 0), (263, 68, 0), (266, 70, 0), (269, 88, 0)], [(121, 155, 0), (102, 143, 0), (209, 178, 0), (212, 177, 0), (131, 158, 0), (138, 160, 0), (188, 171, 0), (175, 169, 0), (165, 164, 0), (144, 159, 0), (168, 162, 0), (161, 163, 0), (171, 166, 0), (178, 167, 0), (181, 168, 0), (158, 165, 0), (185, 170, 0), (206, 176, 0), (194, 175, 0), (191, 172, 0), (197, 173, 0), (200, 174, 0), (215, 161, 0), (235, 186, 0), (232, 185, 0), (229, 184, 0), (238, 188, 0), (241, 152, 0), (110, 149, 0), (271, 148, 0), (275, 195, 0), (259, 191, 0), (247, 189, 0), (114, 153, 0), (253, 190, 0), (262, 192, 0), (265, 193, 0), (268, 194, 0), (322, 206, 0), (319, 205, 0), (316, 204, 0), (307, 202, 0), (278, 154, 0), (310, 203, 0), (281, 151, 0), (106, 150, 0), (297, 200, 0), (284, 199, 0), (287, 197, 0), (290, 198, 0), (301, 182, 0), (225, 181, 0), (221, 180, 0), (304, 201, 0), (313, 183, 0), (325, 207, 0), (328, 209, 0), (331, 210, 0), (334, 212, 0), (343, 219, 0), (337, 218, 0), (340, 217, 0), (346, 222, 0), (361, 226, 0), (355, 225, 0), (352, 224, 0), (358, 227, 0), (364, 220, 0), (367, 229, 0), (370, 233, 0), (373, 144, 0), (376, 146, 0), (379, 157, 0), (384, 145, 0), (387, 236, 0), (390, 147, 0), (393, 238, 0), (396, 239, 0), (404, 246, 0), (407, 247, 0)], [(9, 108, 0), (13, 109, 0), (18, 110, 0), (23, 111, 0), (27, 112, 0), (31, 113, 0), (35, 114, 0), (40, 115, 0), (45, 116, 0), (49, 117, 0), (53, 118, 0), (57, 119, 0), (61, 120, 0), (65, 121, 0), (69, 122, 0), (73, 123, 0), (77, 124, 0), (81, 125, 0), (85, 126, 0), (89, 127, 0), (93, 128, 0), (97, 129, 0), (101, 130, 0), (106, 131, 0), (111, 132, 0), (116, 133, 0), (120, 134, 0), (12, 142, 0), (17, 156, 0), (22, 179, 0), (26, 187, 0), (30, 196, 0), (34, 208, 0), (39, 211, 0), (44, 213, 0), (48, 214, 0), (52, 215, 0), (56, 216, 0), (60, 221, 0), (64, 223, 0), (68, 228, 0), (72, 230, 0), (76, 231, 0), (100, 232, 0), (80, 234, 0), (84, 235, 0), (88, 237, 0), (92, 240, 0), (96, 241, 0), (105, 242, 0), (110, 243, 0), (115, 244, 0), (119, 245, 0), (123, 248, 0)], [], []]
def zKL : List (List (Nat × Int32)) := [[(19, 1000000)], [], [], [], [], [], [], [(60, 65535)], [], [], [(229, 999999), (256, 65535)], [(151, 1048576), (293, 65536), (382, 999999), (383, 1000000), (399, 65535)], [], [(265, 1431655765), (266, 858993459), (267, 252645135)], []]
def zCL : List (List (Nat × Nat)) := [[], [], [], [], [], [(9, 8)], [(9, 8)], [], [], [(15, 8)], [(17, 7), (34, 4), (44, 5), (51, 9), (58, 6), (65, 2), (72, 3), (79, 1), (86, 0)], [], [(7, 10), (10, 11)], [], []]
def zTL : List (List (Nat × Nat)) := [[(24, 905), (42, 903)], [], [], [], [(51, 904), (57, 903)], [], [], [], [(26, 904)], [], [(250, 903)], [], [], [], []]
def zOL : List (List (Nat)) := [[3], [3], [3], [3], [3], [3], [3], [3], [1], [3], [1], [1], [], [], []]
/-- a method: its name, bytes, locals, answer, its class, its arguments, its kind (0 of an object, 1 static, 2 a constructor) -/
abbrev zMi : Type := MethodName × ByteArray × Nat × Option FieldType × Nat × Nat × Nat
def zMs_0 : List zMi := [
  (⟨"InsuredFlame$Clerk", "<init>", "()V"⟩, prog_2_method_1_code, 1, none, 0, 1, 2),
  (⟨"InsuredFlame$Clerk", "bestPolicies", "([III)I"⟩, prog_2_method_2_code, 9, some .int, 0, 3, 1),
  (⟨"InsuredFlame$Clerk", "sumOf", "([IIII)I"⟩, prog_2_method_3_code, 6, some .int, 0, 4, 1),
  (⟨"InsuredFlame$Clerk", "nearestFigure", "(I)I"⟩, prog_2_method_4_code, 3, some .int, 0, 1, 1),
  (⟨"InsuredFlame$Clerk", "nearer", "(III)I"⟩, prog_2_method_5_code, 3, some .int, 0, 3, 1),
  (⟨"InsuredFlame$Clerk", "ruinedBy", "([III)I"⟩, prog_2_method_6_code, 7, some .int, 0, 3, 1),
  (⟨"InsuredFlame$Clerk", "canPay", "([IIII)Z"⟩, prog_2_method_7_code, 6, some .boolean, 0, 4, 1),
  (⟨"InsuredFlame$Clerk", "mostCarried", "([II)I"⟩, prog_2_method_8_code, 5, some .int, 0, 3, 0),
  (⟨"InsuredFlame$Clerk", "putInOrder", "([II)V"⟩, prog_2_method_9_code, 4, none, 0, 3, 0),
  (⟨"InsuredFlame$Clerk", "worthInTime", "([III)I"⟩, prog_2_method_10_code, 8, some .int, 0, 4, 0),
  (⟨"InsuredFlame$Clerk", "oddsOf", "([III)I"⟩, prog_2_method_11_code, 7, some .int, 0, 3, 1),
  (⟨"InsuredFlame$Cut", "<init>", "()V"⟩, prog_3_method_1_code, 1, none, 1, 1, 2),
  (⟨"InsuredFlame$Cut", "fewest", "([III)I"⟩, prog_3_method_2_code, 6, some .int, 1, 4, 0),
  (⟨"InsuredFlame$Cut", "findWay", "([III)Z"⟩, prog_3_method_3_code, 5, some .boolean, 1, 4, 0),
  (⟨"InsuredFlame$Cut", "visit", "(II)V"⟩, prog_3_method_4_code, 3, none, 1, 3, 0),
  (⟨"InsuredFlame$Cut", "leave", "([II)V"⟩, prog_3_method_5_code, 5, none, 1, 3, 0)]
def zMs_1 : List zMi := [
  (⟨"InsuredFlame$Cut", "enter", "([II)V"⟩, prog_3_method_6_code, 5, none, 1, 3, 0),
  (⟨"InsuredFlame$Cut", "takeWay", "(II)V"⟩, prog_3_method_7_code, 9, none, 1, 3, 0),
  (⟨"InsuredFlame$Cut", "mark", "(IIZ)V"⟩, prog_3_method_8_code, 5, none, 1, 4, 0),
  (⟨"InsuredFlame$Fire", "<init>", "()V"⟩, prog_4_method_1_code, 1, none, 2, 1, 2),
  (⟨"InsuredFlame$Fire", "burnFor", "(LInsuredFlame$Scene;LInsuredFlame$Law;I)V"⟩, prog_4_method_2_code, 5, none, 2, 4, 0),
  (⟨"InsuredFlame$Fire", "passMinute", "(LInsuredFlame$Scene;LInsuredFlame$Law;)V"⟩, prog_4_method_3_code, 6, none, 2, 3, 0),
  (⟨"InsuredFlame$Fire", "tryWay", "(LInsuredFlame$Scene;LInsuredFlame$Law;II)V"⟩, prog_4_method_4_code, 7, none, 2, 5, 0),
  (⟨"InsuredFlame$Fire", "burnDown", "(LInsuredFlame$Scene;LInsuredFlame$Law;I)V"⟩, prog_4_method_5_code, 6, none, 2, 4, 0),
  (⟨"InsuredFlame$Fire", "setLetters", "(LInsuredFlame$Scene;LInsuredFlame$Law;IIII)V"⟩, prog_4_method_6_code, 7, none, 2, 7, 0),
  (⟨"InsuredFlame$Ground", "<init>", "()V"⟩, prog_5_method_1_code, 1, none, 3, 1, 2),
  (⟨"InsuredFlame$Ground", "clear", "()V"⟩, prog_5_method_2_code, 2, none, 3, 1, 0),
  (⟨"InsuredFlame$Ground", "light", "(I)V"⟩, prog_5_method_3_code, 2, none, 3, 2, 0),
  (⟨"InsuredFlame$Ground", "reach", "(II)V"⟩, prog_5_method_4_code, 3, none, 3, 3, 0),
  (⟨"InsuredFlame$Ground", "goOver", "([I)V"⟩, prog_5_method_5_code, 6, none, 3, 2, 0),
  (⟨"InsuredFlame$Ground", "burnFrom", "(LInsuredFlame$Scene;)V"⟩, prog_5_method_6_code, 3, none, 3, 2, 0),
  (⟨"InsuredFlame$Ground", "explains", "(LInsuredFlame$Scene;II)Z"⟩, prog_5_method_7_code, 6, some .boolean, 3, 4, 0)]
def zMs_2 : List zMi := [
  (⟨"InsuredFlame$Ground", "walkOut", "([II)I"⟩, prog_5_method_8_code, 10, some .int, 3, 3, 0),
  (⟨"InsuredFlame$Ground", "isFreeAt", "(II)Z"⟩, prog_5_method_9_code, 3, some .boolean, 3, 3, 0),
  (⟨"InsuredFlame$Ground", "isEdge", "(I)Z"⟩, prog_5_method_10_code, 3, some .boolean, 3, 1, 1),
  (⟨"InsuredFlame$Law", "<init>", "()V"⟩, prog_6_method_1_code, 1, none, 4, 1, 2),
  (⟨"InsuredFlame$Law", "clear", "()V"⟩, prog_6_method_2_code, 1, none, 4, 1, 0),
  (⟨"InsuredFlame$Law", "beginRule", "(I)V"⟩, prog_6_method_3_code, 2, none, 4, 2, 0),
  (⟨"InsuredFlame$Law", "beginCondition", "()V"⟩, prog_6_method_4_code, 1, none, 4, 1, 0),
  (⟨"InsuredFlame$Law", "endRule", "()V"⟩, prog_6_method_5_code, 1, none, 4, 1, 0),
  (⟨"InsuredFlame$Law", "emit", "(II)I"⟩, prog_6_method_6_code, 3, some .int, 4, 3, 0),
  (⟨"InsuredFlame$Law", "aimHere", "(I)V"⟩, prog_6_method_7_code, 5, none, 4, 2, 0),
  (⟨"InsuredFlame$Law", "asksFor", "(I)Z"⟩, prog_6_method_8_code, 2, some .boolean, 4, 2, 0),
  (⟨"InsuredFlame$Law", "amountOf", "(I[III)I"⟩, prog_6_method_9_code, 7, some .int, 4, 5, 0),
  (⟨"InsuredFlame$Law", "anyHolds", "(I[I)Z"⟩, prog_6_method_10_code, 4, some .boolean, 4, 3, 0),
  (⟨"InsuredFlame$Law", "holds", "(I[I)Z"⟩, prog_6_method_11_code, 3, some .boolean, 4, 3, 0),
  (⟨"InsuredFlame$Law", "run", "(II[I)I"⟩, prog_6_method_12_code, 10, some .int, 4, 4, 0),
  (⟨"InsuredFlame$Law", "reckon", "(III)I"⟩, prog_6_method_13_code, 3, some .int, 4, 3, 1)]
def zMs_3 : List zMi := [
  (⟨"InsuredFlame$LawReader", "<init>", "()V"⟩, prog_7_method_1_code, 1, none, 5, 1, 2),
  (⟨"InsuredFlame$LawReader", "read", "([IILInsuredFlame$Law;)I"⟩, prog_7_method_2_code, 7, some .int, 5, 4, 0),
  (⟨"InsuredFlame$LawReader", "readLetter", "(LInsuredFlame$Law;I)I"⟩, prog_7_method_3_code, 4, some .int, 5, 3, 0),
  (⟨"InsuredFlame$LawReader", "readCondition", "(LInsuredFlame$Law;I)V"⟩, prog_7_method_4_code, 7, none, 5, 3, 0),
  (⟨"InsuredFlame$LawReader", "readTest", "(LInsuredFlame$Law;I)V"⟩, prog_7_method_5_code, 6, none, 5, 3, 0),
  (⟨"InsuredFlame$LawReader", "readAmount", "(LInsuredFlame$Law;I)V"⟩, prog_7_method_6_code, 6, none, 5, 3, 0),
  (⟨"InsuredFlame$LawReader", "readFactor", "(LInsuredFlame$Law;I)V"⟩, prog_7_method_7_code, 5, none, 5, 3, 0),
  (⟨"InsuredFlame$OrdersReader", "<init>", "()V"⟩, prog_8_method_1_code, 1, none, 6, 1, 2),
  (⟨"InsuredFlame$OrdersReader", "read", "([IILInsuredFlame$Scene;)I"⟩, prog_8_method_2_code, 7, some .int, 6, 4, 0),
  (⟨"InsuredFlame$OrdersReader", "readLine", "(LInsuredFlame$Scene;I)V"⟩, prog_8_method_3_code, 5, none, 6, 3, 0),
  (⟨"InsuredFlame$OrdersReader", "readLighting", "(LInsuredFlame$Scene;)V"⟩, prog_8_method_4_code, 4, none, 6, 2, 0),
  (⟨"InsuredFlame$OrdersReader", "readWatering", "(LInsuredFlame$Scene;)V"⟩, prog_8_method_5_code, 3, none, 6, 2, 0),
  (⟨"InsuredFlame$OrdersReader", "readWind", "(LInsuredFlame$Scene;)V"⟩, prog_8_method_6_code, 3, none, 6, 2, 0),
  (⟨"InsuredFlame$OrdersReader", "readThing", "(LInsuredFlame$Scene;)V"⟩, prog_8_method_7_code, 7, none, 6, 2, 0),
  (⟨"InsuredFlame$OrdersReader", "tellThing", "(LInsuredFlame$Scene;II)V"⟩, prog_8_method_8_code, 4, none, 6, 4, 0),
  (⟨"InsuredFlame$OrdersReader", "readPlace", "()I"⟩, prog_8_method_9_code, 3, some .int, 6, 1, 0)]
def zMs_4 : List zMi := [
  (⟨"InsuredFlame$OrdersReader", "readBounded", "(I)I"⟩, prog_8_method_10_code, 4, some .int, 6, 2, 0),
  (⟨"InsuredFlame$OrdersReader", "endLine", "()V"⟩, prog_8_method_11_code, 1, none, 6, 1, 0),
  (⟨"InsuredFlame$Scene", "<init>", "()V"⟩, prog_9_method_1_code, 1, none, 7, 1, 2),
  (⟨"InsuredFlame$Scene", "copyFrom", "(LInsuredFlame$Scene;)V"⟩, prog_9_method_2_code, 2, none, 7, 2, 0),
  (⟨"InsuredFlame$Scene", "copyAllButKinds", "(LInsuredFlame$Scene;)V"⟩, prog_9_method_3_code, 2, none, 7, 2, 0),
  (⟨"InsuredFlame$Scene", "buildAnew", "([I)V"⟩, prog_9_method_4_code, 3, none, 7, 2, 0),
  (⟨"InsuredFlame$Scene", "mendWhatIsNoWood", "()V"⟩, prog_9_method_5_code, 2, none, 7, 1, 0),
  (⟨"InsuredFlame$Scene", "setState", "(III)V"⟩, prog_9_method_6_code, 4, none, 7, 4, 0),
  (⟨"InsuredFlame$Scene", "draw", "()I"⟩, prog_9_method_7_code, 1, some .int, 7, 1, 0),
  (⟨"InsuredFlame$Scene", "isWholeWood", "(I)Z"⟩, prog_9_method_8_code, 2, some .boolean, 7, 2, 0),
  (⟨"InsuredFlame$Scene", "isWoodOnFire", "(I)Z"⟩, prog_9_method_9_code, 2, some .boolean, 7, 2, 0),
  (⟨"InsuredFlame$Scene", "placesOf", "(I)I"⟩, prog_9_method_10_code, 4, some .int, 7, 2, 0),
  (⟨"InsuredFlame$Scene", "placesThatAre", "(I)I"⟩, prog_9_method_11_code, 4, some .int, 7, 2, 0),
  (⟨"InsuredFlame$Scene", "burningNextTo", "(I)I"⟩, prog_9_method_12_code, 5, some .int, 7, 2, 0),
  (⟨"InsuredFlame$Scene", "isTold", "(I)Z"⟩, prog_9_method_13_code, 2, some .boolean, 7, 2, 0),
  (⟨"InsuredFlame$Scene", "isGone", "(I)Z"⟩, prog_9_method_14_code, 2, some .boolean, 7, 2, 0)]
def zMs_5 : List zMi := [
  (⟨"InsuredFlame$Scene", "isLeftAt", "(II)Z"⟩, prog_9_method_15_code, 3, some .boolean, 7, 3, 0),
  (⟨"InsuredFlame$Scene", "thingsAt", "(I)I"⟩, prog_9_method_16_code, 4, some .int, 7, 2, 0),
  (⟨"InsuredFlame$Scene", "bareValueAt", "(I)I"⟩, prog_9_method_17_code, 4, some .int, 7, 2, 0),
  (⟨"InsuredFlame$Scene", "insuredSumAt", "(I)I"⟩, prog_9_method_18_code, 4, some .int, 7, 2, 0),
  (⟨"InsuredFlame$Scene", "sumsInFire", "()I"⟩, prog_9_method_19_code, 3, some .int, 7, 1, 0),
  (⟨"InsuredFlame$Scene", "lostValue", "()I"⟩, prog_9_method_20_code, 3, some .int, 7, 1, 0),
  (⟨"InsuredFlame$Scene", "loseBareThingsAt", "(I)V"⟩, prog_9_method_21_code, 3, none, 7, 2, 0),
  (⟨"InsuredFlame$Scene", "paidFor", "(I)I"⟩, prog_9_method_22_code, 4, some .int, 7, 2, 0),
  (⟨"InsuredFlame$Scene", "lowValueOf", "(I)I"⟩, prog_9_method_23_code, 2, some .int, 7, 2, 0),
  (⟨"InsuredFlame$Text", "<init>", "()V"⟩, prog_10_method_1_code, 1, none, 8, 1, 2),
  (⟨"InsuredFlame$Text", "begin", "([II)V"⟩, prog_10_method_2_code, 3, none, 8, 3, 0),
  (⟨"InsuredFlame$Text", "isGood", "()Z"⟩, prog_10_method_3_code, 1, some .boolean, 8, 1, 0),
  (⟨"InsuredFlame$Text", "isAtEnd", "()Z"⟩, prog_10_method_4_code, 1, some .boolean, 8, 1, 0),
  (⟨"InsuredFlame$Text", "sign", "()I"⟩, prog_10_method_5_code, 1, some .int, 8, 1, 0),
  (⟨"InsuredFlame$Text", "isDigit", "()Z"⟩, prog_10_method_6_code, 2, some .boolean, 8, 1, 0),
  (⟨"InsuredFlame$Text", "skip", "()V"⟩, prog_10_method_7_code, 1, none, 8, 1, 0)]
def zMs_6 : List zMi := [
  (⟨"InsuredFlame$Text", "expect", "(I)V"⟩, prog_10_method_8_code, 2, none, 8, 2, 0),
  (⟨"InsuredFlame$Text", "fail", "(II)V"⟩, prog_10_method_9_code, 3, none, 8, 3, 0),
  (⟨"InsuredFlame$Text", "number", "(I)I"⟩, prog_10_method_10_code, 5, some .int, 8, 2, 0),
  (⟨"InsuredFlame$Text", "answerOr", "(I)I"⟩, prog_10_method_11_code, 2, some .int, 8, 2, 0),
  (⟨"InsuredFlame$TownReader", "<init>", "()V"⟩, prog_11_method_1_code, 1, none, 9, 1, 2),
  (⟨"InsuredFlame$TownReader", "read", "([II)I"⟩, prog_11_method_2_code, 5, some .int, 9, 3, 0),
  (⟨"InsuredFlame$TownReader", "readRow", "(I)V"⟩, prog_11_method_3_code, 5, none, 9, 2, 0),
  (⟨"InsuredFlame$TownReader", "canBeginSign", "()Z"⟩, prog_11_method_4_code, 1, some .boolean, 9, 1, 0),
  (⟨"InsuredFlame$TownReader", "isCount", "()Z"⟩, prog_11_method_5_code, 1, some .boolean, 9, 1, 0),
  (⟨"InsuredFlame$TownReader", "readSign", "(II)I"⟩, prog_11_method_6_code, 7, some .int, 9, 3, 0),
  (⟨"InsuredFlame$TownReader", "put", "(III)V"⟩, prog_11_method_7_code, 4, none, 9, 4, 0),
  (⟨"InsuredFlame$TownReader", "kindOf", "(I)I"⟩, prog_11_method_8_code, 1, some .int, 9, 1, 1),
  (⟨"InsuredFlame", "<init>", "()V"⟩, prog_1_method_1_code, 1, none, 10, 1, 2),
  (⟨"InsuredFlame", "feed", "(IIIII)I"⟩, prog_1_method_2_code, 6, some .int, 10, 6, 0),
  (⟨"InsuredFlame", "law", "(I)I"⟩, prog_1_method_3_code, 4, some .int, 10, 2, 0),
  (⟨"InsuredFlame", "town", "(I)I"⟩, prog_1_method_4_code, 3, some .int, 10, 2, 0)]
def zMs_7 : List zMi := [
  (⟨"InsuredFlame", "orders", "(I)I"⟩, prog_1_method_5_code, 3, some .int, 10, 2, 0),
  (⟨"InsuredFlame", "minutes", "(I)I"⟩, prog_1_method_6_code, 2, some .int, 10, 2, 0),
  (⟨"InsuredFlame", "tried", "(II)I"⟩, prog_1_method_7_code, 3, some .int, 10, 3, 0),
  (⟨"InsuredFlame", "placeIs", "(III)I"⟩, prog_1_method_8_code, 5, some .int, 10, 4, 0),
  (⟨"InsuredFlame", "thingIs", "(II)I"⟩, prog_1_method_9_code, 3, some .int, 10, 3, 0),
  (⟨"InsuredFlame", "comes", "(III)I"⟩, prog_1_method_10_code, 6, some .int, 10, 4, 0),
  (⟨"InsuredFlame", "over", "(I)I"⟩, prog_1_method_11_code, 3, some .int, 10, 2, 0),
  (⟨"InsuredFlame", "steps", "(II)I"⟩, prog_1_method_12_code, 4, some .int, 10, 3, 0),
  (⟨"InsuredFlame", "began", "(II)I"⟩, prog_1_method_13_code, 6, some .int, 10, 3, 0),
  (⟨"InsuredFlame", "breaks", "(II)I"⟩, prog_1_method_14_code, 3, some .int, 10, 3, 0),
  (⟨"InsuredFlame", "getsOut", "(I)I"⟩, prog_1_method_15_code, 2, some .int, 10, 2, 0),
  (⟨"InsuredFlame", "safe", "(I)I"⟩, prog_1_method_16_code, 5, some .int, 10, 2, 0),
  (⟨"InsuredFlame", "insure", "(III)I"⟩, prog_1_method_17_code, 6, some .int, 10, 4, 0),
  (⟨"InsuredFlame", "roundFigure", "(I)I"⟩, prog_1_method_18_code, 2, some .int, 10, 2, 0),
  (⟨"InsuredFlame", "ruin", "(III)I"⟩, prog_1_method_19_code, 5, some .int, 10, 4, 0),
  (⟨"InsuredFlame", "carried", "(I)I"⟩, prog_1_method_20_code, 2, some .int, 10, 2, 0)]
def zMs_8 : List zMi := [
  (⟨"InsuredFlame", "premium", "(II)I"⟩, prog_1_method_21_code, 3, some .int, 10, 3, 0),
  (⟨"InsuredFlame", "woods", "(I)I"⟩, prog_1_method_22_code, 6, some .int, 10, 2, 0),
  (⟨"InsuredFlame", "seed", "(I)Z"⟩, prog_1_method_23_code, 2, some .boolean, 10, 2, 0),
  (⟨"InsuredFlame", "keep", "()I"⟩, prog_1_method_24_code, 1, some .int, 10, 1, 0),
  (⟨"InsuredFlame", "undo", "()Z"⟩, prog_1_method_25_code, 1, some .boolean, 10, 1, 0),
  (⟨"InsuredFlame", "check", "(I)I"⟩, prog_1_method_26_code, 3, some .int, 10, 2, 0),
  (⟨"InsuredFlame", "count", "(I)I"⟩, prog_1_method_27_code, 2, some .int, 10, 2, 0),
  (⟨"InsuredFlame", "putBytes", "(I)V"⟩, prog_1_method_28_code, 3, none, 10, 2, 0),
  (⟨"InsuredFlame", "canTake", "(III)Z"⟩, prog_1_method_29_code, 4, some .boolean, 10, 4, 0),
  (⟨"InsuredFlame", "isWithin", "(III)Z"⟩, prog_1_method_30_code, 3, some .boolean, 10, 3, 1),
  (⟨"InsuredFlame", "isNumber", "(I)Z"⟩, prog_1_method_31_code, 1, some .boolean, 10, 1, 1),
  (⟨"InsuredFlame", "isPlace", "(II)Z"⟩, prog_1_method_32_code, 2, some .boolean, 10, 2, 1),
  (⟨"InsuredFlame", "nextTo", "(II)I"⟩, prog_1_method_33_code, 4, some .int, 10, 2, 1),
  (⟨"InsuredFlame", "areNext", "(II)Z"⟩, prog_1_method_34_code, 3, some .boolean, 10, 2, 1),
  (⟨"InsuredFlameModel", "<init>", "()V"⟩, prog_13_method_1_code, 1, none, 11, 1, 2),
  (⟨"InsuredFlameModel", "in", "(III)Z"⟩, prog_13_method_2_code, 3, some .boolean, 11, 3, 1)]
def zMs_9 : List zMi := [
  (⟨"InsuredFlameModel", "max", "(II)I"⟩, prog_13_method_4_code, 2, some .int, 11, 2, 1),
  (⟨"InsuredFlameModel", "size", "(I)I"⟩, prog_13_method_5_code, 1, some .int, 11, 1, 1),
  (⟨"InsuredFlameModel", "has", "(II)Z"⟩, prog_13_method_6_code, 2, some .boolean, 11, 2, 1),
  (⟨"InsuredFlameModel", "bits", "(I)I"⟩, prog_13_method_7_code, 3, some .int, 11, 1, 1),
  (⟨"InsuredFlameModel", "copies", "([I[I)V"⟩, prog_13_method_8_code, 3, none, 11, 2, 1),
  (⟨"InsuredFlameModel", "isPlace", "(I)Z"⟩, prog_13_method_9_code, 1, some .boolean, 11, 1, 1),
  (⟨"InsuredFlameModel", "isSpot", "(II)Z"⟩, prog_13_method_10_code, 2, some .boolean, 11, 2, 1),
  (⟨"InsuredFlameModel", "beside", "(II)I"⟩, prog_13_method_11_code, 4, some .int, 11, 2, 1),
  (⟨"InsuredFlameModel", "isWood", "(I)Z"⟩, prog_13_method_12_code, 2, some .boolean, 11, 2, 0),
  (⟨"InsuredFlameModel", "isThing", "(I)Z"⟩, prog_13_method_13_code, 2, some .boolean, 11, 2, 0),
  (⟨"InsuredFlameModel", "liesAt", "(II)Z"⟩, prog_13_method_14_code, 3, some .boolean, 11, 3, 0),
  (⟨"InsuredFlameModel", "types", "(I)V"⟩, prog_13_method_15_code, 3, none, 11, 2, 0),
  (⟨"InsuredFlameModel", "feed", "(IIIII)I"⟩, prog_13_method_16_code, 6, some .int, 11, 6, 0),
  (⟨"InsuredFlameModel", "octet", "(I)I"⟩, prog_13_method_17_code, 2, some .int, 11, 2, 0),
  (⟨"InsuredFlameModel", "here", "()I"⟩, prog_13_method_18_code, 1, some .int, 11, 1, 0),
  (⟨"InsuredFlameModel", "isDigit", "()Z"⟩, prog_13_method_19_code, 1, some .boolean, 11, 1, 0)]
def zMs_10 : List zMi := [
  (⟨"InsuredFlameModel", "wrongAt", "(II)Z"⟩, prog_13_method_20_code, 3, some .boolean, 11, 3, 0),
  (⟨"InsuredFlameModel", "takes", "(I)Z"⟩, prog_13_method_21_code, 2, some .boolean, 11, 2, 0),
  (⟨"InsuredFlameModel", "readsNumber", "()Z"⟩, prog_13_method_22_code, 2, some .boolean, 11, 1, 0),
  (⟨"InsuredFlameModel", "notes", "(II)V"⟩, prog_13_method_23_code, 3, none, 11, 3, 0),
  (⟨"InsuredFlameModel", "opens", "(I)Z"⟩, prog_13_method_24_code, 2, some .boolean, 11, 2, 0),
  (⟨"InsuredFlameModel", "waitTop", "()I"⟩, prog_13_method_25_code, 1, some .int, 11, 1, 0),
  (⟨"InsuredFlameModel", "factOf", "(I)I"⟩, prog_13_method_26_code, 1, some .int, 11, 1, 1),
  (⟨"InsuredFlameModel", "sumSign", "(I)I"⟩, prog_13_method_27_code, 1, some .int, 11, 1, 1),
  (⟨"InsuredFlameModel", "closesSums", "(Z)V"⟩, prog_13_method_28_code, 2, none, 11, 2, 0),
  (⟨"InsuredFlameModel", "readsFactor", "()Z"⟩, prog_13_method_29_code, 2, some .boolean, 11, 1, 0),
  (⟨"InsuredFlameModel", "hasOpenSum", "(I)Z"⟩, prog_13_method_30_code, 3, some .boolean, 11, 2, 0),
  (⟨"InsuredFlameModel", "readsSum", "()Z"⟩, prog_13_method_31_code, 3, some .boolean, 11, 1, 0),
  (⟨"InsuredFlameModel", "endsPiece", "()V"⟩, prog_13_method_32_code, 1, none, 11, 1, 0),
  (⟨"InsuredFlameModel", "lands", "(Z)V"⟩, prog_13_method_33_code, 3, none, 11, 2, 0),
  (⟨"InsuredFlameModel", "jumps", "(I)V"⟩, prog_13_method_34_code, 2, none, 11, 2, 0),
  (⟨"InsuredFlameModel", "readsCompared", "()Z"⟩, prog_13_method_35_code, 2, some .boolean, 11, 1, 0)]
def zMs_11 : List zMi := [
  (⟨"InsuredFlameModel", "readsCondition", "()Z"⟩, prog_13_method_36_code, 1, some .boolean, 11, 1, 0),
  (⟨"InsuredFlameModel", "readsRule", "()Z"⟩, prog_13_method_37_code, 2, some .boolean, 11, 1, 0),
  (⟨"InsuredFlameModel", "beginsText", "(I)V"⟩, prog_13_method_38_code, 2, none, 11, 2, 0),
  (⟨"InsuredFlameModel", "law", "(I)I"⟩, prog_13_method_39_code, 4, some .int, 11, 2, 0),
  (⟨"InsuredFlameModel", "reckon", "(III)I"⟩, prog_13_method_40_code, 3, some .int, 11, 3, 1),
  (⟨"InsuredFlameModel", "reckonsTo", "(II)I"⟩, prog_13_method_41_code, 8, some .int, 11, 3, 0),
  (⟨"InsuredFlameModel", "byLaw", "(III)I"⟩, prog_13_method_42_code, 6, some .int, 11, 4, 0),
  (⟨"InsuredFlameModel", "holdsAny", "(I)Z"⟩, prog_13_method_43_code, 3, some .boolean, 11, 2, 0),
  (⟨"InsuredFlameModel", "kindBy", "(I)I"⟩, prog_13_method_44_code, 1, some .int, 11, 1, 1),
  (⟨"InsuredFlameModel", "canBeginRow", "()Z"⟩, prog_13_method_45_code, 1, some .boolean, 11, 1, 0),
  (⟨"InsuredFlameModel", "readsRow", "(I)Z"⟩, prog_13_method_46_code, 8, some .boolean, 11, 2, 0),
  (⟨"InsuredFlameModel", "town", "(I)I"⟩, prog_13_method_47_code, 6, some .int, 11, 2, 0),
  (⟨"InsuredFlameModel", "becomesWhole", "(I)V"⟩, prog_13_method_48_code, 2, none, 11, 2, 0),
  (⟨"InsuredFlameModel", "readsWithin", "(I)Z"⟩, prog_13_method_49_code, 3, some .boolean, 11, 2, 0),
  (⟨"InsuredFlameModel", "readsSpot", "()Z"⟩, prog_13_method_50_code, 2, some .boolean, 11, 1, 0),
  (⟨"InsuredFlameModel", "readsThing", "()Z"⟩, prog_13_method_51_code, 4, some .boolean, 11, 1, 0)]
def zMs_12 : List zMi := [
  (⟨"InsuredFlameModel", "readsFire", "()Z"⟩, prog_13_method_52_code, 1, some .boolean, 11, 1, 0),
  (⟨"InsuredFlameModel", "readsWater", "()Z"⟩, prog_13_method_53_code, 1, some .boolean, 11, 1, 0),
  (⟨"InsuredFlameModel", "readsWind", "()Z"⟩, prog_13_method_54_code, 1, some .boolean, 11, 1, 0),
  (⟨"InsuredFlameModel", "readsLine", "()Z"⟩, prog_13_method_55_code, 2, some .boolean, 11, 1, 0),
  (⟨"InsuredFlameModel", "orders", "(I)I"⟩, prog_13_method_56_code, 4, some .int, 11, 2, 0),
  (⟨"InsuredFlameModel", "valuesAt", "(I)I"⟩, prog_13_method_57_code, 4, some .int, 11, 2, 0),
  (⟨"InsuredFlameModel", "sumsAt", "(I)I"⟩, prog_13_method_58_code, 4, some .int, 11, 2, 0),
  (⟨"InsuredFlameModel", "burnNextTo", "(I)I"⟩, prog_13_method_59_code, 4, some .int, 11, 2, 0),
  (⟨"InsuredFlameModel", "feels", "(IIII)V"⟩, prog_13_method_60_code, 5, none, 11, 5, 0),
  (⟨"InsuredFlameModel", "draws", "()I"⟩, prog_13_method_61_code, 1, some .int, 11, 1, 0),
  (⟨"InsuredFlameModel", "takesThings", "(I)V"⟩, prog_13_method_62_code, 3, none, 11, 2, 0),
  (⟨"InsuredFlameModel", "goesOver", "(II)V"⟩, prog_13_method_63_code, 5, none, 11, 3, 0),
  (⟨"InsuredFlameModel", "turnOf", "(I)V"⟩, prog_13_method_64_code, 3, none, 11, 2, 0),
  (⟨"InsuredFlameModel", "minuteGoes", "()V"⟩, prog_13_method_65_code, 2, none, 11, 1, 0),
  (⟨"InsuredFlameModel", "minutesGo", "(I)V"⟩, prog_13_method_66_code, 3, none, 11, 2, 0),
  (⟨"InsuredFlameModel", "faring", "(I)I"⟩, prog_13_method_67_code, 4, some .int, 11, 2, 0)]
def zMs_13 : List zMi := [
  (⟨"InsuredFlameModel", "minutes", "(I)I"⟩, prog_13_method_68_code, 2, some .int, 11, 2, 0),
  (⟨"InsuredFlameModel", "goneSet", "()I"⟩, prog_13_method_69_code, 3, some .int, 11, 1, 0),
  (⟨"InsuredFlameModel", "sumsInRuins", "()I"⟩, prog_13_method_70_code, 3, some .int, 11, 1, 0),
  (⟨"InsuredFlameModel", "tried", "(II)I"⟩, prog_13_method_71_code, 4, some .int, 11, 3, 0),
  (⟨"InsuredFlameModel", "thingsAt", "(I)I"⟩, prog_13_method_72_code, 4, some .int, 11, 2, 0),
  (⟨"InsuredFlameModel", "placeIs", "(III)I"⟩, prog_13_method_73_code, 5, some .int, 11, 4, 0),
  (⟨"InsuredFlameModel", "thingIs", "(II)I"⟩, prog_13_method_74_code, 5, some .int, 11, 3, 0),
  (⟨"InsuredFlameModel", "comes", "(III)I"⟩, prog_13_method_75_code, 7, some .int, 11, 4, 0),
  (⟨"InsuredFlameModel", "over", "(I)I"⟩, prog_13_method_76_code, 4, some .int, 11, 2, 0),
  (⟨"InsuredFlameModel", "laysFire", "(I)V"⟩, prog_13_method_77_code, 6, none, 11, 2, 0),
  (⟨"InsuredFlameModel", "clearsFire", "()V"⟩, prog_13_method_78_code, 2, none, 11, 1, 0),
  (⟨"InsuredFlameModel", "laysFireFrom", "(I)V"⟩, prog_13_method_79_code, 2, none, 11, 2, 0),
  (⟨"InsuredFlameModel", "laysFireNow", "()V"⟩, prog_13_method_80_code, 3, none, 11, 1, 0),
  (⟨"InsuredFlameModel", "steps", "(II)I"⟩, prog_13_method_81_code, 3, some .int, 11, 3, 0),
  (⟨"InsuredFlameModel", "couldBegin", "(II)Z"⟩, prog_13_method_82_code, 4, some .boolean, 11, 3, 0),
  (⟨"InsuredFlameModel", "began", "(II)I"⟩, prog_13_method_83_code, 6, some .int, 11, 3, 0)]
def zMs_14 : List zMi := [
  (⟨"InsuredFlameModel", "visits", "(II)V"⟩, prog_13_method_84_code, 3, none, 11, 3, 0),
  (⟨"InsuredFlameModel", "findsWay", "(II)Z"⟩, prog_13_method_85_code, 9, some .boolean, 11, 3, 0),
  (⟨"InsuredFlameModel", "waysApart", "(II)I"⟩, prog_13_method_86_code, 5, some .int, 11, 3, 0),
  (⟨"InsuredFlameModel", "goesAlong", "(II)V"⟩, prog_13_method_87_code, 8, none, 11, 3, 0),
  (⟨"InsuredFlameModel", "breaks", "(II)I"⟩, prog_13_method_88_code, 4, some .int, 11, 3, 0),
  (⟨"InsuredFlameModel", "isAtEdge", "(I)Z"⟩, prog_13_method_89_code, 1, some .boolean, 11, 1, 1),
  (⟨"InsuredFlameModel", "getsOut", "(I)I"⟩, prog_13_method_90_code, 7, some .int, 11, 2, 0),
  (⟨"InsuredFlameModel", "safe", "(I)I"⟩, prog_13_method_91_code, 5, some .int, 11, 2, 0),
  (⟨"InsuredFlameModel", "woods", "(I)I"⟩, prog_13_method_92_code, 6, some .int, 11, 2, 0),
  (⟨"InsuredFlameModel", "woodSeen", "()I"⟩, prog_13_method_93_code, 3, some .int, 11, 1, 0),
  (⟨"InsuredFlameModel", "insure", "(III)I"⟩, prog_13_method_94_code, 11, some .int, 11, 4, 0),
  (⟨"InsuredFlameModel", "roundFigure", "(I)I"⟩, prog_13_method_95_code, 4, some .int, 11, 2, 0),
  (⟨"InsuredFlameModel", "restOf", "(III)I"⟩, prog_13_method_96_code, 6, some .int, 11, 4, 0),
  (⟨"InsuredFlameModel", "ruin", "(III)I"⟩, prog_13_method_97_code, 7, some .int, 11, 4, 0),
  (⟨"InsuredFlameModel", "laysRow", "(I)V"⟩, prog_13_method_98_code, 4, none, 11, 2, 0),
  (⟨"InsuredFlameModel", "worthOf", "(II)I"⟩, prog_13_method_99_code, 7, some .int, 11, 3, 0)]
def zMs_15 : List zMi := [
  (⟨"InsuredFlameModel", "carried", "(I)I"⟩, prog_13_method_100_code, 4, some .int, 11, 2, 0),
  (⟨"InsuredFlameModel", "premium", "(II)I"⟩, prog_13_method_101_code, 6, some .int, 11, 3, 0),
  (⟨"InsuredFlameModel", "seed", "(I)Z"⟩, prog_13_method_102_code, 2, some .boolean, 11, 2, 0),
  (⟨"InsuredFlameModel", "keep", "()I"⟩, prog_13_method_103_code, 1, some .int, 11, 1, 0),
  (⟨"InsuredFlameModel", "undo", "()Z"⟩, prog_13_method_104_code, 2, some .boolean, 11, 1, 0),
  (⟨"InsuredFlameModel", "check", "(I)I"⟩, prog_13_method_105_code, 3, some .int, 11, 2, 0),
  (⟨"InsuredFlameModel", "toldSet", "()I"⟩, prog_13_method_106_code, 3, some .int, 11, 1, 0),
  (⟨"InsuredFlameModel", "lostAll", "()I"⟩, prog_13_method_107_code, 3, some .int, 11, 1, 0),
  (⟨"InsuredFlameModel", "count", "(I)I"⟩, prog_13_method_108_code, 2, some .int, 11, 2, 0),
  (⟨"InsuredFlameLaw", "law", "([I)Z"⟩, code, 4, some .boolean, 12, 1, 3),
  (⟨"java/lang/Integer", "bitCount", "(I)I"⟩, prog_15_method_49_code, 1, some .int, 13, 1, 1)]
def zMs : List zMi := zMs_0 ++ zMs_1 ++ zMs_2 ++ zMs_3 ++ zMs_4 ++ zMs_5 ++ zMs_6 ++ zMs_7 ++ zMs_8 ++ zMs_9 ++ zMs_10 ++ zMs_11 ++ zMs_12 ++ zMs_13 ++ zMs_14 ++ zMs_15
def zM0 : zMi := (⟨"", "", ""⟩, ⟨#[]⟩, 0, none, 0, 0, 9)
def zM (u : Nat) : zMi := zMs.getD u zM0
theorem zM_out {u : Nat} (h : 900 ≤ u) : zM u = zM0 := by
  have h1 : zMs.length ≤ 900 := by decide +kernel
  unfold zM
  rw [List.getD_eq_getElem?_getD, List.getElem?_eq_none (by omega)]
  rfl
def zhas {α : Type} [BEq α] (t : List (List α)) (own : Nat) (e : α) : Bool := (t.getD own []).any (fun q => q == e)
def zckt (pc : Nat) : Int → List (Int32 × Nat) → List Int → Bool
  | _, [], [] => true
  | lo, q :: sw, o :: os => decide (q.1.toInt = lo) && (decide ((pc : Int) + o = (q.2 : Int)) && zckt pc (lo + 1) sw os)
  | _, _, _ => false
def zckl (pc : Nat) : List (Int32 × Nat) → List (Int × Int) → Bool
  | [], [] => true
  | q :: sw, o :: os => decide (q.1.toInt = o.1) && (decide ((pc : Int) + o.2 = (q.2 : Int)) && zckl pc sw os)
  | _, _ => false
/-- the resolved numbers are what the tables say -/
def zop (own nL : Nat) (rt : Option FieldType) (ini : Bool) (pc : Nat) (q : zQ) : Bool :=
  match q with
  | (i, len, r1, r2, x, sw, _) => match i with
    | .iconst n => Nat.beq len 1 && decide (Int32.ofInt n = x)
    | .bipush n => Nat.beq len 2 && decide ((Int8.ofInt n).toInt32 = x)
    | .sipush n => Nat.beq len 3 && decide ((Int16.ofInt n).toInt32 = x)
    | .ldc idx => Nat.beq len 2 && ((Nat.beq r1 0 && zhas zKL own (idx, x)) || (Nat.beq r1 1 && (Nat.beq own 5 && Nat.beq idx 96)))
    | .ldc_w idx => Nat.beq len 3 && zhas zKL own (idx, x)
    | .iload n => Nat.beq len 2 && Nat.beq n r1
    | .aload n => Nat.beq len 2 && Nat.beq n r1
    | .istore n => Nat.beq len 2 && (Nat.beq n r1 && Nat.blt r1 nL)
    | .astore n => Nat.beq len 2 && (Nat.beq n r1 && Nat.blt r1 nL)
    | .iload_n n => Nat.beq len 1 && Nat.beq n.val r1
    | .aload_n n => Nat.beq len 1 && Nat.beq n.val r1
    | .istore_n n => Nat.beq len 1 && (Nat.beq n.val r1 && Nat.blt r1 nL)
    | .astore_n n => Nat.beq len 1 && (Nat.beq n.val r1 && Nat.blt r1 nL)
    | .iinc k n => Nat.beq len 3 && (Nat.beq k r1 && decide (Int32.ofInt n = x))
    | .goto o => Nat.beq len 3 && decide ((pc : Int) + o = (r1 : Int))
    | .if_icmp _ o => Nat.beq len 3 && decide ((pc : Int) + o = (r1 : Int))
    | .ifCond _ o => Nat.beq len 3 && decide ((pc : Int) + o = (r1 : Int))
    | .tableswitch d lo hi os => decide (hi + 1 = lo + (os.size : Int)) && (decide ((pc : Int) + d = (r1 : Int)) && zckt pc lo sw os.toList)
    | .lookupswitch d ps => decide ((pc : Int) + d = (r1 : Int)) && ((ps.toList.zip (ps.toList.drop 1)).all (fun (a, next) => a.1 < next.1) && zckl pc sw ps.toList)
    | .getfield idx => Nat.beq len 3 && zhas zFL own (idx, r1, r2)
    | .putfield idx => Nat.beq len 3 && (zhas zFL own (idx, r1, r2) && ((!(zTt r1 r2).2.2.2) || (ini && Nat.beq own r1)))
    | .new idx => Nat.beq len 3 && (zhas zCL own (idx, r1) && Nat.beq r2 (zFTl.getD r1 []).length)
    | .newarray t => Nat.beq len 2 && (match t with
      | .int => Nat.beq r1 16
      | .byte => Nat.beq r1 17
      | .boolean => Nat.beq r1 18
      | _ => false)
    | .invokespecial idx => Nat.beq len 3 && ((Nat.beq r1 900 && zhas zOL own idx) || ((zhas zML own (idx, r1, 0) || zhas zML own (idx, r1, 1)) && (Nat.beq (zM r1).2.2.2.2.2.2 2 && Nat.beq (r2 % 32) (zM r1).2.2.2.2.2.1)))
    | .invokestatic idx => Nat.beq len 3 && ((Nat.beq r1 901 && (Nat.beq own 7 && Nat.beq idx 46)) || (zhas zTL own (idx, r1) && Nat.ble 903 r1) || ((zhas zML own (idx, r1, 0) || zhas zML own (idx, r1, 1)) && (Nat.beq (zM r1).2.2.2.2.2.2 1 && Nat.beq (r2 % 32) (zM r1).2.2.2.2.2.1)))
    | .invokevirtual idx => Nat.beq len 3 && ((Nat.beq r1 902 && (Nat.beq own 5 && Nat.beq idx 98)) || ((zhas zML own (idx, r1, 0) || zhas zML own (idx, r1, 1)) && (Nat.beq (zM r1).2.2.2.2.2.2 0 && (Nat.beq (r2 % 32) (zM r1).2.2.2.2.2.1 && Nat.beq (r2 / 32) (zM r1).2.2.2.2.1))))
    | .ireturn => Nat.beq len 1 && ((Nat.beq r1 0 && decide (rt = some .int)) || (Nat.beq r1 1 && decide (rt = some .boolean)))
    | .return_ => Nat.beq len 1 && decide (rt = none)
    | _ => Nat.beq len 1
def zck (own nL : Nat) (bytes : ByteArray) (rt : Option FieldType) (ini : Bool) (e : Nat × zQ) : Bool := decide (decode bytes e.1 = .ok (e.2.1, e.2.2.1)) && zop own nL rt ini e.1 e.2
def zckM (m : zMi) (c : List (Nat × zQ)) : Bool := c.all (zck m.2.2.2.2.1 m.2.2.1 m.2.1 m.2.2.2.1 (Nat.beq m.2.2.2.2.2.2 2))
