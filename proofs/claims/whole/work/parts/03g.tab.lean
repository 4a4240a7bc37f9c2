set_option maxRecDepth 100000 in
def tb_327 : List (Nat × Instr × Nat) := [(0, .aload_n 0, 1), (1, .getfield 9, 3), (4, .arraylength, 1), (5, .aload_n 0, 1), (6, .invokevirtual 335, 3), (9, .ishr, 1), (10, .ireturn, 1)]
theorem tb_327_ok : (tb_327.all fun e => decide (decode cJ0_length_8abf5 e.1 = .ok e.2)) = true := by decide +kernel

set_option maxRecDepth 100000 in
def tb_328 : List (Nat × Instr × Nat) := [(0, .aload_n 0, 1), (1, .invokevirtual 492, 3), (4, .ifCond .eq 12, 3), (7, .aload_n 0, 1), (8, .getfield 9, 3), (11, .iload_n 1, 1), (12, .invokestatic 495, 3), (15, .ireturn, 1), (16, .aload_n 0, 1), (17, .getfield 9, 3), (20, .iload_n 1, 1), (21, .invokestatic 498, 3), (24, .ireturn, 1)]
theorem tb_328_ok : (tb_328.all fun e => decide (decode cJ0_charAt_5068e e.1 = .ok e.2)) = true := by decide +kernel

set_option maxRecDepth 100000 in
def tb_329 : List (Nat × Instr × Nat) := [(0, .getstatic 38, 3), (3, .ifCond .eq 10, 3), (6, .aload_n 0, 1), (7, .getfield 15, 3), (10, .goto 4, 3), (13, .iconst 1, 1), (14, .ireturn, 1)]
theorem tb_329_ok : (tb_329.all fun e => decide (decode cJ0_coder_7d493 e.1 = .ok e.2)) = true := by decide +kernel

set_option maxRecDepth 100000 in
def tb_330 : List (Nat × Instr × Nat) := [(0, .getstatic 38, 3), (3, .ifCond .eq 14, 3), (6, .aload_n 0, 1), (7, .getfield 15, 3), (10, .ifCond .ne 7, 3), (13, .iconst 1, 1), (14, .goto 4, 3), (17, .iconst 0, 1), (18, .ireturn, 1)]
theorem tb_330_ok : (tb_330.all fun e => decide (decode cJ0_isLatin1_aae02 e.1 = .ok e.2)) = true := by decide +kernel

set_option maxRecDepth 100000 in
def tb_331 : List (Nat × Instr × Nat) := [(0, .iload_n 0, 1), (1, .iload_n 1, 1), (2, .getstatic 1053, 3), (5, .invokestatic 1059, 3), (8, .pop, 1), (9, .return_, 1)]
theorem tb_331_ok : (tb_331.all fun e => decide (decode cJ0_checkIndex_df160 e.1 = .ok e.2)) = true := by decide +kernel

set_option maxRecDepth 100000 in
def tb_332 : List (Nat × Instr × Nat) := [(0, .iload_n 1, 1), (1, .aload_n 0, 1), (2, .arraylength, 1), (3, .invokestatic 9, 3), (6, .aload_n 0, 1), (7, .iload_n 1, 1), (8, .baload, 1), (9, .sipush 255, 3), (12, .iand, 1), (13, .i2c, 1), (14, .ireturn, 1)]
theorem tb_332_ok : (tb_332.all fun e => decide (decode cJ1_charAt_3b067 e.1 = .ok e.2)) = true := by decide +kernel

set_option maxRecDepth 100000 in
def tb_333 : List (Nat × Instr × Nat) := [(0, .iload_n 0, 1), (1, .ifCond .lt 8, 3), (4, .iload_n 0, 1), (5, .iload_n 1, 1), (6, .if_icmp .lt 10, 3), (9, .aload_n 2, 1), (10, .iload_n 0, 1), (11, .iload_n 1, 1), (12, .invokestatic 95, 3), (15, .athrow, 1), (16, .iload_n 0, 1), (17, .ireturn, 1)]
theorem tb_333_ok : (tb_333.all fun e => decide (decode cJ3_checkIndex_8e157 e.1 = .ok e.2)) = true := by decide +kernel

set_option maxRecDepth 100000 in
def tb_322 : List (Nat × Instr × Nat) := [(0, .iload_n 0, 1), (1, .iconst (-1), 1), (2, .ixor, 1), (3, .iload_n 0, 1), (4, .iconst 1, 1), (5, .isub, 1), (6, .iand, 1), (7, .istore_n 0, 1), (8, .iload_n 0, 1), (9, .ifCond .gt 8, 3), (12, .iload_n 0, 1), (13, .bipush 32, 2), (15, .iand, 1), (16, .ireturn, 1), (17, .iconst 1, 1), (18, .istore_n 1, 1), (19, .iload_n 0, 1), (20, .ldc_w 264, 3), (23, .if_icmp .le 11, 3), (26, .iinc 1 16, 3), (29, .iload_n 0, 1), (30, .bipush 16, 2), (32, .iushr, 1), (33, .istore_n 0, 1), (34, .iload_n 0, 1), (35, .sipush 256, 3), (38, .if_icmp .le 11, 3), (41, .iinc 1 8, 3), (44, .iload_n 0, 1), (45, .bipush 8, 2), (47, .iushr, 1), (48, .istore_n 0, 1), (49, .iload_n 0, 1), (50, .bipush 16, 2), (52, .if_icmp .le 10, 3), (55, .iinc 1 4, 3), (58, .iload_n 0, 1), (59, .iconst 4, 1), (60, .iushr, 1), (61, .istore_n 0, 1), (62, .iload_n 0, 1), (63, .iconst 4, 1), (64, .if_icmp .le 10, 3), (67, .iinc 1 2, 3), (70, .iload_n 0, 1), (71, .iconst 2, 1), (72, .iushr, 1), (73, .istore_n 0, 1), (74, .iload_n 1, 1), (75, .iload_n 0, 1), (76, .iconst 1, 1), (77, .iushr, 1), (78, .iadd, 1), (79, .ireturn, 1)]
theorem tb_322_ok : (tb_322.all fun e => decide (decode cJ6_numberOfTrailingZeros_0f7a4 e.1 = .ok e.2)) = true := by decide +kernel

set_option maxRecDepth 100000 in
def tb_323 : List (Nat × Instr × Nat) := [(0, .iload_n 0, 1), (1, .iload_n 0, 1), (2, .iconst 1, 1), (3, .iushr, 1), (4, .ldc_w 265, 3), (7, .iand, 1), (8, .isub, 1), (9, .istore_n 0, 1), (10, .iload_n 0, 1), (11, .ldc_w 266, 3), (14, .iand, 1), (15, .iload_n 0, 1), (16, .iconst 2, 1), (17, .iushr, 1), (18, .ldc_w 266, 3), (21, .iand, 1), (22, .iadd, 1), (23, .istore_n 0, 1), (24, .iload_n 0, 1), (25, .iload_n 0, 1), (26, .iconst 4, 1), (27, .iushr, 1), (28, .iadd, 1), (29, .ldc_w 267, 3), (32, .iand, 1), (33, .istore_n 0, 1), (34, .iload_n 0, 1), (35, .iload_n 0, 1), (36, .bipush 8, 2), (38, .iushr, 1), (39, .iadd, 1), (40, .istore_n 0, 1), (41, .iload_n 0, 1), (42, .iload_n 0, 1), (43, .bipush 16, 2), (45, .iushr, 1), (46, .iadd, 1), (47, .istore_n 0, 1), (48, .iload_n 0, 1), (49, .bipush 63, 2), (51, .iand, 1), (52, .ireturn, 1)]
theorem tb_323_ok : (tb_323.all fun e => decide (decode cJ6_bitCount_0f7a4 e.1 = .ok e.2)) = true := by decide +kernel

set_option maxRecDepth 100000 in
def tb_324 : List (Nat × Instr × Nat) := [(0, .iload_n 0, 1), (1, .ifCond .ge 8, 3), (4, .iload_n 0, 1), (5, .ineg, 1), (6, .goto 4, 3), (9, .iload_n 0, 1), (10, .ireturn, 1)]
theorem tb_324_ok : (tb_324.all fun e => decide (decode cJ9_abs_0f7a4 e.1 = .ok e.2)) = true := by decide +kernel

set_option maxRecDepth 100000 in
def tb_325 : List (Nat × Instr × Nat) := [(0, .iload_n 0, 1), (1, .iload_n 1, 1), (2, .if_icmp .lt 7, 3), (5, .iload_n 0, 1), (6, .goto 4, 3), (9, .iload_n 1, 1), (10, .ireturn, 1)]
theorem tb_325_ok : (tb_325.all fun e => decide (decode cJ9_max_7cf53 e.1 = .ok e.2)) = true := by decide +kernel

set_option maxRecDepth 100000 in
def tb_326 : List (Nat × Instr × Nat) := [(0, .iload_n 0, 1), (1, .iload_n 1, 1), (2, .if_icmp .gt 7, 3), (5, .iload_n 0, 1), (6, .goto 4, 3), (9, .iload_n 1, 1), (10, .ireturn, 1)]
theorem tb_326_ok : (tb_326.all fun e => decide (decode cJ9_min_7cf53 e.1 = .ok e.2)) = true := by decide +kernel

set_option maxRecDepth 100000 in
def tb_335 : List (Nat × Instr × Nat) := [(0, .return_, 1)]
theorem tb_335_ok : (tb_335.all fun e => decide (decode ⟨#[0xb1]⟩ e.1 = .ok e.2)) = true := by decide +kernel

set_option maxRecDepth 100000 in
def tb_334_c0 : List (Nat × Instr × Nat) := [(0, .new 7, 3), (3, .dup, 1), (4, .invokespecial 9, 3), (7, .astore_n 1, 1), (8, .new 10, 3), (11, .dup, 1), (12, .invokespecial 12, 3), (15, .astore_n 2, 1), (16, .iconst 0, 1), (17, .istore_n 3, 1), (18, .iload_n 3, 1), (19, .aload_n 0, 1), (20, .arraylength, 1), (21, .bipush 6, 2), (23, .isub, 1), (24, .if_icmp .gt 1430, 3), (27, .aload_n 0, 1), (28, .iload_n 3, 1), (29, .iaload, 1), (30, .bipush 63, 2), (32, .iand, 1), (33, .tableswitch 1415 0 32 #[147, 210, 233, 266, 289, 322, 365, 398, 451, 494, 527, 560, 613, 672, 705, 738, 781, 814, 867, 900, 953, 986, 1029, 1062, 1095, 1128, 1171, 1204, 1263, 1297, 1346, 1369, 1392], 147), (180, .aload_n 1, 1), (181, .aload_n 0, 1), (182, .iload_n 3, 1), (183, .iconst 1, 1), (184, .iadd, 1), (185, .iaload, 1), (186, .aload_n 0, 1), (187, .iload_n 3, 1), (188, .iconst 2, 1), (189, .iadd, 1), (190, .iaload, 1), (191, .aload_n 0, 1), (192, .iload_n 3, 1), (193, .iconst 3, 1), (194, .iadd, 1), (195, .iaload, 1), (196, .aload_n 0, 1), (197, .iload_n 3, 1), (198, .iconst 4, 1), (199, .iadd, 1), (200, .iaload, 1), (201, .aload_n 0, 1), (202, .iload_n 3, 1), (203, .iconst 5, 1), (204, .iadd, 1), (205, .iaload, 1), (206, .invokevirtual 13, 3), (209, .aload_n 2, 1), (210, .aload_n 0, 1), (211, .iload_n 3, 1), (212, .iconst 1, 1), (213, .iadd, 1)]
set_option maxRecDepth 100000 in
theorem tb_334_c0_ok : (tb_334_c0.all fun e => decide (decode cL_law e.1 = .ok e.2)) = true := by decide +kernel

set_option maxRecDepth 100000 in
def tb_334_c1 : List (Nat × Instr × Nat) := [(214, .iaload, 1), (215, .aload_n 0, 1), (216, .iload_n 3, 1), (217, .iconst 2, 1), (218, .iadd, 1), (219, .iaload, 1), (220, .aload_n 0, 1), (221, .iload_n 3, 1), (222, .iconst 3, 1), (223, .iadd, 1), (224, .iaload, 1), (225, .aload_n 0, 1), (226, .iload_n 3, 1), (227, .iconst 4, 1), (228, .iadd, 1), (229, .iaload, 1), (230, .aload_n 0, 1), (231, .iload_n 3, 1), (232, .iconst 5, 1), (233, .iadd, 1), (234, .iaload, 1), (235, .invokevirtual 17, 3), (238, .if_icmp .eq 1210, 3), (241, .iconst 0, 1), (242, .ireturn, 1), (243, .aload_n 1, 1), (244, .aload_n 0, 1), (245, .iload_n 3, 1), (246, .iconst 1, 1), (247, .iadd, 1), (248, .iaload, 1), (249, .invokevirtual 18, 3), (252, .aload_n 2, 1), (253, .aload_n 0, 1), (254, .iload_n 3, 1), (255, .iconst 1, 1), (256, .iadd, 1), (257, .iaload, 1), (258, .invokevirtual 22, 3), (261, .if_icmp .eq 1187, 3), (264, .iconst 0, 1), (265, .ireturn, 1), (266, .aload_n 1, 1), (267, .aload_n 0, 1), (268, .iload_n 3, 1), (269, .iconst 1, 1), (270, .iadd, 1), (271, .iaload, 1), (272, .aload_n 0, 1), (273, .iload_n 3, 1), (274, .iconst 2, 1), (275, .iadd, 1), (276, .iaload, 1), (277, .invokevirtual 23, 3)]
set_option maxRecDepth 100000 in
theorem tb_334_c1_ok : (tb_334_c1.all fun e => decide (decode cL_law e.1 = .ok e.2)) = true := by decide +kernel

set_option maxRecDepth 100000 in
def tb_334_c2 : List (Nat × Instr × Nat) := [(280, .aload_n 2, 1), (281, .aload_n 0, 1), (282, .iload_n 3, 1), (283, .iconst 1, 1), (284, .iadd, 1), (285, .iaload, 1), (286, .aload_n 0, 1), (287, .iload_n 3, 1), (288, .iconst 2, 1), (289, .iadd, 1), (290, .iaload, 1), (291, .invokevirtual 27, 3), (294, .if_icmp .eq 1154, 3), (297, .iconst 0, 1), (298, .ireturn, 1), (299, .aload_n 1, 1), (300, .aload_n 0, 1), (301, .iload_n 3, 1), (302, .iconst 1, 1), (303, .iadd, 1), (304, .iaload, 1), (305, .invokevirtual 28, 3), (308, .aload_n 2, 1), (309, .aload_n 0, 1), (310, .iload_n 3, 1), (311, .iconst 1, 1), (312, .iadd, 1), (313, .iaload, 1), (314, .invokevirtual 31, 3), (317, .if_icmp .eq 1131, 3), (320, .iconst 0, 1), (321, .ireturn, 1), (322, .aload_n 1, 1), (323, .aload_n 0, 1), (324, .iload_n 3, 1), (325, .iconst 1, 1), (326, .iadd, 1), (327, .iaload, 1), (328, .aload_n 0, 1), (329, .iload_n 3, 1), (330, .iconst 2, 1), (331, .iadd, 1), (332, .iaload, 1), (333, .invokevirtual 32, 3), (336, .aload_n 2, 1), (337, .aload_n 0, 1), (338, .iload_n 3, 1), (339, .iconst 1, 1), (340, .iadd, 1), (341, .iaload, 1), (342, .aload_n 0, 1), (343, .iload_n 3, 1), (344, .iconst 2, 1), (345, .iadd, 1)]
set_option maxRecDepth 100000 in
theorem tb_334_c2_ok : (tb_334_c2.all fun e => decide (decode cL_law e.1 = .ok e.2)) = true := by decide +kernel

set_option maxRecDepth 100000 in
def tb_334_c3 : List (Nat × Instr × Nat) := [(346, .iaload, 1), (347, .invokevirtual 35, 3), (350, .if_icmp .eq 1098, 3), (353, .iconst 0, 1), (354, .ireturn, 1), (355, .aload_n 1, 1), (356, .aload_n 0, 1), (357, .iload_n 3, 1), (358, .iconst 1, 1), (359, .iadd, 1), (360, .iaload, 1), (361, .aload_n 0, 1), (362, .iload_n 3, 1), (363, .iconst 2, 1), (364, .iadd, 1), (365, .iaload, 1), (366, .aload_n 0, 1), (367, .iload_n 3, 1), (368, .iconst 3, 1), (369, .iadd, 1), (370, .iaload, 1), (371, .invokevirtual 36, 3), (374, .aload_n 2, 1), (375, .aload_n 0, 1), (376, .iload_n 3, 1), (377, .iconst 1, 1), (378, .iadd, 1), (379, .iaload, 1), (380, .aload_n 0, 1), (381, .iload_n 3, 1), (382, .iconst 2, 1), (383, .iadd, 1), (384, .iaload, 1), (385, .aload_n 0, 1), (386, .iload_n 3, 1), (387, .iconst 3, 1), (388, .iadd, 1), (389, .iaload, 1), (390, .invokevirtual 40, 3), (393, .if_icmp .eq 1055, 3), (396, .iconst 0, 1), (397, .ireturn, 1), (398, .aload_n 1, 1), (399, .aload_n 0, 1), (400, .iload_n 3, 1), (401, .iconst 1, 1), (402, .iadd, 1), (403, .iaload, 1), (404, .aload_n 0, 1), (405, .iload_n 3, 1), (406, .iconst 2, 1), (407, .iadd, 1), (408, .iaload, 1), (409, .invokevirtual 41, 3)]
set_option maxRecDepth 100000 in
theorem tb_334_c3_ok : (tb_334_c3.all fun e => decide (decode cL_law e.1 = .ok e.2)) = true := by decide +kernel

set_option maxRecDepth 100000 in
def tb_334_c4 : List (Nat × Instr × Nat) := [(412, .aload_n 2, 1), (413, .aload_n 0, 1), (414, .iload_n 3, 1), (415, .iconst 1, 1), (416, .iadd, 1), (417, .iaload, 1), (418, .aload_n 0, 1), (419, .iload_n 3, 1), (420, .iconst 2, 1), (421, .iadd, 1), (422, .iaload, 1), (423, .invokevirtual 44, 3), (426, .if_icmp .eq 1022, 3), (429, .iconst 0, 1), (430, .ireturn, 1), (431, .aload_n 1, 1), (432, .aload_n 0, 1), (433, .iload_n 3, 1), (434, .iconst 1, 1), (435, .iadd, 1), (436, .iaload, 1), (437, .aload_n 0, 1), (438, .iload_n 3, 1), (439, .iconst 2, 1), (440, .iadd, 1), (441, .iaload, 1), (442, .aload_n 0, 1), (443, .iload_n 3, 1), (444, .iconst 3, 1), (445, .iadd, 1), (446, .iaload, 1), (447, .aload_n 0, 1), (448, .iload_n 3, 1), (449, .iconst 4, 1), (450, .iadd, 1), (451, .iaload, 1), (452, .invokevirtual 45, 3), (455, .aload_n 2, 1), (456, .aload_n 0, 1), (457, .iload_n 3, 1), (458, .iconst 1, 1), (459, .iadd, 1), (460, .iaload, 1), (461, .aload_n 0, 1), (462, .iload_n 3, 1), (463, .iconst 2, 1), (464, .iadd, 1), (465, .iaload, 1), (466, .aload_n 0, 1), (467, .iload_n 3, 1), (468, .iconst 3, 1), (469, .iadd, 1), (470, .iaload, 1), (471, .aload_n 0, 1)]
set_option maxRecDepth 100000 in
theorem tb_334_c4_ok : (tb_334_c4.all fun e => decide (decode cL_law e.1 = .ok e.2)) = true := by decide +kernel

set_option maxRecDepth 100000 in
def tb_334_c5 : List (Nat × Instr × Nat) := [(472, .iload_n 3, 1), (473, .iconst 4, 1), (474, .iadd, 1), (475, .iaload, 1), (476, .invokevirtual 49, 3), (479, .if_icmp .eq 969, 3), (482, .iconst 0, 1), (483, .ireturn, 1), (484, .aload_n 1, 1), (485, .aload_n 0, 1), (486, .iload_n 3, 1), (487, .iconst 1, 1), (488, .iadd, 1), (489, .iaload, 1), (490, .aload_n 0, 1), (491, .iload_n 3, 1), (492, .iconst 2, 1), (493, .iadd, 1), (494, .iaload, 1), (495, .aload_n 0, 1), (496, .iload_n 3, 1), (497, .iconst 3, 1), (498, .iadd, 1), (499, .iaload, 1), (500, .invokevirtual 50, 3), (503, .aload_n 2, 1), (504, .aload_n 0, 1), (505, .iload_n 3, 1), (506, .iconst 1, 1), (507, .iadd, 1), (508, .iaload, 1), (509, .aload_n 0, 1), (510, .iload_n 3, 1), (511, .iconst 2, 1), (512, .iadd, 1), (513, .iaload, 1), (514, .aload_n 0, 1), (515, .iload_n 3, 1), (516, .iconst 3, 1), (517, .iadd, 1), (518, .iaload, 1), (519, .invokevirtual 53, 3), (522, .if_icmp .eq 926, 3), (525, .iconst 0, 1), (526, .ireturn, 1), (527, .aload_n 1, 1), (528, .aload_n 0, 1), (529, .iload_n 3, 1), (530, .iconst 1, 1), (531, .iadd, 1), (532, .iaload, 1), (533, .aload_n 0, 1), (534, .iload_n 3, 1), (535, .iconst 2, 1)]
set_option maxRecDepth 100000 in
theorem tb_334_c5_ok : (tb_334_c5.all fun e => decide (decode cL_law e.1 = .ok e.2)) = true := by decide +kernel

set_option maxRecDepth 100000 in
def tb_334_c6 : List (Nat × Instr × Nat) := [(536, .iadd, 1), (537, .iaload, 1), (538, .invokevirtual 54, 3), (541, .aload_n 2, 1), (542, .aload_n 0, 1), (543, .iload_n 3, 1), (544, .iconst 1, 1), (545, .iadd, 1), (546, .iaload, 1), (547, .aload_n 0, 1), (548, .iload_n 3, 1), (549, .iconst 2, 1), (550, .iadd, 1), (551, .iaload, 1), (552, .invokevirtual 57, 3), (555, .if_icmp .eq 893, 3), (558, .iconst 0, 1), (559, .ireturn, 1), (560, .aload_n 1, 1), (561, .aload_n 0, 1), (562, .iload_n 3, 1), (563, .iconst 1, 1), (564, .iadd, 1), (565, .iaload, 1), (566, .aload_n 0, 1), (567, .iload_n 3, 1), (568, .iconst 2, 1), (569, .iadd, 1), (570, .iaload, 1), (571, .invokevirtual 58, 3), (574, .aload_n 2, 1), (575, .aload_n 0, 1), (576, .iload_n 3, 1), (577, .iconst 1, 1), (578, .iadd, 1), (579, .iaload, 1), (580, .aload_n 0, 1), (581, .iload_n 3, 1), (582, .iconst 2, 1), (583, .iadd, 1), (584, .iaload, 1), (585, .invokevirtual 61, 3), (588, .if_icmp .eq 860, 3), (591, .iconst 0, 1), (592, .ireturn, 1), (593, .aload_n 1, 1), (594, .aload_n 0, 1), (595, .iload_n 3, 1), (596, .iconst 1, 1), (597, .iadd, 1), (598, .iaload, 1), (599, .aload_n 0, 1), (600, .iload_n 3, 1), (601, .iconst 2, 1)]
set_option maxRecDepth 100000 in
theorem tb_334_c6_ok : (tb_334_c6.all fun e => decide (decode cL_law e.1 = .ok e.2)) = true := by decide +kernel
