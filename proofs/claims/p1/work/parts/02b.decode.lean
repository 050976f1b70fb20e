theorem px_d0 : ∀ q ∈ px_t0, decode cJ13_bitCount_95d88 q.1 = .ok (q.2, px_len q.1 q.2) := by decide +kernel
theorem px_d1 : ∀ q ∈ px_t1, decode cJ6_bitCount_0f7a4 q.1 = .ok (q.2, px_len q.1 q.2) := by decide +kernel
theorem px_d2 : ∀ q ∈ px_t2, decode cJ9_max_7cf53 q.1 = .ok (q.2, px_len q.1 q.2) := by decide +kernel
theorem px_d3 : ∀ q ∈ px_t3, decode cJ9_min_7cf53 q.1 = .ok (q.2, px_len q.1 q.2) := by decide +kernel
theorem px_d4 : ∀ q ∈ px_t4, decode cL_cell q.1 = .ok (q.2, px_len q.1 q.2) := by decide +kernel
theorem px_d5 : ∀ q ∈ px_t5, decode cL_cell_ q.1 = .ok (q.2, px_len q.1 q.2) := by decide +kernel
def px_t6_0 : List (Nat × Instr) := [(0, .new 8), (3, .dup), (4, .aload_n 0), (5, .iconst 0), (6, .invokestatic 36), (9, .aload_n 0), (10, .iconst 1), (11, .invokestatic 36), (14, .invokespecial 41), (17, .astore_n 1), (18, .new 44), (21, .dup), (22, .aload_n 0), (23, .iconst 0), (24, .invokestatic 36), (27, .aload_n 0), (28, .iconst 1), (29, .invokestatic 36), (32, .invokespecial 46), (35, .astore_n 2), (36, .iconst 1), (37, .newarray .long), (39, .astore_n 3), (40, .iconst 2), (41, .istore 4), (43, .iload 4), (45, .aload_n 0), (46, .arraylength), (47, .iconst 4), (48, .isub), (49, .if_icmp .gt 800), (52, .aload_n 0), (53, .iload 4), (55, .iaload), (56, .bipush 15), (58, .iand), (59, .tableswitch 784 0 15 #[77, 180, 193, 280, 336, 416, 429, 454, 522, 547, 634, 647, 672, 697, 722, 747]), (136, .aload_n 1), (137, .aload_n 0), (138, .iload 4), (140, .iconst 1), (141, .iadd), (142, .iaload), (143, .aload_n 0), (144, .iload 4), (146, .iconst 2), (147, .iadd), (148, .iaload), (149, .aload_n 0), (150, .iload 4), (152, .iconst 3), (153, .iadd), (154, .iaload), (155, .ifCond .eq 7), (158, .iconst 1), (159, .goto 4), (162, .iconst 0), (163, .aload_n 3), (164, .invokestatic 47), (167, .istore 5), (169, .aload_n 2), (170, .aload_n 0), (171, .iload 4), (173, .iconst 1), (174, .iadd), (175, .iaload), (176, .aload_n 0), (177, .iload 4), (179, .iconst 2), (180, .iadd), (181, .iaload), (182, .aload_n 0), (183, .iload 4), (185, .iconst 3), (186, .iadd), (187, .iaload), (188, .ifCond .eq 7), (191, .iconst 1), (192, .goto 4), (195, .iconst 0), (196, .invokevirtual 50), (199, .istore 6), (201, .aload_n 2), (202, .invokevirtual 51), (205, .iload 5), (207, .if_icmp .eq 5), (210, .iconst 0), (211, .ireturn), (212, .iload 5), (214, .ifCond .ne 22), (217, .aload_n 3), (218, .iconst 0), (219, .laload), (220, .iload 6), (222, .ifCond .eq 7), (225, .lconst 1), (226, .goto 4), (229, .lconst 0), (230, .lcmp), (231, .ifCond .eq 5)]
theorem px_d6_0 : ∀ q ∈ px_t6_0, decode cL_law q.1 = .ok (q.2, px_len q.1 q.2) := by decide +kernel
def px_t6_1 : List (Nat × Instr) := [(234, .iconst 0), (235, .ireturn), (236, .goto 607), (239, .aload_n 1), (240, .invokevirtual 55), (243, .aload_n 2), (244, .invokevirtual 58), (247, .if_icmp .eq 596), (250, .iconst 0), (251, .ireturn), (252, .aload_n 1), (253, .aload_n 0), (254, .iload 4), (256, .iconst 1), (257, .iadd), (258, .iaload), (259, .aload_n 0), (260, .iload 4), (262, .iconst 2), (263, .iadd), (264, .iaload), (265, .aload_n 0), (266, .iload 4), (268, .iconst 3), (269, .iadd), (270, .iaload), (271, .aload_n 3), (272, .invokestatic 59), (275, .istore 5), (277, .aload_n 2), (278, .aload_n 0), (279, .iload 4), (281, .iconst 1), (282, .iadd), (283, .iaload), (284, .aload_n 0), (285, .iload 4), (287, .iconst 2), (288, .iadd), (289, .iaload), (290, .aload_n 0), (291, .iload 4), (293, .iconst 3), (294, .iadd), (295, .iaload), (296, .invokevirtual 62), (299, .istore 6), (301, .aload_n 2), (302, .invokevirtual 51), (305, .iload 5), (307, .if_icmp .eq 5), (310, .iconst 0), (311, .ireturn), (312, .iload 5), (314, .ifCond .ne 22), (317, .aload_n 3), (318, .iconst 0), (319, .laload), (320, .iload 6), (322, .ifCond .eq 7), (325, .lconst 1), (326, .goto 4), (329, .lconst 0), (330, .lcmp), (331, .ifCond .eq 5), (334, .iconst 0), (335, .ireturn), (336, .goto 507), (339, .aload_n 1), (340, .aload_n 0), (341, .iload 4), (343, .iconst 1), (344, .iadd), (345, .iaload), (346, .aload_n 3), (347, .invokestatic 63), (350, .istore 5), (352, .aload_n 2), (353, .aload_n 0), (354, .iload 4), (356, .iconst 1), (357, .iadd), (358, .iaload), (359, .invokevirtual 66), (362, .istore 6), (364, .aload_n 2), (365, .invokevirtual 51), (368, .iload 5), (370, .if_icmp .eq 5), (373, .iconst 0), (374, .ireturn), (375, .iload 5), (377, .ifCond .ne 15), (380, .aload_n 3), (381, .iconst 0), (382, .laload), (383, .iload 6), (385, .i2l), (386, .lcmp), (387, .ifCond .eq 5)]
theorem px_d6_1 : ∀ q ∈ px_t6_1, decode cL_law q.1 = .ok (q.2, px_len q.1 q.2) := by decide +kernel
def px_t6_2 : List (Nat × Instr) := [(390, .iconst 0), (391, .ireturn), (392, .goto 451), (395, .aload_n 1), (396, .aload_n 0), (397, .iload 4), (399, .iconst 1), (400, .iadd), (401, .iaload), (402, .aload_n 0), (403, .iload 4), (405, .iconst 2), (406, .iadd), (407, .iaload), (408, .aload_n 0), (409, .iload 4), (411, .iconst 3), (412, .iadd), (413, .iaload), (414, .aload_n 3), (415, .invokestatic 67), (418, .istore 5), (420, .aload_n 2), (421, .aload_n 0), (422, .iload 4), (424, .iconst 1), (425, .iadd), (426, .iaload), (427, .aload_n 0), (428, .iload 4), (430, .iconst 2), (431, .iadd), (432, .iaload), (433, .aload_n 0), (434, .iload 4), (436, .iconst 3), (437, .iadd), (438, .iaload), (439, .invokevirtual 69), (442, .istore 6), (444, .aload_n 2), (445, .invokevirtual 51), (448, .iload 5), (450, .if_icmp .eq 5), (453, .iconst 0), (454, .ireturn), (455, .iload 5), (457, .ifCond .ne 15), (460, .aload_n 3), (461, .iconst 0), (462, .laload), (463, .iload 6), (465, .i2l), (466, .lcmp), (467, .ifCond .eq 5), (470, .iconst 0), (471, .ireturn), (472, .goto 371), (475, .aload_n 1), (476, .invokevirtual 70), (479, .aload_n 2), (480, .invokevirtual 74), (483, .if_icmp .eq 360), (486, .iconst 0), (487, .ireturn), (488, .aload_n 1), (489, .aload_n 0), (490, .iload 4), (492, .iconst 1), (493, .iadd), (494, .iaload), (495, .invokevirtual 75), (498, .aload_n 2), (499, .aload_n 0), (500, .iload 4), (502, .iconst 1), (503, .iadd), (504, .iaload), (505, .invokevirtual 78), (508, .if_icmp .eq 335), (511, .iconst 0), (512, .ireturn), (513, .aload_n 1), (514, .aload_n 0), (515, .iload 4), (517, .iconst 1), (518, .iadd), (519, .iaload), (520, .aload_n 0), (521, .iload 4), (523, .iconst 2), (524, .iadd), (525, .iaload), (526, .aload_n 3), (527, .invokestatic 79), (530, .istore 5), (532, .aload_n 2), (533, .aload_n 0), (534, .iload 4), (536, .iconst 1)]
theorem px_d6_2 : ∀ q ∈ px_t6_2, decode cL_law q.1 = .ok (q.2, px_len q.1 q.2) := by decide +kernel
def px_t6_3 : List (Nat × Instr) := [(537, .iadd), (538, .iaload), (539, .aload_n 0), (540, .iload 4), (542, .iconst 2), (543, .iadd), (544, .iaload), (545, .invokevirtual 82), (548, .istore 6), (550, .aload_n 2), (551, .invokevirtual 51), (554, .iload 5), (556, .if_icmp .eq 5), (559, .iconst 0), (560, .ireturn), (561, .iload 5), (563, .ifCond .ne 15), (566, .aload_n 3), (567, .iconst 0), (568, .laload), (569, .iload 6), (571, .i2l), (572, .lcmp), (573, .ifCond .eq 5), (576, .iconst 0), (577, .ireturn), (578, .goto 265), (581, .aload_n 1), (582, .aload_n 0), (583, .iload 4), (585, .iconst 1), (586, .iadd), (587, .iaload), (588, .invokevirtual 83), (591, .aload_n 2), (592, .aload_n 0), (593, .iload 4), (595, .iconst 1), (596, .iadd), (597, .iaload), (598, .invokevirtual 86), (601, .if_icmp .eq 242), (604, .iconst 0), (605, .ireturn), (606, .aload_n 1), (607, .aload_n 0), (608, .iload 4), (610, .iconst 1), (611, .iadd), (612, .iaload), (613, .aload_n 0), (614, .iload 4), (616, .iconst 2), (617, .iadd), (618, .iaload), (619, .aload_n 0), (620, .iload 4), (622, .iconst 3), (623, .iadd), (624, .iaload), (625, .aload_n 3), (626, .invokestatic 87), (629, .istore 5), (631, .aload_n 2), (632, .aload_n 0), (633, .iload 4), (635, .iconst 1), (636, .iadd), (637, .iaload), (638, .aload_n 0), (639, .iload 4), (641, .iconst 2), (642, .iadd), (643, .iaload), (644, .aload_n 0), (645, .iload 4), (647, .iconst 3), (648, .iadd), (649, .iaload), (650, .invokevirtual 89), (653, .istore 6), (655, .aload_n 2), (656, .invokevirtual 51), (659, .iload 5), (661, .if_icmp .eq 5), (664, .iconst 0), (665, .ireturn), (666, .iload 5), (668, .ifCond .ne 22), (671, .aload_n 3), (672, .iconst 0), (673, .laload), (674, .iload 6), (676, .ifCond .eq 7), (679, .lconst 1), (680, .goto 4), (683, .lconst 0), (684, .lcmp), (685, .ifCond .eq 5), (688, .iconst 0)]
theorem px_d6_3 : ∀ q ∈ px_t6_3, decode cL_law q.1 = .ok (q.2, px_len q.1 q.2) := by decide +kernel
def px_t6_4 : List (Nat × Instr) := [(689, .ireturn), (690, .goto 153), (693, .aload_n 1), (694, .invokevirtual 90), (697, .aload_n 2), (698, .invokevirtual 93), (701, .if_icmp .eq 142), (704, .iconst 0), (705, .ireturn), (706, .aload_n 1), (707, .aload_n 0), (708, .iload 4), (710, .iconst 1), (711, .iadd), (712, .iaload), (713, .invokevirtual 94), (716, .aload_n 2), (717, .aload_n 0), (718, .iload 4), (720, .iconst 1), (721, .iadd), (722, .iaload), (723, .invokevirtual 97), (726, .if_icmp .eq 117), (729, .iconst 0), (730, .ireturn), (731, .aload_n 1), (732, .aload_n 0), (733, .iload 4), (735, .iconst 1), (736, .iadd), (737, .iaload), (738, .invokevirtual 98), (741, .aload_n 2), (742, .aload_n 0), (743, .iload 4), (745, .iconst 1), (746, .iadd), (747, .iaload), (748, .invokevirtual 102), (751, .if_icmp .eq 92), (754, .iconst 0), (755, .ireturn), (756, .aload_n 1), (757, .aload_n 0), (758, .iload 4), (760, .iconst 1), (761, .iadd), (762, .iaload), (763, .invokevirtual 103), (766, .aload_n 2), (767, .aload_n 0), (768, .iload 4), (770, .iconst 1), (771, .iadd), (772, .iaload), (773, .invokevirtual 106), (776, .if_icmp .eq 67), (779, .iconst 0), (780, .ireturn), (781, .aload_n 1), (782, .aload_n 0), (783, .iload 4), (785, .iconst 1), (786, .iadd), (787, .iaload), (788, .invokevirtual 107), (791, .aload_n 2), (792, .aload_n 0), (793, .iload 4), (795, .iconst 1), (796, .iadd), (797, .iaload), (798, .invokevirtual 110), (801, .if_icmp .eq 42), (804, .iconst 0), (805, .ireturn), (806, .aload_n 1), (807, .aload_n 0), (808, .iload 4), (810, .iconst 1), (811, .iadd), (812, .iaload), (813, .aload_n 0), (814, .iload 4), (816, .iconst 2), (817, .iadd), (818, .iaload), (819, .invokevirtual 111), (822, .aload_n 2), (823, .aload_n 0), (824, .iload 4), (826, .iconst 1), (827, .iadd), (828, .iaload), (829, .aload_n 0), (830, .iload 4), (832, .iconst 2), (833, .iadd), (834, .iaload)]
theorem px_d6_4 : ∀ q ∈ px_t6_4, decode cL_law q.1 = .ok (q.2, px_len q.1 q.2) := by decide +kernel
def px_t6_5 : List (Nat × Instr) := [(835, .invokevirtual 114), (838, .if_icmp .eq 5), (841, .iconst 0), (842, .ireturn), (843, .iinc 4 4), (846, .goto (-803)), (849, .iconst 1), (850, .ireturn)]
theorem px_d6_5 : ∀ q ∈ px_t6_5, decode cL_law q.1 = .ok (q.2, px_len q.1 q.2) := by decide +kernel
set_option maxRecDepth 100000 in
theorem px_d6 : ∀ q ∈ px_t6, decode cL_law q.1 = .ok (q.2, px_len q.1 q.2) := by
  rw [show px_t6 = (px_t6_0 ++ (px_t6_1 ++ (px_t6_2 ++ (px_t6_3 ++ (px_t6_4 ++ px_t6_5))))) from rfl]
  exact List.forall_mem_append.mpr ⟨px_d6_0, List.forall_mem_append.mpr ⟨px_d6_1, List.forall_mem_append.mpr ⟨px_d6_2, List.forall_mem_append.mpr ⟨px_d6_3, List.forall_mem_append.mpr ⟨px_d6_4, px_d6_5⟩⟩⟩⟩⟩
theorem px_d7 : ∀ q ∈ px_t7, decode cL_own q.1 = .ok (q.2, px_len q.1 q.2) := by decide +kernel
theorem px_d8 : ∀ q ∈ px_t8, decode cL_placement q.1 = .ok (q.2, px_len q.1 q.2) := by decide +kernel
theorem px_d9 : ∀ q ∈ px_t9, decode cL_placements q.1 = .ok (q.2, px_len q.1 q.2) := by decide +kernel
theorem px_d10 : ∀ q ∈ px_t10, decode cL_square q.1 = .ok (q.2, px_len q.1 q.2) := by decide +kernel
theorem px_d11 : ∀ q ∈ px_t11, decode cL_weight q.1 = .ok (q.2, px_len q.1 q.2) := by decide +kernel
theorem px_d12 : ∀ q ∈ px_t12, decode cX0_add q.1 = .ok (q.2, px_len q.1 q.2) := by decide +kernel
theorem px_d13 : ∀ q ∈ px_t13, decode cX0_begin q.1 = .ok (q.2, px_len q.1 q.2) := by decide +kernel
theorem px_d14 : ∀ q ∈ px_t14, decode cX0_init q.1 = .ok (q.2, px_len q.1 q.2) := by decide +kernel
theorem px_d15 : ∀ q ∈ px_t15, decode cX0_inverse q.1 = .ok (q.2, px_len q.1 q.2) := by decide +kernel
theorem px_d16 : ∀ q ∈ px_t16, decode cX0_keepWork q.1 = .ok (q.2, px_len q.1 q.2) := by decide +kernel
theorem px_d17 : ∀ q ∈ px_t17, decode cX0_lastCellOfWork q.1 = .ok (q.2, px_len q.1 q.2) := by decide +kernel
theorem px_d18 : ∀ q ∈ px_t18, decode cX0_leastValue q.1 = .ok (q.2, px_len q.1 q.2) := by decide +kernel
theorem px_d19 : ∀ q ∈ px_t19, decode cX0_subtractRow q.1 = .ok (q.2, px_len q.1 q.2) := by decide +kernel
theorem px_d20 : ∀ q ∈ px_t20, decode cX1_cellsInCorner q.1 = .ok (q.2, px_len q.1 q.2) := by decide +kernel
theorem px_d21 : ∀ q ∈ px_t21, decode cX1_columnsOf q.1 = .ok (q.2, px_len q.1 q.2) := by decide +kernel
theorem px_d22 : ∀ q ∈ px_t22, decode cX1_findWays q.1 = .ok (q.2, px_len q.1 q.2) := by decide +kernel
theorem px_d23 : ∀ q ∈ px_t23, decode cX1_init q.1 = .ok (q.2, px_len q.1 q.2) := by decide +kernel
theorem px_d24 : ∀ q ∈ px_t24, decode cX1_insert q.1 = .ok (q.2, px_len q.1 q.2) := by decide +kernel
theorem px_d25 : ∀ q ∈ px_t25, decode cX1_keepWay q.1 = .ok (q.2, px_len q.1 q.2) := by decide +kernel
theorem px_d26 : ∀ q ∈ px_t26, decode cX1_placeWay q.1 = .ok (q.2, px_len q.1 q.2) := by decide +kernel
theorem px_d27 : ∀ q ∈ px_t27, decode cX1_prepare q.1 = .ok (q.2, px_len q.1 q.2) := by decide +kernel
theorem px_d28 : ∀ q ∈ px_t28, decode cX1_pushedToCorner q.1 = .ok (q.2, px_len q.1 q.2) := by decide +kernel
theorem px_d29 : ∀ q ∈ px_t29, decode cX1_quarterTurned q.1 = .ok (q.2, px_len q.1 q.2) := by decide +kernel
theorem px_d30 : ∀ q ∈ px_t30, decode cX1_rowsOf q.1 = .ok (q.2, px_len q.1 q.2) := by decide +kernel
theorem px_d31 : ∀ q ∈ px_t31, decode cX1_size q.1 = .ok (q.2, px_len q.1 q.2) := by decide +kernel
theorem px_d32 : ∀ q ∈ px_t32, decode cX1_take q.1 = .ok (q.2, px_len q.1 q.2) := by decide +kernel
theorem px_d33 : ∀ q ∈ px_t33, decode cX1_turnedOver q.1 = .ok (q.2, px_len q.1 q.2) := by decide +kernel
theorem px_d34 : ∀ q ∈ px_t34, decode cX2_fold q.1 = .ok (q.2, px_len q.1 q.2) := by decide +kernel
theorem px_d35 : ∀ q ∈ px_t35, decode cX2_foldLetter q.1 = .ok (q.2, px_len q.1 q.2) := by decide +kernel
theorem px_d36 : ∀ q ∈ px_t36, decode cX2_follow q.1 = .ok (q.2, px_len q.1 q.2) := by decide +kernel
theorem px_d37 : ∀ q ∈ px_t37, decode cX2_has q.1 = .ok (q.2, px_len q.1 q.2) := by decide +kernel
theorem px_d38 : ∀ q ∈ px_t38, decode cX2_init q.1 = .ok (q.2, px_len q.1 q.2) := by decide +kernel
theorem px_d39 : ∀ q ∈ px_t39, decode cX2_mayGo q.1 = .ok (q.2, px_len q.1 q.2) := by decide +kernel
theorem px_d40 : ∀ q ∈ px_t40, decode cX2_nextLetter q.1 = .ok (q.2, px_len q.1 q.2) := by decide +kernel
theorem px_d41 : ∀ q ∈ px_t41, decode cX2_pushRun q.1 = .ok (q.2, px_len q.1 q.2) := by decide +kernel
theorem px_d42 : ∀ q ∈ px_t42, decode cX2_trace q.1 = .ok (q.2, px_len q.1 q.2) := by decide +kernel
theorem px_d43 : ∀ q ∈ px_t43, decode cX3_addPlacementSums q.1 = .ok (q.2, px_len q.1 q.2) := by decide +kernel
theorem px_d44 : ∀ q ∈ px_t44, decode cX3_bad q.1 = .ok (q.2, px_len q.1 q.2) := by decide +kernel
theorem px_d45 : ∀ q ∈ px_t45, decode cX3_border q.1 = .ok (q.2, px_len q.1 q.2) := by decide +kernel
theorem px_d46 : ∀ q ∈ px_t46, decode cX3_cell q.1 = .ok (q.2, px_len q.1 q.2) := by decide +kernel
theorem px_d47 : ∀ q ∈ px_t47, decode cX3_cellOfSet q.1 = .ok (q.2, px_len q.1 q.2) := by decide +kernel
theorem px_d48 : ∀ q ∈ px_t48, decode cX3_colour q.1 = .ok (q.2, px_len q.1 q.2) := by decide +kernel
theorem px_d49 : ∀ q ∈ px_t49, decode cX3_formOf q.1 = .ok (q.2, px_len q.1 q.2) := by decide +kernel
theorem px_d50 : ∀ q ∈ px_t50, decode cX3_inShape q.1 = .ok (q.2, px_len q.1 q.2) := by decide +kernel
theorem px_d51 : ∀ q ∈ px_t51, decode cX3_init q.1 = .ok (q.2, px_len q.1 q.2) := by decide +kernel
theorem px_d52 : ∀ q ∈ px_t52, decode cX3_isColourPrime q.1 = .ok (q.2, px_len q.1 q.2) := by decide +kernel
theorem px_d53 : ∀ q ∈ px_t53, decode cX3_numberOfCell q.1 = .ok (q.2, px_len q.1 q.2) := by decide +kernel
theorem px_d54 : ∀ q ∈ px_t54, decode cX3_own q.1 = .ok (q.2, px_len q.1 q.2) := by decide +kernel
theorem px_d55 : ∀ q ∈ px_t55, decode cX3_ownOver q.1 = .ok (q.2, px_len q.1 q.2) := by decide +kernel
theorem px_d56 : ∀ q ∈ px_t56, decode cX3_piece q.1 = .ok (q.2, px_len q.1 q.2) := by decide +kernel
theorem px_d57 : ∀ q ∈ px_t57, decode cX3_placement q.1 = .ok (q.2, px_len q.1 q.2) := by decide +kernel
theorem px_d58 : ∀ q ∈ px_t58, decode cX3_placements q.1 = .ok (q.2, px_len q.1 q.2) := by decide +kernel
theorem px_d59 : ∀ q ∈ px_t59, decode cX3_proves q.1 = .ok (q.2, px_len q.1 q.2) := by decide +kernel
theorem px_d60 : ∀ q ∈ px_t60, decode cX3_reachable q.1 = .ok (q.2, px_len q.1 q.2) := by decide +kernel
theorem px_d61 : ∀ q ∈ px_t61, decode cX3_run q.1 = .ok (q.2, px_len q.1 q.2) := by decide +kernel
theorem px_d62 : ∀ q ∈ px_t62, decode cX3_runs q.1 = .ok (q.2, px_len q.1 q.2) := by decide +kernel
theorem px_d63 : ∀ q ∈ px_t63, decode cX3_sizes q.1 = .ok (q.2, px_len q.1 q.2) := by decide +kernel
theorem px_d64 : ∀ q ∈ px_t64, decode cX3_square q.1 = .ok (q.2, px_len q.1 q.2) := by decide +kernel
theorem px_d65 : ∀ q ∈ px_t65, decode cX3_sum q.1 = .ok (q.2, px_len q.1 q.2) := by decide +kernel
theorem px_d66 : ∀ q ∈ px_t66, decode cX3_text q.1 = .ok (q.2, px_len q.1 q.2) := by decide +kernel
theorem px_d67 : ∀ q ∈ px_t67, decode cX3_weight q.1 = .ok (q.2, px_len q.1 q.2) := by decide +kernel
theorem px_d68 : ∀ q ∈ px_t68, decode cX4_addPlace q.1 = .ok (q.2, px_len q.1 q.2) := by decide +kernel
theorem px_d69 : ∀ q ∈ px_t69, decode cX4_bad q.1 = .ok (q.2, px_len q.1 q.2) := by decide +kernel
theorem px_d70 : ∀ q ∈ px_t70, decode cX4_border q.1 = .ok (q.2, px_len q.1 q.2) := by decide +kernel
theorem px_d71 : ∀ q ∈ px_t71, decode cX4_cell q.1 = .ok (q.2, px_len q.1 q.2) := by decide +kernel
theorem px_d72 : ∀ q ∈ px_t72, decode cX4_cells q.1 = .ok (q.2, px_len q.1 q.2) := by decide +kernel
theorem px_d73 : ∀ q ∈ px_t73, decode cX4_colour q.1 = .ok (q.2, px_len q.1 q.2) := by decide +kernel
theorem px_d74 : ∀ q ∈ px_t74, decode cX4_countBad q.1 = .ok (q.2, px_len q.1 q.2) := by decide +kernel
theorem px_d75 : ∀ q ∈ px_t75, decode cX4_equations q.1 = .ok (q.2, px_len q.1 q.2) := by decide +kernel
theorem px_d76 : ∀ q ∈ px_t76, decode cX4_init q.1 = .ok (q.2, px_len q.1 q.2) := by decide +kernel
theorem px_d77 : ∀ q ∈ px_t77, decode cX4_inverse q.1 = .ok (q.2, px_len q.1 q.2) := by decide +kernel
theorem px_d78 : ∀ q ∈ px_t78, decode cX4_isCell q.1 = .ok (q.2, px_len q.1 q.2) := by decide +kernel
theorem px_d79 : ∀ q ∈ px_t79, decode cX4_isPiece q.1 = .ok (q.2, px_len q.1 q.2) := by decide +kernel
theorem px_d80 : ∀ q ∈ px_t80, decode cX4_isSide q.1 = .ok (q.2, px_len q.1 q.2) := by decide +kernel
theorem px_d81 : ∀ q ∈ px_t81, decode cX4_isThere q.1 = .ok (q.2, px_len q.1 q.2) := by decide +kernel
theorem px_d82 : ∀ q ∈ px_t82, decode cX4_keep q.1 = .ok (q.2, px_len q.1 q.2) := by decide +kernel
theorem px_d83 : ∀ q ∈ px_t83, decode cX4_own q.1 = .ok (q.2, px_len q.1 q.2) := by decide +kernel
theorem px_d84 : ∀ q ∈ px_t84, decode cX4_piece q.1 = .ok (q.2, px_len q.1 q.2) := by decide +kernel
theorem px_d85 : ∀ q ∈ px_t85, decode cX4_place q.1 = .ok (q.2, px_len q.1 q.2) := by decide +kernel
theorem px_d86 : ∀ q ∈ px_t86, decode cX4_placement q.1 = .ok (q.2, px_len q.1 q.2) := by decide +kernel
theorem px_d87 : ∀ q ∈ px_t87, decode cX4_placements q.1 = .ok (q.2, px_len q.1 q.2) := by decide +kernel
theorem px_d88 : ∀ q ∈ px_t88, decode cX4_proves q.1 = .ok (q.2, px_len q.1 q.2) := by decide +kernel
theorem px_d89 : ∀ q ∈ px_t89, decode cX4_run q.1 = .ok (q.2, px_len q.1 q.2) := by decide +kernel
theorem px_d90 : ∀ q ∈ px_t90, decode cX4_runs q.1 = .ok (q.2, px_len q.1 q.2) := by decide +kernel
theorem px_d91 : ∀ q ∈ px_t91, decode cX4_setOf q.1 = .ok (q.2, px_len q.1 q.2) := by decide +kernel
theorem px_d92 : ∀ q ∈ px_t92, decode cX4_size q.1 = .ok (q.2, px_len q.1 q.2) := by decide +kernel
theorem px_d93 : ∀ q ∈ px_t93, decode cX4_sizes q.1 = .ok (q.2, px_len q.1 q.2) := by decide +kernel
theorem px_d94 : ∀ q ∈ px_t94, decode cX4_square q.1 = .ok (q.2, px_len q.1 q.2) := by decide +kernel
theorem px_d95 : ∀ q ∈ px_t95, decode cX4_sum q.1 = .ok (q.2, px_len q.1 q.2) := by decide +kernel
theorem px_d96 : ∀ q ∈ px_t96, decode cX4_sumOver q.1 = .ok (q.2, px_len q.1 q.2) := by decide +kernel
theorem px_d97 : ∀ q ∈ px_t97, decode cX4_takeRuns q.1 = .ok (q.2, px_len q.1 q.2) := by decide +kernel
theorem px_d98 : ∀ q ∈ px_t98, decode cX4_text q.1 = .ok (q.2, px_len q.1 q.2) := by decide +kernel
theorem px_d99 : ∀ q ∈ px_t99, decode cX4_thrown q.1 = .ok (q.2, px_len q.1 q.2) := by decide +kernel
theorem px_d100 : ∀ q ∈ px_t100, decode cX4_throwsIf q.1 = .ok (q.2, px_len q.1 q.2) := by decide +kernel
theorem px_d101 : ∀ q ∈ px_t101, decode cX4_walk q.1 = .ok (q.2, px_len q.1 q.2) := by decide +kernel
theorem px_d102 : ∀ q ∈ px_t102, decode cX4_weight q.1 = .ok (q.2, px_len q.1 q.2) := by decide +kernel
theorem px_dec : ∀ (j : Nat) (q : Nat × Instr), q ∈ px_tab j → decode (px_c j) q.1 = .ok (q.2, px_len q.1 q.2)
  | 0, q, h => px_d0 q h
  | 1, q, h => px_d1 q h
  | 2, q, h => px_d2 q h
  | 3, q, h => px_d3 q h
  | 4, q, h => px_d4 q h
  | 5, q, h => px_d5 q h
  | 6, q, h => px_d6 q h
  | 7, q, h => px_d7 q h
  | 8, q, h => px_d8 q h
  | 9, q, h => px_d9 q h
  | 10, q, h => px_d10 q h
  | 11, q, h => px_d11 q h
  | 12, q, h => px_d12 q h
  | 13, q, h => px_d13 q h
  | 14, q, h => px_d14 q h
  | 15, q, h => px_d15 q h
  | 16, q, h => px_d16 q h
  | 17, q, h => px_d17 q h
  | 18, q, h => px_d18 q h
  | 19, q, h => px_d19 q h
  | 20, q, h => px_d20 q h
  | 21, q, h => px_d21 q h
  | 22, q, h => px_d22 q h
  | 23, q, h => px_d23 q h
  | 24, q, h => px_d24 q h
  | 25, q, h => px_d25 q h
  | 26, q, h => px_d26 q h
  | 27, q, h => px_d27 q h
  | 28, q, h => px_d28 q h
  | 29, q, h => px_d29 q h
  | 30, q, h => px_d30 q h
  | 31, q, h => px_d31 q h
  | 32, q, h => px_d32 q h
  | 33, q, h => px_d33 q h
  | 34, q, h => px_d34 q h
  | 35, q, h => px_d35 q h
  | 36, q, h => px_d36 q h
  | 37, q, h => px_d37 q h
  | 38, q, h => px_d38 q h
  | 39, q, h => px_d39 q h
  | 40, q, h => px_d40 q h
  | 41, q, h => px_d41 q h
  | 42, q, h => px_d42 q h
  | 43, q, h => px_d43 q h
  | 44, q, h => px_d44 q h
  | 45, q, h => px_d45 q h
  | 46, q, h => px_d46 q h
  | 47, q, h => px_d47 q h
  | 48, q, h => px_d48 q h
  | 49, q, h => px_d49 q h
  | 50, q, h => px_d50 q h
  | 51, q, h => px_d51 q h
  | 52, q, h => px_d52 q h
  | 53, q, h => px_d53 q h
  | 54, q, h => px_d54 q h
  | 55, q, h => px_d55 q h
  | 56, q, h => px_d56 q h
  | 57, q, h => px_d57 q h
  | 58, q, h => px_d58 q h
  | 59, q, h => px_d59 q h
  | 60, q, h => px_d60 q h
  | 61, q, h => px_d61 q h
  | 62, q, h => px_d62 q h
  | 63, q, h => px_d63 q h
  | 64, q, h => px_d64 q h
  | 65, q, h => px_d65 q h
  | 66, q, h => px_d66 q h
  | 67, q, h => px_d67 q h
  | 68, q, h => px_d68 q h
  | 69, q, h => px_d69 q h
  | 70, q, h => px_d70 q h
  | 71, q, h => px_d71 q h
  | 72, q, h => px_d72 q h
  | 73, q, h => px_d73 q h
  | 74, q, h => px_d74 q h
  | 75, q, h => px_d75 q h
  | 76, q, h => px_d76 q h
  | 77, q, h => px_d77 q h
  | 78, q, h => px_d78 q h
  | 79, q, h => px_d79 q h
  | 80, q, h => px_d80 q h
  | 81, q, h => px_d81 q h
  | 82, q, h => px_d82 q h
  | 83, q, h => px_d83 q h
  | 84, q, h => px_d84 q h
  | 85, q, h => px_d85 q h
  | 86, q, h => px_d86 q h
  | 87, q, h => px_d87 q h
  | 88, q, h => px_d88 q h
  | 89, q, h => px_d89 q h
  | 90, q, h => px_d90 q h
  | 91, q, h => px_d91 q h
  | 92, q, h => px_d92 q h
  | 93, q, h => px_d93 q h
  | 94, q, h => px_d94 q h
  | 95, q, h => px_d95 q h
  | 96, q, h => px_d96 q h
  | 97, q, h => px_d97 q h
  | 98, q, h => px_d98 q h
  | 99, q, h => px_d99 q h
  | 100, q, h => px_d100 q h
  | 101, q, h => px_d101 q h
  | 102, q, h => px_d102 q h
  | n + 103, q, h => nomatch h
