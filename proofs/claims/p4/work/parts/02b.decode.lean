theorem px_d0 : ∀ q ∈ px_t0, decode cJ13_bitCount_95d88 q.1 = .ok (q.2, px_len q.1 q.2) := by decide +kernel
theorem px_d1 : ∀ q ∈ px_t1, decode cJ6_bitCount_0f7a4 q.1 = .ok (q.2, px_len q.1 q.2) := by decide +kernel
theorem px_d2 : ∀ q ∈ px_t2, decode cJ9_max_7cf53 q.1 = .ok (q.2, px_len q.1 q.2) := by decide +kernel
theorem px_d3 : ∀ q ∈ px_t3, decode cJ9_min_7cf53 q.1 = .ok (q.2, px_len q.1 q.2) := by decide +kernel
theorem px_d4 : ∀ q ∈ px_t4, decode cL_cell q.1 = .ok (q.2, px_len q.1 q.2) := by decide +kernel
theorem px_d5 : ∀ q ∈ px_t5, decode cL_cell_ q.1 = .ok (q.2, px_len q.1 q.2) := by decide +kernel
def px_t6_0 : List (Nat × Instr) := [(0, .new 8), (3, .dup), (4, .aload_n 0), (5, .iconst 0), (6, .invokestatic 36), (9, .aload_n 0), (10, .iconst 1), (11, .invokestatic 36), (14, .invokespecial 41), (17, .astore_n 1), (18, .new 44), (21, .dup), (22, .aload_n 0), (23, .iconst 0), (24, .invokestatic 36), (27, .aload_n 0), (28, .iconst 1), (29, .invokestatic 36), (32, .invokespecial 46), (35, .astore_n 2), (36, .iconst 1), (37, .newarray .long), (39, .astore_n 3), (40, .iconst 2), (41, .istore 4), (43, .iload 4), (45, .aload_n 0), (46, .arraylength), (47, .iconst 4), (48, .isub), (49, .if_icmp .gt 646), (52, .aload_n 0), (53, .iload 4), (55, .iaload), (56, .bipush 15), (58, .iand), (59, .tableswitch 630 0 15 #[77, 145, 158, 245, 273, 325, 338, 363, 403, 428, 480, 493, 518, 543, 568, 593]), (136, .aload_n 1), (137, .aload_n 0), (138, .iload 4), (140, .iconst 1), (141, .iadd), (142, .iaload), (143, .aload_n 0), (144, .iload 4), (146, .iconst 2), (147, .iadd), (148, .iaload), (149, .aload_n 0), (150, .iload 4), (152, .iconst 3), (153, .iadd), (154, .iaload), (155, .ifCond .eq 7), (158, .iconst 1), (159, .goto 4), (162, .iconst 0), (163, .aload_n 3), (164, .invokestatic 47), (167, .istore 5), (169, .aload_n 2), (170, .aload_n 0), (171, .iload 4), (173, .iconst 1), (174, .iadd), (175, .iaload), (176, .aload_n 0), (177, .iload 4), (179, .iconst 2), (180, .iadd), (181, .iaload), (182, .aload_n 0), (183, .iload 4), (185, .iconst 3), (186, .iadd), (187, .iaload), (188, .ifCond .eq 7), (191, .iconst 1), (192, .goto 4), (195, .iconst 0), (196, .invokevirtual 50), (199, .istore 6), (201, .goto 488), (204, .aload_n 1), (205, .invokevirtual 51), (208, .pop), (209, .aload_n 2), (210, .invokevirtual 55), (213, .pop), (214, .goto 475), (217, .aload_n 1), (218, .aload_n 0), (219, .iload 4), (221, .iconst 1), (222, .iadd), (223, .iaload), (224, .aload_n 0), (225, .iload 4), (227, .iconst 2), (228, .iadd)]
theorem px_d6_0 : ∀ q ∈ px_t6_0, decode cL_law q.1 = .ok (q.2, px_len q.1 q.2) := by decide +kernel
def px_t6_1 : List (Nat × Instr) := [(229, .iaload), (230, .aload_n 0), (231, .iload 4), (233, .iconst 3), (234, .iadd), (235, .iaload), (236, .aload_n 3), (237, .invokestatic 56), (240, .istore 5), (242, .aload_n 2), (243, .aload_n 0), (244, .iload 4), (246, .iconst 1), (247, .iadd), (248, .iaload), (249, .aload_n 0), (250, .iload 4), (252, .iconst 2), (253, .iadd), (254, .iaload), (255, .aload_n 0), (256, .iload 4), (258, .iconst 3), (259, .iadd), (260, .iaload), (261, .invokevirtual 59), (264, .istore 6), (266, .aload_n 2), (267, .invokevirtual 60), (270, .iload 5), (272, .if_icmp .eq 5), (275, .iconst 0), (276, .ireturn), (277, .iload 5), (279, .ifCond .ne 22), (282, .aload_n 3), (283, .iconst 0), (284, .laload), (285, .iload 6), (287, .ifCond .eq 7), (290, .lconst 1), (291, .goto 4), (294, .lconst 0), (295, .lcmp), (296, .ifCond .eq 5), (299, .iconst 0), (300, .ireturn), (301, .goto 388), (304, .aload_n 1), (305, .aload_n 0), (306, .iload 4), (308, .iconst 1), (309, .iadd), (310, .iaload), (311, .aload_n 3), (312, .invokestatic 63), (315, .istore 5), (317, .aload_n 2), (318, .aload_n 0), (319, .iload 4), (321, .iconst 1), (322, .iadd), (323, .iaload), (324, .invokevirtual 66), (327, .istore 6), (329, .goto 360), (332, .aload_n 1), (333, .aload_n 0), (334, .iload 4), (336, .iconst 1), (337, .iadd), (338, .iaload), (339, .aload_n 0), (340, .iload 4), (342, .iconst 2), (343, .iadd), (344, .iaload), (345, .aload_n 0), (346, .iload 4), (348, .iconst 3), (349, .iadd), (350, .iaload), (351, .aload_n 3), (352, .invokestatic 67), (355, .istore 5), (357, .aload_n 2), (358, .aload_n 0), (359, .iload 4), (361, .iconst 1), (362, .iadd), (363, .iaload), (364, .aload_n 0), (365, .iload 4), (367, .iconst 2), (368, .iadd), (369, .iaload), (370, .aload_n 0), (371, .iload 4), (373, .iconst 3), (374, .iadd)]
theorem px_d6_1 : ∀ q ∈ px_t6_1, decode cL_law q.1 = .ok (q.2, px_len q.1 q.2) := by decide +kernel
def px_t6_2 : List (Nat × Instr) := [(375, .iaload), (376, .invokevirtual 69), (379, .istore 6), (381, .goto 308), (384, .aload_n 1), (385, .invokevirtual 70), (388, .pop), (389, .aload_n 2), (390, .invokevirtual 74), (393, .pop), (394, .goto 295), (397, .aload_n 1), (398, .aload_n 0), (399, .iload 4), (401, .iconst 1), (402, .iadd), (403, .iaload), (404, .invokevirtual 75), (407, .pop), (408, .aload_n 2), (409, .aload_n 0), (410, .iload 4), (412, .iconst 1), (413, .iadd), (414, .iaload), (415, .invokevirtual 78), (418, .pop), (419, .goto 270), (422, .aload_n 1), (423, .aload_n 0), (424, .iload 4), (426, .iconst 1), (427, .iadd), (428, .iaload), (429, .aload_n 0), (430, .iload 4), (432, .iconst 2), (433, .iadd), (434, .iaload), (435, .aload_n 3), (436, .invokestatic 79), (439, .istore 5), (441, .aload_n 2), (442, .aload_n 0), (443, .iload 4), (445, .iconst 1), (446, .iadd), (447, .iaload), (448, .aload_n 0), (449, .iload 4), (451, .iconst 2), (452, .iadd), (453, .iaload), (454, .invokevirtual 82), (457, .istore 6), (459, .goto 230), (462, .aload_n 1), (463, .aload_n 0), (464, .iload 4), (466, .iconst 1), (467, .iadd), (468, .iaload), (469, .invokevirtual 83), (472, .pop), (473, .aload_n 2), (474, .aload_n 0), (475, .iload 4), (477, .iconst 1), (478, .iadd), (479, .iaload), (480, .invokevirtual 86), (483, .pop), (484, .goto 205), (487, .aload_n 1), (488, .aload_n 0), (489, .iload 4), (491, .iconst 1), (492, .iadd), (493, .iaload), (494, .aload_n 0), (495, .iload 4), (497, .iconst 2), (498, .iadd), (499, .iaload), (500, .aload_n 0), (501, .iload 4), (503, .iconst 3), (504, .iadd), (505, .iaload), (506, .aload_n 3), (507, .invokestatic 87), (510, .istore 5), (512, .aload_n 2), (513, .aload_n 0), (514, .iload 4), (516, .iconst 1), (517, .iadd), (518, .iaload), (519, .aload_n 0), (520, .iload 4)]
theorem px_d6_2 : ∀ q ∈ px_t6_2, decode cL_law q.1 = .ok (q.2, px_len q.1 q.2) := by decide +kernel
def px_t6_3 : List (Nat × Instr) := [(522, .iconst 2), (523, .iadd), (524, .iaload), (525, .aload_n 0), (526, .iload 4), (528, .iconst 3), (529, .iadd), (530, .iaload), (531, .invokevirtual 89), (534, .istore 6), (536, .goto 153), (539, .aload_n 1), (540, .invokevirtual 90), (543, .pop), (544, .aload_n 2), (545, .invokevirtual 93), (548, .pop), (549, .goto 140), (552, .aload_n 1), (553, .aload_n 0), (554, .iload 4), (556, .iconst 1), (557, .iadd), (558, .iaload), (559, .invokevirtual 94), (562, .pop), (563, .aload_n 2), (564, .aload_n 0), (565, .iload 4), (567, .iconst 1), (568, .iadd), (569, .iaload), (570, .invokevirtual 97), (573, .pop), (574, .goto 115), (577, .aload_n 1), (578, .aload_n 0), (579, .iload 4), (581, .iconst 1), (582, .iadd), (583, .iaload), (584, .invokevirtual 98), (587, .pop), (588, .aload_n 2), (589, .aload_n 0), (590, .iload 4), (592, .iconst 1), (593, .iadd), (594, .iaload), (595, .invokevirtual 102), (598, .pop), (599, .goto 90), (602, .aload_n 1), (603, .aload_n 0), (604, .iload 4), (606, .iconst 1), (607, .iadd), (608, .iaload), (609, .invokevirtual 103), (612, .pop), (613, .aload_n 2), (614, .aload_n 0), (615, .iload 4), (617, .iconst 1), (618, .iadd), (619, .iaload), (620, .invokevirtual 106), (623, .pop), (624, .goto 65), (627, .aload_n 1), (628, .aload_n 0), (629, .iload 4), (631, .iconst 1), (632, .iadd), (633, .iaload), (634, .invokevirtual 107), (637, .pop), (638, .aload_n 2), (639, .aload_n 0), (640, .iload 4), (642, .iconst 1), (643, .iadd), (644, .iaload), (645, .invokevirtual 110), (648, .pop), (649, .goto 40), (652, .aload_n 1), (653, .aload_n 0), (654, .iload 4), (656, .iconst 1), (657, .iadd), (658, .iaload), (659, .aload_n 0), (660, .iload 4), (662, .iconst 2), (663, .iadd), (664, .iaload), (665, .invokevirtual 111), (668, .pop), (669, .aload_n 2)]
theorem px_d6_3 : ∀ q ∈ px_t6_3, decode cL_law q.1 = .ok (q.2, px_len q.1 q.2) := by decide +kernel
def px_t6_4 : List (Nat × Instr) := [(670, .aload_n 0), (671, .iload 4), (673, .iconst 1), (674, .iadd), (675, .iaload), (676, .aload_n 0), (677, .iload 4), (679, .iconst 2), (680, .iadd), (681, .iaload), (682, .invokevirtual 114), (685, .pop), (686, .goto 3), (689, .iinc 4 4), (692, .goto (-649)), (695, .iconst 1), (696, .ireturn)]
theorem px_d6_4 : ∀ q ∈ px_t6_4, decode cL_law q.1 = .ok (q.2, px_len q.1 q.2) := by decide +kernel
set_option maxRecDepth 100000 in
theorem px_d6 : ∀ q ∈ px_t6, decode cL_law q.1 = .ok (q.2, px_len q.1 q.2) := by
  rw [show px_t6 = (px_t6_0 ++ (px_t6_1 ++ (px_t6_2 ++ (px_t6_3 ++ px_t6_4)))) from rfl]
  exact List.forall_mem_append.mpr ⟨px_d6_0, List.forall_mem_append.mpr ⟨px_d6_1, List.forall_mem_append.mpr ⟨px_d6_2, List.forall_mem_append.mpr ⟨px_d6_3, px_d6_4⟩⟩⟩⟩
theorem px_d7 : ∀ q ∈ px_t7, decode cL_own q.1 = .ok (q.2, px_len q.1 q.2) := by decide +kernel
theorem px_d8 : ∀ q ∈ px_t8, decode cL_placement q.1 = .ok (q.2, px_len q.1 q.2) := by decide +kernel
theorem px_d9 : ∀ q ∈ px_t9, decode cL_placements q.1 = .ok (q.2, px_len q.1 q.2) := by decide +kernel
theorem px_d10 : ∀ q ∈ px_t10, decode cL_square q.1 = .ok (q.2, px_len q.1 q.2) := by decide +kernel
theorem px_d11 : ∀ q ∈ px_t11, decode cL_weight q.1 = .ok (q.2, px_len q.1 q.2) := by decide +kernel
theorem px_d12 : ∀ q ∈ px_t12, decode cX0_add q.1 = .ok (q.2, px_len q.1 q.2) := by decide +kernel
theorem px_d13 : ∀ q ∈ px_t13, decode cX0_begin q.1 = .ok (q.2, px_len q.1 q.2) := by decide +kernel
theorem px_d14 : ∀ q ∈ px_t14, decode cX0_init q.1 = .ok (q.2, px_len q.1 q.2) := by decide +kernel
theorem px_d15 : ∀ q ∈ px_t15, decode cX0_inverse q.1 = .ok (q.2, px_len q.1 q.2) := by decide +kernel
theorem px_d16 : ∀ q ∈ px_t16, decode cX0_keepWork q.1 = .ok (q.2, px_len q.1 q.2) := by decide +kernel
theorem px_d17 : ∀ q ∈ px_t17, decode cX0_lastCellOfWork q.1 = .ok (q.2, px_len q.1 q.2) := by decide +kernel
theorem px_d18 : ∀ q ∈ px_t18, decode cX0_leastValue q.1 = .ok (q.2, px_len q.1 q.2) := by decide +kernel
theorem px_d19 : ∀ q ∈ px_t19, decode cX0_subtractRow q.1 = .ok (q.2, px_len q.1 q.2) := by decide +kernel
theorem px_d20 : ∀ q ∈ px_t20, decode cX1_cellsInCorner q.1 = .ok (q.2, px_len q.1 q.2) := by decide +kernel
theorem px_d21 : ∀ q ∈ px_t21, decode cX1_columnsOf q.1 = .ok (q.2, px_len q.1 q.2) := by decide +kernel
theorem px_d22 : ∀ q ∈ px_t22, decode cX1_findWays q.1 = .ok (q.2, px_len q.1 q.2) := by decide +kernel
theorem px_d23 : ∀ q ∈ px_t23, decode cX1_init q.1 = .ok (q.2, px_len q.1 q.2) := by decide +kernel
theorem px_d24 : ∀ q ∈ px_t24, decode cX1_insert q.1 = .ok (q.2, px_len q.1 q.2) := by decide +kernel
theorem px_d25 : ∀ q ∈ px_t25, decode cX1_keepWay q.1 = .ok (q.2, px_len q.1 q.2) := by decide +kernel
theorem px_d26 : ∀ q ∈ px_t26, decode cX1_placeWay q.1 = .ok (q.2, px_len q.1 q.2) := by decide +kernel
theorem px_d27 : ∀ q ∈ px_t27, decode cX1_prepare q.1 = .ok (q.2, px_len q.1 q.2) := by decide +kernel
theorem px_d28 : ∀ q ∈ px_t28, decode cX1_pushedToCorner q.1 = .ok (q.2, px_len q.1 q.2) := by decide +kernel
theorem px_d29 : ∀ q ∈ px_t29, decode cX1_quarterTurned q.1 = .ok (q.2, px_len q.1 q.2) := by decide +kernel
theorem px_d30 : ∀ q ∈ px_t30, decode cX1_rowsOf q.1 = .ok (q.2, px_len q.1 q.2) := by decide +kernel
theorem px_d31 : ∀ q ∈ px_t31, decode cX1_size q.1 = .ok (q.2, px_len q.1 q.2) := by decide +kernel
theorem px_d32 : ∀ q ∈ px_t32, decode cX1_take q.1 = .ok (q.2, px_len q.1 q.2) := by decide +kernel
theorem px_d33 : ∀ q ∈ px_t33, decode cX1_turnedOver q.1 = .ok (q.2, px_len q.1 q.2) := by decide +kernel
theorem px_d34 : ∀ q ∈ px_t34, decode cX2_fold q.1 = .ok (q.2, px_len q.1 q.2) := by decide +kernel
theorem px_d35 : ∀ q ∈ px_t35, decode cX2_foldLetter q.1 = .ok (q.2, px_len q.1 q.2) := by decide +kernel
theorem px_d36 : ∀ q ∈ px_t36, decode cX2_follow q.1 = .ok (q.2, px_len q.1 q.2) := by decide +kernel
theorem px_d37 : ∀ q ∈ px_t37, decode cX2_has q.1 = .ok (q.2, px_len q.1 q.2) := by decide +kernel
theorem px_d38 : ∀ q ∈ px_t38, decode cX2_init q.1 = .ok (q.2, px_len q.1 q.2) := by decide +kernel
theorem px_d39 : ∀ q ∈ px_t39, decode cX2_mayGo q.1 = .ok (q.2, px_len q.1 q.2) := by decide +kernel
theorem px_d40 : ∀ q ∈ px_t40, decode cX2_nextLetter q.1 = .ok (q.2, px_len q.1 q.2) := by decide +kernel
theorem px_d41 : ∀ q ∈ px_t41, decode cX2_pushRun q.1 = .ok (q.2, px_len q.1 q.2) := by decide +kernel
theorem px_d42 : ∀ q ∈ px_t42, decode cX2_trace q.1 = .ok (q.2, px_len q.1 q.2) := by decide +kernel
theorem px_d43 : ∀ q ∈ px_t43, decode cX3_addPlacementSums q.1 = .ok (q.2, px_len q.1 q.2) := by decide +kernel
theorem px_d44 : ∀ q ∈ px_t44, decode cX3_bad q.1 = .ok (q.2, px_len q.1 q.2) := by decide +kernel
theorem px_d45 : ∀ q ∈ px_t45, decode cX3_border q.1 = .ok (q.2, px_len q.1 q.2) := by decide +kernel
theorem px_d46 : ∀ q ∈ px_t46, decode cX3_cell q.1 = .ok (q.2, px_len q.1 q.2) := by decide +kernel
theorem px_d47 : ∀ q ∈ px_t47, decode cX3_cellOfSet q.1 = .ok (q.2, px_len q.1 q.2) := by decide +kernel
theorem px_d48 : ∀ q ∈ px_t48, decode cX3_colour q.1 = .ok (q.2, px_len q.1 q.2) := by decide +kernel
theorem px_d49 : ∀ q ∈ px_t49, decode cX3_formOf q.1 = .ok (q.2, px_len q.1 q.2) := by decide +kernel
theorem px_d50 : ∀ q ∈ px_t50, decode cX3_inShape q.1 = .ok (q.2, px_len q.1 q.2) := by decide +kernel
theorem px_d51 : ∀ q ∈ px_t51, decode cX3_init q.1 = .ok (q.2, px_len q.1 q.2) := by decide +kernel
theorem px_d52 : ∀ q ∈ px_t52, decode cX3_isColourPrime q.1 = .ok (q.2, px_len q.1 q.2) := by decide +kernel
theorem px_d53 : ∀ q ∈ px_t53, decode cX3_numberOfCell q.1 = .ok (q.2, px_len q.1 q.2) := by decide +kernel
theorem px_d54 : ∀ q ∈ px_t54, decode cX3_own q.1 = .ok (q.2, px_len q.1 q.2) := by decide +kernel
theorem px_d55 : ∀ q ∈ px_t55, decode cX3_ownOver q.1 = .ok (q.2, px_len q.1 q.2) := by decide +kernel
theorem px_d56 : ∀ q ∈ px_t56, decode cX3_piece q.1 = .ok (q.2, px_len q.1 q.2) := by decide +kernel
theorem px_d57 : ∀ q ∈ px_t57, decode cX3_placement q.1 = .ok (q.2, px_len q.1 q.2) := by decide +kernel
theorem px_d58 : ∀ q ∈ px_t58, decode cX3_placements q.1 = .ok (q.2, px_len q.1 q.2) := by decide +kernel
theorem px_d59 : ∀ q ∈ px_t59, decode cX3_proves q.1 = .ok (q.2, px_len q.1 q.2) := by decide +kernel
theorem px_d60 : ∀ q ∈ px_t60, decode cX3_reachable q.1 = .ok (q.2, px_len q.1 q.2) := by decide +kernel
theorem px_d61 : ∀ q ∈ px_t61, decode cX3_run q.1 = .ok (q.2, px_len q.1 q.2) := by decide +kernel
theorem px_d62 : ∀ q ∈ px_t62, decode cX3_runs q.1 = .ok (q.2, px_len q.1 q.2) := by decide +kernel
theorem px_d63 : ∀ q ∈ px_t63, decode cX3_sizes q.1 = .ok (q.2, px_len q.1 q.2) := by decide +kernel
theorem px_d64 : ∀ q ∈ px_t64, decode cX3_square q.1 = .ok (q.2, px_len q.1 q.2) := by decide +kernel
theorem px_d65 : ∀ q ∈ px_t65, decode cX3_sum q.1 = .ok (q.2, px_len q.1 q.2) := by decide +kernel
theorem px_d66 : ∀ q ∈ px_t66, decode cX3_text q.1 = .ok (q.2, px_len q.1 q.2) := by decide +kernel
theorem px_d67 : ∀ q ∈ px_t67, decode cX3_weight q.1 = .ok (q.2, px_len q.1 q.2) := by decide +kernel
theorem px_d68 : ∀ q ∈ px_t68, decode cX4_addPlace q.1 = .ok (q.2, px_len q.1 q.2) := by decide +kernel
theorem px_d69 : ∀ q ∈ px_t69, decode cX4_bad q.1 = .ok (q.2, px_len q.1 q.2) := by decide +kernel
theorem px_d70 : ∀ q ∈ px_t70, decode cX4_border q.1 = .ok (q.2, px_len q.1 q.2) := by decide +kernel
theorem px_d71 : ∀ q ∈ px_t71, decode cX4_cell q.1 = .ok (q.2, px_len q.1 q.2) := by decide +kernel
theorem px_d72 : ∀ q ∈ px_t72, decode cX4_cells q.1 = .ok (q.2, px_len q.1 q.2) := by decide +kernel
theorem px_d73 : ∀ q ∈ px_t73, decode cX4_colour q.1 = .ok (q.2, px_len q.1 q.2) := by decide +kernel
theorem px_d74 : ∀ q ∈ px_t74, decode cX4_countBad q.1 = .ok (q.2, px_len q.1 q.2) := by decide +kernel
theorem px_d75 : ∀ q ∈ px_t75, decode cX4_equations q.1 = .ok (q.2, px_len q.1 q.2) := by decide +kernel
theorem px_d76 : ∀ q ∈ px_t76, decode cX4_init q.1 = .ok (q.2, px_len q.1 q.2) := by decide +kernel
theorem px_d77 : ∀ q ∈ px_t77, decode cX4_inverse q.1 = .ok (q.2, px_len q.1 q.2) := by decide +kernel
theorem px_d78 : ∀ q ∈ px_t78, decode cX4_isCell q.1 = .ok (q.2, px_len q.1 q.2) := by decide +kernel
theorem px_d79 : ∀ q ∈ px_t79, decode cX4_isPiece q.1 = .ok (q.2, px_len q.1 q.2) := by decide +kernel
theorem px_d80 : ∀ q ∈ px_t80, decode cX4_isSide q.1 = .ok (q.2, px_len q.1 q.2) := by decide +kernel
theorem px_d81 : ∀ q ∈ px_t81, decode cX4_isThere q.1 = .ok (q.2, px_len q.1 q.2) := by decide +kernel
theorem px_d82 : ∀ q ∈ px_t82, decode cX4_keep q.1 = .ok (q.2, px_len q.1 q.2) := by decide +kernel
theorem px_d83 : ∀ q ∈ px_t83, decode cX4_own q.1 = .ok (q.2, px_len q.1 q.2) := by decide +kernel
theorem px_d84 : ∀ q ∈ px_t84, decode cX4_piece q.1 = .ok (q.2, px_len q.1 q.2) := by decide +kernel
theorem px_d85 : ∀ q ∈ px_t85, decode cX4_place q.1 = .ok (q.2, px_len q.1 q.2) := by decide +kernel
theorem px_d86 : ∀ q ∈ px_t86, decode cX4_placement q.1 = .ok (q.2, px_len q.1 q.2) := by decide +kernel
theorem px_d87 : ∀ q ∈ px_t87, decode cX4_placements q.1 = .ok (q.2, px_len q.1 q.2) := by decide +kernel
theorem px_d88 : ∀ q ∈ px_t88, decode cX4_proves q.1 = .ok (q.2, px_len q.1 q.2) := by decide +kernel
theorem px_d89 : ∀ q ∈ px_t89, decode cX4_run q.1 = .ok (q.2, px_len q.1 q.2) := by decide +kernel
theorem px_d90 : ∀ q ∈ px_t90, decode cX4_runs q.1 = .ok (q.2, px_len q.1 q.2) := by decide +kernel
theorem px_d91 : ∀ q ∈ px_t91, decode cX4_setOf q.1 = .ok (q.2, px_len q.1 q.2) := by decide +kernel
theorem px_d92 : ∀ q ∈ px_t92, decode cX4_size q.1 = .ok (q.2, px_len q.1 q.2) := by decide +kernel
theorem px_d93 : ∀ q ∈ px_t93, decode cX4_sizes q.1 = .ok (q.2, px_len q.1 q.2) := by decide +kernel
theorem px_d94 : ∀ q ∈ px_t94, decode cX4_square q.1 = .ok (q.2, px_len q.1 q.2) := by decide +kernel
theorem px_d95 : ∀ q ∈ px_t95, decode cX4_sum q.1 = .ok (q.2, px_len q.1 q.2) := by decide +kernel
theorem px_d96 : ∀ q ∈ px_t96, decode cX4_sumOver q.1 = .ok (q.2, px_len q.1 q.2) := by decide +kernel
theorem px_d97 : ∀ q ∈ px_t97, decode cX4_takeRuns q.1 = .ok (q.2, px_len q.1 q.2) := by decide +kernel
theorem px_d98 : ∀ q ∈ px_t98, decode cX4_text q.1 = .ok (q.2, px_len q.1 q.2) := by decide +kernel
theorem px_d99 : ∀ q ∈ px_t99, decode cX4_throwsIf q.1 = .ok (q.2, px_len q.1 q.2) := by decide +kernel
theorem px_d100 : ∀ q ∈ px_t100, decode cX4_walk q.1 = .ok (q.2, px_len q.1 q.2) := by decide +kernel
theorem px_d101 : ∀ q ∈ px_t101, decode cX4_weight q.1 = .ok (q.2, px_len q.1 q.2) := by decide +kernel
theorem px_d102 : ∀ q ∈ px_t102, decode cX4_thrown q.1 = .ok (q.2, px_len q.1 q.2) := by decide +kernel
theorem px_dec : ∀ (j : Nat) (q : Nat × Instr), q ∈ px_tab j → decode (px_c j) q.1 = .ok (q.2, px_len q.1 q.2)
  | 0, q, h => px_d0 q h
  | 1, q, h => px_d1 q h
  | 2, q, h => px_d2 q h
  | 3, q, h => px_d3 q h
  | 4, q, h => px_d4 q h
  | 5, q, h => px_d5 q h
  | 6, q, h => px_d6 q h
  | 7, q, h => px_d7 q h
  | 8, q, h => px_d8 q h
  | 9, q, h => px_d9 q h
  | 10, q, h => px_d10 q h
  | 11, q, h => px_d11 q h
  | 12, q, h => px_d12 q h
  | 13, q, h => px_d13 q h
  | 14, q, h => px_d14 q h
  | 15, q, h => px_d15 q h
  | 16, q, h => px_d16 q h
  | 17, q, h => px_d17 q h
  | 18, q, h => px_d18 q h
  | 19, q, h => px_d19 q h
  | 20, q, h => px_d20 q h
  | 21, q, h => px_d21 q h
  | 22, q, h => px_d22 q h
  | 23, q, h => px_d23 q h
  | 24, q, h => px_d24 q h
  | 25, q, h => px_d25 q h
  | 26, q, h => px_d26 q h
  | 27, q, h => px_d27 q h
  | 28, q, h => px_d28 q h
  | 29, q, h => px_d29 q h
  | 30, q, h => px_d30 q h
  | 31, q, h => px_d31 q h
  | 32, q, h => px_d32 q h
  | 33, q, h => px_d33 q h
  | 34, q, h => px_d34 q h
  | 35, q, h => px_d35 q h
  | 36, q, h => px_d36 q h
  | 37, q, h => px_d37 q h
  | 38, q, h => px_d38 q h
  | 39, q, h => px_d39 q h
  | 40, q, h => px_d40 q h
  | 41, q, h => px_d41 q h
  | 42, q, h => px_d42 q h
  | 43, q, h => px_d43 q h
  | 44, q, h => px_d44 q h
  | 45, q, h => px_d45 q h
  | 46, q, h => px_d46 q h
  | 47, q, h => px_d47 q h
  | 48, q, h => px_d48 q h
  | 49, q, h => px_d49 q h
  | 50, q, h => px_d50 q h
  | 51, q, h => px_d51 q h
  | 52, q, h => px_d52 q h
  | 53, q, h => px_d53 q h
  | 54, q, h => px_d54 q h
  | 55, q, h => px_d55 q h
  | 56, q, h => px_d56 q h
  | 57, q, h => px_d57 q h
  | 58, q, h => px_d58 q h
  | 59, q, h => px_d59 q h
  | 60, q, h => px_d60 q h
  | 61, q, h => px_d61 q h
  | 62, q, h => px_d62 q h
  | 63, q, h => px_d63 q h
  | 64, q, h => px_d64 q h
  | 65, q, h => px_d65 q h
  | 66, q, h => px_d66 q h
  | 67, q, h => px_d67 q h
  | 68, q, h => px_d68 q h
  | 69, q, h => px_d69 q h
  | 70, q, h => px_d70 q h
  | 71, q, h => px_d71 q h
  | 72, q, h => px_d72 q h
  | 73, q, h => px_d73 q h
  | 74, q, h => px_d74 q h
  | 75, q, h => px_d75 q h
  | 76, q, h => px_d76 q h
  | 77, q, h => px_d77 q h
  | 78, q, h => px_d78 q h
  | 79, q, h => px_d79 q h
  | 80, q, h => px_d80 q h
  | 81, q, h => px_d81 q h
  | 82, q, h => px_d82 q h
  | 83, q, h => px_d83 q h
  | 84, q, h => px_d84 q h
  | 85, q, h => px_d85 q h
  | 86, q, h => px_d86 q h
  | 87, q, h => px_d87 q h
  | 88, q, h => px_d88 q h
  | 89, q, h => px_d89 q h
  | 90, q, h => px_d90 q h
  | 91, q, h => px_d91 q h
  | 92, q, h => px_d92 q h
  | 93, q, h => px_d93 q h
  | 94, q, h => px_d94 q h
  | 95, q, h => px_d95 q h
  | 96, q, h => px_d96 q h
  | 97, q, h => px_d97 q h
  | 98, q, h => px_d98 q h
  | 99, q, h => px_d99 q h
  | 100, q, h => px_d100 q h
  | 101, q, h => px_d101 q h
  | 102, q, h => px_d102 q h
  | n + 103, q, h => nomatch h
