theorem px_d0 : ∀ q ∈ px_t0, decode cJ13_bitCount_95d88 q.1 = .ok (q.2, px_len q.1 q.2) := by decide +kernel
theorem px_d1 : ∀ q ∈ px_t1, decode cJ6_bitCount_0f7a4 q.1 = .ok (q.2, px_len q.1 q.2) := by decide +kernel
theorem px_d2 : ∀ q ∈ px_t2, decode cJ9_max_7cf53 q.1 = .ok (q.2, px_len q.1 q.2) := by decide +kernel
theorem px_d3 : ∀ q ∈ px_t3, decode cJ9_min_7cf53 q.1 = .ok (q.2, px_len q.1 q.2) := by decide +kernel
theorem px_d4 : ∀ q ∈ px_t4, decode cL_cell q.1 = .ok (q.2, px_len q.1 q.2) := by decide +kernel
theorem px_d5 : ∀ q ∈ px_t5, decode cL_cell_ q.1 = .ok (q.2, px_len q.1 q.2) := by decide +kernel
def px_t6_0 : List (Nat × Instr) := [(0, .new 8), (3, .dup), (4, .aload_n 0), (5, .iconst 0), (6, .invokestatic 36), (9, .aload_n 0), (10, .iconst 1), (11, .invokestatic 36), (14, .invokespecial 41), (17, .astore_n 1), (18, .new 44), (21, .dup), (22, .aload_n 0), (23, .iconst 0), (24, .invokestatic 36), (27, .aload_n 0), (28, .iconst 1), (29, .invokestatic 36), (32, .invokespecial 46), (35, .astore_n 2), (36, .iconst 1), (37, .newarray .long), (39, .astore_n 3), (40, .iconst 2), (41, .istore 4), (43, .iload 4), (45, .aload_n 0), (46, .arraylength), (47, .iconst 4), (48, .isub), (49, .if_icmp .gt 611), (52, .aload_n 0), (53, .iload 4), (55, .iaload), (56, .bipush 15), (58, .iand), (59, .tableswitch 595 0 15 #[77, 145, 158, 210, 238, 290, 303, 328, 368, 393, 445, 458, 483, 508, 533, 558]), (136, .aload_n 1), (137, .aload_n 0), (138, .iload 4), (140, .iconst 1), (141, .iadd), (142, .iaload), (143, .aload_n 0), (144, .iload 4), (146, .iconst 2), (147, .iadd), (148, .iaload), (149, .aload_n 0), (150, .iload 4), (152, .iconst 3), (153, .iadd), (154, .iaload), (155, .ifCond .eq 7), (158, .iconst 1), (159, .goto 4), (162, .iconst 0), (163, .aload_n 3), (164, .invokestatic 47), (167, .istore 5), (169, .aload_n 2), (170, .aload_n 0), (171, .iload 4), (173, .iconst 1), (174, .iadd), (175, .iaload), (176, .aload_n 0), (177, .iload 4), (179, .iconst 2), (180, .iadd), (181, .iaload), (182, .aload_n 0), (183, .iload 4), (185, .iconst 3), (186, .iadd), (187, .iaload), (188, .ifCond .eq 7), (191, .iconst 1), (192, .goto 4), (195, .iconst 0), (196, .invokevirtual 50), (199, .istore 6), (201, .goto 453), (204, .aload_n 1), (205, .invokevirtual 51), (208, .pop), (209, .aload_n 2), (210, .invokevirtual 55), (213, .pop), (214, .goto 440), (217, .aload_n 1), (218, .aload_n 0), (219, .iload 4), (221, .iconst 1), (222, .iadd), (223, .iaload), (224, .aload_n 0), (225, .iload 4), (227, .iconst 2), (228, .iadd)]
theorem px_d6_0 : ∀ q ∈ px_t6_0, decode cL_law q.1 = .ok (q.2, px_len q.1 q.2) := by decide +kernel
def px_t6_1 : List (Nat × Instr) := [(229, .iaload), (230, .aload_n 0), (231, .iload 4), (233, .iconst 3), (234, .iadd), (235, .iaload), (236, .aload_n 3), (237, .invokestatic 56), (240, .istore 5), (242, .aload_n 2), (243, .aload_n 0), (244, .iload 4), (246, .iconst 1), (247, .iadd), (248, .iaload), (249, .aload_n 0), (250, .iload 4), (252, .iconst 2), (253, .iadd), (254, .iaload), (255, .aload_n 0), (256, .iload 4), (258, .iconst 3), (259, .iadd), (260, .iaload), (261, .invokevirtual 59), (264, .istore 6), (266, .goto 388), (269, .aload_n 1), (270, .aload_n 0), (271, .iload 4), (273, .iconst 1), (274, .iadd), (275, .iaload), (276, .aload_n 3), (277, .invokestatic 60), (280, .istore 5), (282, .aload_n 2), (283, .aload_n 0), (284, .iload 4), (286, .iconst 1), (287, .iadd), (288, .iaload), (289, .invokevirtual 63), (292, .istore 6), (294, .goto 360), (297, .aload_n 1), (298, .aload_n 0), (299, .iload 4), (301, .iconst 1), (302, .iadd), (303, .iaload), (304, .aload_n 0), (305, .iload 4), (307, .iconst 2), (308, .iadd), (309, .iaload), (310, .aload_n 0), (311, .iload 4), (313, .iconst 3), (314, .iadd), (315, .iaload), (316, .aload_n 3), (317, .invokestatic 64), (320, .istore 5), (322, .aload_n 2), (323, .aload_n 0), (324, .iload 4), (326, .iconst 1), (327, .iadd), (328, .iaload), (329, .aload_n 0), (330, .iload 4), (332, .iconst 2), (333, .iadd), (334, .iaload), (335, .aload_n 0), (336, .iload 4), (338, .iconst 3), (339, .iadd), (340, .iaload), (341, .invokevirtual 66), (344, .istore 6), (346, .goto 308), (349, .aload_n 1), (350, .invokevirtual 67), (353, .pop), (354, .aload_n 2), (355, .invokevirtual 71), (358, .pop), (359, .goto 295), (362, .aload_n 1), (363, .aload_n 0), (364, .iload 4), (366, .iconst 1), (367, .iadd), (368, .iaload), (369, .invokevirtual 72), (372, .pop), (373, .aload_n 2)]
theorem px_d6_1 : ∀ q ∈ px_t6_1, decode cL_law q.1 = .ok (q.2, px_len q.1 q.2) := by decide +kernel
def px_t6_2 : List (Nat × Instr) := [(374, .aload_n 0), (375, .iload 4), (377, .iconst 1), (378, .iadd), (379, .iaload), (380, .invokevirtual 75), (383, .pop), (384, .goto 270), (387, .aload_n 1), (388, .aload_n 0), (389, .iload 4), (391, .iconst 1), (392, .iadd), (393, .iaload), (394, .aload_n 0), (395, .iload 4), (397, .iconst 2), (398, .iadd), (399, .iaload), (400, .aload_n 3), (401, .invokestatic 76), (404, .istore 5), (406, .aload_n 2), (407, .aload_n 0), (408, .iload 4), (410, .iconst 1), (411, .iadd), (412, .iaload), (413, .aload_n 0), (414, .iload 4), (416, .iconst 2), (417, .iadd), (418, .iaload), (419, .invokevirtual 79), (422, .istore 6), (424, .goto 230), (427, .aload_n 1), (428, .aload_n 0), (429, .iload 4), (431, .iconst 1), (432, .iadd), (433, .iaload), (434, .invokevirtual 80), (437, .aload_n 2), (438, .aload_n 0), (439, .iload 4), (441, .iconst 1), (442, .iadd), (443, .iaload), (444, .invokevirtual 83), (447, .if_icmp .eq 207), (450, .iconst 0), (451, .ireturn), (452, .aload_n 1), (453, .aload_n 0), (454, .iload 4), (456, .iconst 1), (457, .iadd), (458, .iaload), (459, .aload_n 0), (460, .iload 4), (462, .iconst 2), (463, .iadd), (464, .iaload), (465, .aload_n 0), (466, .iload 4), (468, .iconst 3), (469, .iadd), (470, .iaload), (471, .aload_n 3), (472, .invokestatic 84), (475, .istore 5), (477, .aload_n 2), (478, .aload_n 0), (479, .iload 4), (481, .iconst 1), (482, .iadd), (483, .iaload), (484, .aload_n 0), (485, .iload 4), (487, .iconst 2), (488, .iadd), (489, .iaload), (490, .aload_n 0), (491, .iload 4), (493, .iconst 3), (494, .iadd), (495, .iaload), (496, .invokevirtual 86), (499, .istore 6), (501, .goto 153), (504, .aload_n 1), (505, .invokevirtual 87), (508, .pop), (509, .aload_n 2), (510, .invokevirtual 90), (513, .pop), (514, .goto 140), (517, .aload_n 1), (518, .aload_n 0)]
theorem px_d6_2 : ∀ q ∈ px_t6_2, decode cL_law q.1 = .ok (q.2, px_len q.1 q.2) := by decide +kernel
def px_t6_3 : List (Nat × Instr) := [(519, .iload 4), (521, .iconst 1), (522, .iadd), (523, .iaload), (524, .invokevirtual 91), (527, .pop), (528, .aload_n 2), (529, .aload_n 0), (530, .iload 4), (532, .iconst 1), (533, .iadd), (534, .iaload), (535, .invokevirtual 94), (538, .pop), (539, .goto 115), (542, .aload_n 1), (543, .aload_n 0), (544, .iload 4), (546, .iconst 1), (547, .iadd), (548, .iaload), (549, .invokevirtual 95), (552, .pop), (553, .aload_n 2), (554, .aload_n 0), (555, .iload 4), (557, .iconst 1), (558, .iadd), (559, .iaload), (560, .invokevirtual 99), (563, .pop), (564, .goto 90), (567, .aload_n 1), (568, .aload_n 0), (569, .iload 4), (571, .iconst 1), (572, .iadd), (573, .iaload), (574, .invokevirtual 100), (577, .pop), (578, .aload_n 2), (579, .aload_n 0), (580, .iload 4), (582, .iconst 1), (583, .iadd), (584, .iaload), (585, .invokevirtual 103), (588, .pop), (589, .goto 65), (592, .aload_n 1), (593, .aload_n 0), (594, .iload 4), (596, .iconst 1), (597, .iadd), (598, .iaload), (599, .invokevirtual 104), (602, .pop), (603, .aload_n 2), (604, .aload_n 0), (605, .iload 4), (607, .iconst 1), (608, .iadd), (609, .iaload), (610, .invokevirtual 107), (613, .pop), (614, .goto 40), (617, .aload_n 1), (618, .aload_n 0), (619, .iload 4), (621, .iconst 1), (622, .iadd), (623, .iaload), (624, .aload_n 0), (625, .iload 4), (627, .iconst 2), (628, .iadd), (629, .iaload), (630, .invokevirtual 108), (633, .pop), (634, .aload_n 2), (635, .aload_n 0), (636, .iload 4), (638, .iconst 1), (639, .iadd), (640, .iaload), (641, .aload_n 0), (642, .iload 4), (644, .iconst 2), (645, .iadd), (646, .iaload), (647, .invokevirtual 111), (650, .pop), (651, .goto 3), (654, .iinc 4 4), (657, .goto (-614)), (660, .iconst 1), (661, .ireturn)]
theorem px_d6_3 : ∀ q ∈ px_t6_3, decode cL_law q.1 = .ok (q.2, px_len q.1 q.2) := by decide +kernel
set_option maxRecDepth 100000 in
theorem px_d6 : ∀ q ∈ px_t6, decode cL_law q.1 = .ok (q.2, px_len q.1 q.2) := by
  rw [show px_t6 = (px_t6_0 ++ (px_t6_1 ++ (px_t6_2 ++ px_t6_3))) from rfl]
  exact List.forall_mem_append.mpr ⟨px_d6_0, List.forall_mem_append.mpr ⟨px_d6_1, List.forall_mem_append.mpr ⟨px_d6_2, px_d6_3⟩⟩⟩
theorem px_d7 : ∀ q ∈ px_t7, decode cL_own q.1 = .ok (q.2, px_len q.1 q.2) := by decide +kernel
theorem px_d8 : ∀ q ∈ px_t8, decode cL_placement q.1 = .ok (q.2, px_len q.1 q.2) := by decide +kernel
theorem px_d9 : ∀ q ∈ px_t9, decode cL_placements q.1 = .ok (q.2, px_len q.1 q.2) := by decide +kernel
theorem px_d10 : ∀ q ∈ px_t10, decode cL_square q.1 = .ok (q.2, px_len q.1 q.2) := by decide +kernel
theorem px_d11 : ∀ q ∈ px_t11, decode cL_weight q.1 = .ok (q.2, px_len q.1 q.2) := by decide +kernel
theorem px_d12 : ∀ q ∈ px_t12, decode cX0_add q.1 = .ok (q.2, px_len q.1 q.2) := by decide +kernel
theorem px_d13 : ∀ q ∈ px_t13, decode cX0_begin q.1 = .ok (q.2, px_len q.1 q.2) := by decide +kernel
theorem px_d14 : ∀ q ∈ px_t14, decode cX0_init q.1 = .ok (q.2, px_len q.1 q.2) := by decide +kernel
theorem px_d15 : ∀ q ∈ px_t15, decode cX0_inverse q.1 = .ok (q.2, px_len q.1 q.2) := by decide +kernel
theorem px_d16 : ∀ q ∈ px_t16, decode cX0_keepWork q.1 = .ok (q.2, px_len q.1 q.2) := by decide +kernel
theorem px_d17 : ∀ q ∈ px_t17, decode cX0_lastCellOfWork q.1 = .ok (q.2, px_len q.1 q.2) := by decide +kernel
theorem px_d18 : ∀ q ∈ px_t18, decode cX0_leastValue q.1 = .ok (q.2, px_len q.1 q.2) := by decide +kernel
theorem px_d19 : ∀ q ∈ px_t19, decode cX0_subtractRow q.1 = .ok (q.2, px_len q.1 q.2) := by decide +kernel
theorem px_d20 : ∀ q ∈ px_t20, decode cX1_cellsInCorner q.1 = .ok (q.2, px_len q.1 q.2) := by decide +kernel
theorem px_d21 : ∀ q ∈ px_t21, decode cX1_columnsOf q.1 = .ok (q.2, px_len q.1 q.2) := by decide +kernel
theorem px_d22 : ∀ q ∈ px_t22, decode cX1_findWays q.1 = .ok (q.2, px_len q.1 q.2) := by decide +kernel
theorem px_d23 : ∀ q ∈ px_t23, decode cX1_init q.1 = .ok (q.2, px_len q.1 q.2) := by decide +kernel
theorem px_d24 : ∀ q ∈ px_t24, decode cX1_insert q.1 = .ok (q.2, px_len q.1 q.2) := by decide +kernel
theorem px_d25 : ∀ q ∈ px_t25, decode cX1_keepWay q.1 = .ok (q.2, px_len q.1 q.2) := by decide +kernel
theorem px_d26 : ∀ q ∈ px_t26, decode cX1_placeWay q.1 = .ok (q.2, px_len q.1 q.2) := by decide +kernel
theorem px_d27 : ∀ q ∈ px_t27, decode cX1_prepare q.1 = .ok (q.2, px_len q.1 q.2) := by decide +kernel
theorem px_d28 : ∀ q ∈ px_t28, decode cX1_pushedToCorner q.1 = .ok (q.2, px_len q.1 q.2) := by decide +kernel
theorem px_d29 : ∀ q ∈ px_t29, decode cX1_quarterTurned q.1 = .ok (q.2, px_len q.1 q.2) := by decide +kernel
theorem px_d30 : ∀ q ∈ px_t30, decode cX1_rowsOf q.1 = .ok (q.2, px_len q.1 q.2) := by decide +kernel
theorem px_d31 : ∀ q ∈ px_t31, decode cX1_size q.1 = .ok (q.2, px_len q.1 q.2) := by decide +kernel
theorem px_d32 : ∀ q ∈ px_t32, decode cX1_take q.1 = .ok (q.2, px_len q.1 q.2) := by decide +kernel
theorem px_d33 : ∀ q ∈ px_t33, decode cX1_turnedOver q.1 = .ok (q.2, px_len q.1 q.2) := by decide +kernel
theorem px_d34 : ∀ q ∈ px_t34, decode cX2_fold q.1 = .ok (q.2, px_len q.1 q.2) := by decide +kernel
theorem px_d35 : ∀ q ∈ px_t35, decode cX2_foldLetter q.1 = .ok (q.2, px_len q.1 q.2) := by decide +kernel
theorem px_d36 : ∀ q ∈ px_t36, decode cX2_follow q.1 = .ok (q.2, px_len q.1 q.2) := by decide +kernel
theorem px_d37 : ∀ q ∈ px_t37, decode cX2_has q.1 = .ok (q.2, px_len q.1 q.2) := by decide +kernel
theorem px_d38 : ∀ q ∈ px_t38, decode cX2_init q.1 = .ok (q.2, px_len q.1 q.2) := by decide +kernel
theorem px_d39 : ∀ q ∈ px_t39, decode cX2_mayGo q.1 = .ok (q.2, px_len q.1 q.2) := by decide +kernel
theorem px_d40 : ∀ q ∈ px_t40, decode cX2_nextLetter q.1 = .ok (q.2, px_len q.1 q.2) := by decide +kernel
theorem px_d41 : ∀ q ∈ px_t41, decode cX2_pushRun q.1 = .ok (q.2, px_len q.1 q.2) := by decide +kernel
theorem px_d42 : ∀ q ∈ px_t42, decode cX2_trace q.1 = .ok (q.2, px_len q.1 q.2) := by decide +kernel
theorem px_d43 : ∀ q ∈ px_t43, decode cX3_addPlacementSums q.1 = .ok (q.2, px_len q.1 q.2) := by decide +kernel
theorem px_d44 : ∀ q ∈ px_t44, decode cX3_bad q.1 = .ok (q.2, px_len q.1 q.2) := by decide +kernel
theorem px_d45 : ∀ q ∈ px_t45, decode cX3_border q.1 = .ok (q.2, px_len q.1 q.2) := by decide +kernel
theorem px_d46 : ∀ q ∈ px_t46, decode cX3_cell q.1 = .ok (q.2, px_len q.1 q.2) := by decide +kernel
theorem px_d47 : ∀ q ∈ px_t47, decode cX3_cellOfSet q.1 = .ok (q.2, px_len q.1 q.2) := by decide +kernel
theorem px_d48 : ∀ q ∈ px_t48, decode cX3_colour q.1 = .ok (q.2, px_len q.1 q.2) := by decide +kernel
theorem px_d49 : ∀ q ∈ px_t49, decode cX3_formOf q.1 = .ok (q.2, px_len q.1 q.2) := by decide +kernel
theorem px_d50 : ∀ q ∈ px_t50, decode cX3_inShape q.1 = .ok (q.2, px_len q.1 q.2) := by decide +kernel
theorem px_d51 : ∀ q ∈ px_t51, decode cX3_init q.1 = .ok (q.2, px_len q.1 q.2) := by decide +kernel
theorem px_d52 : ∀ q ∈ px_t52, decode cX3_isColourPrime q.1 = .ok (q.2, px_len q.1 q.2) := by decide +kernel
theorem px_d53 : ∀ q ∈ px_t53, decode cX3_numberOfCell q.1 = .ok (q.2, px_len q.1 q.2) := by decide +kernel
theorem px_d54 : ∀ q ∈ px_t54, decode cX3_own q.1 = .ok (q.2, px_len q.1 q.2) := by decide +kernel
theorem px_d55 : ∀ q ∈ px_t55, decode cX3_ownOver q.1 = .ok (q.2, px_len q.1 q.2) := by decide +kernel
theorem px_d56 : ∀ q ∈ px_t56, decode cX3_piece q.1 = .ok (q.2, px_len q.1 q.2) := by decide +kernel
theorem px_d57 : ∀ q ∈ px_t57, decode cX3_placement q.1 = .ok (q.2, px_len q.1 q.2) := by decide +kernel
theorem px_d58 : ∀ q ∈ px_t58, decode cX3_placements q.1 = .ok (q.2, px_len q.1 q.2) := by decide +kernel
theorem px_d59 : ∀ q ∈ px_t59, decode cX3_proves q.1 = .ok (q.2, px_len q.1 q.2) := by decide +kernel
theorem px_d60 : ∀ q ∈ px_t60, decode cX3_reachable q.1 = .ok (q.2, px_len q.1 q.2) := by decide +kernel
theorem px_d61 : ∀ q ∈ px_t61, decode cX3_run q.1 = .ok (q.2, px_len q.1 q.2) := by decide +kernel
theorem px_d62 : ∀ q ∈ px_t62, decode cX3_runs q.1 = .ok (q.2, px_len q.1 q.2) := by decide +kernel
theorem px_d63 : ∀ q ∈ px_t63, decode cX3_sizes q.1 = .ok (q.2, px_len q.1 q.2) := by decide +kernel
theorem px_d64 : ∀ q ∈ px_t64, decode cX3_square q.1 = .ok (q.2, px_len q.1 q.2) := by decide +kernel
theorem px_d65 : ∀ q ∈ px_t65, decode cX3_sum q.1 = .ok (q.2, px_len q.1 q.2) := by decide +kernel
theorem px_d66 : ∀ q ∈ px_t66, decode cX3_text q.1 = .ok (q.2, px_len q.1 q.2) := by decide +kernel
theorem px_d67 : ∀ q ∈ px_t67, decode cX3_weight q.1 = .ok (q.2, px_len q.1 q.2) := by decide +kernel
theorem px_d68 : ∀ q ∈ px_t68, decode cX4_addPlace q.1 = .ok (q.2, px_len q.1 q.2) := by decide +kernel
theorem px_d69 : ∀ q ∈ px_t69, decode cX4_bad q.1 = .ok (q.2, px_len q.1 q.2) := by decide +kernel
theorem px_d70 : ∀ q ∈ px_t70, decode cX4_border q.1 = .ok (q.2, px_len q.1 q.2) := by decide +kernel
theorem px_d71 : ∀ q ∈ px_t71, decode cX4_cell q.1 = .ok (q.2, px_len q.1 q.2) := by decide +kernel
theorem px_d72 : ∀ q ∈ px_t72, decode cX4_cells q.1 = .ok (q.2, px_len q.1 q.2) := by decide +kernel
theorem px_d73 : ∀ q ∈ px_t73, decode cX4_colour q.1 = .ok (q.2, px_len q.1 q.2) := by decide +kernel
theorem px_d74 : ∀ q ∈ px_t74, decode cX4_countBad q.1 = .ok (q.2, px_len q.1 q.2) := by decide +kernel
theorem px_d75 : ∀ q ∈ px_t75, decode cX4_equations q.1 = .ok (q.2, px_len q.1 q.2) := by decide +kernel
theorem px_d76 : ∀ q ∈ px_t76, decode cX4_init q.1 = .ok (q.2, px_len q.1 q.2) := by decide +kernel
theorem px_d77 : ∀ q ∈ px_t77, decode cX4_inverse q.1 = .ok (q.2, px_len q.1 q.2) := by decide +kernel
theorem px_d78 : ∀ q ∈ px_t78, decode cX4_isCell q.1 = .ok (q.2, px_len q.1 q.2) := by decide +kernel
theorem px_d79 : ∀ q ∈ px_t79, decode cX4_isPiece q.1 = .ok (q.2, px_len q.1 q.2) := by decide +kernel
theorem px_d80 : ∀ q ∈ px_t80, decode cX4_isSide q.1 = .ok (q.2, px_len q.1 q.2) := by decide +kernel
theorem px_d81 : ∀ q ∈ px_t81, decode cX4_isThere q.1 = .ok (q.2, px_len q.1 q.2) := by decide +kernel
theorem px_d82 : ∀ q ∈ px_t82, decode cX4_keep q.1 = .ok (q.2, px_len q.1 q.2) := by decide +kernel
theorem px_d83 : ∀ q ∈ px_t83, decode cX4_own q.1 = .ok (q.2, px_len q.1 q.2) := by decide +kernel
theorem px_d84 : ∀ q ∈ px_t84, decode cX4_piece q.1 = .ok (q.2, px_len q.1 q.2) := by decide +kernel
theorem px_d85 : ∀ q ∈ px_t85, decode cX4_place q.1 = .ok (q.2, px_len q.1 q.2) := by decide +kernel
theorem px_d86 : ∀ q ∈ px_t86, decode cX4_placement q.1 = .ok (q.2, px_len q.1 q.2) := by decide +kernel
theorem px_d87 : ∀ q ∈ px_t87, decode cX4_placements q.1 = .ok (q.2, px_len q.1 q.2) := by decide +kernel
theorem px_d88 : ∀ q ∈ px_t88, decode cX4_proves q.1 = .ok (q.2, px_len q.1 q.2) := by decide +kernel
theorem px_d89 : ∀ q ∈ px_t89, decode cX4_run q.1 = .ok (q.2, px_len q.1 q.2) := by decide +kernel
theorem px_d90 : ∀ q ∈ px_t90, decode cX4_runs q.1 = .ok (q.2, px_len q.1 q.2) := by decide +kernel
theorem px_d91 : ∀ q ∈ px_t91, decode cX4_setOf q.1 = .ok (q.2, px_len q.1 q.2) := by decide +kernel
theorem px_d92 : ∀ q ∈ px_t92, decode cX4_size q.1 = .ok (q.2, px_len q.1 q.2) := by decide +kernel
theorem px_d93 : ∀ q ∈ px_t93, decode cX4_sizes q.1 = .ok (q.2, px_len q.1 q.2) := by decide +kernel
theorem px_d94 : ∀ q ∈ px_t94, decode cX4_square q.1 = .ok (q.2, px_len q.1 q.2) := by decide +kernel
theorem px_d95 : ∀ q ∈ px_t95, decode cX4_sum q.1 = .ok (q.2, px_len q.1 q.2) := by decide +kernel
theorem px_d96 : ∀ q ∈ px_t96, decode cX4_sumOver q.1 = .ok (q.2, px_len q.1 q.2) := by decide +kernel
theorem px_d97 : ∀ q ∈ px_t97, decode cX4_takeRuns q.1 = .ok (q.2, px_len q.1 q.2) := by decide +kernel
theorem px_d98 : ∀ q ∈ px_t98, decode cX4_text q.1 = .ok (q.2, px_len q.1 q.2) := by decide +kernel
theorem px_d99 : ∀ q ∈ px_t99, decode cX4_throwsIf q.1 = .ok (q.2, px_len q.1 q.2) := by decide +kernel
theorem px_d100 : ∀ q ∈ px_t100, decode cX4_walk q.1 = .ok (q.2, px_len q.1 q.2) := by decide +kernel
theorem px_d101 : ∀ q ∈ px_t101, decode cX4_weight q.1 = .ok (q.2, px_len q.1 q.2) := by decide +kernel
theorem px_dec : ∀ (j : Nat) (q : Nat × Instr), q ∈ px_tab j → decode (px_c j) q.1 = .ok (q.2, px_len q.1 q.2)
  | 0, q, h => px_d0 q h
  | 1, q, h => px_d1 q h
  | 2, q, h => px_d2 q h
  | 3, q, h => px_d3 q h
  | 4, q, h => px_d4 q h
  | 5, q, h => px_d5 q h
  | 6, q, h => px_d6 q h
  | 7, q, h => px_d7 q h
  | 8, q, h => px_d8 q h
  | 9, q, h => px_d9 q h
  | 10, q, h => px_d10 q h
  | 11, q, h => px_d11 q h
  | 12, q, h => px_d12 q h
  | 13, q, h => px_d13 q h
  | 14, q, h => px_d14 q h
  | 15, q, h => px_d15 q h
  | 16, q, h => px_d16 q h
  | 17, q, h => px_d17 q h
  | 18, q, h => px_d18 q h
  | 19, q, h => px_d19 q h
  | 20, q, h => px_d20 q h
  | 21, q, h => px_d21 q h
  | 22, q, h => px_d22 q h
  | 23, q, h => px_d23 q h
  | 24, q, h => px_d24 q h
  | 25, q, h => px_d25 q h
  | 26, q, h => px_d26 q h
  | 27, q, h => px_d27 q h
  | 28, q, h => px_d28 q h
  | 29, q, h => px_d29 q h
  | 30, q, h => px_d30 q h
  | 31, q, h => px_d31 q h
  | 32, q, h => px_d32 q h
  | 33, q, h => px_d33 q h
  | 34, q, h => px_d34 q h
  | 35, q, h => px_d35 q h
  | 36, q, h => px_d36 q h
  | 37, q, h => px_d37 q h
  | 38, q, h => px_d38 q h
  | 39, q, h => px_d39 q h
  | 40, q, h => px_d40 q h
  | 41, q, h => px_d41 q h
  | 42, q, h => px_d42 q h
  | 43, q, h => px_d43 q h
  | 44, q, h => px_d44 q h
  | 45, q, h => px_d45 q h
  | 46, q, h => px_d46 q h
  | 47, q, h => px_d47 q h
  | 48, q, h => px_d48 q h
  | 49, q, h => px_d49 q h
  | 50, q, h => px_d50 q h
  | 51, q, h => px_d51 q h
  | 52, q, h => px_d52 q h
  | 53, q, h => px_d53 q h
  | 54, q, h => px_d54 q h
  | 55, q, h => px_d55 q h
  | 56, q, h => px_d56 q h
  | 57, q, h => px_d57 q h
  | 58, q, h => px_d58 q h
  | 59, q, h => px_d59 q h
  | 60, q, h => px_d60 q h
  | 61, q, h => px_d61 q h
  | 62, q, h => px_d62 q h
  | 63, q, h => px_d63 q h
  | 64, q, h => px_d64 q h
  | 65, q, h => px_d65 q h
  | 66, q, h => px_d66 q h
  | 67, q, h => px_d67 q h
  | 68, q, h => px_d68 q h
  | 69, q, h => px_d69 q h
  | 70, q, h => px_d70 q h
  | 71, q, h => px_d71 q h
  | 72, q, h => px_d72 q h
  | 73, q, h => px_d73 q h
  | 74, q, h => px_d74 q h
  | 75, q, h => px_d75 q h
  | 76, q, h => px_d76 q h
  | 77, q, h => px_d77 q h
  | 78, q, h => px_d78 q h
  | 79, q, h => px_d79 q h
  | 80, q, h => px_d80 q h
  | 81, q, h => px_d81 q h
  | 82, q, h => px_d82 q h
  | 83, q, h => px_d83 q h
  | 84, q, h => px_d84 q h
  | 85, q, h => px_d85 q h
  | 86, q, h => px_d86 q h
  | 87, q, h => px_d87 q h
  | 88, q, h => px_d88 q h
  | 89, q, h => px_d89 q h
  | 90, q, h => px_d90 q h
  | 91, q, h => px_d91 q h
  | 92, q, h => px_d92 q h
  | 93, q, h => px_d93 q h
  | 94, q, h => px_d94 q h
  | 95, q, h => px_d95 q h
  | 96, q, h => px_d96 q h
  | 97, q, h => px_d97 q h
  | 98, q, h => px_d98 q h
  | 99, q, h => px_d99 q h
  | 100, q, h => px_d100 q h
  | 101, q, h => px_d101 q h
  | n + 102, q, h => nomatch h
