/-! ===== 42: the law's table; the program with the script as a row (number 2000000) ===== -/
def zl_t0 : List (Nat × Instr × Nat) := [(0, .new 8, 3), (3, .dup, 1), (4, .invokespecial 15, 3), (7, .astore_n 1, 1), (8, .new 16, 3), (11, .dup, 1), (12, .invokespecial 18, 3), (15, .astore_n 2, 1), (16, .iconst 1, 1), (17, .newarray .long, 2), (19, .astore_n 3, 1), (20, .iconst 0, 1), (21, .istore 4, 2), (23, .iload 4, 2), (25, .aload_n 0, 1), (26, .arraylength, 1), (27, .iconst 5, 1), (28, .isub, 1), (29, .if_icmp .gt 617, 3), (32, .aload_n 0, 1), (33, .iload 4, 2), (35, .iaload, 1), (36, .bipush 31, 2), (38, .iand, 1), (39, .tableswitch 601 0 16 #[81, 106, 155, 216, 229, 242, 279, 304, 341, 390, 403, 416, 444, 513, 538, 563, 588], 81), (120, .aload_n 1, 1), (121, .aload_n 0, 1), (122, .iload 4, 2), (124, .iconst 1, 1), (125, .iadd, 1), (126, .iaload, 1), (127, .invokevirtual 19, 3), (130, .pop, 1), (131, .aload_n 2, 1), (132, .aload_n 0, 1), (133, .iload 4, 2), (135, .iconst 1, 1), (136, .iadd, 1), (137, .iaload, 1), (138, .invokevirtual 22, 3)]
def zl_t1 : List (Nat × Instr × Nat) := [(141, .pop, 1), (142, .goto 498, 3), (145, .aload_n 1, 1), (146, .aload_n 0, 1), (147, .iload 4, 2), (149, .iconst 1, 1), (150, .iadd, 1), (151, .iaload, 1), (152, .aload_n 0, 1), (153, .iload 4, 2), (155, .iconst 2, 1), (156, .iadd, 1), (157, .iaload, 1), (158, .aload_n 0, 1), (159, .iload 4, 2), (161, .iconst 3, 1), (162, .iadd, 1), (163, .iaload, 1), (164, .invokevirtual 23, 3), (167, .pop, 1), (168, .aload_n 2, 1), (169, .aload_n 0, 1), (170, .iload 4, 2), (172, .iconst 1, 1), (173, .iadd, 1), (174, .iaload, 1), (175, .aload_n 0, 1), (176, .iload 4, 2), (178, .iconst 2, 1), (179, .iadd, 1), (180, .iaload, 1), (181, .aload_n 0, 1), (182, .iload 4, 2), (184, .iconst 3, 1), (185, .iadd, 1), (186, .iaload, 1), (187, .invokevirtual 27, 3), (190, .pop, 1), (191, .goto 449, 3), (194, .aload_n 1, 1)]
def zl_t2 : List (Nat × Instr × Nat) := [(195, .aload_n 0, 1), (196, .iload 4, 2), (198, .iconst 1, 1), (199, .iadd, 1), (200, .iaload, 1), (201, .aload_n 0, 1), (202, .iload 4, 2), (204, .iconst 2, 1), (205, .iadd, 1), (206, .iaload, 1), (207, .aload_n 0, 1), (208, .iload 4, 2), (210, .iconst 3, 1), (211, .iadd, 1), (212, .iaload, 1), (213, .aload_n 0, 1), (214, .iload 4, 2), (216, .iconst 4, 1), (217, .iadd, 1), (218, .iaload, 1), (219, .invokevirtual 28, 3), (222, .pop, 1), (223, .aload_n 2, 1), (224, .aload_n 0, 1), (225, .iload 4, 2), (227, .iconst 1, 1), (228, .iadd, 1), (229, .iaload, 1), (230, .aload_n 0, 1), (231, .iload 4, 2), (233, .iconst 2, 1), (234, .iadd, 1), (235, .iaload, 1), (236, .aload_n 0, 1), (237, .iload 4, 2), (239, .iconst 3, 1), (240, .iadd, 1), (241, .iaload, 1), (242, .aload_n 0, 1), (243, .iload 4, 2)]
def zl_t3 : List (Nat × Instr × Nat) := [(245, .iconst 4, 1), (246, .iadd, 1), (247, .iaload, 1), (248, .invokevirtual 32, 3), (251, .pop, 1), (252, .goto 388, 3), (255, .aload_n 1, 1), (256, .invokevirtual 33, 3), (259, .pop, 1), (260, .aload_n 2, 1), (261, .invokevirtual 37, 3), (264, .pop, 1), (265, .goto 375, 3), (268, .aload_n 1, 1), (269, .invokevirtual 38, 3), (272, .pop, 1), (273, .aload_n 2, 1), (274, .invokevirtual 41, 3), (277, .pop, 1), (278, .goto 362, 3), (281, .aload_n 1, 1), (282, .aload_n 0, 1), (283, .iload 4, 2), (285, .iconst 1, 1), (286, .iadd, 1), (287, .iaload, 1), (288, .aload_n 0, 1), (289, .iload 4, 2), (291, .iconst 2, 1), (292, .iadd, 1), (293, .iaload, 1), (294, .invokevirtual 42, 3), (297, .pop, 1), (298, .aload_n 2, 1), (299, .aload_n 0, 1), (300, .iload 4, 2), (302, .iconst 1, 1), (303, .iadd, 1), (304, .iaload, 1), (305, .aload_n 0, 1)]
def zl_t4 : List (Nat × Instr × Nat) := [(306, .iload 4, 2), (308, .iconst 2, 1), (309, .iadd, 1), (310, .iaload, 1), (311, .invokevirtual 46, 3), (314, .pop, 1), (315, .goto 325, 3), (318, .aload_n 1, 1), (319, .aload_n 0, 1), (320, .iload 4, 2), (322, .iconst 1, 1), (323, .iadd, 1), (324, .iaload, 1), (325, .invokevirtual 47, 3), (328, .pop, 1), (329, .aload_n 2, 1), (330, .aload_n 0, 1), (331, .iload 4, 2), (333, .iconst 1, 1), (334, .iadd, 1), (335, .iaload, 1), (336, .invokevirtual 50, 3), (339, .pop, 1), (340, .goto 300, 3), (343, .aload_n 1, 1), (344, .aload_n 0, 1), (345, .iload 4, 2), (347, .iconst 1, 1), (348, .iadd, 1), (349, .iaload, 1), (350, .aload_n 0, 1), (351, .iload 4, 2), (353, .iconst 2, 1), (354, .iadd, 1), (355, .iaload, 1), (356, .invokevirtual 51, 3), (359, .pop, 1), (360, .aload_n 2, 1), (361, .aload_n 0, 1), (362, .iload 4, 2)]
def zl_t5 : List (Nat × Instr × Nat) := [(364, .iconst 1, 1), (365, .iadd, 1), (366, .iaload, 1), (367, .aload_n 0, 1), (368, .iload 4, 2), (370, .iconst 2, 1), (371, .iadd, 1), (372, .iaload, 1), (373, .invokevirtual 54, 3), (376, .pop, 1), (377, .goto 263, 3), (380, .aload_n 1, 1), (381, .aload_n 0, 1), (382, .iload 4, 2), (384, .iconst 1, 1), (385, .iadd, 1), (386, .iaload, 1), (387, .aload_n 0, 1), (388, .iload 4, 2), (390, .iconst 2, 1), (391, .iadd, 1), (392, .iaload, 1), (393, .aload_n 0, 1), (394, .iload 4, 2), (396, .iconst 3, 1), (397, .iadd, 1), (398, .iaload, 1), (399, .invokevirtual 55, 3), (402, .pop, 1), (403, .aload_n 2, 1), (404, .aload_n 0, 1), (405, .iload 4, 2), (407, .iconst 1, 1), (408, .iadd, 1), (409, .iaload, 1), (410, .aload_n 0, 1), (411, .iload 4, 2), (413, .iconst 2, 1), (414, .iadd, 1), (415, .iaload, 1)]
def zl_t6 : List (Nat × Instr × Nat) := [(416, .aload_n 0, 1), (417, .iload 4, 2), (419, .iconst 3, 1), (420, .iadd, 1), (421, .iaload, 1), (422, .invokevirtual 58, 3), (425, .pop, 1), (426, .goto 214, 3), (429, .aload_n 1, 1), (430, .invokevirtual 59, 3), (433, .pop, 1), (434, .aload_n 2, 1), (435, .invokevirtual 62, 3), (438, .pop, 1), (439, .goto 201, 3), (442, .aload_n 1, 1), (443, .invokevirtual 63, 3), (446, .aload_n 2, 1), (447, .invokevirtual 66, 3), (450, .if_icmp .eq 190, 3), (453, .iconst 0, 1), (454, .ireturn, 1), (455, .aload_n 1, 1), (456, .aload_n 0, 1), (457, .iload 4, 2), (459, .iconst 1, 1), (460, .iadd, 1), (461, .iaload, 1), (462, .aload_n 3, 1), (463, .invokestatic 67, 3), (466, .istore 5, 2), (468, .aload_n 2, 1), (469, .aload_n 0, 1), (470, .iload 4, 2), (472, .iconst 1, 1), (473, .iadd, 1), (474, .iaload, 1), (475, .invokevirtual 72, 3), (478, .istore 6, 2), (480, .goto 160, 3)]
def zl_t7 : List (Nat × Instr × Nat) := [(483, .aload_n 1, 1), (484, .aload_n 0, 1), (485, .iload 4, 2), (487, .iconst 1, 1), (488, .iadd, 1), (489, .iaload, 1), (490, .aload_n 0, 1), (491, .iload 4, 2), (493, .iconst 2, 1), (494, .iadd, 1), (495, .iaload, 1), (496, .i2l, 1), (497, .bipush 32, 2), (499, .lshl, 1), (500, .aload_n 0, 1), (501, .iload 4, 2), (503, .iconst 3, 1), (504, .iadd, 1), (505, .iaload, 1), (506, .i2l, 1), (507, .ldc2_w 73, 3), (510, .land, 1), (511, .lor, 1), (512, .invokevirtual 75, 3), (515, .pop2, 1), (516, .aload_n 2, 1), (517, .aload_n 0, 1), (518, .iload 4, 2), (520, .iconst 1, 1), (521, .iadd, 1), (522, .iaload, 1), (523, .aload_n 0, 1), (524, .iload 4, 2), (526, .iconst 2, 1), (527, .iadd, 1), (528, .iaload, 1), (529, .i2l, 1), (530, .bipush 32, 2), (532, .lshl, 1), (533, .aload_n 0, 1)]
def zl_t8 : List (Nat × Instr × Nat) := [(534, .iload 4, 2), (536, .iconst 3, 1), (537, .iadd, 1), (538, .iaload, 1), (539, .i2l, 1), (540, .ldc2_w 73, 3), (543, .land, 1), (544, .lor, 1), (545, .invokevirtual 79, 3), (548, .pop2, 1), (549, .goto 91, 3), (552, .aload_n 1, 1), (553, .aload_n 0, 1), (554, .iload 4, 2), (556, .iconst 1, 1), (557, .iadd, 1), (558, .iaload, 1), (559, .invokevirtual 80, 3), (562, .pop, 1), (563, .aload_n 2, 1), (564, .aload_n 0, 1), (565, .iload 4, 2), (567, .iconst 1, 1), (568, .iadd, 1), (569, .iaload, 1), (570, .invokevirtual 83, 3), (573, .pop, 1), (574, .goto 66, 3), (577, .aload_n 1, 1), (578, .aload_n 0, 1), (579, .iload 4, 2), (581, .iconst 1, 1), (582, .iadd, 1), (583, .iaload, 1), (584, .invokevirtual 84, 3), (587, .pop2, 1), (588, .aload_n 2, 1), (589, .aload_n 0, 1), (590, .iload 4, 2), (592, .iconst 1, 1)]
def zl_t9 : List (Nat × Instr × Nat) := [(593, .iadd, 1), (594, .iaload, 1), (595, .invokevirtual 88, 3), (598, .pop2, 1), (599, .goto 41, 3), (602, .aload_n 1, 1), (603, .aload_n 0, 1), (604, .iload 4, 2), (606, .iconst 1, 1), (607, .iadd, 1), (608, .iaload, 1), (609, .invokevirtual 89, 3), (612, .pop, 1), (613, .aload_n 2, 1), (614, .aload_n 0, 1), (615, .iload 4, 2), (617, .iconst 1, 1), (618, .iadd, 1), (619, .iaload, 1), (620, .invokevirtual 92, 3), (623, .pop, 1), (624, .goto 16, 3), (627, .aload_n 1, 1), (628, .invokevirtual 93, 3), (631, .pop, 1), (632, .aload_n 2, 1), (633, .invokevirtual 96, 3), (636, .pop, 1), (637, .goto 3, 3), (640, .iinc 4 5, 3), (643, .goto (-620), 3), (646, .iconst 1, 1), (647, .ireturn, 1)]
def zl_q : zx_M := (⟨RL, "law", "([I)Z"⟩, code, 7, some .boolean, none, 1, 15, zl_t0 ++ (zl_t1 ++ (zl_t2 ++ (zl_t3 ++ (zl_t4 ++ (zl_t5 ++ (zl_t6 ++ (zl_t7 ++ (zl_t8 ++ (zl_t9))))))))))
set_option maxRecDepth 100000 in
theorem zl_d0 : zp_db code zl_t0 = true := by decide +kernel
set_option maxRecDepth 100000 in
theorem zl_d1 : zp_db code zl_t1 = true := by decide +kernel
set_option maxRecDepth 100000 in
theorem zl_d2 : zp_db code zl_t2 = true := by decide +kernel
set_option maxRecDepth 100000 in
theorem zl_d3 : zp_db code zl_t3 = true := by decide +kernel
set_option maxRecDepth 100000 in
theorem zl_d4 : zp_db code zl_t4 = true := by decide +kernel
set_option maxRecDepth 100000 in
theorem zl_d5 : zp_db code zl_t5 = true := by decide +kernel
set_option maxRecDepth 100000 in
theorem zl_d6 : zp_db code zl_t6 = true := by decide +kernel
set_option maxRecDepth 100000 in
theorem zl_d7 : zp_db code zl_t7 = true := by decide +kernel
set_option maxRecDepth 100000 in
theorem zl_d8 : zp_db code zl_t8 = true := by decide +kernel
set_option maxRecDepth 100000 in
theorem zl_d9 : zp_db code zl_t9 = true := by decide +kernel
def zl_P (L : Nat) (xs : Nat → Int32) : zx_P := (zp_ms, zp_po, fun o i => (zp_lk zp_ft o i).map (fun q => (q.1, q.2.1)), fun o i => (zp_lk zp_mt o i).map (fun q => q.1), fun o i => (zp_lk zp_st o i).map (fun q => q.1), (fun k => if k = 2000000 then some (L, xs) else zp_pa k), fun o i => (zp_lk zp_lt o i).map (fun q => q.1), zp_pt, fun o i => (zp_lk zp_nt o i).isSome)
theorem zl_ok (L : Nat) (xs : Nat → Int32) : zx_ok (zl_P L xs) zp_G zp_cl := zp_ok
theorem zl_qok (L : Nat) (xs : Nat → Int32) : zl_mok (zl_P L xs) zl_q := ⟨rfl, zp_db_app (zp_db_ok zl_d0) (zp_db_app (zp_db_ok zl_d1) (zp_db_app (zp_db_ok zl_d2) (zp_db_app (zp_db_ok zl_d3) (zp_db_app (zp_db_ok zl_d4) (zp_db_app (zp_db_ok zl_d5) (zp_db_app (zp_db_ok zl_d6) (zp_db_app (zp_db_ok zl_d7) (zp_db_app (zp_db_ok zl_d8) (zp_db_ok zl_d9)))))))))⟩
theorem zl_a0 : zx_at (zx_mi zl_q) 0 = some (.new 8, 3) := by decide +kernel
theorem zl_a3 : zx_at (zx_mi zl_q) 3 = some (.dup, 1) := by decide +kernel
theorem zl_a4 : zx_at (zx_mi zl_q) 4 = some (.invokespecial 15, 3) := by decide +kernel
theorem zl_a7 : zx_at (zx_mi zl_q) 7 = some (.astore_n 1, 1) := by decide +kernel
theorem zl_a8 : zx_at (zx_mi zl_q) 8 = some (.new 16, 3) := by decide +kernel
theorem zl_a11 : zx_at (zx_mi zl_q) 11 = some (.dup, 1) := by decide +kernel
theorem zl_a12 : zx_at (zx_mi zl_q) 12 = some (.invokespecial 18, 3) := by decide +kernel
theorem zl_a15 : zx_at (zx_mi zl_q) 15 = some (.astore_n 2, 1) := by decide +kernel
theorem zl_a16 : zx_at (zx_mi zl_q) 16 = some (.iconst 1, 1) := by decide +kernel
theorem zl_a17 : zx_at (zx_mi zl_q) 17 = some (.newarray .long, 2) := by decide +kernel
theorem zl_a19 : zx_at (zx_mi zl_q) 19 = some (.astore_n 3, 1) := by decide +kernel
theorem zl_a20 : zx_at (zx_mi zl_q) 20 = some (.iconst 0, 1) := by decide +kernel
theorem zl_a21 : zx_at (zx_mi zl_q) 21 = some (.istore 4, 2) := by decide +kernel
theorem zl_a23 : zx_at (zx_mi zl_q) 23 = some (.iload 4, 2) := by decide +kernel
theorem zl_a25 : zx_at (zx_mi zl_q) 25 = some (.aload_n 0, 1) := by decide +kernel
theorem zl_a26 : zx_at (zx_mi zl_q) 26 = some (.arraylength, 1) := by decide +kernel
theorem zl_a27 : zx_at (zx_mi zl_q) 27 = some (.iconst 5, 1) := by decide +kernel
theorem zl_a28 : zx_at (zx_mi zl_q) 28 = some (.isub, 1) := by decide +kernel
theorem zl_a29 : zx_at (zx_mi zl_q) 29 = some (.if_icmp .gt 617, 3) := by decide +kernel
theorem zl_a32 : zx_at (zx_mi zl_q) 32 = some (.aload_n 0, 1) := by decide +kernel
theorem zl_a33 : zx_at (zx_mi zl_q) 33 = some (.iload 4, 2) := by decide +kernel
theorem zl_a35 : zx_at (zx_mi zl_q) 35 = some (.iaload, 1) := by decide +kernel
theorem zl_a36 : zx_at (zx_mi zl_q) 36 = some (.bipush 31, 2) := by decide +kernel
theorem zl_a38 : zx_at (zx_mi zl_q) 38 = some (.iand, 1) := by decide +kernel
theorem zl_a39 : zx_at (zx_mi zl_q) 39 = some (.tableswitch 601 0 16 #[81, 106, 155, 216, 229, 242, 279, 304, 341, 390, 403, 416, 444, 513, 538, 563, 588], 81) := by decide +kernel
theorem zl_a120 : zx_at (zx_mi zl_q) 120 = some (.aload_n 1, 1) := by decide +kernel
theorem zl_a121 : zx_at (zx_mi zl_q) 121 = some (.aload_n 0, 1) := by decide +kernel
theorem zl_a122 : zx_at (zx_mi zl_q) 122 = some (.iload 4, 2) := by decide +kernel
theorem zl_a124 : zx_at (zx_mi zl_q) 124 = some (.iconst 1, 1) := by decide +kernel
theorem zl_a125 : zx_at (zx_mi zl_q) 125 = some (.iadd, 1) := by decide +kernel
theorem zl_a126 : zx_at (zx_mi zl_q) 126 = some (.iaload, 1) := by decide +kernel
theorem zl_a127 : zx_at (zx_mi zl_q) 127 = some (.invokevirtual 19, 3) := by decide +kernel
theorem zl_a130 : zx_at (zx_mi zl_q) 130 = some (.pop, 1) := by decide +kernel
theorem zl_a131 : zx_at (zx_mi zl_q) 131 = some (.aload_n 2, 1) := by decide +kernel
theorem zl_a132 : zx_at (zx_mi zl_q) 132 = some (.aload_n 0, 1) := by decide +kernel
theorem zl_a133 : zx_at (zx_mi zl_q) 133 = some (.iload 4, 2) := by decide +kernel
theorem zl_a135 : zx_at (zx_mi zl_q) 135 = some (.iconst 1, 1) := by decide +kernel
theorem zl_a136 : zx_at (zx_mi zl_q) 136 = some (.iadd, 1) := by decide +kernel
theorem zl_a137 : zx_at (zx_mi zl_q) 137 = some (.iaload, 1) := by decide +kernel
theorem zl_a138 : zx_at (zx_mi zl_q) 138 = some (.invokevirtual 22, 3) := by decide +kernel
theorem zl_a141 : zx_at (zx_mi zl_q) 141 = some (.pop, 1) := by decide +kernel
theorem zl_a142 : zx_at (zx_mi zl_q) 142 = some (.goto 498, 3) := by decide +kernel
theorem zl_a145 : zx_at (zx_mi zl_q) 145 = some (.aload_n 1, 1) := by decide +kernel
theorem zl_a146 : zx_at (zx_mi zl_q) 146 = some (.aload_n 0, 1) := by decide +kernel
theorem zl_a147 : zx_at (zx_mi zl_q) 147 = some (.iload 4, 2) := by decide +kernel
theorem zl_a149 : zx_at (zx_mi zl_q) 149 = some (.iconst 1, 1) := by decide +kernel
theorem zl_a150 : zx_at (zx_mi zl_q) 150 = some (.iadd, 1) := by decide +kernel
theorem zl_a151 : zx_at (zx_mi zl_q) 151 = some (.iaload, 1) := by decide +kernel
theorem zl_a152 : zx_at (zx_mi zl_q) 152 = some (.aload_n 0, 1) := by decide +kernel
theorem zl_a153 : zx_at (zx_mi zl_q) 153 = some (.iload 4, 2) := by decide +kernel
theorem zl_a155 : zx_at (zx_mi zl_q) 155 = some (.iconst 2, 1) := by decide +kernel
theorem zl_a156 : zx_at (zx_mi zl_q) 156 = some (.iadd, 1) := by decide +kernel
theorem zl_a157 : zx_at (zx_mi zl_q) 157 = some (.iaload, 1) := by decide +kernel
theorem zl_a158 : zx_at (zx_mi zl_q) 158 = some (.aload_n 0, 1) := by decide +kernel
theorem zl_a159 : zx_at (zx_mi zl_q) 159 = some (.iload 4, 2) := by decide +kernel
theorem zl_a161 : zx_at (zx_mi zl_q) 161 = some (.iconst 3, 1) := by decide +kernel
theorem zl_a162 : zx_at (zx_mi zl_q) 162 = some (.iadd, 1) := by decide +kernel
theorem zl_a163 : zx_at (zx_mi zl_q) 163 = some (.iaload, 1) := by decide +kernel
theorem zl_a164 : zx_at (zx_mi zl_q) 164 = some (.invokevirtual 23, 3) := by decide +kernel
theorem zl_a167 : zx_at (zx_mi zl_q) 167 = some (.pop, 1) := by decide +kernel
theorem zl_a168 : zx_at (zx_mi zl_q) 168 = some (.aload_n 2, 1) := by decide +kernel
theorem zl_a169 : zx_at (zx_mi zl_q) 169 = some (.aload_n 0, 1) := by decide +kernel
theorem zl_a170 : zx_at (zx_mi zl_q) 170 = some (.iload 4, 2) := by decide +kernel
theorem zl_a172 : zx_at (zx_mi zl_q) 172 = some (.iconst 1, 1) := by decide +kernel
theorem zl_a173 : zx_at (zx_mi zl_q) 173 = some (.iadd, 1) := by decide +kernel
theorem zl_a174 : zx_at (zx_mi zl_q) 174 = some (.iaload, 1) := by decide +kernel
theorem zl_a175 : zx_at (zx_mi zl_q) 175 = some (.aload_n 0, 1) := by decide +kernel
theorem zl_a176 : zx_at (zx_mi zl_q) 176 = some (.iload 4, 2) := by decide +kernel
theorem zl_a178 : zx_at (zx_mi zl_q) 178 = some (.iconst 2, 1) := by decide +kernel
theorem zl_a179 : zx_at (zx_mi zl_q) 179 = some (.iadd, 1) := by decide +kernel
theorem zl_a180 : zx_at (zx_mi zl_q) 180 = some (.iaload, 1) := by decide +kernel
theorem zl_a181 : zx_at (zx_mi zl_q) 181 = some (.aload_n 0, 1) := by decide +kernel
theorem zl_a182 : zx_at (zx_mi zl_q) 182 = some (.iload 4, 2) := by decide +kernel
theorem zl_a184 : zx_at (zx_mi zl_q) 184 = some (.iconst 3, 1) := by decide +kernel
theorem zl_a185 : zx_at (zx_mi zl_q) 185 = some (.iadd, 1) := by decide +kernel
theorem zl_a186 : zx_at (zx_mi zl_q) 186 = some (.iaload, 1) := by decide +kernel
theorem zl_a187 : zx_at (zx_mi zl_q) 187 = some (.invokevirtual 27, 3) := by decide +kernel
theorem zl_a190 : zx_at (zx_mi zl_q) 190 = some (.pop, 1) := by decide +kernel
theorem zl_a191 : zx_at (zx_mi zl_q) 191 = some (.goto 449, 3) := by decide +kernel
theorem zl_a194 : zx_at (zx_mi zl_q) 194 = some (.aload_n 1, 1) := by decide +kernel
theorem zl_a195 : zx_at (zx_mi zl_q) 195 = some (.aload_n 0, 1) := by decide +kernel
theorem zl_a196 : zx_at (zx_mi zl_q) 196 = some (.iload 4, 2) := by decide +kernel
theorem zl_a198 : zx_at (zx_mi zl_q) 198 = some (.iconst 1, 1) := by decide +kernel
theorem zl_a199 : zx_at (zx_mi zl_q) 199 = some (.iadd, 1) := by decide +kernel
theorem zl_a200 : zx_at (zx_mi zl_q) 200 = some (.iaload, 1) := by decide +kernel
theorem zl_a201 : zx_at (zx_mi zl_q) 201 = some (.aload_n 0, 1) := by decide +kernel
theorem zl_a202 : zx_at (zx_mi zl_q) 202 = some (.iload 4, 2) := by decide +kernel
theorem zl_a204 : zx_at (zx_mi zl_q) 204 = some (.iconst 2, 1) := by decide +kernel
theorem zl_a205 : zx_at (zx_mi zl_q) 205 = some (.iadd, 1) := by decide +kernel
theorem zl_a206 : zx_at (zx_mi zl_q) 206 = some (.iaload, 1) := by decide +kernel
theorem zl_a207 : zx_at (zx_mi zl_q) 207 = some (.aload_n 0, 1) := by decide +kernel
theorem zl_a208 : zx_at (zx_mi zl_q) 208 = some (.iload 4, 2) := by decide +kernel
theorem zl_a210 : zx_at (zx_mi zl_q) 210 = some (.iconst 3, 1) := by decide +kernel
theorem zl_a211 : zx_at (zx_mi zl_q) 211 = some (.iadd, 1) := by decide +kernel
theorem zl_a212 : zx_at (zx_mi zl_q) 212 = some (.iaload, 1) := by decide +kernel
theorem zl_a213 : zx_at (zx_mi zl_q) 213 = some (.aload_n 0, 1) := by decide +kernel
theorem zl_a214 : zx_at (zx_mi zl_q) 214 = some (.iload 4, 2) := by decide +kernel
theorem zl_a216 : zx_at (zx_mi zl_q) 216 = some (.iconst 4, 1) := by decide +kernel
theorem zl_a217 : zx_at (zx_mi zl_q) 217 = some (.iadd, 1) := by decide +kernel
theorem zl_a218 : zx_at (zx_mi zl_q) 218 = some (.iaload, 1) := by decide +kernel
theorem zl_a219 : zx_at (zx_mi zl_q) 219 = some (.invokevirtual 28, 3) := by decide +kernel
theorem zl_a222 : zx_at (zx_mi zl_q) 222 = some (.pop, 1) := by decide +kernel
theorem zl_a223 : zx_at (zx_mi zl_q) 223 = some (.aload_n 2, 1) := by decide +kernel
theorem zl_a224 : zx_at (zx_mi zl_q) 224 = some (.aload_n 0, 1) := by decide +kernel
theorem zl_a225 : zx_at (zx_mi zl_q) 225 = some (.iload 4, 2) := by decide +kernel
theorem zl_a227 : zx_at (zx_mi zl_q) 227 = some (.iconst 1, 1) := by decide +kernel
theorem zl_a228 : zx_at (zx_mi zl_q) 228 = some (.iadd, 1) := by decide +kernel
theorem zl_a229 : zx_at (zx_mi zl_q) 229 = some (.iaload, 1) := by decide +kernel
theorem zl_a230 : zx_at (zx_mi zl_q) 230 = some (.aload_n 0, 1) := by decide +kernel
theorem zl_a231 : zx_at (zx_mi zl_q) 231 = some (.iload 4, 2) := by decide +kernel
theorem zl_a233 : zx_at (zx_mi zl_q) 233 = some (.iconst 2, 1) := by decide +kernel
theorem zl_a234 : zx_at (zx_mi zl_q) 234 = some (.iadd, 1) := by decide +kernel
theorem zl_a235 : zx_at (zx_mi zl_q) 235 = some (.iaload, 1) := by decide +kernel
theorem zl_a236 : zx_at (zx_mi zl_q) 236 = some (.aload_n 0, 1) := by decide +kernel
theorem zl_a237 : zx_at (zx_mi zl_q) 237 = some (.iload 4, 2) := by decide +kernel
theorem zl_a239 : zx_at (zx_mi zl_q) 239 = some (.iconst 3, 1) := by decide +kernel
theorem zl_a240 : zx_at (zx_mi zl_q) 240 = some (.iadd, 1) := by decide +kernel
theorem zl_a241 : zx_at (zx_mi zl_q) 241 = some (.iaload, 1) := by decide +kernel
theorem zl_a242 : zx_at (zx_mi zl_q) 242 = some (.aload_n 0, 1) := by decide +kernel
theorem zl_a243 : zx_at (zx_mi zl_q) 243 = some (.iload 4, 2) := by decide +kernel
theorem zl_a245 : zx_at (zx_mi zl_q) 245 = some (.iconst 4, 1) := by decide +kernel
theorem zl_a246 : zx_at (zx_mi zl_q) 246 = some (.iadd, 1) := by decide +kernel
theorem zl_a247 : zx_at (zx_mi zl_q) 247 = some (.iaload, 1) := by decide +kernel
theorem zl_a248 : zx_at (zx_mi zl_q) 248 = some (.invokevirtual 32, 3) := by decide +kernel
theorem zl_a251 : zx_at (zx_mi zl_q) 251 = some (.pop, 1) := by decide +kernel
theorem zl_a252 : zx_at (zx_mi zl_q) 252 = some (.goto 388, 3) := by decide +kernel
theorem zl_a255 : zx_at (zx_mi zl_q) 255 = some (.aload_n 1, 1) := by decide +kernel
theorem zl_a256 : zx_at (zx_mi zl_q) 256 = some (.invokevirtual 33, 3) := by decide +kernel
theorem zl_a259 : zx_at (zx_mi zl_q) 259 = some (.pop, 1) := by decide +kernel
theorem zl_a260 : zx_at (zx_mi zl_q) 260 = some (.aload_n 2, 1) := by decide +kernel
theorem zl_a261 : zx_at (zx_mi zl_q) 261 = some (.invokevirtual 37, 3) := by decide +kernel
theorem zl_a264 : zx_at (zx_mi zl_q) 264 = some (.pop, 1) := by decide +kernel
theorem zl_a265 : zx_at (zx_mi zl_q) 265 = some (.goto 375, 3) := by decide +kernel
theorem zl_a268 : zx_at (zx_mi zl_q) 268 = some (.aload_n 1, 1) := by decide +kernel
theorem zl_a269 : zx_at (zx_mi zl_q) 269 = some (.invokevirtual 38, 3) := by decide +kernel
theorem zl_a272 : zx_at (zx_mi zl_q) 272 = some (.pop, 1) := by decide +kernel
theorem zl_a273 : zx_at (zx_mi zl_q) 273 = some (.aload_n 2, 1) := by decide +kernel
theorem zl_a274 : zx_at (zx_mi zl_q) 274 = some (.invokevirtual 41, 3) := by decide +kernel
theorem zl_a277 : zx_at (zx_mi zl_q) 277 = some (.pop, 1) := by decide +kernel
theorem zl_a278 : zx_at (zx_mi zl_q) 278 = some (.goto 362, 3) := by decide +kernel
theorem zl_a281 : zx_at (zx_mi zl_q) 281 = some (.aload_n 1, 1) := by decide +kernel
theorem zl_a282 : zx_at (zx_mi zl_q) 282 = some (.aload_n 0, 1) := by decide +kernel
theorem zl_a283 : zx_at (zx_mi zl_q) 283 = some (.iload 4, 2) := by decide +kernel
theorem zl_a285 : zx_at (zx_mi zl_q) 285 = some (.iconst 1, 1) := by decide +kernel
theorem zl_a286 : zx_at (zx_mi zl_q) 286 = some (.iadd, 1) := by decide +kernel
theorem zl_a287 : zx_at (zx_mi zl_q) 287 = some (.iaload, 1) := by decide +kernel
theorem zl_a288 : zx_at (zx_mi zl_q) 288 = some (.aload_n 0, 1) := by decide +kernel
theorem zl_a289 : zx_at (zx_mi zl_q) 289 = some (.iload 4, 2) := by decide +kernel
theorem zl_a291 : zx_at (zx_mi zl_q) 291 = some (.iconst 2, 1) := by decide +kernel
theorem zl_a292 : zx_at (zx_mi zl_q) 292 = some (.iadd, 1) := by decide +kernel
theorem zl_a293 : zx_at (zx_mi zl_q) 293 = some (.iaload, 1) := by decide +kernel
theorem zl_a294 : zx_at (zx_mi zl_q) 294 = some (.invokevirtual 42, 3) := by decide +kernel
theorem zl_a297 : zx_at (zx_mi zl_q) 297 = some (.pop, 1) := by decide +kernel
theorem zl_a298 : zx_at (zx_mi zl_q) 298 = some (.aload_n 2, 1) := by decide +kernel
theorem zl_a299 : zx_at (zx_mi zl_q) 299 = some (.aload_n 0, 1) := by decide +kernel
theorem zl_a300 : zx_at (zx_mi zl_q) 300 = some (.iload 4, 2) := by decide +kernel
theorem zl_a302 : zx_at (zx_mi zl_q) 302 = some (.iconst 1, 1) := by decide +kernel
theorem zl_a303 : zx_at (zx_mi zl_q) 303 = some (.iadd, 1) := by decide +kernel
theorem zl_a304 : zx_at (zx_mi zl_q) 304 = some (.iaload, 1) := by decide +kernel
theorem zl_a305 : zx_at (zx_mi zl_q) 305 = some (.aload_n 0, 1) := by decide +kernel
theorem zl_a306 : zx_at (zx_mi zl_q) 306 = some (.iload 4, 2) := by decide +kernel
theorem zl_a308 : zx_at (zx_mi zl_q) 308 = some (.iconst 2, 1) := by decide +kernel
theorem zl_a309 : zx_at (zx_mi zl_q) 309 = some (.iadd, 1) := by decide +kernel
theorem zl_a310 : zx_at (zx_mi zl_q) 310 = some (.iaload, 1) := by decide +kernel
theorem zl_a311 : zx_at (zx_mi zl_q) 311 = some (.invokevirtual 46, 3) := by decide +kernel
theorem zl_a314 : zx_at (zx_mi zl_q) 314 = some (.pop, 1) := by decide +kernel
theorem zl_a315 : zx_at (zx_mi zl_q) 315 = some (.goto 325, 3) := by decide +kernel
theorem zl_a318 : zx_at (zx_mi zl_q) 318 = some (.aload_n 1, 1) := by decide +kernel
theorem zl_a319 : zx_at (zx_mi zl_q) 319 = some (.aload_n 0, 1) := by decide +kernel
theorem zl_a320 : zx_at (zx_mi zl_q) 320 = some (.iload 4, 2) := by decide +kernel
theorem zl_a322 : zx_at (zx_mi zl_q) 322 = some (.iconst 1, 1) := by decide +kernel
theorem zl_a323 : zx_at (zx_mi zl_q) 323 = some (.iadd, 1) := by decide +kernel
theorem zl_a324 : zx_at (zx_mi zl_q) 324 = some (.iaload, 1) := by decide +kernel
theorem zl_a325 : zx_at (zx_mi zl_q) 325 = some (.invokevirtual 47, 3) := by decide +kernel
theorem zl_a328 : zx_at (zx_mi zl_q) 328 = some (.pop, 1) := by decide +kernel
theorem zl_a329 : zx_at (zx_mi zl_q) 329 = some (.aload_n 2, 1) := by decide +kernel
theorem zl_a330 : zx_at (zx_mi zl_q) 330 = some (.aload_n 0, 1) := by decide +kernel
theorem zl_a331 : zx_at (zx_mi zl_q) 331 = some (.iload 4, 2) := by decide +kernel
theorem zl_a333 : zx_at (zx_mi zl_q) 333 = some (.iconst 1, 1) := by decide +kernel
theorem zl_a334 : zx_at (zx_mi zl_q) 334 = some (.iadd, 1) := by decide +kernel
theorem zl_a335 : zx_at (zx_mi zl_q) 335 = some (.iaload, 1) := by decide +kernel
theorem zl_a336 : zx_at (zx_mi zl_q) 336 = some (.invokevirtual 50, 3) := by decide +kernel
theorem zl_a339 : zx_at (zx_mi zl_q) 339 = some (.pop, 1) := by decide +kernel
theorem zl_a340 : zx_at (zx_mi zl_q) 340 = some (.goto 300, 3) := by decide +kernel
theorem zl_a343 : zx_at (zx_mi zl_q) 343 = some (.aload_n 1, 1) := by decide +kernel
theorem zl_a344 : zx_at (zx_mi zl_q) 344 = some (.aload_n 0, 1) := by decide +kernel
theorem zl_a345 : zx_at (zx_mi zl_q) 345 = some (.iload 4, 2) := by decide +kernel
theorem zl_a347 : zx_at (zx_mi zl_q) 347 = some (.iconst 1, 1) := by decide +kernel
theorem zl_a348 : zx_at (zx_mi zl_q) 348 = some (.iadd, 1) := by decide +kernel
theorem zl_a349 : zx_at (zx_mi zl_q) 349 = some (.iaload, 1) := by decide +kernel
theorem zl_a350 : zx_at (zx_mi zl_q) 350 = some (.aload_n 0, 1) := by decide +kernel
theorem zl_a351 : zx_at (zx_mi zl_q) 351 = some (.iload 4, 2) := by decide +kernel
theorem zl_a353 : zx_at (zx_mi zl_q) 353 = some (.iconst 2, 1) := by decide +kernel
theorem zl_a354 : zx_at (zx_mi zl_q) 354 = some (.iadd, 1) := by decide +kernel
theorem zl_a355 : zx_at (zx_mi zl_q) 355 = some (.iaload, 1) := by decide +kernel
theorem zl_a356 : zx_at (zx_mi zl_q) 356 = some (.invokevirtual 51, 3) := by decide +kernel
theorem zl_a359 : zx_at (zx_mi zl_q) 359 = some (.pop, 1) := by decide +kernel
theorem zl_a360 : zx_at (zx_mi zl_q) 360 = some (.aload_n 2, 1) := by decide +kernel
theorem zl_a361 : zx_at (zx_mi zl_q) 361 = some (.aload_n 0, 1) := by decide +kernel
theorem zl_a362 : zx_at (zx_mi zl_q) 362 = some (.iload 4, 2) := by decide +kernel
theorem zl_a364 : zx_at (zx_mi zl_q) 364 = some (.iconst 1, 1) := by decide +kernel
theorem zl_a365 : zx_at (zx_mi zl_q) 365 = some (.iadd, 1) := by decide +kernel
theorem zl_a366 : zx_at (zx_mi zl_q) 366 = some (.iaload, 1) := by decide +kernel
theorem zl_a367 : zx_at (zx_mi zl_q) 367 = some (.aload_n 0, 1) := by decide +kernel
theorem zl_a368 : zx_at (zx_mi zl_q) 368 = some (.iload 4, 2) := by decide +kernel
theorem zl_a370 : zx_at (zx_mi zl_q) 370 = some (.iconst 2, 1) := by decide +kernel
theorem zl_a371 : zx_at (zx_mi zl_q) 371 = some (.iadd, 1) := by decide +kernel
theorem zl_a372 : zx_at (zx_mi zl_q) 372 = some (.iaload, 1) := by decide +kernel
theorem zl_a373 : zx_at (zx_mi zl_q) 373 = some (.invokevirtual 54, 3) := by decide +kernel
theorem zl_a376 : zx_at (zx_mi zl_q) 376 = some (.pop, 1) := by decide +kernel
theorem zl_a377 : zx_at (zx_mi zl_q) 377 = some (.goto 263, 3) := by decide +kernel
theorem zl_a380 : zx_at (zx_mi zl_q) 380 = some (.aload_n 1, 1) := by decide +kernel
theorem zl_a381 : zx_at (zx_mi zl_q) 381 = some (.aload_n 0, 1) := by decide +kernel
theorem zl_a382 : zx_at (zx_mi zl_q) 382 = some (.iload 4, 2) := by decide +kernel
theorem zl_a384 : zx_at (zx_mi zl_q) 384 = some (.iconst 1, 1) := by decide +kernel
theorem zl_a385 : zx_at (zx_mi zl_q) 385 = some (.iadd, 1) := by decide +kernel
theorem zl_a386 : zx_at (zx_mi zl_q) 386 = some (.iaload, 1) := by decide +kernel
theorem zl_a387 : zx_at (zx_mi zl_q) 387 = some (.aload_n 0, 1) := by decide +kernel
theorem zl_a388 : zx_at (zx_mi zl_q) 388 = some (.iload 4, 2) := by decide +kernel
theorem zl_a390 : zx_at (zx_mi zl_q) 390 = some (.iconst 2, 1) := by decide +kernel
theorem zl_a391 : zx_at (zx_mi zl_q) 391 = some (.iadd, 1) := by decide +kernel
theorem zl_a392 : zx_at (zx_mi zl_q) 392 = some (.iaload, 1) := by decide +kernel
theorem zl_a393 : zx_at (zx_mi zl_q) 393 = some (.aload_n 0, 1) := by decide +kernel
theorem zl_a394 : zx_at (zx_mi zl_q) 394 = some (.iload 4, 2) := by decide +kernel
theorem zl_a396 : zx_at (zx_mi zl_q) 396 = some (.iconst 3, 1) := by decide +kernel
theorem zl_a397 : zx_at (zx_mi zl_q) 397 = some (.iadd, 1) := by decide +kernel
theorem zl_a398 : zx_at (zx_mi zl_q) 398 = some (.iaload, 1) := by decide +kernel
theorem zl_a399 : zx_at (zx_mi zl_q) 399 = some (.invokevirtual 55, 3) := by decide +kernel
theorem zl_a402 : zx_at (zx_mi zl_q) 402 = some (.pop, 1) := by decide +kernel
theorem zl_a403 : zx_at (zx_mi zl_q) 403 = some (.aload_n 2, 1) := by decide +kernel
theorem zl_a404 : zx_at (zx_mi zl_q) 404 = some (.aload_n 0, 1) := by decide +kernel
theorem zl_a405 : zx_at (zx_mi zl_q) 405 = some (.iload 4, 2) := by decide +kernel
theorem zl_a407 : zx_at (zx_mi zl_q) 407 = some (.iconst 1, 1) := by decide +kernel
theorem zl_a408 : zx_at (zx_mi zl_q) 408 = some (.iadd, 1) := by decide +kernel
theorem zl_a409 : zx_at (zx_mi zl_q) 409 = some (.iaload, 1) := by decide +kernel
theorem zl_a410 : zx_at (zx_mi zl_q) 410 = some (.aload_n 0, 1) := by decide +kernel
theorem zl_a411 : zx_at (zx_mi zl_q) 411 = some (.iload 4, 2) := by decide +kernel
theorem zl_a413 : zx_at (zx_mi zl_q) 413 = some (.iconst 2, 1) := by decide +kernel
theorem zl_a414 : zx_at (zx_mi zl_q) 414 = some (.iadd, 1) := by decide +kernel
theorem zl_a415 : zx_at (zx_mi zl_q) 415 = some (.iaload, 1) := by decide +kernel
theorem zl_a416 : zx_at (zx_mi zl_q) 416 = some (.aload_n 0, 1) := by decide +kernel
theorem zl_a417 : zx_at (zx_mi zl_q) 417 = some (.iload 4, 2) := by decide +kernel
theorem zl_a419 : zx_at (zx_mi zl_q) 419 = some (.iconst 3, 1) := by decide +kernel
theorem zl_a420 : zx_at (zx_mi zl_q) 420 = some (.iadd, 1) := by decide +kernel
theorem zl_a421 : zx_at (zx_mi zl_q) 421 = some (.iaload, 1) := by decide +kernel
theorem zl_a422 : zx_at (zx_mi zl_q) 422 = some (.invokevirtual 58, 3) := by decide +kernel
theorem zl_a425 : zx_at (zx_mi zl_q) 425 = some (.pop, 1) := by decide +kernel
theorem zl_a426 : zx_at (zx_mi zl_q) 426 = some (.goto 214, 3) := by decide +kernel
theorem zl_a429 : zx_at (zx_mi zl_q) 429 = some (.aload_n 1, 1) := by decide +kernel
theorem zl_a430 : zx_at (zx_mi zl_q) 430 = some (.invokevirtual 59, 3) := by decide +kernel
theorem zl_a433 : zx_at (zx_mi zl_q) 433 = some (.pop, 1) := by decide +kernel
theorem zl_a434 : zx_at (zx_mi zl_q) 434 = some (.aload_n 2, 1) := by decide +kernel
theorem zl_a435 : zx_at (zx_mi zl_q) 435 = some (.invokevirtual 62, 3) := by decide +kernel
theorem zl_a438 : zx_at (zx_mi zl_q) 438 = some (.pop, 1) := by decide +kernel
theorem zl_a439 : zx_at (zx_mi zl_q) 439 = some (.goto 201, 3) := by decide +kernel
theorem zl_a442 : zx_at (zx_mi zl_q) 442 = some (.aload_n 1, 1) := by decide +kernel
theorem zl_a443 : zx_at (zx_mi zl_q) 443 = some (.invokevirtual 63, 3) := by decide +kernel
theorem zl_a446 : zx_at (zx_mi zl_q) 446 = some (.aload_n 2, 1) := by decide +kernel
theorem zl_a447 : zx_at (zx_mi zl_q) 447 = some (.invokevirtual 66, 3) := by decide +kernel
theorem zl_a450 : zx_at (zx_mi zl_q) 450 = some (.if_icmp .eq 190, 3) := by decide +kernel
theorem zl_a453 : zx_at (zx_mi zl_q) 453 = some (.iconst 0, 1) := by decide +kernel
theorem zl_a454 : zx_at (zx_mi zl_q) 454 = some (.ireturn, 1) := by decide +kernel
theorem zl_a455 : zx_at (zx_mi zl_q) 455 = some (.aload_n 1, 1) := by decide +kernel
theorem zl_a456 : zx_at (zx_mi zl_q) 456 = some (.aload_n 0, 1) := by decide +kernel
theorem zl_a457 : zx_at (zx_mi zl_q) 457 = some (.iload 4, 2) := by decide +kernel
theorem zl_a459 : zx_at (zx_mi zl_q) 459 = some (.iconst 1, 1) := by decide +kernel
theorem zl_a460 : zx_at (zx_mi zl_q) 460 = some (.iadd, 1) := by decide +kernel
theorem zl_a461 : zx_at (zx_mi zl_q) 461 = some (.iaload, 1) := by decide +kernel
theorem zl_a462 : zx_at (zx_mi zl_q) 462 = some (.aload_n 3, 1) := by decide +kernel
theorem zl_a463 : zx_at (zx_mi zl_q) 463 = some (.invokestatic 67, 3) := by decide +kernel
theorem zl_a466 : zx_at (zx_mi zl_q) 466 = some (.istore 5, 2) := by decide +kernel
theorem zl_a468 : zx_at (zx_mi zl_q) 468 = some (.aload_n 2, 1) := by decide +kernel
theorem zl_a469 : zx_at (zx_mi zl_q) 469 = some (.aload_n 0, 1) := by decide +kernel
theorem zl_a470 : zx_at (zx_mi zl_q) 470 = some (.iload 4, 2) := by decide +kernel
theorem zl_a472 : zx_at (zx_mi zl_q) 472 = some (.iconst 1, 1) := by decide +kernel
theorem zl_a473 : zx_at (zx_mi zl_q) 473 = some (.iadd, 1) := by decide +kernel
theorem zl_a474 : zx_at (zx_mi zl_q) 474 = some (.iaload, 1) := by decide +kernel
theorem zl_a475 : zx_at (zx_mi zl_q) 475 = some (.invokevirtual 72, 3) := by decide +kernel
theorem zl_a478 : zx_at (zx_mi zl_q) 478 = some (.istore 6, 2) := by decide +kernel
theorem zl_a480 : zx_at (zx_mi zl_q) 480 = some (.goto 160, 3) := by decide +kernel
theorem zl_a483 : zx_at (zx_mi zl_q) 483 = some (.aload_n 1, 1) := by decide +kernel
theorem zl_a484 : zx_at (zx_mi zl_q) 484 = some (.aload_n 0, 1) := by decide +kernel
theorem zl_a485 : zx_at (zx_mi zl_q) 485 = some (.iload 4, 2) := by decide +kernel
theorem zl_a487 : zx_at (zx_mi zl_q) 487 = some (.iconst 1, 1) := by decide +kernel
theorem zl_a488 : zx_at (zx_mi zl_q) 488 = some (.iadd, 1) := by decide +kernel
theorem zl_a489 : zx_at (zx_mi zl_q) 489 = some (.iaload, 1) := by decide +kernel
theorem zl_a490 : zx_at (zx_mi zl_q) 490 = some (.aload_n 0, 1) := by decide +kernel
theorem zl_a491 : zx_at (zx_mi zl_q) 491 = some (.iload 4, 2) := by decide +kernel
theorem zl_a493 : zx_at (zx_mi zl_q) 493 = some (.iconst 2, 1) := by decide +kernel
theorem zl_a494 : zx_at (zx_mi zl_q) 494 = some (.iadd, 1) := by decide +kernel
theorem zl_a495 : zx_at (zx_mi zl_q) 495 = some (.iaload, 1) := by decide +kernel
theorem zl_a496 : zx_at (zx_mi zl_q) 496 = some (.i2l, 1) := by decide +kernel
theorem zl_a497 : zx_at (zx_mi zl_q) 497 = some (.bipush 32, 2) := by decide +kernel
theorem zl_a499 : zx_at (zx_mi zl_q) 499 = some (.lshl, 1) := by decide +kernel
theorem zl_a500 : zx_at (zx_mi zl_q) 500 = some (.aload_n 0, 1) := by decide +kernel
theorem zl_a501 : zx_at (zx_mi zl_q) 501 = some (.iload 4, 2) := by decide +kernel
theorem zl_a503 : zx_at (zx_mi zl_q) 503 = some (.iconst 3, 1) := by decide +kernel
theorem zl_a504 : zx_at (zx_mi zl_q) 504 = some (.iadd, 1) := by decide +kernel
theorem zl_a505 : zx_at (zx_mi zl_q) 505 = some (.iaload, 1) := by decide +kernel
theorem zl_a506 : zx_at (zx_mi zl_q) 506 = some (.i2l, 1) := by decide +kernel
theorem zl_a507 : zx_at (zx_mi zl_q) 507 = some (.ldc2_w 73, 3) := by decide +kernel
theorem zl_a510 : zx_at (zx_mi zl_q) 510 = some (.land, 1) := by decide +kernel
theorem zl_a511 : zx_at (zx_mi zl_q) 511 = some (.lor, 1) := by decide +kernel
theorem zl_a512 : zx_at (zx_mi zl_q) 512 = some (.invokevirtual 75, 3) := by decide +kernel
theorem zl_a515 : zx_at (zx_mi zl_q) 515 = some (.pop2, 1) := by decide +kernel
theorem zl_a516 : zx_at (zx_mi zl_q) 516 = some (.aload_n 2, 1) := by decide +kernel
theorem zl_a517 : zx_at (zx_mi zl_q) 517 = some (.aload_n 0, 1) := by decide +kernel
theorem zl_a518 : zx_at (zx_mi zl_q) 518 = some (.iload 4, 2) := by decide +kernel
theorem zl_a520 : zx_at (zx_mi zl_q) 520 = some (.iconst 1, 1) := by decide +kernel
theorem zl_a521 : zx_at (zx_mi zl_q) 521 = some (.iadd, 1) := by decide +kernel
theorem zl_a522 : zx_at (zx_mi zl_q) 522 = some (.iaload, 1) := by decide +kernel
theorem zl_a523 : zx_at (zx_mi zl_q) 523 = some (.aload_n 0, 1) := by decide +kernel
theorem zl_a524 : zx_at (zx_mi zl_q) 524 = some (.iload 4, 2) := by decide +kernel
theorem zl_a526 : zx_at (zx_mi zl_q) 526 = some (.iconst 2, 1) := by decide +kernel
theorem zl_a527 : zx_at (zx_mi zl_q) 527 = some (.iadd, 1) := by decide +kernel
theorem zl_a528 : zx_at (zx_mi zl_q) 528 = some (.iaload, 1) := by decide +kernel
theorem zl_a529 : zx_at (zx_mi zl_q) 529 = some (.i2l, 1) := by decide +kernel
theorem zl_a530 : zx_at (zx_mi zl_q) 530 = some (.bipush 32, 2) := by decide +kernel
theorem zl_a532 : zx_at (zx_mi zl_q) 532 = some (.lshl, 1) := by decide +kernel
theorem zl_a533 : zx_at (zx_mi zl_q) 533 = some (.aload_n 0, 1) := by decide +kernel
theorem zl_a534 : zx_at (zx_mi zl_q) 534 = some (.iload 4, 2) := by decide +kernel
theorem zl_a536 : zx_at (zx_mi zl_q) 536 = some (.iconst 3, 1) := by decide +kernel
theorem zl_a537 : zx_at (zx_mi zl_q) 537 = some (.iadd, 1) := by decide +kernel
theorem zl_a538 : zx_at (zx_mi zl_q) 538 = some (.iaload, 1) := by decide +kernel
theorem zl_a539 : zx_at (zx_mi zl_q) 539 = some (.i2l, 1) := by decide +kernel
theorem zl_a540 : zx_at (zx_mi zl_q) 540 = some (.ldc2_w 73, 3) := by decide +kernel
theorem zl_a543 : zx_at (zx_mi zl_q) 543 = some (.land, 1) := by decide +kernel
theorem zl_a544 : zx_at (zx_mi zl_q) 544 = some (.lor, 1) := by decide +kernel
theorem zl_a545 : zx_at (zx_mi zl_q) 545 = some (.invokevirtual 79, 3) := by decide +kernel
theorem zl_a548 : zx_at (zx_mi zl_q) 548 = some (.pop2, 1) := by decide +kernel
theorem zl_a549 : zx_at (zx_mi zl_q) 549 = some (.goto 91, 3) := by decide +kernel
theorem zl_a552 : zx_at (zx_mi zl_q) 552 = some (.aload_n 1, 1) := by decide +kernel
theorem zl_a553 : zx_at (zx_mi zl_q) 553 = some (.aload_n 0, 1) := by decide +kernel
theorem zl_a554 : zx_at (zx_mi zl_q) 554 = some (.iload 4, 2) := by decide +kernel
theorem zl_a556 : zx_at (zx_mi zl_q) 556 = some (.iconst 1, 1) := by decide +kernel
theorem zl_a557 : zx_at (zx_mi zl_q) 557 = some (.iadd, 1) := by decide +kernel
theorem zl_a558 : zx_at (zx_mi zl_q) 558 = some (.iaload, 1) := by decide +kernel
theorem zl_a559 : zx_at (zx_mi zl_q) 559 = some (.invokevirtual 80, 3) := by decide +kernel
theorem zl_a562 : zx_at (zx_mi zl_q) 562 = some (.pop, 1) := by decide +kernel
theorem zl_a563 : zx_at (zx_mi zl_q) 563 = some (.aload_n 2, 1) := by decide +kernel
theorem zl_a564 : zx_at (zx_mi zl_q) 564 = some (.aload_n 0, 1) := by decide +kernel
theorem zl_a565 : zx_at (zx_mi zl_q) 565 = some (.iload 4, 2) := by decide +kernel
theorem zl_a567 : zx_at (zx_mi zl_q) 567 = some (.iconst 1, 1) := by decide +kernel
theorem zl_a568 : zx_at (zx_mi zl_q) 568 = some (.iadd, 1) := by decide +kernel
theorem zl_a569 : zx_at (zx_mi zl_q) 569 = some (.iaload, 1) := by decide +kernel
theorem zl_a570 : zx_at (zx_mi zl_q) 570 = some (.invokevirtual 83, 3) := by decide +kernel
theorem zl_a573 : zx_at (zx_mi zl_q) 573 = some (.pop, 1) := by decide +kernel
theorem zl_a574 : zx_at (zx_mi zl_q) 574 = some (.goto 66, 3) := by decide +kernel
theorem zl_a577 : zx_at (zx_mi zl_q) 577 = some (.aload_n 1, 1) := by decide +kernel
theorem zl_a578 : zx_at (zx_mi zl_q) 578 = some (.aload_n 0, 1) := by decide +kernel
theorem zl_a579 : zx_at (zx_mi zl_q) 579 = some (.iload 4, 2) := by decide +kernel
theorem zl_a581 : zx_at (zx_mi zl_q) 581 = some (.iconst 1, 1) := by decide +kernel
theorem zl_a582 : zx_at (zx_mi zl_q) 582 = some (.iadd, 1) := by decide +kernel
theorem zl_a583 : zx_at (zx_mi zl_q) 583 = some (.iaload, 1) := by decide +kernel
theorem zl_a584 : zx_at (zx_mi zl_q) 584 = some (.invokevirtual 84, 3) := by decide +kernel
theorem zl_a587 : zx_at (zx_mi zl_q) 587 = some (.pop2, 1) := by decide +kernel
theorem zl_a588 : zx_at (zx_mi zl_q) 588 = some (.aload_n 2, 1) := by decide +kernel
theorem zl_a589 : zx_at (zx_mi zl_q) 589 = some (.aload_n 0, 1) := by decide +kernel
theorem zl_a590 : zx_at (zx_mi zl_q) 590 = some (.iload 4, 2) := by decide +kernel
theorem zl_a592 : zx_at (zx_mi zl_q) 592 = some (.iconst 1, 1) := by decide +kernel
theorem zl_a593 : zx_at (zx_mi zl_q) 593 = some (.iadd, 1) := by decide +kernel
theorem zl_a594 : zx_at (zx_mi zl_q) 594 = some (.iaload, 1) := by decide +kernel
theorem zl_a595 : zx_at (zx_mi zl_q) 595 = some (.invokevirtual 88, 3) := by decide +kernel
theorem zl_a598 : zx_at (zx_mi zl_q) 598 = some (.pop2, 1) := by decide +kernel
theorem zl_a599 : zx_at (zx_mi zl_q) 599 = some (.goto 41, 3) := by decide +kernel
theorem zl_a602 : zx_at (zx_mi zl_q) 602 = some (.aload_n 1, 1) := by decide +kernel
theorem zl_a603 : zx_at (zx_mi zl_q) 603 = some (.aload_n 0, 1) := by decide +kernel
theorem zl_a604 : zx_at (zx_mi zl_q) 604 = some (.iload 4, 2) := by decide +kernel
theorem zl_a606 : zx_at (zx_mi zl_q) 606 = some (.iconst 1, 1) := by decide +kernel
theorem zl_a607 : zx_at (zx_mi zl_q) 607 = some (.iadd, 1) := by decide +kernel
theorem zl_a608 : zx_at (zx_mi zl_q) 608 = some (.iaload, 1) := by decide +kernel
theorem zl_a609 : zx_at (zx_mi zl_q) 609 = some (.invokevirtual 89, 3) := by decide +kernel
theorem zl_a612 : zx_at (zx_mi zl_q) 612 = some (.pop, 1) := by decide +kernel
theorem zl_a613 : zx_at (zx_mi zl_q) 613 = some (.aload_n 2, 1) := by decide +kernel
theorem zl_a614 : zx_at (zx_mi zl_q) 614 = some (.aload_n 0, 1) := by decide +kernel
theorem zl_a615 : zx_at (zx_mi zl_q) 615 = some (.iload 4, 2) := by decide +kernel
theorem zl_a617 : zx_at (zx_mi zl_q) 617 = some (.iconst 1, 1) := by decide +kernel
theorem zl_a618 : zx_at (zx_mi zl_q) 618 = some (.iadd, 1) := by decide +kernel
theorem zl_a619 : zx_at (zx_mi zl_q) 619 = some (.iaload, 1) := by decide +kernel
theorem zl_a620 : zx_at (zx_mi zl_q) 620 = some (.invokevirtual 92, 3) := by decide +kernel
theorem zl_a623 : zx_at (zx_mi zl_q) 623 = some (.pop, 1) := by decide +kernel
theorem zl_a624 : zx_at (zx_mi zl_q) 624 = some (.goto 16, 3) := by decide +kernel
theorem zl_a627 : zx_at (zx_mi zl_q) 627 = some (.aload_n 1, 1) := by decide +kernel
theorem zl_a628 : zx_at (zx_mi zl_q) 628 = some (.invokevirtual 93, 3) := by decide +kernel
theorem zl_a631 : zx_at (zx_mi zl_q) 631 = some (.pop, 1) := by decide +kernel
theorem zl_a632 : zx_at (zx_mi zl_q) 632 = some (.aload_n 2, 1) := by decide +kernel
theorem zl_a633 : zx_at (zx_mi zl_q) 633 = some (.invokevirtual 96, 3) := by decide +kernel
theorem zl_a636 : zx_at (zx_mi zl_q) 636 = some (.pop, 1) := by decide +kernel
theorem zl_a637 : zx_at (zx_mi zl_q) 637 = some (.goto 3, 3) := by decide +kernel
theorem zl_a640 : zx_at (zx_mi zl_q) 640 = some (.iinc 4 5, 3) := by decide +kernel
theorem zl_a643 : zx_at (zx_mi zl_q) 643 = some (.goto (-620), 3) := by decide +kernel
theorem zl_a646 : zx_at (zx_mi zl_q) 646 = some (.iconst 1, 1) := by decide +kernel
theorem zl_a647 : zx_at (zx_mi zl_q) 647 = some (.ireturn, 1) := by decide +kernel
