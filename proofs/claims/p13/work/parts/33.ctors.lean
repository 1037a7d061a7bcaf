/-! ===== 33: the constructors: tables, links, runs (by program) ===== -/
def zq_t0_0 : List (Nat × Instr × Nat) := [(0, .aload_n 0, 1), (1, .invokespecial 3, 3), (4, .aload_n 0, 1), (5, .bipush 60, 2), (7, .newarray .int, 2), (9, .putfield 9, 3), (12, .aload_n 0, 1), (13, .bipush 60, 2), (15, .newarray .int, 2), (17, .putfield 15, 3), (20, .aload_n 0, 1), (21, .bipush 60, 2), (23, .newarray .int, 2), (25, .putfield 18, 3), (28, .aload_n 0, 1), (29, .bipush 6, 2), (31, .newarray .int, 2), (33, .putfield 21, 3), (36, .aload_n 0, 1), (37, .bipush 6, 2), (39, .newarray .int, 2), (41, .putfield 24, 3), (44, .aload_n 0, 1), (45, .bipush 6, 2), (47, .newarray .int, 2), (49, .putfield 27, 3), (52, .aload_n 0, 1), (53, .bipush 6, 2), (55, .newarray .int, 2), (57, .putfield 30, 3), (60, .aload_n 0, 1), (61, .bipush 8, 2), (63, .newarray .int, 2), (65, .putfield 33, 3), (68, .return_, 1)]
/-- ClassFrames$Code -/
def zq_m0 : zx_M := (⟨RX0, "<init>", "()V"⟩, prog_2_method_1_code, 1, none, some 0, 0, 0, zq_t0_0)
set_option maxRecDepth 100000 in
theorem zq_d0_0 : zp_db prog_2_method_1_code zq_t0_0 = true := by decide +kernel
set_option maxRecDepth 100000 in
theorem zq_k0 : zy_mok zp_P zp_G zq_m0 := ⟨by decide +kernel, ⟨by decide +kernel, by decide +kernel⟩, by decide +kernel, by decide +kernel, zp_cd_ok (i := 126) rfl (by decide +kernel), zp_in_ok (i := 94) (by decide +kernel), zp_in_ok (i := 125) (by decide +kernel), rfl, zp_db_ok zq_d0_0⟩
def zq_t1_0 : List (Nat × Instr × Nat) := [(0, .aload_n 0, 1), (1, .invokespecial 3, 3), (4, .aload_n 0, 1), (5, .new 9, 3), (8, .dup, 1), (9, .invokespecial 11, 3), (12, .putfield 12, 3), (15, .aload_n 0, 1), (16, .bipush 60, 2), (18, .newarray .int, 2), (20, .putfield 18, 3), (23, .aload_n 0, 1), (24, .bipush 60, 2), (26, .newarray .int, 2), (28, .putfield 22, 3), (31, .return_, 1)]
/-- ClassFrames$Frames -/
def zq_m1 : zx_M := (⟨RX2, "<init>", "()V"⟩, prog_4_method_1_code, 1, none, some 1, 0, 2, zq_t1_0)
set_option maxRecDepth 100000 in
theorem zq_d1_0 : zp_db prog_4_method_1_code zq_t1_0 = true := by decide +kernel
set_option maxRecDepth 100000 in
theorem zq_k1 : zy_mok zp_P zp_G zq_m1 := ⟨by decide +kernel, ⟨by decide +kernel, by decide +kernel⟩, by decide +kernel, by decide +kernel, zp_cd_ok (i := 167) rfl (by decide +kernel), zp_in_ok (i := 95) (by decide +kernel), zp_in_ok (i := 166) (by decide +kernel), rfl, zp_db_ok zq_d1_0⟩
def zq_t2_0 : List (Nat × Instr × Nat) := [(0, .aload_n 0, 1), (1, .invokespecial 3, 3), (4, .aload_n 0, 1), (5, .new 9, 3), (8, .dup, 1), (9, .invokespecial 11, 3), (12, .putfield 12, 3), (15, .aload_n 0, 1), (16, .new 9, 3), (19, .dup, 1), (20, .invokespecial 11, 3), (23, .putfield 18, 3), (26, .aload_n 0, 1), (27, .aload_n 1, 1), (28, .putfield 21, 3), (31, .aload_n 0, 1), (32, .aload_n 2, 1), (33, .putfield 25, 3), (36, .aload_n 0, 1), (37, .aload_n 3, 1), (38, .putfield 29, 3), (41, .return_, 1)]
/-- ClassFrames$Judge -/
def zq_m2 : zx_M := (⟨RX3, "<init>", "(LClassFrames$Code;LClassFrames$Maker;LClassFrames$Frames;)V"⟩, prog_5_method_1_code, 4, none, some 2, 3, 3, zq_t2_0)
set_option maxRecDepth 100000 in
theorem zq_d2_0 : zp_db prog_5_method_1_code zq_t2_0 = true := by decide +kernel
set_option maxRecDepth 100000 in
theorem zq_k2 : zy_mok zp_P zp_G zq_m2 := ⟨by decide +kernel, ⟨by decide +kernel, by decide +kernel⟩, by decide +kernel, by decide +kernel, zp_cd_ok (i := 245) rfl (by decide +kernel), zp_in_ok (i := 99) (by decide +kernel), zp_in_ok (i := 244) (by decide +kernel), rfl, zp_db_ok zq_d2_0⟩
def zq_t3_0 : List (Nat × Instr × Nat) := [(0, .aload_n 0, 1), (1, .invokespecial 3, 3), (4, .aload_n 0, 1), (5, .bipush 8, 2), (7, .newarray .long, 2), (9, .putfield 9, 3), (12, .aload_n 0, 1), (13, .new 15, 3), (16, .dup, 1), (17, .invokespecial 17, 3), (20, .putfield 18, 3), (23, .aload_n 0, 1), (24, .bipush 14, 2), (26, .newarray .long, 2), (28, .putfield 22, 3), (31, .aload_n 0, 1), (32, .iconst 3, 1), (33, .newarray .long, 2), (35, .putfield 25, 3), (38, .aload_n 0, 1), (39, .iconst 3, 1), (40, .newarray .int, 2), (42, .putfield 28, 3), (45, .aload_n 0, 1), (46, .new 32, 3), (49, .dup, 1), (50, .invokespecial 34, 3), (53, .putfield 35, 3), (56, .aload_n 0, 1), (57, .aload_n 1, 1), (58, .putfield 39, 3), (61, .return_, 1)]
/-- ClassFrames$Machine -/
def zq_m3 : zx_M := (⟨RX5, "<init>", "(LClassFrames$Code;)V"⟩, prog_7_method_1_code, 2, none, some 3, 1, 5, zq_t3_0)
set_option maxRecDepth 100000 in
theorem zq_d3_0 : zp_db prog_7_method_1_code zq_t3_0 = true := by decide +kernel
set_option maxRecDepth 100000 in
theorem zq_k3 : zy_mok zp_P zp_G zq_m3 := ⟨by decide +kernel, ⟨by decide +kernel, by decide +kernel⟩, by decide +kernel, by decide +kernel, zp_cd_ok (i := 311) rfl (by decide +kernel), zp_in_ok (i := 101) (by decide +kernel), zp_in_ok (i := 310) (by decide +kernel), rfl, zp_db_ok zq_d3_0⟩
def zq_t4_0 : List (Nat × Instr × Nat) := [(0, .aload_n 0, 1), (1, .invokespecial 3, 3), (4, .aload_n 0, 1), (5, .new 9, 3), (8, .dup, 1), (9, .invokespecial 11, 3), (12, .putfield 12, 3), (15, .aload_n 0, 1), (16, .new 18, 3), (19, .dup, 1), (20, .invokespecial 20, 3), (23, .putfield 21, 3), (26, .aload_n 0, 1), (27, .aload_n 1, 1), (28, .putfield 25, 3), (31, .aload_n 0, 1), (32, .aload_n 2, 1), (33, .putfield 29, 3), (36, .return_, 1)]
/-- ClassFrames$Maker -/
def zq_m4 : zx_M := (⟨RX6, "<init>", "(LClassFrames$Code;LClassFrames$Frames;)V"⟩, prog_8_method_1_code, 3, none, some 4, 2, 6, zq_t4_0)
set_option maxRecDepth 100000 in
theorem zq_d4_0 : zp_db prog_8_method_1_code zq_t4_0 = true := by decide +kernel
set_option maxRecDepth 100000 in
theorem zq_k4 : zy_mok zp_P zp_G zq_m4 := ⟨by decide +kernel, ⟨by decide +kernel, by decide +kernel⟩, by decide +kernel, by decide +kernel, zp_cd_ok (i := 199) rfl (by decide +kernel), zp_in_ok (i := 97) (by decide +kernel), zp_in_ok (i := 198) (by decide +kernel), rfl, zp_db_ok zq_d4_0⟩
def zq_t5_0 : List (Nat × Instr × Nat) := [(0, .aload_n 0, 1), (1, .invokespecial 3, 3), (4, .aload_n 0, 1), (5, .new 9, 3), (8, .dup, 1), (9, .invokespecial 11, 3), (12, .putfield 12, 3), (15, .aload_n 0, 1), (16, .sipush 2940, 3), (19, .newarray .int, 2), (21, .putfield 18, 3), (24, .aload_n 0, 1), (25, .bipush 8, 2), (27, .newarray .int, 2), (29, .putfield 22, 3), (32, .aload_n 0, 1), (33, .bipush 8, 2), (35, .newarray .int, 2), (37, .putfield 25, 3), (40, .aload_n 0, 1), (41, .bipush 6, 2), (43, .newarray .int, 2), (45, .putfield 28, 3), (48, .aload_n 0, 1), (49, .aload_n 1, 1), (50, .putfield 31, 3), (53, .aload_n 0, 1), (54, .aload_n 2, 1), (55, .putfield 35, 3), (58, .return_, 1)]
/-- ClassFrames$Packer -/
def zq_m5 : zx_M := (⟨RX7, "<init>", "(LClassFrames$Code;LClassFrames$Frames;)V"⟩, prog_9_method_1_code, 3, none, some 5, 2, 7, zq_t5_0)
set_option maxRecDepth 100000 in
theorem zq_d5_0 : zp_db prog_9_method_1_code zq_t5_0 = true := by decide +kernel
set_option maxRecDepth 100000 in
theorem zq_k5 : zy_mok zp_P zp_G zq_m5 := ⟨by decide +kernel, ⟨by decide +kernel, by decide +kernel⟩, by decide +kernel, by decide +kernel, zp_cd_ok (i := 269) rfl (by decide +kernel), zp_in_ok (i := 100) (by decide +kernel), zp_in_ok (i := 268) (by decide +kernel), rfl, zp_db_ok zq_d5_0⟩
def zq_t6_0 : List (Nat × Instr × Nat) := [(0, .aload_n 0, 1), (1, .invokespecial 3, 3), (4, .aload_n 0, 1), (5, .sipush 158, 3), (8, .newarray .int, 2), (10, .putfield 11, 3), (13, .aload_n 0, 1), (14, .sipush 3160, 3), (17, .newarray .int, 2), (19, .putfield 15, 3), (22, .return_, 1)]
/-- ClassFrames$Rows -/
def zq_m6 : zx_M := (⟨RX8, "<init>", "()V"⟩, prog_10_method_1_code, 1, none, some 6, 0, 8, zq_t6_0)
set_option maxRecDepth 100000 in
theorem zq_d6_0 : zp_db prog_10_method_1_code zq_t6_0 = true := by decide +kernel
set_option maxRecDepth 100000 in
theorem zq_k6 : zy_mok zp_P zp_G zq_m6 := ⟨by decide +kernel, ⟨by decide +kernel, by decide +kernel⟩, by decide +kernel, by decide +kernel, zp_cd_ok (i := 319) rfl (by decide +kernel), zp_in_ok (i := 102) (by decide +kernel), zp_in_ok (i := 318) (by decide +kernel), rfl, zp_db_ok zq_d6_0⟩
def zq_t7_0 : List (Nat × Instr × Nat) := [(0, .aload_n 0, 1), (1, .invokespecial 3, 3), (4, .aload_n 0, 1), (5, .bipush 14, 2), (7, .newarray .int, 2), (9, .putfield 9, 3), (12, .return_, 1)]
/-- ClassFrames$State -/
def zq_m7 : zx_M := (⟨RX9, "<init>", "()V"⟩, prog_11_method_1_code, 1, none, some 7, 0, 9, zq_t7_0)
set_option maxRecDepth 100000 in
theorem zq_d7_0 : zp_db prog_11_method_1_code zq_t7_0 = true := by decide +kernel
set_option maxRecDepth 100000 in
theorem zq_k7 : zy_mok zp_P zp_G zq_m7 := ⟨by decide +kernel, ⟨by decide +kernel, by decide +kernel⟩, by decide +kernel, by decide +kernel, zp_cd_ok (i := 207) rfl (by decide +kernel), zp_in_ok (i := 98) (by decide +kernel), zp_in_ok (i := 206) (by decide +kernel), rfl, zp_db_ok zq_d7_0⟩
def zq_t8_0 : List (Nat × Instr × Nat) := [(0, .aload_n 0, 1), (1, .invokespecial 3, 3), (4, .aload_n 0, 1), (5, .sipush 840, 3), (8, .newarray .int, 2), (10, .putfield 9, 3), (13, .aload_n 0, 1), (14, .bipush 60, 2), (16, .newarray .int, 2), (18, .putfield 15, 3), (21, .return_, 1)]
/-- ClassFrames$Table -/
def zq_m8 : zx_M := (⟨RX10, "<init>", "()V"⟩, prog_12_method_1_code, 1, none, some 8, 0, 10, zq_t8_0)
set_option maxRecDepth 100000 in
theorem zq_d8_0 : zp_db prog_12_method_1_code zq_t8_0 = true := by decide +kernel
set_option maxRecDepth 100000 in
theorem zq_k8 : zy_mok zp_P zp_G zq_m8 := ⟨by decide +kernel, ⟨by decide +kernel, by decide +kernel⟩, by decide +kernel, by decide +kernel, zp_cd_ok (i := 173) rfl (by decide +kernel), zp_in_ok (i := 96) (by decide +kernel), zp_in_ok (i := 172) (by decide +kernel), rfl, zp_db_ok zq_d8_0⟩
def zq_t9_0 : List (Nat × Instr × Nat) := [(0, .aload_n 0, 1), (1, .invokespecial 3, 3), (4, .aload_n 0, 1), (5, .new 9, 3), (8, .dup, 1), (9, .invokespecial 11, 3), (12, .putfield 12, 3), (15, .aload_n 0, 1), (16, .new 16, 3), (19, .dup, 1), (20, .invokespecial 18, 3), (23, .putfield 19, 3), (26, .aload_n 0, 1), (27, .new 23, 3), (30, .dup, 1), (31, .aload_n 0, 1), (32, .getfield 12, 3), (35, .aload_n 0, 1), (36, .getfield 19, 3), (39, .invokespecial 25, 3), (42, .putfield 28, 3), (45, .aload_n 0, 1), (46, .new 32, 3), (49, .dup, 1), (50, .aload_n 0, 1), (51, .getfield 12, 3), (54, .aload_n 0, 1), (55, .getfield 28, 3), (58, .aload_n 0, 1), (59, .getfield 19, 3), (62, .invokespecial 34, 3), (65, .putfield 37, 3), (68, .aload_n 0, 1), (69, .new 41, 3), (72, .dup, 1), (73, .aload_n 0, 1), (74, .getfield 12, 3), (77, .aload_n 0, 1), (78, .getfield 19, 3), (81, .invokespecial 43, 3)]
def zq_t9_1 : List (Nat × Instr × Nat) := [(84, .putfield 44, 3), (87, .aload_n 0, 1), (88, .new 48, 3), (91, .dup, 1), (92, .aload_n 0, 1), (93, .getfield 12, 3), (96, .invokespecial 50, 3), (99, .putfield 53, 3), (102, .return_, 1)]
/-- ClassFrames -/
def zq_m9 : zx_M := (⟨RX11, "<init>", "()V"⟩, prog_1_method_1_code, 1, none, some 9, 0, 11, zq_t9_0 ++ (zq_t9_1))
set_option maxRecDepth 100000 in
theorem zq_d9_0 : zp_db prog_1_method_1_code zq_t9_0 = true := by decide +kernel
set_option maxRecDepth 100000 in
theorem zq_d9_1 : zp_db prog_1_method_1_code zq_t9_1 = true := by decide +kernel
set_option maxRecDepth 100000 in
theorem zq_k9 : zy_mok zp_P zp_G zq_m9 := ⟨by decide +kernel, ⟨by decide +kernel, by decide +kernel⟩, by decide +kernel, by decide +kernel, zp_cd_ok (i := 118) rfl (by decide +kernel), zp_in_ok (i := 93) (by decide +kernel), zp_in_ok (i := 117) (by decide +kernel), rfl, zp_db_app (zp_db_ok zq_d9_0) (zp_db_ok zq_d9_1)⟩
def zq_t10_0 : List (Nat × Instr × Nat) := [(0, .aload_n 0, 1), (1, .invokespecial 1, 3), (4, .aload_n 0, 1), (5, .bipush 60, 2), (7, .newarray .int, 2), (9, .putfield 7, 3), (12, .aload_n 0, 1), (13, .bipush 60, 2), (15, .newarray .int, 2), (17, .putfield 13, 3), (20, .aload_n 0, 1), (21, .bipush 60, 2), (23, .newarray .int, 2), (25, .putfield 16, 3), (28, .aload_n 0, 1), (29, .bipush 6, 2), (31, .newarray .int, 2), (33, .putfield 19, 3), (36, .aload_n 0, 1), (37, .bipush 6, 2), (39, .newarray .int, 2), (41, .putfield 22, 3), (44, .aload_n 0, 1), (45, .bipush 6, 2), (47, .newarray .int, 2), (49, .putfield 25, 3), (52, .aload_n 0, 1), (53, .bipush 6, 2), (55, .newarray .int, 2), (57, .putfield 28, 3), (60, .aload_n 0, 1), (61, .bipush 8, 2), (63, .newarray .int, 2), (65, .putfield 31, 3), (68, .aload_n 0, 1), (69, .bipush 8, 2), (71, .newarray .long, 2), (73, .putfield 34, 3), (76, .aload_n 0, 1), (77, .bipush 60, 2)]
def zq_t10_1 : List (Nat × Instr × Nat) := [(79, .newarray .boolean, 2), (81, .putfield 38, 3), (84, .aload_n 0, 1), (85, .sipush 840, 3), (88, .newarray .int, 2), (90, .putfield 42, 3), (93, .aload_n 0, 1), (94, .bipush 60, 2), (96, .newarray .int, 2), (98, .putfield 45, 3), (101, .aload_n 0, 1), (102, .bipush 60, 2), (104, .newarray .int, 2), (106, .putfield 48, 3), (109, .aload_n 0, 1), (110, .bipush 60, 2), (112, .newarray .int, 2), (114, .putfield 51, 3), (117, .aload_n 0, 1), (118, .bipush 60, 2), (120, .newarray .int, 2), (122, .putfield 54, 3), (125, .aload_n 0, 1), (126, .sipush 840, 3), (129, .newarray .int, 2), (131, .putfield 57, 3), (134, .aload_n 0, 1), (135, .bipush 14, 2), (137, .newarray .int, 2), (139, .putfield 60, 3), (142, .aload_n 0, 1), (143, .bipush 14, 2), (145, .newarray .int, 2), (147, .putfield 63, 3), (150, .aload_n 0, 1), (151, .bipush 14, 2), (153, .newarray .int, 2), (155, .putfield 66, 3), (158, .aload_n 0, 1), (159, .sipush 4000, 3)]
def zq_t10_2 : List (Nat × Instr × Nat) := [(162, .newarray .int, 2), (164, .putfield 69, 3), (167, .aload_n 0, 1), (168, .bipush 14, 2), (170, .newarray .int, 2), (172, .putfield 72, 3), (175, .aload_n 0, 1), (176, .bipush 14, 2), (178, .newarray .int, 2), (180, .putfield 75, 3), (183, .aload_n 0, 1), (184, .bipush 14, 2), (186, .newarray .int, 2), (188, .putfield 78, 3), (191, .aload_n 0, 1), (192, .bipush 14, 2), (194, .newarray .int, 2), (196, .putfield 81, 3), (199, .aload_n 0, 1), (200, .bipush 14, 2), (202, .newarray .long, 2), (204, .putfield 84, 3), (207, .aload_n 0, 1), (208, .bipush 14, 2), (210, .newarray .int, 2), (212, .putfield 87, 3), (215, .aload_n 0, 1), (216, .sipush 400, 3), (219, .newarray .int, 2), (221, .putfield 90, 3), (224, .aload_n 0, 1), (225, .sipush 8000, 3), (228, .newarray .int, 2), (230, .putfield 93, 3), (233, .aload_n 0, 1), (234, .iconst (-1), 1), (235, .putfield 96, 3), (238, .return_, 1)]
/-- ClassFramesModel -/
def zq_m10 : zx_M := (⟨RX12, "<init>", "()V"⟩, prog_14_method_1_code, 1, none, some 10, 0, 12, zq_t10_0 ++ (zq_t10_1 ++ (zq_t10_2)))
set_option maxRecDepth 100000 in
theorem zq_d10_0 : zp_db prog_14_method_1_code zq_t10_0 = true := by decide +kernel
set_option maxRecDepth 100000 in
theorem zq_d10_1 : zp_db prog_14_method_1_code zq_t10_1 = true := by decide +kernel
set_option maxRecDepth 100000 in
theorem zq_d10_2 : zp_db prog_14_method_1_code zq_t10_2 = true := by decide +kernel
set_option maxRecDepth 100000 in
theorem zq_k10 : zy_mok zp_P zp_G zq_m10 := ⟨by decide +kernel, ⟨by decide +kernel, by decide +kernel⟩, by decide +kernel, by decide +kernel, zp_cd_ok (i := 1168) rfl (by decide +kernel), zp_in_ok (i := 103) (by decide +kernel), zp_in_ok (i := 1167) (by decide +kernel), rfl, zp_db_app (zp_db_ok zq_d10_0) (zp_db_app (zp_db_ok zq_d10_1) (zp_db_ok zq_d10_2))⟩
def zq_ms : List zx_M := [zq_m0, zq_m1, zq_m2, zq_m3, zq_m4, zq_m5, zq_m6, zq_m7, zq_m8, zq_m9, zq_m10]
def zq_kt : List (List (Nat × Nat × Nat × Nat × Nat)) := [[], [], [(9, 8, 169, 170, 96)], [(9, 7, 247, 204, 98)], [], [(15, 7, 313, 204, 98), (32, 6, 315, 316, 102)], [(9, 8, 201, 170, 96), (18, 7, 203, 204, 98)], [(9, 7, 271, 204, 98)], [], [], [], [(9, 0, 122, 123, 94), (16, 1, 163, 164, 95), (23, 4, 195, 196, 97), (32, 2, 241, 242, 99), (41, 5, 265, 266, 100), (48, 3, 307, 308, 101), (120, 12, 1157, 1076, 112)], [], [], [], [(8, 9, 114, 115, 93), (13, 12, 1075, 1076, 112), (16, 10, 1164, 1165, 103)]]
def zq_ct : List (List (Nat × Nat × Option String × Nat)) := [[], [], [(11, 8, some "ClassFrames", 171)], [(11, 7, some "ClassFrames", 248)], [], [(17, 7, some "ClassFrames", 314), (34, 6, some "ClassFrames", 317)], [(11, 8, some "ClassFrames", 202), (20, 7, some "ClassFrames", 205)], [(11, 7, some "ClassFrames", 272)], [], [], [], [(11, 0, some "ClassFrames", 124), (18, 1, some "ClassFrames", 165), (25, 4, none, 197), (34, 2, none, 243), (43, 5, none, 267), (50, 3, none, 309)], [], [], [], [(15, 9, none, 116), (18, 10, none, 1166)]]
def zq_it : List (List (Nat × Nat)) := [[(3, 127)], [], [(3, 168)], [(3, 246)], [], [(3, 312)], [(3, 200)], [(3, 270)], [(3, 320)], [(3, 208)], [(3, 174)], [(3, 119)], [(1, 1169)], [], [], []]
def zq_wt : List (List (Nat × Nat)) := [[(9, 0), (15, 0), (18, 0), (40, 0), (21, 0), (24, 0), (27, 0), (30, 0), (43, 0), (33, 0), (36, 0)], [], [(12, 0), (18, 0), (22, 0), (25, 0)], [(21, 0), (25, 0), (29, 0), (12, 0), (18, 0)], [], [(39, 0), (9, 0), (18, 0), (22, 0), (25, 0), (28, 0), (35, 0), (71, 0), (61, 0), (55, 0), (65, 0), (49, 0), (52, 0), (74, 0), (45, 0)], [(25, 0), (29, 0), (12, 0), (21, 0), (33, 0), (65, 0), (37, 0), (41, 0)], [(31, 0), (35, 0), (12, 0), (18, 0), (39, 0), (22, 0), (66, 0), (25, 0), (88, 0), (28, 0), (94, 0)], [(11, 0), (15, 0), (18, 0)], [(9, 0), (21, 0)], [(9, 0), (15, 0)], [(12, 0), (19, 0), (28, 0), (37, 0), (44, 0), (53, 0), (80, 0)], [(100, 0), (151, 0), (7, 0), (13, 0), (16, 0), (165, 0), (19, 0), (22, 0), (25, 0), (28, 0), (148, 0), (31, 0), (34, 0), (189, 0), (192, 0), (195, 0), (38, 0), (42, 0), (45, 0), (198, 0), (48, 0), (51, 0), (54, 0), (57, 0), (60, 0), (110, 0), (107, 0), (154, 0), (63, 0), (66, 0), (236, 0), (69, 0), (72, 0), (75, 0), (78, 0), (81, 0), (84, 0), (87, 0), (264, 0), (90, 0), (93, 0), (294, 0), (272, 0), (275, 0), (318, 0), (96, 0), (321, 0), (328, 0), (325, 0), (291, 0), (281, 0)], [], [], []]
def zq_pd (ci : Nat) : List Value := match ci with
  | 0 => [Value.null, Value.null, Value.null, Value.int 0, Value.null, Value.null, Value.null, Value.null, Value.int 0, Value.null, Value.int 0]
  | 1 => [Value.null, Value.null, Value.null, Value.int 0]
  | 2 => [Value.null, Value.null, Value.null, Value.null, Value.null]
  | 3 => [Value.null, Value.null, Value.null, Value.null, Value.null, Value.null, Value.null, Value.int 0, Value.int 0, Value.int 0, Value.int 0, Value.int 0, Value.int 0, Value.long 0, Value.int 0]
  | 4 => [Value.null, Value.null, Value.null, Value.null, Value.int 0, Value.int 0, Value.int 0, Value.int 0]
  | 5 => [Value.null, Value.null, Value.null, Value.null, Value.int 0, Value.null, Value.int 0, Value.null, Value.int 0, Value.null, Value.int 0]
  | 6 => [Value.null, Value.null, Value.int 0]
  | 7 => [Value.null, Value.int 0]
  | 8 => [Value.null, Value.null]
  | 9 => [Value.null, Value.null, Value.null, Value.null, Value.null, Value.null, Value.int 0]
  | 10 => [Value.int 0, Value.int 0, Value.null, Value.null, Value.null, Value.int 0, Value.null, Value.null, Value.null, Value.null, Value.int 0, Value.null, Value.null, Value.int 0, Value.int 0, Value.int 0, Value.null, Value.null, Value.null, Value.int 0, Value.null, Value.null, Value.null, Value.null, Value.null, Value.int 0, Value.int 0, Value.int 0, Value.null, Value.null, Value.int 0, Value.null, Value.null, Value.null, Value.null, Value.null, Value.null, Value.null, Value.int 0, Value.null, Value.null, Value.int 0, Value.int 0, Value.int 0, Value.int 0, Value.int 0, Value.long 0, Value.int 0, Value.int 0, Value.int 0, Value.int 0]
  | 11 => [Value.null, Value.int 0]
  | _ => [Value.null, Value.null, Value.null, Value.null, Value.int 0, Value.null]
def zq_X : zy_P := (zq_ms, fun o i => (zp_lk zq_kt o i).map (fun q => q.1), fun o i => (zp_lk zq_ct o i).map (fun q => (q.1, q.2.1)), fun o i => (zp_lk zq_it o i).isSome, zq_pd, fun o i => (zp_lk zq_wt o i).isSome)
theorem zq_ms_ok : ∀ q ∈ zq_ms, zy_mok zp_P zp_G q := List.forall_mem_cons.mpr ⟨zq_k0, List.forall_mem_cons.mpr ⟨zq_k1, List.forall_mem_cons.mpr ⟨zq_k2, List.forall_mem_cons.mpr ⟨zq_k3, List.forall_mem_cons.mpr ⟨zq_k4, List.forall_mem_cons.mpr ⟨zq_k5, List.forall_mem_cons.mpr ⟨zq_k6, List.forall_mem_cons.mpr ⟨zq_k7, List.forall_mem_cons.mpr ⟨zq_k8, List.forall_mem_cons.mpr ⟨zq_k9, List.forall_mem_cons.mpr ⟨zq_k10, fun q h => absurd h List.not_mem_nil⟩⟩⟩⟩⟩⟩⟩⟩⟩⟩⟩
def zq_kb (o idx : Nat) (q : Nat × Nat × Nat × Nat) : Bool := decide (q.1 < 13) && zp_in q.2.1 (Cond.classLink (zp_po o) idx (zp_cR q.1)) && zp_in q.2.2.1 (Cond.instantiable (zp_cR q.1) (zp_cN q.1)) && zp_in q.2.2.2 (Cond.initialized (zp_cR q.1))
theorem zq_cls (ci : Nat) (hc : ci < 13) {o idx : Nat} (h1 : Cond.classLink (zp_po o) idx (zp_cR ci) ∈ zp_G) (h2 : Cond.instantiable (zp_cR ci) (zp_cN ci) ∈ zp_G) (h3 : Cond.initialized (zp_cR ci) ∈ zp_G) : zy_kok zp_P zq_X zp_G zp_cl o idx ci := by
  rcases (show ci = 0 ∨ ci = 1 ∨ ci = 2 ∨ ci = 3 ∨ ci = 4 ∨ ci = 5 ∨ ci = 6 ∨ ci = 7 ∨ ci = 8 ∨ ci = 9 ∨ ci = 10 ∨ ci = 11 ∨ ci = 12 by omega) with rfl | rfl | rfl | rfl | rfl | rfl | rfl | rfl | rfl | rfl | rfl | rfl | rfl
  · exact ⟨RX0, TX0, 11, tyX0, rfl, h1, h2, h3, zp_uX0, tyX0_ok, rfl, by decide +kernel⟩
  · exact ⟨RX2, TX2, 4, tyX2, rfl, h1, h2, h3, zp_uX2, tyX2_ok, rfl, by decide +kernel⟩
  · exact ⟨RX3, TX3, 5, tyX3, rfl, h1, h2, h3, zp_uX3, tyX3_ok, rfl, by decide +kernel⟩
  · exact ⟨RX5, TX5, 15, tyX5, rfl, h1, h2, h3, zp_uX5, tyX5_ok, rfl, by decide +kernel⟩
  · exact ⟨RX6, TX6, 8, tyX6, rfl, h1, h2, h3, zp_uX6, tyX6_ok, rfl, by decide +kernel⟩
  · exact ⟨RX7, TX7, 11, tyX7, rfl, h1, h2, h3, zp_uX7, tyX7_ok, rfl, by decide +kernel⟩
  · exact ⟨RX8, TX8, 3, tyX8, rfl, h1, h2, h3, zp_uX8, tyX8_ok, rfl, by decide +kernel⟩
  · exact ⟨RX9, TX9, 2, tyX9, rfl, h1, h2, h3, zp_uX9, tyX9_ok, rfl, by decide +kernel⟩
  · exact ⟨RX10, TX10, 2, tyX10, rfl, h1, h2, h3, zp_uX10, tyX10_ok, rfl, by decide +kernel⟩
  · exact ⟨RX11, TX11, 7, tyX11, rfl, h1, h2, h3, zp_uX11, tyX11_ok, rfl, by decide +kernel⟩
  · exact ⟨RX12, TX12, 51, tyX12, rfl, h1, h2, h3, zp_uX12, tyX12_ok, rfl, by decide +kernel⟩
  · exact ⟨RJ0, TJ0, 2, tyJ0, rfl, h1, h2, h3, zp_uJ0, tyJ0_ok, rfl, by decide +kernel⟩
  · exact ⟨RJx00060, TJx00060, 6, tyJx00060, rfl, h1, h2, h3, zp_uJx00060, tyJx00060_ok, rfl, by decide +kernel⟩
set_option maxRecDepth 100000 in
theorem zq_kt_ok : zp_all zq_kb 0 zq_kt = true := by decide +kernel
def zq_cb (o idx : Nat) (q : Nat × Option String × Nat) : Bool := match zq_ms[q.1]?, q.2.1 with
  | some r, none => zp_in q.2.2 (Cond.methodLink (zp_po o) idx (zx_my r))
  | some r, some hs => decide (lw_tbl[q.2.2]? = some (Cond.methodLinkNest (zp_po o) idx (zx_my r) hs))
  | none, _ => false
set_option maxRecDepth 100000 in
theorem zq_ct_ok : zp_all zq_cb 0 zq_ct = true := by decide +kernel
def zq_ib (o idx : Nat) (q : Nat) : Bool := zp_in q (Cond.methodLink (zp_po o) idx Lib.objectInit)
set_option maxRecDepth 100000 in
theorem zq_it_ok : zp_all zq_ib 0 zq_it = true := by decide +kernel
def zq_wb (o idx : Nat) (_ : Nat) : Bool := match zx_pf zp_P o idx with
  | some (ci, k) => decide (ci < 13) && decide ((zp_cT ci k).1 = zp_po o)
  | none => true
set_option maxRecDepth 100000 in
theorem zq_wt_ok : zp_all zq_wb 0 zq_wt = true := by decide +kernel
set_option maxRecDepth 100000 in
theorem zq_ok : zy_ok zp_P zq_X zp_G zp_cl := by
  refine ⟨zp_ok, fun j q hq => zq_ms_ok q (List.mem_of_getElem? hq), ?_, ?_, ?_, ⟨zp_in_ok (i := 162) (by decide +kernel), zp_in_ok (i := 331) (by decide +kernel), zp_in_ok (i := 1324) (by decide +kernel)⟩, ?_⟩
  · intro o idx ci h
    obtain ⟨q, hq, e⟩ := Option.map_eq_some_iff.mp h
    cases e
    have h1 := zp_all_ok _ 0 zq_kt_ok _ _ _ hq
    rw [Nat.zero_add, zq_kb, Bool.and_eq_true, Bool.and_eq_true, Bool.and_eq_true, decide_eq_true_eq] at h1
    exact zq_cls _ h1.1.1.1 (zp_in_ok h1.1.1.2) (zp_in_ok h1.1.2) (zp_in_ok h1.2)
  · intro o idx j r h hr
    obtain ⟨q, hq, e⟩ := Option.map_eq_some_iff.mp h
    obtain ⟨q1, q2, q3⟩ := q
    cases e
    have h1 := zp_all_ok _ 0 zq_ct_ok _ _ _ hq
    rw [Nat.zero_add] at h1
    unfold zq_cb at h1
    dsimp only at h1
    have hr2 : zq_ms[q1]? = some r := hr
    rw [hr2] at h1
    exact zp_in_ok h1
  · intro o idx h
    obtain ⟨q, hq⟩ := Option.isSome_iff_exists.mp h
    have h1 := zp_all_ok _ 0 zq_it_ok _ _ _ hq
    rw [Nat.zero_add, zq_ib] at h1
    exact ⟨zp_in_ok h1, zp_in_ok (i := 120) (by decide +kernel), zp_in_ok (i := 121) (by decide +kernel)⟩
  · intro o idx ci k C T N h hf hc
    obtain ⟨q, hq⟩ := Option.isSome_iff_exists.mp h
    have h1 := zp_all_ok _ 0 zq_wt_ok _ _ _ hq
    rw [Nat.zero_add] at h1
    unfold zq_wb at h1
    rw [hf] at h1
    dsimp only at h1
    rw [Bool.and_eq_true, decide_eq_true_eq, decide_eq_true_eq] at h1
    obtain ⟨h2, h3⟩ := h1
    have h4 : zp_cl[ci]? = some (zp_cR ci, zp_cT ci, zp_cN ci) := by
      rcases (show ci = 0 ∨ ci = 1 ∨ ci = 2 ∨ ci = 3 ∨ ci = 4 ∨ ci = 5 ∨ ci = 6 ∨ ci = 7 ∨ ci = 8 ∨ ci = 9 ∨ ci = 10 ∨ ci = 11 ∨ ci = 12 by omega) with rfl | rfl | rfl | rfl | rfl | rfl | rfl | rfl | rfl | rfl | rfl | rfl | rfl <;> rfl
    cases h4.symm.trans hc
    exact h3
/-- the heap behind new ClassFrames() and new ClassFramesModel() -/
def zq_h1 : zx_H := [.inr (9, [Value.ref 1, Value.ref 10, Value.ref 16, Value.ref 22, Value.ref 27, Value.ref 34, Value.int (0)]), .inr (0, [Value.ref 2, Value.ref 3, Value.ref 4, Value.int (0), Value.ref 5, Value.ref 6, Value.ref 7, Value.ref 8, Value.int (0), Value.ref 9, Value.int (0)]), .inl (0, 60, .inl (fun _ => 0)), .inl (0, 60, .inl (fun _ => 0)), .inl (0, 60, .inl (fun _ => 0)), .inl (0, 6, .inl (fun _ => 0)), .inl (0, 6, .inl (fun _ => 0)), .inl (0, 6, .inl (fun _ => 0)), .inl (0, 6, .inl (fun _ => 0)), .inl (0, 8, .inl (fun _ => 0)), .inr (1, [Value.ref 11, Value.ref 14, Value.ref 15, Value.int (0)]), .inr (8, [Value.ref 12, Value.ref 13]), .inl (0, 840, .inl (fun _ => 0)), .inl (0, 60, .inl (fun _ => 0)), .inl (0, 60, .inl (fun _ => 0)), .inl (0, 60, .inl (fun _ => 0)), .inr (4, [Value.ref 1, Value.ref 10, Value.ref 17, Value.ref 20, Value.int (0), Value.int (0), Value.int (0), Value.int (0)]), .inr (8, [Value.ref 18, Value.ref 19]), .inl (0, 840, .inl (fun _ => 0)), .inl (0, 60, .inl (fun _ => 0)), .inr (7, [Value.ref 21, Value.int (0)]), .inl (0, 14, .inl (fun _ => 0)), .inr (2, [Value.ref 1, Value.ref 16, Value.ref 10, Value.ref 23, Value.ref 25]), .inr (7, [Value.ref 24, Value.int (0)]), .inl (0, 14, .inl (fun _ => 0)), .inr (7, [Value.ref 26, Value.int (0)]), .inl (0, 14, .inl (fun _ => 0)), .inr (5, [Value.ref 1, Value.ref 10, Value.ref 28, Value.ref 30, Value.int (0), Value.ref 31, Value.int (0), Value.ref 32, Value.int (0), Value.ref 33, Value.int (0)]), .inr (7, [Value.ref 29, Value.int (0)]), .inl (0, 14, .inl (fun _ => 0)), .inl (0, 2940, .inl (fun _ => 0)), .inl (0, 8, .inl (fun _ => 0)), .inl (0, 8, .inl (fun _ => 0)), .inl (0, 6, .inl (fun _ => 0)), .inr (3, [Value.ref 1, Value.ref 35, Value.ref 36, Value.ref 38, Value.ref 39, Value.ref 40, Value.ref 41, Value.int (0), Value.int (0), Value.int (0), Value.int (0), Value.int (0), Value.int (0), Value.long 0, Value.int (0)]), .inl (1, 8, .inr (.inl (fun _ => 0))), .inr (7, [Value.ref 37, Value.int (0)]), .inl (0, 14, .inl (fun _ => 0)), .inl (1, 14, .inr (.inl (fun _ => 0))), .inl (1, 3, .inr (.inl (fun _ => 0))), .inl (0, 3, .inl (fun _ => 0)), .inr (6, [Value.ref 42, Value.ref 43, Value.int (0)]), .inl (0, 158, .inl (fun _ => 0)), .inl (0, 3160, .inl (fun _ => 0))]
def zq_h2 : zx_H := [.inr (10, [Value.int (0), Value.int (0), Value.ref 45, Value.ref 46, Value.ref 47, Value.int (0), Value.ref 48, Value.ref 49, Value.ref 50, Value.ref 51, Value.int (0), Value.ref 52, Value.ref 53, Value.int (0), Value.int (0), Value.int (0), Value.ref 54, Value.ref 55, Value.ref 56, Value.int (0), Value.ref 57, Value.ref 58, Value.ref 59, Value.ref 60, Value.ref 61, Value.int (0), Value.int (0), Value.int (0), Value.ref 62, Value.ref 63, Value.int (0), Value.ref 64, Value.ref 65, Value.ref 66, Value.ref 67, Value.ref 68, Value.ref 69, Value.ref 70, Value.int (0), Value.ref 71, Value.ref 72, Value.int (0), Value.int (0), Value.int (0), Value.int (0), Value.int (-1), Value.long 0, Value.int (0), Value.int (0), Value.int (0), Value.int (0)]), .inl (0, 60, .inl (fun _ => 0)), .inl (0, 60, .inl (fun _ => 0)), .inl (0, 60, .inl (fun _ => 0)), .inl (0, 6, .inl (fun _ => 0)), .inl (0, 6, .inl (fun _ => 0)), .inl (0, 6, .inl (fun _ => 0)), .inl (0, 6, .inl (fun _ => 0)), .inl (0, 8, .inl (fun _ => 0)), .inl (1, 8, .inr (.inl (fun _ => 0))), .inl (2, 60, .inl (fun _ => 0)), .inl (0, 840, .inl (fun _ => 0)), .inl (0, 60, .inl (fun _ => 0)), .inl (0, 60, .inl (fun _ => 0)), .inl (0, 60, .inl (fun _ => 0)), .inl (0, 60, .inl (fun _ => 0)), .inl (0, 840, .inl (fun _ => 0)), .inl (0, 14, .inl (fun _ => 0)), .inl (0, 14, .inl (fun _ => 0)), .inl (0, 14, .inl (fun _ => 0)), .inl (0, 4000, .inl (fun _ => 0)), .inl (0, 14, .inl (fun _ => 0)), .inl (0, 14, .inl (fun _ => 0)), .inl (0, 14, .inl (fun _ => 0)), .inl (0, 14, .inl (fun _ => 0)), .inl (1, 14, .inr (.inl (fun _ => 0))), .inl (0, 14, .inl (fun _ => 0)), .inl (0, 400, .inl (fun _ => 0)), .inl (0, 8000, .inl (fun _ => 0))]
set_option maxRecDepth 100000 in
set_option maxHeartbeats 4000000 in
theorem zq_run1 : zy_x zp_P zq_X 400 6 zq_m9 0 (lv_args 0 [.ref 0]) [] [.inr (9, zq_pd 9)] 0 0 = some (zq_h1, 43, 8581) := by rfl
set_option maxRecDepth 100000 in
set_option maxHeartbeats 4000000 in
theorem zq_run2 : zy_x zp_P zq_X 400 6 zq_m10 0 (lv_args 0 [.ref 44]) [] (zq_h1 ++ [.inr (10, zq_pd 10)]) 0 0 = some (zq_h1 ++ zq_h2, 28, 14726) := by rfl
