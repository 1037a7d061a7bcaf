set_option maxRecDepth 100000 in
theorem zp_d45_0 : zp_db prog_5_method_5_code zp_t45_0 = true := by decide +kernel
set_option maxRecDepth 100000 in
theorem zp_k45 : zx_mok zp_P zp_G zp_cl zp_m45 := zp_mc_ok (a := 786) (b := 99) (c := 785) (d := 18) rfl (by decide +kernel) (by decide +kernel) (zp_db_ok zp_d45_0)
set_option maxRecDepth 100000 in
theorem zp_d46_0 : zp_db prog_5_method_6_code zp_t46_0 = true := by decide +kernel
set_option maxRecDepth 100000 in
theorem zp_k46 : zx_mok zp_P zp_G zp_cl zp_m46 := zp_mc_ok (a := 803) (b := 99) (c := 802) (d := 19) rfl (by decide +kernel) (by decide +kernel) (zp_db_ok zp_d46_0)
set_option maxRecDepth 100000 in
theorem zp_d47_0 : zp_db prog_5_method_7_code zp_t47_0 = true := by decide +kernel
set_option maxRecDepth 100000 in
theorem zp_k47 : zx_mok zp_P zp_G zp_cl zp_m47 := zp_mc_ok (a := 811) (b := 99) (c := 810) (d := 20) rfl (by decide +kernel) (by decide +kernel) (zp_db_ok zp_d47_0)
set_option maxRecDepth 100000 in
theorem zp_d48_0 : zp_db prog_5_method_8_code zp_t48_0 = true := by decide +kernel
set_option maxRecDepth 100000 in
theorem zp_d48_1 : zp_db prog_5_method_8_code zp_t48_1 = true := by decide +kernel
set_option maxRecDepth 100000 in
theorem zp_k48 : zx_mok zp_P zp_G zp_cl zp_m48 := zp_mc_ok (a := 819) (b := 99) (c := 818) (d := 21) rfl (by decide +kernel) (by decide +kernel) (zp_db_app (zp_db_ok zp_d48_0) (zp_db_ok zp_d48_1))
set_option maxRecDepth 100000 in
theorem zp_d49_0 : zp_db prog_6_method_2_code zp_t49_0 = true := by decide +kernel
set_option maxRecDepth 100000 in
theorem zp_k49 : zx_mok zp_P zp_G zp_cl zp_m49 := zp_mc_ok (a := 556) (b := 106) (c := 555) (d := 0) rfl (by decide +kernel) (by decide +kernel) (zp_db_ok zp_d49_0)
set_option maxRecDepth 100000 in
theorem zp_d50_0 : zp_db prog_6_method_3_code zp_t50_0 = true := by decide +kernel
set_option maxRecDepth 100000 in
theorem zp_k50 : zx_mok zp_P zp_G zp_cl zp_m50 := zp_mc_ok (a := 553) (b := 106) (c := 552) (d := 0) rfl (by decide +kernel) (by decide +kernel) (zp_db_ok zp_d50_0)
set_option maxRecDepth 100000 in
theorem zp_d51_0 : zp_db prog_7_method_2_code zp_t51_0 = true := by decide +kernel
set_option maxRecDepth 100000 in
theorem zp_k51 : zx_mok zp_P zp_G zp_cl zp_m51 := zp_mc_ok (a := 892) (b := 101) (c := 890) (d := 891) rfl (by decide +kernel) (by decide +kernel) (zp_db_ok zp_d51_0)
set_option maxRecDepth 100000 in
theorem zp_d52_0 : zp_db prog_7_method_3_code zp_t52_0 = true := by decide +kernel
set_option maxRecDepth 100000 in
theorem zp_k52 : zx_mok zp_P zp_G zp_cl zp_m52 := zp_mc_ok (a := 901) (b := 101) (c := 899) (d := 900) rfl (by decide +kernel) (by decide +kernel) (zp_db_ok zp_d52_0)
set_option maxRecDepth 100000 in
theorem zp_d53_0 : zp_db prog_7_method_4_code zp_t53_0 = true := by decide +kernel
set_option maxRecDepth 100000 in
theorem zp_k53 : zx_mok zp_P zp_G zp_cl zp_m53 := zp_mc_ok (a := 1024) (b := 101) (c := 1022) (d := 1023) rfl (by decide +kernel) (by decide +kernel) (zp_db_ok zp_d53_0)
set_option maxRecDepth 100000 in
theorem zp_d54_0 : zp_db prog_7_method_5_code zp_t54_0 = true := by decide +kernel
set_option maxRecDepth 100000 in
theorem zp_k54 : zx_mok zp_P zp_G zp_cl zp_m54 := zp_mc_ok (a := 1020) (b := 101) (c := 1018) (d := 1019) rfl (by decide +kernel) (by decide +kernel) (zp_db_ok zp_d54_0)
set_option maxRecDepth 100000 in
theorem zp_d55_0 : zp_db prog_7_method_6_code zp_t55_0 = true := by decide +kernel
set_option maxRecDepth 100000 in
theorem zp_k55 : zx_mok zp_P zp_G zp_cl zp_m55 := zp_mc_ok (a := 1028) (b := 101) (c := 1026) (d := 1027) rfl (by decide +kernel) (by decide +kernel) (zp_db_ok zp_d55_0)
set_option maxRecDepth 100000 in
theorem zp_d56_0 : zp_db prog_7_method_7_code zp_t56_0 = true := by decide +kernel
set_option maxRecDepth 100000 in
theorem zp_k56 : zx_mok zp_P zp_G zp_cl zp_m56 := zp_mc_ok (a := 905) (b := 101) (c := 903) (d := 904) rfl (by decide +kernel) (by decide +kernel) (zp_db_ok zp_d56_0)
set_option maxRecDepth 100000 in
theorem zp_d57_0 : zp_db prog_7_method_8_code zp_t57_0 = true := by decide +kernel
set_option maxRecDepth 100000 in
theorem zp_d57_1 : zp_db prog_7_method_8_code zp_t57_1 = true := by decide +kernel
set_option maxRecDepth 100000 in
theorem zp_k57 : zx_mok zp_P zp_G zp_cl zp_m57 := zp_mc_ok (a := 909) (b := 101) (c := 908) (d := 32) rfl (by decide +kernel) (by decide +kernel) (zp_db_app (zp_db_ok zp_d57_0) (zp_db_ok zp_d57_1))
set_option maxRecDepth 100000 in
theorem zp_d58_0 : zp_db prog_7_method_9_code zp_t58_0 = true := by decide +kernel
set_option maxRecDepth 100000 in
theorem zp_d58_1 : zp_db prog_7_method_9_code zp_t58_1 = true := by decide +kernel
set_option maxRecDepth 100000 in
theorem zp_k58 : zx_mok zp_P zp_G zp_cl zp_m58 := zp_mc_ok (a := 918) (b := 101) (c := 917) (d := 33) rfl (by decide +kernel) (by decide +kernel) (zp_db_app (zp_db_ok zp_d58_0) (zp_db_ok zp_d58_1))
set_option maxRecDepth 100000 in
theorem zp_d59_0 : zp_db prog_7_method_10_code zp_t59_0 = true := by decide +kernel
set_option maxRecDepth 100000 in
theorem zp_k59 : zx_mok zp_P zp_G zp_cl zp_m59 := zp_mc_ok (a := 934) (b := 101) (c := 933) (d := 35) rfl (by decide +kernel) (by decide +kernel) (zp_db_ok zp_d59_0)
set_option maxRecDepth 100000 in
theorem zp_d60_0 : zp_db prog_7_method_11_code zp_t60_0 = true := by decide +kernel
set_option maxRecDepth 100000 in
theorem zp_k60 : zx_mok zp_P zp_G zp_cl zp_m60 := zp_mc_ok (a := 979) (b := 101) (c := 978) (d := 42) rfl (by decide +kernel) (by decide +kernel) (zp_db_ok zp_d60_0)
set_option maxRecDepth 100000 in
theorem zp_d61_0 : zp_db prog_7_method_12_code zp_t61_0 = true := by decide +kernel
set_option maxRecDepth 100000 in
theorem zp_d61_1 : zp_db prog_7_method_12_code zp_t61_1 = true := by decide +kernel
set_option maxRecDepth 100000 in
theorem zp_k61 : zx_mok zp_P zp_G zp_cl zp_m61 := zp_mc_ok (a := 938) (b := 101) (c := 937) (d := 36) rfl (by decide +kernel) (by decide +kernel) (zp_db_app (zp_db_ok zp_d61_0) (zp_db_ok zp_d61_1))
set_option maxRecDepth 100000 in
theorem zp_d62_0 : zp_db prog_7_method_13_code zp_t62_0 = true := by decide +kernel
set_option maxRecDepth 100000 in
theorem zp_k62 : zx_mok zp_P zp_G zp_cl zp_m62 := zp_mc_ok (a := 944) (b := 101) (c := 943) (d := 37) rfl (by decide +kernel) (by decide +kernel) (zp_db_ok zp_d62_0)
set_option maxRecDepth 100000 in
theorem zp_d63_0 : zp_db prog_7_method_14_code zp_t63_0 = true := by decide +kernel
set_option maxRecDepth 100000 in
theorem zp_k63 : zx_mok zp_P zp_G zp_cl zp_m63 := zp_mc_ok (a := 959) (b := 101) (c := 958) (d := 40) rfl (by decide +kernel) (by decide +kernel) (zp_db_ok zp_d63_0)
set_option maxRecDepth 100000 in
theorem zp_d64_0 : zp_db prog_7_method_15_code zp_t64_0 = true := by decide +kernel
set_option maxRecDepth 100000 in
theorem zp_d64_1 : zp_db prog_7_method_15_code zp_t64_1 = true := by decide +kernel
set_option maxRecDepth 100000 in
theorem zp_d64_2 : zp_db prog_7_method_15_code zp_t64_2 = true := by decide +kernel
set_option maxRecDepth 100000 in
theorem zp_k64 : zx_mok zp_P zp_G zp_cl zp_m64 := zp_mc_ok (a := 955) (b := 101) (c := 954) (d := 39) rfl (by decide +kernel) (by decide +kernel) (zp_db_app (zp_db_ok zp_d64_0) (zp_db_app (zp_db_ok zp_d64_1) (zp_db_ok zp_d64_2)))
set_option maxRecDepth 100000 in
theorem zp_d65_0 : zp_db prog_7_method_16_code zp_t65_0 = true := by decide +kernel
set_option maxRecDepth 100000 in
theorem zp_k65 : zx_mok zp_P zp_G zp_cl zp_m65 := zp_mc_ok (a := 968) (b := 101) (c := 967) (d := 41) rfl (by decide +kernel) (by decide +kernel) (zp_db_ok zp_d65_0)
set_option maxRecDepth 100000 in
theorem zp_d66_0 : zp_db prog_7_method_17_code zp_t66_0 = true := by decide +kernel
set_option maxRecDepth 100000 in
theorem zp_d66_1 : zp_db prog_7_method_17_code zp_t66_1 = true := by decide +kernel
set_option maxRecDepth 100000 in
theorem zp_k66 : zx_mok zp_P zp_G zp_cl zp_m66 := zp_mc_ok (a := 990) (b := 101) (c := 989) (d := 44) rfl (by decide +kernel) (by decide +kernel) (zp_db_app (zp_db_ok zp_d66_0) (zp_db_ok zp_d66_1))
set_option maxRecDepth 100000 in
theorem zp_d67_0 : zp_db prog_7_method_18_code zp_t67_0 = true := by decide +kernel
set_option maxRecDepth 100000 in
theorem zp_d67_1 : zp_db prog_7_method_18_code zp_t67_1 = true := by decide +kernel
set_option maxRecDepth 100000 in
theorem zp_d67_2 : zp_db prog_7_method_18_code zp_t67_2 = true := by decide +kernel
set_option maxRecDepth 100000 in
theorem zp_k67 : zx_mok zp_P zp_G zp_cl zp_m67 := zp_mc_ok (a := 999) (b := 101) (c := 998) (d := 46) rfl (by decide +kernel) (by decide +kernel) (zp_db_app (zp_db_ok zp_d67_0) (zp_db_app (zp_db_ok zp_d67_1) (zp_db_ok zp_d67_2)))
set_option maxRecDepth 100000 in
theorem zp_d68_0 : zp_db prog_7_method_19_code zp_t68_0 = true := by decide +kernel
set_option maxRecDepth 100000 in
theorem zp_k68 : zx_mok zp_P zp_G zp_cl zp_m68 := zp_mc_ok (a := 994) (b := 101) (c := 993) (d := 45) rfl (by decide +kernel) (by decide +kernel) (zp_db_ok zp_d68_0)
set_option maxRecDepth 100000 in
theorem zp_d69_0 : zp_db prog_7_method_20_code zp_t69_0 = true := by decide +kernel
set_option maxRecDepth 100000 in
theorem zp_d69_1 : zp_db prog_7_method_20_code zp_t69_1 = true := by decide +kernel
set_option maxRecDepth 100000 in
theorem zp_k69 : zx_mok zp_P zp_G zp_cl zp_m69 := zp_mc_ok (a := 1016) (b := 101) (c := 1015) (d := 47) rfl (by decide +kernel) (by decide +kernel) (zp_db_app (zp_db_ok zp_d69_0) (zp_db_ok zp_d69_1))
set_option maxRecDepth 100000 in
theorem zp_d70_0 : zp_db prog_7_method_21_code zp_t70_0 = true := by decide +kernel
set_option maxRecDepth 100000 in
theorem zp_k70 : zx_mok zp_P zp_G zp_cl zp_m70 := zp_mc_ok (a := 985) (b := 101) (c := 984) (d := 43) rfl (by decide +kernel) (by decide +kernel) (zp_db_ok zp_d70_0)
set_option maxRecDepth 100000 in
theorem zp_d71_0 : zp_db prog_7_method_22_code zp_t71_0 = true := by decide +kernel
set_option maxRecDepth 100000 in
theorem zp_k71 : zx_mok zp_P zp_G zp_cl zp_m71 := zp_mc_ok (a := 950) (b := 101) (c := 949) (d := 38) rfl (by decide +kernel) (by decide +kernel) (zp_db_ok zp_d71_0)
set_option maxRecDepth 100000 in
theorem zp_d72_0 : zp_db prog_7_method_23_code zp_t72_0 = true := by decide +kernel
set_option maxRecDepth 100000 in
theorem zp_k72 : zx_mok zp_P zp_G zp_cl zp_m72 := zp_mc_ok (a := 923) (b := 101) (c := 922) (d := 34) rfl (by decide +kernel) (by decide +kernel) (zp_db_ok zp_d72_0)
set_option maxRecDepth 100000 in
theorem zp_d73_0 : zp_db prog_7_method_24_code zp_t73_0 = true := by decide +kernel
set_option maxRecDepth 100000 in
theorem zp_k73 : zx_mok zp_P zp_G zp_cl zp_m73 := zp_mc_ok (a := 1036) (b := 101) (c := 1034) (d := 1035) rfl (by decide +kernel) (by decide +kernel) (zp_db_ok zp_d73_0)
set_option maxRecDepth 100000 in
theorem zp_d74_0 : zp_db prog_7_method_25_code zp_t74_0 = true := by decide +kernel
set_option maxRecDepth 100000 in
theorem zp_k74 : zx_mok zp_P zp_G zp_cl zp_m74 := zp_mc_ok (a := 1044) (b := 101) (c := 1043) (d := 49) rfl (by decide +kernel) (by decide +kernel) (zp_db_ok zp_d74_0)
set_option maxRecDepth 100000 in
theorem zp_d75_0 : zp_db prog_7_method_26_code zp_t75_0 = true := by decide +kernel
set_option maxRecDepth 100000 in
theorem zp_k75 : zx_mok zp_P zp_G zp_cl zp_m75 := zp_mc_ok (a := 1040) (b := 101) (c := 1039) (d := 48) rfl (by decide +kernel) (by decide +kernel) (zp_db_ok zp_d75_0)
set_option maxRecDepth 100000 in
theorem zp_d76_0 : zp_db prog_7_method_27_code zp_t76_0 = true := by decide +kernel
set_option maxRecDepth 100000 in
theorem zp_k76 : zx_mok zp_P zp_G zp_cl zp_m76 := zp_mc_ok (a := 1048) (b := 101) (c := 1047) (d := 50) rfl (by decide +kernel) (by decide +kernel) (zp_db_ok zp_d76_0)
set_option maxRecDepth 100000 in
theorem zp_d77_0 : zp_db prog_8_method_2_code zp_t77_0 = true := by decide +kernel
set_option maxRecDepth 100000 in
theorem zp_k77 : zx_mok zp_P zp_G zp_cl zp_m77 := zp_mc_ok (a := 688) (b := 97) (c := 686) (d := 687) rfl (by decide +kernel) (by decide +kernel) (zp_db_ok zp_d77_0)
set_option maxRecDepth 100000 in
theorem zp_d78_0 : zp_db prog_8_method_3_code zp_t78_0 = true := by decide +kernel
set_option maxRecDepth 100000 in
theorem zp_k78 : zx_mok zp_P zp_G zp_cl zp_m78 := zp_mc_ok (a := 411) (b := 97) (c := 409) (d := 410) rfl (by decide +kernel) (by decide +kernel) (zp_db_ok zp_d78_0)
set_option maxRecDepth 100000 in
theorem zp_d79_0 : zp_db prog_8_method_4_code zp_t79_0 = true := by decide +kernel
set_option maxRecDepth 100000 in
theorem zp_k79 : zx_mok zp_P zp_G zp_cl zp_m79 := zp_mc_ok (a := 1063) (b := 97) (c := 1061) (d := 1062) rfl (by decide +kernel) (by decide +kernel) (zp_db_ok zp_d79_0)
set_option maxRecDepth 100000 in
theorem zp_d80_0 : zp_db prog_8_method_5_code zp_t80_0 = true := by decide +kernel
set_option maxRecDepth 100000 in
theorem zp_k80 : zx_mok zp_P zp_G zp_cl zp_m80 := zp_mc_ok (a := 672) (b := 97) (c := 670) (d := 671) rfl (by decide +kernel) (by decide +kernel) (zp_db_ok zp_d80_0)
set_option maxRecDepth 100000 in
theorem zp_d81_0 : zp_db prog_8_method_6_code zp_t81_0 = true := by decide +kernel
set_option maxRecDepth 100000 in
theorem zp_k81 : zx_mok zp_P zp_G zp_cl zp_m81 := zp_mc_ok (a := 692) (b := 97) (c := 690) (d := 691) rfl (by decide +kernel) (by decide +kernel) (zp_db_ok zp_d81_0)
set_option maxRecDepth 100000 in
theorem zp_d82_0 : zp_db prog_8_method_7_code zp_t82_0 = true := by decide +kernel
set_option maxRecDepth 100000 in
theorem zp_k82 : zx_mok zp_P zp_G zp_cl zp_m82 := zp_mc_ok (a := 696) (b := 97) (c := 694) (d := 695) rfl (by decide +kernel) (by decide +kernel) (zp_db_ok zp_d82_0)
set_option maxRecDepth 100000 in
theorem zp_d83_0 : zp_db prog_8_method_8_code zp_t83_0 = true := by decide +kernel
set_option maxRecDepth 100000 in
theorem zp_k83 : zx_mok zp_P zp_G zp_cl zp_m83 := zp_mc_ok (a := 485) (b := 97) (c := 483) (d := 484) rfl (by decide +kernel) (by decide +kernel) (zp_db_ok zp_d83_0)
set_option maxRecDepth 100000 in
theorem zp_d84_0 : zp_db prog_8_method_9_code zp_t84_0 = true := by decide +kernel
set_option maxRecDepth 100000 in
theorem zp_k84 : zx_mok zp_P zp_G zp_cl zp_m84 := zp_mc_ok (a := 1059) (b := 97) (c := 1057) (d := 1058) rfl (by decide +kernel) (by decide +kernel) (zp_db_ok zp_d84_0)
set_option maxRecDepth 100000 in
theorem zp_d85_0 : zp_db prog_8_method_10_code zp_t85_0 = true := by decide +kernel
set_option maxRecDepth 100000 in
theorem zp_d85_1 : zp_db prog_8_method_10_code zp_t85_1 = true := by decide +kernel
set_option maxRecDepth 100000 in
theorem zp_k85 : zx_mok zp_P zp_G zp_cl zp_m85 := zp_mc_ok (a := 438) (b := 97) (c := 436) (d := 437) rfl (by decide +kernel) (by decide +kernel) (zp_db_app (zp_db_ok zp_d85_0) (zp_db_ok zp_d85_1))
set_option maxRecDepth 100000 in
theorem zp_d86_0 : zp_db prog_8_method_11_code zp_t86_0 = true := by decide +kernel
set_option maxRecDepth 100000 in
theorem zp_k86 : zx_mok zp_P zp_G zp_cl zp_m86 := zp_mc_ok (a := 442) (b := 97) (c := 441) (d := 0) rfl (by decide +kernel) (by decide +kernel) (zp_db_ok zp_d86_0)
set_option maxRecDepth 100000 in
theorem zp_d87_0 : zp_db prog_8_method_12_code zp_t87_0 = true := by decide +kernel
set_option maxRecDepth 100000 in
theorem zp_k87 : zx_mok zp_P zp_G zp_cl zp_m87 := zp_mc_ok (a := 481) (b := 97) (c := 480) (d := 1) rfl (by decide +kernel) (by decide +kernel) (zp_db_ok zp_d87_0)
set_option maxRecDepth 100000 in
theorem zp_d88_0 : zp_db prog_8_method_13_code zp_t88_0 = true := by decide +kernel
set_option maxRecDepth 100000 in
theorem zp_k88 : zx_mok zp_P zp_G zp_cl zp_m88 := zp_mc_ok (a := 564) (b := 97) (c := 563) (d := 6) rfl (by decide +kernel) (by decide +kernel) (zp_db_ok zp_d88_0)
set_option maxRecDepth 100000 in
theorem zp_d89_0 : zp_db prog_8_method_14_code zp_t89_0 = true := by decide +kernel
set_option maxRecDepth 100000 in
theorem zp_d89_1 : zp_db prog_8_method_14_code zp_t89_1 = true := by decide +kernel
set_option maxRecDepth 100000 in
theorem zp_k89 : zx_mok zp_P zp_G zp_cl zp_m89 := zp_mc_ok (a := 493) (b := 97) (c := 492) (d := 2) rfl (by decide +kernel) (by decide +kernel) (zp_db_app (zp_db_ok zp_d89_0) (zp_db_ok zp_d89_1))
