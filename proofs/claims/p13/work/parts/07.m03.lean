set_option maxRecDepth 100000 in
theorem zp_d90_0 : zp_db prog_8_method_15_code zp_t90_0 = true := by decide +kernel
set_option maxRecDepth 100000 in
theorem zp_d90_1 : zp_db prog_8_method_15_code zp_t90_1 = true := by decide +kernel
set_option maxRecDepth 100000 in
theorem zp_k90 : zx_mok zp_P zp_G zp_cl zp_m90 := zp_mc_ok (a := 621) (b := 97) (c := 620) (d := 7) rfl (by decide +kernel) (by decide +kernel) (zp_db_app (zp_db_ok zp_d90_0) (zp_db_ok zp_d90_1))
set_option maxRecDepth 100000 in
theorem zp_d91_0 : zp_db prog_8_method_16_code zp_t91_0 = true := by decide +kernel
set_option maxRecDepth 100000 in
theorem zp_d91_1 : zp_db prog_8_method_16_code zp_t91_1 = true := by decide +kernel
set_option maxRecDepth 100000 in
theorem zp_k91 : zx_mok zp_P zp_G zp_cl zp_m91 := zp_mc_ok (a := 536) (b := 97) (c := 535) (d := 4) rfl (by decide +kernel) (by decide +kernel) (zp_db_app (zp_db_ok zp_d91_0) (zp_db_ok zp_d91_1))
set_option maxRecDepth 100000 in
theorem zp_d92_0 : zp_db prog_8_method_17_code zp_t92_0 = true := by decide +kernel
set_option maxRecDepth 100000 in
theorem zp_k92 : zx_mok zp_P zp_G zp_cl zp_m92 := zp_mc_ok (a := 643) (b := 97) (c := 642) (d := 8) rfl (by decide +kernel) (by decide +kernel) (zp_db_ok zp_d92_0)
set_option maxRecDepth 100000 in
theorem zp_d93_0 : zp_db prog_8_method_18_code zp_t93_0 = true := by decide +kernel
set_option maxRecDepth 100000 in
theorem zp_k93 : zx_mok zp_P zp_G zp_cl zp_m93 := zp_mc_ok (a := 647) (b := 97) (c := 646) (d := 9) rfl (by decide +kernel) (by decide +kernel) (zp_db_ok zp_d93_0)
set_option maxRecDepth 100000 in
theorem zp_d94_0 : zp_db prog_8_method_19_code zp_t94_0 = true := by decide +kernel
set_option maxRecDepth 100000 in
theorem zp_k94 : zx_mok zp_P zp_G zp_cl zp_m94 := zp_mc_ok (a := 651) (b := 97) (c := 650) (d := 10) rfl (by decide +kernel) (by decide +kernel) (zp_db_ok zp_d94_0)
set_option maxRecDepth 100000 in
theorem zp_d95_0 : zp_db prog_8_method_20_code zp_t95_0 = true := by decide +kernel
set_option maxRecDepth 100000 in
theorem zp_k95 : zx_mok zp_P zp_G zp_cl zp_m95 := zp_mc_ok (a := 655) (b := 97) (c := 654) (d := 11) rfl (by decide +kernel) (by decide +kernel) (zp_db_ok zp_d95_0)
set_option maxRecDepth 100000 in
theorem zp_d96_0 : zp_db prog_9_method_2_code zp_t96_0 = true := by decide +kernel
set_option maxRecDepth 100000 in
theorem zp_k96 : zx_mok zp_P zp_G zp_cl zp_m96 := zp_mc_ok (a := 1156) (b := 100) (c := 1154) (d := 1155) rfl (by decide +kernel) (by decide +kernel) (zp_db_ok zp_d96_0)
set_option maxRecDepth 100000 in
theorem zp_d97_0 : zp_db prog_9_method_3_code zp_t97_0 = true := by decide +kernel
set_option maxRecDepth 100000 in
theorem zp_k97 : zx_mok zp_P zp_G zp_cl zp_m97 := zp_mc_ok (a := 1163) (b := 100) (c := 1161) (d := 1162) rfl (by decide +kernel) (by decide +kernel) (zp_db_ok zp_d97_0)
set_option maxRecDepth 100000 in
theorem zp_d98_0 : zp_db prog_9_method_4_code zp_t98_0 = true := by decide +kernel
set_option maxRecDepth 100000 in
theorem zp_k98 : zx_mok zp_P zp_G zp_cl zp_m98 := zp_mc_ok (a := 833) (b := 100) (c := 831) (d := 832) rfl (by decide +kernel) (by decide +kernel) (zp_db_ok zp_d98_0)
set_option maxRecDepth 100000 in
theorem zp_d99_0 : zp_db prog_9_method_5_code zp_t99_0 = true := by decide +kernel
set_option maxRecDepth 100000 in
theorem zp_k99 : zx_mok zp_P zp_G zp_cl zp_m99 := zp_mc_ok (a := 837) (b := 100) (c := 836) (d := 22) rfl (by decide +kernel) (by decide +kernel) (zp_db_ok zp_d99_0)
set_option maxRecDepth 100000 in
theorem zp_d100_0 : zp_db prog_9_method_6_code zp_t100_0 = true := by decide +kernel
set_option maxRecDepth 100000 in
theorem zp_k100 : zx_mok zp_P zp_G zp_cl zp_m100 := zp_mc_ok (a := 847) (b := 100) (c := 846) (d := 23) rfl (by decide +kernel) (by decide +kernel) (zp_db_ok zp_d100_0)
set_option maxRecDepth 100000 in
theorem zp_d101_0 : zp_db prog_9_method_7_code zp_t101_0 = true := by decide +kernel
set_option maxRecDepth 100000 in
theorem zp_d101_1 : zp_db prog_9_method_7_code zp_t101_1 = true := by decide +kernel
set_option maxRecDepth 100000 in
theorem zp_k101 : zx_mok zp_P zp_G zp_cl zp_m101 := zp_mc_ok (a := 853) (b := 100) (c := 852) (d := 24) rfl (by decide +kernel) (by decide +kernel) (zp_db_app (zp_db_ok zp_d101_0) (zp_db_ok zp_d101_1))
set_option maxRecDepth 100000 in
theorem zp_d102_0 : zp_db prog_9_method_8_code zp_t102_0 = true := by decide +kernel
set_option maxRecDepth 100000 in
theorem zp_k102 : zx_mok zp_P zp_G zp_cl zp_m102 := zp_mc_ok (a := 884) (b := 100) (c := 883) (d := 31) rfl (by decide +kernel) (by decide +kernel) (zp_db_ok zp_d102_0)
set_option maxRecDepth 100000 in
theorem zp_d103_0 : zp_db prog_9_method_9_code zp_t103_0 = true := by decide +kernel
set_option maxRecDepth 100000 in
theorem zp_d103_1 : zp_db prog_9_method_9_code zp_t103_1 = true := by decide +kernel
set_option maxRecDepth 100000 in
theorem zp_k103 : zx_mok zp_P zp_G zp_cl zp_m103 := zp_mc_ok (a := 860) (b := 100) (c := 859) (d := 25) rfl (by decide +kernel) (by decide +kernel) (zp_db_app (zp_db_ok zp_d103_0) (zp_db_ok zp_d103_1))
set_option maxRecDepth 100000 in
theorem zp_d104_0 : zp_db prog_9_method_10_code zp_t104_0 = true := by decide +kernel
set_option maxRecDepth 100000 in
theorem zp_k104 : zx_mok zp_P zp_G zp_cl zp_m104 := zp_mc_ok (a := 864) (b := 100) (c := 863) (d := 26) rfl (by decide +kernel) (by decide +kernel) (zp_db_ok zp_d104_0)
set_option maxRecDepth 100000 in
theorem zp_d105_0 : zp_db prog_9_method_11_code zp_t105_0 = true := by decide +kernel
set_option maxRecDepth 100000 in
theorem zp_k105 : zx_mok zp_P zp_G zp_cl zp_m105 := zp_mc_ok (a := 880) (b := 100) (c := 879) (d := 30) rfl (by decide +kernel) (by decide +kernel) (zp_db_ok zp_d105_0)
set_option maxRecDepth 100000 in
theorem zp_d106_0 : zp_db prog_9_method_12_code zp_t106_0 = true := by decide +kernel
set_option maxRecDepth 100000 in
theorem zp_k106 : zx_mok zp_P zp_G zp_cl zp_m106 := zp_mc_ok (a := 872) (b := 100) (c := 871) (d := 28) rfl (by decide +kernel) (by decide +kernel) (zp_db_ok zp_d106_0)
set_option maxRecDepth 100000 in
theorem zp_d107_0 : zp_db prog_9_method_13_code zp_t107_0 = true := by decide +kernel
set_option maxRecDepth 100000 in
theorem zp_k107 : zx_mok zp_P zp_G zp_cl zp_m107 := zp_mc_ok (a := 876) (b := 100) (c := 875) (d := 29) rfl (by decide +kernel) (by decide +kernel) (zp_db_ok zp_d107_0)
set_option maxRecDepth 100000 in
theorem zp_d108_0 : zp_db prog_9_method_14_code zp_t108_0 = true := by decide +kernel
set_option maxRecDepth 100000 in
theorem zp_k108 : zx_mok zp_P zp_G zp_cl zp_m108 := zp_mc_ok (a := 868) (b := 100) (c := 867) (d := 27) rfl (by decide +kernel) (by decide +kernel) (zp_db_ok zp_d108_0)
set_option maxRecDepth 100000 in
theorem zp_d109_0 : zp_db prog_10_method_2_code zp_t109_0 = true := by decide +kernel
set_option maxRecDepth 100000 in
theorem zp_k109 : zx_mok zp_P zp_G zp_cl zp_m109 := zp_mc_ok (a := 913) (b := 102) (c := 911) (d := 912) rfl (by decide +kernel) (by decide +kernel) (zp_db_ok zp_d109_0)
set_option maxRecDepth 100000 in
theorem zp_d110_0 : zp_db prog_10_method_3_code zp_t110_0 = true := by decide +kernel
set_option maxRecDepth 100000 in
theorem zp_d110_1 : zp_db prog_10_method_3_code zp_t110_1 = true := by decide +kernel
set_option maxRecDepth 100000 in
theorem zp_k110 : zx_mok zp_P zp_G zp_cl zp_m110 := zp_mc_ok (a := 928) (b := 102) (c := 926) (d := 927) rfl (by decide +kernel) (by decide +kernel) (zp_db_app (zp_db_ok zp_d110_0) (zp_db_ok zp_d110_1))
set_option maxRecDepth 100000 in
theorem zp_d111_0 : zp_db prog_10_method_4_code zp_t111_0 = true := by decide +kernel
set_option maxRecDepth 100000 in
theorem zp_k111 : zx_mok zp_P zp_G zp_cl zp_m111 := zp_mc_ok (a := 1012) (b := 102) (c := 1010) (d := 1011) rfl (by decide +kernel) (by decide +kernel) (zp_db_ok zp_d111_0)
set_option maxRecDepth 100000 in
theorem zp_d112_0 : zp_db prog_10_method_5_code zp_t112_0 = true := by decide +kernel
set_option maxRecDepth 100000 in
theorem zp_k112 : zx_mok zp_P zp_G zp_cl zp_m112 := zp_mc_ok (a := 963) (b := 102) (c := 961) (d := 962) rfl (by decide +kernel) (by decide +kernel) (zp_db_ok zp_d112_0)
set_option maxRecDepth 100000 in
theorem zp_d113_0 : zp_db prog_10_method_6_code zp_t113_0 = true := by decide +kernel
set_option maxRecDepth 100000 in
theorem zp_k113 : zx_mok zp_P zp_G zp_cl zp_m113 := zp_mc_ok (a := 1003) (b := 102) (c := 1001) (d := 1002) rfl (by decide +kernel) (by decide +kernel) (zp_db_ok zp_d113_0)
set_option maxRecDepth 100000 in
theorem zp_d114_0 : zp_db prog_10_method_7_code zp_t114_0 = true := by decide +kernel
set_option maxRecDepth 100000 in
theorem zp_k114 : zx_mok zp_P zp_G zp_cl zp_m114 := zp_mc_ok (a := 1008) (b := 102) (c := 1006) (d := 1007) rfl (by decide +kernel) (by decide +kernel) (zp_db_ok zp_d114_0)
set_option maxRecDepth 100000 in
theorem zp_d115_0 : zp_db prog_11_method_2_code zp_t115_0 = true := by decide +kernel
set_option maxRecDepth 100000 in
theorem zp_k115 : zx_mok zp_P zp_G zp_cl zp_m115 := zp_mc_ok (a := 457) (b := 98) (c := 455) (d := 456) rfl (by decide +kernel) (by decide +kernel) (zp_db_ok zp_d115_0)
set_option maxRecDepth 100000 in
theorem zp_d116_0 : zp_db prog_11_method_3_code zp_t116_0 = true := by decide +kernel
set_option maxRecDepth 100000 in
theorem zp_k116 : zx_mok zp_P zp_G zp_cl zp_m116 := zp_mc_ok (a := 469) (b := 98) (c := 467) (d := 468) rfl (by decide +kernel) (by decide +kernel) (zp_db_ok zp_d116_0)
set_option maxRecDepth 100000 in
theorem zp_d117_0 : zp_db prog_11_method_4_code zp_t117_0 = true := by decide +kernel
set_option maxRecDepth 100000 in
theorem zp_k117 : zx_mok zp_P zp_G zp_cl zp_m117 := zp_mc_ok (a := 513) (b := 98) (c := 511) (d := 512) rfl (by decide +kernel) (by decide +kernel) (zp_db_ok zp_d117_0)
set_option maxRecDepth 100000 in
theorem zp_d118_0 : zp_db prog_11_method_5_code zp_t118_0 = true := by decide +kernel
set_option maxRecDepth 100000 in
theorem zp_k118 : zx_mok zp_P zp_G zp_cl zp_m118 := zp_mc_ok (a := 473) (b := 98) (c := 471) (d := 472) rfl (by decide +kernel) (by decide +kernel) (zp_db_ok zp_d118_0)
set_option maxRecDepth 100000 in
theorem zp_d119_0 : zp_db prog_11_method_6_code zp_t119_0 = true := by decide +kernel
set_option maxRecDepth 100000 in
theorem zp_k119 : zx_mok zp_P zp_G zp_cl zp_m119 := zp_mc_ok (a := 520) (b := 98) (c := 518) (d := 519) rfl (by decide +kernel) (by decide +kernel) (zp_db_ok zp_d119_0)
set_option maxRecDepth 100000 in
theorem zp_d120_0 : zp_db prog_11_method_7_code zp_t120_0 = true := by decide +kernel
set_option maxRecDepth 100000 in
theorem zp_k120 : zx_mok zp_P zp_G zp_cl zp_m120 := zp_mc_ok (a := 592) (b := 98) (c := 590) (d := 591) rfl (by decide +kernel) (by decide +kernel) (zp_db_ok zp_d120_0)
set_option maxRecDepth 100000 in
theorem zp_d121_0 : zp_db prog_11_method_8_code zp_t121_0 = true := by decide +kernel
set_option maxRecDepth 100000 in
theorem zp_k121 : zx_mok zp_P zp_G zp_cl zp_m121 := zp_mc_ok (a := 528) (b := 98) (c := 526) (d := 527) rfl (by decide +kernel) (by decide +kernel) (zp_db_ok zp_d121_0)
set_option maxRecDepth 100000 in
theorem zp_d122_0 : zp_db prog_11_method_9_code zp_t122_0 = true := by decide +kernel
set_option maxRecDepth 100000 in
theorem zp_k122 : zx_mok zp_P zp_G zp_cl zp_m122 := zp_mc_ok (a := 596) (b := 98) (c := 594) (d := 595) rfl (by decide +kernel) (by decide +kernel) (zp_db_ok zp_d122_0)
set_option maxRecDepth 100000 in
theorem zp_d123_0 : zp_db prog_11_method_10_code zp_t123_0 = true := by decide +kernel
set_option maxRecDepth 100000 in
theorem zp_d123_1 : zp_db prog_11_method_10_code zp_t123_1 = true := by decide +kernel
set_option maxRecDepth 100000 in
theorem zp_k123 : zx_mok zp_P zp_G zp_cl zp_m123 := zp_mc_ok (a := 584) (b := 98) (c := 582) (d := 583) rfl (by decide +kernel) (by decide +kernel) (zp_db_app (zp_db_ok zp_d123_0) (zp_db_ok zp_d123_1))
set_option maxRecDepth 100000 in
theorem zp_d124_0 : zp_db prog_11_method_11_code zp_t124_0 = true := by decide +kernel
set_option maxRecDepth 100000 in
theorem zp_d124_1 : zp_db prog_11_method_11_code zp_t124_1 = true := by decide +kernel
set_option maxRecDepth 100000 in
theorem zp_k124 : zx_mok zp_P zp_G zp_cl zp_m124 := zp_mc_ok (a := 600) (b := 98) (c := 598) (d := 599) rfl (by decide +kernel) (by decide +kernel) (zp_db_app (zp_db_ok zp_d124_0) (zp_db_ok zp_d124_1))
set_option maxRecDepth 100000 in
theorem zp_d125_0 : zp_db prog_11_method_12_code zp_t125_0 = true := by decide +kernel
set_option maxRecDepth 100000 in
theorem zp_k125 : zx_mok zp_P zp_G zp_cl zp_m125 := zp_mc_ok (a := 769) (b := 98) (c := 767) (d := 768) rfl (by decide +kernel) (by decide +kernel) (zp_db_ok zp_d125_0)
set_option maxRecDepth 100000 in
theorem zp_d126_0 : zp_db prog_11_method_13_code zp_t126_0 = true := by decide +kernel
set_option maxRecDepth 100000 in
theorem zp_d126_1 : zp_db prog_11_method_13_code zp_t126_1 = true := by decide +kernel
set_option maxRecDepth 100000 in
theorem zp_k126 : zx_mok zp_P zp_G zp_cl zp_m126 := zp_mc_ok (a := 773) (b := 98) (c := 772) (d := 16) rfl (by decide +kernel) (by decide +kernel) (zp_db_app (zp_db_ok zp_d126_0) (zp_db_ok zp_d126_1))
set_option maxRecDepth 100000 in
theorem zp_d127_0 : zp_db prog_11_method_14_code zp_t127_0 = true := by decide +kernel
set_option maxRecDepth 100000 in
theorem zp_k127 : zx_mok zp_P zp_G zp_cl zp_m127 := zp_mc_ok (a := 798) (b := 98) (c := 796) (d := 797) rfl (by decide +kernel) (by decide +kernel) (zp_db_ok zp_d127_0)
set_option maxRecDepth 100000 in
theorem zp_d128_0 : zp_db prog_11_method_15_code zp_t128_0 = true := by decide +kernel
set_option maxRecDepth 100000 in
theorem zp_k128 : zx_mok zp_P zp_G zp_cl zp_m128 := zp_mc_ok (a := 794) (b := 98) (c := 792) (d := 793) rfl (by decide +kernel) (by decide +kernel) (zp_db_ok zp_d128_0)
set_option maxRecDepth 100000 in
theorem zp_d129_0 : zp_db prog_12_method_2_code zp_t129_0 = true := by decide +kernel
set_option maxRecDepth 100000 in
theorem zp_k129 : zx_mok zp_P zp_G zp_cl zp_m129 := zp_mc_ok (a := 450) (b := 96) (c := 448) (d := 449) rfl (by decide +kernel) (by decide +kernel) (zp_db_ok zp_d129_0)
set_option maxRecDepth 100000 in
theorem zp_d130_0 : zp_db prog_12_method_3_code zp_t130_0 = true := by decide +kernel
set_option maxRecDepth 100000 in
theorem zp_k130 : zx_mok zp_P zp_G zp_cl zp_m130 := zp_mc_ok (a := 489) (b := 96) (c := 487) (d := 488) rfl (by decide +kernel) (by decide +kernel) (zp_db_ok zp_d130_0)
set_option maxRecDepth 100000 in
theorem zp_d131_0 : zp_db prog_12_method_4_code zp_t131_0 = true := by decide +kernel
set_option maxRecDepth 100000 in
theorem zp_k131 : zx_mok zp_P zp_G zp_cl zp_m131 := zp_mc_ok (a := 545) (b := 96) (c := 543) (d := 544) rfl (by decide +kernel) (by decide +kernel) (zp_db_ok zp_d131_0)
set_option maxRecDepth 100000 in
theorem zp_d132_0 : zp_db prog_12_method_5_code zp_t132_0 = true := by decide +kernel
set_option maxRecDepth 100000 in
theorem zp_k132 : zx_mok zp_P zp_G zp_cl zp_m132 := zp_mc_ok (a := 560) (b := 96) (c := 558) (d := 559) rfl (by decide +kernel) (by decide +kernel) (zp_db_ok zp_d132_0)
set_option maxRecDepth 100000 in
theorem zp_d133_0 : zp_db prog_12_method_6_code zp_t133_0 = true := by decide +kernel
set_option maxRecDepth 100000 in
theorem zp_k133 : zx_mok zp_P zp_G zp_cl zp_m133 := zp_mc_ok (a := 549) (b := 96) (c := 548) (d := 5) rfl (by decide +kernel) (by decide +kernel) (zp_db_ok zp_d133_0)
set_option maxRecDepth 100000 in
theorem zp_d134_0 : zp_db prog_12_method_7_code zp_t134_0 = true := by decide +kernel
set_option maxRecDepth 100000 in
theorem zp_k134 : zx_mok zp_P zp_G zp_cl zp_m134 := zp_mc_ok (a := 465) (b := 96) (c := 463) (d := 464) rfl (by decide +kernel) (by decide +kernel) (zp_db_ok zp_d134_0)
