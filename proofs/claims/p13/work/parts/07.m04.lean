set_option maxRecDepth 100000 in
theorem zp_d135_0 : zp_db prog_12_method_8_code zp_t135_0 = true := by decide +kernel
set_option maxRecDepth 100000 in
theorem zp_k135 : zx_mok zp_P zp_G zp_cl zp_m135 := zp_mc_ok (a := 509) (b := 96) (c := 507) (d := 508) rfl (by decide +kernel) (by decide +kernel) (zp_db_ok zp_d135_0)
set_option maxRecDepth 100000 in
theorem zp_d136_0 : zp_db prog_1_method_2_code zp_t136_0 = true := by decide +kernel
set_option maxRecDepth 100000 in
theorem zp_k136 : zx_mok zp_P zp_G zp_cl zp_m136 := zp_mc_ok (a := 403) (b := 93) (c := 401) (d := 402) rfl (by decide +kernel) (by decide +kernel) (zp_db_ok zp_d136_0)
set_option maxRecDepth 100000 in
theorem zp_d137_0 : zp_db prog_1_method_3_code zp_t137_0 = true := by decide +kernel
set_option maxRecDepth 100000 in
theorem zp_k137 : zx_mok zp_P zp_G zp_cl zp_m137 := zp_mc_ok (a := 415) (b := 93) (c := 413) (d := 414) rfl (by decide +kernel) (by decide +kernel) (zp_db_ok zp_d137_0)
set_option maxRecDepth 100000 in
theorem zp_d138_0 : zp_db prog_1_method_4_code zp_t138_0 = true := by decide +kernel
set_option maxRecDepth 100000 in
theorem zp_k138 : zx_mok zp_P zp_G zp_cl zp_m138 := zp_mc_ok (a := 423) (b := 93) (c := 421) (d := 422) rfl (by decide +kernel) (by decide +kernel) (zp_db_ok zp_d138_0)
set_option maxRecDepth 100000 in
theorem zp_d139_0 : zp_db prog_1_method_5_code zp_t139_0 = true := by decide +kernel
set_option maxRecDepth 100000 in
theorem zp_k139 : zx_mok zp_P zp_G zp_cl zp_m139 := zp_mc_ok (a := 434) (b := 93) (c := 432) (d := 433) rfl (by decide +kernel) (by decide +kernel) (zp_db_ok zp_d139_0)
set_option maxRecDepth 100000 in
theorem zp_d140_0 : zp_db prog_1_method_6_code zp_t140_0 = true := by decide +kernel
set_option maxRecDepth 100000 in
theorem zp_k140 : zx_mok zp_P zp_G zp_cl zp_m140 := zp_mc_ok (a := 679) (b := 93) (c := 677) (d := 678) rfl (by decide +kernel) (by decide +kernel) (zp_db_ok zp_d140_0)
set_option maxRecDepth 100000 in
theorem zp_d141_0 : zp_db prog_1_method_7_code zp_t141_0 = true := by decide +kernel
set_option maxRecDepth 100000 in
theorem zp_k141 : zx_mok zp_P zp_G zp_cl zp_m141 := zp_mc_ok (a := 683) (b := 93) (c := 681) (d := 682) rfl (by decide +kernel) (by decide +kernel) (zp_db_ok zp_d141_0)
set_option maxRecDepth 100000 in
theorem zp_d142_0 : zp_db prog_1_method_8_code zp_t142_0 = true := by decide +kernel
set_option maxRecDepth 100000 in
theorem zp_k142 : zx_mok zp_P zp_G zp_cl zp_m142 := zp_mc_ok (a := 700) (b := 93) (c := 698) (d := 699) rfl (by decide +kernel) (by decide +kernel) (zp_db_ok zp_d142_0)
set_option maxRecDepth 100000 in
theorem zp_d143_0 : zp_db prog_1_method_9_code zp_t143_0 = true := by decide +kernel
set_option maxRecDepth 100000 in
theorem zp_k143 : zx_mok zp_P zp_G zp_cl zp_m143 := zp_mc_ok (a := 704) (b := 93) (c := 702) (d := 703) rfl (by decide +kernel) (by decide +kernel) (zp_db_ok zp_d143_0)
set_option maxRecDepth 100000 in
theorem zp_d144_0 : zp_db prog_1_method_10_code zp_t144_0 = true := by decide +kernel
set_option maxRecDepth 100000 in
theorem zp_k144 : zx_mok zp_P zp_G zp_cl zp_m144 := zp_mc_ok (a := 742) (b := 93) (c := 740) (d := 741) rfl (by decide +kernel) (by decide +kernel) (zp_db_ok zp_d144_0)
set_option maxRecDepth 100000 in
theorem zp_d145_0 : zp_db prog_1_method_11_code zp_t145_0 = true := by decide +kernel
set_option maxRecDepth 100000 in
theorem zp_k145 : zx_mok zp_P zp_G zp_cl zp_m145 := zp_mc_ok (a := 751) (b := 93) (c := 749) (d := 750) rfl (by decide +kernel) (by decide +kernel) (zp_db_ok zp_d145_0)
set_option maxRecDepth 100000 in
theorem zp_d146_0 : zp_db prog_1_method_12_code zp_t146_0 = true := by decide +kernel
set_option maxRecDepth 100000 in
theorem zp_k146 : zx_mok zp_P zp_G zp_cl zp_m146 := zp_mc_ok (a := 829) (b := 93) (c := 827) (d := 828) rfl (by decide +kernel) (by decide +kernel) (zp_db_ok zp_d146_0)
set_option maxRecDepth 100000 in
theorem zp_d147_0 : zp_db prog_1_method_13_code zp_t147_0 = true := by decide +kernel
set_option maxRecDepth 100000 in
theorem zp_k147 : zx_mok zp_P zp_G zp_cl zp_m147 := zp_mc_ok (a := 1152) (b := 93) (c := 1150) (d := 1151) rfl (by decide +kernel) (by decide +kernel) (zp_db_ok zp_d147_0)
set_option maxRecDepth 100000 in
theorem zp_d148_0 : zp_db prog_1_method_14_code zp_t148_0 = true := by decide +kernel
set_option maxRecDepth 100000 in
theorem zp_k148 : zx_mok zp_P zp_G zp_cl zp_m148 := zp_mc_ok (a := 888) (b := 93) (c := 886) (d := 887) rfl (by decide +kernel) (by decide +kernel) (zp_db_ok zp_d148_0)
set_option maxRecDepth 100000 in
theorem zp_d149_0 : zp_db prog_1_method_15_code zp_t149_0 = true := by decide +kernel
set_option maxRecDepth 100000 in
theorem zp_k149 : zx_mok zp_P zp_G zp_cl zp_m149 := zp_mc_ok (a := 897) (b := 93) (c := 895) (d := 896) rfl (by decide +kernel) (by decide +kernel) (zp_db_ok zp_d149_0)
set_option maxRecDepth 100000 in
theorem zp_d150_0 : zp_db prog_1_method_16_code zp_t150_0 = true := by decide +kernel
set_option maxRecDepth 100000 in
theorem zp_k150 : zx_mok zp_P zp_G zp_cl zp_m150 := zp_mc_ok (a := 1032) (b := 93) (c := 1030) (d := 1031) rfl (by decide +kernel) (by decide +kernel) (zp_db_ok zp_d150_0)
set_option maxRecDepth 100000 in
theorem zp_d151_0 : zp_db prog_1_method_17_code zp_t151_0 = true := by decide +kernel
set_option maxRecDepth 100000 in
theorem zp_k151 : zx_mok zp_P zp_G zp_cl zp_m151 := zp_mc_ok (a := 1052) (b := 93) (c := 1050) (d := 1051) rfl (by decide +kernel) (by decide +kernel) (zp_db_ok zp_d151_0)
set_option maxRecDepth 100000 in
theorem zp_d152_0 : zp_db prog_1_method_18_code zp_t152_0 = true := by decide +kernel
set_option maxRecDepth 100000 in
theorem zp_k152 : zx_mok zp_P zp_G zp_cl zp_m152 := zp_mc_ok (a := 1067) (b := 93) (c := 1065) (d := 1066) rfl (by decide +kernel) (by decide +kernel) (zp_db_ok zp_d152_0)
set_option maxRecDepth 100000 in
theorem zp_d153_0 : zp_db prog_1_method_19_code zp_t153_0 = true := by decide +kernel
set_option maxRecDepth 100000 in
theorem zp_k153 : zx_mok zp_P zp_G zp_cl zp_m153 := zp_mc_ok (a := 426) (b := 93) (c := 425) (d := 0) rfl (by decide +kernel) (by decide +kernel) (zp_db_ok zp_d153_0)
set_option maxRecDepth 100000 in
theorem zp_d154_0 : zp_db prog_1_method_20_code zp_t154_0 = true := by decide +kernel
set_option maxRecDepth 100000 in
theorem zp_k154 : zx_mok zp_P zp_G zp_cl zp_m154 := zp_mc_ok (a := 675) (b := 93) (c := 674) (d := 0) rfl (by decide +kernel) (by decide +kernel) (zp_db_ok zp_d154_0)
set_option maxRecDepth 100000 in
theorem zp_d155_0 : zp_db prog_14_method_3_code zp_t155_0 = true := by decide +kernel
set_option maxRecDepth 100000 in
theorem zp_k155 : zx_mok zp_P zp_G zp_cl zp_m155 := zp_mc_ok (a := 1343) (b := 103) (c := 1342) (d := 0) rfl (by decide +kernel) (by decide +kernel) (zp_db_ok zp_d155_0)
set_option maxRecDepth 100000 in
theorem zp_d156_0 : zp_db prog_14_method_4_code zp_t156_0 = true := by decide +kernel
set_option maxRecDepth 100000 in
theorem zp_k156 : zx_mok zp_P zp_G zp_cl zp_m156 := zp_mc_ok (a := 1349) (b := 103) (c := 1348) (d := 0) rfl (by decide +kernel) (by decide +kernel) (zp_db_ok zp_d156_0)
set_option maxRecDepth 100000 in
theorem zp_d157_0 : zp_db prog_14_method_5_code zp_t157_0 = true := by decide +kernel
set_option maxRecDepth 100000 in
theorem zp_k157 : zx_mok zp_P zp_G zp_cl zp_m157 := zp_mc_ok (a := 1346) (b := 103) (c := 1345) (d := 0) rfl (by decide +kernel) (by decide +kernel) (zp_db_ok zp_d157_0)
set_option maxRecDepth 100000 in
theorem zp_d158_0 : zp_db prog_14_method_6_code zp_t158_0 = true := by decide +kernel
set_option maxRecDepth 100000 in
theorem zp_d158_1 : zp_db prog_14_method_6_code zp_t158_1 = true := by decide +kernel
set_option maxRecDepth 100000 in
theorem zp_k158 : zx_mok zp_P zp_G zp_cl zp_m158 := zp_mc_ok (a := 1352) (b := 103) (c := 1351) (d := 0) rfl (by decide +kernel) (by decide +kernel) (zp_db_app (zp_db_ok zp_d158_0) (zp_db_ok zp_d158_1))
set_option maxRecDepth 100000 in
theorem zp_d159_0 : zp_db prog_14_method_7_code zp_t159_0 = true := by decide +kernel
set_option maxRecDepth 100000 in
theorem zp_k159 : zx_mok zp_P zp_G zp_cl zp_m159 := zp_mc_ok (a := 1376) (b := 103) (c := 1375) (d := 59) rfl (by decide +kernel) (by decide +kernel) (zp_db_ok zp_d159_0)
set_option maxRecDepth 100000 in
theorem zp_d160_0 : zp_db prog_14_method_8_code zp_t160_0 = true := by decide +kernel
set_option maxRecDepth 100000 in
theorem zp_k160 : zx_mok zp_P zp_G zp_cl zp_m160 := zp_mc_ok (a := 1384) (b := 103) (c := 1383) (d := 61) rfl (by decide +kernel) (by decide +kernel) (zp_db_ok zp_d160_0)
set_option maxRecDepth 100000 in
theorem zp_d161_0 : zp_db prog_14_method_9_code zp_t161_0 = true := by decide +kernel
set_option maxRecDepth 100000 in
theorem zp_d161_1 : zp_db prog_14_method_9_code zp_t161_1 = true := by decide +kernel
set_option maxRecDepth 100000 in
theorem zp_k161 : zx_mok zp_P zp_G zp_cl zp_m161 := zp_mc_ok (a := 1387) (b := 103) (c := 1386) (d := 0) rfl (by decide +kernel) (by decide +kernel) (zp_db_app (zp_db_ok zp_d161_0) (zp_db_ok zp_d161_1))
set_option maxRecDepth 100000 in
theorem zp_d162_0 : zp_db prog_14_method_10_code zp_t162_0 = true := by decide +kernel
set_option maxRecDepth 100000 in
theorem zp_k162 : zx_mok zp_P zp_G zp_cl zp_m162 := zp_mc_ok (a := 1380) (b := 103) (c := 1379) (d := 60) rfl (by decide +kernel) (by decide +kernel) (zp_db_ok zp_d162_0)
set_option maxRecDepth 100000 in
theorem zp_d163_0 : zp_db prog_14_method_11_code zp_t163_0 = true := by decide +kernel
set_option maxRecDepth 100000 in
theorem zp_d163_1 : zp_db prog_14_method_11_code zp_t163_1 = true := by decide +kernel
set_option maxRecDepth 100000 in
theorem zp_k163 : zx_mok zp_P zp_G zp_cl zp_m163 := zp_mc_ok (a := 1372) (b := 103) (c := 1371) (d := 58) rfl (by decide +kernel) (by decide +kernel) (zp_db_app (zp_db_ok zp_d163_0) (zp_db_ok zp_d163_1))
set_option maxRecDepth 100000 in
theorem zp_d164_0 : zp_db prog_14_method_12_code zp_t164_0 = true := by decide +kernel
set_option maxRecDepth 100000 in
theorem zp_k164 : zx_mok zp_P zp_G zp_cl zp_m164 := zp_mc_ok (a := 1399) (b := 103) (c := 1398) (d := 64) rfl (by decide +kernel) (by decide +kernel) (zp_db_ok zp_d164_0)
set_option maxRecDepth 100000 in
theorem zp_d165_0 : zp_db prog_14_method_13_code zp_t165_0 = true := by decide +kernel
set_option maxRecDepth 100000 in
theorem zp_k165 : zx_mok zp_P zp_G zp_cl zp_m165 := zp_mc_ok (a := 1391) (b := 103) (c := 1390) (d := 62) rfl (by decide +kernel) (by decide +kernel) (zp_db_ok zp_d165_0)
set_option maxRecDepth 100000 in
theorem zp_d166_0 : zp_db prog_14_method_14_code zp_t166_0 = true := by decide +kernel
set_option maxRecDepth 100000 in
theorem zp_d166_1 : zp_db prog_14_method_14_code zp_t166_1 = true := by decide +kernel
set_option maxRecDepth 100000 in
theorem zp_k166 : zx_mok zp_P zp_G zp_cl zp_m166 := zp_mc_ok (a := 1395) (b := 103) (c := 1394) (d := 63) rfl (by decide +kernel) (by decide +kernel) (zp_db_app (zp_db_ok zp_d166_0) (zp_db_ok zp_d166_1))
set_option maxRecDepth 100000 in
theorem zp_d167_0 : zp_db prog_14_method_15_code zp_t167_0 = true := by decide +kernel
set_option maxRecDepth 100000 in
theorem zp_d167_1 : zp_db prog_14_method_15_code zp_t167_1 = true := by decide +kernel
set_option maxRecDepth 100000 in
theorem zp_d167_2 : zp_db prog_14_method_15_code zp_t167_2 = true := by decide +kernel
set_option maxRecDepth 100000 in
theorem zp_d167_3 : zp_db prog_14_method_15_code zp_t167_3 = true := by decide +kernel
set_option maxRecDepth 100000 in
theorem zp_d167_4 : zp_db prog_14_method_15_code zp_t167_4 = true := by decide +kernel
set_option maxRecDepth 100000 in
theorem zp_k167 : zx_mok zp_P zp_G zp_cl zp_m167 := zp_mc_ok (a := 1368) (b := 103) (c := 1367) (d := 57) rfl (by decide +kernel) (by decide +kernel) (zp_db_app (zp_db_ok zp_d167_0) (zp_db_app (zp_db_ok zp_d167_1) (zp_db_app (zp_db_ok zp_d167_2) (zp_db_app (zp_db_ok zp_d167_3) (zp_db_ok zp_d167_4)))))
set_option maxRecDepth 100000 in
theorem zp_d168_0 : zp_db prog_14_method_16_code zp_t168_0 = true := by decide +kernel
set_option maxRecDepth 100000 in
theorem zp_k168 : zx_mok zp_P zp_G zp_cl zp_m168 := zp_mc_ok (a := 1411) (b := 103) (c := 1410) (d := 67) rfl (by decide +kernel) (by decide +kernel) (zp_db_ok zp_d168_0)
set_option maxRecDepth 100000 in
theorem zp_d169_0 : zp_db prog_14_method_17_code zp_t169_0 = true := by decide +kernel
set_option maxRecDepth 100000 in
theorem zp_d169_1 : zp_db prog_14_method_17_code zp_t169_1 = true := by decide +kernel
set_option maxRecDepth 100000 in
theorem zp_k169 : zx_mok zp_P zp_G zp_cl zp_m169 := zp_mc_ok (a := 1407) (b := 103) (c := 1406) (d := 66) rfl (by decide +kernel) (by decide +kernel) (zp_db_app (zp_db_ok zp_d169_0) (zp_db_ok zp_d169_1))
set_option maxRecDepth 100000 in
theorem zp_d170_0 : zp_db prog_14_method_18_code zp_t170_0 = true := by decide +kernel
set_option maxRecDepth 100000 in
theorem zp_k170 : zx_mok zp_P zp_G zp_cl zp_m170 := zp_mc_ok (a := 1403) (b := 103) (c := 1402) (d := 65) rfl (by decide +kernel) (by decide +kernel) (zp_db_ok zp_d170_0)
set_option maxRecDepth 100000 in
theorem zp_d171_0 : zp_db prog_14_method_19_code zp_t171_0 = true := by decide +kernel
set_option maxRecDepth 100000 in
theorem zp_k171 : zx_mok zp_P zp_G zp_cl zp_m171 := zp_mc_ok (a := 1364) (b := 103) (c := 1363) (d := 56) rfl (by decide +kernel) (by decide +kernel) (zp_db_ok zp_d171_0)
set_option maxRecDepth 100000 in
theorem zp_d172_0 : zp_db prog_14_method_20_code zp_t172_0 = true := by decide +kernel
set_option maxRecDepth 100000 in
theorem zp_k172 : zx_mok zp_P zp_G zp_cl zp_m172 := zp_mc_ok (a := 1336) (b := 103) (c := 1335) (d := 52) rfl (by decide +kernel) (by decide +kernel) (zp_db_ok zp_d172_0)
set_option maxRecDepth 100000 in
theorem zp_d173_0 : zp_db prog_14_method_21_code zp_t173_0 = true := by decide +kernel
set_option maxRecDepth 100000 in
theorem zp_k173 : zx_mok zp_P zp_G zp_cl zp_m173 := zp_mc_ok (a := 1360) (b := 103) (c := 1359) (d := 55) rfl (by decide +kernel) (by decide +kernel) (zp_db_ok zp_d173_0)
set_option maxRecDepth 100000 in
theorem zp_d174_0 : zp_db prog_14_method_22_code zp_t174_0 = true := by decide +kernel
set_option maxRecDepth 100000 in
theorem zp_d174_1 : zp_db prog_14_method_22_code zp_t174_1 = true := by decide +kernel
set_option maxRecDepth 100000 in
theorem zp_d174_2 : zp_db prog_14_method_22_code zp_t174_2 = true := by decide +kernel
set_option maxRecDepth 100000 in
theorem zp_d174_3 : zp_db prog_14_method_22_code zp_t174_3 = true := by decide +kernel
set_option maxRecDepth 100000 in
theorem zp_k174 : zx_mok zp_P zp_G zp_cl zp_m174 := zp_mc_ok (a := 1340) (b := 103) (c := 1339) (d := 53) rfl (by decide +kernel) (by decide +kernel) (zp_db_app (zp_db_ok zp_d174_0) (zp_db_app (zp_db_ok zp_d174_1) (zp_db_app (zp_db_ok zp_d174_2) (zp_db_ok zp_d174_3))))
set_option maxRecDepth 100000 in
theorem zp_d175_0 : zp_db prog_14_method_23_code zp_t175_0 = true := by decide +kernel
set_option maxRecDepth 100000 in
theorem zp_d175_1 : zp_db prog_14_method_23_code zp_t175_1 = true := by decide +kernel
set_option maxRecDepth 100000 in
theorem zp_d175_2 : zp_db prog_14_method_23_code zp_t175_2 = true := by decide +kernel
set_option maxRecDepth 100000 in
theorem zp_k175 : zx_mok zp_P zp_G zp_cl zp_m175 := zp_mc_ok (a := 1356) (b := 103) (c := 1355) (d := 54) rfl (by decide +kernel) (by decide +kernel) (zp_db_app (zp_db_ok zp_d175_0) (zp_db_app (zp_db_ok zp_d175_1) (zp_db_ok zp_d175_2)))
set_option maxRecDepth 100000 in
theorem zp_d176_0 : zp_db prog_14_method_24_code zp_t176_0 = true := by decide +kernel
set_option maxRecDepth 100000 in
theorem zp_d176_1 : zp_db prog_14_method_24_code zp_t176_1 = true := by decide +kernel
set_option maxRecDepth 100000 in
theorem zp_d176_2 : zp_db prog_14_method_24_code zp_t176_2 = true := by decide +kernel
set_option maxRecDepth 100000 in
theorem zp_k176 : zx_mok zp_P zp_G zp_cl zp_m176 := zp_mc_ok (a := 1332) (b := 103) (c := 1330) (d := 1331) rfl (by decide +kernel) (by decide +kernel) (zp_db_app (zp_db_ok zp_d176_0) (zp_db_app (zp_db_ok zp_d176_1) (zp_db_ok zp_d176_2)))
set_option maxRecDepth 100000 in
theorem zp_d177_0 : zp_db prog_14_method_25_code zp_t177_0 = true := by decide +kernel
set_option maxRecDepth 100000 in
theorem zp_d177_1 : zp_db prog_14_method_25_code zp_t177_1 = true := by decide +kernel
set_option maxRecDepth 100000 in
theorem zp_k177 : zx_mok zp_P zp_G zp_cl zp_m177 := zp_mc_ok (a := 1415) (b := 103) (c := 1414) (d := 68) rfl (by decide +kernel) (by decide +kernel) (zp_db_app (zp_db_ok zp_d177_0) (zp_db_ok zp_d177_1))
set_option maxRecDepth 100000 in
theorem zp_d178_0 : zp_db prog_14_method_26_code zp_t178_0 = true := by decide +kernel
set_option maxRecDepth 100000 in
theorem zp_d178_1 : zp_db prog_14_method_26_code zp_t178_1 = true := by decide +kernel
set_option maxRecDepth 100000 in
theorem zp_d178_2 : zp_db prog_14_method_26_code zp_t178_2 = true := by decide +kernel
set_option maxRecDepth 100000 in
theorem zp_k178 : zx_mok zp_P zp_G zp_cl zp_m178 := zp_mc_ok (a := 1419) (b := 103) (c := 1418) (d := 69) rfl (by decide +kernel) (by decide +kernel) (zp_db_app (zp_db_ok zp_d178_0) (zp_db_app (zp_db_ok zp_d178_1) (zp_db_ok zp_d178_2)))
set_option maxRecDepth 100000 in
theorem zp_d179_0 : zp_db prog_14_method_27_code zp_t179_0 = true := by decide +kernel
set_option maxRecDepth 100000 in
theorem zp_k179 : zx_mok zp_P zp_G zp_cl zp_m179 := zp_mc_ok (a := 1430) (b := 103) (c := 1429) (d := 70) rfl (by decide +kernel) (by decide +kernel) (zp_db_ok zp_d179_0)
