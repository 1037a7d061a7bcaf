set_option maxRecDepth 100000 in
theorem zp_d180_0 : zp_db prog_14_method_28_code zp_t180_0 = true := by decide +kernel
set_option maxRecDepth 100000 in
theorem zp_d180_1 : zp_db prog_14_method_28_code zp_t180_1 = true := by decide +kernel
set_option maxRecDepth 100000 in
theorem zp_k180 : zx_mok zp_P zp_G zp_cl zp_m180 := zp_mc_ok (a := 1426) (b := 103) (c := 1425) (d := 0) rfl (by decide +kernel) (by decide +kernel) (zp_db_app (zp_db_ok zp_d180_0) (zp_db_ok zp_d180_1))
set_option maxRecDepth 100000 in
theorem zp_d181_0 : zp_db prog_14_method_29_code zp_t181_0 = true := by decide +kernel
set_option maxRecDepth 100000 in
theorem zp_k181 : zx_mok zp_P zp_G zp_cl zp_m181 := zp_mc_ok (a := 1442) (b := 103) (c := 1441) (d := 73) rfl (by decide +kernel) (by decide +kernel) (zp_db_ok zp_d181_0)
set_option maxRecDepth 100000 in
theorem zp_d182_0 : zp_db prog_14_method_30_code zp_t182_0 = true := by decide +kernel
set_option maxRecDepth 100000 in
theorem zp_k182 : zx_mok zp_P zp_G zp_cl zp_m182 := zp_mc_ok (a := 1438) (b := 103) (c := 1437) (d := 72) rfl (by decide +kernel) (by decide +kernel) (zp_db_ok zp_d182_0)
set_option maxRecDepth 100000 in
theorem zp_d183_0 : zp_db prog_14_method_31_code zp_t183_0 = true := by decide +kernel
set_option maxRecDepth 100000 in
theorem zp_d183_1 : zp_db prog_14_method_31_code zp_t183_1 = true := by decide +kernel
set_option maxRecDepth 100000 in
theorem zp_k183 : zx_mok zp_P zp_G zp_cl zp_m183 := zp_mc_ok (a := 1434) (b := 103) (c := 1433) (d := 71) rfl (by decide +kernel) (by decide +kernel) (zp_db_app (zp_db_ok zp_d183_0) (zp_db_ok zp_d183_1))
set_option maxRecDepth 100000 in
theorem zp_d184_0 : zp_db prog_14_method_32_code zp_t184_0 = true := by decide +kernel
set_option maxRecDepth 100000 in
theorem zp_d184_1 : zp_db prog_14_method_32_code zp_t184_1 = true := by decide +kernel
set_option maxRecDepth 100000 in
theorem zp_k184 : zx_mok zp_P zp_G zp_cl zp_m184 := zp_mc_ok (a := 1446) (b := 103) (c := 1445) (d := 74) rfl (by decide +kernel) (by decide +kernel) (zp_db_app (zp_db_ok zp_d184_0) (zp_db_ok zp_d184_1))
set_option maxRecDepth 100000 in
theorem zp_d185_0 : zp_db prog_14_method_33_code zp_t185_0 = true := by decide +kernel
set_option maxRecDepth 100000 in
theorem zp_d185_1 : zp_db prog_14_method_33_code zp_t185_1 = true := by decide +kernel
set_option maxRecDepth 100000 in
theorem zp_k185 : zx_mok zp_P zp_G zp_cl zp_m185 := zp_mc_ok (a := 1450) (b := 103) (c := 1449) (d := 75) rfl (by decide +kernel) (by decide +kernel) (zp_db_app (zp_db_ok zp_d185_0) (zp_db_ok zp_d185_1))
set_option maxRecDepth 100000 in
theorem zp_d186_0 : zp_db prog_14_method_34_code zp_t186_0 = true := by decide +kernel
set_option maxRecDepth 100000 in
theorem zp_d186_1 : zp_db prog_14_method_34_code zp_t186_1 = true := by decide +kernel
set_option maxRecDepth 100000 in
theorem zp_d186_2 : zp_db prog_14_method_34_code zp_t186_2 = true := by decide +kernel
set_option maxRecDepth 100000 in
theorem zp_k186 : zx_mok zp_P zp_G zp_cl zp_m186 := zp_mc_ok (a := 1423) (b := 103) (c := 1421) (d := 1422) rfl (by decide +kernel) (by decide +kernel) (zp_db_app (zp_db_ok zp_d186_0) (zp_db_app (zp_db_ok zp_d186_1) (zp_db_ok zp_d186_2)))
set_option maxRecDepth 100000 in
theorem zp_d187_0 : zp_db prog_14_method_35_code zp_t187_0 = true := by decide +kernel
set_option maxRecDepth 100000 in
theorem zp_k187 : zx_mok zp_P zp_G zp_cl zp_m187 := zp_mc_ok (a := 1475) (b := 103) (c := 1474) (d := 78) rfl (by decide +kernel) (by decide +kernel) (zp_db_ok zp_d187_0)
set_option maxRecDepth 100000 in
theorem zp_d188_0 : zp_db prog_14_method_36_code zp_t188_0 = true := by decide +kernel
set_option maxRecDepth 100000 in
theorem zp_k188 : zx_mok zp_P zp_G zp_cl zp_m188 := zp_mc_ok (a := 1464) (b := 103) (c := 1463) (d := 0) rfl (by decide +kernel) (by decide +kernel) (zp_db_ok zp_d188_0)
set_option maxRecDepth 100000 in
theorem zp_d189_0 : zp_db prog_14_method_37_code zp_t189_0 = true := by decide +kernel
set_option maxRecDepth 100000 in
theorem zp_k189 : zx_mok zp_P zp_G zp_cl zp_m189 := zp_mc_ok (a := 1461) (b := 103) (c := 1460) (d := 0) rfl (by decide +kernel) (by decide +kernel) (zp_db_ok zp_d189_0)
set_option maxRecDepth 100000 in
theorem zp_d190_0 : zp_db prog_14_method_38_code zp_t190_0 = true := by decide +kernel
set_option maxRecDepth 100000 in
theorem zp_d190_1 : zp_db prog_14_method_38_code zp_t190_1 = true := by decide +kernel
set_option maxRecDepth 100000 in
theorem zp_k190 : zx_mok zp_P zp_G zp_cl zp_m190 := zp_mc_ok (a := 1479) (b := 103) (c := 1478) (d := 79) rfl (by decide +kernel) (by decide +kernel) (zp_db_app (zp_db_ok zp_d190_0) (zp_db_ok zp_d190_1))
set_option maxRecDepth 100000 in
theorem zp_d191_0 : zp_db prog_14_method_39_code zp_t191_0 = true := by decide +kernel
set_option maxRecDepth 100000 in
theorem zp_k191 : zx_mok zp_P zp_G zp_cl zp_m191 := zp_mc_ok (a := 1467) (b := 103) (c := 1466) (d := 0) rfl (by decide +kernel) (by decide +kernel) (zp_db_ok zp_d191_0)
set_option maxRecDepth 100000 in
theorem zp_d192_0 : zp_db prog_14_method_40_code zp_t192_0 = true := by decide +kernel
set_option maxRecDepth 100000 in
theorem zp_k192 : zx_mok zp_P zp_G zp_cl zp_m192 := zp_mc_ok (a := 1471) (b := 103) (c := 1470) (d := 77) rfl (by decide +kernel) (by decide +kernel) (zp_db_ok zp_d192_0)
set_option maxRecDepth 100000 in
theorem zp_d193_0 : zp_db prog_14_method_41_code zp_t193_0 = true := by decide +kernel
set_option maxRecDepth 100000 in
theorem zp_d193_1 : zp_db prog_14_method_41_code zp_t193_1 = true := by decide +kernel
set_option maxRecDepth 100000 in
theorem zp_d193_2 : zp_db prog_14_method_41_code zp_t193_2 = true := by decide +kernel
set_option maxRecDepth 100000 in
theorem zp_d193_3 : zp_db prog_14_method_41_code zp_t193_3 = true := by decide +kernel
set_option maxRecDepth 100000 in
theorem zp_d193_4 : zp_db prog_14_method_41_code zp_t193_4 = true := by decide +kernel
set_option maxRecDepth 100000 in
theorem zp_d193_5 : zp_db prog_14_method_41_code zp_t193_5 = true := by decide +kernel
set_option maxRecDepth 100000 in
theorem zp_d193_6 : zp_db prog_14_method_41_code zp_t193_6 = true := by decide +kernel
set_option maxRecDepth 100000 in
theorem zp_k193 : zx_mok zp_P zp_G zp_cl zp_m193 := zp_mc_ok (a := 1458) (b := 103) (c := 1457) (d := 76) rfl (by decide +kernel) (by decide +kernel) (zp_db_app (zp_db_ok zp_d193_0) (zp_db_app (zp_db_ok zp_d193_1) (zp_db_app (zp_db_ok zp_d193_2) (zp_db_app (zp_db_ok zp_d193_3) (zp_db_app (zp_db_ok zp_d193_4) (zp_db_app (zp_db_ok zp_d193_5) (zp_db_ok zp_d193_6)))))))
set_option maxRecDepth 100000 in
theorem zp_d194_0 : zp_db prog_14_method_42_code zp_t194_0 = true := by decide +kernel
set_option maxRecDepth 100000 in
theorem zp_k194 : zx_mok zp_P zp_G zp_cl zp_m194 := zp_mc_ok (a := 1454) (b := 103) (c := 1452) (d := 1453) rfl (by decide +kernel) (by decide +kernel) (zp_db_ok zp_d194_0)
set_option maxRecDepth 100000 in
theorem zp_d195_0 : zp_db prog_14_method_43_code zp_t195_0 = true := by decide +kernel
set_option maxRecDepth 100000 in
theorem zp_k195 : zx_mok zp_P zp_G zp_cl zp_m195 := zp_mc_ok (a := 1483) (b := 103) (c := 1481) (d := 1482) rfl (by decide +kernel) (by decide +kernel) (zp_db_ok zp_d195_0)
set_option maxRecDepth 100000 in
theorem zp_d196_0 : zp_db prog_14_method_44_code zp_t196_0 = true := by decide +kernel
set_option maxRecDepth 100000 in
theorem zp_d196_1 : zp_db prog_14_method_44_code zp_t196_1 = true := by decide +kernel
set_option maxRecDepth 100000 in
theorem zp_k196 : zx_mok zp_P zp_G zp_cl zp_m196 := zp_mc_ok (a := 1487) (b := 103) (c := 1485) (d := 1486) rfl (by decide +kernel) (by decide +kernel) (zp_db_app (zp_db_ok zp_d196_0) (zp_db_ok zp_d196_1))
set_option maxRecDepth 100000 in
theorem zp_d197_0 : zp_db prog_14_method_45_code zp_t197_0 = true := by decide +kernel
set_option maxRecDepth 100000 in
theorem zp_d197_1 : zp_db prog_14_method_45_code zp_t197_1 = true := by decide +kernel
set_option maxRecDepth 100000 in
theorem zp_k197 : zx_mok zp_P zp_G zp_cl zp_m197 := zp_mc_ok (a := 1491) (b := 103) (c := 1489) (d := 1490) rfl (by decide +kernel) (by decide +kernel) (zp_db_app (zp_db_ok zp_d197_0) (zp_db_ok zp_d197_1))
set_option maxRecDepth 100000 in
theorem zp_d198_0 : zp_db prog_14_method_46_code zp_t198_0 = true := by decide +kernel
set_option maxRecDepth 100000 in
theorem zp_d198_1 : zp_db prog_14_method_46_code zp_t198_1 = true := by decide +kernel
set_option maxRecDepth 100000 in
theorem zp_k198 : zx_mok zp_P zp_G zp_cl zp_m198 := zp_mc_ok (a := 1495) (b := 103) (c := 1493) (d := 1494) rfl (by decide +kernel) (by decide +kernel) (zp_db_app (zp_db_ok zp_d198_0) (zp_db_ok zp_d198_1))
set_option maxRecDepth 100000 in
theorem zp_d199_0 : zp_db prog_14_method_47_code zp_t199_0 = true := by decide +kernel
set_option maxRecDepth 100000 in
theorem zp_k199 : zx_mok zp_P zp_G zp_cl zp_m199 := zp_mc_ok (a := 1499) (b := 103) (c := 1497) (d := 1498) rfl (by decide +kernel) (by decide +kernel) (zp_db_ok zp_d199_0)
set_option maxRecDepth 100000 in
theorem zp_d200_0 : zp_db prog_14_method_48_code zp_t200_0 = true := by decide +kernel
set_option maxRecDepth 100000 in
theorem zp_d200_1 : zp_db prog_14_method_48_code zp_t200_1 = true := by decide +kernel
set_option maxRecDepth 100000 in
theorem zp_k200 : zx_mok zp_P zp_G zp_cl zp_m200 := zp_mc_ok (a := 1503) (b := 103) (c := 1501) (d := 1502) rfl (by decide +kernel) (by decide +kernel) (zp_db_app (zp_db_ok zp_d200_0) (zp_db_ok zp_d200_1))
set_option maxRecDepth 100000 in
theorem zp_d201_0 : zp_db prog_14_method_49_code zp_t201_0 = true := by decide +kernel
set_option maxRecDepth 100000 in
theorem zp_k201 : zx_mok zp_P zp_G zp_cl zp_m201 := zp_mc_ok (a := 1507) (b := 103) (c := 1505) (d := 1506) rfl (by decide +kernel) (by decide +kernel) (zp_db_ok zp_d201_0)
set_option maxRecDepth 100000 in
theorem zp_d202_0 : zp_db prog_14_method_50_code zp_t202_0 = true := by decide +kernel
set_option maxRecDepth 100000 in
theorem zp_d202_1 : zp_db prog_14_method_50_code zp_t202_1 = true := by decide +kernel
set_option maxRecDepth 100000 in
theorem zp_k202 : zx_mok zp_P zp_G zp_cl zp_m202 := zp_mc_ok (a := 1511) (b := 103) (c := 1509) (d := 1510) rfl (by decide +kernel) (by decide +kernel) (zp_db_app (zp_db_ok zp_d202_0) (zp_db_ok zp_d202_1))
set_option maxRecDepth 100000 in
theorem zp_d203_0 : zp_db prog_14_method_51_code zp_t203_0 = true := by decide +kernel
set_option maxRecDepth 100000 in
theorem zp_d203_1 : zp_db prog_14_method_51_code zp_t203_1 = true := by decide +kernel
set_option maxRecDepth 100000 in
theorem zp_k203 : zx_mok zp_P zp_G zp_cl zp_m203 := zp_mc_ok (a := 1515) (b := 103) (c := 1513) (d := 1514) rfl (by decide +kernel) (by decide +kernel) (zp_db_app (zp_db_ok zp_d203_0) (zp_db_ok zp_d203_1))
set_option maxRecDepth 100000 in
theorem zp_d204_0 : zp_db prog_14_method_52_code zp_t204_0 = true := by decide +kernel
set_option maxRecDepth 100000 in
theorem zp_k204 : zx_mok zp_P zp_G zp_cl zp_m204 := zp_mc_ok (a := 1519) (b := 103) (c := 1517) (d := 1518) rfl (by decide +kernel) (by decide +kernel) (zp_db_ok zp_d204_0)
set_option maxRecDepth 100000 in
theorem zp_d205_0 : zp_db prog_14_method_53_code zp_t205_0 = true := by decide +kernel
set_option maxRecDepth 100000 in
theorem zp_k205 : zx_mok zp_P zp_G zp_cl zp_m205 := zp_mc_ok (a := 1533) (b := 103) (c := 1532) (d := 81) rfl (by decide +kernel) (by decide +kernel) (zp_db_ok zp_d205_0)
set_option maxRecDepth 100000 in
theorem zp_d206_0 : zp_db prog_14_method_54_code zp_t206_0 = true := by decide +kernel
set_option maxRecDepth 100000 in
theorem zp_d206_1 : zp_db prog_14_method_54_code zp_t206_1 = true := by decide +kernel
set_option maxRecDepth 100000 in
theorem zp_d206_2 : zp_db prog_14_method_54_code zp_t206_2 = true := by decide +kernel
set_option maxRecDepth 100000 in
theorem zp_k206 : zx_mok zp_P zp_G zp_cl zp_m206 := zp_mc_ok (a := 1528) (b := 103) (c := 1527) (d := 80) rfl (by decide +kernel) (by decide +kernel) (zp_db_app (zp_db_ok zp_d206_0) (zp_db_app (zp_db_ok zp_d206_1) (zp_db_ok zp_d206_2)))
set_option maxRecDepth 100000 in
theorem zp_d207_0 : zp_db prog_14_method_55_code zp_t207_0 = true := by decide +kernel
set_option maxRecDepth 100000 in
theorem zp_k207 : zx_mok zp_P zp_G zp_cl zp_m207 := zp_mc_ok (a := 1537) (b := 103) (c := 1536) (d := 82) rfl (by decide +kernel) (by decide +kernel) (zp_db_ok zp_d207_0)
set_option maxRecDepth 100000 in
theorem zp_d208_0 : zp_db prog_14_method_56_code zp_t208_0 = true := by decide +kernel
set_option maxRecDepth 100000 in
theorem zp_k208 : zx_mok zp_P zp_G zp_cl zp_m208 := zp_mc_ok (a := 1545) (b := 103) (c := 1544) (d := 84) rfl (by decide +kernel) (by decide +kernel) (zp_db_ok zp_d208_0)
set_option maxRecDepth 100000 in
theorem zp_d209_0 : zp_db prog_14_method_57_code zp_t209_0 = true := by decide +kernel
set_option maxRecDepth 100000 in
theorem zp_k209 : zx_mok zp_P zp_G zp_cl zp_m209 := zp_mc_ok (a := 1565) (b := 103) (c := 1564) (d := 89) rfl (by decide +kernel) (by decide +kernel) (zp_db_ok zp_d209_0)
set_option maxRecDepth 100000 in
theorem zp_d210_0 : zp_db prog_14_method_58_code zp_t210_0 = true := by decide +kernel
set_option maxRecDepth 100000 in
theorem zp_d210_1 : zp_db prog_14_method_58_code zp_t210_1 = true := by decide +kernel
set_option maxRecDepth 100000 in
theorem zp_k210 : zx_mok zp_P zp_G zp_cl zp_m210 := zp_mc_ok (a := 1561) (b := 103) (c := 1560) (d := 88) rfl (by decide +kernel) (by decide +kernel) (zp_db_app (zp_db_ok zp_d210_0) (zp_db_ok zp_d210_1))
set_option maxRecDepth 100000 in
theorem zp_d211_0 : zp_db prog_14_method_59_code zp_t211_0 = true := by decide +kernel
set_option maxRecDepth 100000 in
theorem zp_k211 : zx_mok zp_P zp_G zp_cl zp_m211 := zp_mc_ok (a := 1557) (b := 103) (c := 1556) (d := 87) rfl (by decide +kernel) (by decide +kernel) (zp_db_ok zp_d211_0)
set_option maxRecDepth 100000 in
theorem zp_d212_0 : zp_db prog_14_method_60_code zp_t212_0 = true := by decide +kernel
set_option maxRecDepth 100000 in
theorem zp_d212_1 : zp_db prog_14_method_60_code zp_t212_1 = true := by decide +kernel
set_option maxRecDepth 100000 in
theorem zp_d212_2 : zp_db prog_14_method_60_code zp_t212_2 = true := by decide +kernel
set_option maxRecDepth 100000 in
theorem zp_k212 : zx_mok zp_P zp_G zp_cl zp_m212 := zp_mc_ok (a := 1553) (b := 103) (c := 1552) (d := 86) rfl (by decide +kernel) (by decide +kernel) (zp_db_app (zp_db_ok zp_d212_0) (zp_db_app (zp_db_ok zp_d212_1) (zp_db_ok zp_d212_2)))
set_option maxRecDepth 100000 in
theorem zp_d213_0 : zp_db prog_14_method_61_code zp_t213_0 = true := by decide +kernel
set_option maxRecDepth 100000 in
theorem zp_d213_1 : zp_db prog_14_method_61_code zp_t213_1 = true := by decide +kernel
set_option maxRecDepth 100000 in
theorem zp_d213_2 : zp_db prog_14_method_61_code zp_t213_2 = true := by decide +kernel
set_option maxRecDepth 100000 in
theorem zp_k213 : zx_mok zp_P zp_G zp_cl zp_m213 := zp_mc_ok (a := 1574) (b := 103) (c := 1573) (d := 91) rfl (by decide +kernel) (by decide +kernel) (zp_db_app (zp_db_ok zp_d213_0) (zp_db_app (zp_db_ok zp_d213_1) (zp_db_ok zp_d213_2)))
set_option maxRecDepth 100000 in
theorem zp_d214_0 : zp_db prog_14_method_62_code zp_t214_0 = true := by decide +kernel
set_option maxRecDepth 100000 in
theorem zp_d214_1 : zp_db prog_14_method_62_code zp_t214_1 = true := by decide +kernel
set_option maxRecDepth 100000 in
theorem zp_d214_2 : zp_db prog_14_method_62_code zp_t214_2 = true := by decide +kernel
set_option maxRecDepth 100000 in
theorem zp_k214 : zx_mok zp_P zp_G zp_cl zp_m214 := zp_mc_ok (a := 1569) (b := 103) (c := 1568) (d := 90) rfl (by decide +kernel) (by decide +kernel) (zp_db_app (zp_db_ok zp_d214_0) (zp_db_app (zp_db_ok zp_d214_1) (zp_db_ok zp_d214_2)))
set_option maxRecDepth 100000 in
theorem zp_d215_0 : zp_db prog_14_method_63_code zp_t215_0 = true := by decide +kernel
set_option maxRecDepth 100000 in
theorem zp_d215_1 : zp_db prog_14_method_63_code zp_t215_1 = true := by decide +kernel
set_option maxRecDepth 100000 in
theorem zp_d215_2 : zp_db prog_14_method_63_code zp_t215_2 = true := by decide +kernel
set_option maxRecDepth 100000 in
theorem zp_d215_3 : zp_db prog_14_method_63_code zp_t215_3 = true := by decide +kernel
set_option maxRecDepth 100000 in
theorem zp_d215_4 : zp_db prog_14_method_63_code zp_t215_4 = true := by decide +kernel
set_option maxRecDepth 100000 in
theorem zp_d215_5 : zp_db prog_14_method_63_code zp_t215_5 = true := by decide +kernel
set_option maxRecDepth 100000 in
theorem zp_k215 : zx_mok zp_P zp_G zp_cl zp_m215 := zp_mc_ok (a := 1549) (b := 103) (c := 1548) (d := 85) rfl (by decide +kernel) (by decide +kernel) (zp_db_app (zp_db_ok zp_d215_0) (zp_db_app (zp_db_ok zp_d215_1) (zp_db_app (zp_db_ok zp_d215_2) (zp_db_app (zp_db_ok zp_d215_3) (zp_db_app (zp_db_ok zp_d215_4) (zp_db_ok zp_d215_5))))))
set_option maxRecDepth 100000 in
theorem zp_d216_0 : zp_db prog_14_method_64_code zp_t216_0 = true := by decide +kernel
set_option maxRecDepth 100000 in
theorem zp_d216_1 : zp_db prog_14_method_64_code zp_t216_1 = true := by decide +kernel
set_option maxRecDepth 100000 in
theorem zp_k216 : zx_mok zp_P zp_G zp_cl zp_m216 := zp_mc_ok (a := 1541) (b := 103) (c := 1540) (d := 83) rfl (by decide +kernel) (by decide +kernel) (zp_db_app (zp_db_ok zp_d216_0) (zp_db_ok zp_d216_1))
set_option maxRecDepth 100000 in
theorem zp_d217_0 : zp_db prog_14_method_65_code zp_t217_0 = true := by decide +kernel
set_option maxRecDepth 100000 in
theorem zp_d217_1 : zp_db prog_14_method_65_code zp_t217_1 = true := by decide +kernel
set_option maxRecDepth 100000 in
theorem zp_d217_2 : zp_db prog_14_method_65_code zp_t217_2 = true := by decide +kernel
set_option maxRecDepth 100000 in
theorem zp_d217_3 : zp_db prog_14_method_65_code zp_t217_3 = true := by decide +kernel
set_option maxRecDepth 100000 in
theorem zp_k217 : zx_mok zp_P zp_G zp_cl zp_m217 := zp_mc_ok (a := 1524) (b := 103) (c := 1522) (d := 1523) rfl (by decide +kernel) (by decide +kernel) (zp_db_app (zp_db_ok zp_d217_0) (zp_db_app (zp_db_ok zp_d217_1) (zp_db_app (zp_db_ok zp_d217_2) (zp_db_ok zp_d217_3))))
set_option maxRecDepth 100000 in
theorem zp_d218_0 : zp_db prog_14_method_66_code zp_t218_0 = true := by decide +kernel
set_option maxRecDepth 100000 in
theorem zp_d218_1 : zp_db prog_14_method_66_code zp_t218_1 = true := by decide +kernel
set_option maxRecDepth 100000 in
theorem zp_k218 : zx_mok zp_P zp_G zp_cl zp_m218 := zp_mc_ok (a := 1578) (b := 103) (c := 1576) (d := 1577) rfl (by decide +kernel) (by decide +kernel) (zp_db_app (zp_db_ok zp_d218_0) (zp_db_ok zp_d218_1))
set_option maxRecDepth 100000 in
theorem zp_d219_0 : zp_db prog_14_method_67_code zp_t219_0 = true := by decide +kernel
set_option maxRecDepth 100000 in
theorem zp_d219_1 : zp_db prog_14_method_67_code zp_t219_1 = true := by decide +kernel
set_option maxRecDepth 100000 in
theorem zp_k219 : zx_mok zp_P zp_G zp_cl zp_m219 := zp_mc_ok (a := 1582) (b := 103) (c := 1580) (d := 1581) rfl (by decide +kernel) (by decide +kernel) (zp_db_app (zp_db_ok zp_d219_0) (zp_db_ok zp_d219_1))
set_option maxRecDepth 100000 in
theorem zp_d220_0 : zp_db prog_14_method_68_code zp_t220_0 = true := by decide +kernel
set_option maxRecDepth 100000 in
theorem zp_k220 : zx_mok zp_P zp_G zp_cl zp_m220 := zp_mc_ok (a := 1586) (b := 103) (c := 1584) (d := 1585) rfl (by decide +kernel) (by decide +kernel) (zp_db_ok zp_d220_0)
set_option maxRecDepth 100000 in
theorem zp_d221_0 : zp_db prog_22_method_103_code zp_t221_0 = true := by decide +kernel
set_option maxRecDepth 100000 in
theorem zp_k221 : zx_mok zp_P zp_G zp_cl zp_m221 := zp_mc_ok (a := 453) (b := 104) (c := 452) (d := 0) rfl (by decide +kernel) (by decide +kernel) (zp_db_ok zp_d221_0)
set_option maxRecDepth 100000 in
theorem zp_d222_0 : zp_db prog_14_method_2_code zp_t222_0 = true := by decide +kernel
set_option maxRecDepth 100000 in
theorem zp_k222 : zx_mok zp_P zp_G zp_cl zp_m222 := zp_mc_ok (a := 1328) (b := 103) (c := 1326) (d := 1327) rfl (by decide +kernel) (by decide +kernel) (zp_db_ok zp_d222_0)
