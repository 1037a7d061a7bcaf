set_option maxRecDepth 100000 in
theorem zp_d0_0 : zp_db prog_2_method_2_code zp_t0_0 = true := by decide +kernel
set_option maxRecDepth 100000 in
theorem zp_d0_1 : zp_db prog_2_method_2_code zp_t0_1 = true := by decide +kernel
set_option maxRecDepth 100000 in
theorem zp_k0 : zx_mok zp_P zp_G zp_cl zp_m0 := zp_mc_ok (a := 407) (b := 94) (c := 405) (d := 406) rfl (by decide +kernel) (by decide +kernel) (zp_db_app (zp_db_ok zp_d0_0) (zp_db_ok zp_d0_1))
set_option maxRecDepth 100000 in
theorem zp_d1_0 : zp_db prog_2_method_3_code zp_t1_0 = true := by decide +kernel
set_option maxRecDepth 100000 in
theorem zp_k1 : zx_mok zp_P zp_G zp_cl zp_m1 := zp_mc_ok (a := 419) (b := 94) (c := 417) (d := 418) rfl (by decide +kernel) (by decide +kernel) (zp_db_ok zp_d1_0)
set_option maxRecDepth 100000 in
theorem zp_d2_0 : zp_db prog_2_method_4_code zp_t2_0 = true := by decide +kernel
set_option maxRecDepth 100000 in
theorem zp_k2 : zx_mok zp_P zp_G zp_cl zp_m2 := zp_mc_ok (a := 430) (b := 94) (c := 428) (d := 429) rfl (by decide +kernel) (by decide +kernel) (zp_db_ok zp_d2_0)
set_option maxRecDepth 100000 in
theorem zp_d3_0 : zp_db prog_2_method_5_code zp_t3_0 = true := by decide +kernel
set_option maxRecDepth 100000 in
theorem zp_k3 : zx_mok zp_P zp_G zp_cl zp_m3 := zp_mc_ok (a := 1071) (b := 94) (c := 1069) (d := 1070) rfl (by decide +kernel) (by decide +kernel) (zp_db_ok zp_d3_0)
set_option maxRecDepth 100000 in
theorem zp_d4_0 : zp_db prog_2_method_6_code zp_t4_0 = true := by decide +kernel
set_option maxRecDepth 100000 in
theorem zp_k4 : zx_mok zp_P zp_G zp_cl zp_m4 := zp_mc_ok (a := 477) (b := 94) (c := 475) (d := 476) rfl (by decide +kernel) (by decide +kernel) (zp_db_ok zp_d4_0)
set_option maxRecDepth 100000 in
theorem zp_d5_0 : zp_db prog_2_method_7_code zp_t5_0 = true := by decide +kernel
set_option maxRecDepth 100000 in
theorem zp_k5 : zx_mok zp_P zp_G zp_cl zp_m5 := zp_mc_ok (a := 497) (b := 94) (c := 495) (d := 496) rfl (by decide +kernel) (by decide +kernel) (zp_db_ok zp_d5_0)
set_option maxRecDepth 100000 in
theorem zp_d6_0 : zp_db prog_2_method_8_code zp_t6_0 = true := by decide +kernel
set_option maxRecDepth 100000 in
theorem zp_k6 : zx_mok zp_P zp_G zp_cl zp_m6 := zp_mc_ok (a := 841) (b := 94) (c := 839) (d := 840) rfl (by decide +kernel) (by decide +kernel) (zp_db_ok zp_d6_0)
set_option maxRecDepth 100000 in
theorem zp_d7_0 : zp_db prog_2_method_9_code zp_t7_0 = true := by decide +kernel
set_option maxRecDepth 100000 in
theorem zp_k7 : zx_mok zp_P zp_G zp_cl zp_m7 := zp_mc_ok (a := 540) (b := 94) (c := 538) (d := 539) rfl (by decide +kernel) (by decide +kernel) (zp_db_ok zp_d7_0)
set_option maxRecDepth 100000 in
theorem zp_d8_0 : zp_db prog_2_method_10_code zp_t8_0 = true := by decide +kernel
set_option maxRecDepth 100000 in
theorem zp_k8 : zx_mok zp_P zp_G zp_cl zp_m8 := zp_mc_ok (a := 568) (b := 94) (c := 566) (d := 567) rfl (by decide +kernel) (by decide +kernel) (zp_db_ok zp_d8_0)
set_option maxRecDepth 100000 in
theorem zp_d9_0 : zp_db prog_2_method_11_code zp_t9_0 = true := by decide +kernel
set_option maxRecDepth 100000 in
theorem zp_k9 : zx_mok zp_P zp_G zp_cl zp_m9 := zp_mc_ok (a := 573) (b := 94) (c := 571) (d := 572) rfl (by decide +kernel) (by decide +kernel) (zp_db_ok zp_d9_0)
set_option maxRecDepth 100000 in
theorem zp_d10_0 : zp_db prog_2_method_12_code zp_t10_0 = true := by decide +kernel
set_option maxRecDepth 100000 in
theorem zp_k10 : zx_mok zp_P zp_G zp_cl zp_m10 := zp_mc_ok (a := 635) (b := 94) (c := 633) (d := 634) rfl (by decide +kernel) (by decide +kernel) (zp_db_ok zp_d10_0)
set_option maxRecDepth 100000 in
theorem zp_d11_0 : zp_db prog_2_method_13_code zp_t11_0 = true := by decide +kernel
set_option maxRecDepth 100000 in
theorem zp_k11 : zx_mok zp_P zp_G zp_cl zp_m11 := zp_mc_ok (a := 639) (b := 94) (c := 637) (d := 638) rfl (by decide +kernel) (by decide +kernel) (zp_db_ok zp_d11_0)
set_option maxRecDepth 100000 in
theorem zp_d12_0 : zp_db prog_2_method_14_code zp_t12_0 = true := by decide +kernel
set_option maxRecDepth 100000 in
theorem zp_k12 : zx_mok zp_P zp_G zp_cl zp_m12 := zp_mc_ok (a := 625) (b := 94) (c := 623) (d := 624) rfl (by decide +kernel) (by decide +kernel) (zp_db_ok zp_d12_0)
set_option maxRecDepth 100000 in
theorem zp_d13_0 : zp_db prog_2_method_15_code zp_t13_0 = true := by decide +kernel
set_option maxRecDepth 100000 in
theorem zp_k13 : zx_mok zp_P zp_G zp_cl zp_m13 := zp_mc_ok (a := 630) (b := 94) (c := 628) (d := 629) rfl (by decide +kernel) (by decide +kernel) (zp_db_ok zp_d13_0)
set_option maxRecDepth 100000 in
theorem zp_d14_0 : zp_db prog_2_method_16_code zp_t14_0 = true := by decide +kernel
set_option maxRecDepth 100000 in
theorem zp_k14 : zx_mok zp_P zp_G zp_cl zp_m14 := zp_mc_ok (a := 505) (b := 94) (c := 504) (d := 3) rfl (by decide +kernel) (by decide +kernel) (zp_db_ok zp_d14_0)
set_option maxRecDepth 100000 in
theorem zp_d15_0 : zp_db prog_2_method_17_code zp_t15_0 = true := by decide +kernel
set_option maxRecDepth 100000 in
theorem zp_k15 : zx_mok zp_P zp_G zp_cl zp_m15 := zp_mc_ok (a := 501) (b := 94) (c := 499) (d := 500) rfl (by decide +kernel) (by decide +kernel) (zp_db_ok zp_d15_0)
set_option maxRecDepth 100000 in
theorem zp_d16_0 : zp_db prog_2_method_18_code zp_t16_0 = true := by decide +kernel
set_option maxRecDepth 100000 in
theorem zp_k16 : zx_mok zp_P zp_G zp_cl zp_m16 := zp_mc_ok (a := 532) (b := 94) (c := 530) (d := 531) rfl (by decide +kernel) (by decide +kernel) (zp_db_ok zp_d16_0)
set_option maxRecDepth 100000 in
theorem zp_d17_0 : zp_db prog_2_method_19_code zp_t17_0 = true := by decide +kernel
set_option maxRecDepth 100000 in
theorem zp_k17 : zx_mok zp_P zp_G zp_cl zp_m17 := zp_mc_ok (a := 524) (b := 94) (c := 522) (d := 523) rfl (by decide +kernel) (by decide +kernel) (zp_db_ok zp_d17_0)
set_option maxRecDepth 100000 in
theorem zp_d18_0 : zp_db prog_2_method_20_code zp_t18_0 = true := by decide +kernel
set_option maxRecDepth 100000 in
theorem zp_k18 : zx_mok zp_P zp_G zp_cl zp_m18 := zp_mc_ok (a := 972) (b := 94) (c := 970) (d := 971) rfl (by decide +kernel) (by decide +kernel) (zp_db_ok zp_d18_0)
set_option maxRecDepth 100000 in
theorem zp_d19_0 : zp_db prog_2_method_21_code zp_t19_0 = true := by decide +kernel
set_option maxRecDepth 100000 in
theorem zp_k19 : zx_mok zp_P zp_G zp_cl zp_m19 := zp_mc_ok (a := 461) (b := 94) (c := 459) (d := 460) rfl (by decide +kernel) (by decide +kernel) (zp_db_ok zp_d19_0)
set_option maxRecDepth 100000 in
theorem zp_d20_0 : zp_db prog_3_method_2_code zp_t20_0 = true := by decide +kernel
set_option maxRecDepth 100000 in
theorem zp_k20 : zx_mok zp_P zp_G zp_cl zp_m20 := zp_mc_ok (a := 576) (b := 107) (c := 575) (d := 0) rfl (by decide +kernel) (by decide +kernel) (zp_db_ok zp_d20_0)
set_option maxRecDepth 100000 in
theorem zp_d21_0 : zp_db prog_3_method_3_code zp_t21_0 = true := by decide +kernel
set_option maxRecDepth 100000 in
theorem zp_d21_1 : zp_db prog_3_method_3_code zp_t21_1 = true := by decide +kernel
set_option maxRecDepth 100000 in
theorem zp_k21 : zx_mok zp_P zp_G zp_cl zp_m21 := zp_mc_ok (a := 612) (b := 107) (c := 611) (d := 0) rfl (by decide +kernel) (by decide +kernel) (zp_db_app (zp_db_ok zp_d21_0) (zp_db_ok zp_d21_1))
set_option maxRecDepth 100000 in
theorem zp_d22_0 : zp_db prog_3_method_4_code zp_t22_0 = true := by decide +kernel
set_option maxRecDepth 100000 in
theorem zp_k22 : zx_mok zp_P zp_G zp_cl zp_m22 := zp_mc_ok (a := 579) (b := 107) (c := 578) (d := 0) rfl (by decide +kernel) (by decide +kernel) (zp_db_ok zp_d22_0)
set_option maxRecDepth 100000 in
theorem zp_d23_0 : zp_db prog_3_method_5_code zp_t23_0 = true := by decide +kernel
set_option maxRecDepth 100000 in
theorem zp_k23 : zx_mok zp_P zp_G zp_cl zp_m23 := zp_mc_ok (a := 588) (b := 107) (c := 587) (d := 0) rfl (by decide +kernel) (by decide +kernel) (zp_db_ok zp_d23_0)
set_option maxRecDepth 100000 in
theorem zp_d24_0 : zp_db prog_3_method_6_code zp_t24_0 = true := by decide +kernel
set_option maxRecDepth 100000 in
theorem zp_k24 : zx_mok zp_P zp_G zp_cl zp_m24 := zp_mc_ok (a := 603) (b := 107) (c := 602) (d := 0) rfl (by decide +kernel) (by decide +kernel) (zp_db_ok zp_d24_0)
set_option maxRecDepth 100000 in
theorem zp_d25_0 : zp_db prog_3_method_7_code zp_t25_0 = true := by decide +kernel
set_option maxRecDepth 100000 in
theorem zp_k25 : zx_mok zp_P zp_G zp_cl zp_m25 := zp_mc_ok (a := 606) (b := 107) (c := 605) (d := 0) rfl (by decide +kernel) (by decide +kernel) (zp_db_ok zp_d25_0)
set_option maxRecDepth 100000 in
theorem zp_d26_0 : zp_db prog_3_method_8_code zp_t26_0 = true := by decide +kernel
set_option maxRecDepth 100000 in
theorem zp_k26 : zx_mok zp_P zp_G zp_cl zp_m26 := zp_mc_ok (a := 609) (b := 107) (c := 608) (d := 0) rfl (by decide +kernel) (by decide +kernel) (zp_db_ok zp_d26_0)
set_option maxRecDepth 100000 in
theorem zp_d27_0 : zp_db prog_4_method_2_code zp_t27_0 = true := by decide +kernel
set_option maxRecDepth 100000 in
theorem zp_k27 : zx_mok zp_P zp_G zp_cl zp_m27 := zp_mc_ok (a := 446) (b := 95) (c := 444) (d := 445) rfl (by decide +kernel) (by decide +kernel) (zp_db_ok zp_d27_0)
set_option maxRecDepth 100000 in
theorem zp_d28_0 : zp_db prog_4_method_3_code zp_t28_0 = true := by decide +kernel
set_option maxRecDepth 100000 in
theorem zp_k28 : zx_mok zp_P zp_G zp_cl zp_m28 := zp_mc_ok (a := 659) (b := 95) (c := 657) (d := 658) rfl (by decide +kernel) (by decide +kernel) (zp_db_ok zp_d28_0)
set_option maxRecDepth 100000 in
theorem zp_d29_0 : zp_db prog_4_method_4_code zp_t29_0 = true := by decide +kernel
set_option maxRecDepth 100000 in
theorem zp_k29 : zx_mok zp_P zp_G zp_cl zp_m29 := zp_mc_ok (a := 662) (b := 95) (c := 661) (d := 0) rfl (by decide +kernel) (by decide +kernel) (zp_db_ok zp_d29_0)
set_option maxRecDepth 100000 in
theorem zp_d30_0 : zp_db prog_4_method_5_code zp_t30_0 = true := by decide +kernel
set_option maxRecDepth 100000 in
theorem zp_k30 : zx_mok zp_P zp_G zp_cl zp_m30 := zp_mc_ok (a := 668) (b := 95) (c := 666) (d := 667) rfl (by decide +kernel) (by decide +kernel) (zp_db_ok zp_d30_0)
set_option maxRecDepth 100000 in
theorem zp_d31_0 : zp_db prog_4_method_6_code zp_t31_0 = true := by decide +kernel
set_option maxRecDepth 100000 in
theorem zp_k31 : zx_mok zp_P zp_G zp_cl zp_m31 := zp_mc_ok (a := 712) (b := 95) (c := 711) (d := 12) rfl (by decide +kernel) (by decide +kernel) (zp_db_ok zp_d31_0)
set_option maxRecDepth 100000 in
theorem zp_d32_0 : zp_db prog_4_method_7_code zp_t32_0 = true := by decide +kernel
set_option maxRecDepth 100000 in
theorem zp_k32 : zx_mok zp_P zp_G zp_cl zp_m32 := zp_mc_ok (a := 716) (b := 95) (c := 714) (d := 715) rfl (by decide +kernel) (by decide +kernel) (zp_db_ok zp_d32_0)
set_option maxRecDepth 100000 in
theorem zp_d33_0 : zp_db prog_4_method_8_code zp_t33_0 = true := by decide +kernel
set_option maxRecDepth 100000 in
theorem zp_k33 : zx_mok zp_P zp_G zp_cl zp_m33 := zp_mc_ok (a := 720) (b := 95) (c := 718) (d := 719) rfl (by decide +kernel) (by decide +kernel) (zp_db_ok zp_d33_0)
set_option maxRecDepth 100000 in
theorem zp_d34_0 : zp_db prog_4_method_9_code zp_t34_0 = true := by decide +kernel
set_option maxRecDepth 100000 in
theorem zp_k34 : zx_mok zp_P zp_G zp_cl zp_m34 := zp_mc_ok (a := 724) (b := 95) (c := 722) (d := 723) rfl (by decide +kernel) (by decide +kernel) (zp_db_ok zp_d34_0)
set_option maxRecDepth 100000 in
theorem zp_d35_0 : zp_db prog_4_method_10_code zp_t35_0 = true := by decide +kernel
set_option maxRecDepth 100000 in
theorem zp_k35 : zx_mok zp_P zp_G zp_cl zp_m35 := zp_mc_ok (a := 790) (b := 95) (c := 788) (d := 789) rfl (by decide +kernel) (by decide +kernel) (zp_db_ok zp_d35_0)
set_option maxRecDepth 100000 in
theorem zp_d36_0 : zp_db prog_4_method_11_code zp_t36_0 = true := by decide +kernel
set_option maxRecDepth 100000 in
theorem zp_k36 : zx_mok zp_P zp_G zp_cl zp_m36 := zp_mc_ok (a := 764) (b := 95) (c := 762) (d := 763) rfl (by decide +kernel) (by decide +kernel) (zp_db_ok zp_d36_0)
set_option maxRecDepth 100000 in
theorem zp_d37_0 : zp_db prog_4_method_12_code zp_t37_0 = true := by decide +kernel
set_option maxRecDepth 100000 in
theorem zp_k37 : zx_mok zp_P zp_G zp_cl zp_m37 := zp_mc_ok (a := 708) (b := 95) (c := 706) (d := 707) rfl (by decide +kernel) (by decide +kernel) (zp_db_ok zp_d37_0)
set_option maxRecDepth 100000 in
theorem zp_d38_0 : zp_db prog_4_method_13_code zp_t38_0 = true := by decide +kernel
set_option maxRecDepth 100000 in
theorem zp_k38 : zx_mok zp_P zp_G zp_cl zp_m38 := zp_mc_ok (a := 729) (b := 95) (c := 727) (d := 728) rfl (by decide +kernel) (by decide +kernel) (zp_db_ok zp_d38_0)
set_option maxRecDepth 100000 in
theorem zp_d39_0 : zp_db prog_4_method_14_code zp_t39_0 = true := by decide +kernel
set_option maxRecDepth 100000 in
theorem zp_k39 : zx_mok zp_P zp_G zp_cl zp_m39 := zp_mc_ok (a := 746) (b := 95) (c := 744) (d := 745) rfl (by decide +kernel) (by decide +kernel) (zp_db_ok zp_d39_0)
set_option maxRecDepth 100000 in
theorem zp_d40_0 : zp_db prog_4_method_15_code zp_t40_0 = true := by decide +kernel
set_option maxRecDepth 100000 in
theorem zp_k40 : zx_mok zp_P zp_G zp_cl zp_m40 := zp_mc_ok (a := 733) (b := 95) (c := 732) (d := 13) rfl (by decide +kernel) (by decide +kernel) (zp_db_ok zp_d40_0)
set_option maxRecDepth 100000 in
theorem zp_d41_0 : zp_db prog_4_method_16_code zp_t41_0 = true := by decide +kernel
set_option maxRecDepth 100000 in
theorem zp_k41 : zx_mok zp_P zp_G zp_cl zp_m41 := zp_mc_ok (a := 737) (b := 95) (c := 736) (d := 14) rfl (by decide +kernel) (by decide +kernel) (zp_db_ok zp_d41_0)
set_option maxRecDepth 100000 in
theorem zp_d42_0 : zp_db prog_5_method_2_code zp_t42_0 = true := by decide +kernel
set_option maxRecDepth 100000 in
theorem zp_d42_1 : zp_db prog_5_method_2_code zp_t42_1 = true := by decide +kernel
set_option maxRecDepth 100000 in
theorem zp_k42 : zx_mok zp_P zp_G zp_cl zp_m42 := zp_mc_ok (a := 755) (b := 99) (c := 753) (d := 754) rfl (by decide +kernel) (by decide +kernel) (zp_db_app (zp_db_ok zp_d42_0) (zp_db_ok zp_d42_1))
set_option maxRecDepth 100000 in
theorem zp_d43_0 : zp_db prog_5_method_3_code zp_t43_0 = true := by decide +kernel
set_option maxRecDepth 100000 in
theorem zp_k43 : zx_mok zp_P zp_G zp_cl zp_m43 := zp_mc_ok (a := 759) (b := 99) (c := 758) (d := 15) rfl (by decide +kernel) (by decide +kernel) (zp_db_ok zp_d43_0)
set_option maxRecDepth 100000 in
theorem zp_d44_0 : zp_db prog_5_method_4_code zp_t44_0 = true := by decide +kernel
set_option maxRecDepth 100000 in
theorem zp_k44 : zx_mok zp_P zp_G zp_cl zp_m44 := zp_mc_ok (a := 782) (b := 99) (c := 781) (d := 17) rfl (by decide +kernel) (by decide +kernel) (zp_db_ok zp_d44_0)
