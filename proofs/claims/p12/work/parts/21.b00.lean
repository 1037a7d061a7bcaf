/-! ===== 21: contracts, found kept (by program) ===== -/
/-- ClassFramesModel.in .inl ((-2147483648), 2147483647) .inl ((-2147483648), 2147483647) .inl ((-2147483648), 2147483647) -/
def zc_b0 : za_K := (155, 0, [.inl ((-2147483648), 2147483647), .inl ((-2147483648), 2147483647), .inl ((-2147483648), 2147483647)], [(some (.inl (0, 0)), [((-2147483648), 2147483647), ((-2147483648), 2147483647), ((-2147483648), 2147483647)]), (some (.inl (1, 1)), [((-2147483648), 2147483647), ((-2147483648), 2147483647), ((-2147483648), 2147483647)])], [])
set_option maxRecDepth 100000 in
theorem zc_bo0 : zb_K zp_P zc_H zc_b0 := zb_okK (KT := []) (CT := []) (g := 16) (fun _ h => absurd h List.not_mem_nil) (by decide +kernel)
/-- ClassFramesModel.goesAs .inl (0, 8) .inl (0, 8) -/
def zc_b1 : za_K := (156, 0, [.inl (0, 8), .inl (0, 8)], [(some (.inl (0, 0)), [(0, 8), (1, 8)]), (some (.inl (1, 1)), [(0, 8), (0, 8)])], [])
set_option maxRecDepth 100000 in
theorem zc_bo1 : zb_K zp_P zc_H zc_b1 := zb_okK (KT := []) (CT := []) (g := 33) (fun _ h => absurd h List.not_mem_nil) (by decide +kernel)
/-- ClassFramesModel.top .inr (.inr 44) -/
def zc_b2 : za_K := (160, 0, [.inr (.inr 44)], [(some (.inl (0, 8)), [])], [])
set_option maxRecDepth 100000 in
theorem zc_bo2 : zb_K zp_P zc_H zc_b2 := zb_okK (KT := []) (CT := []) (g := 17) (fun _ h => absurd h List.not_mem_nil) (by decide +kernel)
/-- ClassFramesModel.goesOn .inr (.inr 44) .inl (0, 59) -/
def zc_b3 : za_K := (168, 0, [.inr (.inr 44), .inl (0, 59)], [(some (.inl (0, 0)), [(0, 59)]), (some (.inl (1, 1)), [(0, 59)])], [])
set_option maxRecDepth 100000 in
theorem zc_bo3 : zb_K zp_P zc_H zc_b3 := zb_okK (KT := []) (CT := []) (g := 22) (fun _ h => absurd h List.not_mem_nil) (by decide +kernel)
/-- ClassFramesModel.frameLocal .inr (.inr 44) .inl (0, 59) .inl (0, 7) -/
def zc_b4 : za_K := (181, 0, [.inr (.inr 44), .inl (0, 59), .inl (0, 7)], [(some (.inl (0, 8)), [(0, 59), (0, 7)])], [])
set_option maxRecDepth 100000 in
theorem zc_bo4 : zb_K zp_P zc_H zc_b4 := zb_okK (KT := []) (CT := []) (g := 23) (fun _ h => absurd h List.not_mem_nil) (by decide +kernel)
/-- ClassFramesModel.localsGo .inr (.inr 44) .inl (0, 59) -/
def zc_b5 : za_K := (182, 1, [.inr (.inr 44), .inl (0, 59)], [(some (.inl (0, 0)), [(0, 59)]), (some (.inl (1, 1)), [(0, 59)])], [])
set_option maxRecDepth 100000 in
theorem zc_bo5 : zb_K zp_P zc_H zc_b5 := zb_okK (KT := [zc_b1, zc_b4]) (CT := [(2, [(0, .inr (.inr 44)), (1, .inl (0, 59)), (2, .inl (0, 8))], [], [], 17, [0, (-2)])]) (g := 23) (List.forall_mem_cons.mpr ⟨zc_bo1, List.forall_mem_cons.mpr ⟨zc_bo4, fun _ h => absurd h List.not_mem_nil⟩⟩) (by decide +kernel)
/-- ClassFramesModel.goes .inr (.inr 44) .inl (0, 59) -/
def zc_b6 : za_K := (183, 2, [.inr (.inr 44), .inl (0, 59)], [(some (.inl (0, 0)), [(0, 59)]), (some (.inl (1, 1)), [(0, 59)])], [])
set_option maxRecDepth 100000 in
theorem zc_bo6 : zb_K zp_P zc_H zc_b6 := zb_okK (KT := [zc_b1, zc_b5]) (CT := [(25, [(0, .inr (.inr 44)), (1, .inl (0, 59)), (2, .inl (0, 6))], [], [((44, 25), 0, 6)], 13, [0, (-2)])]) (g := 35) (List.forall_mem_cons.mpr ⟨zc_bo1, List.forall_mem_cons.mpr ⟨zc_bo5, fun _ h => absurd h List.not_mem_nil⟩⟩) (by decide +kernel)
/-- ClassFramesModel.wide .inr (.inr 66) .inl (0, 13) .inl (0, 14) -/
def zc_b7 : za_K := (188, 0, [.inr (.inr 66), .inl (0, 13), .inl (0, 14)], [(some (.inl (1, 2)), [(0, 13), (0, 14)])], [])
set_option maxRecDepth 100000 in
theorem zc_bo7 : zb_K zp_P zc_H zc_b7 := zb_okK (KT := []) (CT := []) (g := 27) (fun _ h => absurd h List.not_mem_nil) (by decide +kernel)
/-- ClassFramesModel.alike .inr (.inr 44) .inl (0, 8) -/
def zc_b8 : za_K := (192, 0, [.inr (.inr 44), .inl (0, 8)], [(some (.inl (0, 0)), [(0, 8)]), (some (.inl (1, 1)), [(0, 8)])], [])
set_option maxRecDepth 100000 in
theorem zc_bo8 : zb_K zp_P zc_H zc_b8 := zb_okK (KT := []) (CT := [(2, [(0, .inr (.inr 44)), (1, .inl (0, 8)), (2, .inl (0, 8))], [], [], 17, [0, (-2)])]) (g := 22) (fun _ h => absurd h List.not_mem_nil) (by decide +kernel)
/-- ClassFramesModel.out .inr (.inr 44) .inl ((-2147483648), 2147483647) -/
def zc_b9 : za_K := (195, 0, [.inr (.inr 44), .inl ((-2147483648), 2147483647)], [(some (.inl ((-2147483648), 2147483647)), [((-2147483648), 2147483647)])], [(44, 0)])
set_option maxRecDepth 100000 in
theorem zc_bo9 : zb_K zp_P zc_H zc_b9 := zb_okK (KT := []) (CT := []) (g := 25) (fun _ h => absurd h List.not_mem_nil) (by decide +kernel)
/-- ClassFramesModel.in .inl ((-2147483648), 2147483647) .inl (5, 5) .inl (8, 8) -/
def zc_b10 : za_K := (155, 0, [.inl ((-2147483648), 2147483647), .inl (5, 5), .inl (8, 8)], [(some (.inl (0, 0)), [((-2147483648), 2147483647), (5, 5), (8, 8)]), (some (.inl (1, 1)), [(5, 8), (5, 5), (8, 8)])], [])
set_option maxRecDepth 100000 in
theorem zc_bo10 : zb_K zp_P zc_H zc_b10 := zb_okK (KT := []) (CT := []) (g := 16) (fun _ h => absurd h List.not_mem_nil) (by decide +kernel)
/-- ClassFramesModel.parameter .inr (.inr 44) .inl ((-2147483648), 2147483647) -/
def zc_b11 : za_K := (196, 1, [.inr (.inr 44), .inl ((-2147483648), 2147483647)], [(some (.inl ((-4), 7)), [((-2147483648), 2147483647)])], [(44, 0), (44, 10), (44, 13), (52, 0)])
set_option maxRecDepth 100000 in
theorem zc_bo11 : zb_K zp_P zc_H zc_b11 := zb_okK (KT := [zc_b10]) (CT := []) (g := 59) (List.forall_mem_cons.mpr ⟨zc_bo10, fun _ h => absurd h List.not_mem_nil⟩) (by decide +kernel)
/-- ClassFramesModel.in .inl ((-2147483648), 2147483647) .inl (0, 0) .inl (28, 28) -/
def zc_b12 : za_K := (155, 0, [.inl ((-2147483648), 2147483647), .inl (0, 0), .inl (28, 28)], [(some (.inl (0, 0)), [((-2147483648), 2147483647), (0, 0), (28, 28)]), (some (.inl (1, 1)), [(0, 28), (0, 0), (28, 28)])], [])
set_option maxRecDepth 100000 in
theorem zc_bo12 : zb_K zp_P zc_H zc_b12 := zb_okK (KT := []) (CT := []) (g := 16) (fun _ h => absurd h List.not_mem_nil) (by decide +kernel)
/-- ClassFramesModel.operation .inr (.inr 44) .inl ((-2147483648), 2147483647) .inl ((-2147483648), 2147483647) .inl ((-2147483648), 2147483647) -/
def zc_b13 : za_K := (197, 1, [.inr (.inr 44), .inl ((-2147483648), 2147483647), .inl ((-2147483648), 2147483647), .inl ((-2147483648), 2147483647)], [(some (.inl ((-4), 59)), [((-2147483648), 2147483647), ((-2147483648), 2147483647), ((-2147483648), 2147483647)])], [(44, 0), (44, 1), (44, 13), (45, 0), (46, 0), (47, 0)])
set_option maxRecDepth 100000 in
theorem zc_bo13 : zb_K zp_P zc_H zc_b13 := zb_okK (KT := [zc_b10, zc_b12]) (CT := []) (g := 59) (List.forall_mem_cons.mpr ⟨zc_bo10, List.forall_mem_cons.mpr ⟨zc_bo12, fun _ h => absurd h List.not_mem_nil⟩⟩) (by decide +kernel)
/-- ClassFramesModel.in .inl ((-2147483648), 2147483647) .inl (0, 0) .inl (60, 60) -/
def zc_b14 : za_K := (155, 0, [.inl ((-2147483648), 2147483647), .inl (0, 0), .inl (60, 60)], [(some (.inl (0, 0)), [((-2147483648), 2147483647), (0, 0), (60, 60)]), (some (.inl (1, 1)), [(0, 60), (0, 0), (60, 60)])], [])
set_option maxRecDepth 100000 in
theorem zc_bo14 : zb_K zp_P zc_H zc_b14 := zb_okK (KT := []) (CT := []) (g := 16) (fun _ h => absurd h List.not_mem_nil) (by decide +kernel)
/-- ClassFramesModel.in .inl ((-2147483648), 2147483647) .inl (7, 7) .inl (8, 8) -/
def zc_b15 : za_K := (155, 0, [.inl ((-2147483648), 2147483647), .inl (7, 7), .inl (8, 8)], [(some (.inl (0, 0)), [((-2147483648), 2147483647), (7, 7), (8, 8)]), (some (.inl (1, 1)), [(7, 8), (7, 7), (8, 8)])], [])
set_option maxRecDepth 100000 in
theorem zc_bo15 : zb_K zp_P zc_H zc_b15 := zb_okK (KT := []) (CT := []) (g := 16) (fun _ h => absurd h List.not_mem_nil) (by decide +kernel)
/-- ClassFramesModel.handler .inr (.inr 44) .inl ((-2147483648), 2147483647) .inl ((-2147483648), 2147483647) .inl ((-2147483648), 2147483647) .inl ((-2147483648), 2147483647) -/
def zc_b16 : za_K := (198, 1, [.inr (.inr 44), .inl ((-2147483648), 2147483647), .inl ((-2147483648), 2147483647), .inl ((-2147483648), 2147483647), .inl ((-2147483648), 2147483647)], [(some (.inl ((-4), 5)), [((-2147483648), 2147483647), ((-2147483648), 2147483647), ((-2147483648), 2147483647), ((-2147483648), 2147483647)])], [(44, 0), (44, 5), (44, 13), (48, 0), (49, 0), (50, 0), (51, 0)])
set_option maxRecDepth 100000 in
theorem zc_bo16 : zb_K zp_P zc_H zc_b16 := zb_okK (KT := [zc_b14, zc_b15]) (CT := []) (g := 72) (List.forall_mem_cons.mpr ⟨zc_bo14, List.forall_mem_cons.mpr ⟨zc_bo15, fun _ h => absurd h List.not_mem_nil⟩⟩) (by decide +kernel)
/-- ClassFramesModel.fault .inr (.inr 44) -/
def zc_b17 : za_K := (199, 0, [.inr (.inr 44)], [(some (.inl ((-2147483648), 2147483647)), [])], [(44, 0)])
set_option maxRecDepth 100000 in
theorem zc_bo17 : zb_K zp_P zc_H zc_b17 := zb_okK (KT := []) (CT := []) (g := 13) (fun _ h => absurd h List.not_mem_nil) (by decide +kernel)
/-- ClassFramesModel.in .inl ((-2147483648), 2147483647) .inl (0, 0) .inl ((-1), 59) -/
def zc_b18 : za_K := (155, 0, [.inl ((-2147483648), 2147483647), .inl (0, 0), .inl ((-1), 59)], [(some (.inl (0, 0)), [((-2147483648), 2147483647), (0, 0), ((-1), 59)]), (some (.inl (1, 1)), [(0, 59), (0, 0), (0, 59)])], [])
set_option maxRecDepth 100000 in
theorem zc_bo18 : zb_K zp_P zc_H zc_b18 := zb_okK (KT := []) (CT := []) (g := 16) (fun _ h => absurd h List.not_mem_nil) (by decide +kernel)
/-- ClassFramesModel.in .inl ((-2147483648), 2147483647) .inl (0, 0) .inl (7, 13) -/
def zc_b19 : za_K := (155, 0, [.inl ((-2147483648), 2147483647), .inl (0, 0), .inl (7, 13)], [(some (.inl (0, 0)), [((-2147483648), 2147483647), (0, 0), (7, 13)]), (some (.inl (1, 1)), [(0, 13), (0, 0), (7, 13)])], [])
set_option maxRecDepth 100000 in
theorem zc_bo19 : zb_K zp_P zc_H zc_b19 := zb_okK (KT := []) (CT := []) (g := 16) (fun _ h => absurd h List.not_mem_nil) (by decide +kernel)
/-- ClassFramesModel.kind .inr (.inr 44) .inl ((-2147483648), 2147483647) .inl ((-2147483648), 2147483647) -/
def zc_b20 : za_K := (200, 1, [.inr (.inr 44), .inl ((-2147483648), 2147483647), .inl ((-2147483648), 2147483647)], [(some (.inl ((-3), 8)), [((-2147483648), 2147483647), ((-2147483648), 2147483647)])], [(44, 0)])
set_option maxRecDepth 100000 in
theorem zc_bo20 : zb_K zp_P zc_H zc_b20 := zb_okK (KT := [zc_b19, zc_b18]) (CT := []) (g := 47) (List.forall_mem_cons.mpr ⟨zc_bo19, List.forall_mem_cons.mpr ⟨zc_bo18, fun _ h => absurd h List.not_mem_nil⟩⟩) (by decide +kernel)
/-- ClassFramesModel.size .inr (.inr 44) .inl ((-2147483648), 2147483647) -/
def zc_b21 : za_K := (201, 1, [.inr (.inr 44), .inl ((-2147483648), 2147483647)], [(some (.inl ((-3), 6)), [((-2147483648), 2147483647)])], [(44, 0)])
set_option maxRecDepth 100000 in
theorem zc_bo21 : zb_K zp_P zc_H zc_b21 := zb_okK (KT := [zc_b18]) (CT := []) (g := 32) (List.forall_mem_cons.mpr ⟨zc_bo18, fun _ h => absurd h List.not_mem_nil⟩) (by decide +kernel)
/-- ClassFramesModel.frame .inr (.inr 44) .inl ((-2147483648), 2147483647) .inl ((-2147483648), 2147483647) -/
def zc_b22 : za_K := (202, 1, [.inr (.inr 44), .inl ((-2147483648), 2147483647), .inl ((-2147483648), 2147483647)], [(some (.inl ((-3), 59)), [((-2147483648), 2147483647), ((-2147483648), 2147483647)])], [(44, 0)])
set_option maxRecDepth 100000 in
theorem zc_bo22 : zb_K zp_P zc_H zc_b22 := zb_okK (KT := [zc_b18]) (CT := []) (g := 58) (List.forall_mem_cons.mpr ⟨zc_bo18, fun _ h => absurd h List.not_mem_nil⟩) (by decide +kernel)
/-- ClassFramesModel.in .inl ((-2147483648), 2147483647) .inl (0, 0) .inl ((-1), 13) -/
def zc_b23 : za_K := (155, 0, [.inl ((-2147483648), 2147483647), .inl (0, 0), .inl ((-1), 13)], [(some (.inl (0, 0)), [((-2147483648), 2147483647), (0, 0), ((-1), 13)]), (some (.inl (1, 1)), [(0, 13), (0, 0), (0, 13)])], [])
set_option maxRecDepth 100000 in
theorem zc_bo23 : zb_K zp_P zc_H zc_b23 := zb_okK (KT := []) (CT := []) (g := 16) (fun _ h => absurd h List.not_mem_nil) (by decide +kernel)
/-- ClassFramesModel.in .inl ((-2147483648), 2147483647) .inl (0, 0) .inl (8, 8) -/
def zc_b24 : za_K := (155, 0, [.inl ((-2147483648), 2147483647), .inl (0, 0), .inl (8, 8)], [(some (.inl (0, 0)), [((-2147483648), 2147483647), (0, 0), (8, 8)]), (some (.inl (1, 1)), [(0, 8), (0, 0), (8, 8)])], [])
set_option maxRecDepth 100000 in
theorem zc_bo24 : zb_K zp_P zc_H zc_b24 := zb_okK (KT := []) (CT := []) (g := 16) (fun _ h => absurd h List.not_mem_nil) (by decide +kernel)
/-- ClassFramesModel.plant .inr (.inr 44) .inl ((-2147483648), 2147483647) .inl ((-2147483648), 2147483647) .inl ((-2147483648), 2147483647) -/
def zc_b25 : za_K := (203, 1, [.inr (.inr 44), .inl ((-2147483648), 2147483647), .inl ((-2147483648), 2147483647), .inl ((-2147483648), 2147483647)], [(some (.inl ((-3), 8)), [((-2147483648), 2147483647), ((-2147483648), 2147483647), ((-2147483648), 2147483647)])], [(44, 0), (60, 0)])
set_option maxRecDepth 100000 in
theorem zc_bo25 : zb_K zp_P zc_H zc_b25 := zb_okK (KT := [zc_b24, zc_b23, zc_b18]) (CT := []) (g := 61) (List.forall_mem_cons.mpr ⟨zc_bo24, List.forall_mem_cons.mpr ⟨zc_bo23, List.forall_mem_cons.mpr ⟨zc_bo18, fun _ h => absurd h List.not_mem_nil⟩⟩⟩) (by decide +kernel)
/-- ClassFramesModel.in .inl ((-2147483648), 2147483647) .inl (0, 0) .inl (7, 7) -/
def zc_b26 : za_K := (155, 0, [.inl ((-2147483648), 2147483647), .inl (0, 0), .inl (7, 7)], [(some (.inl (0, 0)), [((-2147483648), 2147483647), (0, 0), (7, 7)]), (some (.inl (1, 1)), [(0, 7), (0, 0), (7, 7)])], [])
set_option maxRecDepth 100000 in
theorem zc_bo26 : zb_K zp_P zc_H zc_b26 := zb_okK (KT := []) (CT := []) (g := 16) (fun _ h => absurd h List.not_mem_nil) (by decide +kernel)
/-- ClassFramesModel.argument .inr (.inr 44) .inl ((-2147483648), 2147483647) .inr (.inl ()) -/
def zc_b27 : za_K := (204, 1, [.inr (.inr 44), .inl ((-2147483648), 2147483647), .inr (.inl ())], [(some (.inr (.inl ())), [((-2147483648), 2147483647)])], [(44, 0), (53, 0)])
set_option maxRecDepth 100000 in
theorem zc_bo27 : zb_K zp_P zc_H zc_b27 := zb_okK (KT := [zc_b26]) (CT := []) (g := 27) (List.forall_mem_cons.mpr ⟨zc_bo26, fun _ h => absurd h List.not_mem_nil⟩) (by decide +kernel)
/-- ClassFramesModel.told .inr (.inr 44) .inl ((-2147483648), 2147483647) -/
def zc_b28 : za_K := (218, 0, [.inr (.inr 44), .inl ((-2147483648), 2147483647)], [(some (.inr (.inl ())), [((-2147483648), 2147483647)])], [(44, 0)])
set_option maxRecDepth 100000 in
theorem zc_bo28 : zb_K zp_P zc_H zc_b28 := zb_okK (KT := []) (CT := []) (g := 32) (fun _ h => absurd h List.not_mem_nil) (by decide +kernel)
/-- ClassFramesModel.count .inr (.inr 44) .inl ((-2147483648), 2147483647) -/
def zc_b29 : za_K := (219, 0, [.inr (.inr 44), .inl ((-2147483648), 2147483647)], [(some (.inl ((-2147483648), 2147483647)), [((-2147483648), 2147483647)])], [(44, 0)])
set_option maxRecDepth 100000 in
theorem zc_bo29 : zb_K zp_P zc_H zc_b29 := zb_okK (KT := []) (CT := [(9, [(0, .inr (.inr 44)), (1, .inl ((-2147483648), 2147483647)), (2, .inl ((-2147483648), 2147483647)), (3, .inl (0, 60))], [], [((44, 0), 0, 0)], 121, [0, 0, (-2)])]) (g := 24) (fun _ h => absurd h List.not_mem_nil) (by decide +kernel)
/-- ClassFramesModel.clear .inr (.inr 44) -/
def zc_b30 : za_K := (220, 0, [.inr (.inr 44)], [(some (.inl (0, 60)), [])], [(44, 0), (44, 1), (44, 5), (44, 10), (44, 13)])
set_option maxRecDepth 100000 in
theorem zc_bo30 : zb_K zp_P zc_H zc_b30 := zb_okK (KT := []) (CT := []) (g := 27) (fun _ h => absurd h List.not_mem_nil) (by decide +kernel)
/-- ClassFramesModel.over .inr (.inr 44) .inl ((-2147483648), 2147483647) -/
def zc_b31 : za_K := (207, 0, [.inr (.inr 44), .inl ((-2147483648), 2147483647)], [(none, [((-2147483648), 2147483647)])], [(44, 42), (44, 43)])
set_option maxRecDepth 100000 in
theorem zc_bo31 : zb_K zp_P zc_H zc_b31 := zb_okK (KT := []) (CT := []) (g := 14) (fun _ h => absurd h List.not_mem_nil) (by decide +kernel)
/-- ClassFramesModel.bad .inr (.inr 44) .inl ((-2147483648), 2147483647) .inl (0, 59) -/
def zc_b32 : za_K := (208, 1, [.inr (.inr 44), .inl ((-2147483648), 2147483647), .inl (0, 59)], [(none, [((-2147483648), 2147483647), (0, 59)])], [(44, 14), (44, 42), (44, 43)])
set_option maxRecDepth 100000 in
theorem zc_bo32 : zb_K zp_P zc_H zc_b32 := zb_okK (KT := [zc_b31]) (CT := []) (g := 16) (List.forall_mem_cons.mpr ⟨zc_bo31, fun _ h => absurd h List.not_mem_nil⟩) (by decide +kernel)
/-- ClassFramesModel.go .inr (.inr 44) .inl ((-2147483648), 2147483647) .inl (0, 59) -/
def zc_b33 : za_K := (209, 2, [.inr (.inr 44), .inl ((-2147483648), 2147483647), .inl (0, 59)], [(none, [((-2147483648), 2147483647), (0, 59)])], [(44, 14), (44, 42), (44, 43), (44, 50)])
set_option maxRecDepth 100000 in
theorem zc_bo33 : zb_K zp_P zc_H zc_b33 := zb_okK (KT := [zc_b32, zc_b18]) (CT := []) (g := 20) (List.forall_mem_cons.mpr ⟨zc_bo32, List.forall_mem_cons.mpr ⟨zc_bo18, fun _ h => absurd h List.not_mem_nil⟩⟩) (by decide +kernel)
