/-! ===== 21: contracts, found kept (by program) ===== -/
/-- ClassFrames$Code.addParameter .inr (.inr 1) .inl (1, 8) -/
def zc_a0 : za_K := (0, 0, [.inr (.inr 1), .inl (1, 8)], [(some (.inl ((-4), 7)), [(1, 8)])], [(1, 10), (9, 0)])
set_option maxRecDepth 100000 in
theorem zc_ao0 : zb_K zp_P zc_H zc_a0 := zb_okK (KT := []) (CT := []) (g := 45) (fun _ h => absurd h List.not_mem_nil) (by decide +kernel)
/-- ClassFrames$Maker.undo .inr (.inr 16) -/
def zc_a1 : za_K := (78, 0, [.inr (.inr 16)], [(none, [])], [(16, 4)])
set_option maxRecDepth 100000 in
theorem zc_ao1 : zb_K zp_P zc_H zc_a1 := zb_okK (KT := []) (CT := []) (g := 11) (fun _ h => absurd h List.not_mem_nil) (by decide +kernel)
/-- ClassFrames.parameter .inr (.inr 0) .inl ((-2147483648), 2147483647) -/
def zc_a2 : za_K := (136, 1, [.inr (.inr 0), .inl ((-2147483648), 2147483647)], [(some (.inl ((-4), 7)), [((-2147483648), 2147483647)])], [(1, 10), (9, 0), (16, 4)])
set_option maxRecDepth 100000 in
theorem zc_ao2 : zb_K zp_P zc_H zc_a2 := zb_okK (KT := [zc_a1, zc_a0]) (CT := []) (g := 32) (List.forall_mem_cons.mpr ⟨zc_ao1, List.forall_mem_cons.mpr ⟨zc_ao0, fun _ h => absurd h List.not_mem_nil⟩⟩) (by decide +kernel)
/-- ClassFrames$Code.addInstruction .inr (.inr 1) .inl (0, 28) .inl ((-2147483648), 2147483647) .inl ((-2147483648), 2147483647) -/
def zc_a3 : za_K := (1, 0, [.inr (.inr 1), .inl (0, 28), .inl ((-2147483648), 2147483647), .inl ((-2147483648), 2147483647)], [(some (.inl ((-4), 59)), [(0, 28), ((-2147483648), 2147483647), ((-2147483648), 2147483647)])], [(1, 3), (2, 0), (3, 0), (4, 0)])
set_option maxRecDepth 100000 in
theorem zc_ao3 : zb_K zp_P zc_H zc_a3 := zb_okK (KT := []) (CT := []) (g := 37) (fun _ h => absurd h List.not_mem_nil) (by decide +kernel)
/-- ClassFrames.operation .inr (.inr 0) .inl ((-2147483648), 2147483647) .inl ((-2147483648), 2147483647) .inl ((-2147483648), 2147483647) -/
def zc_a4 : za_K := (137, 1, [.inr (.inr 0), .inl ((-2147483648), 2147483647), .inl ((-2147483648), 2147483647), .inl ((-2147483648), 2147483647)], [(some (.inl ((-4), 59)), [((-2147483648), 2147483647), ((-2147483648), 2147483647), ((-2147483648), 2147483647)])], [(1, 3), (2, 0), (3, 0), (4, 0), (16, 4)])
set_option maxRecDepth 100000 in
theorem zc_ao4 : zb_K zp_P zc_H zc_a4 := zb_okK (KT := [zc_a1, zc_a3]) (CT := []) (g := 36) (List.forall_mem_cons.mpr ⟨zc_ao1, List.forall_mem_cons.mpr ⟨zc_ao3, fun _ h => absurd h List.not_mem_nil⟩⟩) (by decide +kernel)
/-- ClassFrames.isBound .inl ((-2147483648), 2147483647) -/
def zc_a5 : za_K := (153, 0, [.inl ((-2147483648), 2147483647)], [(some (.inl (0, 0)), [((-2147483648), 2147483647)]), (some (.inl (1, 1)), [(0, 60)])], [])
set_option maxRecDepth 100000 in
theorem zc_ao5 : zb_K zp_P zc_H zc_a5 := zb_okK (KT := []) (CT := []) (g := 15) (fun _ h => absurd h List.not_mem_nil) (by decide +kernel)
/-- ClassFrames$Code.addHandler .inr (.inr 1) .inl (0, 60) .inl (0, 60) .inl (0, 60) .inl (7, 8) -/
def zc_a6 : za_K := (2, 0, [.inr (.inr 1), .inl (0, 60), .inl (0, 60), .inl (0, 60), .inl (7, 8)], [(some (.inl ((-4), 5)), [(0, 60), (0, 60), (0, 60), (7, 8)])], [(1, 8), (5, 0), (6, 0), (7, 0), (8, 0)])
set_option maxRecDepth 100000 in
theorem zc_ao6 : zb_K zp_P zc_H zc_a6 := zb_okK (KT := []) (CT := []) (g := 43) (fun _ h => absurd h List.not_mem_nil) (by decide +kernel)
/-- ClassFrames.handler .inr (.inr 0) .inl ((-2147483648), 2147483647) .inl ((-2147483648), 2147483647) .inl ((-2147483648), 2147483647) .inl ((-2147483648), 2147483647) -/
def zc_a7 : za_K := (138, 1, [.inr (.inr 0), .inl ((-2147483648), 2147483647), .inl ((-2147483648), 2147483647), .inl ((-2147483648), 2147483647), .inl ((-2147483648), 2147483647)], [(some (.inl ((-4), 5)), [((-2147483648), 2147483647), ((-2147483648), 2147483647), ((-2147483648), 2147483647), ((-2147483648), 2147483647)])], [(1, 8), (5, 0), (6, 0), (7, 0), (8, 0), (16, 4)])
set_option maxRecDepth 100000 in
theorem zc_ao7 : zb_K zp_P zc_H zc_a7 := zb_okK (KT := [zc_a1, zc_a6, zc_a5]) (CT := []) (g := 38) (List.forall_mem_cons.mpr ⟨zc_ao1, List.forall_mem_cons.mpr ⟨zc_ao6, List.forall_mem_cons.mpr ⟨zc_ao5, fun _ h => absurd h List.not_mem_nil⟩⟩⟩) (by decide +kernel)
/-- ClassFrames.refusedAt .inl ((-2147483648), 2147483647) -/
def zc_a8 : za_K := (154, 0, [.inl ((-2147483648), 2147483647)], [(some (.inl ((-2147483648), 2147483647)), [((-2147483648), 2147483647)])], [])
set_option maxRecDepth 100000 in
theorem zc_ao8 : zb_K zp_P zc_H zc_a8 := zb_okK (KT := []) (CT := []) (g := 11) (fun _ h => absurd h List.not_mem_nil) (by decide +kernel)
/-- ClassFrames$Frames.howMany .inr (.inr 10) -/
def zc_a9 : za_K := (30, 0, [.inr (.inr 10)], [(some (.inl (0, 60)), [])], [])
set_option maxRecDepth 100000 in
theorem zc_ao9 : zb_K zp_P zc_H zc_a9 := zb_okK (KT := []) (CT := []) (g := 10) (fun _ h => absurd h List.not_mem_nil) (by decide +kernel)
/-- ClassFrames$Maker.faultPlace .inr (.inr 16) -/
def zc_a10 : za_K := (80, 0, [.inr (.inr 16)], [(some (.inl ((-2147483648), 2147483647)), [])], [])
set_option maxRecDepth 100000 in
theorem zc_ao10 : zb_K zp_P zc_H zc_a10 := zb_okK (KT := []) (CT := []) (g := 10) (fun _ h => absurd h List.not_mem_nil) (by decide +kernel)
/-- ClassFrames$Code.places .inr (.inr 1) -/
def zc_a11 : za_K := (4, 0, [.inr (.inr 1)], [(some (.inl (0, 60)), [])], [])
set_option maxRecDepth 100000 in
theorem zc_ao11 : zb_K zp_P zc_H zc_a11 := zb_okK (KT := []) (CT := []) (g := 10) (fun _ h => absurd h List.not_mem_nil) (by decide +kernel)
/-- ClassFrames$Code.parameterKind .inr (.inr 1) .inl (0, 7) -/
def zc_a12 : za_K := (19, 0, [.inr (.inr 1), .inl (0, 7)], [(some (.inl ((-2147483648), 2147483647)), [(0, 7)])], [])
set_option maxRecDepth 100000 in
theorem zc_ao12 : zb_K zp_P zc_H zc_a12 := zb_okK (KT := []) (CT := []) (g := 19) (fun _ h => absurd h List.not_mem_nil) (by decide +kernel)
/-- ClassFrames$State.begin .inr (.inr 20) .inr (.inr 1) -/
def zc_a13 : za_K := (115, 1, [.inr (.inr 20), .inr (.inr 1)], [(none, [])], [(20, 1), (21, 0)])
set_option maxRecDepth 100000 in
theorem zc_ao13 : zb_K zp_P zc_H zc_a13 := zb_okK (KT := [zc_a12]) (CT := [(2, [(0, .inr (.inr 20)), (1, .inr (.inr 1)), (2, .inl (0, 8))], [], [], 17, [(-2)])]) (g := 20) (List.forall_mem_cons.mpr ⟨zc_ao12, fun _ h => absurd h List.not_mem_nil⟩) (by decide +kernel)
/-- J7.fill .inr (.inr 19) .inl ((-1), (-1)) -/
def zc_a14 : za_K := (221, 0, [.inr (.inr 19), .inl ((-1), (-1))], [(none, [((-1), (-1))])], [(19, 0)])
set_option maxRecDepth 100000 in
theorem zc_ao14 : zb_K zp_P zc_H zc_a14 := zb_okK (KT := []) (CT := [(5, [(0, .inr (.inr 19)), (1, .inl ((-1), (-1))), (2, .inl (0, 60)), (3, .inl (60, 60))], [], [], 121, [0, (-2)])]) (g := 17) (fun _ h => absurd h List.not_mem_nil) (by decide +kernel)
/-- ClassFrames$Table.forget .inr (.inr 17) -/
def zc_a15 : za_K := (129, 1, [.inr (.inr 17)], [(none, [])], [(19, 0)])
set_option maxRecDepth 100000 in
theorem zc_ao15 : zb_K zp_P zc_H zc_a15 := zb_okK (KT := [zc_a14]) (CT := []) (g := 12) (List.forall_mem_cons.mpr ⟨zc_ao14, fun _ h => absurd h List.not_mem_nil⟩) (by decide +kernel)
/-- ClassFrames$State.depth .inr (.inr 20) -/
def zc_a16 : za_K := (116, 0, [.inr (.inr 20)], [(some (.inl (0, 6)), [])], [])
set_option maxRecDepth 100000 in
theorem zc_ao16 : zb_K zp_P zc_H zc_a16 := zb_okK (KT := []) (CT := []) (g := 10) (fun _ h => absurd h List.not_mem_nil) (by decide +kernel)
/-- ClassFrames$State.kindOf .inr (.inr 20) .inl (0, 13) -/
def zc_a17 : za_K := (118, 0, [.inr (.inr 20), .inl (0, 13)], [(some (.inl ((-2147483648), 2147483647)), [(0, 13)])], [])
set_option maxRecDepth 100000 in
theorem zc_ao17 : zb_K zp_P zc_H zc_a17 := zb_okK (KT := []) (CT := []) (g := 18) (fun _ h => absurd h List.not_mem_nil) (by decide +kernel)
/-- ClassFrames$Table.write .inr (.inr 17) .inl (0, 59) .inr (.inr 20) -/
def zc_a18 : za_K := (134, 1, [.inr (.inr 17), .inl (0, 59), .inr (.inr 20)], [(none, [(0, 59)])], [(18, 0), (19, 0)])
set_option maxRecDepth 100000 in
theorem zc_ao18 : zb_K zp_P zc_H zc_a18 := zb_okK (KT := [zc_a16, zc_a17]) (CT := [(23, [(0, .inr (.inr 17)), (1, .inl (0, 59)), (2, .inr (.inr 20)), (3, .inl (0, 14))], [], [], 29, [0, (-2)])]) (g := 24) (List.forall_mem_cons.mpr ⟨zc_ao16, List.forall_mem_cons.mpr ⟨zc_ao17, fun _ h => absurd h List.not_mem_nil⟩⟩) (by decide +kernel)
/-- ClassFrames$Frames.forget .inr (.inr 10) -/
def zc_a19 : za_K := (27, 0, [.inr (.inr 10)], [(none, [])], [(10, 3)])
set_option maxRecDepth 100000 in
theorem zc_ao19 : zb_K zp_P zc_H zc_a19 := zb_okK (KT := []) (CT := []) (g := 11) (fun _ h => absurd h List.not_mem_nil) (by decide +kernel)
/-- ClassFrames$Maker.begin .inr (.inr 16) -/
def zc_a20 : za_K := (86, 2, [.inr (.inr 16)], [(none, [])], [(10, 3), (16, 4), (16, 5), (16, 6), (18, 0), (19, 0), (20, 1), (21, 0)])
set_option maxRecDepth 100000 in
theorem zc_ao20 : zb_K zp_P zc_H zc_a20 := zb_okK (KT := [zc_a13, zc_a15, zc_a19, zc_a18]) (CT := []) (g := 34) (List.forall_mem_cons.mpr ⟨zc_ao13, List.forall_mem_cons.mpr ⟨zc_ao15, List.forall_mem_cons.mpr ⟨zc_ao19, List.forall_mem_cons.mpr ⟨zc_ao18, fun _ h => absurd h List.not_mem_nil⟩⟩⟩⟩) (by decide +kernel)
/-- ClassFrames$Table.depthOf .inr (.inr 17) .inl (0, 59) -/
def zc_a21 : za_K := (130, 0, [.inr (.inr 17), .inl (0, 59)], [(some (.inl ((-2147483648), 2147483647)), [(0, 59)])], [])
set_option maxRecDepth 100000 in
theorem zc_ao21 : zb_K zp_P zc_H zc_a21 := zb_okK (KT := []) (CT := []) (g := 18) (fun _ h => absurd h List.not_mem_nil) (by decide +kernel)
/-- ClassFrames$Maker.isDead .inr (.inr 16) .inl (0, 59) -/
def zc_a22 : za_K := (83, 1, [.inr (.inr 16), .inl (0, 59)], [(some (.inl (0, 0)), [(0, 59)]), (some (.inl (1, 1)), [(0, 59)])], [])
set_option maxRecDepth 100000 in
theorem zc_ao22 : zb_K zp_P zc_H zc_a22 := zb_okK (KT := [zc_a21]) (CT := []) (g := 16) (List.forall_mem_cons.mpr ⟨zc_ao21, fun _ h => absurd h List.not_mem_nil⟩) (by decide +kernel)
/-- ClassFrames$State.setDepth .inr (.inr 20) .inl ((-2147483648), 2147483647) -/
def zc_a23 : za_K := (117, 1, [.inr (.inr 20), .inl ((-2147483648), 2147483647)], [(none, [((-2147483648), 2147483647)])], [(20, 1)])
set_option maxRecDepth 100000 in
theorem zc_ao23 : zb_K zp_P zc_H zc_a23 := zb_okK (KT := []) (CT := []) (g := 15) (fun _ h => absurd h List.not_mem_nil) (by decide +kernel)
/-- ClassFrames$State.setKind .inr (.inr 20) .inl (0, 13) .inl ((-2147483648), 2147483647) -/
def zc_a24 : za_K := (119, 0, [.inr (.inr 20), .inl (0, 13), .inl ((-2147483648), 2147483647)], [(none, [(0, 13), ((-2147483648), 2147483647)])], [(21, 0)])
set_option maxRecDepth 100000 in
theorem zc_ao24 : zb_K zp_P zc_H zc_a24 := zb_okK (KT := []) (CT := []) (g := 18) (fun _ h => absurd h List.not_mem_nil) (by decide +kernel)
/-- ClassFrames$Table.read .inr (.inr 17) .inl (0, 59) .inr (.inr 20) -/
def zc_a25 : za_K := (135, 2, [.inr (.inr 17), .inl (0, 59), .inr (.inr 20)], [(none, [(0, 59)])], [(20, 1), (21, 0)])
set_option maxRecDepth 100000 in
theorem zc_ao25 : zb_K zp_P zc_H zc_a25 := zb_okK (KT := [zc_a23, zc_a24]) (CT := [(23, [(0, .inr (.inr 17)), (1, .inl (0, 59)), (2, .inr (.inr 20)), (3, .inl (0, 14))], [], [], 29, [0, (-2)])]) (g := 24) (List.forall_mem_cons.mpr ⟨zc_ao23, List.forall_mem_cons.mpr ⟨zc_ao24, fun _ h => absurd h List.not_mem_nil⟩⟩) (by decide +kernel)
/-- ClassFrames$State.kindDown .inr (.inr 20) .inl (0, 1) -/
def zc_a26 : za_K := (120, 0, [.inr (.inr 20), .inl (0, 1)], [(some (.inl ((-2147483648), 2147483647)), [(0, 1)])], [])
set_option maxRecDepth 100000 in
theorem zc_ao26 : zb_K zp_P zc_H zc_a26 := zb_okK (KT := []) (CT := []) (g := 26) (fun _ h => absurd h List.not_mem_nil) (by decide +kernel)
/-- ClassFrames$State.drop .inr (.inr 20) .inl (1, 2) -/
def zc_a27 : za_K := (122, 0, [.inr (.inr 20), .inl (1, 2)], [(none, [(1, 2)])], [(20, 1)])
set_option maxRecDepth 100000 in
theorem zc_ao27 : zb_K zp_P zc_H zc_a27 := zb_okK (KT := []) (CT := []) (g := 19) (fun _ h => absurd h List.not_mem_nil) (by decide +kernel)
/-- ClassFrames$State.push .inr (.inr 20) .inl ((-2147483648), 2147483647) -/
def zc_a28 : za_K := (123, 1, [.inr (.inr 20), .inl ((-2147483648), 2147483647)], [(some (.inl (0, 3)), [((-2147483648), 2147483647)])], [(20, 1), (21, 0)])
set_option maxRecDepth 100000 in
theorem zc_ao28 : zb_K zp_P zc_H zc_a28 := zb_okK (KT := [zc_a24]) (CT := []) (g := 46) (List.forall_mem_cons.mpr ⟨zc_ao24, fun _ h => absurd h List.not_mem_nil⟩) (by decide +kernel)
/-- X4.goesAs .inl ((-2147483648), 2147483647) .inl ((-2147483648), 2147483647) -/
def zc_a29 : za_K := (49, 0, [.inl ((-2147483648), 2147483647), .inl ((-2147483648), 2147483647)], [(some (.inl (0, 0)), [((-2147483648), 2147483647), ((-2147483648), 2147483647)]), (some (.inl (1, 1)), [((-2147483648), 2147483647), ((-2147483648), 2147483647)])], [])
set_option maxRecDepth 100000 in
theorem zc_ao29 : zb_K zp_P zc_H zc_a29 := zb_okK (KT := []) (CT := []) (g := 23) (fun _ h => absurd h List.not_mem_nil) (by decide +kernel)
/-- X1.exchange .inr (.inr 20) .inl ((-2147483648), 2147483647) .inl ((-2147483648), 2147483647) -/
def zc_a30 : za_K := (21, 2, [.inr (.inr 20), .inl ((-2147483648), 2147483647), .inl ((-2147483648), 2147483647)], [(some (.inl (0, 3)), [((-2147483648), 2147483647), ((-2147483648), 2147483647)])], [(20, 1), (21, 0)])
set_option maxRecDepth 100000 in
theorem zc_ao30 : zb_K zp_P zc_H zc_a30 := zb_okK (KT := [zc_a26, zc_a27, zc_a28, zc_a29]) (CT := [(31, [(0, .inr (.inr 20)), (1, .inl (0, 28)), (2, .inl ((-2147483648), 2147483647)), (3, .inl ((-2147483648), 2147483647)), (4, .inl (0, 4))], [], [], 9, [0, 0, 0, (-2)])]) (g := 44) (List.forall_mem_cons.mpr ⟨zc_ao26, List.forall_mem_cons.mpr ⟨zc_ao27, List.forall_mem_cons.mpr ⟨zc_ao28, List.forall_mem_cons.mpr ⟨zc_ao29, fun _ h => absurd h List.not_mem_nil⟩⟩⟩⟩) (by decide +kernel)
/-- X1.load .inr (.inr 20) .inl ((-2147483648), 2147483647) -/
def zc_a31 : za_K := (22, 2, [.inr (.inr 20), .inl ((-2147483648), 2147483647)], [(some (.inl (0, 4)), [((-2147483648), 2147483647)])], [(20, 1), (21, 0)])
set_option maxRecDepth 100000 in
theorem zc_ao31 : zb_K zp_P zc_H zc_a31 := zb_okK (KT := [zc_a17, zc_a28]) (CT := []) (g := 25) (List.forall_mem_cons.mpr ⟨zc_ao17, List.forall_mem_cons.mpr ⟨zc_ao28, fun _ h => absurd h List.not_mem_nil⟩⟩) (by decide +kernel)
/-- ClassFrames$State.store .inr (.inr 20) .inl ((-2147483648), 2147483647) .inl ((-2147483648), 2147483647) -/
def zc_a32 : za_K := (124, 0, [.inr (.inr 20), .inl ((-2147483648), 2147483647), .inl ((-2147483648), 2147483647)], [(some (.inl (0, 4)), [((-2147483648), 2147483647), ((-2147483648), 2147483647)])], [(21, 0)])
set_option maxRecDepth 100000 in
theorem zc_ao32 : zb_K zp_P zc_H zc_a32 := zb_okK (KT := []) (CT := []) (g := 72) (fun _ h => absurd h List.not_mem_nil) (by decide +kernel)
/-- X1.store .inr (.inr 20) .inl ((-2147483648), 2147483647) -/
def zc_a33 : za_K := (23, 1, [.inr (.inr 20), .inl ((-2147483648), 2147483647)], [(some (.inl (0, 4)), [((-2147483648), 2147483647)])], [(20, 1), (21, 0)])
set_option maxRecDepth 100000 in
theorem zc_ao33 : zb_K zp_P zc_H zc_a33 := zb_okK (KT := [zc_a26, zc_a27, zc_a32]) (CT := []) (g := 32) (List.forall_mem_cons.mpr ⟨zc_ao26, List.forall_mem_cons.mpr ⟨zc_ao27, List.forall_mem_cons.mpr ⟨zc_ao32, fun _ h => absurd h List.not_mem_nil⟩⟩⟩) (by decide +kernel)
/-- X1.pop .inr (.inr 20) -/
def zc_a34 : za_K := (24, 1, [.inr (.inr 20)], [(some (.inl (0, 2)), [])], [(20, 1)])
set_option maxRecDepth 100000 in
theorem zc_ao34 : zb_K zp_P zc_H zc_a34 := zb_okK (KT := [zc_a26, zc_a27]) (CT := []) (g := 22) (List.forall_mem_cons.mpr ⟨zc_ao26, List.forall_mem_cons.mpr ⟨zc_ao27, fun _ h => absurd h List.not_mem_nil⟩⟩) (by decide +kernel)
/-- X1.popTwo .inr (.inr 20) -/
def zc_a35 : za_K := (25, 1, [.inr (.inr 20)], [(some (.inl (0, 2)), [])], [(20, 1)])
set_option maxRecDepth 100000 in
theorem zc_ao35 : zb_K zp_P zc_H zc_a35 := zb_okK (KT := [zc_a26, zc_a27]) (CT := []) (g := 22) (List.forall_mem_cons.mpr ⟨zc_ao26, List.forall_mem_cons.mpr ⟨zc_ao27, fun _ h => absurd h List.not_mem_nil⟩⟩) (by decide +kernel)
/-- X1.increase .inr (.inr 20) .inl ((-2147483648), 2147483647) -/
def zc_a36 : za_K := (26, 1, [.inr (.inr 20), .inl ((-2147483648), 2147483647)], [(some (.inl (0, 4)), [((-2147483648), 2147483647)])], [])
set_option maxRecDepth 100000 in
theorem zc_ao36 : zb_K zp_P zc_H zc_a36 := zb_okK (KT := [zc_a17]) (CT := []) (g := 20) (List.forall_mem_cons.mpr ⟨zc_ao17, fun _ h => absurd h List.not_mem_nil⟩) (by decide +kernel)
/-- X1.apply .inr (.inr 20) .inl ((-2147483648), 2147483647) .inl ((-2147483648), 2147483647) -/
def zc_a37 : za_K := (20, 3, [.inr (.inr 20), .inl ((-2147483648), 2147483647), .inl ((-2147483648), 2147483647)], [(some (.inl (0, 4)), [((-2147483648), 2147483647), ((-2147483648), 2147483647)])], [(20, 1), (21, 0)])
set_option maxRecDepth 100000 in
theorem zc_ao37 : zb_K zp_P zc_H zc_a37 := zb_okK (KT := [zc_a34, zc_a35, zc_a31, zc_a33, zc_a36, zc_a30]) (CT := []) (g := 14) (List.forall_mem_cons.mpr ⟨zc_ao34, List.forall_mem_cons.mpr ⟨zc_ao35, List.forall_mem_cons.mpr ⟨zc_ao31, List.forall_mem_cons.mpr ⟨zc_ao33, List.forall_mem_cons.mpr ⟨zc_ao36, List.forall_mem_cons.mpr ⟨zc_ao30, fun _ h => absurd h List.not_mem_nil⟩⟩⟩⟩⟩⟩) (by decide +kernel)
/-- ClassFrames$Code.hasPlace .inr (.inr 1) .inl ((-2147483648), 2147483647) -/
def zc_a38 : za_K := (7, 0, [.inr (.inr 1), .inl ((-2147483648), 2147483647)], [(some (.inl (0, 0)), [((-2147483648), 2147483647)]), (some (.inl (1, 1)), [(0, 59)])], [])
set_option maxRecDepth 100000 in
theorem zc_ao38 : zb_K zp_P zc_H zc_a38 := zb_okK (KT := []) (CT := []) (g := 16) (fun _ h => absurd h List.not_mem_nil) (by decide +kernel)
/-- ClassFrames$Code.opAt .inr (.inr 1) .inl ((-2147483648), 2147483647) -/
def zc_a39 : za_K := (8, 1, [.inr (.inr 1), .inl ((-2147483648), 2147483647)], [(some (.inl ((-2147483648), 2147483647)), [((-2147483648), 2147483647)])], [])
set_option maxRecDepth 100000 in
theorem zc_ao39 : zb_K zp_P zc_H zc_a39 := zb_okK (KT := [zc_a38]) (CT := []) (g := 17) (List.forall_mem_cons.mpr ⟨zc_ao38, fun _ h => absurd h List.not_mem_nil⟩) (by decide +kernel)
