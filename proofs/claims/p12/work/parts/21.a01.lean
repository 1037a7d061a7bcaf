/-! ===== 21: contracts, found kept (by program) ===== -/
/-- ClassFrames$Code.firstAt .inr (.inr 1) .inl ((-2147483648), 2147483647) -/
def zc_a40 : za_K := (9, 1, [.inr (.inr 1), .inl ((-2147483648), 2147483647)], [(some (.inl ((-2147483648), 2147483647)), [((-2147483648), 2147483647)])], [])
set_option maxRecDepth 100000 in
theorem zc_ao40 : zb_K zp_P zc_H zc_a40 := zb_okK (KT := [zc_a38]) (CT := []) (g := 17) (List.forall_mem_cons.mpr ⟨zc_ao38, fun _ h => absurd h List.not_mem_nil⟩) (by decide +kernel)
/-- ClassFrames$Maker.workOp .inr (.inr 16) .inl (0, 59) -/
def zc_a41 : za_K := (88, 4, [.inr (.inr 16), .inl (0, 59)], [(some (.inl (0, 4)), [(0, 59)])], [(20, 1), (21, 0)])
set_option maxRecDepth 100000 in
theorem zc_ao41 : zb_K zp_P zc_H zc_a41 := zb_okK (KT := [zc_a25, zc_a39, zc_a40, zc_a37]) (CT := []) (g := 25) (List.forall_mem_cons.mpr ⟨zc_ao25, List.forall_mem_cons.mpr ⟨zc_ao39, List.forall_mem_cons.mpr ⟨zc_ao40, List.forall_mem_cons.mpr ⟨zc_ao37, fun _ h => absurd h List.not_mem_nil⟩⟩⟩⟩) (by decide +kernel)
/-- ClassFrames$State.leaveAlone .inr (.inr 20) .inl ((-2147483648), 2147483647) -/
def zc_a42 : za_K := (121, 0, [.inr (.inr 20), .inl ((-2147483648), 2147483647)], [(none, [((-2147483648), 2147483647)])], [(20, 1), (21, 0)])
set_option maxRecDepth 100000 in
theorem zc_ao42 : zb_K zp_P zc_H zc_a42 := zb_okK (KT := []) (CT := []) (g := 16) (fun _ h => absurd h List.not_mem_nil) (by decide +kernel)
/-- ClassFrames$Code.hasHandler .inr (.inr 1) .inl (0, 5) -/
def zc_a43 : za_K := (14, 0, [.inr (.inr 1), .inl (0, 5)], [(some (.inl (0, 0)), [(0, 5)]), (some (.inl (1, 1)), [(0, 5)])], [])
set_option maxRecDepth 100000 in
theorem zc_ao43 : zb_K zp_P zc_H zc_a43 := zb_okK (KT := []) (CT := []) (g := 16) (fun _ h => absurd h List.not_mem_nil) (by decide +kernel)
/-- ClassFrames$Code.handles .inr (.inr 1) .inl (0, 5) .inl ((-2147483648), 2147483647) -/
def zc_a44 : za_K := (15, 1, [.inr (.inr 1), .inl (0, 5), .inl ((-2147483648), 2147483647)], [(some (.inl (0, 0)), [(0, 5), ((-2147483648), 2147483647)]), (some (.inl (1, 1)), [(0, 5), ((-2147483648), 2147483646)])], [])
set_option maxRecDepth 100000 in
theorem zc_ao44 : zb_K zp_P zc_H zc_a44 := zb_okK (KT := [zc_a43]) (CT := []) (g := 26) (List.forall_mem_cons.mpr ⟨zc_ao43, fun _ h => absurd h List.not_mem_nil⟩) (by decide +kernel)
/-- ClassFrames$Code.handlerAt .inr (.inr 1) .inl (0, 5) -/
def zc_a45 : za_K := (16, 1, [.inr (.inr 1), .inl (0, 5)], [(some (.inl ((-2147483648), 2147483647)), [(0, 5)])], [])
set_option maxRecDepth 100000 in
theorem zc_ao45 : zb_K zp_P zc_H zc_a45 := zb_okK (KT := [zc_a43]) (CT := []) (g := 17) (List.forall_mem_cons.mpr ⟨zc_ao43, fun _ h => absurd h List.not_mem_nil⟩) (by decide +kernel)
/-- ClassFrames$Code.handlerKind .inr (.inr 1) .inl (0, 5) -/
def zc_a46 : za_K := (17, 1, [.inr (.inr 1), .inl (0, 5)], [(some (.inl ((-2147483648), 2147483647)), [(0, 5)])], [])
set_option maxRecDepth 100000 in
theorem zc_ao46 : zb_K zp_P zc_H zc_a46 := zb_okK (KT := [zc_a43]) (CT := []) (g := 17) (List.forall_mem_cons.mpr ⟨zc_ao43, fun _ h => absurd h List.not_mem_nil⟩) (by decide +kernel)
/-- ClassFrames$Code.handlers .inr (.inr 1) -/
def zc_a47 : za_K := (5, 0, [.inr (.inr 1)], [(some (.inl (0, 6)), [])], [])
set_option maxRecDepth 100000 in
theorem zc_ao47 : zb_K zp_P zc_H zc_a47 := zb_okK (KT := []) (CT := []) (g := 10) (fun _ h => absurd h List.not_mem_nil) (by decide +kernel)
/-- ClassFrames$Table.isCell .inr (.inr 17) .inl (0, 59) .inl (0, 2147483647) -/
def zc_a48 : za_K := (133, 0, [.inr (.inr 17), .inl (0, 59), .inl (0, 2147483647)], [(some (.inl (0, 0)), [(0, 59), (14, 2147483647)]), (some (.inl (1, 1)), [(0, 59), (0, 13)])], [])
set_option maxRecDepth 100000 in
theorem zc_ao48 : zb_K zp_P zc_H zc_a48 := zb_okK (KT := []) (CT := []) (g := 20) (fun _ h => absurd h List.not_mem_nil) (by decide +kernel)
/-- ClassFrames$Table.kindOf .inr (.inr 17) .inl (0, 59) .inl (0, 2147483647) -/
def zc_a49 : za_K := (131, 1, [.inr (.inr 17), .inl (0, 59), .inl (0, 2147483647)], [(some (.inl ((-2147483648), 2147483647)), [(0, 59), (0, 2147483647)])], [])
set_option maxRecDepth 100000 in
theorem zc_ao49 : zb_K zp_P zc_H zc_a49 := zb_okK (KT := [zc_a48]) (CT := []) (g := 22) (List.forall_mem_cons.mpr ⟨zc_ao48, fun _ h => absurd h List.not_mem_nil⟩) (by decide +kernel)
/-- ClassFrames$Table.setKind .inr (.inr 17) .inl (0, 59) .inl (0, 13) .inl ((-2147483648), 2147483647) -/
def zc_a50 : za_K := (132, 1, [.inr (.inr 17), .inl (0, 59), .inl (0, 13), .inl ((-2147483648), 2147483647)], [(none, [(0, 59), (0, 13), ((-2147483648), 2147483647)])], [(18, 0)])
set_option maxRecDepth 100000 in
theorem zc_ao50 : zb_K zp_P zc_H zc_a50 := zb_okK (KT := [zc_a48]) (CT := []) (g := 22) (List.forall_mem_cons.mpr ⟨zc_ao48, fun _ h => absurd h List.not_mem_nil⟩) (by decide +kernel)
/-- X4.joined .inl ((-2147483648), 2147483647) .inl ((-2147483648), 2147483647) -/
def zc_a51 : za_K := (50, 1, [.inl ((-2147483648), 2147483647), .inl ((-2147483648), 2147483647)], [(some (.inl ((-2147483648), 2147483647)), [((-2147483648), 2147483647), ((-2147483648), 2147483647)])], [])
set_option maxRecDepth 100000 in
theorem zc_ao51 : zb_K zp_P zc_H zc_a51 := zb_okK (KT := [zc_a29]) (CT := []) (g := 24) (List.forall_mem_cons.mpr ⟨zc_ao29, fun _ h => absurd h List.not_mem_nil⟩) (by decide +kernel)
/-- ClassFrames$Maker.joinAt .inr (.inr 16) .inl ((-2147483648), 2147483647) -/
def zc_a52 : za_K := (91, 2, [.inr (.inr 16), .inl ((-2147483648), 2147483647)], [(some (.inl (0, 7)), [((-2147483648), 2147483647)])], [(16, 5), (18, 0), (19, 0)])
set_option maxRecDepth 100000 in
theorem zc_ao52 : zb_K zp_P zc_H zc_a52 := zb_okK (KT := [zc_a16, zc_a17, zc_a18, zc_a21, zc_a22, zc_a49, zc_a38, zc_a50, zc_a51]) (CT := [(63, [(0, .inr (.inr 16)), (1, .inl (0, 59)), (2, .inl (0, 14))], [], [], 29, [0, (-2)])]) (g := 42) (List.forall_mem_cons.mpr ⟨zc_ao16, List.forall_mem_cons.mpr ⟨zc_ao17, List.forall_mem_cons.mpr ⟨zc_ao18, List.forall_mem_cons.mpr ⟨zc_ao21, List.forall_mem_cons.mpr ⟨zc_ao22, List.forall_mem_cons.mpr ⟨zc_ao49, List.forall_mem_cons.mpr ⟨zc_ao38, List.forall_mem_cons.mpr ⟨zc_ao50, List.forall_mem_cons.mpr ⟨zc_ao51, fun _ h => absurd h List.not_mem_nil⟩⟩⟩⟩⟩⟩⟩⟩⟩) (by decide +kernel)
/-- ClassFrames$Maker.workHandlers .inr (.inr 16) .inl (0, 59) -/
def zc_a53 : za_K := (89, 3, [.inr (.inr 16), .inl (0, 59)], [(some (.inl (0, 7)), [(0, 59)])], [(16, 5), (18, 0), (19, 0), (20, 1), (21, 0)])
set_option maxRecDepth 100000 in
theorem zc_ao53 : zb_K zp_P zc_H zc_a53 := zb_okK (KT := [zc_a47, zc_a45, zc_a46, zc_a25, zc_a42, zc_a52, zc_a44]) (CT := [(2, [(0, .inr (.inr 16)), (1, .inl (0, 59)), (2, .inl (0, 6))], [], [], 13, [0, (-2)])]) (g := 43) (List.forall_mem_cons.mpr ⟨zc_ao47, List.forall_mem_cons.mpr ⟨zc_ao45, List.forall_mem_cons.mpr ⟨zc_ao46, List.forall_mem_cons.mpr ⟨zc_ao25, List.forall_mem_cons.mpr ⟨zc_ao42, List.forall_mem_cons.mpr ⟨zc_ao52, List.forall_mem_cons.mpr ⟨zc_ao44, fun _ h => absurd h List.not_mem_nil⟩⟩⟩⟩⟩⟩⟩) (by decide +kernel)
/-- ClassFrames$Code.goesOn .inr (.inr 1) .inl (0, 59) -/
def zc_a54 : za_K := (11, 2, [.inr (.inr 1), .inl (0, 59)], [(some (.inl (0, 0)), [(0, 59)]), (some (.inl (1, 1)), [(0, 59)])], [])
set_option maxRecDepth 100000 in
theorem zc_ao54 : zb_K zp_P zc_H zc_a54 := zb_okK (KT := [zc_a39]) (CT := []) (g := 20) (List.forall_mem_cons.mpr ⟨zc_ao39, fun _ h => absurd h List.not_mem_nil⟩) (by decide +kernel)
/-- ClassFrames$Code.ways .inr (.inr 1) .inl (0, 59) -/
def zc_a55 : za_K := (12, 2, [.inr (.inr 1), .inl (0, 59)], [(some (.inl (0, 2)), [(0, 59)])], [])
set_option maxRecDepth 100000 in
theorem zc_ao55 : zb_K zp_P zc_H zc_a55 := zb_okK (KT := [zc_a39]) (CT := []) (g := 23) (List.forall_mem_cons.mpr ⟨zc_ao39, fun _ h => absurd h List.not_mem_nil⟩) (by decide +kernel)
/-- ClassFrames$Code.secondAt .inr (.inr 1) .inl ((-2147483648), 2147483647) -/
def zc_a56 : za_K := (10, 1, [.inr (.inr 1), .inl ((-2147483648), 2147483647)], [(some (.inl ((-2147483648), 2147483647)), [((-2147483648), 2147483647)])], [])
set_option maxRecDepth 100000 in
theorem zc_ao56 : zb_K zp_P zc_H zc_a56 := zb_okK (KT := [zc_a38]) (CT := []) (g := 17) (List.forall_mem_cons.mpr ⟨zc_ao38, fun _ h => absurd h List.not_mem_nil⟩) (by decide +kernel)
/-- ClassFrames$Code.way .inr (.inr 1) .inl (0, 59) .inl (0, 1) -/
def zc_a57 : za_K := (13, 2, [.inr (.inr 1), .inl (0, 59), .inl (0, 1)], [(some (.inl ((-2147483648), 2147483647)), [(0, 59), (0, 1)])], [])
set_option maxRecDepth 100000 in
theorem zc_ao57 : zb_K zp_P zc_H zc_a57 := zb_okK (KT := [zc_a40, zc_a56]) (CT := []) (g := 14) (List.forall_mem_cons.mpr ⟨zc_ao40, List.forall_mem_cons.mpr ⟨zc_ao56, fun _ h => absurd h List.not_mem_nil⟩⟩) (by decide +kernel)
/-- ClassFrames$Maker.workWays .inr (.inr 16) .inl (0, 59) -/
def zc_a58 : za_K := (90, 3, [.inr (.inr 16), .inl (0, 59)], [(some (.inl (0, 7)), [(0, 59)])], [(16, 5), (18, 0), (19, 0)])
set_option maxRecDepth 100000 in
theorem zc_ao58 : zb_K zp_P zc_H zc_a58 := zb_okK (KT := [zc_a54, zc_a55, zc_a57, zc_a38, zc_a52]) (CT := [(2, [(0, .inr (.inr 16)), (1, .inl (0, 59)), (2, .inl (0, 2))], [], [], 5, [0, (-2)])]) (g := 32) (List.forall_mem_cons.mpr ⟨zc_ao54, List.forall_mem_cons.mpr ⟨zc_ao55, List.forall_mem_cons.mpr ⟨zc_ao57, List.forall_mem_cons.mpr ⟨zc_ao38, List.forall_mem_cons.mpr ⟨zc_ao52, fun _ h => absurd h List.not_mem_nil⟩⟩⟩⟩⟩) (by decide +kernel)
/-- ClassFrames$Maker.goRound .inr (.inr 16) -/
def zc_a59 : za_K := (87, 5, [.inr (.inr 16)], [(some (.inl (0, 7)), [])], [(16, 5), (16, 7), (18, 0), (19, 0), (20, 1), (21, 0)])
set_option maxRecDepth 100000 in
theorem zc_ao59 : zb_K zp_P zc_H zc_a59 := zb_okK (KT := [zc_a11, zc_a22, zc_a41, zc_a53, zc_a58]) (CT := [(2, [(0, .inr (.inr 16)), (1, .inl (0, 60))], [], [], 121, [(-2)])]) (g := 39) (List.forall_mem_cons.mpr ⟨zc_ao11, List.forall_mem_cons.mpr ⟨zc_ao22, List.forall_mem_cons.mpr ⟨zc_ao41, List.forall_mem_cons.mpr ⟨zc_ao53, List.forall_mem_cons.mpr ⟨zc_ao58, fun _ h => absurd h List.not_mem_nil⟩⟩⟩⟩⟩) (by decide +kernel)
/-- ClassFrames$Table.write .inr (.inr 11) .inl (0, 59) .inr (.inr 20) -/
def zc_a60 : za_K := (134, 1, [.inr (.inr 11), .inl (0, 59), .inr (.inr 20)], [(none, [(0, 59)])], [(12, 0), (13, 0)])
set_option maxRecDepth 100000 in
theorem zc_ao60 : zb_K zp_P zc_H zc_a60 := zb_okK (KT := [zc_a16, zc_a17]) (CT := [(23, [(0, .inr (.inr 11)), (1, .inl (0, 59)), (2, .inr (.inr 20)), (3, .inl (0, 14))], [], [], 29, [0, (-2)])]) (g := 24) (List.forall_mem_cons.mpr ⟨zc_ao16, List.forall_mem_cons.mpr ⟨zc_ao17, fun _ h => absurd h List.not_mem_nil⟩⟩) (by decide +kernel)
/-- ClassFrames$Frames.usedLocals .inr (.inr 20) -/
def zc_a61 : za_K := (29, 1, [.inr (.inr 20)], [(some (.inl (0, 8)), [])], [])
set_option maxRecDepth 100000 in
theorem zc_ao61 : zb_K zp_P zc_H zc_a61 := zb_okK (KT := [zc_a17]) (CT := [(3, [(0, .inr (.inr 20)), (1, .inl (0, 8))], [], [], 1, [2])]) (g := 18) (List.forall_mem_cons.mpr ⟨zc_ao17, fun _ h => absurd h List.not_mem_nil⟩) (by decide +kernel)
/-- ClassFrames$Frames.add .inr (.inr 10) .inl (0, 59) .inr (.inr 20) -/
def zc_a62 : za_K := (28, 2, [.inr (.inr 10), .inl (0, 59), .inr (.inr 20)], [(none, [(0, 59)])], [(10, 3), (12, 0), (13, 0), (14, 0), (15, 0)])
set_option maxRecDepth 100000 in
theorem zc_ao62 : zb_K zp_P zc_H zc_a62 := zb_okK (KT := [zc_a61, zc_a60]) (CT := []) (g := 37) (List.forall_mem_cons.mpr ⟨zc_ao61, List.forall_mem_cons.mpr ⟨zc_ao60, fun _ h => absurd h List.not_mem_nil⟩⟩) (by decide +kernel)
/-- ClassFrames$Maker.isHandlers .inr (.inr 16) .inl (0, 59) -/
def zc_a63 : za_K := (93, 2, [.inr (.inr 16), .inl (0, 59)], [(some (.inl (0, 0)), [(0, 59)]), (some (.inl (1, 1)), [(0, 59)])], [])
set_option maxRecDepth 100000 in
theorem zc_ao63 : zb_K zp_P zc_H zc_a63 := zb_okK (KT := [zc_a47, zc_a45]) (CT := [(2, [(0, .inr (.inr 16)), (1, .inl (0, 59)), (2, .inl (0, 6))], [], [], 13, [0, (-2)])]) (g := 21) (List.forall_mem_cons.mpr ⟨zc_ao47, List.forall_mem_cons.mpr ⟨zc_ao45, fun _ h => absurd h List.not_mem_nil⟩⟩) (by decide +kernel)
/-- ClassFrames$Maker.isGoneTo .inr (.inr 16) .inl (0, 59) -/
def zc_a64 : za_K := (94, 3, [.inr (.inr 16), .inl (0, 59)], [(some (.inl (0, 0)), [(0, 59)]), (some (.inl (1, 1)), [(0, 59)])], [])
set_option maxRecDepth 100000 in
theorem zc_ao64 : zb_K zp_P zc_H zc_a64 := zb_okK (KT := [zc_a11, zc_a22, zc_a55, zc_a57]) (CT := [(2, [(0, .inr (.inr 16)), (1, .inl (0, 59)), (2, .inl (0, 60))], [], [], 426, [0, (-7)]), (15, [(0, .inr (.inr 16)), (1, .inl (0, 59)), (2, .inl (0, 59)), (3, .inl (0, 2))], [], [], 425, [0, (-7), (-2)])]) (g := 27) (List.forall_mem_cons.mpr ⟨zc_ao11, List.forall_mem_cons.mpr ⟨zc_ao22, List.forall_mem_cons.mpr ⟨zc_ao55, List.forall_mem_cons.mpr ⟨zc_ao57, fun _ h => absurd h List.not_mem_nil⟩⟩⟩⟩) (by decide +kernel)
/-- ClassFrames$Maker.isBehindGap .inr (.inr 16) .inl (0, 59) -/
def zc_a65 : za_K := (95, 3, [.inr (.inr 16), .inl (0, 59)], [(some (.inl (0, 0)), [(0, 59)]), (some (.inl (1, 1)), [(1, 59)])], [])
set_option maxRecDepth 100000 in
theorem zc_ao65 : zb_K zp_P zc_H zc_a65 := zb_okK (KT := [zc_a22, zc_a54]) (CT := []) (g := 25) (List.forall_mem_cons.mpr ⟨zc_ao22, List.forall_mem_cons.mpr ⟨zc_ao54, fun _ h => absurd h List.not_mem_nil⟩⟩) (by decide +kernel)
/-- ClassFrames$Maker.gatherFrames .inr (.inr 16) -/
def zc_a66 : za_K := (92, 4, [.inr (.inr 16)], [(none, [])], [(10, 3), (12, 0), (13, 0), (14, 0), (15, 0), (20, 1), (21, 0)])
set_option maxRecDepth 100000 in
theorem zc_ao66 : zb_K zp_P zc_H zc_a66 := zb_okK (KT := [zc_a11, zc_a22, zc_a25, zc_a62, zc_a63, zc_a64, zc_a65]) (CT := [(2, [(0, .inr (.inr 16)), (1, .inl (0, 60))], [], [], 121, [(-2)])]) (g := 43) (List.forall_mem_cons.mpr ⟨zc_ao11, List.forall_mem_cons.mpr ⟨zc_ao22, List.forall_mem_cons.mpr ⟨zc_ao25, List.forall_mem_cons.mpr ⟨zc_ao62, List.forall_mem_cons.mpr ⟨zc_ao63, List.forall_mem_cons.mpr ⟨zc_ao64, List.forall_mem_cons.mpr ⟨zc_ao65, fun _ h => absurd h List.not_mem_nil⟩⟩⟩⟩⟩⟩⟩) (by decide +kernel)
/-- ClassFrames$Maker.workOut .inr (.inr 16) -/
def zc_a67 : za_K := (85, 6, [.inr (.inr 16)], [(some (.inl (0, 7)), [])], [(10, 3), (12, 0), (13, 0), (14, 0), (15, 0), (16, 4), (16, 5), (16, 6), (16, 7), (18, 0), (19, 0), (20, 1), (21, 0)])
set_option maxRecDepth 100000 in
theorem zc_ao67 : zb_K zp_P zc_H zc_a67 := zb_okK (KT := [zc_a11, zc_a20, zc_a59, zc_a66]) (CT := [(24, [(0, .inr (.inr 16)), (1, .inl (0, 7))], [], [((16, 6), 0, 3421)], 6843, [0, (-2)])]) (g := 30) (List.forall_mem_cons.mpr ⟨zc_ao11, List.forall_mem_cons.mpr ⟨zc_ao20, List.forall_mem_cons.mpr ⟨zc_ao59, List.forall_mem_cons.mpr ⟨zc_ao66, fun _ h => absurd h List.not_mem_nil⟩⟩⟩⟩) (by decide +kernel)
/-- ClassFrames.make .inr (.inr 0) -/
def zc_a68 : za_K := (139, 7, [.inr (.inr 0)], [(some (.inl ((-2147483648), 2147483647)), [])], [(0, 6), (10, 3), (12, 0), (13, 0), (14, 0), (15, 0), (16, 4), (16, 5), (16, 6), (16, 7), (18, 0), (19, 0), (20, 1), (21, 0)])
set_option maxRecDepth 100000 in
theorem zc_ao68 : zb_K zp_P zc_H zc_a68 := zb_okK (KT := [zc_a9, zc_a10, zc_a67, zc_a8]) (CT := []) (g := 20) (List.forall_mem_cons.mpr ⟨zc_ao9, List.forall_mem_cons.mpr ⟨zc_ao10, List.forall_mem_cons.mpr ⟨zc_ao67, List.forall_mem_cons.mpr ⟨zc_ao8, fun _ h => absurd h List.not_mem_nil⟩⟩⟩⟩) (by decide +kernel)
/-- ClassFrames.fault .inr (.inr 0) -/
def zc_a69 : za_K := (140, 0, [.inr (.inr 0)], [(some (.inl ((-2147483648), 2147483647)), [])], [])
set_option maxRecDepth 100000 in
theorem zc_ao69 : zb_K zp_P zc_H zc_a69 := zb_okK (KT := []) (CT := []) (g := 10) (fun _ h => absurd h List.not_mem_nil) (by decide +kernel)
/-- ClassFrames$Maker.isMade .inr (.inr 16) -/
def zc_a70 : za_K := (77, 0, [.inr (.inr 16)], [(some (.inl (0, 1)), [])], [])
set_option maxRecDepth 100000 in
theorem zc_ao70 : zb_K zp_P zc_H zc_a70 := zb_okK (KT := []) (CT := []) (g := 10) (fun _ h => absurd h List.not_mem_nil) (by decide +kernel)
/-- ClassFrames$Maker.depthAt .inr (.inr 16) .inl (0, 59) -/
def zc_a71 : za_K := (81, 1, [.inr (.inr 16), .inl (0, 59)], [(some (.inl ((-2147483648), 2147483647)), [(0, 59)])], [])
set_option maxRecDepth 100000 in
theorem zc_ao71 : zb_K zp_P zc_H zc_a71 := zb_okK (KT := [zc_a21]) (CT := []) (g := 12) (List.forall_mem_cons.mpr ⟨zc_ao21, fun _ h => absurd h List.not_mem_nil⟩) (by decide +kernel)
/-- ClassFrames$Maker.kindAt .inr (.inr 16) .inl (0, 59) .inl (0, 2147483646) -/
def zc_a72 : za_K := (82, 2, [.inr (.inr 16), .inl (0, 59), .inl (0, 2147483646)], [(some (.inl ((-2147483648), 2147483647)), [(0, 59), (0, 2147483646)])], [])
set_option maxRecDepth 100000 in
theorem zc_ao72 : zb_K zp_P zc_H zc_a72 := zb_okK (KT := [zc_a22, zc_a49]) (CT := []) (g := 17) (List.forall_mem_cons.mpr ⟨zc_ao22, List.forall_mem_cons.mpr ⟨zc_ao49, fun _ h => absurd h List.not_mem_nil⟩⟩) (by decide +kernel)
/-- ClassFrames.kind .inr (.inr 0) .inl ((-2147483648), 2147483647) .inl ((-2147483648), 2147483647) -/
def zc_a73 : za_K := (141, 3, [.inr (.inr 0), .inl ((-2147483648), 2147483647), .inl ((-2147483648), 2147483647)], [(some (.inl ((-2147483648), 2147483647)), [((-2147483648), 2147483647), ((-2147483648), 2147483647)])], [])
set_option maxRecDepth 100000 in
theorem zc_ao73 : zb_K zp_P zc_H zc_a73 := zb_okK (KT := [zc_a70, zc_a71, zc_a72, zc_a38]) (CT := []) (g := 33) (List.forall_mem_cons.mpr ⟨zc_ao70, List.forall_mem_cons.mpr ⟨zc_ao71, List.forall_mem_cons.mpr ⟨zc_ao72, List.forall_mem_cons.mpr ⟨zc_ao38, fun _ h => absurd h List.not_mem_nil⟩⟩⟩⟩) (by decide +kernel)
/-- ClassFrames.size .inr (.inr 0) .inl ((-2147483648), 2147483647) -/
def zc_a74 : za_K := (142, 2, [.inr (.inr 0), .inl ((-2147483648), 2147483647)], [(some (.inl ((-2147483648), 2147483647)), [((-2147483648), 2147483647)])], [])
set_option maxRecDepth 100000 in
theorem zc_ao74 : zb_K zp_P zc_H zc_a74 := zb_okK (KT := [zc_a70, zc_a71, zc_a38]) (CT := []) (g := 22) (List.forall_mem_cons.mpr ⟨zc_ao70, List.forall_mem_cons.mpr ⟨zc_ao71, List.forall_mem_cons.mpr ⟨zc_ao38, fun _ h => absurd h List.not_mem_nil⟩⟩⟩) (by decide +kernel)
/-- ClassFrames$Frames.has .inr (.inr 10) .inl (0, 2147483647) -/
def zc_a75 : za_K := (31, 0, [.inr (.inr 10), .inl (0, 2147483647)], [(some (.inl (0, 0)), [(0, 2147483647)]), (some (.inl (1, 1)), [(0, 59)])], [])
set_option maxRecDepth 100000 in
theorem zc_ao75 : zb_K zp_P zc_H zc_a75 := zb_okK (KT := []) (CT := []) (g := 16) (fun _ h => absurd h List.not_mem_nil) (by decide +kernel)
/-- ClassFrames$Frames.placeOf .inr (.inr 10) .inl (0, 59) -/
def zc_a76 : za_K := (32, 1, [.inr (.inr 10), .inl (0, 59)], [(some (.inl ((-2147483648), 2147483647)), [(0, 59)])], [])
set_option maxRecDepth 100000 in
theorem zc_ao76 : zb_K zp_P zc_H zc_a76 := zb_okK (KT := [zc_a75]) (CT := []) (g := 17) (List.forall_mem_cons.mpr ⟨zc_ao75, fun _ h => absurd h List.not_mem_nil⟩) (by decide +kernel)
/-- ClassFrames$Frames.localsOf .inr (.inr 10) .inl (0, 2147483647) -/
def zc_a77 : za_K := (33, 1, [.inr (.inr 10), .inl (0, 2147483647)], [(some (.inl ((-2147483648), 2147483647)), [(0, 2147483647)])], [])
set_option maxRecDepth 100000 in
theorem zc_ao77 : zb_K zp_P zc_H zc_a77 := zb_okK (KT := [zc_a75]) (CT := []) (g := 17) (List.forall_mem_cons.mpr ⟨zc_ao75, fun _ h => absurd h List.not_mem_nil⟩) (by decide +kernel)
/-- ClassFrames$Table.depthOf .inr (.inr 11) .inl (0, 59) -/
def zc_a78 : za_K := (130, 0, [.inr (.inr 11), .inl (0, 59)], [(some (.inl ((-2147483648), 2147483647)), [(0, 59)])], [])
set_option maxRecDepth 100000 in
theorem zc_ao78 : zb_K zp_P zc_H zc_a78 := zb_okK (KT := []) (CT := []) (g := 18) (fun _ h => absurd h List.not_mem_nil) (by decide +kernel)
/-- ClassFrames$Frames.stackOf .inr (.inr 10) .inl (0, 59) -/
def zc_a79 : za_K := (34, 1, [.inr (.inr 10), .inl (0, 59)], [(some (.inl ((-2147483648), 2147483647)), [(0, 59)])], [])
set_option maxRecDepth 100000 in
theorem zc_ao79 : zb_K zp_P zc_H zc_a79 := zb_okK (KT := [zc_a78, zc_a75]) (CT := []) (g := 17) (List.forall_mem_cons.mpr ⟨zc_ao78, List.forall_mem_cons.mpr ⟨zc_ao75, fun _ h => absurd h List.not_mem_nil⟩⟩) (by decide +kernel)
