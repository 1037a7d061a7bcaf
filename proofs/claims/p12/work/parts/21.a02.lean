/-! ===== 21: contracts, found kept (by program) ===== -/
/-- ClassFrames$Table.isCell .inr (.inr 11) .inl (0, 2147483647) .inl ((-2147483648), 2147483647) -/
def zc_a80 : za_K := (133, 0, [.inr (.inr 11), .inl (0, 2147483647), .inl ((-2147483648), 2147483647)], [(some (.inl (0, 0)), [(0, 2147483647), ((-2147483648), 2147483647)]), (some (.inl (1, 1)), [(0, 59), (0, 13)])], [])
set_option maxRecDepth 100000 in
theorem zc_ao80 : zb_K zp_P zc_H zc_a80 := zb_okK (KT := []) (CT := []) (g := 20) (fun _ h => absurd h List.not_mem_nil) (by decide +kernel)
/-- ClassFrames$Table.kindOf .inr (.inr 11) .inl (0, 59) .inl ((-2147483648), 2147483647) -/
def zc_a81 : za_K := (131, 1, [.inr (.inr 11), .inl (0, 59), .inl ((-2147483648), 2147483647)], [(some (.inl ((-2147483648), 2147483647)), [(0, 59), ((-2147483648), 2147483647)])], [])
set_option maxRecDepth 100000 in
theorem zc_ao81 : zb_K zp_P zc_H zc_a81 := zb_okK (KT := [zc_a80]) (CT := []) (g := 22) (List.forall_mem_cons.mpr ⟨zc_ao80, fun _ h => absurd h List.not_mem_nil⟩) (by decide +kernel)
/-- ClassFrames$Frames.hasEntry .inr (.inr 10) .inl (0, 2147483647) .inl (0, 2147483647) -/
def zc_a82 : za_K := (40, 2, [.inr (.inr 10), .inl (0, 2147483647), .inl (0, 2147483647)], [(some (.inl (0, 0)), [(0, 2147483647), (0, 2147483647)]), (some (.inl (1, 1)), [(0, 59), (0, 2147483646)])], [])
set_option maxRecDepth 100000 in
theorem zc_ao82 : zb_K zp_P zc_H zc_a82 := zb_okK (KT := [zc_a79, zc_a75, zc_a77]) (CT := []) (g := 25) (List.forall_mem_cons.mpr ⟨zc_ao79, List.forall_mem_cons.mpr ⟨zc_ao75, List.forall_mem_cons.mpr ⟨zc_ao77, fun _ h => absurd h List.not_mem_nil⟩⟩⟩) (by decide +kernel)
/-- ClassFrames$Frames.column .inr (.inr 10) .inl (0, 2147483647) .inl (0, 2147483647) -/
def zc_a83 : za_K := (41, 2, [.inr (.inr 10), .inl (0, 2147483647), .inl (0, 2147483647)], [(some (.inl ((-2147483648), 2147483647)), [(0, 2147483647), (0, 2147483647)])], [])
set_option maxRecDepth 100000 in
theorem zc_ao83 : zb_K zp_P zc_H zc_a83 := zb_okK (KT := [zc_a77]) (CT := []) (g := 20) (List.forall_mem_cons.mpr ⟨zc_ao77, fun _ h => absurd h List.not_mem_nil⟩) (by decide +kernel)
/-- ClassFrames$Frames.entry .inr (.inr 10) .inl (0, 2147483647) .inl (0, 2147483647) -/
def zc_a84 : za_K := (38, 3, [.inr (.inr 10), .inl (0, 2147483647), .inl (0, 2147483647)], [(some (.inl ((-2147483648), 2147483647)), [(0, 2147483647), (0, 2147483647)])], [])
set_option maxRecDepth 100000 in
theorem zc_ao84 : zb_K zp_P zc_H zc_a84 := zb_okK (KT := [zc_a82, zc_a83, zc_a81]) (CT := []) (g := 22) (List.forall_mem_cons.mpr ⟨zc_ao82, List.forall_mem_cons.mpr ⟨zc_ao83, List.forall_mem_cons.mpr ⟨zc_ao81, fun _ h => absurd h List.not_mem_nil⟩⟩⟩) (by decide +kernel)
/-- ClassFrames$Frames.tell .inr (.inr 10) .inl (0, 2147483647) .inl (0, 2147483647) -/
def zc_a85 : za_K := (37, 4, [.inr (.inr 10), .inl (0, 2147483647), .inl (0, 2147483647)], [(some (.inl ((-2147483648), 2147483647)), [(0, 2147483647), (0, 2147483647)])], [])
set_option maxRecDepth 100000 in
theorem zc_ao85 : zb_K zp_P zc_H zc_a85 := zb_okK (KT := [zc_a76, zc_a79, zc_a75, zc_a77, zc_a84]) (CT := []) (g := 20) (List.forall_mem_cons.mpr ⟨zc_ao76, List.forall_mem_cons.mpr ⟨zc_ao79, List.forall_mem_cons.mpr ⟨zc_ao75, List.forall_mem_cons.mpr ⟨zc_ao77, List.forall_mem_cons.mpr ⟨zc_ao84, fun _ h => absurd h List.not_mem_nil⟩⟩⟩⟩⟩) (by decide +kernel)
/-- ClassFrames.frame .inr (.inr 0) .inl ((-2147483648), 2147483647) .inl ((-2147483648), 2147483647) -/
def zc_a86 : za_K := (143, 5, [.inr (.inr 0), .inl ((-2147483648), 2147483647), .inl ((-2147483648), 2147483647)], [(some (.inl ((-2147483648), 2147483647)), [((-2147483648), 2147483647), ((-2147483648), 2147483647)])], [])
set_option maxRecDepth 100000 in
theorem zc_ao86 : zb_K zp_P zc_H zc_a86 := zb_okK (KT := [zc_a70, zc_a85]) (CT := []) (g := 21) (List.forall_mem_cons.mpr ⟨zc_ao70, List.forall_mem_cons.mpr ⟨zc_ao85, fun _ h => absurd h List.not_mem_nil⟩⟩) (by decide +kernel)
/-- ClassFrames$Table.setKind .inr (.inr 11) .inl (0, 2147483647) .inl ((-2147483648), 2147483647) .inl (0, 8) -/
def zc_a87 : za_K := (132, 1, [.inr (.inr 11), .inl (0, 2147483647), .inl ((-2147483648), 2147483647), .inl (0, 8)], [(none, [(0, 2147483647), ((-2147483648), 2147483647), (0, 8)])], [(12, 0)])
set_option maxRecDepth 100000 in
theorem zc_ao87 : zb_K zp_P zc_H zc_a87 := zb_okK (KT := [zc_a80]) (CT := []) (g := 22) (List.forall_mem_cons.mpr ⟨zc_ao80, fun _ h => absurd h List.not_mem_nil⟩) (by decide +kernel)
/-- ClassFrames$Frames.change .inr (.inr 10) .inl (0, 2147483647) .inl (0, 2147483647) .inl (0, 8) -/
def zc_a88 : za_K := (39, 4, [.inr (.inr 10), .inl (0, 2147483647), .inl (0, 2147483647), .inl (0, 8)], [(some (.inl ((-2147483648), 2147483647)), [(0, 2147483647), (0, 2147483647), (0, 8)])], [(12, 0)])
set_option maxRecDepth 100000 in
theorem zc_ao88 : zb_K zp_P zc_H zc_a88 := zb_okK (KT := [zc_a83, zc_a84, zc_a87]) (CT := []) (g := 26) (List.forall_mem_cons.mpr ⟨zc_ao83, List.forall_mem_cons.mpr ⟨zc_ao84, List.forall_mem_cons.mpr ⟨zc_ao87, fun _ h => absurd h List.not_mem_nil⟩⟩⟩) (by decide +kernel)
/-- ClassFrames.plant .inr (.inr 0) .inl ((-2147483648), 2147483647) .inl ((-2147483648), 2147483647) .inl ((-2147483648), 2147483647) -/
def zc_a89 : za_K := (144, 5, [.inr (.inr 0), .inl ((-2147483648), 2147483647), .inl ((-2147483648), 2147483647), .inl ((-2147483648), 2147483647)], [(some (.inl ((-2147483648), 2147483647)), [((-2147483648), 2147483647), ((-2147483648), 2147483647), ((-2147483648), 2147483647)])], [(12, 0)])
set_option maxRecDepth 100000 in
theorem zc_ao89 : zb_K zp_P zc_H zc_a89 := zb_okK (KT := [zc_a70, zc_a88]) (CT := []) (g := 27) (List.forall_mem_cons.mpr ⟨zc_ao70, List.forall_mem_cons.mpr ⟨zc_ao88, fun _ h => absurd h List.not_mem_nil⟩⟩) (by decide +kernel)
/-- ClassFrames$State.begin .inr (.inr 23) .inr (.inr 1) -/
def zc_a90 : za_K := (115, 1, [.inr (.inr 23), .inr (.inr 1)], [(none, [])], [(23, 1), (24, 0)])
set_option maxRecDepth 100000 in
theorem zc_ao90 : zb_K zp_P zc_H zc_a90 := zb_okK (KT := [zc_a12]) (CT := [(2, [(0, .inr (.inr 23)), (1, .inr (.inr 1)), (2, .inl (0, 8))], [], [], 17, [(-2)])]) (g := 20) (List.forall_mem_cons.mpr ⟨zc_ao12, fun _ h => absurd h List.not_mem_nil⟩) (by decide +kernel)
/-- ClassFrames$State.kindOf .inr (.inr 25) .inl (0, 13) -/
def zc_a91 : za_K := (118, 0, [.inr (.inr 25), .inl (0, 13)], [(some (.inl ((-2147483648), 2147483647)), [(0, 13)])], [])
set_option maxRecDepth 100000 in
theorem zc_ao91 : zb_K zp_P zc_H zc_a91 := zb_okK (KT := []) (CT := []) (g := 18) (fun _ h => absurd h List.not_mem_nil) (by decide +kernel)
/-- ClassFrames$State.isLone .inr (.inr 25) .inl (0, 13) .inl (0, 8) .inl (8, 14) -/
def zc_a92 : za_K := (126, 1, [.inr (.inr 25), .inl (0, 13), .inl (0, 8), .inl (8, 14)], [(some (.inl (0, 0)), [(0, 13), (0, 8), (8, 14)]), (some (.inl (1, 1)), [(0, 13), (0, 8), (8, 14)])], [])
set_option maxRecDepth 100000 in
theorem zc_ao92 : zb_K zp_P zc_H zc_a92 := zb_okK (KT := [zc_a91]) (CT := []) (g := 32) (List.forall_mem_cons.mpr ⟨zc_ao91, fun _ h => absurd h List.not_mem_nil⟩) (by decide +kernel)
/-- ClassFrames$State.hasLone .inr (.inr 25) -/
def zc_a93 : za_K := (125, 2, [.inr (.inr 25)], [(some (.inl (0, 0)), []), (some (.inl (1, 1)), [])], [])
set_option maxRecDepth 100000 in
theorem zc_ao93 : zb_K zp_P zc_H zc_a93 := zb_okK (KT := [zc_a92]) (CT := [(2, [(0, .inr (.inr 25)), (1, .inl (0, 8))], [], [], 134, [(-15)]), (30, [(0, .inr (.inr 25)), (1, .inl (8, 14))], [], [], 29, [(-2)])]) (g := 25) (List.forall_mem_cons.mpr ⟨zc_ao92, fun _ h => absurd h List.not_mem_nil⟩) (by decide +kernel)
/-- ClassFrames$State.setDepth .inr (.inr 25) .inl ((-2147483648), 2147483647) -/
def zc_a94 : za_K := (117, 1, [.inr (.inr 25), .inl ((-2147483648), 2147483647)], [(none, [((-2147483648), 2147483647)])], [(25, 1)])
set_option maxRecDepth 100000 in
theorem zc_ao94 : zb_K zp_P zc_H zc_a94 := zb_okK (KT := []) (CT := []) (g := 15) (fun _ h => absurd h List.not_mem_nil) (by decide +kernel)
/-- ClassFrames$State.setKind .inr (.inr 25) .inl (0, 13) .inl ((-2147483648), 2147483647) -/
def zc_a95 : za_K := (119, 0, [.inr (.inr 25), .inl (0, 13), .inl ((-2147483648), 2147483647)], [(none, [(0, 13), ((-2147483648), 2147483647)])], [(26, 0)])
set_option maxRecDepth 100000 in
theorem zc_ao95 : zb_K zp_P zc_H zc_a95 := zb_okK (KT := []) (CT := []) (g := 18) (fun _ h => absurd h List.not_mem_nil) (by decide +kernel)
/-- ClassFrames$Table.read .inr (.inr 11) .inl (0, 59) .inr (.inr 25) -/
def zc_a96 : za_K := (135, 2, [.inr (.inr 11), .inl (0, 59), .inr (.inr 25)], [(none, [(0, 59)])], [(25, 1), (26, 0)])
set_option maxRecDepth 100000 in
theorem zc_ao96 : zb_K zp_P zc_H zc_a96 := zb_okK (KT := [zc_a94, zc_a95]) (CT := [(23, [(0, .inr (.inr 11)), (1, .inl (0, 59)), (2, .inr (.inr 25)), (3, .inl (0, 14))], [], [], 29, [0, (-2)])]) (g := 24) (List.forall_mem_cons.mpr ⟨zc_ao94, List.forall_mem_cons.mpr ⟨zc_ao95, fun _ h => absurd h List.not_mem_nil⟩⟩) (by decide +kernel)
/-- ClassFrames$Frames.read .inr (.inr 10) .inl (0, 59) .inr (.inr 25) -/
def zc_a97 : za_K := (36, 3, [.inr (.inr 10), .inl (0, 59), .inr (.inr 25)], [(none, [(0, 59)])], [(25, 1), (26, 0)])
set_option maxRecDepth 100000 in
theorem zc_ao97 : zb_K zp_P zc_H zc_a97 := zb_okK (KT := [zc_a96]) (CT := []) (g := 13) (List.forall_mem_cons.mpr ⟨zc_ao96, fun _ h => absurd h List.not_mem_nil⟩) (by decide +kernel)
/-- ClassFrames$Judge.firstTorn .inr (.inr 22) -/
def zc_a98 : za_K := (43, 4, [.inr (.inr 22)], [(some (.inl ((-2147483648), 2147483647)), [])], [(25, 1), (26, 0)])
set_option maxRecDepth 100000 in
theorem zc_ao98 : zb_K zp_P zc_H zc_a98 := zb_okK (KT := [zc_a9, zc_a93, zc_a76, zc_a97]) (CT := [(2, [(0, .inr (.inr 22)), (1, .inl (0, 60))], [], [], 121, [(-2)])]) (g := 27) (List.forall_mem_cons.mpr ⟨zc_ao9, List.forall_mem_cons.mpr ⟨zc_ao93, List.forall_mem_cons.mpr ⟨zc_ao76, List.forall_mem_cons.mpr ⟨zc_ao97, fun _ h => absurd h List.not_mem_nil⟩⟩⟩⟩) (by decide +kernel)
/-- ClassFrames$State.kindOf .inr (.inr 23) .inl (0, 13) -/
def zc_a99 : za_K := (118, 0, [.inr (.inr 23), .inl (0, 13)], [(some (.inl ((-2147483648), 2147483647)), [(0, 13)])], [])
set_option maxRecDepth 100000 in
theorem zc_ao99 : zb_K zp_P zc_H zc_a99 := zb_okK (KT := []) (CT := []) (g := 18) (fun _ h => absurd h List.not_mem_nil) (by decide +kernel)
/-- ClassFrames$State.localsGoAs .inr (.inr 23) .inr (.inr 25) -/
def zc_a100 : za_K := (127, 1, [.inr (.inr 23), .inr (.inr 25)], [(some (.inl (0, 0)), []), (some (.inl (1, 1)), [])], [])
set_option maxRecDepth 100000 in
theorem zc_ao100 : zb_K zp_P zc_H zc_a100 := zb_okK (KT := [zc_a91, zc_a99, zc_a29]) (CT := [(2, [(0, .inr (.inr 23)), (1, .inr (.inr 25)), (2, .inl (0, 8))], [], [], 17, [(-2)])]) (g := 21) (List.forall_mem_cons.mpr ⟨zc_ao91, List.forall_mem_cons.mpr ⟨zc_ao99, List.forall_mem_cons.mpr ⟨zc_ao29, fun _ h => absurd h List.not_mem_nil⟩⟩⟩) (by decide +kernel)
/-- ClassFrames$State.allGoesAs .inr (.inr 23) .inr (.inr 25) -/
def zc_a101 : za_K := (128, 2, [.inr (.inr 23), .inr (.inr 25)], [(some (.inl (0, 0)), []), (some (.inl (1, 1)), [])], [])
set_option maxRecDepth 100000 in
theorem zc_ao101 : zb_K zp_P zc_H zc_a101 := zb_okK (KT := [zc_a100, zc_a91, zc_a99, zc_a29]) (CT := [(24, [(0, .inr (.inr 23)), (1, .inr (.inr 25)), (2, .inl (8, 14))], [], [((25, 1), 0, 6), ((23, 1), 0, 6)], 29, [(-2)])]) (g := 24) (List.forall_mem_cons.mpr ⟨zc_ao100, List.forall_mem_cons.mpr ⟨zc_ao91, List.forall_mem_cons.mpr ⟨zc_ao99, List.forall_mem_cons.mpr ⟨zc_ao29, fun _ h => absurd h List.not_mem_nil⟩⟩⟩⟩) (by decide +kernel)
/-- ClassFrames$Frames.frameAt .inr (.inr 10) .inl ((-2147483648), 2147483647) -/
def zc_a102 : za_K := (35, 0, [.inr (.inr 10), .inl ((-2147483648), 2147483647)], [(some (.inl ((-1), 59)), [((-2147483648), 2147483647)])], [])
set_option maxRecDepth 100000 in
theorem zc_ao102 : zb_K zp_P zc_H zc_a102 := zb_okK (KT := []) (CT := [(2, [(0, .inr (.inr 10)), (1, .inl ((-2147483648), 2147483647)), (2, .inl (0, 60))], [], [], 121, [0, (-2)])]) (g := 20) (fun _ h => absurd h List.not_mem_nil) (by decide +kernel)
/-- ClassFrames$State.setDepth .inr (.inr 23) .inl ((-2147483648), 2147483647) -/
def zc_a103 : za_K := (117, 1, [.inr (.inr 23), .inl ((-2147483648), 2147483647)], [(none, [((-2147483648), 2147483647)])], [(23, 1)])
set_option maxRecDepth 100000 in
theorem zc_ao103 : zb_K zp_P zc_H zc_a103 := zb_okK (KT := []) (CT := []) (g := 15) (fun _ h => absurd h List.not_mem_nil) (by decide +kernel)
/-- ClassFrames$State.setKind .inr (.inr 23) .inl (0, 13) .inl ((-2147483648), 2147483647) -/
def zc_a104 : za_K := (119, 0, [.inr (.inr 23), .inl (0, 13), .inl ((-2147483648), 2147483647)], [(none, [(0, 13), ((-2147483648), 2147483647)])], [(24, 0)])
set_option maxRecDepth 100000 in
theorem zc_ao104 : zb_K zp_P zc_H zc_a104 := zb_okK (KT := []) (CT := []) (g := 18) (fun _ h => absurd h List.not_mem_nil) (by decide +kernel)
/-- ClassFrames$Table.read .inr (.inr 11) .inl (0, 59) .inr (.inr 23) -/
def zc_a105 : za_K := (135, 2, [.inr (.inr 11), .inl (0, 59), .inr (.inr 23)], [(none, [(0, 59)])], [(23, 1), (24, 0)])
set_option maxRecDepth 100000 in
theorem zc_ao105 : zb_K zp_P zc_H zc_a105 := zb_okK (KT := [zc_a103, zc_a104]) (CT := [(23, [(0, .inr (.inr 11)), (1, .inl (0, 59)), (2, .inr (.inr 23)), (3, .inl (0, 14))], [], [], 29, [0, (-2)])]) (g := 24) (List.forall_mem_cons.mpr ⟨zc_ao103, List.forall_mem_cons.mpr ⟨zc_ao104, fun _ h => absurd h List.not_mem_nil⟩⟩) (by decide +kernel)
/-- ClassFrames$Frames.read .inr (.inr 10) .inl (0, 59) .inr (.inr 23) -/
def zc_a106 : za_K := (36, 3, [.inr (.inr 10), .inl (0, 59), .inr (.inr 23)], [(none, [(0, 59)])], [(23, 1), (24, 0)])
set_option maxRecDepth 100000 in
theorem zc_ao106 : zb_K zp_P zc_H zc_a106 := zb_okK (KT := [zc_a105]) (CT := []) (g := 13) (List.forall_mem_cons.mpr ⟨zc_ao105, fun _ h => absurd h List.not_mem_nil⟩) (by decide +kernel)
/-- ClassFrames$Judge.readFrame .inr (.inr 22) .inl (0, 59) .inr (.inr 23) -/
def zc_a107 : za_K := (45, 4, [.inr (.inr 22), .inl (0, 59), .inr (.inr 23)], [(some (.inl (0, 0)), [(0, 59)]), (some (.inl (1, 1)), [(0, 59)])], [(23, 1), (24, 0)])
set_option maxRecDepth 100000 in
theorem zc_ao107 : zb_K zp_P zc_H zc_a107 := zb_okK (KT := [zc_a106, zc_a102]) (CT := []) (g := 22) (List.forall_mem_cons.mpr ⟨zc_ao106, List.forall_mem_cons.mpr ⟨zc_ao102, fun _ h => absurd h List.not_mem_nil⟩⟩) (by decide +kernel)
/-- ClassFrames$Judge.readFrame .inr (.inr 22) .inl ((-2147483648), 2147483647) .inr (.inr 25) -/
def zc_a108 : za_K := (45, 4, [.inr (.inr 22), .inl ((-2147483648), 2147483647), .inr (.inr 25)], [(some (.inl (0, 0)), [((-2147483648), 2147483647)]), (some (.inl (1, 1)), [((-2147483648), 2147483647)])], [(25, 1), (26, 0)])
set_option maxRecDepth 100000 in
theorem zc_ao108 : zb_K zp_P zc_H zc_a108 := zb_okK (KT := [zc_a97, zc_a102]) (CT := []) (g := 22) (List.forall_mem_cons.mpr ⟨zc_ao97, List.forall_mem_cons.mpr ⟨zc_ao102, fun _ h => absurd h List.not_mem_nil⟩⟩) (by decide +kernel)
/-- ClassFrames$Judge.enters .inr (.inr 22) .inl (0, 59) .inl (0, 1) -/
def zc_a109 : za_K := (44, 5, [.inr (.inr 22), .inl (0, 59), .inl (0, 1)], [(some (.inl (0, 0)), [(0, 59), (0, 1)]), (some (.inl (1, 1)), [(0, 59), (0, 1)]), (some (.inl (0, 1)), [(0, 59), (0, 1)])], [(23, 1), (24, 0), (25, 1), (26, 0)])
set_option maxRecDepth 100000 in
theorem zc_ao109 : zb_K zp_P zc_H zc_a109 := zb_okK (KT := [zc_a101, zc_a107, zc_a108]) (CT := []) (g := 30) (List.forall_mem_cons.mpr ⟨zc_ao101, List.forall_mem_cons.mpr ⟨zc_ao107, List.forall_mem_cons.mpr ⟨zc_ao108, fun _ h => absurd h List.not_mem_nil⟩⟩⟩) (by decide +kernel)
/-- ClassFrames$State.depth .inr (.inr 25) -/
def zc_a110 : za_K := (116, 0, [.inr (.inr 25)], [(some (.inl (0, 6)), [])], [])
set_option maxRecDepth 100000 in
theorem zc_ao110 : zb_K zp_P zc_H zc_a110 := zb_okK (KT := []) (CT := []) (g := 10) (fun _ h => absurd h List.not_mem_nil) (by decide +kernel)
/-- ClassFrames$State.kindDown .inr (.inr 25) .inl (0, 0) -/
def zc_a111 : za_K := (120, 0, [.inr (.inr 25), .inl (0, 0)], [(some (.inl ((-2147483648), 2147483647)), [(0, 0)])], [])
set_option maxRecDepth 100000 in
theorem zc_ao111 : zb_K zp_P zc_H zc_a111 := zb_okK (KT := []) (CT := []) (g := 26) (fun _ h => absurd h List.not_mem_nil) (by decide +kernel)
/-- ClassFrames$Judge.isTaken .inr (.inr 22) .inl ((-2147483648), 2147483647) -/
def zc_a112 : za_K := (47, 2, [.inr (.inr 22), .inl ((-2147483648), 2147483647)], [(some (.inl (0, 0)), [((-2147483648), 2147483647)]), (some (.inl (1, 1)), [((-2147483648), 2147483647)])], [])
set_option maxRecDepth 100000 in
theorem zc_ao112 : zb_K zp_P zc_H zc_a112 := zb_okK (KT := [zc_a100, zc_a110, zc_a111, zc_a29]) (CT := []) (g := 28) (List.forall_mem_cons.mpr ⟨zc_ao100, List.forall_mem_cons.mpr ⟨zc_ao110, List.forall_mem_cons.mpr ⟨zc_ao111, List.forall_mem_cons.mpr ⟨zc_ao29, fun _ h => absurd h List.not_mem_nil⟩⟩⟩⟩) (by decide +kernel)
/-- ClassFrames$Judge.handlersHold .inr (.inr 22) .inl (0, 59) -/
def zc_a113 : za_K := (46, 5, [.inr (.inr 22), .inl (0, 59)], [(some (.inl (0, 0)), [(0, 59)]), (some (.inl (1, 1)), [(0, 59)])], [(25, 1), (26, 0)])
set_option maxRecDepth 100000 in
theorem zc_ao113 : zb_K zp_P zc_H zc_a113 := zb_okK (KT := [zc_a47, zc_a45, zc_a46, zc_a108, zc_a112, zc_a44]) (CT := [(2, [(0, .inr (.inr 22)), (1, .inl (0, 59)), (2, .inl (0, 6))], [], [], 13, [0, (-2)])]) (g := 37) (List.forall_mem_cons.mpr ⟨zc_ao47, List.forall_mem_cons.mpr ⟨zc_ao45, List.forall_mem_cons.mpr ⟨zc_ao46, List.forall_mem_cons.mpr ⟨zc_ao108, List.forall_mem_cons.mpr ⟨zc_ao112, List.forall_mem_cons.mpr ⟨zc_ao44, fun _ h => absurd h List.not_mem_nil⟩⟩⟩⟩⟩⟩) (by decide +kernel)
/-- ClassFrames$State.kindDown .inr (.inr 23) .inl (0, 1) -/
def zc_a114 : za_K := (120, 0, [.inr (.inr 23), .inl (0, 1)], [(some (.inl ((-2147483648), 2147483647)), [(0, 1)])], [])
set_option maxRecDepth 100000 in
theorem zc_ao114 : zb_K zp_P zc_H zc_a114 := zb_okK (KT := []) (CT := []) (g := 26) (fun _ h => absurd h List.not_mem_nil) (by decide +kernel)
/-- ClassFrames$State.drop .inr (.inr 23) .inl (1, 2) -/
def zc_a115 : za_K := (122, 0, [.inr (.inr 23), .inl (1, 2)], [(none, [(1, 2)])], [(23, 1)])
set_option maxRecDepth 100000 in
theorem zc_ao115 : zb_K zp_P zc_H zc_a115 := zb_okK (KT := []) (CT := []) (g := 19) (fun _ h => absurd h List.not_mem_nil) (by decide +kernel)
/-- ClassFrames$State.push .inr (.inr 23) .inl ((-2147483648), 2147483647) -/
def zc_a116 : za_K := (123, 1, [.inr (.inr 23), .inl ((-2147483648), 2147483647)], [(some (.inl (0, 3)), [((-2147483648), 2147483647)])], [(23, 1), (24, 0)])
set_option maxRecDepth 100000 in
theorem zc_ao116 : zb_K zp_P zc_H zc_a116 := zb_okK (KT := [zc_a104]) (CT := []) (g := 46) (List.forall_mem_cons.mpr ⟨zc_ao104, fun _ h => absurd h List.not_mem_nil⟩) (by decide +kernel)
/-- X1.exchange .inr (.inr 23) .inl ((-2147483648), 2147483647) .inl ((-2147483648), 2147483647) -/
def zc_a117 : za_K := (21, 2, [.inr (.inr 23), .inl ((-2147483648), 2147483647), .inl ((-2147483648), 2147483647)], [(some (.inl (0, 3)), [((-2147483648), 2147483647), ((-2147483648), 2147483647)])], [(23, 1), (24, 0)])
set_option maxRecDepth 100000 in
theorem zc_ao117 : zb_K zp_P zc_H zc_a117 := zb_okK (KT := [zc_a114, zc_a115, zc_a116, zc_a29]) (CT := [(31, [(0, .inr (.inr 23)), (1, .inl (0, 28)), (2, .inl ((-2147483648), 2147483647)), (3, .inl ((-2147483648), 2147483647)), (4, .inl (0, 4))], [], [], 9, [0, 0, 0, (-2)])]) (g := 44) (List.forall_mem_cons.mpr ⟨zc_ao114, List.forall_mem_cons.mpr ⟨zc_ao115, List.forall_mem_cons.mpr ⟨zc_ao116, List.forall_mem_cons.mpr ⟨zc_ao29, fun _ h => absurd h List.not_mem_nil⟩⟩⟩⟩) (by decide +kernel)
/-- X1.load .inr (.inr 23) .inl ((-2147483648), 2147483647) -/
def zc_a118 : za_K := (22, 2, [.inr (.inr 23), .inl ((-2147483648), 2147483647)], [(some (.inl (0, 4)), [((-2147483648), 2147483647)])], [(23, 1), (24, 0)])
set_option maxRecDepth 100000 in
theorem zc_ao118 : zb_K zp_P zc_H zc_a118 := zb_okK (KT := [zc_a99, zc_a116]) (CT := []) (g := 25) (List.forall_mem_cons.mpr ⟨zc_ao99, List.forall_mem_cons.mpr ⟨zc_ao116, fun _ h => absurd h List.not_mem_nil⟩⟩) (by decide +kernel)
/-- ClassFrames$State.store .inr (.inr 23) .inl ((-2147483648), 2147483647) .inl ((-2147483648), 2147483647) -/
def zc_a119 : za_K := (124, 0, [.inr (.inr 23), .inl ((-2147483648), 2147483647), .inl ((-2147483648), 2147483647)], [(some (.inl (0, 4)), [((-2147483648), 2147483647), ((-2147483648), 2147483647)])], [(24, 0)])
set_option maxRecDepth 100000 in
theorem zc_ao119 : zb_K zp_P zc_H zc_a119 := zb_okK (KT := []) (CT := []) (g := 72) (fun _ h => absurd h List.not_mem_nil) (by decide +kernel)
