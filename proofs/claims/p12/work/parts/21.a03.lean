/-! ===== 21: contracts, found kept (by program) ===== -/
/-- X1.store .inr (.inr 23) .inl ((-2147483648), 2147483647) -/
def zc_a120 : za_K := (23, 1, [.inr (.inr 23), .inl ((-2147483648), 2147483647)], [(some (.inl (0, 4)), [((-2147483648), 2147483647)])], [(23, 1), (24, 0)])
set_option maxRecDepth 100000 in
theorem zc_ao120 : zb_K zp_P zc_H zc_a120 := zb_okK (KT := [zc_a114, zc_a115, zc_a119]) (CT := []) (g := 32) (List.forall_mem_cons.mpr ⟨zc_ao114, List.forall_mem_cons.mpr ⟨zc_ao115, List.forall_mem_cons.mpr ⟨zc_ao119, fun _ h => absurd h List.not_mem_nil⟩⟩⟩) (by decide +kernel)
/-- X1.pop .inr (.inr 23) -/
def zc_a121 : za_K := (24, 1, [.inr (.inr 23)], [(some (.inl (0, 2)), [])], [(23, 1)])
set_option maxRecDepth 100000 in
theorem zc_ao121 : zb_K zp_P zc_H zc_a121 := zb_okK (KT := [zc_a114, zc_a115]) (CT := []) (g := 22) (List.forall_mem_cons.mpr ⟨zc_ao114, List.forall_mem_cons.mpr ⟨zc_ao115, fun _ h => absurd h List.not_mem_nil⟩⟩) (by decide +kernel)
/-- X1.popTwo .inr (.inr 23) -/
def zc_a122 : za_K := (25, 1, [.inr (.inr 23)], [(some (.inl (0, 2)), [])], [(23, 1)])
set_option maxRecDepth 100000 in
theorem zc_ao122 : zb_K zp_P zc_H zc_a122 := zb_okK (KT := [zc_a114, zc_a115]) (CT := []) (g := 22) (List.forall_mem_cons.mpr ⟨zc_ao114, List.forall_mem_cons.mpr ⟨zc_ao115, fun _ h => absurd h List.not_mem_nil⟩⟩) (by decide +kernel)
/-- X1.increase .inr (.inr 23) .inl ((-2147483648), 2147483647) -/
def zc_a123 : za_K := (26, 1, [.inr (.inr 23), .inl ((-2147483648), 2147483647)], [(some (.inl (0, 4)), [((-2147483648), 2147483647)])], [])
set_option maxRecDepth 100000 in
theorem zc_ao123 : zb_K zp_P zc_H zc_a123 := zb_okK (KT := [zc_a99]) (CT := []) (g := 20) (List.forall_mem_cons.mpr ⟨zc_ao99, fun _ h => absurd h List.not_mem_nil⟩) (by decide +kernel)
/-- X1.apply .inr (.inr 23) .inl ((-2147483648), 2147483647) .inl ((-2147483648), 2147483647) -/
def zc_a124 : za_K := (20, 3, [.inr (.inr 23), .inl ((-2147483648), 2147483647), .inl ((-2147483648), 2147483647)], [(some (.inl (0, 4)), [((-2147483648), 2147483647), ((-2147483648), 2147483647)])], [(23, 1), (24, 0)])
set_option maxRecDepth 100000 in
theorem zc_ao124 : zb_K zp_P zc_H zc_a124 := zb_okK (KT := [zc_a121, zc_a122, zc_a118, zc_a120, zc_a123, zc_a117]) (CT := []) (g := 14) (List.forall_mem_cons.mpr ⟨zc_ao121, List.forall_mem_cons.mpr ⟨zc_ao122, List.forall_mem_cons.mpr ⟨zc_ao118, List.forall_mem_cons.mpr ⟨zc_ao120, List.forall_mem_cons.mpr ⟨zc_ao123, List.forall_mem_cons.mpr ⟨zc_ao117, fun _ h => absurd h List.not_mem_nil⟩⟩⟩⟩⟩⟩) (by decide +kernel)
/-- ClassFrames$Judge.leaves .inr (.inr 22) .inl (0, 59) -/
def zc_a125 : za_K := (48, 5, [.inr (.inr 22), .inl (0, 59)], [(some (.inl (0, 0)), [(0, 59)]), (some (.inl (1, 1)), [(0, 59)])], [(23, 1), (24, 0), (25, 1), (26, 0)])
set_option maxRecDepth 100000 in
theorem zc_ao125 : zb_K zp_P zc_H zc_a125 := zb_okK (KT := [zc_a101, zc_a55, zc_a57, zc_a39, zc_a40, zc_a108, zc_a124]) (CT := [(30, [(0, .inr (.inr 22)), (1, .inl (0, 59)), (2, .inl (0, 2))], [], [], 5, [0, (-2)])]) (g := 32) (List.forall_mem_cons.mpr ⟨zc_ao101, List.forall_mem_cons.mpr ⟨zc_ao55, List.forall_mem_cons.mpr ⟨zc_ao57, List.forall_mem_cons.mpr ⟨zc_ao39, List.forall_mem_cons.mpr ⟨zc_ao40, List.forall_mem_cons.mpr ⟨zc_ao108, List.forall_mem_cons.mpr ⟨zc_ao124, fun _ h => absurd h List.not_mem_nil⟩⟩⟩⟩⟩⟩⟩) (by decide +kernel)
/-- ClassFrames$Judge.firstRefused .inr (.inr 22) -/
def zc_a126 : za_K := (42, 6, [.inr (.inr 22)], [(some (.inl ((-2147483648), 2147483647)), [])], [(23, 1), (24, 0), (25, 1), (26, 0)])
set_option maxRecDepth 100000 in
theorem zc_ao126 : zb_K zp_P zc_H zc_a126 := zb_okK (KT := [zc_a11, zc_a90, zc_a98, zc_a22, zc_a54, zc_a113, zc_a125, zc_a109]) (CT := [(27, [(0, .inr (.inr 22)), (1, .inl ((-1), (-1))), (2, .inl (0, 1)), (3, .inl (0, 60))], [], [], 121, [0, 0, (-2)])]) (g := 45) (List.forall_mem_cons.mpr ⟨zc_ao11, List.forall_mem_cons.mpr ⟨zc_ao90, List.forall_mem_cons.mpr ⟨zc_ao98, List.forall_mem_cons.mpr ⟨zc_ao22, List.forall_mem_cons.mpr ⟨zc_ao54, List.forall_mem_cons.mpr ⟨zc_ao113, List.forall_mem_cons.mpr ⟨zc_ao125, List.forall_mem_cons.mpr ⟨zc_ao109, fun _ h => absurd h List.not_mem_nil⟩⟩⟩⟩⟩⟩⟩⟩) (by decide +kernel)
/-- ClassFrames.judge .inr (.inr 0) -/
def zc_a127 : za_K := (145, 7, [.inr (.inr 0)], [(some (.inl ((-2147483648), 2147483647)), [])], [(23, 1), (24, 0), (25, 1), (26, 0)])
set_option maxRecDepth 100000 in
theorem zc_ao127 : zb_K zp_P zc_H zc_a127 := zb_okK (KT := [zc_a70, zc_a126, zc_a8]) (CT := []) (g := 21) (List.forall_mem_cons.mpr ⟨zc_ao70, List.forall_mem_cons.mpr ⟨zc_ao126, List.forall_mem_cons.mpr ⟨zc_ao8, fun _ h => absurd h List.not_mem_nil⟩⟩⟩) (by decide +kernel)
/-- ClassFrames$State.kindOf .inr (.inr 28) .inl (0, 2147483647) -/
def zc_a128 : za_K := (118, 0, [.inr (.inr 28), .inl (0, 2147483647)], [(some (.inl ((-2147483648), 2147483647)), [(0, 2147483647)])], [])
set_option maxRecDepth 100000 in
theorem zc_ao128 : zb_K zp_P zc_H zc_a128 := zb_okK (KT := []) (CT := []) (g := 18) (fun _ h => absurd h List.not_mem_nil) (by decide +kernel)
/-- ClassFrames$Packer.gather .inr (.inr 27) .inl (0, 0) .inl ((-2147483648), 2147483647) .inr (.inr 32) -/
def zc_a129 : za_K := (101, 1, [.inr (.inr 27), .inl (0, 0), .inl ((-2147483648), 2147483647), .inr (.inr 32)], [(some (.inl (0, 8)), [(0, 0), ((-2147483648), 2147483647)])], [(32, 0)])
set_option maxRecDepth 100000 in
theorem zc_ao129 : zb_K zp_P zc_H zc_a129 := zb_okK (KT := [zc_a128]) (CT := [(6, [(0, .inr (.inr 27)), (1, .inl (0, 0)), (2, .inl ((-2147483648), 2147483647)), (3, .inr (.inr 32)), (4, .inl (0, 8)), (5, .inl (0, 2147483647))], [], [], 4294967295, [0, 0, 0, (-2)])]) (g := 48) (List.forall_mem_cons.mpr ⟨zc_ao128, fun _ h => absurd h List.not_mem_nil⟩) (by decide +kernel)
/-- ClassFrames$Packer.gather .inr (.inr 27) .inl (8, 8) .inl (0, 6) .inr (.inr 33) -/
def zc_a130 : za_K := (101, 1, [.inr (.inr 27), .inl (8, 8), .inl (0, 6), .inr (.inr 33)], [(some (.inl (0, 6)), [(8, 8), (0, 6)])], [(33, 0)])
set_option maxRecDepth 100000 in
theorem zc_ao130 : zb_K zp_P zc_H zc_a130 := zb_okK (KT := [zc_a128]) (CT := [(6, [(0, .inr (.inr 27)), (1, .inl (8, 8)), (2, .inl (0, 6)), (3, .inr (.inr 33)), (4, .inl (0, 6)), (5, .inl (8, 14))], [], [], 29, [0, 0, 0, (-2)])]) (g := 48) (List.forall_mem_cons.mpr ⟨zc_ao128, fun _ h => absurd h List.not_mem_nil⟩) (by decide +kernel)
/-- ClassFrames$State.depth .inr (.inr 28) -/
def zc_a131 : za_K := (116, 0, [.inr (.inr 28)], [(some (.inl (0, 6)), [])], [])
set_option maxRecDepth 100000 in
theorem zc_ao131 : zb_K zp_P zc_H zc_a131 := zb_okK (KT := []) (CT := []) (g := 10) (fun _ h => absurd h List.not_mem_nil) (by decide +kernel)
/-- ClassFrames$State.setDepth .inr (.inr 28) .inl ((-2147483648), 2147483647) -/
def zc_a132 : za_K := (117, 1, [.inr (.inr 28), .inl ((-2147483648), 2147483647)], [(none, [((-2147483648), 2147483647)])], [(28, 1)])
set_option maxRecDepth 100000 in
theorem zc_ao132 : zb_K zp_P zc_H zc_a132 := zb_okK (KT := []) (CT := []) (g := 15) (fun _ h => absurd h List.not_mem_nil) (by decide +kernel)
/-- ClassFrames$State.setKind .inr (.inr 28) .inl (0, 13) .inl ((-2147483648), 2147483647) -/
def zc_a133 : za_K := (119, 0, [.inr (.inr 28), .inl (0, 13), .inl ((-2147483648), 2147483647)], [(none, [(0, 13), ((-2147483648), 2147483647)])], [(29, 0)])
set_option maxRecDepth 100000 in
theorem zc_ao133 : zb_K zp_P zc_H zc_a133 := zb_okK (KT := []) (CT := []) (g := 18) (fun _ h => absurd h List.not_mem_nil) (by decide +kernel)
/-- ClassFrames$Table.read .inr (.inr 11) .inl (0, 59) .inr (.inr 28) -/
def zc_a134 : za_K := (135, 2, [.inr (.inr 11), .inl (0, 59), .inr (.inr 28)], [(none, [(0, 59)])], [(28, 1), (29, 0)])
set_option maxRecDepth 100000 in
theorem zc_ao134 : zb_K zp_P zc_H zc_a134 := zb_okK (KT := [zc_a132, zc_a133]) (CT := [(23, [(0, .inr (.inr 11)), (1, .inl (0, 59)), (2, .inr (.inr 28)), (3, .inl (0, 14))], [], [], 29, [0, (-2)])]) (g := 24) (List.forall_mem_cons.mpr ⟨zc_ao132, List.forall_mem_cons.mpr ⟨zc_ao133, fun _ h => absurd h List.not_mem_nil⟩⟩) (by decide +kernel)
/-- ClassFrames$Frames.read .inr (.inr 10) .inl (0, 59) .inr (.inr 28) -/
def zc_a135 : za_K := (36, 3, [.inr (.inr 10), .inl (0, 59), .inr (.inr 28)], [(none, [(0, 59)])], [(28, 1), (29, 0)])
set_option maxRecDepth 100000 in
theorem zc_ao135 : zb_K zp_P zc_H zc_a135 := zb_okK (KT := [zc_a134]) (CT := []) (g := 13) (List.forall_mem_cons.mpr ⟨zc_ao134, fun _ h => absurd h List.not_mem_nil⟩) (by decide +kernel)
/-- ClassFrames$Packer.gatherFrame .inr (.inr 27) .inl (0, 59) -/
def zc_a136 : za_K := (100, 4, [.inr (.inr 27), .inl (0, 59)], [(none, [(0, 59)])], [(27, 8), (27, 10), (28, 1), (29, 0), (32, 0), (33, 0)])
set_option maxRecDepth 100000 in
theorem zc_ao136 : zb_K zp_P zc_H zc_a136 := zb_okK (KT := [zc_a131, zc_a130, zc_a135, zc_a77, zc_a129]) (CT := []) (g := 35) (List.forall_mem_cons.mpr ⟨zc_ao131, List.forall_mem_cons.mpr ⟨zc_ao130, List.forall_mem_cons.mpr ⟨zc_ao135, List.forall_mem_cons.mpr ⟨zc_ao77, List.forall_mem_cons.mpr ⟨zc_ao129, fun _ h => absurd h List.not_mem_nil⟩⟩⟩⟩⟩) (by decide +kernel)
/-- ClassFrames$Packer.keepAhead .inr (.inr 27) -/
def zc_a137 : za_K := (102, 0, [.inr (.inr 27)], [(none, [])], [(27, 6), (31, 0)])
set_option maxRecDepth 100000 in
theorem zc_ao137 : zb_K zp_P zc_H zc_a137 := zb_okK (KT := []) (CT := [(10, [(0, .inr (.inr 27)), (1, .inl (0, 8))], [], [((27, 6), 0, 8), ((27, 8), 0, 8)], 17, [(-2)])]) (g := 21) (fun _ h => absurd h List.not_mem_nil) (by decide +kernel)
/-- ClassFrames$Packer.startsAlike .inr (.inr 27) -/
def zc_a138 : za_K := (104, 0, [.inr (.inr 27)], [(some (.inl (0, 0)), []), (some (.inl (1, 1)), [])], [])
set_option maxRecDepth 100000 in
theorem zc_ao138 : zb_K zp_P zc_H zc_a138 := zb_okK (KT := []) (CT := [(2, [(0, .inr (.inr 27)), (1, .inl (0, 8))], [], [], 17, [(-2)])]) (g := 30) (fun _ h => absurd h List.not_mem_nil) (by decide +kernel)
/-- ClassFrames$Packer.write .inr (.inr 27) .inl ((-2147483648), 2147483647) -/
def zc_a139 : za_K := (108, 0, [.inr (.inr 27), .inl ((-2147483648), 2147483647)], [(none, [((-2147483648), 2147483647)])], [(27, 4), (30, 0)])
set_option maxRecDepth 100000 in
theorem zc_ao139 : zb_K zp_P zc_H zc_a139 := zb_okK (KT := []) (CT := []) (g := 23) (fun _ h => absurd h List.not_mem_nil) (by decide +kernel)
/-- ClassFrames$Packer.writeEntry .inr (.inr 27) .inl ((-2147483648), 2147483647) -/
def zc_a140 : za_K := (107, 1, [.inr (.inr 27), .inl ((-2147483648), 2147483647)], [(none, [((-2147483648), 2147483647)])], [(27, 4), (30, 0)])
set_option maxRecDepth 100000 in
theorem zc_ao140 : zb_K zp_P zc_H zc_a140 := zb_okK (KT := [zc_a139]) (CT := []) (g := 19) (List.forall_mem_cons.mpr ⟨zc_ao139, fun _ h => absurd h List.not_mem_nil⟩) (by decide +kernel)
/-- ClassFrames$Packer.writeEntries .inr (.inr 27) .inr (.inr 32) .inl (0, 8) .inl (0, 8) -/
def zc_a141 : za_K := (106, 2, [.inr (.inr 27), .inr (.inr 32), .inl (0, 8), .inl (0, 8)], [(none, [(0, 8), (0, 8)])], [(27, 4), (30, 0)])
set_option maxRecDepth 100000 in
theorem zc_ao141 : zb_K zp_P zc_H zc_a141 := zb_okK (KT := [zc_a140]) (CT := [(3, [(0, .inr (.inr 27)), (1, .inr (.inr 32)), (2, .inl (0, 8)), (3, .inl (0, 8)), (4, .inl (0, 8))], [], [], 17, [0, 0, (-2)])]) (g := 24) (List.forall_mem_cons.mpr ⟨zc_ao140, fun _ h => absurd h List.not_mem_nil⟩) (by decide +kernel)
/-- ClassFrames$Packer.writeEntries .inr (.inr 27) .inr (.inr 33) .inl (0, 0) .inl (0, 6) -/
def zc_a142 : za_K := (106, 2, [.inr (.inr 27), .inr (.inr 33), .inl (0, 0), .inl (0, 6)], [(none, [(0, 0), (0, 6)])], [(27, 4), (30, 0)])
set_option maxRecDepth 100000 in
theorem zc_ao142 : zb_K zp_P zc_H zc_a142 := zb_okK (KT := [zc_a140]) (CT := [(3, [(0, .inr (.inr 27)), (1, .inr (.inr 33)), (2, .inl (0, 0)), (3, .inl (0, 6)), (4, .inl (0, 6))], [], [], 13, [0, 0, (-2)])]) (g := 24) (List.forall_mem_cons.mpr ⟨zc_ao140, fun _ h => absurd h List.not_mem_nil⟩) (by decide +kernel)
/-- ClassFrames$Packer.packWhole .inr (.inr 27) .inl ((-2147483648), 2147483647) -/
def zc_a143 : za_K := (105, 3, [.inr (.inr 27), .inl ((-2147483648), 2147483647)], [(none, [((-2147483648), 2147483647)])], [(27, 4), (30, 0)])
set_option maxRecDepth 100000 in
theorem zc_ao143 : zb_K zp_P zc_H zc_a143 := zb_okK (KT := [zc_a142, zc_a141, zc_a139]) (CT := []) (g := 45) (List.forall_mem_cons.mpr ⟨zc_ao142, List.forall_mem_cons.mpr ⟨zc_ao141, List.forall_mem_cons.mpr ⟨zc_ao139, fun _ h => absurd h List.not_mem_nil⟩⟩⟩) (by decide +kernel)
/-- ClassFrames$Packer.packFrame .inr (.inr 27) .inl ((-2147483648), 2147483647) -/
def zc_a144 : za_K := (103, 4, [.inr (.inr 27), .inl ((-2147483648), 2147483647)], [(none, [((-2147483648), 2147483647)])], [(27, 4), (30, 0)])
set_option maxRecDepth 100000 in
theorem zc_ao144 : zb_K zp_P zc_H zc_a144 := zb_okK (KT := [zc_a138, zc_a142, zc_a141, zc_a139, zc_a143]) (CT := []) (g := 56) (List.forall_mem_cons.mpr ⟨zc_ao138, List.forall_mem_cons.mpr ⟨zc_ao142, List.forall_mem_cons.mpr ⟨zc_ao141, List.forall_mem_cons.mpr ⟨zc_ao139, List.forall_mem_cons.mpr ⟨zc_ao143, fun _ h => absurd h List.not_mem_nil⟩⟩⟩⟩⟩) (by decide +kernel)
/-- ClassFrames$Code.filledLocals .inr (.inr 1) -/
def zc_a145 : za_K := (6, 0, [.inr (.inr 1)], [(some (.inl (0, 8)), [])], [])
set_option maxRecDepth 100000 in
theorem zc_ao145 : zb_K zp_P zc_H zc_a145 := zb_okK (KT := []) (CT := []) (g := 10) (fun _ h => absurd h List.not_mem_nil) (by decide +kernel)
/-- ClassFrames$Packer.gatherParameters .inr (.inr 27) -/
def zc_a146 : za_K := (99, 1, [.inr (.inr 27)], [(none, [])], [(27, 6), (31, 0)])
set_option maxRecDepth 100000 in
theorem zc_ao146 : zb_K zp_P zc_H zc_a146 := zb_okK (KT := [zc_a145, zc_a12]) (CT := [(7, [(0, .inr (.inr 27)), (1, .inl (0, 8))], [], [((27, 6), 0, 8)], 17, [(-2)])]) (g := 39) (List.forall_mem_cons.mpr ⟨zc_ao145, List.forall_mem_cons.mpr ⟨zc_ao12, fun _ h => absurd h List.not_mem_nil⟩⟩) (by decide +kernel)
/-- ClassFrames$Packer.pack .inr (.inr 27) -/
def zc_a147 : za_K := (98, 5, [.inr (.inr 27)], [(some (.inl (0, 2940)), [])], [(27, 4), (27, 6), (27, 8), (27, 10), (28, 1), (29, 0), (30, 0), (31, 0), (32, 0), (33, 0)])
set_option maxRecDepth 100000 in
theorem zc_ao147 : zb_K zp_P zc_H zc_a147 := zb_okK (KT := [zc_a9, zc_a137, zc_a146, zc_a76, zc_a136, zc_a144]) (CT := [(13, [(0, .inr (.inr 27)), (1, .inl ((-2147483648), 2147483647)), (2, .inl (0, 60))], [], [], 121, [0, (-2)])]) (g := 35) (List.forall_mem_cons.mpr ⟨zc_ao9, List.forall_mem_cons.mpr ⟨zc_ao137, List.forall_mem_cons.mpr ⟨zc_ao146, List.forall_mem_cons.mpr ⟨zc_ao76, List.forall_mem_cons.mpr ⟨zc_ao136, List.forall_mem_cons.mpr ⟨zc_ao144, fun _ h => absurd h List.not_mem_nil⟩⟩⟩⟩⟩⟩) (by decide +kernel)
/-- ClassFrames.packed .inr (.inr 0) -/
def zc_a148 : za_K := (146, 6, [.inr (.inr 0)], [(some (.inl ((-3), 2940)), [])], [(27, 4), (27, 6), (27, 8), (27, 10), (28, 1), (29, 0), (30, 0), (31, 0), (32, 0), (33, 0)])
set_option maxRecDepth 100000 in
theorem zc_ao148 : zb_K zp_P zc_H zc_a148 := zb_okK (KT := [zc_a70, zc_a147]) (CT := []) (g := 16) (List.forall_mem_cons.mpr ⟨zc_ao70, List.forall_mem_cons.mpr ⟨zc_ao147, fun _ h => absurd h List.not_mem_nil⟩⟩) (by decide +kernel)
/-- ClassFrames$Machine.changeArgument .inr (.inr 34) .inl ((-2147483648), 2147483647) .inr (.inl ()) -/
def zc_a149 : za_K := (51, 0, [.inr (.inr 34), .inl ((-2147483648), 2147483647), .inr (.inl ())], [(some (.inr (.inl ())), [((-2147483648), 2147483647)])], [(35, 0)])
set_option maxRecDepth 100000 in
theorem zc_ao149 : zb_K zp_P zc_H zc_a149 := zb_okK (KT := []) (CT := []) (g := 24) (fun _ h => absurd h List.not_mem_nil) (by decide +kernel)
/-- ClassFrames.argument .inr (.inr 0) .inl ((-2147483648), 2147483647) .inr (.inl ()) -/
def zc_a150 : za_K := (148, 1, [.inr (.inr 0), .inl ((-2147483648), 2147483647), .inr (.inl ())], [(some (.inr (.inl ())), [((-2147483648), 2147483647)])], [(35, 0)])
set_option maxRecDepth 100000 in
theorem zc_ao150 : zb_K zp_P zc_H zc_a150 := zb_okK (KT := [zc_a149]) (CT := []) (g := 13) (List.forall_mem_cons.mpr ⟨zc_ao149, fun _ h => absurd h List.not_mem_nil⟩) (by decide +kernel)
/-- ClassFrames$Machine.isFull .inr (.inr 34) -/
def zc_a151 : za_K := (52, 0, [.inr (.inr 34)], [(some (.inl (0, 0)), []), (some (.inl (1, 1)), [])], [])
set_option maxRecDepth 100000 in
theorem zc_ao151 : zb_K zp_P zc_H zc_a151 := zb_okK (KT := []) (CT := []) (g := 14) (fun _ h => absurd h List.not_mem_nil) (by decide +kernel)
/-- ClassFrames$Machine.outcome .inr (.inr 34) -/
def zc_a152 : za_K := (53, 0, [.inr (.inr 34)], [(some (.inl ((-2147483648), 2147483647)), [])], [])
set_option maxRecDepth 100000 in
theorem zc_ao152 : zb_K zp_P zc_H zc_a152 := zb_okK (KT := []) (CT := []) (g := 10) (fun _ h => absurd h List.not_mem_nil) (by decide +kernel)
/-- ClassFrames$Machine.codeFault .inr (.inr 34) -/
def zc_a153 : za_K := (54, 0, [.inr (.inr 34)], [(some (.inl ((-2147483648), 2147483647)), [])], [])
set_option maxRecDepth 100000 in
theorem zc_ao153 : zb_K zp_P zc_H zc_a153 := zb_okK (KT := []) (CT := []) (g := 10) (fun _ h => absurd h List.not_mem_nil) (by decide +kernel)
/-- ClassFrames$Machine.endPlace .inr (.inr 34) -/
def zc_a154 : za_K := (55, 0, [.inr (.inr 34)], [(some (.inl ((-2147483648), 2147483647)), [])], [])
set_option maxRecDepth 100000 in
theorem zc_ao154 : zb_K zp_P zc_H zc_a154 := zb_okK (KT := []) (CT := []) (g := 10) (fun _ h => absurd h List.not_mem_nil) (by decide +kernel)
/-- ClassFrames$Rows.forget .inr (.inr 41) -/
def zc_a155 : za_K := (109, 0, [.inr (.inr 41)], [(none, [])], [(41, 2)])
set_option maxRecDepth 100000 in
theorem zc_ao155 : zb_K zp_P zc_H zc_a155 := zb_okK (KT := []) (CT := []) (g := 11) (fun _ h => absurd h List.not_mem_nil) (by decide +kernel)
/-- ClassFrames$State.begin .inr (.inr 36) .inr (.inr 1) -/
def zc_a156 : za_K := (115, 1, [.inr (.inr 36), .inr (.inr 1)], [(none, [])], [(36, 1), (37, 0)])
set_option maxRecDepth 100000 in
theorem zc_ao156 : zb_K zp_P zc_H zc_a156 := zb_okK (KT := [zc_a12]) (CT := [(2, [(0, .inr (.inr 36)), (1, .inr (.inr 1)), (2, .inl (0, 8))], [], [], 17, [(-2)])]) (g := 20) (List.forall_mem_cons.mpr ⟨zc_ao12, fun _ h => absurd h List.not_mem_nil⟩) (by decide +kernel)
/-- ClassFrames$Rows.add .inr (.inr 41) .inl ((-2147483648), 2147483647) -/
def zc_a157 : za_K := (110, 0, [.inr (.inr 41), .inl ((-2147483648), 2147483647)], [(some (.inl ((-1), 157)), [((-2147483648), 2147483647)])], [(41, 2), (42, 0), (43, 0)])
set_option maxRecDepth 100000 in
theorem zc_ao157 : zb_K zp_P zc_H zc_a157 := zb_okK (KT := []) (CT := [(34, [(0, .inr (.inr 41)), (1, .inl (0, 20)), (2, .inl (0, 20))], [], [((41, 2), 0, 157)], 41, [0, (-2)])]) (g := 25) (fun _ h => absurd h List.not_mem_nil) (by decide +kernel)
/-- ClassFrames$State.kindOf .inr (.inr 36) .inl (0, 7) -/
def zc_a158 : za_K := (118, 0, [.inr (.inr 36), .inl (0, 7)], [(some (.inl ((-2147483648), 2147483647)), [(0, 7)])], [])
set_option maxRecDepth 100000 in
theorem zc_ao158 : zb_K zp_P zc_H zc_a158 := zb_okK (KT := []) (CT := []) (g := 18) (fun _ h => absurd h List.not_mem_nil) (by decide +kernel)
/-- ClassFrames$State.setKind .inr (.inr 36) .inl (0, 13) .inl ((-2147483648), 2147483647) -/
def zc_a159 : za_K := (119, 0, [.inr (.inr 36), .inl (0, 13), .inl ((-2147483648), 2147483647)], [(none, [(0, 13), ((-2147483648), 2147483647)])], [(37, 0)])
set_option maxRecDepth 100000 in
theorem zc_ao159 : zb_K zp_P zc_H zc_a159 := zb_okK (KT := []) (CT := []) (g := 18) (fun _ h => absurd h List.not_mem_nil) (by decide +kernel)
