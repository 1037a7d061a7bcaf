/-! ===== 21: contracts, found kept (by program) ===== -/
/-- ClassFrames$Machine.setValue .inr (.inr 34) .inl ((-2147483648), 2147483647) .inr (.inl ()) -/
def zc_a160 : za_K := (72, 0, [.inr (.inr 34), .inl ((-2147483648), 2147483647), .inr (.inl ())], [(none, [((-2147483648), 2147483647)])], [(38, 0)])
set_option maxRecDepth 100000 in
theorem zc_ao160 : zb_K zp_P zc_H zc_a160 := zb_okK (KT := []) (CT := []) (g := 18) (fun _ h => absurd h List.not_mem_nil) (by decide +kernel)
/-- ClassFrames$Machine.beginLocal .inr (.inr 34) .inl (0, 7) -/
def zc_a161 : za_K := (58, 1, [.inr (.inr 34), .inl (0, 7)], [(none, [(0, 7)])], [(37, 0), (38, 0), (41, 2), (42, 0), (43, 0)])
set_option maxRecDepth 100000 in
theorem zc_ao161 : zb_K zp_P zc_H zc_a161 := zb_okK (KT := [zc_a158, zc_a157, zc_a160, zc_a159]) (CT := []) (g := 52) (List.forall_mem_cons.mpr ⟨zc_ao158, List.forall_mem_cons.mpr ⟨zc_ao157, List.forall_mem_cons.mpr ⟨zc_ao160, List.forall_mem_cons.mpr ⟨zc_ao159, fun _ h => absurd h List.not_mem_nil⟩⟩⟩⟩) (by decide +kernel)
/-- ClassFrames$Machine.refuse .inr (.inr 34) .inl (1, 7) -/
def zc_a162 : za_K := (59, 0, [.inr (.inr 34), .inl (1, 7)], [(none, [(1, 7)])], [(34, 8), (34, 12)])
set_option maxRecDepth 100000 in
theorem zc_ao162 : zb_K zp_P zc_H zc_a162 := zb_okK (KT := []) (CT := []) (g := 14) (fun _ h => absurd h List.not_mem_nil) (by decide +kernel)
/-- ClassFrames$Machine.begin .inr (.inr 34) -/
def zc_a163 : za_K := (57, 2, [.inr (.inr 34)], [(none, [])], [(34, 7), (34, 8), (34, 9), (34, 10), (34, 11), (34, 12), (34, 13), (36, 1), (37, 0), (38, 0), (41, 2), (42, 0), (43, 0)])
set_option maxRecDepth 100000 in
theorem zc_ao163 : zb_K zp_P zc_H zc_a163 := zb_okK (KT := [zc_a11, zc_a155, zc_a156, zc_a162, zc_a161]) (CT := [(55, [(0, .inr (.inr 34)), (1, .inl (0, 8))], [], [((34, 12), 0, 0), ((34, 11), 2, 2), ((34, 10), 0, 0), ((34, 9), 0, 0), ((34, 8), 0, 0), ((34, 7), 1, 1)], 17, [(-2)])]) (g := 39) (List.forall_mem_cons.mpr ⟨zc_ao11, List.forall_mem_cons.mpr ⟨zc_ao155, List.forall_mem_cons.mpr ⟨zc_ao156, List.forall_mem_cons.mpr ⟨zc_ao162, List.forall_mem_cons.mpr ⟨zc_ao161, fun _ h => absurd h List.not_mem_nil⟩⟩⟩⟩⟩) (by decide +kernel)
/-- ClassFrames$State.kindDown .inr (.inr 36) .inl (0, 2) -/
def zc_a164 : za_K := (120, 0, [.inr (.inr 36), .inl (0, 2)], [(some (.inl ((-2147483648), 2147483647)), [(0, 2)])], [])
set_option maxRecDepth 100000 in
theorem zc_ao164 : zb_K zp_P zc_H zc_a164 := zb_okK (KT := []) (CT := []) (g := 26) (fun _ h => absurd h List.not_mem_nil) (by decide +kernel)
/-- ClassFrames$State.drop .inr (.inr 36) .inl (1, 2) -/
def zc_a165 : za_K := (122, 0, [.inr (.inr 36), .inl (1, 2)], [(none, [(1, 2)])], [(36, 1)])
set_option maxRecDepth 100000 in
theorem zc_ao165 : zb_K zp_P zc_H zc_a165 := zb_okK (KT := []) (CT := []) (g := 19) (fun _ h => absurd h List.not_mem_nil) (by decide +kernel)
/-- ClassFrames$State.push .inr (.inr 36) .inl ((-2147483648), 2147483647) -/
def zc_a166 : za_K := (123, 1, [.inr (.inr 36), .inl ((-2147483648), 2147483647)], [(some (.inl (0, 3)), [((-2147483648), 2147483647)])], [(36, 1), (37, 0)])
set_option maxRecDepth 100000 in
theorem zc_ao166 : zb_K zp_P zc_H zc_a166 := zb_okK (KT := [zc_a159]) (CT := []) (g := 46) (List.forall_mem_cons.mpr ⟨zc_ao159, fun _ h => absurd h List.not_mem_nil⟩) (by decide +kernel)
/-- X1.exchange .inr (.inr 36) .inl ((-2147483648), 2147483647) .inl ((-2147483648), 2147483647) -/
def zc_a167 : za_K := (21, 2, [.inr (.inr 36), .inl ((-2147483648), 2147483647), .inl ((-2147483648), 2147483647)], [(some (.inl (0, 3)), [((-2147483648), 2147483647), ((-2147483648), 2147483647)])], [(36, 1), (37, 0)])
set_option maxRecDepth 100000 in
theorem zc_ao167 : zb_K zp_P zc_H zc_a167 := zb_okK (KT := [zc_a165, zc_a164, zc_a166, zc_a29]) (CT := [(31, [(0, .inr (.inr 36)), (1, .inl (0, 28)), (2, .inl ((-2147483648), 2147483647)), (3, .inl ((-2147483648), 2147483647)), (4, .inl (0, 4))], [], [], 9, [0, 0, 0, (-2)])]) (g := 44) (List.forall_mem_cons.mpr ⟨zc_ao165, List.forall_mem_cons.mpr ⟨zc_ao164, List.forall_mem_cons.mpr ⟨zc_ao166, List.forall_mem_cons.mpr ⟨zc_ao29, fun _ h => absurd h List.not_mem_nil⟩⟩⟩⟩) (by decide +kernel)
/-- X1.load .inr (.inr 36) .inl ((-2147483648), 2147483647) -/
def zc_a168 : za_K := (22, 2, [.inr (.inr 36), .inl ((-2147483648), 2147483647)], [(some (.inl (0, 4)), [((-2147483648), 2147483647)])], [(36, 1), (37, 0)])
set_option maxRecDepth 100000 in
theorem zc_ao168 : zb_K zp_P zc_H zc_a168 := zb_okK (KT := [zc_a158, zc_a166]) (CT := []) (g := 25) (List.forall_mem_cons.mpr ⟨zc_ao158, List.forall_mem_cons.mpr ⟨zc_ao166, fun _ h => absurd h List.not_mem_nil⟩⟩) (by decide +kernel)
/-- ClassFrames$State.store .inr (.inr 36) .inl ((-2147483648), 2147483647) .inl ((-2147483648), 2147483647) -/
def zc_a169 : za_K := (124, 0, [.inr (.inr 36), .inl ((-2147483648), 2147483647), .inl ((-2147483648), 2147483647)], [(some (.inl (0, 4)), [((-2147483648), 2147483647), ((-2147483648), 2147483647)])], [(37, 0)])
set_option maxRecDepth 100000 in
theorem zc_ao169 : zb_K zp_P zc_H zc_a169 := zb_okK (KT := []) (CT := []) (g := 72) (fun _ h => absurd h List.not_mem_nil) (by decide +kernel)
/-- X1.store .inr (.inr 36) .inl ((-2147483648), 2147483647) -/
def zc_a170 : za_K := (23, 1, [.inr (.inr 36), .inl ((-2147483648), 2147483647)], [(some (.inl (0, 4)), [((-2147483648), 2147483647)])], [(36, 1), (37, 0)])
set_option maxRecDepth 100000 in
theorem zc_ao170 : zb_K zp_P zc_H zc_a170 := zb_okK (KT := [zc_a165, zc_a164, zc_a169]) (CT := []) (g := 32) (List.forall_mem_cons.mpr ⟨zc_ao165, List.forall_mem_cons.mpr ⟨zc_ao164, List.forall_mem_cons.mpr ⟨zc_ao169, fun _ h => absurd h List.not_mem_nil⟩⟩⟩) (by decide +kernel)
/-- X1.pop .inr (.inr 36) -/
def zc_a171 : za_K := (24, 1, [.inr (.inr 36)], [(some (.inl (0, 2)), [])], [(36, 1)])
set_option maxRecDepth 100000 in
theorem zc_ao171 : zb_K zp_P zc_H zc_a171 := zb_okK (KT := [zc_a165, zc_a164]) (CT := []) (g := 22) (List.forall_mem_cons.mpr ⟨zc_ao165, List.forall_mem_cons.mpr ⟨zc_ao164, fun _ h => absurd h List.not_mem_nil⟩⟩) (by decide +kernel)
/-- X1.popTwo .inr (.inr 36) -/
def zc_a172 : za_K := (25, 1, [.inr (.inr 36)], [(some (.inl (0, 2)), [])], [(36, 1)])
set_option maxRecDepth 100000 in
theorem zc_ao172 : zb_K zp_P zc_H zc_a172 := zb_okK (KT := [zc_a165, zc_a164]) (CT := []) (g := 22) (List.forall_mem_cons.mpr ⟨zc_ao165, List.forall_mem_cons.mpr ⟨zc_ao164, fun _ h => absurd h List.not_mem_nil⟩⟩) (by decide +kernel)
/-- X1.increase .inr (.inr 36) .inl ((-2147483648), 2147483647) -/
def zc_a173 : za_K := (26, 1, [.inr (.inr 36), .inl ((-2147483648), 2147483647)], [(some (.inl (0, 4)), [((-2147483648), 2147483647)])], [])
set_option maxRecDepth 100000 in
theorem zc_ao173 : zb_K zp_P zc_H zc_a173 := zb_okK (KT := [zc_a158]) (CT := []) (g := 20) (List.forall_mem_cons.mpr ⟨zc_ao158, fun _ h => absurd h List.not_mem_nil⟩) (by decide +kernel)
/-- X1.apply .inr (.inr 36) .inl ((-2147483648), 2147483647) .inl ((-2147483648), 2147483647) -/
def zc_a174 : za_K := (20, 3, [.inr (.inr 36), .inl ((-2147483648), 2147483647), .inl ((-2147483648), 2147483647)], [(some (.inl (0, 4)), [((-2147483648), 2147483647), ((-2147483648), 2147483647)])], [(36, 1), (37, 0)])
set_option maxRecDepth 100000 in
theorem zc_ao174 : zb_K zp_P zc_H zc_a174 := zb_okK (KT := [zc_a171, zc_a172, zc_a168, zc_a170, zc_a173, zc_a167]) (CT := []) (g := 14) (List.forall_mem_cons.mpr ⟨zc_ao171, List.forall_mem_cons.mpr ⟨zc_ao172, List.forall_mem_cons.mpr ⟨zc_ao168, List.forall_mem_cons.mpr ⟨zc_ao170, List.forall_mem_cons.mpr ⟨zc_ao173, List.forall_mem_cons.mpr ⟨zc_ao167, fun _ h => absurd h List.not_mem_nil⟩⟩⟩⟩⟩⟩) (by decide +kernel)
/-- ClassFrames$Machine.finish .inr (.inr 34) .inl (0, 1) -/
def zc_a175 : za_K := (60, 0, [.inr (.inr 34), .inl (0, 1)], [(none, [(0, 1)])], [(34, 8), (34, 11)])
set_option maxRecDepth 100000 in
theorem zc_ao175 : zb_K zp_P zc_H zc_a175 := zb_okK (KT := []) (CT := []) (g := 14) (fun _ h => absurd h List.not_mem_nil) (by decide +kernel)
/-- ClassFrames$State.depth .inr (.inr 36) -/
def zc_a176 : za_K := (116, 0, [.inr (.inr 36)], [(some (.inl (0, 6)), [])], [])
set_option maxRecDepth 100000 in
theorem zc_ao176 : zb_K zp_P zc_H zc_a176 := zb_okK (KT := []) (CT := []) (g := 10) (fun _ h => absurd h List.not_mem_nil) (by decide +kernel)
/-- ClassFrames$Machine.value .inr (.inr 34) .inl ((-2147483648), 2147483647) -/
def zc_a177 : za_K := (71, 0, [.inr (.inr 34), .inl ((-2147483648), 2147483647)], [(some (.inr (.inl ())), [((-2147483648), 2147483647)])], [])
set_option maxRecDepth 100000 in
theorem zc_ao177 : zb_K zp_P zc_H zc_a177 := zb_okK (KT := []) (CT := []) (g := 18) (fun _ h => absurd h List.not_mem_nil) (by decide +kernel)
/-- ClassFrames$Machine.look .inr (.inr 34) -/
def zc_a178 : za_K := (62, 1, [.inr (.inr 34)], [(none, [])], [(39, 0), (40, 0)])
set_option maxRecDepth 100000 in
theorem zc_ao178 : zb_K zp_P zc_H zc_a178 := zb_okK (KT := [zc_a176, zc_a164, zc_a177]) (CT := [(2, [(0, .inr (.inr 34)), (1, .inl (0, 3))], [], [], 7, [(-2)])]) (g := 36) (List.forall_mem_cons.mpr ⟨zc_ao176, List.forall_mem_cons.mpr ⟨zc_ao164, List.forall_mem_cons.mpr ⟨zc_ao177, fun _ h => absurd h List.not_mem_nil⟩⟩⟩) (by decide +kernel)
/-- ClassFrames$Rows.hasCell .inr (.inr 41) .inl ((-2147483648), 2147483647) .inl ((-2147483648), 2147483647) -/
def zc_a179 : za_K := (112, 0, [.inr (.inr 41), .inl ((-2147483648), 2147483647), .inl ((-2147483648), 2147483647)], [(some (.inl (0, 0)), [((-2147483648), 2147483647), ((-2147483648), 2147483647)]), (some (.inl (1, 1)), [(0, 157), (0, 19)])], [])
set_option maxRecDepth 100000 in
theorem zc_ao179 : zb_K zp_P zc_H zc_a179 := zb_okK (KT := []) (CT := []) (g := 24) (fun _ h => absurd h List.not_mem_nil) (by decide +kernel)
/-- ClassFrames$Machine.takenInt .inr (.inr 34) .inl (0, 2) -/
def zc_a180 : za_K := (63, 0, [.inr (.inr 34), .inl (0, 2)], [(some (.inl ((-2147483648), 2147483647)), [(0, 2)])], [])
set_option maxRecDepth 100000 in
theorem zc_ao180 : zb_K zp_P zc_H zc_a180 := zb_okK (KT := []) (CT := []) (g := 19) (fun _ h => absurd h List.not_mem_nil) (by decide +kernel)
/-- ClassFrames$Machine.refusalOf .inr (.inr 34) .inl ((-2147483648), 2147483647) .inl ((-2147483648), 2147483647) -/
def zc_a181 : za_K := (64, 1, [.inr (.inr 34), .inl ((-2147483648), 2147483647), .inl ((-2147483648), 2147483647)], [(some (.inl (0, 6)), [((-2147483648), 2147483647), ((-2147483648), 2147483647)])], [])
set_option maxRecDepth 100000 in
theorem zc_ao181 : zb_K zp_P zc_H zc_a181 := zb_okK (KT := [zc_a180, zc_a29, zc_a179]) (CT := []) (g := 28) (List.forall_mem_cons.mpr ⟨zc_ao180, List.forall_mem_cons.mpr ⟨zc_ao29, List.forall_mem_cons.mpr ⟨zc_ao179, fun _ h => absurd h List.not_mem_nil⟩⟩⟩) (by decide +kernel)
/-- ClassFrames$State.leaveAlone .inr (.inr 36) .inl ((-2147483648), 2147483647) -/
def zc_a182 : za_K := (121, 0, [.inr (.inr 36), .inl ((-2147483648), 2147483647)], [(none, [((-2147483648), 2147483647)])], [(36, 1), (37, 0)])
set_option maxRecDepth 100000 in
theorem zc_ao182 : zb_K zp_P zc_H zc_a182 := zb_okK (KT := []) (CT := []) (g := 16) (fun _ h => absurd h List.not_mem_nil) (by decide +kernel)
/-- ClassFrames$Code.taker .inr (.inr 1) .inl ((-2147483648), 2147483647) .inl ((-2147483648), 2147483647) -/
def zc_a183 : za_K := (18, 2, [.inr (.inr 1), .inl ((-2147483648), 2147483647), .inl ((-2147483648), 2147483647)], [(some (.inl ((-1), 5)), [((-2147483648), 2147483647), ((-2147483648), 2147483647)])], [])
set_option maxRecDepth 100000 in
theorem zc_ao183 : zb_K zp_P zc_H zc_a183 := zb_okK (KT := [zc_a46, zc_a44, zc_a29]) (CT := [(2, [(0, .inr (.inr 1)), (1, .inl ((-2147483648), 2147483647)), (2, .inl ((-2147483648), 2147483647)), (3, .inl (0, 6))], [], [], 13, [0, 0, (-2)])]) (g := 25) (List.forall_mem_cons.mpr ⟨zc_ao46, List.forall_mem_cons.mpr ⟨zc_ao44, List.forall_mem_cons.mpr ⟨zc_ao29, fun _ h => absurd h List.not_mem_nil⟩⟩⟩) (by decide +kernel)
/-- ClassFrames$Machine.goTo .inr (.inr 34) .inl ((-2147483648), 2147483647) -/
def zc_a184 : za_K := (70, 1, [.inr (.inr 34), .inl ((-2147483648), 2147483647)], [(none, [((-2147483648), 2147483647)])], [(34, 8), (34, 9), (34, 12)])
set_option maxRecDepth 100000 in
theorem zc_ao184 : zb_K zp_P zc_H zc_a184 := zb_okK (KT := [zc_a162, zc_a38]) (CT := []) (g := 17) (List.forall_mem_cons.mpr ⟨zc_ao162, List.forall_mem_cons.mpr ⟨zc_ao38, fun _ h => absurd h List.not_mem_nil⟩⟩) (by decide +kernel)
/-- ClassFrames$Machine.raise .inr (.inr 34) .inl ((-2147483648), 2147483647) .inr (.inl ()) -/
def zc_a185 : za_K := (65, 3, [.inr (.inr 34), .inl ((-2147483648), 2147483647), .inr (.inl ())], [(none, [((-2147483648), 2147483647)])], [(34, 8), (34, 9), (34, 11), (34, 12), (34, 13), (36, 1), (37, 0), (38, 0)])
set_option maxRecDepth 100000 in
theorem zc_ao185 : zb_K zp_P zc_H zc_a185 := zb_okK (KT := [zc_a175, zc_a45, zc_a160, zc_a182, zc_a184, zc_a183]) (CT := []) (g := 32) (List.forall_mem_cons.mpr ⟨zc_ao175, List.forall_mem_cons.mpr ⟨zc_ao45, List.forall_mem_cons.mpr ⟨zc_ao160, List.forall_mem_cons.mpr ⟨zc_ao182, List.forall_mem_cons.mpr ⟨zc_ao184, List.forall_mem_cons.mpr ⟨zc_ao183, fun _ h => absurd h List.not_mem_nil⟩⟩⟩⟩⟩⟩) (by decide +kernel)
/-- ClassFrames$Rows.lengthOf .inr (.inr 41) .inl ((-2147483648), 2147483647) -/
def zc_a186 : za_K := (111, 0, [.inr (.inr 41), .inl ((-2147483648), 2147483647)], [(some (.inl (0, 20)), [((-2147483648), 2147483647)])], [])
set_option maxRecDepth 100000 in
theorem zc_ao186 : zb_K zp_P zc_H zc_a186 := zb_okK (KT := []) (CT := []) (g := 19) (fun _ h => absurd h List.not_mem_nil) (by decide +kernel)
/-- ClassFrames$Rows.cell .inr (.inr 41) .inl ((-2147483648), 2147483647) .inl ((-2147483648), 2147483647) -/
def zc_a187 : za_K := (113, 1, [.inr (.inr 41), .inl ((-2147483648), 2147483647), .inl ((-2147483648), 2147483647)], [(some (.inl ((-2147483648), 2147483647)), [((-2147483648), 2147483647), ((-2147483648), 2147483647)])], [])
set_option maxRecDepth 100000 in
theorem zc_ao187 : zb_K zp_P zc_H zc_a187 := zb_okK (KT := [zc_a179]) (CT := []) (g := 22) (List.forall_mem_cons.mpr ⟨zc_ao179, fun _ h => absurd h List.not_mem_nil⟩) (by decide +kernel)
/-- ClassFrames$Rows.setCell .inr (.inr 41) .inl ((-2147483648), 2147483647) .inl ((-2147483648), 2147483647) .inl ((-2147483648), 2147483647) -/
def zc_a188 : za_K := (114, 1, [.inr (.inr 41), .inl ((-2147483648), 2147483647), .inl ((-2147483648), 2147483647), .inl ((-2147483648), 2147483647)], [(none, [((-2147483648), 2147483647), ((-2147483648), 2147483647), ((-2147483648), 2147483647)])], [(43, 0)])
set_option maxRecDepth 100000 in
theorem zc_ao188 : zb_K zp_P zc_H zc_a188 := zb_okK (KT := [zc_a179]) (CT := []) (g := 22) (List.forall_mem_cons.mpr ⟨zc_ao179, fun _ h => absurd h List.not_mem_nil⟩) (by decide +kernel)
/-- ClassFrames$Machine.leave .inr (.inr 34) .inr (.inl ()) -/
def zc_a189 : za_K := (68, 1, [.inr (.inr 34), .inr (.inl ())], [(none, [])], [(38, 0)])
set_option maxRecDepth 100000 in
theorem zc_ao189 : zb_K zp_P zc_H zc_a189 := zb_okK (KT := [zc_a176, zc_a160]) (CT := []) (g := 18) (List.forall_mem_cons.mpr ⟨zc_ao176, List.forall_mem_cons.mpr ⟨zc_ao160, fun _ h => absurd h List.not_mem_nil⟩⟩) (by decide +kernel)
/-- ClassFrames$Machine.reckon .inr (.inr 34) .inl ((-2147483648), 2147483647) -/
def zc_a190 : za_K := (67, 2, [.inr (.inr 34), .inl ((-2147483648), 2147483647)], [(none, [((-2147483648), 2147483647)])], [(38, 0), (43, 0)])
set_option maxRecDepth 100000 in
theorem zc_ao190 : zb_K zp_P zc_H zc_a190 := zb_okK (KT := [zc_a189, zc_a180, zc_a186, zc_a187, zc_a188]) (CT := []) (g := 25) (List.forall_mem_cons.mpr ⟨zc_ao189, List.forall_mem_cons.mpr ⟨zc_ao180, List.forall_mem_cons.mpr ⟨zc_ao186, List.forall_mem_cons.mpr ⟨zc_ao187, List.forall_mem_cons.mpr ⟨zc_ao188, fun _ h => absurd h List.not_mem_nil⟩⟩⟩⟩⟩) (by decide +kernel)
/-- ClassFrames$Machine.work .inr (.inr 34) .inl ((-2147483648), 2147483647) .inl ((-2147483648), 2147483647) -/
def zc_a191 : za_K := (66, 3, [.inr (.inr 34), .inl ((-2147483648), 2147483647), .inl ((-2147483648), 2147483647)], [(none, [((-2147483648), 2147483647), ((-2147483648), 2147483647)])], [(37, 0), (38, 0), (41, 2), (42, 0), (43, 0)])
set_option maxRecDepth 100000 in
theorem zc_ao191 : zb_K zp_P zc_H zc_a191 := zb_okK (KT := [zc_a176, zc_a189, zc_a180, zc_a56, zc_a157, zc_a160, zc_a177, zc_a190, zc_a159]) (CT := []) (g := 25) (List.forall_mem_cons.mpr ⟨zc_ao176, List.forall_mem_cons.mpr ⟨zc_ao189, List.forall_mem_cons.mpr ⟨zc_ao180, List.forall_mem_cons.mpr ⟨zc_ao56, List.forall_mem_cons.mpr ⟨zc_ao157, List.forall_mem_cons.mpr ⟨zc_ao160, List.forall_mem_cons.mpr ⟨zc_ao177, List.forall_mem_cons.mpr ⟨zc_ao190, List.forall_mem_cons.mpr ⟨zc_ao159, fun _ h => absurd h List.not_mem_nil⟩⟩⟩⟩⟩⟩⟩⟩⟩) (by decide +kernel)
/-- ClassFrames$Machine.goFrom .inr (.inr 34) .inl ((-2147483648), 2147483647) .inl ((-2147483648), 2147483647) -/
def zc_a192 : za_K := (69, 2, [.inr (.inr 34), .inl ((-2147483648), 2147483647), .inl ((-2147483648), 2147483647)], [(none, [((-2147483648), 2147483647), ((-2147483648), 2147483647)])], [(34, 8), (34, 9), (34, 12)])
set_option maxRecDepth 100000 in
theorem zc_ao192 : zb_K zp_P zc_H zc_a192 := zb_okK (KT := [zc_a180, zc_a162, zc_a38, zc_a56, zc_a184]) (CT := []) (g := 55) (List.forall_mem_cons.mpr ⟨zc_ao180, List.forall_mem_cons.mpr ⟨zc_ao162, List.forall_mem_cons.mpr ⟨zc_ao38, List.forall_mem_cons.mpr ⟨zc_ao56, List.forall_mem_cons.mpr ⟨zc_ao184, fun _ h => absurd h List.not_mem_nil⟩⟩⟩⟩⟩) (by decide +kernel)
/-- ClassFrames$Machine.step .inr (.inr 34) -/
def zc_a193 : za_K := (61, 4, [.inr (.inr 34)], [(none, [])], [(34, 8), (34, 9), (34, 11), (34, 12), (34, 13), (34, 14), (36, 1), (37, 0), (38, 0), (39, 0), (40, 0), (41, 2), (42, 0), (43, 0)])
set_option maxRecDepth 100000 in
theorem zc_ao193 : zb_K zp_P zc_H zc_a193 := zb_okK (KT := [zc_a178, zc_a175, zc_a162, zc_a39, zc_a40, zc_a185, zc_a174, zc_a181, zc_a191, zc_a192]) (CT := []) (g := 51) (List.forall_mem_cons.mpr ⟨zc_ao178, List.forall_mem_cons.mpr ⟨zc_ao175, List.forall_mem_cons.mpr ⟨zc_ao162, List.forall_mem_cons.mpr ⟨zc_ao39, List.forall_mem_cons.mpr ⟨zc_ao40, List.forall_mem_cons.mpr ⟨zc_ao185, List.forall_mem_cons.mpr ⟨zc_ao174, List.forall_mem_cons.mpr ⟨zc_ao181, List.forall_mem_cons.mpr ⟨zc_ao191, List.forall_mem_cons.mpr ⟨zc_ao192, fun _ h => absurd h List.not_mem_nil⟩⟩⟩⟩⟩⟩⟩⟩⟩⟩) (by decide +kernel)
/-- ClassFrames$Machine.go .inr (.inr 34) .inl (0, 300) -/
def zc_a194 : za_K := (56, 5, [.inr (.inr 34), .inl (0, 300)], [(none, [(0, 300)])], [(34, 7), (34, 8), (34, 9), (34, 10), (34, 11), (34, 12), (34, 13), (34, 14), (36, 1), (37, 0), (38, 0), (39, 0), (40, 0), (41, 2), (42, 0), (43, 0)])
set_option maxRecDepth 100000 in
theorem zc_ao194 : zb_K zp_P zc_H zc_a194 := zb_okK (KT := [zc_a163, zc_a193]) (CT := [(4, [(0, .inr (.inr 34)), (1, .inl (0, 300))], [], [((34, 10), 0, 300)], 601, [0, (-2)])]) (g := 24) (List.forall_mem_cons.mpr ⟨zc_ao163, List.forall_mem_cons.mpr ⟨zc_ao193, fun _ h => absurd h List.not_mem_nil⟩⟩) (by decide +kernel)
/-- ClassFrames.run .inr (.inr 0) .inl ((-2147483648), 2147483647) -/
def zc_a195 : za_K := (149, 6, [.inr (.inr 0), .inl ((-2147483648), 2147483647)], [(some (.inl ((-2147483648), 2147483647)), [((-2147483648), 2147483647)])], [(0, 6), (34, 7), (34, 8), (34, 9), (34, 10), (34, 11), (34, 12), (34, 13), (34, 14), (36, 1), (37, 0), (38, 0), (39, 0), (40, 0), (41, 2), (42, 0), (43, 0)])
set_option maxRecDepth 100000 in
theorem zc_ao195 : zb_K zp_P zc_H zc_a195 := zb_okK (KT := [zc_a151, zc_a152, zc_a153, zc_a154, zc_a194, zc_a8]) (CT := []) (g := 33) (List.forall_mem_cons.mpr ⟨zc_ao151, List.forall_mem_cons.mpr ⟨zc_ao152, List.forall_mem_cons.mpr ⟨zc_ao153, List.forall_mem_cons.mpr ⟨zc_ao154, List.forall_mem_cons.mpr ⟨zc_ao194, List.forall_mem_cons.mpr ⟨zc_ao8, fun _ h => absurd h List.not_mem_nil⟩⟩⟩⟩⟩⟩) (by decide +kernel)
/-- ClassFrames$Machine.hasReturned .inr (.inr 34) -/
def zc_a196 : za_K := (74, 0, [.inr (.inr 34)], [(some (.inl (0, 0)), []), (some (.inl (1, 1)), [])], [])
set_option maxRecDepth 100000 in
theorem zc_ao196 : zb_K zp_P zc_H zc_a196 := zb_okK (KT := []) (CT := []) (g := 16) (fun _ h => absurd h List.not_mem_nil) (by decide +kernel)
/-- ClassFrames$Machine.topmostKind .inr (.inr 34) -/
def zc_a197 : za_K := (75, 1, [.inr (.inr 34)], [(some (.inl ((-2147483648), 2147483647)), [])], [])
set_option maxRecDepth 100000 in
theorem zc_ao197 : zb_K zp_P zc_H zc_a197 := zb_okK (KT := [zc_a196, zc_a164]) (CT := []) (g := 22) (List.forall_mem_cons.mpr ⟨zc_ao196, List.forall_mem_cons.mpr ⟨zc_ao164, fun _ h => absurd h List.not_mem_nil⟩⟩) (by decide +kernel)
/-- ClassFrames$Machine.topmostNumber .inr (.inr 34) -/
def zc_a198 : za_K := (76, 2, [.inr (.inr 34)], [(some (.inr (.inl ())), [])], [])
set_option maxRecDepth 100000 in
theorem zc_ao198 : zb_K zp_P zc_H zc_a198 := zb_okK (KT := [zc_a176, zc_a197, zc_a177, zc_a186]) (CT := []) (g := 27) (List.forall_mem_cons.mpr ⟨zc_ao176, List.forall_mem_cons.mpr ⟨zc_ao197, List.forall_mem_cons.mpr ⟨zc_ao177, List.forall_mem_cons.mpr ⟨zc_ao186, fun _ h => absurd h List.not_mem_nil⟩⟩⟩⟩) (by decide +kernel)
/-- ClassFrames$Machine.tell .inr (.inr 34) .inl ((-2147483648), 2147483647) -/
def zc_a199 : za_K := (73, 3, [.inr (.inr 34), .inl ((-2147483648), 2147483647)], [(some (.inr (.inl ())), [((-2147483648), 2147483647)])], [])
set_option maxRecDepth 100000 in
theorem zc_ao199 : zb_K zp_P zc_H zc_a199 := zb_okK (KT := [zc_a197, zc_a198]) (CT := []) (g := 16) (List.forall_mem_cons.mpr ⟨zc_ao197, List.forall_mem_cons.mpr ⟨zc_ao198, fun _ h => absurd h List.not_mem_nil⟩⟩) (by decide +kernel)
