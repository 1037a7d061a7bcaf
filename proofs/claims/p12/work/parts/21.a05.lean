/-! ===== 21: contracts, found kept (by program) ===== -/
/-- ClassFrames.told .inr (.inr 0) .inl ((-2147483648), 2147483647) -/
def zc_a200 : za_K := (150, 4, [.inr (.inr 0), .inl ((-2147483648), 2147483647)], [(some (.inr (.inl ())), [((-2147483648), 2147483647)])], [])
set_option maxRecDepth 100000 in
theorem zc_ao200 : zb_K zp_P zc_H zc_a200 := zb_okK (KT := [zc_a199]) (CT := []) (g := 12) (List.forall_mem_cons.mpr ⟨zc_ao199, fun _ h => absurd h List.not_mem_nil⟩) (by decide +kernel)
/-- ClassFrames$Maker.rounds .inr (.inr 16) -/
def zc_a201 : za_K := (79, 0, [.inr (.inr 16)], [(some (.inl (0, 3421)), [])], [])
set_option maxRecDepth 100000 in
theorem zc_ao201 : zb_K zp_P zc_H zc_a201 := zb_okK (KT := []) (CT := []) (g := 10) (fun _ h => absurd h List.not_mem_nil) (by decide +kernel)
/-- ClassFrames$Maker.deadPlaces .inr (.inr 16) -/
def zc_a202 : za_K := (84, 2, [.inr (.inr 16)], [(some (.inl ((-2147483648), 2147483647)), [])], [])
set_option maxRecDepth 100000 in
theorem zc_ao202 : zb_K zp_P zc_H zc_a202 := zb_okK (KT := [zc_a11, zc_a22]) (CT := [(4, [(0, .inr (.inr 16)), (1, .inl ((-2147483648), 2147483647)), (2, .inl (0, 60))], [], [], 121, [0, (-2)])]) (g := 20) (List.forall_mem_cons.mpr ⟨zc_ao11, List.forall_mem_cons.mpr ⟨zc_ao22, fun _ h => absurd h List.not_mem_nil⟩⟩) (by decide +kernel)
/-- ClassFrames.count .inr (.inr 0) .inl ((-2147483648), 2147483647) -/
def zc_a203 : za_K := (151, 3, [.inr (.inr 0), .inl ((-2147483648), 2147483647)], [(some (.inl ((-2147483648), 2147483647)), [((-2147483648), 2147483647)])], [])
set_option maxRecDepth 100000 in
theorem zc_ao203 : zb_K zp_P zc_H zc_a203 := zb_okK (KT := [zc_a9, zc_a11, zc_a47, zc_a70, zc_a145, zc_a201, zc_a202]) (CT := []) (g := 18) (List.forall_mem_cons.mpr ⟨zc_ao9, List.forall_mem_cons.mpr ⟨zc_ao11, List.forall_mem_cons.mpr ⟨zc_ao47, List.forall_mem_cons.mpr ⟨zc_ao70, List.forall_mem_cons.mpr ⟨zc_ao145, List.forall_mem_cons.mpr ⟨zc_ao201, List.forall_mem_cons.mpr ⟨zc_ao202, fun _ h => absurd h List.not_mem_nil⟩⟩⟩⟩⟩⟩⟩) (by decide +kernel)
/-- ClassFrames$Code.forget .inr (.inr 1) -/
def zc_a204 : za_K := (3, 0, [.inr (.inr 1)], [(none, [])], [(1, 3), (1, 8), (1, 10)])
set_option maxRecDepth 100000 in
theorem zc_ao204 : zb_K zp_P zc_H zc_a204 := zb_okK (KT := []) (CT := []) (g := 17) (fun _ h => absurd h List.not_mem_nil) (by decide +kernel)
/-- ClassFrames.clear .inr (.inr 0) -/
def zc_a205 : za_K := (152, 1, [.inr (.inr 0)], [(some (.inl (0, 60)), [])], [(1, 3), (1, 8), (1, 10), (16, 4)])
set_option maxRecDepth 100000 in
theorem zc_ao205 : zb_K zp_P zc_H zc_a205 := zb_okK (KT := [zc_a1, zc_a11, zc_a204]) (CT := []) (g := 19) (List.forall_mem_cons.mpr ⟨zc_ao1, List.forall_mem_cons.mpr ⟨zc_ao11, List.forall_mem_cons.mpr ⟨zc_ao204, fun _ h => absurd h List.not_mem_nil⟩⟩⟩) (by decide +kernel)
