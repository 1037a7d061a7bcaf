/-! ===== 21: contracts, found kept (by program) ===== -/
/-- ClassFramesModel.fault .inr (.inr 44) -/
def zc_b0 : za_K := (199, 0, [.inr (.inr 44)], [(some (.inl ((-2147483648), 2147483647)), [])], [(44, 0)])
set_option maxRecDepth 100000 in
theorem zc_bo0 : zb_K zp_P zc_H zc_b0 := zb_okK (KT := []) (CT := []) (g := 13) (fun _ h => absurd h List.not_mem_nil) (by decide +kernel)
/-- ClassFramesModel.told .inr (.inr 44) .inl ((-2147483648), 2147483647) -/
def zc_b1 : za_K := (218, 0, [.inr (.inr 44), .inl ((-2147483648), 2147483647)], [(some (.inr (.inl ())), [((-2147483648), 2147483647)])], [(44, 0)])
set_option maxRecDepth 100000 in
theorem zc_bo1 : zb_K zp_P zc_H zc_b1 := zb_okK (KT := []) (CT := []) (g := 32) (fun _ h => absurd h List.not_mem_nil) (by decide +kernel)
/-- ClassFramesModel.clear .inr (.inr 44) -/
def zc_b2 : za_K := (220, 0, [.inr (.inr 44)], [(some (.inl ((-2147483648), 2147483647)), [])], [(44, 0), (44, 1), (44, 5), (44, 10), (44, 13)])
set_option maxRecDepth 100000 in
theorem zc_bo2 : zb_K zp_P zc_H zc_b2 := zb_okK (KT := []) (CT := []) (g := 27) (fun _ h => absurd h List.not_mem_nil) (by decide +kernel)
