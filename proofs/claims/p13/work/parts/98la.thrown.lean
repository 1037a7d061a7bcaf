/-! ===== 98la: thrown, and what the helper told ===== -/
theorem zm_thrownX {h : zx_H} (hI : zb_I zc_H h) : zx_T zp_P 0 zp_m222 0 (lv_args 0 [.ref 44]) [] h (zr_P h (fun e => e = zv_i h 0)) := by
  refine zx_T.l (i := .aload_n 0) (k := 1) (v := .ref 44) (pc := 0) rfl rfl rfl ?_
  refine zr_gi (k := 0) (lo := (-2147483648)) (hi := 2147483647) (e := zv_i h 0) (pc := 1) rfl rfl rfl hI rfl (fun g1a g1b => ?_)
  exact zr_ir (x := zv_i h 0) (pc := 4) rfl rfl rfl ⟨rfl, _, rfl, rfl⟩
theorem zn_K13 {h u : zx_H} {x : Int} {r : Int32} (w : zb_W [(73, 0)] h u) (k : (r.toInt = 0 ∧ ¬ (x < 0 ∨ zv_f h 27 4 ≤ x) ∧ zv_b u 73 0 = zv_a h 30 x) ∨ (r.toInt = 1 ∧ (x < 0 ∨ zv_f h 27 4 ≤ x))) : (r.toInt = 0 ∧ ¬ (x < 0 ∨ zv_f u 27 4 ≤ x) ∧ zv_b u 73 0 = zv_a u 30 x) ∨ (r.toInt = 1 ∧ (x < 0 ∨ zv_f u 27 4 ≤ x)) := by
  rw [zv_wf (a := 27) (k := 4) w rfl, zv_wa (a := 30) w rfl]
  exact k
