/-! ===== 08: links; the whole ===== -/
set_option maxRecDepth 100000 in
theorem zp_ms_ok : ∀ q ∈ zp_ms, zx_mok zp_P zp_G zp_cl q := List.forall_mem_cons.mpr ⟨zp_k0, List.forall_mem_cons.mpr ⟨zp_k1, List.forall_mem_cons.mpr ⟨zp_k2, List.forall_mem_cons.mpr ⟨zp_k3, List.forall_mem_cons.mpr ⟨zp_k4, List.forall_mem_cons.mpr ⟨zp_k5, List.forall_mem_cons.mpr ⟨zp_k6, List.forall_mem_cons.mpr ⟨zp_k7, List.forall_mem_cons.mpr ⟨zp_k8, List.forall_mem_cons.mpr ⟨zp_k9, List.forall_mem_cons.mpr ⟨zp_k10, List.forall_mem_cons.mpr ⟨zp_k11, List.forall_mem_cons.mpr ⟨zp_k12, List.forall_mem_cons.mpr ⟨zp_k13, List.forall_mem_cons.mpr ⟨zp_k14, List.forall_mem_cons.mpr ⟨zp_k15, List.forall_mem_cons.mpr ⟨zp_k16, List.forall_mem_cons.mpr ⟨zp_k17, List.forall_mem_cons.mpr ⟨zp_k18, List.forall_mem_cons.mpr ⟨zp_k19, List.forall_mem_cons.mpr ⟨zp_k20, List.forall_mem_cons.mpr ⟨zp_k21, List.forall_mem_cons.mpr ⟨zp_k22, List.forall_mem_cons.mpr ⟨zp_k23, List.forall_mem_cons.mpr ⟨zp_k24, List.forall_mem_cons.mpr ⟨zp_k25, List.forall_mem_cons.mpr ⟨zp_k26, List.forall_mem_cons.mpr ⟨zp_k27, List.forall_mem_cons.mpr ⟨zp_k28, List.forall_mem_cons.mpr ⟨zp_k29, List.forall_mem_cons.mpr ⟨zp_k30, List.forall_mem_cons.mpr ⟨zp_k31, List.forall_mem_cons.mpr ⟨zp_k32, List.forall_mem_cons.mpr ⟨zp_k33, List.forall_mem_cons.mpr ⟨zp_k34, List.forall_mem_cons.mpr ⟨zp_k35, List.forall_mem_cons.mpr ⟨zp_k36, List.forall_mem_cons.mpr ⟨zp_k37, List.forall_mem_cons.mpr ⟨zp_k38, List.forall_mem_cons.mpr ⟨zp_k39, List.forall_mem_cons.mpr ⟨zp_k40, List.forall_mem_cons.mpr ⟨zp_k41, List.forall_mem_cons.mpr ⟨zp_k42, List.forall_mem_cons.mpr ⟨zp_k43, List.forall_mem_cons.mpr ⟨zp_k44, List.forall_mem_cons.mpr ⟨zp_k45, List.forall_mem_cons.mpr ⟨zp_k46, List.forall_mem_cons.mpr ⟨zp_k47, List.forall_mem_cons.mpr ⟨zp_k48, List.forall_mem_cons.mpr ⟨zp_k49, List.forall_mem_cons.mpr ⟨zp_k50, List.forall_mem_cons.mpr ⟨zp_k51, List.forall_mem_cons.mpr ⟨zp_k52, List.forall_mem_cons.mpr ⟨zp_k53, List.forall_mem_cons.mpr ⟨zp_k54, List.forall_mem_cons.mpr ⟨zp_k55, List.forall_mem_cons.mpr ⟨zp_k56, List.forall_mem_cons.mpr ⟨zp_k57, List.forall_mem_cons.mpr ⟨zp_k58, List.forall_mem_cons.mpr ⟨zp_k59, List.forall_mem_cons.mpr ⟨zp_k60, List.forall_mem_cons.mpr ⟨zp_k61, List.forall_mem_cons.mpr ⟨zp_k62, List.forall_mem_cons.mpr ⟨zp_k63, List.forall_mem_cons.mpr ⟨zp_k64, List.forall_mem_cons.mpr ⟨zp_k65, List.forall_mem_cons.mpr ⟨zp_k66, List.forall_mem_cons.mpr ⟨zp_k67, List.forall_mem_cons.mpr ⟨zp_k68, List.forall_mem_cons.mpr ⟨zp_k69, List.forall_mem_cons.mpr ⟨zp_k70, List.forall_mem_cons.mpr ⟨zp_k71, List.forall_mem_cons.mpr ⟨zp_k72, List.forall_mem_cons.mpr ⟨zp_k73, List.forall_mem_cons.mpr ⟨zp_k74, List.forall_mem_cons.mpr ⟨zp_k75, List.forall_mem_cons.mpr ⟨zp_k76, List.forall_mem_cons.mpr ⟨zp_k77, List.forall_mem_cons.mpr ⟨zp_k78, List.forall_mem_cons.mpr ⟨zp_k79, List.forall_mem_cons.mpr ⟨zp_k80, List.forall_mem_cons.mpr ⟨zp_k81, List.forall_mem_cons.mpr ⟨zp_k82, List.forall_mem_cons.mpr ⟨zp_k83, List.forall_mem_cons.mpr ⟨zp_k84, List.forall_mem_cons.mpr ⟨zp_k85, List.forall_mem_cons.mpr ⟨zp_k86, List.forall_mem_cons.mpr ⟨zp_k87, List.forall_mem_cons.mpr ⟨zp_k88, List.forall_mem_cons.mpr ⟨zp_k89, List.forall_mem_cons.mpr ⟨zp_k90, List.forall_mem_cons.mpr ⟨zp_k91, List.forall_mem_cons.mpr ⟨zp_k92, List.forall_mem_cons.mpr ⟨zp_k93, List.forall_mem_cons.mpr ⟨zp_k94, List.forall_mem_cons.mpr ⟨zp_k95, List.forall_mem_cons.mpr ⟨zp_k96, List.forall_mem_cons.mpr ⟨zp_k97, List.forall_mem_cons.mpr ⟨zp_k98, List.forall_mem_cons.mpr ⟨zp_k99, List.forall_mem_cons.mpr ⟨zp_k100, List.forall_mem_cons.mpr ⟨zp_k101, List.forall_mem_cons.mpr ⟨zp_k102, List.forall_mem_cons.mpr ⟨zp_k103, List.forall_mem_cons.mpr ⟨zp_k104, List.forall_mem_cons.mpr ⟨zp_k105, List.forall_mem_cons.mpr ⟨zp_k106, List.forall_mem_cons.mpr ⟨zp_k107, List.forall_mem_cons.mpr ⟨zp_k108, List.forall_mem_cons.mpr ⟨zp_k109, List.forall_mem_cons.mpr ⟨zp_k110, List.forall_mem_cons.mpr ⟨zp_k111, List.forall_mem_cons.mpr ⟨zp_k112, List.forall_mem_cons.mpr ⟨zp_k113, List.forall_mem_cons.mpr ⟨zp_k114, List.forall_mem_cons.mpr ⟨zp_k115, List.forall_mem_cons.mpr ⟨zp_k116, List.forall_mem_cons.mpr ⟨zp_k117, List.forall_mem_cons.mpr ⟨zp_k118, List.forall_mem_cons.mpr ⟨zp_k119, List.forall_mem_cons.mpr ⟨zp_k120, List.forall_mem_cons.mpr ⟨zp_k121, List.forall_mem_cons.mpr ⟨zp_k122, List.forall_mem_cons.mpr ⟨zp_k123, List.forall_mem_cons.mpr ⟨zp_k124, List.forall_mem_cons.mpr ⟨zp_k125, List.forall_mem_cons.mpr ⟨zp_k126, List.forall_mem_cons.mpr ⟨zp_k127, List.forall_mem_cons.mpr ⟨zp_k128, List.forall_mem_cons.mpr ⟨zp_k129, List.forall_mem_cons.mpr ⟨zp_k130, List.forall_mem_cons.mpr ⟨zp_k131, List.forall_mem_cons.mpr ⟨zp_k132, List.forall_mem_cons.mpr ⟨zp_k133, List.forall_mem_cons.mpr ⟨zp_k134, List.forall_mem_cons.mpr ⟨zp_k135, List.forall_mem_cons.mpr ⟨zp_k136, List.forall_mem_cons.mpr ⟨zp_k137, List.forall_mem_cons.mpr ⟨zp_k138, List.forall_mem_cons.mpr ⟨zp_k139, List.forall_mem_cons.mpr ⟨zp_k140, List.forall_mem_cons.mpr ⟨zp_k141, List.forall_mem_cons.mpr ⟨zp_k142, List.forall_mem_cons.mpr ⟨zp_k143, List.forall_mem_cons.mpr ⟨zp_k144, List.forall_mem_cons.mpr ⟨zp_k145, List.forall_mem_cons.mpr ⟨zp_k146, List.forall_mem_cons.mpr ⟨zp_k147, List.forall_mem_cons.mpr ⟨zp_k148, List.forall_mem_cons.mpr ⟨zp_k149, List.forall_mem_cons.mpr ⟨zp_k150, List.forall_mem_cons.mpr ⟨zp_k151, List.forall_mem_cons.mpr ⟨zp_k152, List.forall_mem_cons.mpr ⟨zp_k153, List.forall_mem_cons.mpr ⟨zp_k154, List.forall_mem_cons.mpr ⟨zp_k155, List.forall_mem_cons.mpr ⟨zp_k156, List.forall_mem_cons.mpr ⟨zp_k157, List.forall_mem_cons.mpr ⟨zp_k158, List.forall_mem_cons.mpr ⟨zp_k159, List.forall_mem_cons.mpr ⟨zp_k160, List.forall_mem_cons.mpr ⟨zp_k161, List.forall_mem_cons.mpr ⟨zp_k162, List.forall_mem_cons.mpr ⟨zp_k163, List.forall_mem_cons.mpr ⟨zp_k164, List.forall_mem_cons.mpr ⟨zp_k165, List.forall_mem_cons.mpr ⟨zp_k166, List.forall_mem_cons.mpr ⟨zp_k167, List.forall_mem_cons.mpr ⟨zp_k168, List.forall_mem_cons.mpr ⟨zp_k169, List.forall_mem_cons.mpr ⟨zp_k170, List.forall_mem_cons.mpr ⟨zp_k171, List.forall_mem_cons.mpr ⟨zp_k172, List.forall_mem_cons.mpr ⟨zp_k173, List.forall_mem_cons.mpr ⟨zp_k174, List.forall_mem_cons.mpr ⟨zp_k175, List.forall_mem_cons.mpr ⟨zp_k176, List.forall_mem_cons.mpr ⟨zp_k177, List.forall_mem_cons.mpr ⟨zp_k178, List.forall_mem_cons.mpr ⟨zp_k179, List.forall_mem_cons.mpr ⟨zp_k180, List.forall_mem_cons.mpr ⟨zp_k181, List.forall_mem_cons.mpr ⟨zp_k182, List.forall_mem_cons.mpr ⟨zp_k183, List.forall_mem_cons.mpr ⟨zp_k184, List.forall_mem_cons.mpr ⟨zp_k185, List.forall_mem_cons.mpr ⟨zp_k186, List.forall_mem_cons.mpr ⟨zp_k187, List.forall_mem_cons.mpr ⟨zp_k188, List.forall_mem_cons.mpr ⟨zp_k189, List.forall_mem_cons.mpr ⟨zp_k190, List.forall_mem_cons.mpr ⟨zp_k191, List.forall_mem_cons.mpr ⟨zp_k192, List.forall_mem_cons.mpr ⟨zp_k193, List.forall_mem_cons.mpr ⟨zp_k194, List.forall_mem_cons.mpr ⟨zp_k195, List.forall_mem_cons.mpr ⟨zp_k196, List.forall_mem_cons.mpr ⟨zp_k197, List.forall_mem_cons.mpr ⟨zp_k198, List.forall_mem_cons.mpr ⟨zp_k199, List.forall_mem_cons.mpr ⟨zp_k200, List.forall_mem_cons.mpr ⟨zp_k201, List.forall_mem_cons.mpr ⟨zp_k202, List.forall_mem_cons.mpr ⟨zp_k203, List.forall_mem_cons.mpr ⟨zp_k204, List.forall_mem_cons.mpr ⟨zp_k205, List.forall_mem_cons.mpr ⟨zp_k206, List.forall_mem_cons.mpr ⟨zp_k207, List.forall_mem_cons.mpr ⟨zp_k208, List.forall_mem_cons.mpr ⟨zp_k209, List.forall_mem_cons.mpr ⟨zp_k210, List.forall_mem_cons.mpr ⟨zp_k211, List.forall_mem_cons.mpr ⟨zp_k212, List.forall_mem_cons.mpr ⟨zp_k213, List.forall_mem_cons.mpr ⟨zp_k214, List.forall_mem_cons.mpr ⟨zp_k215, List.forall_mem_cons.mpr ⟨zp_k216, List.forall_mem_cons.mpr ⟨zp_k217, List.forall_mem_cons.mpr ⟨zp_k218, List.forall_mem_cons.mpr ⟨zp_k219, List.forall_mem_cons.mpr ⟨zp_k220, List.forall_mem_cons.mpr ⟨zp_k221, List.forall_mem_cons.mpr ⟨zp_k222, fun q h => absurd h List.not_mem_nil⟩⟩⟩⟩⟩⟩⟩⟩⟩⟩⟩⟩⟩⟩⟩⟩⟩⟩⟩⟩⟩⟩⟩⟩⟩⟩⟩⟩⟩⟩⟩⟩⟩⟩⟩⟩⟩⟩⟩⟩⟩⟩⟩⟩⟩⟩⟩⟩⟩⟩⟩⟩⟩⟩⟩⟩⟩⟩⟩⟩⟩⟩⟩⟩⟩⟩⟩⟩⟩⟩⟩⟩⟩⟩⟩⟩⟩⟩⟩⟩⟩⟩⟩⟩⟩⟩⟩⟩⟩⟩⟩⟩⟩⟩⟩⟩⟩⟩⟩⟩⟩⟩⟩⟩⟩⟩⟩⟩⟩⟩⟩⟩⟩⟩⟩⟩⟩⟩⟩⟩⟩⟩⟩⟩⟩⟩⟩⟩⟩⟩⟩⟩⟩⟩⟩⟩⟩⟩⟩⟩⟩⟩⟩⟩⟩⟩⟩⟩⟩⟩⟩⟩⟩⟩⟩⟩⟩⟩⟩⟩⟩⟩⟩⟩⟩⟩⟩⟩⟩⟩⟩⟩⟩⟩⟩⟩⟩⟩⟩⟩⟩⟩⟩⟩⟩⟩⟩⟩⟩⟩⟩⟩⟩⟩⟩⟩⟩⟩⟩⟩⟩⟩⟩⟩⟩⟩⟩⟩⟩⟩⟩⟩⟩⟩⟩⟩⟩⟩⟩⟩⟩⟩⟩
def zp_ub (C : String) (T : u_T) : Nat → List Nat → Bool
  | _, [] => true
  | k, i :: r => zp_in i (u_lay C T k) && zp_ub C T (k + 1) r
theorem zp_ub_ok {C : String} {T : u_T} : ∀ (l : List Nat) (b : Nat), zp_ub C T b l = true → ∀ k, b ≤ k → k < b + l.length → u_lay C T k ∈ zp_G := by
  intro l
  induction l with
  | nil => intro b h k h1 h2; simp at h2; omega
  | cons i r ih =>
    intro b h k h1 h2
    rw [zp_ub, Bool.and_eq_true] at h
    rw [List.length_cons] at h2
    rcases Nat.lt_or_eq_of_le h1 with h3 | h3
    · exact ih (b + 1) h.2 k h3 (by omega)
    · rw [← h3]; exact zp_in_ok h.1
theorem zp_us {C : String} {T : u_T} (l : List Nat) (h : zp_ub C T 0 l = true) : ∀ x ∈ u_ws C T l.length, x ∈ zp_G := by
  intro x hx
  obtain ⟨k, hk, e⟩ := List.mem_map.mp hx
  rw [← e]
  exact zp_ub_ok l 0 h k (Nat.zero_le _) (by have := List.mem_range.mp hk; omega)
set_option maxRecDepth 100000 in
theorem zp_uX0 : ∀ x ∈ u_ws RX0 TX0 11, x ∈ zp_G := zp_us [139, 141, 143, 145, 147, 149, 151, 153, 155, 157, 159] (by decide +kernel)
set_option maxRecDepth 100000 in
theorem zp_uX2 : ∀ x ∈ u_ws RX2 TX2 4, x ∈ zp_G := zp_us [186, 188, 190, 192] (by decide +kernel)
set_option maxRecDepth 100000 in
theorem zp_uX3 : ∀ x ∈ u_ws RX3 TX3 5, x ∈ zp_G := zp_us [254, 256, 258, 260, 262] (by decide +kernel)
set_option maxRecDepth 100000 in
theorem zp_uX5 : ∀ x ∈ u_ws RX5 TX5 15, x ∈ zp_G := zp_us [347, 349, 351, 353, 355, 357, 359, 361, 363, 365, 367, 369, 371, 373, 375] (by decide +kernel)
set_option maxRecDepth 100000 in
theorem zp_uX6 : ∀ x ∈ u_ws RX6 TX6 8, x ∈ zp_G := zp_us [224, 226, 228, 230, 232, 234, 236, 238] (by decide +kernel)
set_option maxRecDepth 100000 in
theorem zp_uX7 : ∀ x ∈ u_ws RX7 TX7 11, x ∈ zp_G := zp_us [284, 286, 288, 290, 292, 294, 296, 298, 300, 302, 304] (by decide +kernel)
set_option maxRecDepth 100000 in
theorem zp_uX8 : ∀ x ∈ u_ws RX8 TX8 3, x ∈ zp_G := zp_us [324, 326, 328] (by decide +kernel)
set_option maxRecDepth 100000 in
theorem zp_uX9 : ∀ x ∈ u_ws RX9 TX9 2, x ∈ zp_G := zp_us [211, 213] (by decide +kernel)
set_option maxRecDepth 100000 in
theorem zp_uX10 : ∀ x ∈ u_ws RX10 TX10 2, x ∈ zp_G := zp_us [177, 179] (by decide +kernel)
set_option maxRecDepth 100000 in
theorem zp_uX11 : ∀ x ∈ u_ws RX11 TX11 7, x ∈ zp_G := zp_us [385, 387, 389, 391, 393, 395, 397] (by decide +kernel)
set_option maxRecDepth 100000 in
theorem zp_uX12 : ∀ x ∈ u_ws RX12 TX12 51, x ∈ zp_G := zp_us [1221, 1223, 1225, 1227, 1229, 1231, 1233, 1235, 1237, 1239, 1241, 1243, 1245, 1247, 1249, 1251, 1253, 1255, 1257, 1259, 1261, 1263, 1265, 1267, 1269, 1271, 1273, 1275, 1277, 1279, 1281, 1283, 1285, 1287, 1289, 1291, 1293, 1295, 1297, 1299, 1301, 1303, 1305, 1307, 1309, 1311, 1313, 1315, 1317, 1319, 1321] (by decide +kernel)
set_option maxRecDepth 100000 in
theorem zp_uJ0 : ∀ x ∈ u_ws RJ0 TJ0 2, x ∈ zp_G := zp_us [1145, 1147] (by decide +kernel)
set_option maxRecDepth 100000 in
theorem zp_uJx00060 : ∀ x ∈ u_ws RJx00060 TJx00060 6, x ∈ zp_G := zp_us [1111, 1113, 1115, 1117, 1119, 1121] (by decide +kernel)
def zp_cR : Nat → String := fun ci => match ci with
  | 0 => RX0
  | 1 => RX2
  | 2 => RX3
  | 3 => RX5
  | 4 => RX6
  | 5 => RX7
  | 6 => RX8
  | 7 => RX9
  | 8 => RX10
  | 9 => RX11
  | 10 => RX12
  | 11 => RJ0
  | _ => RJx00060
def zp_cT : Nat → u_T := fun ci => match ci with
  | 0 => TX0
  | 1 => TX2
  | 2 => TX3
  | 3 => TX5
  | 4 => TX6
  | 5 => TX7
  | 6 => TX8
  | 7 => TX9
  | 8 => TX10
  | 9 => TX11
  | 10 => TX12
  | 11 => TJ0
  | _ => TJx00060
def zp_cN : Nat → Nat := fun ci => match ci with
  | 0 => 11
  | 1 => 4
  | 2 => 5
  | 3 => 15
  | 4 => 8
  | 5 => 11
  | 6 => 3
  | 7 => 2
  | 8 => 2
  | 9 => 7
  | 10 => 51
  | 11 => 2
  | _ => 6
def zp_fb (o idx : Nat) (q : Nat × Nat × Nat) : Bool := decide (q.1 < 13) && decide (q.2.1 < zp_cN q.1) && zp_in q.2.2 (Cond.fieldLink (zp_po o) idx (zp_cT q.1 q.2.1).1 (zp_cT q.1 q.2.1).2.1 (zp_cT q.1 q.2.1).2.2.1)
theorem zp_cls (ci k : Nat) (hc : ci < 13) (hk : k < zp_cN ci) {o idx : Nat} (hl : Cond.fieldLink (zp_po o) idx (zp_cT ci k).1 (zp_cT ci k).2.1 (zp_cT ci k).2.2.1 ∈ zp_G) : zx_fok zp_P zp_G zp_cl o idx ci k := by
  rcases (show ci = 0 ∨ ci = 1 ∨ ci = 2 ∨ ci = 3 ∨ ci = 4 ∨ ci = 5 ∨ ci = 6 ∨ ci = 7 ∨ ci = 8 ∨ ci = 9 ∨ ci = 10 ∨ ci = 11 ∨ ci = 12 by omega) with rfl | rfl | rfl | rfl | rfl | rfl | rfl | rfl | rfl | rfl | rfl | rfl | rfl
  · exact ⟨RX0, TX0, 11, tyX0, rfl, hk, hl, zp_uX0, tyX0_ok, nmX0, rfl⟩
  · exact ⟨RX2, TX2, 4, tyX2, rfl, hk, hl, zp_uX2, tyX2_ok, nmX2, rfl⟩
  · exact ⟨RX3, TX3, 5, tyX3, rfl, hk, hl, zp_uX3, tyX3_ok, nmX3, rfl⟩
  · exact ⟨RX5, TX5, 15, tyX5, rfl, hk, hl, zp_uX5, tyX5_ok, nmX5, rfl⟩
  · exact ⟨RX6, TX6, 8, tyX6, rfl, hk, hl, zp_uX6, tyX6_ok, nmX6, rfl⟩
  · exact ⟨RX7, TX7, 11, tyX7, rfl, hk, hl, zp_uX7, tyX7_ok, nmX7, rfl⟩
  · exact ⟨RX8, TX8, 3, tyX8, rfl, hk, hl, zp_uX8, tyX8_ok, nmX8, rfl⟩
  · exact ⟨RX9, TX9, 2, tyX9, rfl, hk, hl, zp_uX9, tyX9_ok, nmX9, rfl⟩
  · exact ⟨RX10, TX10, 2, tyX10, rfl, hk, hl, zp_uX10, tyX10_ok, nmX10, rfl⟩
  · exact ⟨RX11, TX11, 7, tyX11, rfl, hk, hl, zp_uX11, tyX11_ok, nmX11, rfl⟩
  · exact ⟨RX12, TX12, 51, tyX12, rfl, hk, hl, zp_uX12, tyX12_ok, nmX12, rfl⟩
  · exact ⟨RJ0, TJ0, 2, tyJ0, rfl, hk, hl, zp_uJ0, tyJ0_ok, nmJ0, rfl⟩
  · exact ⟨RJx00060, TJx00060, 6, tyJx00060, rfl, hk, hl, zp_uJx00060, tyJx00060_ok, nmJx00060, rfl⟩
set_option maxRecDepth 100000 in
theorem zp_ft_ok : zp_all zp_fb 0 zp_ft = true := by decide +kernel
def zp_cb (o idx : Nat) (q : Nat × Nat) : Bool := match zp_ms[q.1]? with
  | some r => zp_in q.2 (Cond.methodLink (zp_po o) idx (zx_my r))
  | none => false
set_option maxRecDepth 100000 in
theorem zp_mt_ok : zp_all zp_cb 0 zp_mt = true := by decide +kernel
def zp_lb (o idx : Nat) (q : Int64 × Nat) : Bool := zp_in q.2 (Cond.constantLong (zp_po o) idx q.1)
set_option maxRecDepth 100000 in
theorem zp_lt_ok : zp_all zp_lb 0 zp_lt = true := by decide +kernel
def zp_nb (o idx : Nat) (q : Nat) : Bool := zp_in q (Cond.methodLink (zp_po o) idx Lib.Math.min.name)
set_option maxRecDepth 100000 in
theorem zp_nt_ok : zp_all zp_nb 0 zp_nt = true := by decide +kernel
set_option maxRecDepth 100000 in
theorem zp_n_s : zp_in 515 (Cond.static Lib.Math.min.name) = true := by decide +kernel
set_option maxRecDepth 100000 in
theorem zp_n_i : zp_in 105 (Cond.initialized "java/lang/Math") = true := by decide +kernel
set_option maxRecDepth 100000 in
theorem zp_n_c : zp_in 516 (Cond.code Lib.Math.min.name Lib.Math.min.code 2 (some .int)) = true := by decide +kernel
theorem zp_ok : zx_ok zp_P zp_G zp_cl := by
  refine ⟨fun x hx => good_of_word (List.mem_filter.mp hx).2, fun j q hq => zp_ms_ok q (List.mem_of_getElem? hq), ?_, ?_, ?_, ?_⟩
  · intro o idx ci k h
    obtain ⟨q, hq, e⟩ := Option.map_eq_some_iff.mp h
    cases e
    have h1 := zp_all_ok _ 0 zp_ft_ok _ _ _ hq
    rw [Nat.zero_add, zp_fb, Bool.and_eq_true, Bool.and_eq_true, decide_eq_true_eq, decide_eq_true_eq] at h1
    exact zp_cls _ _ h1.1.1 h1.1.2 (zp_in_ok h1.2)
  · intro o idx cj h
    obtain ⟨q, hq, e⟩ := Option.map_eq_some_iff.mp h
    cases e
    have h1 := zp_all_ok _ 0 zp_mt_ok _ _ _ hq
    rw [Nat.zero_add, zp_cb] at h1
    split at h1
    · next r hr => exact ⟨r, hr, zp_in_ok h1⟩
    · cases h1
  · intro o idx v h
    obtain ⟨q, hq, e⟩ := Option.map_eq_some_iff.mp h
    cases e
    have h1 := zp_all_ok _ 0 zp_lt_ok _ _ _ hq
    rw [Nat.zero_add, zp_lb] at h1
    exact zp_in_ok h1
  · intro o idx h
    obtain ⟨q, hq⟩ := Option.isSome_iff_exists.mp h
    have h1 := zp_all_ok _ 0 zp_nt_ok _ _ _ hq
    rw [Nat.zero_add, zp_nb] at h1
    exact ⟨zp_in_ok h1, zp_in_ok zp_n_s, zp_in_ok zp_n_i, zp_in_ok zp_n_c⟩
