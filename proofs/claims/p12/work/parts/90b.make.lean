/-! ===== 90b: for TO MAKE in the reference ===== -/
theorem zi_eq {α : Type} {c d : Prop} {a b : α} (h : c ↔ d) : zi c a b = zi d a b := by
  by_cases z : c
  · rw [zi_t z, zi_t (h.1 z)]
  · rw [zi_f z, zi_f (fun y => z (h.2 y))]
def zr_in (W : List (Nat × Nat)) : Bool := za_in W 44 1 || za_in W 45 0 || za_in W 46 0 || za_in W 47 0 || za_in W 44 5 || za_in W 48 0 || za_in W 49 0 || za_in W 50 0 || za_in W 51 0 || za_in W 44 10 || za_in W 52 0
theorem zr_Pg_g {W : List (Nat × Nat)} {h h' : zx_H} (w : zb_W W h h') (e : zr_in W = false) : zr_Pg h' = zr_Pg h := by
  unfold zr_in at e
  simp only [Bool.or_eq_false_iff] at e
  obtain ⟨⟨⟨⟨⟨⟨⟨⟨⟨⟨a, b⟩, c⟩, d⟩, e⟩, f⟩, g⟩, i⟩, j⟩, k⟩, l⟩ := e
  have e45 : zv_a h' 45 = zv_a h 45 := funext (fun q => zv_wa w b q)
  have e46 : zv_a h' 46 = zv_a h 46 := funext (fun q => zv_wa w c q)
  have e47 : zv_a h' 47 = zv_a h 47 := funext (fun q => zv_wa w d q)
  have e48 : zv_a h' 48 = zv_a h 48 := funext (fun q => zv_wa w f q)
  have e49 : zv_a h' 49 = zv_a h 49 := funext (fun q => zv_wa w g q)
  have e50 : zv_a h' 50 = zv_a h 50 := funext (fun q => zv_wa w i q)
  have e51 : zv_a h' 51 = zv_a h 51 := funext (fun q => zv_wa w j q)
  have e52 : zv_a h' 52 = zv_a h 52 := funext (fun q => zv_wa w l q)
  unfold zr_Pg
  rw [zv_wi w a, zv_wi w e, zv_wi w k, e45, e46, e47, e48, e49, e50, e51, e52]
theorem zr_A_g {W : List (Nat × Nat)} {h h' : zx_H} {s : zS} (w : zb_W W h h') (a1 : za_in W 54 0 = false) (a2 : za_in W 55 0 = false) (a3 : za_in W 56 0 = false) (a4 : za_in W 44 27 = false) (a : zr_A h s) : zr_A h' s := by
  have e4 : zv_a h' 54 = zv_a h 54 := funext (fun q => zv_wa w a1 q)
  have e5 : zv_a h' 55 = zv_a h 55 := funext (fun q => zv_wa w a2 q)
  have e6 : zv_a h' 56 = zv_a h 56 := funext (fun q => zv_wa w a3 q)
  have f : zv_i h' 27 = zv_i h 27 := zv_wi w a4
  unfold zr_A
  rw [e4, e5, e6, f]
  exact a
theorem zr_A_un {h h' : zx_H} {s : zS} (w : zb_W [(44, 27), (44, 15)] h h') (c : zv_i h' 27 = 0) (a : zr_A h s) : zr_A h' (zs_un s) := by
  have e4 : zv_a h' 54 = zv_a h 54 := funext (fun q => zv_wa w rfl q)
  have e5 : zv_a h' 55 = zv_a h 55 := funext (fun q => zv_wa w rfl q)
  have e6 : zv_a h' 56 = zv_a h 56 := funext (fun q => zv_wa w rfl q)
  unfold zr_A
  rw [e4, e5, e6, c]
  exact ⟨a.1, a.2.1, ⟨fun z => absurd z (by decide), fun z => False.elim z⟩⟩
/-- the first table -/
theorem zr_first {h h' : zx_H} {e : Int} {row : Int → Int} {P : zP} (J : zr_J h h' 0 0 e row) (n1 : 1 ≤ zv_i h 1) (nr : ∀ q, 0 ≤ q → q < 60 → zv_a h 54 q = 0) (hr : ∀ j, 0 ≤ j → j < 8 → row j = zs_row P j) : zr_A h' (zs_first P) := by
  have n0 := nr 0 (by decide) (by decide)
  rcases J with ⟨z, _⟩ | ⟨_, _, _, j4, j5, j6, j7⟩ | ⟨_, z, _⟩ | ⟨_, z, _⟩
  · exact absurd z (by omega)
  · refine ⟨fun p p0 p1 => ?_, fun p (hp : p = 0) => ?_, ⟨fun _ => trivial, fun _ => j4⟩⟩
    · show zv_a h' 54 p = 1 ↔ p = 0
      rw [j5 p p0]
      by_cases z : p = 0
      · rw [if_pos z]; exact ⟨fun _ => z, fun _ => rfl⟩
      · rw [if_neg z, nr p p0 p1]; exact ⟨fun y => absurd y (by decide), fun y => absurd y z⟩
    · subst hp
      refine ⟨by rw [j6 0 (by decide), if_pos rfl]; rfl, fun j j0 (j1 : j < 8 + 0) => ?_⟩
      show zv_a h' 55 (14 * 0 + j) = zs_row P j
      rw [j7 _ (by omega), if_pos (by omega), show 14 * 0 + j - 14 * 0 = j by omega]
      exact hr j j0 (by omega)
  · omega
  · omega
/-- a round's end -/
noncomputable def zs_kt (P : zP) (c : Int) (r : Int × Int × zS) : Int × Int × Int × zS := if r.1 = 0 then zs_rounds P (3421 - c).toNat c r.2.2 else (r.1, r.2.1, c, r.2.2)
theorem zs_kt_s {P : zP} {c : Int} {s : zS} (c1 : c < 3421) (h : s.ch) : zs_rounds P (3421 - c).toNat c s = zs_kt P (c + 1) (zs_pass P P.n.toNat (zs_un s)) := by
  rw [zs_rounds_s c1, zi_t h]
  rfl
theorem zs_kt_e {P : zP} {c p : Int} {s : zS} (h : P.n ≤ p) : zs_kt P c (zs_pass P (P.n - p).toNat s) = zs_rounds P (3421 - c).toNat c s := by
  rw [show (P.n - p).toNat = 0 by omega]
  rfl
theorem zs_kt_n {P : zP} {c p : Int} {s : zS} (h1 : p < P.n) (r : ¬ s.R p) : zs_pass P (P.n - p).toNat s = zs_pass P (P.n - (p + 1)).toNat s := by
  rw [zs_pass_s h1, zi_f r]
theorem zs_kt_y {P : zP} {p : Int} {s : zS} (h1 : p < P.n) (r : s.R p) (f : (zs_work P p s).1 = 0) : zs_pass P (P.n - p).toNat s = zs_pass P (P.n - (p + 1)).toNat (zs_work P p s).2 := by
  rw [zs_pass_s h1, zi_t r, if_pos f]
theorem zs_kt_f {P : zP} {c p : Int} {s : zS} (h1 : p < P.n) (r : s.R p) (f : ¬ (zs_work P p s).1 = 0) : zs_kt P c (zs_pass P (P.n - p).toNat s) = ((zs_work P p s).1, p, c, (zs_work P p s).2) := by
  rw [zs_pass_s h1, zi_t r, if_neg f]
  unfold zs_kt
  rw [if_neg f]
/-- a reached place that has a frame -/
def zs_isf (P : zP) (s : zS) (p : Int) : Prop := ((∃ t, 0 ≤ t ∧ t < P.hn ∧ P.ha t = p) ∨ (∃ q, 0 ≤ q ∧ q < P.n ∧ s.R q ∧ ((24 ≤ P.op q ∧ P.op q ≤ 27 ∧ P.one q = p) ∨ (P.op q = 27 ∧ P.two q = p)))) ∨ (0 < p ∧ (¬ s.R (p - 1) ∨ (22 ≤ P.op (p - 1) ∧ P.op (p - 1) ≤ 24)))
noncomputable def zs_fc (P : zP) (s : zS) : Nat → Int
  | 0 => 0
  | n + 1 => zs_fc P s n + zi (s.R n ∧ zs_isf P s n) 1 0
theorem zs_fc_s {P : zP} {s : zS} {p : Int} (p0 : 0 ≤ p) : zs_fc P s (p + 1).toNat = zs_fc P s p.toNat + zi (s.R p ∧ zs_isf P s p) 1 0 := by
  obtain ⟨n, hn⟩ : ∃ n : Nat, p.toNat = n := ⟨_, rfl⟩
  have e : (p + 1).toNat = n + 1 := by omega
  have e2 : p = (n : Int) := by omega
  rw [e, hn]
  show zs_fc P s n + zi (s.R n ∧ zs_isf P s n) 1 0 = _
  rw [← e2]
theorem zr_isf {h : zx_H} {s : zS} {p : Int} (a : zr_A h s) (n60 : zv_i h 1 ≤ 60) (p1 : p < 60) : (zg_FC h p ∨ (0 < p ∧ (¬ zv_a h 54 (p - 1) = 1 ∨ (22 ≤ zv_a h 45 (p - 1) ∧ zv_a h 45 (p - 1) ≤ 24)))) ↔ zs_isf (zr_Pg h) s p := by
  have e : zg_FC h p ↔ ((∃ t, 0 ≤ t ∧ t < zv_i h 5 ∧ zv_a h 50 t = p) ∨ (∃ q, 0 ≤ q ∧ q < zv_i h 1 ∧ s.R q ∧ ((24 ≤ zv_a h 45 q ∧ zv_a h 45 q ≤ 27 ∧ zv_a h 46 q = p) ∨ (zv_a h 45 q = 27 ∧ zv_a h 47 q = p)))) := by
    unfold zg_FC
    refine ⟨fun z => ?_, fun z => ?_⟩
    · rcases z with z | ⟨q, q0, q1, q2, q3⟩
      · exact Or.inl z
      · exact Or.inr ⟨q, q0, q1, (a.1 q q0 (by omega)).1 q2, q3⟩
    · rcases z with z | ⟨q, q0, q1, q2, q3⟩
      · exact Or.inl z
      · exact Or.inr ⟨q, q0, q1, (a.1 q q0 (by omega)).2 q2, q3⟩
  have f : (0 < p ∧ (¬ zv_a h 54 (p - 1) = 1 ∨ (22 ≤ zv_a h 45 (p - 1) ∧ zv_a h 45 (p - 1) ≤ 24))) ↔ (0 < p ∧ (¬ s.R (p - 1) ∨ (22 ≤ zv_a h 45 (p - 1) ∧ zv_a h 45 (p - 1) ≤ 24))) := by
    refine ⟨fun z => ⟨z.1, z.2.imp (fun y x => y ((a.1 (p - 1) (by omega) (by omega)).2 x)) id⟩, fun z => ⟨z.1, z.2.imp (fun y x => y ((a.1 (p - 1) (by omega) (by omega)).1 x)) id⟩⟩
  rw [e, f]
  exact Iff.rfl
/-- what make leaves -/
def zr_M (h' : zx_H) (P : zP) (e : Int) : Prop :=
  (P.n = 0 ∧ e = (-9) ∧ zv_i h' 14 = 6 ∧ zv_i h' 13 = 0 ∧ zv_i h' 15 = 0)
  ∨ (1 ≤ P.n ∧ ¬ (zs_make P).1 = 0 ∧ e = (-10) - (zs_make P).2.1 ∧ zv_i h' 14 = (zs_make P).1 ∧ zv_i h' 13 = 0 ∧ zv_i h' 15 = (zs_make P).2.2.1)
  ∨ (1 ≤ P.n ∧ (zs_make P).1 = 0 ∧ e = zv_i h' 19 ∧ zv_i h' 14 = 0 ∧ zv_i h' 13 = 1 ∧ zv_i h' 15 = (zs_make P).2.2.1 ∧ zv_i h' 19 = zs_fc P (zs_make P).2.2.2 P.n.toNat ∧ zr_A h' (zs_make P).2.2.2 ∧ zs_ok P (zs_make P).2.2.2)
theorem zm_workG {h : zx_H} (hI : zb_I zc_H h) {p : Int} (p1 : 0 ≤ p) (p2 : p ≤ 59) (s : zS) (hA : zr_A h s) (hO : zs_ok (zr_Pg h) s) (hR : s.R p) (hP : zP.ok (zr_Pg h)) (hk : zg_KI h) (hc : zg_CI h) (ht : zg_TI h) : zx_T zp_P 4 zp_m175 0 [(0, .ref 44), (1, .int (zI (p)))] [] h (zr_R [(54, 0), (44, 27), (56, 0), (55, 0), (63, 0), (44, 25), (61, 0), (62, 0), (44, 26)] h (fun e h' => 0 ≤ e ∧ e ≤ 7 ∧ zg_J h h' ∧ (e = 0 → zg_wk h h' p) ∧ e = (zs_work (zr_Pg h) p s).1 ∧ zr_A h' (zs_work (zr_Pg h) p s).2)) := by
  have a := (zm_work hI p1 p2 hk hc ht).and (zm_workF hI p1 p2 s hA hO hR hP hk hc)
  obtain ⟨n, r, h', e, ⟨x1, x2, y, x3, x4⟩, ⟨_, _, z, z3, z4⟩⟩ := a
  refine ⟨n, r, h', e, x1, x2, y, x3, ?_⟩
  dsimp only at x4 z4 ⊢
  have q : y = z := by
    have e1 := x3.symm.trans z3
    have e2 : zI y = zI z := by injection (Option.some.inj e1)
    have e3 := zI_i (x := y) (by omega) (by omega)
    have e4 := zI_i (x := z) (by omega) (by omega)
    rw [← e3, ← e4, e2]
  rw [q] at x4 ⊢
  exact ⟨x4.2.1, x4.2.2.1, x4.1, x4.2.2.2, z4.2.2.1, z4.2.2.2.1⟩
