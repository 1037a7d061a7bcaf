/-! ===== 95c: for TO MAKE in the class ===== -/
theorem zc_A_un {h h' : zx_H} {s : zS} (w : zb_W [(16, 5), (16, 6)] h h') (c : zv_f h' 16 5 = 0) (a : zc_A h s) : zc_A h' (zs_un s) := by
  have e4 : zv_a h' 19 = zv_a h 19 := funext (fun q => zv_wa w rfl q)
  have e5 : zv_a h' 18 = zv_a h 18 := funext (fun q => zv_wa w rfl q)
  unfold zc_A
  rw [e4, e5, c]
  exact ⟨a.1, a.2.1, ⟨fun z => absurd z (by decide), fun z => False.elim z⟩⟩
theorem zc_first {h : zx_H} {P : zP} (c : zv_f h 16 5 = 1) (d : ∀ p, 0 ≤ p → p < 60 → zv_a h 19 p = if p = 0 then 0 else -1) (b : ∀ j, 0 ≤ j → j < 8 → zv_a h 18 j = zs_row P j) : zc_A h (zs_first P) := by
  refine ⟨fun p p0 p1 => ?_, fun p (hp : p = 0) => ?_, ⟨fun _ => trivial, fun _ => c⟩⟩
  · show ¬ zv_a h 19 p = -1 ↔ p = 0
    rw [d p p0 p1]
    by_cases z : p = 0
    · rw [if_pos z]; exact ⟨fun _ => z, fun _ => by decide⟩
    · rw [if_neg z]; exact ⟨fun y => absurd rfl y, fun y => absurd y z⟩
  · subst hp
    refine ⟨by rw [d 0 (by decide) (by decide), if_pos rfl]; rfl, fun j j0 (j1 : j < 8 + 0) => ?_⟩
    show zv_a h 18 (14 * 0 + j) = zs_row P j
    rw [show 14 * 0 + j = j by omega]
    exact b j j0 (by omega)
def zc_F1 (h : zx_H) (p : Int) : Prop := ∃ t, 0 ≤ t ∧ t < zv_f h 1 8 ∧ zv_a h 7 t = p
def zc_F2 (h : zx_H) (p : Int) : Prop := ∃ q, 0 ≤ q ∧ q < zv_f h 1 3 ∧ ¬ zv_a h 19 q = -1 ∧ ((24 ≤ zv_a h 2 q ∧ zv_a h 2 q ≤ 27 ∧ zv_a h 3 q = p) ∨ (zv_a h 2 q = 27 ∧ zv_a h 4 q = p))
def zc_F3 (h : zx_H) (p : Int) : Prop := 0 < p ∧ (zv_a h 19 (p - 1) = -1 ∨ (22 ≤ zv_a h 2 (p - 1) ∧ zv_a h 2 (p - 1) ≤ 24))
theorem zc_isf {h : zx_H} {s : zS} {p : Int} (a : zc_A h s) (n60 : zv_f h 1 3 ≤ 60) (p1 : p < 60) : ((zc_F1 h p ∨ zc_F2 h p) ∨ zc_F3 h p) ↔ zs_isf (zc_Pg h) s p := by
  have e : zc_F2 h p ↔ (∃ q, 0 ≤ q ∧ q < zv_f h 1 3 ∧ s.R q ∧ ((24 ≤ zv_a h 2 q ∧ zv_a h 2 q ≤ 27 ∧ zv_a h 3 q = p) ∨ (zv_a h 2 q = 27 ∧ zv_a h 4 q = p))) := by
    unfold zc_F2
    refine ⟨fun ⟨q, q0, q1, q2, q3⟩ => ⟨q, q0, q1, (a.1 q q0 (by omega)).1 q2, q3⟩, fun ⟨q, q0, q1, q2, q3⟩ => ⟨q, q0, q1, (a.1 q q0 (by omega)).2 q2, q3⟩⟩
  have f : zc_F3 h p ↔ (0 < p ∧ (¬ s.R (p - 1) ∨ (22 ≤ zv_a h 2 (p - 1) ∧ zv_a h 2 (p - 1) ≤ 24))) := by
    unfold zc_F3
    refine ⟨fun z => ⟨z.1, z.2.imp (fun y x => absurd y ((a.1 (p - 1) (by omega) (by omega)).2 x)) id⟩, fun z => ⟨z.1, z.2.imp (fun y => Classical.byContradiction (fun x => y ((a.1 (p - 1) (by omega) (by omega)).1 x))) id⟩⟩
  rw [e, f]
  exact Iff.rfl
def zc_ng (h : zx_H) (p q : Int) : Prop := ¬ zv_a h 19 q = -1 → (24 ≤ zv_a h 2 q → zv_a h 2 q ≤ 27 → ¬ zv_a h 3 q = p) ∧ (zv_a h 2 q = 27 → ¬ zv_a h 4 q = p)
def zc_nj (h : zx_H) (p q k : Int) : Prop := ¬ zv_a h 19 q = -1 → (1 ≤ k → ¬ zv_a h 3 q = p) ∧ (2 ≤ k → ¬ zv_a h 4 q = p)
theorem zc_nF2 {h : zx_H} {p n : Int} (hn : zv_f h 1 3 ≤ n) (nq : ∀ r, 0 ≤ r → r < n → zc_ng h p r) : ¬ zc_F2 h p := by
  rintro ⟨q, q0, q1, q2, ⟨a, b, c⟩ | ⟨a, c⟩⟩
  · exact (nq q q0 (by omega) q2).1 a b c
  · exact (nq q q0 (by omega) q2).2 a c
theorem zc_nq {h : zx_H} {p q : Int} (nq : ∀ r, 0 ≤ r → r < q → zc_ng h p r) (hq : zc_ng h p q) : ∀ r, 0 ≤ r → r < q + 1 → zc_ng h p r := fun r r0 r1 => by
  rcases (show r = q ∨ r < q by omega) with e9 | e9
  · subst e9; exact hq
  · exact nq r r0 e9
theorem zc_ng_j {h : zx_H} {p q k w : Int} (hj : zc_nj h p q k) (hw : (w = 2 ∧ zv_a h 2 q = 27) ∨ (w = 1 ∧ 24 ≤ zv_a h 2 q ∧ zv_a h 2 q ≤ 26) ∨ (w = 0 ∧ ¬ (24 ≤ zv_a h 2 q ∧ zv_a h 2 q ≤ 27))) (hk : w ≤ k) : zc_ng h p q := fun r => ⟨fun a b => (hj r).1 (by omega), fun a => (hj r).2 (by omega)⟩
/-- what make leaves in the class -/
def zc_M0 (h' : zx_H) (P : zP) (e : Int) : Prop :=
  (P.n = 0 ∧ e = 6 ∧ zv_f h' 16 7 = -1 ∧ zv_f h' 16 4 = 0 ∧ zv_f h' 16 6 = 0)
  ∨ (1 ≤ P.n ∧ ¬ (zs_make P).1 = 0 ∧ e = (zs_make P).1 ∧ zv_f h' 16 7 = (zs_make P).2.1 ∧ zv_f h' 16 4 = 0 ∧ zv_f h' 16 6 = (zs_make P).2.2.1 ∧ 0 ≤ zv_f h' 16 7 ∧ zv_f h' 16 7 ≤ 59)
  ∨ (1 ≤ P.n ∧ (zs_make P).1 = 0 ∧ e = 0 ∧ zv_f h' 16 4 = 1 ∧ zv_f h' 16 6 = (zs_make P).2.2.1 ∧ zv_f h' 10 3 = zs_fc P (zs_make P).2.2.2 P.n.toNat ∧ zc_A h' (zs_make P).2.2.2 ∧ zs_ok P (zs_make P).2.2.2 ∧ zs_nn (zs_make P).2.2.2)
def zc_M (h' : zx_H) (P : zP) (e : Int) : Prop :=
  (P.n = 0 ∧ e = -9 ∧ zv_f h' 0 6 = 6 ∧ zv_f h' 16 4 = 0 ∧ zv_f h' 16 6 = 0)
  ∨ (1 ≤ P.n ∧ ¬ (zs_make P).1 = 0 ∧ e = (-10) - (zs_make P).2.1 ∧ zv_f h' 0 6 = (zs_make P).1 ∧ zv_f h' 16 4 = 0 ∧ zv_f h' 16 6 = (zs_make P).2.2.1)
  ∨ (1 ≤ P.n ∧ (zs_make P).1 = 0 ∧ e = zv_f h' 10 3 ∧ zv_f h' 0 6 = 0 ∧ zv_f h' 16 4 = 1 ∧ zv_f h' 16 6 = (zs_make P).2.2.1 ∧ zv_f h' 10 3 = zs_fc P (zs_make P).2.2.2 P.n.toNat ∧ zc_A h' (zs_make P).2.2.2 ∧ zs_ok P (zs_make P).2.2.2 ∧ zs_nn (zs_make P).2.2.2)
