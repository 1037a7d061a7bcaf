/-! ===== 89: the reference's heap and the table ===== -/
def zr_Pg (h : zx_H) : zP := (zv_i h 1, zv_a h 45, zv_a h 46, zv_a h 47, zv_i h 5, zv_a h 48, zv_a h 49, zv_a h 50, zv_a h 51, zv_i h 10, zv_a h 52)
def zr_A (h : zx_H) (s : zS) : Prop := zr_a (zv_a h 54) (zv_a h 55) (zv_a h 56) (zv_i h 27) s
/-- what working out a place writes -/
theorem zr_Pg_w {h h' : zx_H} (w : zb_W [(54, 0), (44, 27), (56, 0), (55, 0), (63, 0), (44, 25), (61, 0), (62, 0), (44, 26)] h h') : zr_Pg h' = zr_Pg h := by
  have e : ∀ a, (a = 45 ∨ a = 46 ∨ a = 47 ∨ a = 48 ∨ a = 49 ∨ a = 50 ∨ a = 51 ∨ a = 52) → zv_a h' a = zv_a h a := fun a ha => by
    rcases ha with z | z | z | z | z | z | z | z <;> subst z <;> exact funext (fun q => zv_wa w rfl q)
  have f1 : zv_i h' 1 = zv_i h 1 := zv_wi w rfl
  have f5 : zv_i h' 5 = zv_i h 5 := zv_wi w rfl
  have f10 : zv_i h' 10 = zv_i h 10 := zv_wi w rfl
  unfold zr_Pg
  rw [f1, f5, f10, e 45 (by decide), e 46 (by decide), e 47 (by decide), e 48 (by decide), e 49 (by decide), e 50 (by decide), e 51 (by decide), e 52 (by decide)]
theorem zr_A_w {h h' : zx_H} {s : zS} (w : zb_W [(44, 25), (61, 0), (62, 0), (44, 26)] h h') (a : zr_A h s) : zr_A h' s := by
  have e4 : zv_a h' 54 = zv_a h 54 := funext (fun q => zv_wa w rfl q)
  have e5 : zv_a h' 55 = zv_a h 55 := funext (fun q => zv_wa w rfl q)
  have e6 : zv_a h' 56 = zv_a h 56 := funext (fun q => zv_wa w rfl q)
  have f : zv_i h' 27 = zv_i h 27 := zv_wi w rfl
  unfold zr_A
  rw [e4, e5, e6, f]
  exact a
theorem zr_A_join {h h' : zx_H} {s : zS} {row ρ : Int → Int} {q m e : Int} (n60 : zv_i h 1 ≤ 60) (m0 : 0 ≤ m) (m6 : m ≤ 6) (ho : zs_ok (zr_Pg h) s) (a : zr_A h s) (hr : ∀ j, 0 ≤ j → j < 8 + m → row j = ρ j) (J : zr_J h h' q m e row) : e = (zs_join (zr_Pg h) s q ρ m).1 ∧ zr_A h' (zs_join (zr_Pg h) s q ρ m).2 :=
  zr_a_join (P := zr_Pg h) (row := row) n60 m0 m6 ho a hr J
theorem zr_KI {h h' : zx_H} {row : Int → Int} {q m e : Int} (hk : zg_KI h) (r8 : 1 ≤ m → ¬ row 8 = 3) (m6 : m ≤ 6) (J : zr_J h h' q m e row) : zg_KI h' := by
  intro p p0 p1
  have b := hk p p0 p1
  rcases J with ⟨_, _, _, _, j, _⟩ | ⟨_, _, _, _, _, _, j⟩ | ⟨_, _, _, _, _, _, j, _⟩ | ⟨_, _, _, _, _, _, j, _⟩
  · rw [j _ (by omega)]; exact b
  · rw [j _ (by omega)]
    by_cases c : 14 * q ≤ 14 * p + 8 ∧ 14 * p + 8 < 14 * q + (m + 8)
    · rw [if_pos c, show 14 * p + 8 - 14 * q = 8 by omega]; exact r8 (by omega)
    · rw [if_neg c]; exact b
  · rw [j _ (by omega)]; exact b
  · rw [j _ (by omega)]
    by_cases c : 14 * q ≤ 14 * p + 8 ∧ 14 * p + 8 < 14 * q + (m + 8)
    · rw [if_pos c]; exact fun z => b (zs_jn_2 z (Or.inr rfl)).1
    · rw [if_neg c]; exact b
/-- whole rows of a heap's table -/
theorem zr_whole {h : zx_H} {s : zS} {p : Int} (ho : zs_ok (zr_Pg h) s) (a : zr_A h s) (r : s.R p) : zw_ok (0, zv_a h 56 p, fun j => zv_a h 55 (14 * p + j)) := by
  have b := a.2.1 p r
  have w := ho.1 p r
  rw [b.1]
  exact ⟨⟨zw_cg w.1.1 (fun j j0 j1 => b.2 j j0 (by have := w.2.1; dsimp only at this; omega)), zw_cg w.1.2 (fun j j0 j1 => b.2 j (by omega) j1)⟩, w.2⟩
