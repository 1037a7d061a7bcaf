/-! ===== 96b: code as calls lay it ===== -/
def zs_ad (c : Prop) (n v : Int) (A A' : Int → Int) : Prop := (c → ∀ j, 0 ≤ j → A' j = if j = n then v else A j) ∧ (¬ c → ∀ j, 0 ≤ j → A' j = A j)
theorem zs_ad_y {c : Prop} {n v : Int} {A A' : Int → Int} (h : c) (a : ∀ j, 0 ≤ j → A' j = if j = n then v else A j) : zs_ad c n v A A' := ⟨fun _ => a, fun z => absurd h z⟩
theorem zs_ad_n {c : Prop} {n v : Int} {A A' : Int → Int} (h : ¬ c) (a : ∀ j, 0 ≤ j → A' j = A j) : zs_ad c n v A A' := ⟨fun z => absurd z h, fun _ => a⟩
theorem zs_ad_up {c c' : Prop} {n v : Int} {A A' B : Int → Int} (h : zs_ad c n v A A') (i : c ↔ c') (a : ∀ j, 0 ≤ j → B j = A' j) : zs_ad c' n v A B := ⟨fun z j j0 => (a j j0).trans (h.1 (i.2 z) j j0), fun z j j0 => (a j j0).trans (h.2 (fun y => z (i.1 y)) j j0)⟩
theorem zs_ad_eq {c c' : Prop} {n n' v : Int} {A A' B B' : Int → Int} (h : zs_ad c n v A A') (g : zs_ad c' n' v B B') (i : c ↔ c') (e : n = n') (a : ∀ j, 0 ≤ j → A j = B j) : ∀ j, 0 ≤ j → A' j = B' j := fun j j0 => by
  by_cases z : c
  · rw [h.1 z j j0, g.1 (i.1 z) j j0, e, a j j0]
  · rw [h.2 z j j0, g.2 (fun y => z (i.2 y)) j j0, a j j0]
def zs_a2 (c : Prop) (n k : Int) (A A' : Int → Int) : Prop := (c → ∀ j, 0 ≤ j → A' j = if j = n then k else if k = 2 ∧ j = n + 1 then 3 else A j) ∧ (¬ c → ∀ j, 0 ≤ j → A' j = A j)
theorem zs_a2_eq {c c' : Prop} {n n' v : Int} {A A' B B' : Int → Int} (h : zs_a2 c n v A A') (g : zs_a2 c' n' v B B') (i : c ↔ c') (e : n = n') (a : ∀ j, 0 ≤ j → A j = B j) : ∀ j, 0 ≤ j → A' j = B' j := fun j j0 => by
  by_cases z : c
  · rw [h.1 z j j0, g.1 (i.1 z) j j0, e, a j j0]
  · rw [h.2 z j j0, g.2 (fun y => z (i.2 y)) j j0, a j j0]
theorem zv_neg {h : zx_H} {a : Nat} {j : Int} (h0 : j ≤ 0) : zv_a h a j = zv_a h a 0 := by
  unfold zv_a
  rw [show j.toNat = (0 : Int).toNat by omega]
theorem zv_ext {h h' : zx_H} {a b : Nat} (e : ∀ j, 0 ≤ j → zv_a h a j = zv_a h' b j) : zv_a h a = zv_a h' b := funext (fun j => by
  by_cases c : 0 ≤ j
  · exact e j c
  · rw [zv_neg (h := h) (by omega), zv_neg (h := h') (by omega)]; exact e 0 (by decide))
/-- a code that calls can lay -/
def zP.gd (P : zP) : Prop := (∀ p, 0 ≤ p → p < P.n → (0 ≤ P.op p ∧ P.op p ≤ 28) ∧ (P.op p = 21 → 5 ≤ P.one p ∧ P.one p ≤ 8)) ∧ (∀ t, 0 ≤ t → t < P.hn → 7 ≤ P.tk t ∧ P.tk t ≤ 8) ∧ zw_loc 0 8 (zs_row P) ∧ (∀ j, 0 ≤ j → j < 8 → 0 ≤ zs_row P j ∧ zs_row P j ≤ 8)
theorem zP.gd.ok {P : zP} (h : P.gd) : P.ok := ⟨fun p p0 p1 => ⟨(h.1 p p0 p1).1, fun z => ((h.1 p p0 p1).2 z).1⟩, fun t t0 t1 => by have := h.2.1 t t0 t1; omega, h.2.2.1⟩
theorem zP.gd.nn {P : zP} (h : P.gd) : P.nn := ⟨fun p p0 p1 z => (h.1 p p0 p1).2 z, fun t t0 t1 => by have := h.2.1 t t0 t1; omega, h.2.2.2⟩
theorem zs_row_c {n n' k : Int} {A A' : Int → Int} (n0 : 0 ≤ n) (k1 : k = 1 ∨ k = 2 ∨ (5 ≤ k ∧ k ≤ 8)) (e : (k = 2 ∧ n + 2 ≤ 8 ∧ n' = n + 2) ∨ (¬ k = 2 ∧ n + 1 ≤ 8 ∧ n' = n + 1)) (a : ∀ j, 0 ≤ j → A' j = if j = n then k else if k = 2 ∧ j = n + 1 then 3 else A j) (w : zw_loc 0 8 (fun j => if j < n then A j else 0)) (r : ∀ j, 0 ≤ j → j < 8 → 0 ≤ (if j < n then A j else 0) ∧ (if j < n then A j else 0) ≤ 8) : zw_loc 0 8 (fun j => if j < n' then A' j else 0) ∧ ∀ j, 0 ≤ j → j < 8 → 0 ≤ (if j < n' then A' j else 0) ∧ (if j < n' then A' j else 0) ≤ 8 := by
  have v : ∀ j, 0 ≤ j → (if j < n' then A' j else 0) = if j < n then A j else if j = n then k else if k = 2 ∧ j = n + 1 then 3 else 0 := fun j j0 => by
    by_cases c : j < n
    · rw [if_pos c, if_pos (by omega), a j j0, if_neg (by omega), if_neg (by omega)]
    · rw [if_neg c]
      by_cases d : j < n'
      · rw [if_pos d, a j j0]
        by_cases f : j = n
        · rw [if_pos f, if_pos f]
        · rw [if_neg f, if_neg f]
          by_cases g : k = 2 ∧ j = n + 1
          · rw [if_pos g, if_pos g]
          · exact absurd g (by omega)
      · rw [if_neg d, if_neg (by omega), if_neg (by omega)]
  constructor
  · intro j j0 j1
    dsimp only
    have q := w j j0 j1
    dsimp only at q
    rw [v j j0, v (j + 1) (by omega)]
    by_cases j9 : j = 0
    · subst j9
      refine ⟨fun z => ?_, fun z => ?_⟩
      · by_cases c : (0 : Int) < n
        · rw [if_pos c] at z q
          have y := q.1 z
          by_cases d : (0 : Int) + 1 < n
          · rw [if_pos d] at y ⊢; exact y
          · rw [if_neg d] at y; omega
        · rw [if_neg c] at z
          rw [if_neg (by omega)]
          by_cases d : (0 : Int) = n
          · rw [if_pos d] at z
            rw [if_neg (by omega), if_pos (by omega)]; omega
          · rw [if_neg d] at z
            split at z <;> omega
      · by_cases c : (0 : Int) < n
        · rw [if_pos c] at z q
          exact absurd (q.2 z).1 (by omega)
        · rw [if_neg c] at z
          by_cases d : (0 : Int) = n
          · rw [if_pos d] at z; omega
          · omega
    · rw [v (j - 1) (by omega)]
      refine ⟨fun z => ?_, fun z => ?_⟩
      · by_cases c : j < n
        · rw [if_pos c] at z q
          have y := q.1 z
          by_cases d : j + 1 < n
          · rw [if_pos d] at y ⊢; exact y
          · rw [if_neg d] at y; omega
        · rw [if_neg c] at z
          rw [if_neg (by omega)]
          by_cases d : j = n
          · rw [if_pos d] at z
            rw [if_neg (by omega), if_pos (by omega)]; omega
          · rw [if_neg d] at z
            split at z <;> omega
      · by_cases c : j < n
        · rw [if_pos c] at z q
          have y := q.2 z
          rw [if_pos (by omega)] at y ⊢; exact y
        · rw [if_neg c] at z
          by_cases d : j = n
          · rw [if_pos d] at z; omega
          · rw [if_neg d] at z
            split at z
            · rw [if_neg (by omega), if_pos (by omega)]; omega
            · omega
  · intro j j0 j1
    have q := r j j0 j1
    rw [v j j0]
    by_cases c : j < n
    · rw [if_pos c] at q ⊢; exact q
    · rw [if_neg c]
      split
      · omega
      · split <;> omega
/-- how many of them are so -/
noncomputable def zs_cn (Q : Int → Prop) : Nat → Int
  | 0 => 0
  | n + 1 => zs_cn Q n + zi (Q n) 1 0
theorem zs_cn_s {Q : Int → Prop} {p : Int} (p0 : 0 ≤ p) : zs_cn Q (p + 1).toNat = zs_cn Q p.toNat + zi (Q p) 1 0 := by
  obtain ⟨n, hn⟩ : ∃ n : Nat, p.toNat = n := ⟨_, rfl⟩
  have e : (p + 1).toNat = n + 1 := by omega
  have e2 : p = (n : Int) := by omega
  rw [e, hn]
  show zs_cn Q n + zi (Q n) 1 0 = _
  rw [← e2]
theorem zs_cn_cg {Q Q' : Int → Prop} : ∀ (n : Nat), (∀ p, 0 ≤ p → p < n → (Q p ↔ Q' p)) → zs_cn Q n = zs_cn Q' n
  | 0, _ => rfl
  | n + 1, h => by
    show zs_cn Q n + zi (Q n) 1 0 = zs_cn Q' n + zi (Q' n) 1 0
    rw [zs_cn_cg n (fun p p0 p1 => h p p0 (by omega)), zi_eq (h n (by omega) (by omega))]
