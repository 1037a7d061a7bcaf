/-! ===== 53: what make works out goes down ===== -/
def zg_sum (f : Int → Int) : Nat → Int
  | 0 => 0
  | n + 1 => zg_sum f n + f n
theorem zg_sum_le {f g : Int → Int} : ∀ {n : Nat}, (∀ i : Int, 0 ≤ i → i < n → f i ≤ g i) → zg_sum f n ≤ zg_sum g n
  | 0, _ => Int.le_refl _
  | n + 1, h => by
    rw [zg_sum, zg_sum]
    have h1 := zg_sum_le (n := n) (fun i a b => h i a (by omega))
    have h2 := h n (by omega) (by omega)
    omega
theorem zg_sum_lt {f g : Int → Int} {j : Int} (j0 : 0 ≤ j) (hj : f j < g j) : ∀ {n : Nat}, j < n → (∀ i : Int, 0 ≤ i → i < n → f i ≤ g i) → zg_sum f n < zg_sum g n
  | 0, j1, _ => by omega
  | n + 1, j1, h => by
    rw [zg_sum, zg_sum]
    have h2 := h n (by omega) (by omega)
    by_cases e : j = n
    · have h1 := zg_sum_le (n := n) (fun i a b => h i a (by omega))
      subst e
      omega
    · have h1 := zg_sum_lt j0 hj (n := n) (by omega) (fun i a b => h i a (by omega))
      omega
theorem zg_sum_eq {f g : Int → Int} : ∀ {n : Nat}, (∀ i : Int, 0 ≤ i → i < n → f i = g i) → zg_sum f n = zg_sum g n
  | 0, _ => rfl
  | n + 1, h => by
    rw [zg_sum, zg_sum, zg_sum_eq (n := n) (fun i a b => h i a (by omega)), h n (by omega) (by omega)]
theorem zg_sum_ub {f : Int → Int} {c : Int} : ∀ {n : Nat}, (∀ i : Int, 0 ≤ i → i < n → f i ≤ c) → zg_sum f n ≤ c * n
  | 0, _ => by simp [zg_sum]
  | n + 1, h => by
    have h1 := zg_sum_ub (n := n) (fun i a b => h i a (by omega))
    have h2 := h n (by omega) (by omega)
    rw [zg_sum, Int.natCast_add, Int.mul_add]
    omega
theorem zg_sum_0 {f : Int → Int} : ∀ {n : Nat}, (∀ i : Int, 0 ≤ i → i < n → 0 ≤ f i) → 0 ≤ zg_sum f n
  | 0, _ => Int.le_refl _
  | n + 1, h => by
    have h1 := zg_sum_0 (n := n) (fun i a b => h i a (by omega))
    have h2 := h n (by omega) (by omega)
    rw [zg_sum]
    omega
def zg_g (h : zx_H) (q k : Int) : Int := zg_r (zv_a h 55 (14 * q + k))
def zg_f (h : zx_H) (q : Int) : Int := if zv_a h 54 q = 1 then zg_sum (zg_g h q) 14 else 57
def zg_mu (h : zx_H) : Int := zg_sum (zg_f h) 60
theorem zg_f_b (h : zx_H) (q : Int) : 0 ≤ zg_f h q ∧ zg_f h q ≤ 57 := by
  unfold zg_f
  split
  · have h1 := zg_sum_0 (f := zg_g h q) (n := 14) (fun i _ _ => (zg_r_b _).1)
    have h2 := zg_sum_ub (f := zg_g h q) (c := 4) (n := 14) (fun i _ _ => (zg_r_b _).2)
    omega
  · omega
theorem zg_mu_b (h : zx_H) : 0 ≤ zg_mu h ∧ zg_mu h ≤ 3420 := by
  have h1 := zg_sum_0 (f := zg_f h) (n := 60) (fun i _ _ => (zg_f_b h i).1)
  have h2 := zg_sum_ub (f := zg_f h) (c := 57) (n := 60) (fun i _ _ => (zg_f_b h i).2)
  unfold zg_mu
  omega
def zg_KI (h : zx_H) : Prop := ∀ q, 0 ≤ q → q < 60 → ¬ zv_a h 55 (14 * q + 8) = 3
def zg_J (h h' : zx_H) : Prop := zg_mu h' ≤ zg_mu h ∧ (zv_i h' 27 = 1 → zv_i h 27 = 1 ∨ zg_mu h' < zg_mu h) ∧ (zv_i h 27 = 1 → zv_i h' 27 = 1) ∧ (∀ q, 0 ≤ q → zv_a h 54 q = 1 → zv_a h' 54 q = 1) ∧ (zv_i h' 27 = 0 → ∀ q, 0 ≤ q → zv_a h' 54 q = zv_a h 54 q) ∧ zg_KI h'
theorem zg_J.tr {h h' h'' : zx_H} (hb : zv_i h' 27 = 0 ∨ zv_i h' 27 = 1) (a : zg_J h h') (b : zg_J h' h'') : zg_J h h'' := by
  obtain ⟨a1, a2, a3, a4, a5, a6⟩ := a
  obtain ⟨b1, b2, b3, b4, b5, b6⟩ := b
  refine ⟨by omega, by omega, by omega, fun q q0 hq => b4 q q0 (a4 q q0 hq), fun hc q q0 => ?_, b6⟩
  have hc2 : zv_i h' 27 = 0 := by omega
  rw [b5 hc q q0, a5 hc2 q q0]
theorem zg_mu_w {W : List (Nat × Nat)} {h h' : zx_H} (w : zb_W W h h') (e1 : za_in W 54 0 = false) (e2 : za_in W 55 0 = false) : zg_mu h' = zg_mu h := by
  unfold zg_mu
  refine zg_sum_eq fun q _ _ => ?_
  unfold zg_f
  rw [zv_wa w e1]
  split
  · exact zg_sum_eq fun k _ _ => by unfold zg_g; rw [zv_wa w e2]
  · rfl
theorem zg_KI.w {W : List (Nat × Nat)} {h h' : zx_H} (hk : zg_KI h) (w : zb_W W h h') (e2 : za_in W 55 0 = false) : zg_KI h' := fun q q0 q1 => by
  rw [zv_wa w e2]; exact hk q q0 q1
theorem zg_J.fr {W : List (Nat × Nat)} {h h' : zx_H} (hk : zg_KI h) (w : zb_W W h h') (e1 : za_in W 54 0 = false) (e2 : za_in W 55 0 = false) (e3 : za_in W 44 27 = false) : zg_J h h' :=
  ⟨by rw [zg_mu_w w e1 e2]; exact Int.le_refl _, fun z => Or.inl (by rw [← zv_wi w e3]; exact z), fun z => by rw [zv_wi w e3]; exact z, fun q q0 z => by rw [zv_wa w e1]; exact z, fun _ q _ => zv_wa w e1 q, hk.w w e2⟩
/-- a PLACE that is reached now -/
theorem zg_J.nw {h h' : zx_H} {p : Int} (p0 : 0 ≤ p) (p1 : p < 60) (n0 : ¬ zv_a h 54 p = 1) (r1 : zv_a h' 54 p = 1) (r2 : ∀ q, 0 ≤ q → ¬ q = p → zv_a h' 54 q = zv_a h 54 q) (kd : ∀ q, 0 ≤ q → (q < 14 * p ∨ 14 * p + 14 ≤ q) → zv_a h' 55 q = zv_a h 55 q) (ch : zv_i h' 27 = 1) (hk : zg_KI h) (k8 : ¬ zv_a h' 55 (14 * p + 8) = 3) : zg_J h h' := by
  have hf : ∀ q : Int, 0 ≤ q → q < (60 : Nat) → zg_f h' q ≤ zg_f h q := fun q q0 q1 => by
    by_cases e : q = p
    · subst e
      have h1 := zg_f_b h' q
      have h2 : zg_f h q = 57 := by unfold zg_f; rw [if_neg n0]
      omega
    · unfold zg_f
      rw [r2 q q0 e]
      split
      · refine Int.le_of_eq (zg_sum_eq fun k k0 k1 => ?_)
        unfold zg_g
        rw [kd (14 * q + k) (by omega) (by omega)]
      · omega
  have hl : zg_mu h' < zg_mu h := by
    unfold zg_mu
    refine zg_sum_lt p0 ?_ (by omega) hf
    have h2 : zg_f h p = 57 := by unfold zg_f; rw [if_neg n0]
    have h3 : zg_f h' p ≤ 56 := by
      unfold zg_f
      rw [if_pos r1]
      have h2 := zg_sum_ub (f := zg_g h' p) (c := 4) (n := 14) (fun i _ _ => (zg_r_b _).2)
      omega
    omega
  refine ⟨by omega, fun _ => Or.inr hl, fun _ => ch, fun q q0 hq => ?_, fun z => by omega, fun q q0 q1 => ?_⟩
  · by_cases e : q = p
    · rw [e]; exact r1
    · rw [r2 q q0 e]; exact hq
  · by_cases e : q = p
    · rw [e]; exact k8
    · rw [kd _ (by omega) (by omega)]; exact hk q q0 q1
/-- a PLACE that was -/
theorem zg_J.od {h h' : zx_H} {p : Int} (p0 : 0 ≤ p) (p1 : p < 60) (r2 : ∀ q, zv_a h' 54 q = zv_a h 54 q) (kd : ∀ q, 0 ≤ q → (q < 14 * p ∨ 14 * p + 14 ≤ q) → zv_a h' 55 q = zv_a h 55 q) (hr : zv_a h 54 p = 1) (kk : ∀ j, 0 ≤ j → j < 14 → zv_a h' 55 (14 * p + j) = zv_a h 55 (14 * p + j) ∨ zg_g h' p j < zg_g h p j) (c1 : zv_i h' 27 = 1 → zv_i h 27 = 1 ∨ ∃ j, 0 ≤ j ∧ j < 14 ∧ zg_g h' p j < zg_g h p j) (c2 : zv_i h 27 = 1 → zv_i h' 27 = 1) (hk : zg_KI h) (k8 : ¬ zv_a h' 55 (14 * p + 8) = 3) : zg_J h h' := by
  have hg : ∀ j : Int, 0 ≤ j → j < (14 : Nat) → zg_g h' p j ≤ zg_g h p j := fun j j0 j1 => by
    rcases kk j j0 (by omega) with e | e
    · unfold zg_g; rw [e]; exact Int.le_refl _
    · omega
  have hf : ∀ q : Int, 0 ≤ q → q < (60 : Nat) → zg_f h' q ≤ zg_f h q := fun q q0 q1 => by
    unfold zg_f
    rw [r2 q]
    split
    · by_cases e : q = p
      · subst e; exact zg_sum_le hg
      · refine Int.le_of_eq (zg_sum_eq fun k k0 k1 => ?_)
        unfold zg_g
        rw [kd (14 * q + k) (by omega) (by omega)]
    · omega
  refine ⟨by unfold zg_mu; exact zg_sum_le hf, fun z => ?_, c2, fun q _ hq => by rw [r2 q]; exact hq, fun _ q _ => r2 q, fun q q0 q1 => ?_⟩
  · rcases c1 z with z | ⟨j, j0, j1, hj⟩
    · exact Or.inl z
    · refine Or.inr ?_
      unfold zg_mu
      refine zg_sum_lt p0 ?_ (by omega) hf
      unfold zg_f
      rw [r2 p, if_pos hr, if_pos hr]
      exact zg_sum_lt j0 hj (by omega) hg
  · by_cases e : q = p
    · rw [e]; exact k8
    · rw [kd _ (by omega) (by omega)]; exact hk q q0 q1
theorem zg_r_p {x : Int} (h : ¬ x = 0) : 0 < zg_r x := by
  unfold zg_r
  rw [if_neg h]
  repeat' split
  all_goals omega
theorem zg_wz {x y k : Int} (h : x = y ∨ x = 0) (b : y = k ∨ zg_r y < zg_r k) : x = k ∨ zg_r x < zg_r k := by
  rcases h with e | e
  · rw [e]; exact b
  · by_cases z : k = 0
    · exact Or.inl (by omega)
    · refine Or.inr ?_
      rw [e, show zg_r 0 = 0 from rfl]
      exact zg_r_p z
theorem zg_js {h h2 h3 : zx_H} {place k V : Int} (q1 : 0 ≤ place) (k1 : 0 ≤ k) (k2 : k < 14) (st : ∀ j, 0 ≤ j → zv_a h3 55 j = if j = 14 * place + k then V else zv_a h2 55 j) (bo : (V = zv_a h 55 (14 * place + k) ∨ zg_r V < zg_r (zv_a h 55 (14 * place + k))) ∧ (k = 8 → ¬ V = 3)) (kd : ∀ q, 0 ≤ q → (q < 14 * place ∨ 14 * place + 14 ≤ q) → zv_a h2 55 q = zv_a h 55 q) (kk : ∀ j, 0 ≤ j → j < 14 → zv_a h2 55 (14 * place + j) = zv_a h 55 (14 * place + j) ∨ zg_g h2 place j < zg_g h place j) (kl : ∀ j, k ≤ j → j < 14 → zv_a h2 55 (14 * place + j) = zv_a h 55 (14 * place + j)) (k8 : ¬ zv_a h2 55 (14 * place + 8) = 3) :
    (∀ q, 0 ≤ q → (q < 14 * place ∨ 14 * place + 14 ≤ q) → zv_a h3 55 q = zv_a h 55 q) ∧ (∀ j, 0 ≤ j → j < 14 → zv_a h3 55 (14 * place + j) = zv_a h 55 (14 * place + j) ∨ zg_g h3 place j < zg_g h place j) ∧ (∀ j, k + 1 ≤ j → j < 14 → zv_a h3 55 (14 * place + j) = zv_a h 55 (14 * place + j)) ∧ ¬ zv_a h3 55 (14 * place + 8) = 3 ∧ (∀ j, 0 ≤ j → j < 14 → zg_g h2 place j < zg_g h place j → zg_g h3 place j < zg_g h place j) ∧ (¬ zv_a h2 55 (14 * place + k) = V → zg_g h3 place k < zg_g h place k) := by
  have s1 : zv_a h3 55 (14 * place + k) = V := by rw [st _ (by omega), if_pos rfl]
  have s2 : ∀ j, 0 ≤ j → ¬ j = k → zv_a h3 55 (14 * place + j) = zv_a h2 55 (14 * place + j) := fun j j0 hj => by rw [st _ (by omega), if_neg (by omega)]
  have s3 : ∀ j, 0 ≤ j → ¬ j = k → zg_g h3 place j = zg_g h2 place j := fun j j0 hj => by unfold zg_g; rw [s2 j j0 hj]
  have s4 : zg_g h3 place k = zg_r V := by unfold zg_g; rw [s1]
  refine ⟨fun q q0 hq => ?_, fun j j0 j1 => ?_, fun j j0 j1 => ?_, ?_, fun j j0 j1 hj => ?_, fun hn => ?_⟩
  · rw [st q q0, if_neg (by omega)]; exact kd q q0 hq
  · by_cases e : j = k
    · subst e; rw [s1, s4]; exact bo.1
    · rw [s2 j j0 e, s3 j j0 e]; exact kk j j0 j1
  · rw [s2 j (by omega) (by omega)]; exact kl j (by omega) j1
  · by_cases e : (8 : Int) = k
    · rw [e, s1]; exact bo.2 e.symm
    · rw [s2 8 (by omega) e]; exact k8
  · by_cases e : j = k
    · subst e
      have := kl j (Int.le_refl _) j1
      unfold zg_g at hj
      rw [this] at hj
      omega
    · rw [s3 j j0 e]; exact hj
  · rw [s4]
    rcases bo.1 with z | z
    · exact absurd ((kl k (Int.le_refl _) k2).trans z.symm) hn
    · exact z
