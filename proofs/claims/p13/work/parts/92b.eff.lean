/-! ===== 92b: kinds in the class ===== -/
def zc_g (a b : Int) : Prop := a = b ∨ b = 0 ∨ (a = 4 ∧ 5 ≤ b) ∨ ((a = 6 ∨ a = 7) ∧ b = 5) ∨ (a = 8 ∧ (b = 7 ∨ b = 5))
theorem zc_fit_a {k t : Int} (h : (t = 4 ∧ 4 ≤ k) ∨ (¬ t = 4 ∧ zc_g k t)) : zc_fit k t = true := by
  unfold zc_fit
  rcases h with ⟨a, b⟩ | ⟨a, b⟩
  · rw [if_pos a]; exact decide_eq_true b
  · rw [if_neg a]; unfold zc_g at b; exact decide_eq_true b
theorem zc_fit_b {k t : Int} (h : (t = 4 ∧ ¬ 4 ≤ k) ∨ (¬ t = 4 ∧ ¬ zc_g k t)) : ¬ zc_fit k t = true := by
  unfold zc_fit
  rcases h with ⟨a, b⟩ | ⟨a, b⟩
  · rw [if_pos a]; exact fun z => b (of_decide_eq_true z)
  · rw [if_neg a]; unfold zc_g at b; exact fun z => b (of_decide_eq_true z)
/-- kinds, and no others -/
def zk_in (S : Int) (N : Int → Int) : Prop := ∀ j, 0 ≤ j → j < 8 + S → 0 ≤ N j ∧ N j ≤ 8
theorem zc_take_s {n : Nat} {t S : Int} {N : Int → Int} (t0 : ¬ t = 0) (s0 : ¬ S = 0) (f : zc_fit (N (S + 7)) (t % 16) = true) : zc_take (n + 1) t (0, S, N) = zc_take n (t / 16) (0, S - 1, N) := by
  show (if t = 0 then (0, S, N) else if S = 0 then (2, S, N) else if zc_fit (N (S + 7)) (t % 16) = true then zc_take n (t / 16) (0, S - 1, N) else (1, S, N)) = _
  rw [if_neg t0, if_neg s0, if_pos f]
theorem zc_take_2 {n : Nat} {t S : Int} {N : Int → Int} (t0 : ¬ t = 0) (s0 : S = 0) : zc_take (n + 1) t (0, S, N) = (2, S, N) := by
  show (if t = 0 then (0, S, N) else if S = 0 then (2, S, N) else if zc_fit (N (S + 7)) (t % 16) = true then zc_take n (t / 16) (0, S - 1, N) else (1, S, N)) = _
  rw [if_neg t0, if_pos s0]
theorem zc_take_1 {n : Nat} {t S : Int} {N : Int → Int} (t0 : ¬ t = 0) (s0 : ¬ S = 0) (f : ¬ zc_fit (N (S + 7)) (t % 16) = true) : zc_take (n + 1) t (0, S, N) = (1, S, N) := by
  show (if t = 0 then (0, S, N) else if S = 0 then (2, S, N) else if zc_fit (N (S + 7)) (t % 16) = true then zc_take n (t / 16) (0, S - 1, N) else (1, S, N)) = _
  rw [if_neg t0, if_neg s0, if_neg f]
theorem zc_take_e {n : Nat} {t S : Int} {N : Int → Int} (h : n = 0 ∨ t = 0) : zc_take n t (0, S, N) = (0, S, N) := by
  cases n with
  | zero => rfl
  | succ n =>
    have t0 := h.resolve_left (by omega)
    show (if t = 0 then (0, S, N) else if S = 0 then (2, S, N) else if zc_fit (N (S + 7)) (t % 16) = true then zc_take n (t / 16) (0, S - 1, N) else (1, S, N)) = _
    rw [if_pos t0]
theorem zc_ex_f {T g : Int} {x y : zT} (h : zc_take 4 T x = y) (f : ¬ y.1 = 0) : zc_ex T g x = y := by
  unfold zc_ex
  rw [h, if_pos f]
theorem zc_ex_0 {T g : Int} {x y : zT} (h : zc_take 4 T x = y) (f : y.1 = 0) : zc_ex T g x = if g = 0 then y else zs_push g y := by
  unfold zc_ex
  rw [h, if_neg (fun z => z f)]
theorem zc_st_s {a k : Int} {N N' : Int → Int} (h : ∀ j, 0 ≤ j → N' j = if j = a + zs_wd k ∧ j < 8 ∧ N j = 3 then 0 else if j = a then k else if k = 2 ∧ j = a + 1 then 3 else if j = a - 1 ∧ N j = 2 then 0 else N j) : ∀ j, 0 ≤ j → N' j = zc_st a k N j := h
theorem zc_pop2_c {S R' S' : Int} {N N' : Int → Int} (h : (S < 2 ∧ R' = 2 ∧ S' = S) ∨ (¬ S < 2 ∧ N (S + 6) = 3 ∧ R' = 1 ∧ S' = S) ∨ (¬ S < 2 ∧ ¬ N (S + 6) = 3 ∧ R' = 0 ∧ S' = S - 2)) (hn : ∀ j, 0 ≤ j → N' j = N j) : zt_eq (R', S', N') (zc_pop2 (0, S, N)) := by
  unfold zc_pop2
  dsimp only
  rcases h with ⟨a, b, c⟩ | ⟨a, b, c, d⟩ | ⟨a, b, c, d⟩
  · rw [if_pos a]; exact ⟨b, c, hn⟩
  · rw [if_neg a, if_pos b]; exact ⟨c, d, hn⟩
  · rw [if_neg a, if_neg b]; exact ⟨c, d, hn⟩
theorem zc_store_c {a S R' S' : Int} {N N' : Int → Int} (h : (S = 0 ∧ R' = 2 ∧ S' = S ∧ ∀ j, 0 ≤ j → N' j = N j) ∨ (¬ S = 0 ∧ N (S + 7) = 0 ∧ R' = 1 ∧ S' = S ∧ ∀ j, 0 ≤ j → N' j = N j) ∨ (¬ S = 0 ∧ N (S + 7) = 3 ∧ (0 ≤ a ∧ a ≤ 6) ∧ R' = 0 ∧ S' = S - 2 ∧ ∀ j, 0 ≤ j → N' j = zc_st a 2 N j) ∨ (¬ S = 0 ∧ N (S + 7) = 3 ∧ ¬ (0 ≤ a ∧ a ≤ 6) ∧ R' = 4 ∧ S' = S - 2 ∧ ∀ j, 0 ≤ j → N' j = N j) ∨ (¬ S = 0 ∧ ¬ N (S + 7) = 0 ∧ ¬ N (S + 7) = 3 ∧ (0 ≤ a ∧ a ≤ 7) ∧ R' = 0 ∧ S' = S - 1 ∧ ∀ j, 0 ≤ j → N' j = zc_st a (N (S + 7)) N j) ∨ (¬ S = 0 ∧ ¬ N (S + 7) = 0 ∧ ¬ N (S + 7) = 3 ∧ ¬ (0 ≤ a ∧ a ≤ 7) ∧ R' = 4 ∧ S' = S - 1 ∧ ∀ j, 0 ≤ j → N' j = N j)) : zt_eq (R', S', N') (zc_store a (0, S, N)) := by
  unfold zc_store
  dsimp only
  rcases h with ⟨a1, b, c, d⟩ | ⟨a1, b, c, d, e⟩ | ⟨a1, b, c, d, e, f⟩ | ⟨a1, b, c, d, e, f⟩ | ⟨a1, b, c, d, e, f, g⟩ | ⟨a1, b, c, d, e, f, g⟩
  · rw [if_pos a1]; exact ⟨b, c, d⟩
  · rw [if_neg a1, if_pos b]; exact ⟨c, d, e⟩
  · rw [if_neg a1, if_neg (by omega), if_pos b, if_pos c]; exact ⟨d, e, f⟩
  · rw [if_neg a1, if_neg (by omega), if_pos b, if_neg c]; exact ⟨d, e, f⟩
  · rw [if_neg a1, if_neg b, if_neg c, if_pos d]; exact ⟨e, f, g⟩
  · rw [if_neg a1, if_neg b, if_neg c, if_neg d]; exact ⟨e, f, g⟩
theorem zc_st_e1 {a k : Int} {N M : Int → Int} (hM : ∀ j, 0 ≤ j → M j = if j = a then k else N j) (hk : ¬ k = 2) (h0 : ¬ a < 0) (hm : a ≤ 0 ∨ ¬ N (a - 1) = 2) (hn : 8 ≤ a + 1 ∨ ¬ N (a + 1) = 3) : ∀ j, 0 ≤ j → M j = zc_st a k N j := by
  intro j j0
  rw [hM j j0]
  unfold zc_st zs_wd
  clear hM
  have e1 : j = a - 1 → N j = N (a - 1) := fun e => by rw [e]
  have e2 : j = a + 1 → N j = N (a + 1) := fun e => by rw [e]
  have e3 : j = a + 2 → N j = N (a + 2) := fun e => by rw [e]
  (repeat' split) <;> omega
theorem zc_st_e2 {a k : Int} {N M : Int → Int} (hM : ∀ j, 0 ≤ j → M j = if j = a then k else if j = a - 1 then 0 else N j) (hk : ¬ k = 2) (h0 : ¬ a < 0) (hm : ¬ (¬ N (a - 1) = 2)) (hn : 8 ≤ a + 1 ∨ ¬ N (a + 1) = 3) : ∀ j, 0 ≤ j → M j = zc_st a k N j := by
  intro j j0
  rw [hM j j0]
  unfold zc_st zs_wd
  clear hM
  have e1 : j = a - 1 → N j = N (a - 1) := fun e => by rw [e]
  have e2 : j = a + 1 → N j = N (a + 1) := fun e => by rw [e]
  have e3 : j = a + 2 → N j = N (a + 2) := fun e => by rw [e]
  (repeat' split) <;> omega
theorem zc_st_e3 {a k : Int} {N M : Int → Int} (hM : ∀ j, 0 ≤ j → M j = if j = a + 1 then 0 else if j = a then k else N j) (hk : ¬ k = 2) (h0 : ¬ a < 0) (hm : a ≤ 0 ∨ ¬ N (a - 1) = 2) (h8 : ¬ 8 ≤ a + 1) (hn : ¬ (¬ N (a + 1) = 3)) : ∀ j, 0 ≤ j → M j = zc_st a k N j := by
  intro j j0
  rw [hM j j0]
  unfold zc_st zs_wd
  clear hM
  have e1 : j = a - 1 → N j = N (a - 1) := fun e => by rw [e]
  have e2 : j = a + 1 → N j = N (a + 1) := fun e => by rw [e]
  have e3 : j = a + 2 → N j = N (a + 2) := fun e => by rw [e]
  (repeat' split) <;> omega
theorem zc_st_e4 {a k : Int} {N M : Int → Int} (hM : ∀ j, 0 ≤ j → M j = if j = a + 1 then 0 else if j = a then k else if j = a - 1 then 0 else N j) (hk : ¬ k = 2) (h0 : ¬ a < 0) (hm : ¬ (¬ N (a - 1) = 2)) (h8 : ¬ 8 ≤ a + 1) (hn : ¬ (¬ N (a + 1) = 3)) : ∀ j, 0 ≤ j → M j = zc_st a k N j := by
  intro j j0
  rw [hM j j0]
  unfold zc_st zs_wd
  clear hM
  have e1 : j = a - 1 → N j = N (a - 1) := fun e => by rw [e]
  have e2 : j = a + 1 → N j = N (a + 1) := fun e => by rw [e]
  have e3 : j = a + 2 → N j = N (a + 2) := fun e => by rw [e]
  (repeat' split) <;> omega
theorem zc_st_e5 {a k : Int} {N M : Int → Int} (hM : ∀ j, 0 ≤ j → M j = if j = a + 1 then 3 else if j = a then k else N j) (hk : ¬ (¬ k = 2)) (h0 : ¬ a < 0) (hm : a ≤ 0 ∨ ¬ N (a - 1) = 2) (hn : 8 ≤ a + 2 ∨ ¬ N (a + 2) = 3) : ∀ j, 0 ≤ j → M j = zc_st a k N j := by
  intro j j0
  rw [hM j j0]
  unfold zc_st zs_wd
  clear hM
  have e1 : j = a - 1 → N j = N (a - 1) := fun e => by rw [e]
  have e2 : j = a + 1 → N j = N (a + 1) := fun e => by rw [e]
  have e3 : j = a + 2 → N j = N (a + 2) := fun e => by rw [e]
  (repeat' split) <;> omega
theorem zc_st_e6 {a k : Int} {N M : Int → Int} (hM : ∀ j, 0 ≤ j → M j = if j = a + 1 then 3 else if j = a then k else if j = a - 1 then 0 else N j) (hk : ¬ (¬ k = 2)) (h0 : ¬ a < 0) (hm : ¬ (¬ N (a - 1) = 2)) (hn : 8 ≤ a + 2 ∨ ¬ N (a + 2) = 3) : ∀ j, 0 ≤ j → M j = zc_st a k N j := by
  intro j j0
  rw [hM j j0]
  unfold zc_st zs_wd
  clear hM
  have e1 : j = a - 1 → N j = N (a - 1) := fun e => by rw [e]
  have e2 : j = a + 1 → N j = N (a + 1) := fun e => by rw [e]
  have e3 : j = a + 2 → N j = N (a + 2) := fun e => by rw [e]
  (repeat' split) <;> omega
theorem zc_st_e7 {a k : Int} {N M : Int → Int} (hM : ∀ j, 0 ≤ j → M j = if j = a + 2 then 0 else if j = a + 1 then 3 else if j = a then k else N j) (hk : ¬ (¬ k = 2)) (h0 : ¬ a < 0) (hm : a ≤ 0 ∨ ¬ N (a - 1) = 2) (h8 : ¬ 8 ≤ a + 2) (hn : ¬ (¬ N (a + 2) = 3)) : ∀ j, 0 ≤ j → M j = zc_st a k N j := by
  intro j j0
  rw [hM j j0]
  unfold zc_st zs_wd
  clear hM
  have e1 : j = a - 1 → N j = N (a - 1) := fun e => by rw [e]
  have e2 : j = a + 1 → N j = N (a + 1) := fun e => by rw [e]
  have e3 : j = a + 2 → N j = N (a + 2) := fun e => by rw [e]
  (repeat' split) <;> omega
theorem zc_st_e8 {a k : Int} {N M : Int → Int} (hM : ∀ j, 0 ≤ j → M j = if j = a + 2 then 0 else if j = a + 1 then 3 else if j = a then k else if j = a - 1 then 0 else N j) (hk : ¬ (¬ k = 2)) (h0 : ¬ a < 0) (hm : ¬ (¬ N (a - 1) = 2)) (h8 : ¬ 8 ≤ a + 2) (hn : ¬ (¬ N (a + 2) = 3)) : ∀ j, 0 ≤ j → M j = zc_st a k N j := by
  intro j j0
  rw [hM j j0]
  unfold zc_st zs_wd
  clear hM
  have e1 : j = a - 1 → N j = N (a - 1) := fun e => by rw [e]
  have e2 : j = a + 1 → N j = N (a + 1) := fun e => by rw [e]
  have e3 : j = a + 2 → N j = N (a + 2) := fun e => by rw [e]
  (repeat' split) <;> omega
theorem zc_wd1 {a k : Int} (h1 : ¬ k = 2) (h2 : ¬ a < 0) (h3 : a ≤ 7) : 0 ≤ a ∧ a + zs_wd k ≤ 8 := by unfold zs_wd; rw [if_neg h1]; omega
theorem zc_wd2 {a k : Int} (h1 : ¬ (¬ k = 2)) (h2 : ¬ a < 0) (h3 : a ≤ 6) : 0 ≤ a ∧ a + zs_wd k ≤ 8 := by unfold zs_wd; rw [if_pos (Decidable.not_not.mp h1)]; omega
