/-! ===== 80: kinds, worked by pure functions ===== -/
def zs_jn (a b : Int) : Int := if a = b ∨ b = 0 ∨ (a = 4 ∧ 5 ≤ b) ∨ ((a = 6 ∨ a = 7) ∧ b = 5) ∨ (a = 8 ∧ (b = 7 ∨ b = 5)) then b else if b = a ∨ a = 0 ∨ (b = 4 ∧ 5 ≤ a) ∨ ((b = 6 ∨ b = 7) ∧ a = 5) ∨ (b = 8 ∧ (a = 7 ∨ a = 5)) then a else if 5 ≤ a ∧ 5 ≤ b then 5 else 0
theorem zj_1 {a b : Int} (g : (a = b ∨ b = 0 ∨ (a = 4 ∧ 5 ≤ b) ∨ ((a = 6 ∨ a = 7) ∧ b = 5) ∨ (a = 8 ∧ (b = 7 ∨ b = 5)))) : b = zs_jn a b := by unfold zs_jn; rw [if_pos g]
theorem zj_2 {a b : Int} (n : ¬ (a = b ∨ b = 0 ∨ (a = 4 ∧ 5 ≤ b) ∨ ((a = 6 ∨ a = 7) ∧ b = 5) ∨ (a = 8 ∧ (b = 7 ∨ b = 5)))) (g : (b = a ∨ a = 0 ∨ (b = 4 ∧ 5 ≤ a) ∨ ((b = 6 ∨ b = 7) ∧ a = 5) ∨ (b = 8 ∧ (a = 7 ∨ a = 5)))) : a = zs_jn a b := by unfold zs_jn; rw [if_neg n, if_pos g]
theorem zj_3 {a b : Int} (n : ¬ (a = b ∨ b = 0 ∨ (a = 4 ∧ 5 ≤ b) ∨ ((a = 6 ∨ a = 7) ∧ b = 5) ∨ (a = 8 ∧ (b = 7 ∨ b = 5)))) (n2 : ¬ (b = a ∨ a = 0 ∨ (b = 4 ∧ 5 ≤ a) ∨ ((b = 6 ∨ b = 7) ∧ a = 5) ∨ (b = 8 ∧ (a = 7 ∨ a = 5)))) (x : 5 ≤ a) (y : 5 ≤ b) : 5 = zs_jn a b := by unfold zs_jn; rw [if_neg n, if_neg n2, if_pos ⟨x, y⟩]
theorem zj_4 {a b : Int} (n : ¬ (a = b ∨ b = 0 ∨ (a = 4 ∧ 5 ≤ b) ∨ ((a = 6 ∨ a = 7) ∧ b = 5) ∨ (a = 8 ∧ (b = 7 ∨ b = 5)))) (n2 : ¬ (b = a ∨ a = 0 ∨ (b = 4 ∧ 5 ≤ a) ∨ ((b = 6 ∨ b = 7) ∧ a = 5) ∨ (b = 8 ∧ (a = 7 ∨ a = 5)))) (x : a < 5 ∨ b < 5) : 0 = zs_jn a b := by unfold zs_jn; rw [if_neg n, if_neg n2, if_neg (fun y => by omega)]
theorem zj_t {v : Int} {P : Prop} (x : (v = 1 ∧ P) ∨ (v = 0 ∧ ¬ P)) (c : ¬ v = 0) : P := x.elim (fun y => y.2) (fun y => absurd y.1 c)
theorem zj_f {v : Int} {P : Prop} (x : (v = 1 ∧ P) ∨ (v = 0 ∧ ¬ P)) (c : v = 0) : ¬ P := x.elim (fun y => absurd (c.symm.trans y.1) (by decide)) (fun y => y.2)
/-- fault, size of the stack, kinds -/
abbrev zT : Type := Int × Int × (Int → Int)
def zt_eq (x y : zT) : Prop := x.1 = y.1 ∧ x.2.1 = y.2.1 ∧ ∀ j, 0 ≤ j → x.2.2 j = y.2.2 j
def zs_fit (k w : Int) : Bool := decide ((w = 1 → k = 1) ∧ (w = 2 → k = 3) ∧ (w = 5 → 4 ≤ k) ∧ (w = 6 → k = 6 ∨ k = 4) ∧ (w = 7 → k = 7 ∨ k = 8 ∨ k = 4))
def zs_need (w : Int) (x : zT) : zT := if ¬ x.1 = 0 then x else if x.2.1 = 0 then (2, x.2) else if zs_fit (x.2.2 (x.2.1 + 7)) w = true then (0, x.2.1 - (if w = 2 then 2 else 1), x.2.2) else (1, x.2)
def zs_wd (k : Int) : Int := if k = 2 then 2 else 1
def zs_push (k : Int) (x : zT) : zT := if ¬ x.1 = 0 then x else if 6 < x.2.1 + zs_wd k then (3, x.2) else (0, x.2.1 + zs_wd k, fun j => if j = x.2.1 + 8 then k else if k = 2 ∧ j = x.2.1 + 9 then 3 else x.2.2 j)
def zs_pop1 (x : zT) : zT := if x.2.1 = 0 then (2, x.2) else if x.2.2 (x.2.1 + 7) = 3 then (1, x.2) else (0, x.2.1 - 1, x.2.2)
def zs_pop2 (x : zT) : zT := if x.2.1 = 0 then (2, x.2) else if x.2.2 (x.2.1 + 7) = 3 then (0, x.2.1 - 2, x.2.2) else zs_pop1 (0, x.2.1 - 1, x.2.2)
def zs_load (a : Int) (x : zT) : zT := if ¬ (0 ≤ a ∧ a ≤ 7) then (4, x.2) else if x.2.2 a = 0 ∨ x.2.2 a = 3 then (1, x.2) else zs_push (x.2.2 a) x
/-- a 2 without a 3 behind it, a 3 without a 2 ahead, become 0 (places f to u - 1) -/
def zs_wh (f u : Int) (N : Int → Int) (j : Int) : Int := if j < f ∨ u ≤ j then N j else if N j = 2 then (if j + 1 < u ∧ N (j + 1) = 3 then 2 else 0) else if N j = 3 then (if f < j ∧ N (j - 1) = 2 then 3 else 0) else N j
def zs_store (a : Int) (x : zT) : zT := if x.2.1 = 0 then (2, x.2) else if x.2.2 (x.2.1 + 7) = 0 then (1, x.2) else if x.2.2 (x.2.1 + 7) = 3 then (if 0 ≤ a ∧ a ≤ 6 then (0, x.2.1 - 2, zs_wh 0 8 (fun j => if j = a then 2 else if j = a + 1 then 3 else x.2.2 j)) else (4, x.2.1 - 2, x.2.2)) else (if 0 ≤ a ∧ a ≤ 7 then (0, x.2.1 - 1, zs_wh 0 8 (fun j => if j = a then x.2.2 (x.2.1 + 7) else x.2.2 j)) else (4, x.2.1 - 1, x.2.2))
def zs_inc (a : Int) (x : zT) : zT := if ¬ (0 ≤ a ∧ a ≤ 7) then (4, x.2) else if x.2.2 a = 1 then x else (1, x.2)
/-- what an op does to kinds -/
def zs_ap (o a : Int) (x : zT) : zT :=
  if o = 1 then zs_push 1 x else if o = 2 then zs_push 2 x else if o = 3 then zs_push 4 x else if o = 4 then zs_push 5 x else if o = 5 then zs_push 7 x else if o = 6 then zs_push 8 x
  else if o = 7 then zs_push 6 (zs_need 1 x) else if o = 8 then zs_load a x else if o = 9 then zs_store a x else if o = 10 then zs_pop1 x else if o = 11 then zs_pop2 x
  else if o = 12 ∨ o = 13 then zs_push 1 (zs_need 1 (zs_need 1 x)) else if o = 14 then zs_push 2 (zs_need 2 (zs_need 2 x)) else if o = 15 then zs_push 1 (zs_need 2 x) else if o = 16 then zs_push 2 (zs_need 1 x)
  else if o = 17 then zs_push 1 (zs_need 6 (zs_need 1 x)) else if o = 18 then zs_need 6 (zs_need 1 (zs_need 1 x)) else if o = 19 then zs_push 1 (zs_need 6 x) else if o = 20 then zs_push 1 (zs_need 7 x) else if o = 21 then zs_push a (zs_need 5 x)
  else if o = 22 then zs_need 7 x else if o = 25 ∨ o = 27 then zs_need 1 x else if o = 26 then zs_need 5 x else if o = 28 then zs_inc a x else x
theorem zs_fit_t {k w : Int} (h : (w = 1 → k = 1) ∧ (w = 2 → k = 3) ∧ (w = 5 → 4 ≤ k) ∧ (w = 6 → k = 6 ∨ k = 4) ∧ (w = 7 → k = 7 ∨ k = 8 ∨ k = 4)) : zs_fit k w = true := decide_eq_true h
theorem zs_fit_f {k w : Int} (h : ¬ ((w = 1 → k = 1) ∧ (w = 2 → k = 3) ∧ (w = 5 → 4 ≤ k) ∧ (w = 6 → k = 6 ∨ k = 4) ∧ (w = 7 → k = 7 ∨ k = 8 ∨ k = 4))) : zs_fit k w = false := decide_eq_false h
theorem zt_eq.rf {x : zT} : zt_eq x x := ⟨rfl, rfl, fun _ _ => rfl⟩
theorem zt_eq.tr {x y z : zT} (a : zt_eq x y) (b : zt_eq y z) : zt_eq x z := ⟨a.1.trans b.1, a.2.1.trans b.2.1, fun j j0 => (a.2.2 j j0).trans (b.2.2 j j0)⟩
theorem zt_eq.sy {x y : zT} (a : zt_eq x y) : zt_eq y x := ⟨a.1.symm, a.2.1.symm, fun j j0 => (a.2.2 j j0).symm⟩
/-- alike where it matters -/
def zt_ag (x y : zT) : Prop := x.1 = y.1 ∧ x.2.1 = y.2.1 ∧ ∀ j, 0 ≤ j → j < x.2.1 + 8 → x.2.2 j = y.2.2 j
theorem zt_eq.ag {x y : zT} (a : zt_eq x y) : zt_ag x y := ⟨a.1, a.2.1, fun j j0 _ => a.2.2 j j0⟩
theorem zt_ag.rf {x : zT} : zt_ag x x := ⟨rfl, rfl, fun _ _ _ => rfl⟩
theorem zt_ag.sy {x y : zT} (a : zt_ag x y) : zt_ag y x := ⟨a.1.symm, a.2.1.symm, fun j j0 j1 => (a.2.2 j j0 (by rw [a.2.1]; exact j1)).symm⟩
theorem zt_ag.tr {x y z : zT} (a : zt_ag x y) (b : zt_ag y z) : zt_ag x z := ⟨a.1.trans b.1, a.2.1.trans b.2.1, fun j j0 j1 => (a.2.2 j j0 j1).trans (b.2.2 j j0 (by rw [← a.2.1]; exact j1))⟩
theorem zs_need_eq {w : Int} {x y : zT} (a : zt_eq x y) (s0 : 0 ≤ x.2.1) : zt_eq (zs_need w x) (zs_need w y) := by
  obtain ⟨a1, a2, a3⟩ := a
  obtain ⟨x1, x2, x3⟩ := x
  obtain ⟨y1, y2, y3⟩ := y
  dsimp only at a1 a2 a3 s0
  subst a1 a2
  unfold zs_need
  simp only [a3 (x2 + 7) (by omega)]
  split
  · exact ⟨rfl, rfl, a3⟩
  · split
    · exact ⟨rfl, rfl, a3⟩
    · split <;> exact ⟨rfl, rfl, a3⟩
theorem zs_push_eq {k : Int} {x y : zT} (a : zt_eq x y) : zt_eq (zs_push k x) (zs_push k y) := by
  obtain ⟨a1, a2, a3⟩ := a
  obtain ⟨x1, x2, x3⟩ := x
  obtain ⟨y1, y2, y3⟩ := y
  dsimp only at a1 a2 a3
  subst a1 a2
  unfold zs_push
  dsimp only
  split
  · exact ⟨rfl, rfl, a3⟩
  · split
    · exact ⟨rfl, rfl, a3⟩
    · exact ⟨rfl, rfl, fun j j0 => by dsimp only; rw [a3 j j0]⟩
/-- one step of the reference's, as it is told -/
theorem zt_need {w R S R' S' : Int} {N N' : Int → Int} (h : (¬ R = 0 ∧ R' = R ∧ S' = S) ∨ (R = 0 ∧ S = 0 ∧ R' = 2 ∧ S' = S) ∨ (R = 0 ∧ ¬ S = 0 ∧ zs_fit (N (S + 7)) w = false ∧ R' = 1 ∧ S' = S) ∨ (R = 0 ∧ ¬ S = 0 ∧ zs_fit (N (S + 7)) w = true ∧ R' = 0 ∧ (w = 2 → S' = S - 2) ∧ (¬ w = 2 → S' = S - 1))) (hn : ∀ j, 0 ≤ j → N' j = N j) : zt_eq (R', S', N') (zs_need w (R, S, N)) := by
  unfold zs_need
  dsimp only
  rcases h with ⟨h1, h2, h3⟩ | ⟨h1, h2, h3, h4⟩ | ⟨h1, h2, h3, h4, h5⟩ | ⟨h1, h2, h3, h4, h5, h6⟩
  · rw [if_pos h1]; exact ⟨h2, h3, hn⟩
  · rw [if_neg (by omega), if_pos h2]; exact ⟨h3, h4, hn⟩
  · rw [if_neg (by omega), if_neg h2, if_neg (by rw [h3]; decide)]; exact ⟨h4, h5, hn⟩
  · rw [if_neg (by omega), if_neg h2, if_pos h3]
    refine ⟨h4, ?_, hn⟩
    dsimp only
    by_cases c : w = 2
    · rw [if_pos c]; exact h5 c
    · rw [if_neg c]; exact h6 c
theorem zt_push {k R S R' S' : Int} {N N' : Int → Int} (h : (¬ R = 0 ∧ R' = R ∧ S' = S ∧ ∀ j, 0 ≤ j → N' j = N j) ∨ (R = 0 ∧ 6 < S + zs_wd k ∧ R' = 3 ∧ S' = S ∧ ∀ j, 0 ≤ j → N' j = N j) ∨ (R = 0 ∧ ¬ 6 < S + zs_wd k ∧ R' = 0 ∧ S' = S + zs_wd k ∧ ∀ j, 0 ≤ j → N' j = if j = S + 8 then k else if k = 2 ∧ j = S + 9 then 3 else N j)) : zt_eq (R', S', N') (zs_push k (R, S, N)) := by
  unfold zs_push
  dsimp only
  rcases h with ⟨h1, h2, h3, h4⟩ | ⟨h1, h2, h3, h4, h5⟩ | ⟨h1, h2, h3, h4, h5⟩
  · rw [if_pos h1]; exact ⟨h2, h3, h4⟩
  · rw [if_neg (by omega), if_pos h2]; exact ⟨h3, h4, h5⟩
  · rw [if_neg (by omega), if_neg h2]; exact ⟨h3, h4, h5⟩
theorem zt_pop1 {S R' S' : Int} {N N' : Int → Int} (h : (S = 0 ∧ R' = 2 ∧ S' = S) ∨ (¬ S = 0 ∧ N (S + 7) = 3 ∧ R' = 1 ∧ S' = S) ∨ (¬ S = 0 ∧ ¬ N (S + 7) = 3 ∧ R' = 0 ∧ S' = S - 1)) (hn : ∀ j, 0 ≤ j → N' j = N j) : zt_eq (R', S', N') (zs_pop1 (0, S, N)) := by
  unfold zs_pop1
  dsimp only
  rcases h with ⟨h1, h2, h3⟩ | ⟨h1, h2, h3, h4⟩ | ⟨h1, h2, h3, h4⟩
  · rw [if_pos h1]; exact ⟨h2, h3, hn⟩
  · rw [if_neg h1, if_pos h2]; exact ⟨h3, h4, hn⟩
  · rw [if_neg h1, if_neg h2]; exact ⟨h3, h4, hn⟩
theorem zt_pop2 {S R' S' : Int} {N N' : Int → Int} (h : (S = 0 ∧ R' = 2 ∧ S' = S ∧ ∀ j, 0 ≤ j → N' j = N j) ∨ (¬ S = 0 ∧ N (S + 7) = 3 ∧ R' = 0 ∧ S' = S - 2 ∧ ∀ j, 0 ≤ j → N' j = N j) ∨ (¬ S = 0 ∧ ¬ N (S + 7) = 3 ∧ zt_eq (R', S', N') (zs_pop1 (0, S - 1, N)))) : zt_eq (R', S', N') (zs_pop2 (0, S, N)) := by
  unfold zs_pop2
  dsimp only
  rcases h with ⟨h1, h2, h3, h4⟩ | ⟨h1, h2, h3, h4, h5⟩ | ⟨h1, h2, h3⟩
  · rw [if_pos h1]; exact ⟨h2, h3, h4⟩
  · rw [if_neg h1, if_pos h2]; exact ⟨h3, h4, h5⟩
  · rw [if_neg h1, if_neg h2]; exact h3
theorem zs_pop1_eq {x y : zT} (a : zt_eq x y) (s0 : 0 ≤ x.2.1) : zt_eq (zs_pop1 x) (zs_pop1 y) := by
  obtain ⟨a1, a2, a3⟩ := a
  obtain ⟨x1, x2, x3⟩ := x
  obtain ⟨y1, y2, y3⟩ := y
  dsimp only at a1 a2 a3 s0
  subst a1 a2
  unfold zs_pop1
  simp only [a3 (x2 + 7) (by omega)]
  split
  · exact ⟨rfl, rfl, a3⟩
  · split <;> exact ⟨rfl, rfl, a3⟩
theorem zt_load {a S R' S' : Int} {N N' : Int → Int} (h : (¬ (0 ≤ a ∧ a ≤ 7) ∧ R' = 4 ∧ S' = S ∧ ∀ j, 0 ≤ j → N' j = N j) ∨ ((0 ≤ a ∧ a ≤ 7) ∧ (N a = 0 ∨ N a = 3) ∧ R' = 1 ∧ S' = S ∧ ∀ j, 0 ≤ j → N' j = N j) ∨ ((0 ≤ a ∧ a ≤ 7) ∧ ¬ (N a = 0 ∨ N a = 3) ∧ zt_eq (R', S', N') (zs_push (N a) (0, S, N)))) : zt_eq (R', S', N') (zs_load a (0, S, N)) := by
  unfold zs_load
  dsimp only
  rcases h with ⟨h1, h2, h3, h4⟩ | ⟨h1, h2, h3, h4, h5⟩ | ⟨h1, h2, h3⟩
  · rw [if_pos h1]; exact ⟨h2, h3, h4⟩
  · rw [if_neg (fun z => z h1), if_pos h2]; exact ⟨h3, h4, h5⟩
  · rw [if_neg (fun z => z h1), if_neg h2]; exact h3
theorem zt_store {a S R' S' : Int} {N N' : Int → Int} (h : (S = 0 ∧ R' = 2 ∧ S' = S ∧ ∀ j, 0 ≤ j → N' j = N j) ∨ (¬ S = 0 ∧ N (S + 7) = 0 ∧ R' = 1 ∧ S' = S ∧ ∀ j, 0 ≤ j → N' j = N j) ∨ (¬ S = 0 ∧ N (S + 7) = 3 ∧ (0 ≤ a ∧ a ≤ 6) ∧ R' = 0 ∧ S' = S - 2 ∧ ∀ j, 0 ≤ j → N' j = zs_wh 0 8 (fun j => if j = a then 2 else if j = a + 1 then 3 else N j) j) ∨ (¬ S = 0 ∧ N (S + 7) = 3 ∧ ¬ (0 ≤ a ∧ a ≤ 6) ∧ R' = 4 ∧ S' = S - 2 ∧ ∀ j, 0 ≤ j → N' j = N j) ∨ (¬ S = 0 ∧ ¬ N (S + 7) = 0 ∧ ¬ N (S + 7) = 3 ∧ (0 ≤ a ∧ a ≤ 7) ∧ R' = 0 ∧ S' = S - 1 ∧ ∀ j, 0 ≤ j → N' j = zs_wh 0 8 (fun j => if j = a then N (S + 7) else N j) j) ∨ (¬ S = 0 ∧ ¬ N (S + 7) = 0 ∧ ¬ N (S + 7) = 3 ∧ ¬ (0 ≤ a ∧ a ≤ 7) ∧ R' = 4 ∧ S' = S - 1 ∧ ∀ j, 0 ≤ j → N' j = N j)) : zt_eq (R', S', N') (zs_store a (0, S, N)) := by
  unfold zs_store
  dsimp only
  rcases h with ⟨h1, h2, h3, h4⟩ | ⟨h1, h2, h3, h4, h5⟩ | ⟨h1, h2, h3, h4, h5, h6⟩ | ⟨h1, h2, h3, h4, h5, h6⟩ | ⟨h1, h2, h3, h4, h5, h6, h7⟩ | ⟨h1, h2, h3, h4, h5, h6, h7⟩
  · rw [if_pos h1]; exact ⟨h2, h3, h4⟩
  · rw [if_neg h1, if_pos h2]; exact ⟨h3, h4, h5⟩
  · rw [if_neg h1, if_neg (by omega), if_pos h2, if_pos h3]; exact ⟨h4, h5, h6⟩
  · rw [if_neg h1, if_neg (by omega), if_pos h2, if_neg h3]; exact ⟨h4, h5, h6⟩
  · rw [if_neg h1, if_neg h2, if_neg h3, if_pos h4]; exact ⟨h5, h6, h7⟩
  · rw [if_neg h1, if_neg h2, if_neg h3, if_neg h4]; exact ⟨h5, h6, h7⟩
/-- whole, as it goes along -/
theorem zs_wh_s {f u k : Int} {N M M' : Int → Int} (k1 : f ≤ k) (k2 : k < u) (hj : ∀ j, 0 ≤ j → (j < k → M j = zs_wh f u N j) ∧ (k ≤ j → M j = N j)) (_ : 0 ≤ f) (nb : f < k → ¬ (N (k - 1) = 2 ∧ N k = 3)) (np : ¬ (N k = 2 ∧ k + 1 < u ∧ N (k + 1) = 3)) (hm : ∀ j, 0 ≤ j → M' j = if j = k then (if N k = 2 ∨ N k = 3 then 0 else N k) else M j) : (∀ j, 0 ≤ j → (j < k + 1 → M' j = zs_wh f u N j) ∧ (k + 1 ≤ j → M' j = N j)) ∧ (f < k + 1 → ¬ (N (k + 1 - 1) = 2 ∧ N (k + 1) = 3) ∨ u ≤ k + 1) := by
  refine ⟨fun j j0 => ?_, fun _ => ?_⟩
  · rw [hm j j0]
    have b := hj j j0
    by_cases e : j = k
    · subst e
      rw [if_pos rfl]
      refine ⟨fun _ => ?_, fun z => by omega⟩
      unfold zs_wh
      rw [if_neg (show ¬ (j < f ∨ u ≤ j) by omega)]
      by_cases c2 : N j = 2
      · rw [if_pos (show N j = 2 ∨ N j = 3 from Or.inl c2), if_pos c2, if_neg (fun z => np ⟨c2, z⟩)]
      · rw [if_neg c2]
        by_cases c3 : N j = 3
        · rw [if_pos (show N j = 2 ∨ N j = 3 from Or.inr c3), if_pos c3, if_neg (fun z => nb z.1 ⟨z.2, c3⟩)]
        · rw [if_neg c3, if_neg (by omega)]
    · rw [if_neg e]
      exact ⟨fun z => b.1 (by omega), fun z => b.2 (by omega)⟩
  · rw [show k + 1 - 1 = k from by omega]
    by_cases c : u ≤ k + 1
    · exact Or.inr c
    · exact Or.inl (by omega)
theorem zs_wh_p {f u k : Int} {N M : Int → Int} (k1 : f ≤ k) (k2 : k + 1 < u) (hj : ∀ j, 0 ≤ j → (j < k → M j = zs_wh f u N j) ∧ (k ≤ j → M j = N j)) (_ : 0 ≤ f) (c2 : N k = 2) (c3 : N (k + 1) = 3) : (∀ j, 0 ≤ j → (j < k + 2 → M j = zs_wh f u N j) ∧ (k + 2 ≤ j → M j = N j)) ∧ (f < k + 2 → ¬ (N (k + 2 - 1) = 2 ∧ N (k + 2) = 3)) := by
  refine ⟨fun j j0 => ?_, fun _ => ?_⟩
  · have b := hj j j0
    refine ⟨fun z => ?_, fun z => b.2 (by omega)⟩
    by_cases e : j < k
    · exact b.1 e
    · rw [b.2 (by omega)]
      unfold zs_wh
      rw [if_neg (by omega)]
      rcases (show j = k ∨ j = k + 1 by omega) with e9 | e9
      · subst e9
        rw [if_pos c2, if_pos ⟨k2, c3⟩]; exact c2
      · subst e9
        rw [if_neg (by omega), if_pos c3, if_pos ⟨by omega, by rw [show k + 1 - 1 = k from by omega]; exact c2⟩]; exact c3
  · rw [show k + 2 - 1 = k + 1 from by omega]
    omega
theorem zs_wh_cg {f u : Int} {M N : Int → Int} (h : ∀ j, 0 ≤ j → M j = N j) (f0 : 0 ≤ f) {j : Int} (j0 : 0 ≤ j) : zs_wh f u M j = zs_wh f u N j := by
  unfold zs_wh
  rw [h j j0, h (j + 1) (by omega)]
  by_cases c : f < j
  · rw [h (j - 1) (by omega)]
  · simp only [c, false_and, if_false]
theorem zt_inc {a S R' S' : Int} {N N' : Int → Int} (h : (¬ (0 ≤ a ∧ a ≤ 7) ∧ R' = 4 ∧ S' = S) ∨ ((0 ≤ a ∧ a ≤ 7) ∧ N a = 1 ∧ R' = 0 ∧ S' = S) ∨ ((0 ≤ a ∧ a ≤ 7) ∧ ¬ N a = 1 ∧ R' = 1 ∧ S' = S)) (hn : ∀ j, 0 ≤ j → N' j = N j) : zt_eq (R', S', N') (zs_inc a (0, S, N)) := by
  unfold zs_inc
  dsimp only
  rcases h with ⟨h1, h2, h3⟩ | ⟨h1, h2, h3, h4⟩ | ⟨h1, h2, h3, h4⟩
  · rw [if_pos h1]; exact ⟨h2, h3, hn⟩
  · rw [if_neg (fun z => z h1), if_pos h2]; exact ⟨h3, h4, hn⟩
  · rw [if_neg (fun z => z h1), if_neg h2]; exact ⟨h3, h4, hn⟩
section ZB
variable {a : Int} {x y : zT}
theorem zt_ldb {a S R : Int} {S2 : Int} {N N2 : Int → Int} (h : zt_eq (R, S, N) (0, S2, N2)) : zt_eq (zs_load a (0, S, N)) (zs_load a (0, S2, N2)) := by
  obtain ⟨_, h2, h3⟩ := h
  dsimp only at h2 h3
  subst h2
  unfold zs_load
  dsimp only
  by_cases c : 0 ≤ a ∧ a ≤ 7
  · rw [if_neg (show ¬ ¬ (0 ≤ a ∧ a ≤ 7) from fun z => z c), if_neg (show ¬ ¬ (0 ≤ a ∧ a ≤ 7) from fun z => z c)]
    simp only [h3 a c.1]
    split
    · exact ⟨rfl, rfl, h3⟩
    · exact zs_push_eq ⟨rfl, rfl, h3⟩
  · rw [if_pos c, if_pos c]; exact ⟨rfl, rfl, h3⟩
theorem zt_pb1 {S R S2 : Int} {N N2 : Int → Int} (h : zt_eq (R, S, N) (0, S2, N2)) (s0 : 0 ≤ S := by omega) : zt_eq (zs_pop1 (0, S, N)) (zs_pop1 (0, S2, N2)) := zs_pop1_eq ⟨rfl, h.2.1, h.2.2⟩ s0
theorem zt_pb2 {S R S2 : Int} {N N2 : Int → Int} (h : zt_eq (R, S, N) (0, S2, N2)) (s0 : 0 ≤ S := by omega) : zt_eq (zs_pop2 (0, S, N)) (zs_pop2 (0, S2, N2)) := by
  obtain ⟨_, h2, h3⟩ := h
  dsimp only at h2 h3
  subst h2
  unfold zs_pop2
  simp only [h3 (S + 7) (by omega)]
  by_cases c : S = 0
  · rw [if_pos c, if_pos c]; exact ⟨rfl, rfl, h3⟩
  · rw [if_neg c, if_neg c]
    split
    · exact ⟨rfl, rfl, h3⟩
    · exact zs_pop1_eq ⟨rfl, rfl, h3⟩ (by dsimp only; omega)
theorem zt_stb {a S R S2 : Int} {N N2 : Int → Int} (h : zt_eq (R, S, N) (0, S2, N2)) (s0 : 0 ≤ S := by omega) : zt_eq (zs_store a (0, S, N)) (zs_store a (0, S2, N2)) := by
  obtain ⟨_, h2, h3⟩ := h
  dsimp only at h2 h3
  subst h2
  unfold zs_store
  simp only [h3 (S + 7) (by omega)]
  split
  · exact ⟨rfl, rfl, h3⟩
  · split
    · exact ⟨rfl, rfl, h3⟩
    · split
      · split
        · exact ⟨rfl, rfl, fun j j0 => by dsimp only; refine zs_wh_cg (f := 0) (u := 8) (fun i i0 => ?_) (by omega) j0; simp only [h3 i i0]⟩
        · exact ⟨rfl, rfl, h3⟩
      · split
        · exact ⟨rfl, rfl, fun j j0 => by dsimp only; refine zs_wh_cg (f := 0) (u := 8) (fun i i0 => ?_) (by omega) j0; simp only [h3 i i0]⟩
        · exact ⟨rfl, rfl, h3⟩
end ZB
