/-! ===== 97zp: what an op that isn't faulty has found and leaves (the reference's) ===== -/
theorem zf_need {w : Int} {x : zT} (h : (zs_need w x).1 = 0) : x.1 = 0 ∧ ¬ x.2.1 = 0 ∧ zs_fit (x.2.2 (x.2.1 + 7)) w = true ∧ zs_need w x = (0, x.2.1 - (if w = 2 then 2 else 1), x.2.2) := by
  unfold zs_need at h ⊢
  by_cases c : x.1 = 0
  · rw [if_neg (fun z => z c)] at h ⊢
    by_cases d : x.2.1 = 0
    · rw [if_pos d] at h; (dsimp only at h; omega)
    · rw [if_neg d] at h ⊢
      by_cases e : zs_fit (x.2.2 (x.2.1 + 7)) w = true
      · rw [if_pos e]; exact ⟨c, d, e, rfl⟩
      · rw [if_neg e] at h; (dsimp only at h; omega)
  · rw [if_pos c] at h; exact absurd h c
theorem zf_push {k : Int} {x : zT} (h : (zs_push k x).1 = 0) : x.1 = 0 ∧ x.2.1 + zs_wd k ≤ 6 ∧ zs_push k x = (0, x.2.1 + zs_wd k, fun j => if j = x.2.1 + 8 then k else if k = 2 ∧ j = x.2.1 + 9 then 3 else x.2.2 j) := by
  unfold zs_push at h ⊢
  by_cases c : x.1 = 0
  · rw [if_neg (fun z => z c)] at h ⊢
    by_cases d : 6 < x.2.1 + zs_wd k
    · rw [if_pos d] at h; (dsimp only at h; omega)
    · rw [if_neg d]; exact ⟨c, by omega, rfl⟩
  · rw [if_pos c] at h; exact absurd h c
theorem zf_fit1 {k : Int} (h : zs_fit k 1 = true) : k = 1 := (of_decide_eq_true h).1 rfl
theorem zf_fit2 {k : Int} (h : zs_fit k 2 = true) : k = 3 := (of_decide_eq_true h).2.1 rfl
theorem zf_fit5 {k : Int} (h : zs_fit k 5 = true) : 4 ≤ k := (of_decide_eq_true h).2.2.1 rfl
theorem zf_fit6 {k : Int} (h : zs_fit k 6 = true) : k = 6 ∨ k = 4 := (of_decide_eq_true h).2.2.2.1 rfl
theorem zf_fit7 {k : Int} (h : zs_fit k 7 = true) : k = 7 ∨ k = 8 ∨ k = 4 := (of_decide_eq_true h).2.2.2.2 rfl
/-- what is left: the lowest B places of the stack, and a k upon them -/
def zf_up (B k : Int) (N : Int → Int) (x : zT) : Prop := x.2.1 = B + zs_wd k ∧ B + zs_wd k ≤ 6 ∧ x.2.2 (B + 8) = k ∧ (k = 2 → x.2.2 (B + 9) = 3) ∧ ∀ j, j < B + 8 → x.2.2 j = N j
theorem zf_upi {k B : Int} {N : Int → Int} (h : (zs_push k (0, B, N)).1 = 0) : zf_up B k N (zs_push k (0, B, N)) := by
  obtain ⟨_, p2, p3⟩ := zf_push h
  dsimp only at p2 p3
  rw [p3]
  refine ⟨rfl, p2, if_pos rfl, fun z => ?_, fun j j0 => ?_⟩
  · dsimp only; rw [if_neg (by omega), if_pos ⟨z, rfl⟩]
  · dsimp only; rw [if_neg (by omega), if_neg (by omega)]
section ZF
variable {a S : Int} {N : Int → Int}
theorem zf_o7 (h : (zs_ap 7 a (0, S, N)).1 = 0) : ¬ S = 0 ∧ N (S + 7) = 1 ∧ zf_up (S - 1) 6 N (zs_ap 7 a (0, S, N)) := by
  rw [zs_ap_7] at h ⊢
  obtain ⟨_, d, f, e⟩ := zf_need (zf_push h).1
  rw [e] at h ⊢
  exact ⟨d, zf_fit1 f, zf_upi h⟩
theorem zf_o8 (h : (zs_ap 8 a (0, S, N)).1 = 0) : (0 ≤ a ∧ a ≤ 7) ∧ ¬ N a = 0 ∧ ¬ N a = 3 ∧ zf_up S (N a) N (zs_ap 8 a (0, S, N)) := by
  rw [zs_ap_8] at h ⊢
  unfold zs_load at h ⊢
  by_cases c : 0 ≤ a ∧ a ≤ 7
  · rw [if_neg (fun z => z c)] at h ⊢
    dsimp only at h ⊢
    by_cases d : N a = 0 ∨ N a = 3
    · rw [if_pos d] at h; (dsimp only at h; omega)
    · rw [if_neg d] at h ⊢
      exact ⟨c, fun z => d (Or.inl z), fun z => d (Or.inr z), zf_upi h⟩
  · rw [if_pos c] at h; (dsimp only at h; omega)
theorem zf_wh {M : Int → Int} {j : Int} (j0 : 0 ≤ j) (j1 : j < 8) : (zs_wh 0 8 M j = M j ∨ zs_wh 0 8 M j = 0) ∧ (¬ M j = 2 → ¬ M j = 3 → zs_wh 0 8 M j = M j) ∧ (M j = 2 → j + 1 < 8 → M (j + 1) = 3 → zs_wh 0 8 M j = M j) := by
  unfold zs_wh
  rw [if_neg (show ¬ (j < 0 ∨ 8 ≤ j) by omega)]
  by_cases c : M j = 2
  · rw [if_pos c]
    refine ⟨?_, fun z => absurd c z, fun _ z1 z2 => by rw [if_pos ⟨z1, z2⟩, c]⟩
    split
    · exact Or.inl c.symm
    · exact Or.inr rfl
  · rw [if_neg c]
    by_cases d : M j = 3
    · rw [if_pos d]
      refine ⟨?_, fun _ z => absurd d z, fun z => absurd z c⟩
      split
      · exact Or.inl d.symm
      · exact Or.inr rfl
    · rw [if_neg d]
      exact ⟨Or.inl rfl, fun _ _ => rfl, fun z => absurd z c⟩
theorem zf_wh8 {M : Int → Int} {j : Int} (j0 : 8 ≤ j) : zs_wh 0 8 M j = M j := by
  unfold zs_wh
  rw [if_pos (Or.inr j0)]
theorem zf_o9 (h : (zs_ap 9 a (0, S, N)).1 = 0) (h2 : ¬ N (S + 7) = 2) : ¬ S = 0 ∧ ¬ N (S + 7) = 0 ∧ (0 ≤ a ∧ a ≤ 7) ∧ (zs_ap 9 a (0, S, N)).2.1 = S - (if N (S + 7) = 3 then 2 else 1) ∧ (∀ j, 8 ≤ j → (zs_ap 9 a (0, S, N)).2.2 j = N j) ∧ (∀ j, 0 ≤ j → j < 8 → (j = a ∧ (zs_ap 9 a (0, S, N)).2.2 j = (if N (S + 7) = 3 then 2 else N (S + 7))) ∨ (¬ j = a ∧ ((zs_ap 9 a (0, S, N)).2.2 j = 0 ∨ (zs_ap 9 a (0, S, N)).2.2 j = 3 ∨ (zs_ap 9 a (0, S, N)).2.2 j = N j))) := by
  rw [zs_ap_9] at h ⊢
  unfold zs_store at h ⊢
  dsimp only at h ⊢
  by_cases c : S = 0
  · rw [if_pos c] at h; dsimp only at h; omega
  · rw [if_neg c] at h ⊢
    by_cases d : N (S + 7) = 0
    · rw [if_pos d] at h; dsimp only at h; omega
    · rw [if_neg d] at h ⊢
      by_cases e : N (S + 7) = 3
      · rw [if_pos e] at h ⊢
        by_cases f : 0 ≤ a ∧ a ≤ 6
        · rw [if_pos f]
          refine ⟨c, d, by omega, by rw [if_pos e], fun j j0 => ?_, fun j j0 j1 => ?_⟩
          · dsimp only
            refine (zf_wh8 j0).trans ?_
            rw [if_neg (by omega), if_neg (by omega)]
          · rw [if_pos e]
            generalize hM : (fun j => if j = a then (2 : Int) else if j = a + 1 then 3 else N j) = M
            have m : ∀ i, M i = if i = a then (2 : Int) else if i = a + 1 then 3 else N i := fun i => by rw [← hM]
            obtain ⟨w1, _, w3⟩ := zf_wh (M := M) j0 j1
            dsimp only
            by_cases y : j = a
            · refine Or.inl ⟨y, ?_⟩
              have m1 : M j = 2 := by rw [m, if_pos y]
              rw [w3 m1 (by omega) (by rw [m, if_neg (by omega), if_pos (by omega)]), m1]
            · refine Or.inr ⟨y, ?_⟩
              have m1 := m j
              rw [if_neg y] at m1
              rcases w1 with w | w
              · rw [w, m1]
                by_cases y2 : j = a + 1
                · rw [if_pos y2]; exact Or.inr (Or.inl rfl)
                · rw [if_neg y2]; exact Or.inr (Or.inr rfl)
              · exact Or.inl w
        · rw [if_neg f] at h; dsimp only at h; omega
      · rw [if_neg e] at h ⊢
        by_cases f : 0 ≤ a ∧ a ≤ 7
        · rw [if_pos f]
          refine ⟨c, d, by omega, by rw [if_neg e], fun j j0 => ?_, fun j j0 j1 => ?_⟩
          · dsimp only
            refine (zf_wh8 j0).trans ?_
            rw [if_neg (by omega)]
          · rw [if_neg e]
            generalize hM : (fun j => if j = a then N (S + 7) else N j) = M
            have m : ∀ i, M i = if i = a then N (S + 7) else N i := fun i => by rw [← hM]
            obtain ⟨w1, w2, _⟩ := zf_wh (M := M) j0 j1
            dsimp only
            by_cases y : j = a
            · refine Or.inl ⟨y, ?_⟩
              have m1 : M j = N (S + 7) := by rw [m, if_pos y]
              rw [w2 (by rw [m1]; exact h2) (by rw [m1]; exact e), m1]
            · refine Or.inr ⟨y, ?_⟩
              have m1 := m j
              rw [if_neg y] at m1
              rcases w1 with w | w
              · rw [w, m1]; exact Or.inr (Or.inr rfl)
              · exact Or.inl w
        · rw [if_neg f] at h; dsimp only at h; omega
theorem zf_o10 (h : (zs_ap 10 a (0, S, N)).1 = 0) : zs_ap 10 a (0, S, N) = (0, S - 1, N) ∧ ¬ S = 0 := by
  rw [zs_ap_10] at h ⊢
  unfold zs_pop1 at h ⊢
  dsimp only at h ⊢
  by_cases c : S = 0
  · rw [if_pos c] at h; dsimp only at h; omega
  · rw [if_neg c] at h ⊢
    by_cases d : N (S + 7) = 3
    · rw [if_pos d] at h; dsimp only at h; omega
    · rw [if_neg d]; exact ⟨rfl, c⟩
theorem zf_o11 (h : (zs_ap 11 a (0, S, N)).1 = 0) : zs_ap 11 a (0, S, N) = (0, S - 2, N) ∧ ¬ S = 0 := by
  rw [zs_ap_11] at h ⊢
  unfold zs_pop2 zs_pop1 at h ⊢
  dsimp only at h ⊢
  by_cases c : S = 0
  · rw [if_pos c] at h; dsimp only at h; omega
  · rw [if_neg c] at h ⊢
    by_cases d : N (S + 7) = 3
    · rw [if_pos d]; exact ⟨rfl, c⟩
    · rw [if_neg d] at h ⊢
      by_cases e : S - 1 = 0
      · rw [if_pos e] at h; dsimp only at h; omega
      · rw [if_neg e] at h ⊢
        by_cases f : N (S - 1 + 7) = 3
        · rw [if_pos f] at h; dsimp only at h; omega
        · rw [if_neg f, show S - 1 - 1 = S - 2 by omega]; exact ⟨rfl, c⟩
theorem zf_o12 (h : (zs_push 1 (zs_need 1 (zs_need 1 (0, S, N)))).1 = 0) : (¬ S = 0 ∧ ¬ S = 1) ∧ N (S + 7) = 1 ∧ N (S + 6) = 1 ∧ zf_up (S - 2) 1 N (zs_push 1 (zs_need 1 (zs_need 1 (0, S, N)))) := by
  obtain ⟨g, d2, f2, e2⟩ := zf_need (zf_push h).1
  obtain ⟨_, d, f, e⟩ := zf_need g
  rw [e2, e] at h ⊢
  rw [e] at d2 f2
  dsimp only at d f d2 f2 h ⊢
  rw [if_neg (by decide)] at d2 f2 h ⊢
  rw [show S - 1 - 1 = S - 2 by omega] at h ⊢
  rw [show S - 1 + 7 = S + 6 by omega] at f2
  exact ⟨⟨d, by omega⟩, zf_fit1 f, zf_fit1 f2, zf_upi h⟩
theorem zf_o14 (h : (zs_ap 14 a (0, S, N)).1 = 0) : (¬ S = 0 ∧ ¬ S = 2) ∧ N (S + 7) = 3 ∧ N (S + 5) = 3 ∧ zf_up (S - 4) 2 N (zs_ap 14 a (0, S, N)) := by
  rw [zs_ap_14] at h ⊢
  obtain ⟨g, d2, f2, e2⟩ := zf_need (zf_push h).1
  obtain ⟨_, d, f, e⟩ := zf_need g
  rw [e2, e] at h ⊢
  rw [e] at d2 f2
  dsimp only at d f d2 f2 h ⊢
  rw [if_pos rfl] at d2 f2 h ⊢
  rw [show S - 2 - 2 = S - 4 by omega] at h ⊢
  rw [show S - 2 + 7 = S + 5 by omega] at f2
  exact ⟨⟨d, by omega⟩, zf_fit2 f, zf_fit2 f2, zf_upi h⟩
theorem zf_o15 (h : (zs_ap 15 a (0, S, N)).1 = 0) : ¬ S = 0 ∧ N (S + 7) = 3 ∧ zf_up (S - 2) 1 N (zs_ap 15 a (0, S, N)) := by
  rw [zs_ap_15] at h ⊢
  obtain ⟨_, d, f, e⟩ := zf_need (zf_push h).1
  rw [e] at h ⊢
  dsimp only at d f h ⊢
  rw [if_pos rfl] at h ⊢
  exact ⟨d, zf_fit2 f, zf_upi h⟩
theorem zf_o16 (h : (zs_ap 16 a (0, S, N)).1 = 0) : ¬ S = 0 ∧ N (S + 7) = 1 ∧ zf_up (S - 1) 2 N (zs_ap 16 a (0, S, N)) := by
  rw [zs_ap_16] at h ⊢
  obtain ⟨_, d, f, e⟩ := zf_need (zf_push h).1
  rw [e] at h ⊢
  exact ⟨d, zf_fit1 f, zf_upi h⟩
theorem zf_o17 (h : (zs_ap 17 a (0, S, N)).1 = 0) : (¬ S = 0 ∧ ¬ S = 1) ∧ N (S + 7) = 1 ∧ (N (S + 6) = 6 ∨ N (S + 6) = 4) ∧ zf_up (S - 2) 1 N (zs_ap 17 a (0, S, N)) := by
  rw [zs_ap_17] at h ⊢
  obtain ⟨g, d2, f2, e2⟩ := zf_need (zf_push h).1
  obtain ⟨_, d, f, e⟩ := zf_need g
  rw [e2, e] at h ⊢
  rw [e] at d2 f2
  dsimp only at d f d2 f2 h ⊢
  rw [if_neg (by decide)] at d2 f2 h ⊢
  rw [if_neg (by decide), show S - 1 - 1 = S - 2 by omega] at h ⊢
  rw [show S - 1 + 7 = S + 6 by omega] at f2
  exact ⟨⟨d, by omega⟩, zf_fit1 f, zf_fit6 f2, zf_upi h⟩
theorem zf_o18 (h : (zs_ap 18 a (0, S, N)).1 = 0) : (¬ S = 0 ∧ ¬ S = 1 ∧ ¬ S = 2) ∧ N (S + 7) = 1 ∧ N (S + 6) = 1 ∧ (N (S + 5) = 6 ∨ N (S + 5) = 4) ∧ zs_ap 18 a (0, S, N) = (0, S - 3, N) := by
  rw [zs_ap_18] at h ⊢
  obtain ⟨g2, d3, f3, e3⟩ := zf_need h
  obtain ⟨g, d2, f2, e2⟩ := zf_need g2
  obtain ⟨_, d, f, e⟩ := zf_need g
  rw [e3]
  rw [e2, e] at d3 f3 ⊢
  rw [e] at d2 f2
  dsimp only at d f d2 f2 d3 f3 ⊢
  rw [if_neg (by decide)] at d2 f2 d3 f3 ⊢
  rw [show S - 1 - 1 = S - 2 by omega] at d3 f3 ⊢
  rw [if_neg (by decide), show S - 2 - 1 = S - 3 by omega]
  rw [show S - 1 + 7 = S + 6 by omega] at f2
  rw [show S - 2 + 7 = S + 5 by omega] at f3
  exact ⟨⟨d, by omega, by omega⟩, zf_fit1 f, zf_fit1 f2, zf_fit6 f3, rfl⟩
theorem zf_o19 (h : (zs_ap 19 a (0, S, N)).1 = 0) : ¬ S = 0 ∧ (N (S + 7) = 6 ∨ N (S + 7) = 4) ∧ zf_up (S - 1) 1 N (zs_ap 19 a (0, S, N)) := by
  rw [zs_ap_19] at h ⊢
  obtain ⟨_, d, f, e⟩ := zf_need (zf_push h).1
  rw [e] at h ⊢
  exact ⟨d, zf_fit6 f, zf_upi h⟩
theorem zf_o20 (h : (zs_ap 20 a (0, S, N)).1 = 0) : ¬ S = 0 ∧ (N (S + 7) = 7 ∨ N (S + 7) = 8 ∨ N (S + 7) = 4) ∧ zf_up (S - 1) 1 N (zs_ap 20 a (0, S, N)) := by
  rw [zs_ap_20] at h ⊢
  obtain ⟨_, d, f, e⟩ := zf_need (zf_push h).1
  rw [e] at h ⊢
  exact ⟨d, zf_fit7 f, zf_upi h⟩
theorem zf_o21 (h : (zs_ap 21 a (0, S, N)).1 = 0) : ¬ S = 0 ∧ 4 ≤ N (S + 7) ∧ zf_up (S - 1) a N (zs_ap 21 a (0, S, N)) := by
  rw [zs_ap_21] at h ⊢
  obtain ⟨_, d, f, e⟩ := zf_need (zf_push h).1
  rw [e] at h ⊢
  exact ⟨d, zf_fit5 f, zf_upi h⟩
theorem zf_o22 (h : (zs_ap 22 a (0, S, N)).1 = 0) : ¬ S = 0 ∧ (N (S + 7) = 7 ∨ N (S + 7) = 8 ∨ N (S + 7) = 4) ∧ zs_ap 22 a (0, S, N) = (0, S - 1, N) := by
  rw [zs_ap_22] at h ⊢
  obtain ⟨_, d, f, e⟩ := zf_need h
  exact ⟨d, zf_fit7 f, e⟩
theorem zf_n1 (h : (zs_need 1 (0, S, N)).1 = 0) : ¬ S = 0 ∧ N (S + 7) = 1 ∧ zs_need 1 (0, S, N) = (0, S - 1, N) := by
  obtain ⟨_, d, f, e⟩ := zf_need h
  exact ⟨d, zf_fit1 f, e⟩
theorem zf_n5 (h : (zs_need 5 (0, S, N)).1 = 0) : ¬ S = 0 ∧ 4 ≤ N (S + 7) ∧ zs_need 5 (0, S, N) = (0, S - 1, N) := by
  obtain ⟨_, d, f, e⟩ := zf_need h
  exact ⟨d, zf_fit5 f, e⟩
theorem zf_o28 (h : (zs_ap 28 a (0, S, N)).1 = 0) : (0 ≤ a ∧ a ≤ 7) ∧ N a = 1 ∧ zs_ap 28 a (0, S, N) = (0, S, N) := by
  rw [zs_ap_28] at h ⊢
  unfold zs_inc at h ⊢
  by_cases c : 0 ≤ a ∧ a ≤ 7
  · rw [if_neg (fun z => z c)] at h ⊢
    dsimp only at h ⊢
    by_cases d : N a = 1
    · rw [if_pos d]; exact ⟨c, d, rfl⟩
    · rw [if_neg d] at h; dsimp only at h; omega
  · rw [if_pos c] at h; dsimp only at h; omega
end ZF
