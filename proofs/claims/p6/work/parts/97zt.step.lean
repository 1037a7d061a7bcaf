/-! ===== 97zt: a step of the class and a step of the reference, alike ===== -/
section ZX
variable {o a b S : Int} {N N2 V V2 L C L2 C2 N' V' L' C' V2' L2' C2' g : Int → Int} {n n2 n' n2' : Int}
theorem zf_rf_u (hw : zw_ok (0, S, N)) (ag : ∀ j, 0 ≤ j → j < 8 + S → N2 j = N j) (vs : zf_vs g n n2 L2 S N V V2) (rows : zf_rows g n L C n2 L2 C2) (bn : n ≤ 158) (b2 : 0 ≤ n2 ∧ n2 ≤ 1000) (x0 : (zs_ap o a (0, S, N)).1 = 0) {r1 r2 : Int} (k : zk_rf o a (fun d => if d < S then N (S + 7 - d) else -1) (fun d => V (S + 7 - d)) n L r1) (f : zf_rf o a (S + 7) N2 V2 L2 r2) : r1 = r2 := by
  obtain ⟨k1, k2, k3, k4, k5, k6, k7⟩ := k
  obtain ⟨f1, f2, f3, f4, f5, f6, f7⟩ := f
  have s0 : 0 ≤ S := hw.2.1
  dsimp only at k1 k2 k3 k4 k5 k6
  rw [show S + 7 - 0 = S + 7 by omega] at k1 k2 k3 k5 k6
  rw [show S + 7 - 1 = S + 6 by omega] at k3 k4 f3 f4
  rw [show S + 7 - 2 = S + 5 by omega] at k4 f4
  by_cases e : o = 7
  · subst e
    obtain ⟨d1, t1, _⟩ := zf_o7 x0
    obtain ⟨a1, a2⟩ := zf_at1 vs (j := S + 7) (by omega) (by omega) t1
    have k := k1 rfl
    have f := f1 rfl
    rw [zi32_i a2.1 a2.2] at k
    rw [a1] at f
    omega
  by_cases e : o = 13
  · subst e
    obtain ⟨⟨d1, d2⟩, t1, _⟩ := zf_o12 (show (zs_push 1 (zs_need 1 (zs_need 1 (0, S, N)))).1 = 0 from x0)
    obtain ⟨a1, a2⟩ := zf_at1 vs (j := S + 7) (by omega) (by omega) t1
    have k := k2 rfl
    have f := f2 rfl
    rw [zi32_i a2.1 a2.2] at k
    rw [a1] at f
    omega
  by_cases e : o = 17
  · subst e
    obtain ⟨⟨d1, d2⟩, t1, t2, _⟩ := zf_o17 x0
    obtain ⟨a1, a2⟩ := zf_at1 vs (j := S + 7) (by omega) (by omega) t1
    have k := k3 rfl
    have f := f3 rfl
    rw [if_pos (by omega)] at k
    rw [ag (S + 6) (by omega) (by omega)] at f
    by_cases c : N (S + 6) = 4
    · have k9 : r1 = 1 := by rcases k with z | z | z; exact z.2; exact absurd c z.1; exact absurd c z.1
      have f9 : r2 = 1 := by rcases f with z | z | z; exact z.2; exact absurd c z.1; exact absurd c z.1
      omega
    · obtain ⟨b1, b3⟩ := zf_at6 vs (j := S + 6) (by omega) (by omega) (by omega)
      obtain ⟨p1, p2, p3, p4⟩ := rows.2.1 _ b1.1 b1.2
      rw [zi32_i a2.1 a2.2, zi32_i (show -2147483648 ≤ V (S + 6) by omega) (by omega)] at k
      rw [b3, a1, zi32_i (show -2147483648 ≤ g (V (S + 6)) by omega) (by omega), p2] at f
      unfold zk_hc at k
      rcases k with z | z | z
      · exact absurd z.1 c
      · rcases f with y | y | y
        · exact absurd y.1 c
        · omega
        · exact absurd z.2.1.2 y.2.1
      · rcases f with y | y | y
        · exact absurd y.1 c
        · exact absurd ⟨b1, y.2.1⟩ z.2.1
        · omega
  by_cases e : o = 18
  · subst e
    obtain ⟨⟨d1, d2, d3⟩, t0, t1, t2, _⟩ := zf_o18 x0
    obtain ⟨a1, a2⟩ := zf_at1 vs (j := S + 6) (by omega) (by omega) t1
    have k := k4 rfl
    have f := f4 rfl
    rw [if_pos (by omega)] at k
    rw [ag (S + 5) (by omega) (by omega)] at f
    by_cases c : N (S + 5) = 4
    · have k9 : r1 = 1 := by rcases k with z | z | z; exact z.2; exact absurd c z.1; exact absurd c z.1
      have f9 : r2 = 1 := by rcases f with z | z | z; exact z.2; exact absurd c z.1; exact absurd c z.1
      omega
    · obtain ⟨b1, b3⟩ := zf_at6 vs (j := S + 5) (by omega) (by omega) (by omega)
      obtain ⟨p1, p2, p3, p4⟩ := rows.2.1 _ b1.1 b1.2
      rw [zi32_i a2.1 a2.2, zi32_i (show -2147483648 ≤ V (S + 5) by omega) (by omega)] at k
      rw [b3, a1, zi32_i (show -2147483648 ≤ g (V (S + 5)) by omega) (by omega), p2] at f
      unfold zk_hc at k
      rcases k with z | z | z
      · exact absurd z.1 c
      · rcases f with y | y | y
        · exact absurd y.1 c
        · omega
        · exact absurd z.2.1.2 y.2.1
      · rcases f with y | y | y
        · exact absurd y.1 c
        · exact absurd ⟨b1, y.2.1⟩ z.2.1
        · omega
  by_cases e : o = 19 ∨ o = 20 ∨ o = 22
  · have d1 : ¬ S = 0 := by
      rcases e with e | e | e
      · subst e; exact (zf_o19 x0).1
      · subst e; exact (zf_o20 x0).1
      · subst e; exact (zf_o22 x0).1
    have k := k5 e
    have f := f5 e
    rw [if_pos (by omega)] at k
    rw [ag (S + 7) (by omega) (by omega)] at f
    omega
  by_cases e : o = 21
  · subst e
    have d1 := (zf_o21 x0).1
    have k := k6 rfl
    have f := f6 rfl
    rw [if_pos (by omega)] at k
    rw [ag (S + 7) (by omega) (by omega)] at f
    rcases k with z | z
    · rcases f with y | y
      · omega
      · exact absurd z.1 y.1
    · rcases f with y | y
      · exact absurd y.1 z.1
      · omega
  have k9 := k7 (by omega)
  have f9 := f7 (by omega)
  omega
/-- any op that is not refused -/
theorem zf_all (ho : 0 ≤ o ∧ o ≤ 28) (h2 : ¬ o = 22) (h3 : ¬ o = 23) (h21 : o = 21 → 5 ≤ a) (hw : zw_ok (0, S, N)) (ag : ∀ j, 0 ≤ j → j < 8 + S → N2 j = N j) (vs : zf_vs g n n2 L2 S N V V2) (rows : zf_rows g n L C n2 L2 C2) (bn : n ≤ 157) (b2 : 0 ≤ n2 ∧ n2 ≤ 1000) (ra : -2147483648 ≤ a ∧ a ≤ 2147483647) (x0 : (zs_ap o a (0, S, N)).1 = 0) (rf : zf_rf o a (S + 7) N2 V2 L2 0) (kw : zk_wk o a b (zs_ap o a (0, S, N)).2.1 n (fun d => V (S + 7 - d)) V L C n' V' L' C') (fw : zf_wk o a b (S + 7) n2 N2 V2 L2 C2 n2' V2' L2' C2') (eN : ∀ j, 0 ≤ j → j < 8 + (zs_ap o a (0, S, N)).2.1 → N' j = if o = 21 ∧ j = (zs_ap o a (0, S, N)).2.1 + 7 then N (S + 7) else (zs_ap o a (0, S, N)).2.2 j) : ∃ g', zf_vs g' n' n2' L2' (zs_ap o a (0, S, N)).2.1 N' V' V2' ∧ zf_rows g' n' L' C' n2' L2' C2' := by
  have hS : 0 ≤ (zs_ap o a (0, S, N)).2.1 := (zw_ap hw ho h21).2.1
  by_cases e : o = 21
  · subst e
    exact zf_s21 hw ag vs rows bn b2 ra x0 rf kw fw (h21 rfl) (fun j j0 j1 => by rw [eN j j0 j1]; by_cases y : j = (zs_ap 21 a (0, S, N)).2.1 + 7; rw [if_pos ⟨rfl, y⟩, if_pos y]; rw [if_neg (fun z => y z.2), if_neg y])
  · have eN2 : ∀ j, 0 ≤ j → j < 8 + (zs_ap o a (0, S, N)).2.1 → N' j = (zs_ap o a (0, S, N)).2.2 j := fun j j0 j1 => by rw [eN j j0 j1, if_neg (fun z => e z.1)]
    rcases zs_ops ho with z | z | z | z | z | z | z | z | z | z | z | z | z | z | z | z | z | z | z | z | z | z | z | z | z | z | z | z | z <;> subst z
    · exact zf_s0 hw ag vs rows bn b2 ra x0 rf kw fw eN2 hS
    · exact zf_s1 hw ag vs rows bn b2 ra x0 rf kw fw eN2
    · exact zf_s2 hw ag vs rows bn b2 ra x0 rf kw fw eN2
    · exact zf_s3 hw ag vs rows bn b2 ra x0 rf kw fw eN2
    · exact zf_s4 hw ag vs rows bn b2 ra x0 rf kw fw eN2
    · exact zf_s5 hw ag vs rows bn b2 ra x0 rf kw fw eN2
    · exact zf_s6 hw ag vs rows bn b2 ra x0 rf kw fw eN2
    · exact zf_s7 hw ag vs rows bn b2 ra x0 rf kw fw eN2
    · exact zf_s8 hw ag vs rows bn b2 ra x0 rf kw fw eN2
    · exact zf_s9 hw ag vs rows bn b2 ra x0 rf kw fw eN2
    · exact zf_s10 hw ag vs rows bn b2 ra x0 rf kw fw eN2 hS
    · exact zf_s11 hw ag vs rows bn b2 ra x0 rf kw fw eN2 hS
    · exact zf_s12 hw ag vs rows bn b2 ra x0 rf kw fw eN2
    · exact zf_s13 hw ag vs rows bn b2 ra x0 rf kw fw eN2
    · exact zf_s14 hw ag vs rows bn b2 ra x0 rf kw fw eN2
    · exact zf_s15 hw ag vs rows bn b2 ra x0 rf kw fw eN2
    · exact zf_s16 hw ag vs rows bn b2 ra x0 rf kw fw eN2
    · exact zf_s17 hw ag vs rows bn b2 ra x0 rf kw fw eN2
    · exact zf_s18 hw ag vs rows bn b2 ra x0 rf kw fw eN2
    · exact zf_s19 hw ag vs rows bn b2 ra x0 rf kw fw eN2
    · exact zf_s20 hw ag vs rows bn b2 ra x0 rf kw fw eN2
    · exact absurd rfl e
    · exact absurd rfl h2
    · exact absurd rfl h3
    · exact zf_s24 hw ag vs rows bn b2 ra x0 rf kw fw eN2 hS
    · exact zf_s25 hw ag vs rows bn b2 ra x0 rf kw fw eN2 hS
    · exact zf_s26 hw ag vs rows bn b2 ra x0 rf kw fw eN2 hS
    · exact zf_s27 hw ag vs rows bn b2 ra x0 rf kw fw eN2 hS
    · exact zf_s28 hw ag vs rows bn b2 ra x0 rf kw fw eN2
/-- what may be refused leaves the locals -/
theorem zf_loc (hw : zw_ok (0, S, N)) (ho : o = 7 ∨ o = 13 ∨ (17 ≤ o ∧ o ≤ 22)) (x0 : (zs_ap o a (0, S, N)).1 = 0) : ∀ j, 0 ≤ j → j < 8 → (zs_ap o a (0, S, N)).2.2 j = N j := fun j j0 j1 => by
  have s0 : 0 ≤ S := hw.2.1
  rcases ho with z | z | z
  · subst z; obtain ⟨d, _, u⟩ := zf_o7 x0; exact u.2.2.2.2 j (by omega)
  · subst z; obtain ⟨d, _, _, u⟩ := zf_o12 (show (zs_push 1 (zs_need 1 (zs_need 1 (0, S, N)))).1 = 0 from x0); exact u.2.2.2.2 j (by omega)
  · rcases (show o = 17 ∨ o = 18 ∨ o = 19 ∨ o = 20 ∨ o = 21 ∨ o = 22 by omega) with z | z | z | z | z | z <;> subst z
    · obtain ⟨d, _, _, u⟩ := zf_o17 x0; exact u.2.2.2.2 j (by omega)
    · obtain ⟨d, _, _, _, u⟩ := zf_o18 x0; rw [u]
    · obtain ⟨d, _, u⟩ := zf_o19 x0; exact u.2.2.2.2 j (by omega)
    · obtain ⟨d, _, u⟩ := zf_o20 x0; exact u.2.2.2.2 j (by omega)
    · obtain ⟨d, _, u⟩ := zf_o21 x0; exact u.2.2.2.2 j (by omega)
    · obtain ⟨d, _, u⟩ := zf_o22 x0; rw [u]
end ZX
