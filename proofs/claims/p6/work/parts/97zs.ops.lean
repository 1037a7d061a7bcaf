/-! ===== 97zs: an op that is not refused leaves values alike ===== -/
section ZW
variable {a b S : Int} {N N2 V V2 L C L2 C2 N' V' L' C' V2' L2' C2' g : Int → Int} {n n2 n' n2' : Int}
theorem zf_top {S : Int} {N : Int → Int} (hw : zw_ok (0, S, N)) (s : ¬ S = 0) : ¬ N (S + 7) = 2 := fun z => by
  have h0 : 0 ≤ S := hw.2.1
  have h1 : S + 7 + 1 < 8 + S := (hw.1.2 (S + 7) (by omega) (show S + 7 < 8 + S by omega)).1 z |>.1
  omega
theorem zf_n8 {S : Int} {N : Int → Int} (hw : zw_ok (0, S, N)) : ¬ N 8 = 3 ∨ S = 0 := by
  have h0 : 0 ≤ S := hw.2.1
  by_cases s : S = 0
  · exact Or.inr s
  · exact Or.inl fun z => by
      have h1 : (8 : Int) < 8 := (hw.1.2 8 (by omega) (show 8 < 8 + S by omega)).2 z |>.1
      omega
theorem zf_h9 {S j : Int} {N : Int → Int} (hw : zw_ok (0, S, N)) (j0 : 8 ≤ j) (j1 : j < 8 + S) (z : N j = 3) : 9 ≤ j := by
  have h1 : 8 < j := (hw.1.2 j j0 j1).2 z |>.1
  omega
theorem zf_at1 {g : Int → Int} {n n2 : Int} {L2 : Int → Int} {S : Int} {N V V2 : Int → Int} (vs : zf_vs g n n2 L2 S N V V2) {j : Int} (j0 : 8 ≤ j) (j1 : j < 8 + S) (z : N j = 1) : V2 j = V j ∧ -2147483648 ≤ V j ∧ V j ≤ 2147483647 := by
  have q := vs.2 j j0 j1 (by omega)
  rw [if_neg (by omega)] at q
  have q1 := q.1 z
  exact ⟨q1.1.symm, q1.2⟩
theorem zf_at3 {g : Int → Int} {n n2 : Int} {L2 : Int → Int} {S : Int} {N V V2 : Int → Int} (vs : zf_vs g n n2 L2 S N V V2) {j : Int} (j0 : 8 ≤ j) (j1 : j < 8 + S) (z : N j = 3) : V2 (j - 1) = V j := by
  have q := vs.2 j j0 j1 (by omega)
  rw [if_pos z] at q
  exact (q.2.1 (Or.inr z)).symm
theorem zf_at6 {g : Int → Int} {n n2 : Int} {L2 : Int → Int} {S : Int} {N V V2 : Int → Int} (vs : zf_vs g n n2 L2 S N V V2) {j : Int} (j0 : 8 ≤ j) (j1 : j < 8 + S) (z : N j = 6) : (0 ≤ V j ∧ V j < n) ∧ V2 j = g (V j) := by
  have q := vs.2 j j0 j1 (by omega)
  rw [if_neg (by omega)] at q
  exact q.2.2.1 z
theorem zf_at7 {g : Int → Int} {n n2 : Int} {L2 : Int → Int} {S : Int} {N V V2 : Int → Int} (vs : zf_vs g n n2 L2 S N V V2) {j : Int} (j0 : 8 ≤ j) (j1 : j < 8 + S) (z : N j = 7 ∨ N j = 8) : (0 ≤ V2 j ∧ V2 j < n2) ∧ L2 (V2 j) = V j ∧ -2147483648 ≤ V j ∧ V j ≤ 2147483647 := by
  have q := vs.2 j j0 j1 (by omega)
  rw [if_neg (by omega)] at q
  exact q.2.2.2 z
theorem zf_int {g : Int → Int} {n n2 : Int} {L2 : Int → Int} {x y : Int} (e : x = y) (r : -2147483648 ≤ x ∧ x ≤ 2147483647) : zf_rel g n n2 L2 1 x y := ⟨fun _ => ⟨e, r⟩, fun z => by omega, fun z => by omega, fun z => by omega⟩
theorem zf_cnt {g : Int → Int} {n n2 : Int} {L2 : Int → Int} {x y : Int} (e : x = y) : zf_rel g n n2 L2 2 x y := ⟨fun z => by omega, fun _ => e, fun z => by omega, fun z => by omega⟩
theorem zf_s1 (hw : zw_ok (0, S, N)) (ag : ∀ j, 0 ≤ j → j < 8 + S → N2 j = N j) (vs : zf_vs g n n2 L2 S N V V2) (rows : zf_rows g n L C n2 L2 C2) (bn : n ≤ 157) (b2 : 0 ≤ n2 ∧ n2 ≤ 1000) (ra : -2147483648 ≤ a ∧ a ≤ 2147483647) (x0 : (zs_ap 1 a (0, S, N)).1 = 0) (rf : zf_rf 1 a (S + 7) N2 V2 L2 0) (kw : zk_wk 1 a b (zs_ap 1 a (0, S, N)).2.1 n (fun d => V (S + 7 - d)) V L C n' V' L' C') (fw : zf_wk 1 a b (S + 7) n2 N2 V2 L2 C2 n2' V2' L2' C2') (eN : ∀ j, 0 ≤ j → j < 8 + (zs_ap 1 a (0, S, N)).2.1 → N' j = (zs_ap 1 a (0, S, N)).2.2 j) : ∃ g', zf_vs g' n' n2' L2' (zs_ap 1 a (0, S, N)).2.1 N' V' V2' ∧ zf_rows g' n' L' C' n2' L2' C2' := by
  obtain ⟨k1, k2, k3, k4, k5, k6, k7, k8, k9, k10⟩ := kw
  obtain ⟨f1, f2, f3, f4, f5, f6, f7, f8, f9, f10, f11, f12, f13, f14, f15, f16, f17⟩ := fw
  obtain ⟨r1, r2, r3, r4, r5, r6, r7⟩ := rf
  have ⟨⟨w1, w2⟩, s0, s6⟩ := hw
  dsimp only at w1 w2 s0 s6
  have u := zf_upi (show (zs_push 1 (0, S, N)).1 = 0 from x0)
  have eV := k1 (by decide)
  have e8 := k8 (by decide)
  have e9 := k9 (by decide)
  have eW := f1 (by decide)
  have eR := f17 (by decide)
  have rows' := (rows.sm e8.1 e8.2 e9).rs eR
  have vs' := vs.m (g' := g) (n' := n') (n2' := n2') (L2' := L2') (by have := e8.1; omega) eR.l.1 (fun _ _ _ => rfl) eR.l.2
  have u1 := u.1
  refine ⟨g, vs'.up u s0 (Int.le_refl _) (by decide) eN (fun j j0 j1 => by rw [eV j j0, if_neg (by unfold zs_wd at u1; split at u1 <;> (have : (zs_ap 1 a (0, S, N)).2.1 = _ := u1; omega))]) (fun j j0 j1 => by rw [eW j j0, if_neg (by omega)]) ?_, rows'⟩
  have ex : V' ((zs_ap 1 a (0, S, N)).2.1 + 7) = a := by rw [eV _ (by have : (zs_ap 1 a (0, S, N)).2.1 = _ := u1; rw [this]; unfold zs_wd; split <;> omega), if_pos rfl]
  have ey : V2' (S + 8) = a := by rw [eW _ (by omega), if_pos (by omega)]
  show zf_rel _ _ _ _ _ (V' ((zs_ap 1 a (0, S, N)).2.1 + 7)) _
  rw [ex, ey]
  exact zf_int rfl ra
theorem zf_s2 (hw : zw_ok (0, S, N)) (ag : ∀ j, 0 ≤ j → j < 8 + S → N2 j = N j) (vs : zf_vs g n n2 L2 S N V V2) (rows : zf_rows g n L C n2 L2 C2) (bn : n ≤ 157) (b2 : 0 ≤ n2 ∧ n2 ≤ 1000) (ra : -2147483648 ≤ a ∧ a ≤ 2147483647) (x0 : (zs_ap 2 a (0, S, N)).1 = 0) (rf : zf_rf 2 a (S + 7) N2 V2 L2 0) (kw : zk_wk 2 a b (zs_ap 2 a (0, S, N)).2.1 n (fun d => V (S + 7 - d)) V L C n' V' L' C') (fw : zf_wk 2 a b (S + 7) n2 N2 V2 L2 C2 n2' V2' L2' C2') (eN : ∀ j, 0 ≤ j → j < 8 + (zs_ap 2 a (0, S, N)).2.1 → N' j = (zs_ap 2 a (0, S, N)).2.2 j) : ∃ g', zf_vs g' n' n2' L2' (zs_ap 2 a (0, S, N)).2.1 N' V' V2' ∧ zf_rows g' n' L' C' n2' L2' C2' := by
  obtain ⟨k1, k2, k3, k4, k5, k6, k7, k8, k9, k10⟩ := kw
  obtain ⟨f1, f2, f3, f4, f5, f6, f7, f8, f9, f10, f11, f12, f13, f14, f15, f16, f17⟩ := fw
  obtain ⟨r1, r2, r3, r4, r5, r6, r7⟩ := rf
  have ⟨⟨w1, w2⟩, s0, s6⟩ := hw
  dsimp only at w1 w2 s0 s6
  have u := zf_upi (show (zs_push 2 (0, S, N)).1 = 0 from x0)
  have eV := k1 (by decide)
  have e8 := k8 (by decide)
  have e9 := k9 (by decide)
  have eW := f1 (by decide)
  have eR := f17 (by decide)
  have rows' := (rows.sm e8.1 e8.2 e9).rs eR
  have vs' := vs.m (g' := g) (n' := n') (n2' := n2') (L2' := L2') (by have := e8.1; omega) eR.l.1 (fun _ _ _ => rfl) eR.l.2
  have u1 := u.1
  refine ⟨g, vs'.up u s0 (Int.le_refl _) (by decide) eN (fun j j0 j1 => by rw [eV j j0, if_neg (by unfold zs_wd at u1; split at u1 <;> (have : (zs_ap 2 a (0, S, N)).2.1 = _ := u1; omega))]) (fun j j0 j1 => by rw [eW j j0, if_neg (by omega)]) ?_, rows'⟩
  have ex : V' ((zs_ap 2 a (0, S, N)).2.1 + 7) = a := by rw [eV _ (by have : (zs_ap 2 a (0, S, N)).2.1 = _ := u1; rw [this]; unfold zs_wd; split <;> omega), if_pos rfl]
  have ey : V2' (S + 8) = a := by rw [eW _ (by omega), if_pos (by omega)]
  show zf_rel _ _ _ _ _ (V' ((zs_ap 2 a (0, S, N)).2.1 + 7)) _
  rw [ex, ey]
  exact zf_cnt rfl
theorem zf_s3 (hw : zw_ok (0, S, N)) (ag : ∀ j, 0 ≤ j → j < 8 + S → N2 j = N j) (vs : zf_vs g n n2 L2 S N V V2) (rows : zf_rows g n L C n2 L2 C2) (bn : n ≤ 157) (b2 : 0 ≤ n2 ∧ n2 ≤ 1000) (ra : -2147483648 ≤ a ∧ a ≤ 2147483647) (x0 : (zs_ap 3 a (0, S, N)).1 = 0) (rf : zf_rf 3 a (S + 7) N2 V2 L2 0) (kw : zk_wk 3 a b (zs_ap 3 a (0, S, N)).2.1 n (fun d => V (S + 7 - d)) V L C n' V' L' C') (fw : zf_wk 3 a b (S + 7) n2 N2 V2 L2 C2 n2' V2' L2' C2') (eN : ∀ j, 0 ≤ j → j < 8 + (zs_ap 3 a (0, S, N)).2.1 → N' j = (zs_ap 3 a (0, S, N)).2.2 j) : ∃ g', zf_vs g' n' n2' L2' (zs_ap 3 a (0, S, N)).2.1 N' V' V2' ∧ zf_rows g' n' L' C' n2' L2' C2' := by
  obtain ⟨k1, k2, k3, k4, k5, k6, k7, k8, k9, k10⟩ := kw
  obtain ⟨f1, f2, f3, f4, f5, f6, f7, f8, f9, f10, f11, f12, f13, f14, f15, f16, f17⟩ := fw
  obtain ⟨r1, r2, r3, r4, r5, r6, r7⟩ := rf
  have ⟨⟨w1, w2⟩, s0, s6⟩ := hw
  dsimp only at w1 w2 s0 s6
  have u := zf_upi (show (zs_push 4 (0, S, N)).1 = 0 from x0)
  have eV := k2 (by decide)
  have e8 := k8 (by decide)
  have e9 := k9 (by decide)
  have eW := f2 rfl
  have eR := f17 (by decide)
  have rows' := (rows.sm e8.1 e8.2 e9).rs eR
  have vs' := vs.m (g' := g) (n' := n') (n2' := n2') (L2' := L2') (by have := e8.1; omega) eR.l.1 (fun _ _ _ => rfl) eR.l.2
  have u1 := u.1
  refine ⟨g, vs'.up u s0 (Int.le_refl _) (by decide) eN (fun j j0 j1 => by rw [eV j j0, if_neg (by unfold zs_wd at u1; split at u1 <;> (have : (zs_ap 3 a (0, S, N)).2.1 = _ := u1; omega))]) (fun j j0 j1 => by rw [eW j j0, if_neg (by omega)]) ?_, rows'⟩
  have ex : V' ((zs_ap 3 a (0, S, N)).2.1 + 7) = 0 := by rw [eV _ (by have : (zs_ap 3 a (0, S, N)).2.1 = _ := u1; rw [this]; unfold zs_wd; split <;> omega), if_pos rfl]
  have ey : V2' (S + 8) = 0 := by rw [eW _ (by omega), if_pos (by omega)]
  show zf_rel _ _ _ _ _ (V' ((zs_ap 3 a (0, S, N)).2.1 + 7)) _
  rw [ex, ey]
  exact zf_rel0 (by omega)
theorem zf_s4 (hw : zw_ok (0, S, N)) (ag : ∀ j, 0 ≤ j → j < 8 + S → N2 j = N j) (vs : zf_vs g n n2 L2 S N V V2) (rows : zf_rows g n L C n2 L2 C2) (bn : n ≤ 157) (b2 : 0 ≤ n2 ∧ n2 ≤ 1000) (ra : -2147483648 ≤ a ∧ a ≤ 2147483647) (x0 : (zs_ap 4 a (0, S, N)).1 = 0) (rf : zf_rf 4 a (S + 7) N2 V2 L2 0) (kw : zk_wk 4 a b (zs_ap 4 a (0, S, N)).2.1 n (fun d => V (S + 7 - d)) V L C n' V' L' C') (fw : zf_wk 4 a b (S + 7) n2 N2 V2 L2 C2 n2' V2' L2' C2') (eN : ∀ j, 0 ≤ j → j < 8 + (zs_ap 4 a (0, S, N)).2.1 → N' j = (zs_ap 4 a (0, S, N)).2.2 j) : ∃ g', zf_vs g' n' n2' L2' (zs_ap 4 a (0, S, N)).2.1 N' V' V2' ∧ zf_rows g' n' L' C' n2' L2' C2' := by
  obtain ⟨k1, k2, k3, k4, k5, k6, k7, k8, k9, k10⟩ := kw
  obtain ⟨f1, f2, f3, f4, f5, f6, f7, f8, f9, f10, f11, f12, f13, f14, f15, f16, f17⟩ := fw
  obtain ⟨r1, r2, r3, r4, r5, r6, r7⟩ := rf
  have ⟨⟨w1, w2⟩, s0, s6⟩ := hw
  dsimp only at w1 w2 s0 s6
  have u := zf_upi (show (zs_push 5 (0, S, N)).1 = 0 from x0)
  have eV := k2 (by decide)
  have e8 := k8 (by decide)
  have e9 := k9 (by decide)
  obtain ⟨eR, eW⟩ := f3 (by decide)
  have rows' := (rows.sm e8.1 e8.2 e9).th eR
  have vs' := vs.m (g' := g) (n' := n') (n2' := n2') (L2' := L2') (by have := e8.1; omega) eR.l.1 (fun _ _ _ => rfl) eR.l.2
  have u1 := u.1
  refine ⟨g, vs'.up u s0 (Int.le_refl _) (by decide) eN (fun j j0 j1 => by rw [eV j j0, if_neg (by unfold zs_wd at u1; split at u1 <;> (have : (zs_ap 4 a (0, S, N)).2.1 = _ := u1; omega))]) (fun j j0 j1 => by rw [eW j j0, if_neg (by omega)]) ?_, rows'⟩
  have ex : V' ((zs_ap 4 a (0, S, N)).2.1 + 7) = 0 := by rw [eV _ (by have : (zs_ap 4 a (0, S, N)).2.1 = _ := u1; rw [this]; unfold zs_wd; split <;> omega), if_pos rfl]
  have ey : V2' (S + 8) = n2 := by rw [eW _ (by omega), if_pos (by omega)]
  show zf_rel _ _ _ _ _ (V' ((zs_ap 4 a (0, S, N)).2.1 + 7)) _
  rw [ex, ey]
  exact zf_rel0 (by omega)
theorem zf_s5 (hw : zw_ok (0, S, N)) (ag : ∀ j, 0 ≤ j → j < 8 + S → N2 j = N j) (vs : zf_vs g n n2 L2 S N V V2) (rows : zf_rows g n L C n2 L2 C2) (bn : n ≤ 157) (b2 : 0 ≤ n2 ∧ n2 ≤ 1000) (ra : -2147483648 ≤ a ∧ a ≤ 2147483647) (x0 : (zs_ap 5 a (0, S, N)).1 = 0) (rf : zf_rf 5 a (S + 7) N2 V2 L2 0) (kw : zk_wk 5 a b (zs_ap 5 a (0, S, N)).2.1 n (fun d => V (S + 7 - d)) V L C n' V' L' C') (fw : zf_wk 5 a b (S + 7) n2 N2 V2 L2 C2 n2' V2' L2' C2') (eN : ∀ j, 0 ≤ j → j < 8 + (zs_ap 5 a (0, S, N)).2.1 → N' j = (zs_ap 5 a (0, S, N)).2.2 j) : ∃ g', zf_vs g' n' n2' L2' (zs_ap 5 a (0, S, N)).2.1 N' V' V2' ∧ zf_rows g' n' L' C' n2' L2' C2' := by
  obtain ⟨k1, k2, k3, k4, k5, k6, k7, k8, k9, k10⟩ := kw
  obtain ⟨f1, f2, f3, f4, f5, f6, f7, f8, f9, f10, f11, f12, f13, f14, f15, f16, f17⟩ := fw
  obtain ⟨r1, r2, r3, r4, r5, r6, r7⟩ := rf
  have ⟨⟨w1, w2⟩, s0, s6⟩ := hw
  dsimp only at w1 w2 s0 s6
  have u := zf_upi (show (zs_push 7 (0, S, N)).1 = 0 from x0)
  have eV := k2 (by decide)
  have e8 := k8 (by decide)
  have e9 := k9 (by decide)
  obtain ⟨eR, eW⟩ := f3 (by decide)
  have rows' := (rows.sm e8.1 e8.2 e9).th eR
  have vs' := vs.m (g' := g) (n' := n') (n2' := n2') (L2' := L2') (by have := e8.1; omega) eR.l.1 (fun _ _ _ => rfl) eR.l.2
  have u1 := u.1
  refine ⟨g, vs'.up u s0 (Int.le_refl _) (by decide) eN (fun j j0 j1 => by rw [eV j j0, if_neg (by unfold zs_wd at u1; split at u1 <;> (have : (zs_ap 5 a (0, S, N)).2.1 = _ := u1; omega))]) (fun j j0 j1 => by rw [eW j j0, if_neg (by omega)]) ?_, rows'⟩
  have ex : V' ((zs_ap 5 a (0, S, N)).2.1 + 7) = 0 := by rw [eV _ (by have : (zs_ap 5 a (0, S, N)).2.1 = _ := u1; rw [this]; unfold zs_wd; split <;> omega), if_pos rfl]
  have ey : V2' (S + 8) = n2 := by rw [eW _ (by omega), if_pos (by omega)]
  show zf_rel _ _ _ _ _ (V' ((zs_ap 5 a (0, S, N)).2.1 + 7)) _
  rw [ex, ey]
  exact ⟨fun z => by omega, fun z => by omega, fun z => by omega, fun _ => ⟨⟨by omega, by have := eR.1; omega⟩, by rw [eR.2.1 n2 (by omega), if_pos rfl], by omega⟩⟩
theorem zf_s6 (hw : zw_ok (0, S, N)) (ag : ∀ j, 0 ≤ j → j < 8 + S → N2 j = N j) (vs : zf_vs g n n2 L2 S N V V2) (rows : zf_rows g n L C n2 L2 C2) (bn : n ≤ 157) (b2 : 0 ≤ n2 ∧ n2 ≤ 1000) (ra : -2147483648 ≤ a ∧ a ≤ 2147483647) (x0 : (zs_ap 6 a (0, S, N)).1 = 0) (rf : zf_rf 6 a (S + 7) N2 V2 L2 0) (kw : zk_wk 6 a b (zs_ap 6 a (0, S, N)).2.1 n (fun d => V (S + 7 - d)) V L C n' V' L' C') (fw : zf_wk 6 a b (S + 7) n2 N2 V2 L2 C2 n2' V2' L2' C2') (eN : ∀ j, 0 ≤ j → j < 8 + (zs_ap 6 a (0, S, N)).2.1 → N' j = (zs_ap 6 a (0, S, N)).2.2 j) : ∃ g', zf_vs g' n' n2' L2' (zs_ap 6 a (0, S, N)).2.1 N' V' V2' ∧ zf_rows g' n' L' C' n2' L2' C2' := by
  obtain ⟨k1, k2, k3, k4, k5, k6, k7, k8, k9, k10⟩ := kw
  obtain ⟨f1, f2, f3, f4, f5, f6, f7, f8, f9, f10, f11, f12, f13, f14, f15, f16, f17⟩ := fw
  obtain ⟨r1, r2, r3, r4, r5, r6, r7⟩ := rf
  have ⟨⟨w1, w2⟩, s0, s6⟩ := hw
  dsimp only at w1 w2 s0 s6
  have u := zf_upi (show (zs_push 8 (0, S, N)).1 = 0 from x0)
  have eV := k1 (by decide)
  have e8 := k8 (by decide)
  have e9 := k9 (by decide)
  obtain ⟨eR, eW⟩ := f4 rfl
  have rows' := (rows.sm e8.1 e8.2 e9).th eR
  have vs' := vs.m (g' := g) (n' := n') (n2' := n2') (L2' := L2') (by have := e8.1; omega) eR.l.1 (fun _ _ _ => rfl) eR.l.2
  have u1 := u.1
  refine ⟨g, vs'.up u s0 (Int.le_refl _) (by decide) eN (fun j j0 j1 => by rw [eV j j0, if_neg (by unfold zs_wd at u1; split at u1 <;> (have : (zs_ap 6 a (0, S, N)).2.1 = _ := u1; omega))]) (fun j j0 j1 => by rw [eW j j0, if_neg (by omega)]) ?_, rows'⟩
  have ex : V' ((zs_ap 6 a (0, S, N)).2.1 + 7) = a := by rw [eV _ (by have : (zs_ap 6 a (0, S, N)).2.1 = _ := u1; rw [this]; unfold zs_wd; split <;> omega), if_pos rfl]
  have ey : V2' (S + 8) = n2 := by rw [eW _ (by omega), if_pos (by omega)]
  show zf_rel _ _ _ _ _ (V' ((zs_ap 6 a (0, S, N)).2.1 + 7)) _
  rw [ex, ey]
  exact ⟨fun z => by omega, fun z => by omega, fun z => by omega, fun _ => ⟨⟨by omega, by have := eR.1; omega⟩, by rw [eR.2.1 n2 (by omega), if_pos rfl], by omega⟩⟩
theorem zf_s8 (hw : zw_ok (0, S, N)) (ag : ∀ j, 0 ≤ j → j < 8 + S → N2 j = N j) (vs : zf_vs g n n2 L2 S N V V2) (rows : zf_rows g n L C n2 L2 C2) (bn : n ≤ 157) (b2 : 0 ≤ n2 ∧ n2 ≤ 1000) (ra : -2147483648 ≤ a ∧ a ≤ 2147483647) (x0 : (zs_ap 8 a (0, S, N)).1 = 0) (rf : zf_rf 8 a (S + 7) N2 V2 L2 0) (kw : zk_wk 8 a b (zs_ap 8 a (0, S, N)).2.1 n (fun d => V (S + 7 - d)) V L C n' V' L' C') (fw : zf_wk 8 a b (S + 7) n2 N2 V2 L2 C2 n2' V2' L2' C2') (eN : ∀ j, 0 ≤ j → j < 8 + (zs_ap 8 a (0, S, N)).2.1 → N' j = (zs_ap 8 a (0, S, N)).2.2 j) : ∃ g', zf_vs g' n' n2' L2' (zs_ap 8 a (0, S, N)).2.1 N' V' V2' ∧ zf_rows g' n' L' C' n2' L2' C2' := by
  obtain ⟨k1, k2, k3, k4, k5, k6, k7, k8, k9, k10⟩ := kw
  obtain ⟨f1, f2, f3, f4, f5, f6, f7, f8, f9, f10, f11, f12, f13, f14, f15, f16, f17⟩ := fw
  obtain ⟨r1, r2, r3, r4, r5, r6, r7⟩ := rf
  have ⟨⟨w1, w2⟩, s0, s6⟩ := hw
  dsimp only at w1 w2 s0 s6
  obtain ⟨ha, i0, i3, u⟩ := zf_o8 x0
  have eV := k4 rfl ha
  have e8 := k8 (by decide)
  have e9 := k9 (by decide)
  have eR := f17 (by decide)
  have rows' := (rows.sm e8.1 e8.2 e9).rs eR
  have eW := f6 rfl
  have vs' := vs.m (g' := g) (n' := n') (n2' := n2') (L2' := L2') (by have := e8.1; omega) eR.l.1 (fun _ _ _ => rfl) eR.l.2
  have u1 : (zs_ap 8 a (0, S, N)).2.1 = S + zs_wd (N a) := u.1
  refine ⟨g, vs'.up u (by omega) (by omega) i3 eN (fun j j0 j1 => by rw [eV j j0, if_neg (by unfold zs_wd at u1; split at u1 <;> omega)]) (fun j j0 j1 => by rw [eW j j0, if_neg (by omega)]) ?_, rows'⟩
  have ex : V' ((zs_ap 8 a (0, S, N)).2.1 + 7) = V a := by rw [eV _ (by unfold zs_wd at u1; split at u1 <;> omega), if_pos rfl]
  have ey : V2' (S + 8) = V2 a := by rw [eW _ (by omega), if_pos (by omega)]
  show zf_rel _ _ _ _ _ (V' ((zs_ap 8 a (0, S, N)).2.1 + 7)) _
  rw [ex, ey]
  have q := vs.1 a ha.1 (by omega) i3
  exact q.m (by have := e8.1; omega) eR.l.1 (fun _ _ _ => rfl) eR.l.2
theorem zf_s12 (hw : zw_ok (0, S, N)) (ag : ∀ j, 0 ≤ j → j < 8 + S → N2 j = N j) (vs : zf_vs g n n2 L2 S N V V2) (rows : zf_rows g n L C n2 L2 C2) (bn : n ≤ 157) (b2 : 0 ≤ n2 ∧ n2 ≤ 1000) (ra : -2147483648 ≤ a ∧ a ≤ 2147483647) (x0 : (zs_ap 12 a (0, S, N)).1 = 0) (rf : zf_rf 12 a (S + 7) N2 V2 L2 0) (kw : zk_wk 12 a b (zs_ap 12 a (0, S, N)).2.1 n (fun d => V (S + 7 - d)) V L C n' V' L' C') (fw : zf_wk 12 a b (S + 7) n2 N2 V2 L2 C2 n2' V2' L2' C2') (eN : ∀ j, 0 ≤ j → j < 8 + (zs_ap 12 a (0, S, N)).2.1 → N' j = (zs_ap 12 a (0, S, N)).2.2 j) : ∃ g', zf_vs g' n' n2' L2' (zs_ap 12 a (0, S, N)).2.1 N' V' V2' ∧ zf_rows g' n' L' C' n2' L2' C2' := by
  obtain ⟨k1, k2, k3, k4, k5, k6, k7, k8, k9, k10⟩ := kw
  obtain ⟨f1, f2, f3, f4, f5, f6, f7, f8, f9, f10, f11, f12, f13, f14, f15, f16, f17⟩ := fw
  obtain ⟨r1, r2, r3, r4, r5, r6, r7⟩ := rf
  have ⟨⟨w1, w2⟩, s0, s6⟩ := hw
  dsimp only at w1 w2 s0 s6
  obtain ⟨⟨d1, d2⟩, t1, t2, u⟩ := zf_o12 x0
  obtain ⟨a1, a2⟩ := zf_at1 vs (j := S + 7) (by omega) (by omega) t1
  obtain ⟨b1, b3⟩ := zf_at1 vs (j := S + 6) (by omega) (by omega) t2
  have eV := (k10 (by decide)).1 rfl
  have e8 := k8 (by decide)
  have e9 := k9 (by decide)
  have eR := f17 (by decide)
  have rows' := (rows.sm e8.1 e8.2 e9).rs eR
  have eW := f8 rfl
  have vs' := vs.m (g' := g) (n' := n') (n2' := n2') (L2' := L2') (by have := e8.1; omega) eR.l.1 (fun _ _ _ => rfl) eR.l.2
  have u1 : (zs_ap 12 a (0, S, N)).2.1 = (S - 2) + 1 := u.1
  refine ⟨g, vs'.up u (by omega) (by omega) (by decide) eN (fun j j0 j1 => by rw [eV j j0, if_neg (by omega)]) (fun j j0 j1 => by rw [eW j j0, if_neg (by omega)]) ?_, rows'⟩
  have ex : V' ((zs_ap 12 a (0, S, N)).2.1 + 7) = zi32 (zi32 (V (S + 7 - 1)) + zi32 (V (S + 7 - 0))) := by rw [eV _ (by omega), if_pos rfl]
  have ey : V2' ((S - 2) + 8) = zi32 (zi64 (V2 (S + 7 - 1) + V2 (S + 7))) := by rw [eW _ (by omega), if_pos (by omega)]
  show zf_rel _ _ _ _ _ (V' ((zs_ap 12 a (0, S, N)).2.1 + 7)) _
  rw [ex, ey]
  rw [show S + 7 - 0 = S + 7 by omega, show S + 7 - 1 = S + 6 by omega, a1, b1, zi32_64, zi32_i a2.1 a2.2, zi32_i b3.1 b3.2]
  exact zf_int rfl (zi32_r _)
theorem zf_s13 (hw : zw_ok (0, S, N)) (ag : ∀ j, 0 ≤ j → j < 8 + S → N2 j = N j) (vs : zf_vs g n n2 L2 S N V V2) (rows : zf_rows g n L C n2 L2 C2) (bn : n ≤ 157) (b2 : 0 ≤ n2 ∧ n2 ≤ 1000) (ra : -2147483648 ≤ a ∧ a ≤ 2147483647) (x0 : (zs_ap 13 a (0, S, N)).1 = 0) (rf : zf_rf 13 a (S + 7) N2 V2 L2 0) (kw : zk_wk 13 a b (zs_ap 13 a (0, S, N)).2.1 n (fun d => V (S + 7 - d)) V L C n' V' L' C') (fw : zf_wk 13 a b (S + 7) n2 N2 V2 L2 C2 n2' V2' L2' C2') (eN : ∀ j, 0 ≤ j → j < 8 + (zs_ap 13 a (0, S, N)).2.1 → N' j = (zs_ap 13 a (0, S, N)).2.2 j) : ∃ g', zf_vs g' n' n2' L2' (zs_ap 13 a (0, S, N)).2.1 N' V' V2' ∧ zf_rows g' n' L' C' n2' L2' C2' := by
  obtain ⟨k1, k2, k3, k4, k5, k6, k7, k8, k9, k10⟩ := kw
  obtain ⟨f1, f2, f3, f4, f5, f6, f7, f8, f9, f10, f11, f12, f13, f14, f15, f16, f17⟩ := fw
  obtain ⟨r1, r2, r3, r4, r5, r6, r7⟩ := rf
  have ⟨⟨w1, w2⟩, s0, s6⟩ := hw
  dsimp only at w1 w2 s0 s6
  obtain ⟨⟨d1, d2⟩, t1, t2, u⟩ := zf_o12 x0
  obtain ⟨a1, a2⟩ := zf_at1 vs (j := S + 7) (by omega) (by omega) t1
  obtain ⟨b1, b3⟩ := zf_at1 vs (j := S + 6) (by omega) (by omega) t2
  have c0 : ¬ V2 (S + 7) = 0 := by rcases r2 rfl with z | z; omega; exact z.1
  have eV := (k10 (by decide)).2.1 rfl (by show ¬ zi32 (V (S + 7 - 0)) = 0; rw [show S + 7 - 0 = S + 7 by omega, zi32_i a2.1 a2.2, ← a1]; exact c0)
  have e8 := k8 (by decide)
  have e9 := k9 (by decide)
  have eR := f17 (by decide)
  have rows' := (rows.sm e8.1 e8.2 e9).rs eR
  have eW := f9 rfl
  have vs' := vs.m (g' := g) (n' := n') (n2' := n2') (L2' := L2') (by have := e8.1; omega) eR.l.1 (fun _ _ _ => rfl) eR.l.2
  have u1 : (zs_ap 13 a (0, S, N)).2.1 = (S - 2) + 1 := u.1
  refine ⟨g, vs'.up u (by omega) (by omega) (by decide) eN (fun j j0 j1 => by rw [eV j j0, if_neg (by omega)]) (fun j j0 j1 => by rw [eW j j0, if_neg (by omega)]) ?_, rows'⟩
  have ex : V' ((zs_ap 13 a (0, S, N)).2.1 + 7) = zi32 (Int.tdiv (zi32 (V (S + 7 - 1))) (zi32 (V (S + 7 - 0)))) := by rw [eV _ (by omega), if_pos rfl]
  have ey : V2' ((S - 2) + 8) = zi32 (Int.tdiv (V2 (S + 7 - 1)) (V2 (S + 7))) := by rw [eW _ (by omega), if_pos (by omega)]
  show zf_rel _ _ _ _ _ (V' ((zs_ap 13 a (0, S, N)).2.1 + 7)) _
  rw [ex, ey]
  rw [show S + 7 - 0 = S + 7 by omega, show S + 7 - 1 = S + 6 by omega, a1, b1, zi32_i a2.1 a2.2, zi32_i b3.1 b3.2]
  exact zf_int rfl (zi32_r _)
theorem zf_s14 (hw : zw_ok (0, S, N)) (ag : ∀ j, 0 ≤ j → j < 8 + S → N2 j = N j) (vs : zf_vs g n n2 L2 S N V V2) (rows : zf_rows g n L C n2 L2 C2) (bn : n ≤ 157) (b2 : 0 ≤ n2 ∧ n2 ≤ 1000) (ra : -2147483648 ≤ a ∧ a ≤ 2147483647) (x0 : (zs_ap 14 a (0, S, N)).1 = 0) (rf : zf_rf 14 a (S + 7) N2 V2 L2 0) (kw : zk_wk 14 a b (zs_ap 14 a (0, S, N)).2.1 n (fun d => V (S + 7 - d)) V L C n' V' L' C') (fw : zf_wk 14 a b (S + 7) n2 N2 V2 L2 C2 n2' V2' L2' C2') (eN : ∀ j, 0 ≤ j → j < 8 + (zs_ap 14 a (0, S, N)).2.1 → N' j = (zs_ap 14 a (0, S, N)).2.2 j) : ∃ g', zf_vs g' n' n2' L2' (zs_ap 14 a (0, S, N)).2.1 N' V' V2' ∧ zf_rows g' n' L' C' n2' L2' C2' := by
  obtain ⟨k1, k2, k3, k4, k5, k6, k7, k8, k9, k10⟩ := kw
  obtain ⟨f1, f2, f3, f4, f5, f6, f7, f8, f9, f10, f11, f12, f13, f14, f15, f16, f17⟩ := fw
  obtain ⟨r1, r2, r3, r4, r5, r6, r7⟩ := rf
  have ⟨⟨w1, w2⟩, s0, s6⟩ := hw
  dsimp only at w1 w2 s0 s6
  obtain ⟨⟨d1, d2⟩, t1, t2, u⟩ := zf_o14 x0
  have h9 := zf_h9 hw (j := S + 7) (by omega) (by omega) t1
  have h7 := zf_h9 hw (j := S + 5) (by omega) (by omega) t2
  have a1 := zf_at3 vs (j := S + 7) (by omega) (by omega) t1
  have b1 := zf_at3 vs (j := S + 5) (by omega) (by omega) t2
  have eV := (k10 (by decide)).2.2.1 rfl
  have e8 := k8 (by decide)
  have e9 := k9 (by decide)
  have eR := f17 (by decide)
  have rows' := (rows.sm e8.1 e8.2 e9).rs eR
  have eW := f10 rfl
  have vs' := vs.m (g' := g) (n' := n') (n2' := n2') (L2' := L2') (by have := e8.1; omega) eR.l.1 (fun _ _ _ => rfl) eR.l.2
  have u1 : (zs_ap 14 a (0, S, N)).2.1 = (S - 4) + 2 := u.1
  refine ⟨g, vs'.up u (by omega) (by omega) (by decide) eN (fun j j0 j1 => by rw [eV j j0, if_neg (by omega)]) (fun j j0 j1 => by rw [eW j j0, if_neg (by omega)]) ?_, rows'⟩
  have ex : V' ((zs_ap 14 a (0, S, N)).2.1 + 7) = zi64 (V (S + 7 - 2) + V (S + 7 - 0)) := by rw [eV _ (by omega), if_pos rfl]
  have ey : V2' ((S - 4) + 8) = zi64 (V2 (S + 7 - 3) + V2 (S + 7 - 1)) := by rw [eW _ (by omega), if_pos (by omega)]
  show zf_rel _ _ _ _ _ (V' ((zs_ap 14 a (0, S, N)).2.1 + 7)) _
  rw [ex, ey]
  rw [show S + 7 - 0 = S + 7 by omega, show S + 7 - 2 = S + 5 by omega, a1, show S + 7 - 3 = S + 5 - 1 by omega, b1]
  exact zf_cnt rfl
theorem zf_s15 (hw : zw_ok (0, S, N)) (ag : ∀ j, 0 ≤ j → j < 8 + S → N2 j = N j) (vs : zf_vs g n n2 L2 S N V V2) (rows : zf_rows g n L C n2 L2 C2) (bn : n ≤ 157) (b2 : 0 ≤ n2 ∧ n2 ≤ 1000) (ra : -2147483648 ≤ a ∧ a ≤ 2147483647) (x0 : (zs_ap 15 a (0, S, N)).1 = 0) (rf : zf_rf 15 a (S + 7) N2 V2 L2 0) (kw : zk_wk 15 a b (zs_ap 15 a (0, S, N)).2.1 n (fun d => V (S + 7 - d)) V L C n' V' L' C') (fw : zf_wk 15 a b (S + 7) n2 N2 V2 L2 C2 n2' V2' L2' C2') (eN : ∀ j, 0 ≤ j → j < 8 + (zs_ap 15 a (0, S, N)).2.1 → N' j = (zs_ap 15 a (0, S, N)).2.2 j) : ∃ g', zf_vs g' n' n2' L2' (zs_ap 15 a (0, S, N)).2.1 N' V' V2' ∧ zf_rows g' n' L' C' n2' L2' C2' := by
  obtain ⟨k1, k2, k3, k4, k5, k6, k7, k8, k9, k10⟩ := kw
  obtain ⟨f1, f2, f3, f4, f5, f6, f7, f8, f9, f10, f11, f12, f13, f14, f15, f16, f17⟩ := fw
  obtain ⟨r1, r2, r3, r4, r5, r6, r7⟩ := rf
  have ⟨⟨w1, w2⟩, s0, s6⟩ := hw
  dsimp only at w1 w2 s0 s6
  obtain ⟨d1, t1, u⟩ := zf_o15 x0
  have h9 := zf_h9 hw (j := S + 7) (by omega) (by omega) t1
  have a1 := zf_at3 vs (j := S + 7) (by omega) (by omega) t1
  have eV := (k10 (by decide)).2.2.2.1 rfl
  have e8 := k8 (by decide)
  have e9 := k9 (by decide)
  have eR := f17 (by decide)
  have rows' := (rows.sm e8.1 e8.2 e9).rs eR
  have eW := f11 rfl
  have vs' := vs.m (g' := g) (n' := n') (n2' := n2') (L2' := L2') (by have := e8.1; omega) eR.l.1 (fun _ _ _ => rfl) eR.l.2
  have u1 : (zs_ap 15 a (0, S, N)).2.1 = (S - 2) + 1 := u.1
  refine ⟨g, vs'.up u (by omega) (by omega) (by decide) eN (fun j j0 j1 => by rw [eV j j0, if_neg (by omega)]) (fun j j0 j1 => by rw [eW j j0, if_neg (by omega)]) ?_, rows'⟩
  have ex : V' ((zs_ap 15 a (0, S, N)).2.1 + 7) = zi32 (V (S + 7 - 0)) := by rw [eV _ (by omega), if_pos rfl]
  have ey : V2' ((S - 2) + 8) = zi32 (V2 (S + 7 - 1)) := by rw [eW _ (by omega), if_pos (by omega)]
  show zf_rel _ _ _ _ _ (V' ((zs_ap 15 a (0, S, N)).2.1 + 7)) _
  rw [ex, ey]
  rw [show S + 7 - 0 = S + 7 by omega, a1]
  exact zf_int rfl (zi32_r _)
theorem zf_s16 (hw : zw_ok (0, S, N)) (ag : ∀ j, 0 ≤ j → j < 8 + S → N2 j = N j) (vs : zf_vs g n n2 L2 S N V V2) (rows : zf_rows g n L C n2 L2 C2) (bn : n ≤ 157) (b2 : 0 ≤ n2 ∧ n2 ≤ 1000) (ra : -2147483648 ≤ a ∧ a ≤ 2147483647) (x0 : (zs_ap 16 a (0, S, N)).1 = 0) (rf : zf_rf 16 a (S + 7) N2 V2 L2 0) (kw : zk_wk 16 a b (zs_ap 16 a (0, S, N)).2.1 n (fun d => V (S + 7 - d)) V L C n' V' L' C') (fw : zf_wk 16 a b (S + 7) n2 N2 V2 L2 C2 n2' V2' L2' C2') (eN : ∀ j, 0 ≤ j → j < 8 + (zs_ap 16 a (0, S, N)).2.1 → N' j = (zs_ap 16 a (0, S, N)).2.2 j) : ∃ g', zf_vs g' n' n2' L2' (zs_ap 16 a (0, S, N)).2.1 N' V' V2' ∧ zf_rows g' n' L' C' n2' L2' C2' := by
  obtain ⟨k1, k2, k3, k4, k5, k6, k7, k8, k9, k10⟩ := kw
  obtain ⟨f1, f2, f3, f4, f5, f6, f7, f8, f9, f10, f11, f12, f13, f14, f15, f16, f17⟩ := fw
  obtain ⟨r1, r2, r3, r4, r5, r6, r7⟩ := rf
  have ⟨⟨w1, w2⟩, s0, s6⟩ := hw
  dsimp only at w1 w2 s0 s6
  obtain ⟨d1, t1, u⟩ := zf_o16 x0
  obtain ⟨a1, a2⟩ := zf_at1 vs (j := S + 7) (by omega) (by omega) t1
  have eV := (k10 (by decide)).2.2.2.2.1 (Or.inl rfl)
  have e8 := k8 (by decide)
  have e9 := k9 (by decide)
  have eR := f17 (by decide)
  have rows' := (rows.sm e8.1 e8.2 e9).rs eR
  have eW := f16 (by decide)
  have vs' := vs.m (g' := g) (n' := n') (n2' := n2') (L2' := L2') (by have := e8.1; omega) eR.l.1 (fun _ _ _ => rfl) eR.l.2
  have u1 : (zs_ap 16 a (0, S, N)).2.1 = (S - 1) + 2 := u.1
  refine ⟨g, vs'.up u (by omega) (by omega) (by decide) eN (fun j j0 j1 => by rw [eV j j0, if_neg (by omega)]) (fun j j0 j1 => by exact eW j j0) ?_, rows'⟩
  have ex : V' ((zs_ap 16 a (0, S, N)).2.1 + 7) = V (S + 7 - 0) := by rw [eV _ (by omega), if_pos rfl]
  have ey : V2' ((S - 1) + 8) = V2 ((S - 1) + 8) := by rw [eW _ (by omega)]
  show zf_rel _ _ _ _ _ (V' ((zs_ap 16 a (0, S, N)).2.1 + 7)) _
  rw [ex, ey]
  rw [show S + 7 - 0 = S + 7 by omega, show S - 1 + 8 = S + 7 by omega, a1]
  exact zf_cnt rfl
theorem zf_s17 (hw : zw_ok (0, S, N)) (ag : ∀ j, 0 ≤ j → j < 8 + S → N2 j = N j) (vs : zf_vs g n n2 L2 S N V V2) (rows : zf_rows g n L C n2 L2 C2) (bn : n ≤ 157) (b2 : 0 ≤ n2 ∧ n2 ≤ 1000) (ra : -2147483648 ≤ a ∧ a ≤ 2147483647) (x0 : (zs_ap 17 a (0, S, N)).1 = 0) (rf : zf_rf 17 a (S + 7) N2 V2 L2 0) (kw : zk_wk 17 a b (zs_ap 17 a (0, S, N)).2.1 n (fun d => V (S + 7 - d)) V L C n' V' L' C') (fw : zf_wk 17 a b (S + 7) n2 N2 V2 L2 C2 n2' V2' L2' C2') (eN : ∀ j, 0 ≤ j → j < 8 + (zs_ap 17 a (0, S, N)).2.1 → N' j = (zs_ap 17 a (0, S, N)).2.2 j) : ∃ g', zf_vs g' n' n2' L2' (zs_ap 17 a (0, S, N)).2.1 N' V' V2' ∧ zf_rows g' n' L' C' n2' L2' C2' := by
  obtain ⟨k1, k2, k3, k4, k5, k6, k7, k8, k9, k10⟩ := kw
  obtain ⟨f1, f2, f3, f4, f5, f6, f7, f8, f9, f10, f11, f12, f13, f14, f15, f16, f17⟩ := fw
  obtain ⟨r1, r2, r3, r4, r5, r6, r7⟩ := rf
  have ⟨⟨w1, w2⟩, s0, s6⟩ := hw
  dsimp only at w1 w2 s0 s6
  obtain ⟨⟨d1, d2⟩, t1, t2, u⟩ := zf_o17 x0
  obtain ⟨a1, a2⟩ := zf_at1 vs (j := S + 7) (by omega) (by omega) t1
  have m1 : N2 (S + 7 - 1) = N (S + 6) := by rw [show S + 7 - 1 = S + 6 by omega]; exact ag _ (by omega) (by omega)
  have t3 : N (S + 6) = 6 ∧ 0 ≤ V2 (S + 7) ∧ V2 (S + 7) < L2 (zi32 (V2 (S + 7 - 1))) := by
    rcases r3 rfl with z | z | z
    · omega
    · refine ⟨by have := z.1; omega, z.2.1⟩
    · omega
  obtain ⟨b1, b3⟩ := zf_at6 vs (j := S + 6) (by omega) (by omega) t3.1
  obtain ⟨p1, p2, p3, p4⟩ := rows.2.1 _ b1.1 b1.2
  have t4 := t3.2
  rw [show S + 7 - 1 = S + 6 by omega, b3, a1, zi32_i (by omega) (by omega), p2] at t4
  have p5 := p4 _ t4.1 t4.2
  have z1 : zi32 (V (S + 7 - 1)) = V (S + 6) := by rw [show S + 7 - 1 = S + 6 by omega]; exact zi32_i (by omega) (by omega)
  have z0 : zi32 (V (S + 7 - 0)) = V (S + 7) := by rw [show S + 7 - 0 = S + 7 by omega]; exact zi32_i (by omega) (by omega)
  have eV := (k10 (by decide)).2.2.2.2.2.1 rfl (by show zk_hc n L (zi32 (V (S + 7 - 1))) (zi32 (V (S + 7 - 0))); rw [z1, z0]; exact ⟨b1, t4⟩)
  have e8 := k8 (by decide)
  have e9 := k9 (by decide)
  have eR := f17 (by decide)
  have rows' := (rows.sm e8.1 e8.2 e9).rs eR
  have eW := f12 rfl
  have vs' := vs.m (g' := g) (n' := n') (n2' := n2') (L2' := L2') (by have := e8.1; omega) eR.l.1 (fun _ _ _ => rfl) eR.l.2
  have u1 : (zs_ap 17 a (0, S, N)).2.1 = (S - 2) + 1 := u.1
  refine ⟨g, vs'.up u (by omega) (by omega) (by decide) eN (fun j j0 j1 => by rw [eV j j0, if_neg (by omega)]) (fun j j0 j1 => by rw [eW j j0, if_neg (by omega)]) ?_, rows'⟩
  have ex : V' ((zs_ap 17 a (0, S, N)).2.1 + 7) = C (20 * zi32 (V (S + 7 - 1)) + zi32 (V (S + 7 - 0))) := by rw [eV _ (by omega), if_pos rfl]
  have ey : V2' ((S - 2) + 8) = C2 (20 * zi32 (V2 (S + 7 - 1)) + zi32 (V2 (S + 7))) := by rw [eW _ (by omega), if_pos (by omega)]
  show zf_rel _ _ _ _ _ (V' ((zs_ap 17 a (0, S, N)).2.1 + 7)) _
  rw [ex, ey]
  rw [z1, z0, show S + 7 - 1 = S + 6 by omega, b3, a1, zi32_i (show -2147483648 ≤ g (V (S + 6)) by omega) (by omega), zi32_i a2.1 a2.2]
  exact zf_int p5.1 p5.2
theorem zf_s19 (hw : zw_ok (0, S, N)) (ag : ∀ j, 0 ≤ j → j < 8 + S → N2 j = N j) (vs : zf_vs g n n2 L2 S N V V2) (rows : zf_rows g n L C n2 L2 C2) (bn : n ≤ 157) (b2 : 0 ≤ n2 ∧ n2 ≤ 1000) (ra : -2147483648 ≤ a ∧ a ≤ 2147483647) (x0 : (zs_ap 19 a (0, S, N)).1 = 0) (rf : zf_rf 19 a (S + 7) N2 V2 L2 0) (kw : zk_wk 19 a b (zs_ap 19 a (0, S, N)).2.1 n (fun d => V (S + 7 - d)) V L C n' V' L' C') (fw : zf_wk 19 a b (S + 7) n2 N2 V2 L2 C2 n2' V2' L2' C2') (eN : ∀ j, 0 ≤ j → j < 8 + (zs_ap 19 a (0, S, N)).2.1 → N' j = (zs_ap 19 a (0, S, N)).2.2 j) : ∃ g', zf_vs g' n' n2' L2' (zs_ap 19 a (0, S, N)).2.1 N' V' V2' ∧ zf_rows g' n' L' C' n2' L2' C2' := by
  obtain ⟨k1, k2, k3, k4, k5, k6, k7, k8, k9, k10⟩ := kw
  obtain ⟨f1, f2, f3, f4, f5, f6, f7, f8, f9, f10, f11, f12, f13, f14, f15, f16, f17⟩ := fw
  obtain ⟨r1, r2, r3, r4, r5, r6, r7⟩ := rf
  have ⟨⟨w1, w2⟩, s0, s6⟩ := hw
  dsimp only at w1 w2 s0 s6
  obtain ⟨d1, t1, u⟩ := zf_o19 x0
  have m1 : N2 (S + 7) = N (S + 7) := ag _ (by omega) (by omega)
  have t3 : N (S + 7) = 6 := by
    rcases r5 (Or.inl rfl) with z | z
    · omega
    · have := z.1; omega
  obtain ⟨b1, b3⟩ := zf_at6 vs (j := S + 7) (by omega) (by omega) t3
  obtain ⟨p1, p2, p3, p4⟩ := rows.2.1 _ b1.1 b1.2
  have z0 : zi32 (V (S + 7 - 0)) = V (S + 7) := by rw [show S + 7 - 0 = S + 7 by omega]; exact zi32_i (by omega) (by omega)
  have eV := (k10 (by decide)).2.2.2.2.2.2.2.1 rfl (by show 0 ≤ zi32 (V (S + 7 - 0)) ∧ zi32 (V (S + 7 - 0)) < n; rw [z0]; exact b1)
  have e8 := k8 (by decide)
  have e9 := k9 (by decide)
  have eR := f17 (by decide)
  have rows' := (rows.sm e8.1 e8.2 e9).rs eR
  have eW := f14 (Or.inl rfl)
  have vs' := vs.m (g' := g) (n' := n') (n2' := n2') (L2' := L2') (by have := e8.1; omega) eR.l.1 (fun _ _ _ => rfl) eR.l.2
  have u1 : (zs_ap 19 a (0, S, N)).2.1 = (S - 1) + 1 := u.1
  refine ⟨g, vs'.up u (by omega) (by omega) (by decide) eN (fun j j0 j1 => by rw [eV j j0, if_neg (by omega)]) (fun j j0 j1 => by rw [eW j j0, if_neg (by omega)]) ?_, rows'⟩
  have ex : V' ((zs_ap 19 a (0, S, N)).2.1 + 7) = L (zi32 (V (S + 7 - 0))) := by rw [eV _ (by omega), if_pos rfl]
  have ey : V2' ((S - 1) + 8) = L2 (zi32 (V2 (S + 7))) := by rw [eW _ (by omega), if_pos (by omega)]
  show zf_rel _ _ _ _ _ (V' ((zs_ap 19 a (0, S, N)).2.1 + 7)) _
  rw [ex, ey]
  rw [z0, b3, zi32_i (show -2147483648 ≤ g (V (S + 7)) by omega) (by omega), p2]
  exact zf_int rfl (by omega)
theorem zf_s20 (hw : zw_ok (0, S, N)) (ag : ∀ j, 0 ≤ j → j < 8 + S → N2 j = N j) (vs : zf_vs g n n2 L2 S N V V2) (rows : zf_rows g n L C n2 L2 C2) (bn : n ≤ 157) (b2 : 0 ≤ n2 ∧ n2 ≤ 1000) (ra : -2147483648 ≤ a ∧ a ≤ 2147483647) (x0 : (zs_ap 20 a (0, S, N)).1 = 0) (rf : zf_rf 20 a (S + 7) N2 V2 L2 0) (kw : zk_wk 20 a b (zs_ap 20 a (0, S, N)).2.1 n (fun d => V (S + 7 - d)) V L C n' V' L' C') (fw : zf_wk 20 a b (S + 7) n2 N2 V2 L2 C2 n2' V2' L2' C2') (eN : ∀ j, 0 ≤ j → j < 8 + (zs_ap 20 a (0, S, N)).2.1 → N' j = (zs_ap 20 a (0, S, N)).2.2 j) : ∃ g', zf_vs g' n' n2' L2' (zs_ap 20 a (0, S, N)).2.1 N' V' V2' ∧ zf_rows g' n' L' C' n2' L2' C2' := by
  obtain ⟨k1, k2, k3, k4, k5, k6, k7, k8, k9, k10⟩ := kw
  obtain ⟨f1, f2, f3, f4, f5, f6, f7, f8, f9, f10, f11, f12, f13, f14, f15, f16, f17⟩ := fw
  obtain ⟨r1, r2, r3, r4, r5, r6, r7⟩ := rf
  have ⟨⟨w1, w2⟩, s0, s6⟩ := hw
  dsimp only at w1 w2 s0 s6
  obtain ⟨d1, t1, u⟩ := zf_o20 x0
  have m1 : N2 (S + 7) = N (S + 7) := ag _ (by omega) (by omega)
  have t3 : N (S + 7) = 7 ∨ N (S + 7) = 8 := by
    rcases r5 (Or.inr (Or.inl rfl)) with z | z
    · omega
    · have := z.1; omega
  obtain ⟨b1, b3, b4⟩ := zf_at7 vs (j := S + 7) (by omega) (by omega) t3
  have eV := (k10 (by decide)).2.2.2.2.1 (Or.inr rfl)
  have e8 := k8 (by decide)
  have e9 := k9 (by decide)
  have eR := f17 (by decide)
  have rows' := (rows.sm e8.1 e8.2 e9).rs eR
  have eW := f14 (Or.inr rfl)
  have vs' := vs.m (g' := g) (n' := n') (n2' := n2') (L2' := L2') (by have := e8.1; omega) eR.l.1 (fun _ _ _ => rfl) eR.l.2
  have u1 : (zs_ap 20 a (0, S, N)).2.1 = (S - 1) + 1 := u.1
  refine ⟨g, vs'.up u (by omega) (by omega) (by decide) eN (fun j j0 j1 => by rw [eV j j0, if_neg (by omega)]) (fun j j0 j1 => by rw [eW j j0, if_neg (by omega)]) ?_, rows'⟩
  have ex : V' ((zs_ap 20 a (0, S, N)).2.1 + 7) = V (S + 7 - 0) := by rw [eV _ (by omega), if_pos rfl]
  have ey : V2' ((S - 1) + 8) = L2 (zi32 (V2 (S + 7))) := by rw [eW _ (by omega), if_pos (by omega)]
  show zf_rel _ _ _ _ _ (V' ((zs_ap 20 a (0, S, N)).2.1 + 7)) _
  rw [ex, ey]
  rw [show S + 7 - 0 = S + 7 by omega, zi32_i (show -2147483648 ≤ V2 (S + 7) by omega) (by omega), b3]
  exact zf_int rfl b4
theorem zf_s0 (hw : zw_ok (0, S, N)) (ag : ∀ j, 0 ≤ j → j < 8 + S → N2 j = N j) (vs : zf_vs g n n2 L2 S N V V2) (rows : zf_rows g n L C n2 L2 C2) (bn : n ≤ 157) (b2 : 0 ≤ n2 ∧ n2 ≤ 1000) (ra : -2147483648 ≤ a ∧ a ≤ 2147483647) (x0 : (zs_ap 0 a (0, S, N)).1 = 0) (rf : zf_rf 0 a (S + 7) N2 V2 L2 0) (kw : zk_wk 0 a b (zs_ap 0 a (0, S, N)).2.1 n (fun d => V (S + 7 - d)) V L C n' V' L' C') (fw : zf_wk 0 a b (S + 7) n2 N2 V2 L2 C2 n2' V2' L2' C2') (eN : ∀ j, 0 ≤ j → j < 8 + (zs_ap 0 a (0, S, N)).2.1 → N' j = (zs_ap 0 a (0, S, N)).2.2 j) (hS : 0 ≤ (zs_ap 0 a (0, S, N)).2.1) : ∃ g', zf_vs g' n' n2' L2' (zs_ap 0 a (0, S, N)).2.1 N' V' V2' ∧ zf_rows g' n' L' C' n2' L2' C2' := by
  obtain ⟨k1, k2, k3, k4, k5, k6, k7, k8, k9, k10⟩ := kw
  obtain ⟨f1, f2, f3, f4, f5, f6, f7, f8, f9, f10, f11, f12, f13, f14, f15, f16, f17⟩ := fw
  obtain ⟨r1, r2, r3, r4, r5, r6, r7⟩ := rf
  have ⟨⟨w1, w2⟩, s0, s6⟩ := hw
  dsimp only at w1 w2 s0 s6
  have u : zs_ap 0 a (0, S, N) = (0, S, N) := rfl
  have e8 := k8 (by decide)
  have e9 := k9 (by decide)
  have eR := f17 (by decide)
  have rows' := (rows.sm e8.1 e8.2 e9).rs eR
  have eV := k7 (by decide)
  have eW := f16 (by decide)
  have vs' := vs.m (g' := g) (n' := n') (n2' := n2') (L2' := L2') (by have := e8.1; omega) eR.l.1 (fun _ _ _ => rfl) eR.l.2
  rw [u] at eN hS ⊢
  exact ⟨g, vs'.dn (by show S ≤ S; omega) (fun j j0 j1 => eN j j0 (by rcases j1 with z | z; exact z; have hS2 : 0 ≤ S := hS; show j < 8 + (S); omega)) eV eW, rows'⟩
theorem zf_s10 (hw : zw_ok (0, S, N)) (ag : ∀ j, 0 ≤ j → j < 8 + S → N2 j = N j) (vs : zf_vs g n n2 L2 S N V V2) (rows : zf_rows g n L C n2 L2 C2) (bn : n ≤ 157) (b2 : 0 ≤ n2 ∧ n2 ≤ 1000) (ra : -2147483648 ≤ a ∧ a ≤ 2147483647) (x0 : (zs_ap 10 a (0, S, N)).1 = 0) (rf : zf_rf 10 a (S + 7) N2 V2 L2 0) (kw : zk_wk 10 a b (zs_ap 10 a (0, S, N)).2.1 n (fun d => V (S + 7 - d)) V L C n' V' L' C') (fw : zf_wk 10 a b (S + 7) n2 N2 V2 L2 C2 n2' V2' L2' C2') (eN : ∀ j, 0 ≤ j → j < 8 + (zs_ap 10 a (0, S, N)).2.1 → N' j = (zs_ap 10 a (0, S, N)).2.2 j) (hS : 0 ≤ (zs_ap 10 a (0, S, N)).2.1) : ∃ g', zf_vs g' n' n2' L2' (zs_ap 10 a (0, S, N)).2.1 N' V' V2' ∧ zf_rows g' n' L' C' n2' L2' C2' := by
  obtain ⟨k1, k2, k3, k4, k5, k6, k7, k8, k9, k10⟩ := kw
  obtain ⟨f1, f2, f3, f4, f5, f6, f7, f8, f9, f10, f11, f12, f13, f14, f15, f16, f17⟩ := fw
  obtain ⟨r1, r2, r3, r4, r5, r6, r7⟩ := rf
  have ⟨⟨w1, w2⟩, s0, s6⟩ := hw
  dsimp only at w1 w2 s0 s6
  obtain ⟨u, d1⟩ := zf_o10 x0
  have e8 := k8 (by decide)
  have e9 := k9 (by decide)
  have eR := f17 (by decide)
  have rows' := (rows.sm e8.1 e8.2 e9).rs eR
  have eV := k7 (by decide)
  have eW := f16 (by decide)
  have vs' := vs.m (g' := g) (n' := n') (n2' := n2') (L2' := L2') (by have := e8.1; omega) eR.l.1 (fun _ _ _ => rfl) eR.l.2
  rw [u] at eN hS ⊢
  exact ⟨g, vs'.dn (by show S - 1 ≤ S; omega) (fun j j0 j1 => eN j j0 (by rcases j1 with z | z; exact z; have hS2 : 0 ≤ S - 1 := hS; show j < 8 + (S - 1); omega)) eV eW, rows'⟩
theorem zf_s11 (hw : zw_ok (0, S, N)) (ag : ∀ j, 0 ≤ j → j < 8 + S → N2 j = N j) (vs : zf_vs g n n2 L2 S N V V2) (rows : zf_rows g n L C n2 L2 C2) (bn : n ≤ 157) (b2 : 0 ≤ n2 ∧ n2 ≤ 1000) (ra : -2147483648 ≤ a ∧ a ≤ 2147483647) (x0 : (zs_ap 11 a (0, S, N)).1 = 0) (rf : zf_rf 11 a (S + 7) N2 V2 L2 0) (kw : zk_wk 11 a b (zs_ap 11 a (0, S, N)).2.1 n (fun d => V (S + 7 - d)) V L C n' V' L' C') (fw : zf_wk 11 a b (S + 7) n2 N2 V2 L2 C2 n2' V2' L2' C2') (eN : ∀ j, 0 ≤ j → j < 8 + (zs_ap 11 a (0, S, N)).2.1 → N' j = (zs_ap 11 a (0, S, N)).2.2 j) (hS : 0 ≤ (zs_ap 11 a (0, S, N)).2.1) : ∃ g', zf_vs g' n' n2' L2' (zs_ap 11 a (0, S, N)).2.1 N' V' V2' ∧ zf_rows g' n' L' C' n2' L2' C2' := by
  obtain ⟨k1, k2, k3, k4, k5, k6, k7, k8, k9, k10⟩ := kw
  obtain ⟨f1, f2, f3, f4, f5, f6, f7, f8, f9, f10, f11, f12, f13, f14, f15, f16, f17⟩ := fw
  obtain ⟨r1, r2, r3, r4, r5, r6, r7⟩ := rf
  have ⟨⟨w1, w2⟩, s0, s6⟩ := hw
  dsimp only at w1 w2 s0 s6
  obtain ⟨u, d1⟩ := zf_o11 x0
  have e8 := k8 (by decide)
  have e9 := k9 (by decide)
  have eR := f17 (by decide)
  have rows' := (rows.sm e8.1 e8.2 e9).rs eR
  have eV := k7 (by decide)
  have eW := f16 (by decide)
  have vs' := vs.m (g' := g) (n' := n') (n2' := n2') (L2' := L2') (by have := e8.1; omega) eR.l.1 (fun _ _ _ => rfl) eR.l.2
  rw [u] at eN hS ⊢
  exact ⟨g, vs'.dn (by show S - 2 ≤ S; omega) (fun j j0 j1 => eN j j0 (by rcases j1 with z | z; exact z; have hS2 : 0 ≤ S - 2 := hS; show j < 8 + (S - 2); omega)) eV eW, rows'⟩
theorem zf_s24 (hw : zw_ok (0, S, N)) (ag : ∀ j, 0 ≤ j → j < 8 + S → N2 j = N j) (vs : zf_vs g n n2 L2 S N V V2) (rows : zf_rows g n L C n2 L2 C2) (bn : n ≤ 157) (b2 : 0 ≤ n2 ∧ n2 ≤ 1000) (ra : -2147483648 ≤ a ∧ a ≤ 2147483647) (x0 : (zs_ap 24 a (0, S, N)).1 = 0) (rf : zf_rf 24 a (S + 7) N2 V2 L2 0) (kw : zk_wk 24 a b (zs_ap 24 a (0, S, N)).2.1 n (fun d => V (S + 7 - d)) V L C n' V' L' C') (fw : zf_wk 24 a b (S + 7) n2 N2 V2 L2 C2 n2' V2' L2' C2') (eN : ∀ j, 0 ≤ j → j < 8 + (zs_ap 24 a (0, S, N)).2.1 → N' j = (zs_ap 24 a (0, S, N)).2.2 j) (hS : 0 ≤ (zs_ap 24 a (0, S, N)).2.1) : ∃ g', zf_vs g' n' n2' L2' (zs_ap 24 a (0, S, N)).2.1 N' V' V2' ∧ zf_rows g' n' L' C' n2' L2' C2' := by
  obtain ⟨k1, k2, k3, k4, k5, k6, k7, k8, k9, k10⟩ := kw
  obtain ⟨f1, f2, f3, f4, f5, f6, f7, f8, f9, f10, f11, f12, f13, f14, f15, f16, f17⟩ := fw
  obtain ⟨r1, r2, r3, r4, r5, r6, r7⟩ := rf
  have ⟨⟨w1, w2⟩, s0, s6⟩ := hw
  dsimp only at w1 w2 s0 s6
  have u : zs_ap 24 a (0, S, N) = (0, S, N) := rfl
  have e8 := k8 (by decide)
  have e9 := k9 (by decide)
  have eR := f17 (by decide)
  have rows' := (rows.sm e8.1 e8.2 e9).rs eR
  have eV := k7 (by decide)
  have eW := f16 (by decide)
  have vs' := vs.m (g' := g) (n' := n') (n2' := n2') (L2' := L2') (by have := e8.1; omega) eR.l.1 (fun _ _ _ => rfl) eR.l.2
  rw [u] at eN hS ⊢
  exact ⟨g, vs'.dn (by show S ≤ S; omega) (fun j j0 j1 => eN j j0 (by rcases j1 with z | z; exact z; have hS2 : 0 ≤ S := hS; show j < 8 + (S); omega)) eV eW, rows'⟩
theorem zf_s25 (hw : zw_ok (0, S, N)) (ag : ∀ j, 0 ≤ j → j < 8 + S → N2 j = N j) (vs : zf_vs g n n2 L2 S N V V2) (rows : zf_rows g n L C n2 L2 C2) (bn : n ≤ 157) (b2 : 0 ≤ n2 ∧ n2 ≤ 1000) (ra : -2147483648 ≤ a ∧ a ≤ 2147483647) (x0 : (zs_ap 25 a (0, S, N)).1 = 0) (rf : zf_rf 25 a (S + 7) N2 V2 L2 0) (kw : zk_wk 25 a b (zs_ap 25 a (0, S, N)).2.1 n (fun d => V (S + 7 - d)) V L C n' V' L' C') (fw : zf_wk 25 a b (S + 7) n2 N2 V2 L2 C2 n2' V2' L2' C2') (eN : ∀ j, 0 ≤ j → j < 8 + (zs_ap 25 a (0, S, N)).2.1 → N' j = (zs_ap 25 a (0, S, N)).2.2 j) (hS : 0 ≤ (zs_ap 25 a (0, S, N)).2.1) : ∃ g', zf_vs g' n' n2' L2' (zs_ap 25 a (0, S, N)).2.1 N' V' V2' ∧ zf_rows g' n' L' C' n2' L2' C2' := by
  obtain ⟨k1, k2, k3, k4, k5, k6, k7, k8, k9, k10⟩ := kw
  obtain ⟨f1, f2, f3, f4, f5, f6, f7, f8, f9, f10, f11, f12, f13, f14, f15, f16, f17⟩ := fw
  obtain ⟨r1, r2, r3, r4, r5, r6, r7⟩ := rf
  have ⟨⟨w1, w2⟩, s0, s6⟩ := hw
  dsimp only at w1 w2 s0 s6
  obtain ⟨d1, t1, u9⟩ := zf_n1 (show (zs_need 1 (0, S, N)).1 = 0 from x0)
  have u : zs_ap 25 a (0, S, N) = (0, S - 1, N) := u9
  have e8 := k8 (by decide)
  have e9 := k9 (by decide)
  have eR := f17 (by decide)
  have rows' := (rows.sm e8.1 e8.2 e9).rs eR
  have eV := k7 (by decide)
  have eW := f16 (by decide)
  have vs' := vs.m (g' := g) (n' := n') (n2' := n2') (L2' := L2') (by have := e8.1; omega) eR.l.1 (fun _ _ _ => rfl) eR.l.2
  rw [u] at eN hS ⊢
  exact ⟨g, vs'.dn (by show S - 1 ≤ S; omega) (fun j j0 j1 => eN j j0 (by rcases j1 with z | z; exact z; have hS2 : 0 ≤ S - 1 := hS; show j < 8 + (S - 1); omega)) eV eW, rows'⟩
theorem zf_s27 (hw : zw_ok (0, S, N)) (ag : ∀ j, 0 ≤ j → j < 8 + S → N2 j = N j) (vs : zf_vs g n n2 L2 S N V V2) (rows : zf_rows g n L C n2 L2 C2) (bn : n ≤ 157) (b2 : 0 ≤ n2 ∧ n2 ≤ 1000) (ra : -2147483648 ≤ a ∧ a ≤ 2147483647) (x0 : (zs_ap 27 a (0, S, N)).1 = 0) (rf : zf_rf 27 a (S + 7) N2 V2 L2 0) (kw : zk_wk 27 a b (zs_ap 27 a (0, S, N)).2.1 n (fun d => V (S + 7 - d)) V L C n' V' L' C') (fw : zf_wk 27 a b (S + 7) n2 N2 V2 L2 C2 n2' V2' L2' C2') (eN : ∀ j, 0 ≤ j → j < 8 + (zs_ap 27 a (0, S, N)).2.1 → N' j = (zs_ap 27 a (0, S, N)).2.2 j) (hS : 0 ≤ (zs_ap 27 a (0, S, N)).2.1) : ∃ g', zf_vs g' n' n2' L2' (zs_ap 27 a (0, S, N)).2.1 N' V' V2' ∧ zf_rows g' n' L' C' n2' L2' C2' := by
  obtain ⟨k1, k2, k3, k4, k5, k6, k7, k8, k9, k10⟩ := kw
  obtain ⟨f1, f2, f3, f4, f5, f6, f7, f8, f9, f10, f11, f12, f13, f14, f15, f16, f17⟩ := fw
  obtain ⟨r1, r2, r3, r4, r5, r6, r7⟩ := rf
  have ⟨⟨w1, w2⟩, s0, s6⟩ := hw
  dsimp only at w1 w2 s0 s6
  obtain ⟨d1, t1, u9⟩ := zf_n1 (show (zs_need 1 (0, S, N)).1 = 0 from x0)
  have u : zs_ap 27 a (0, S, N) = (0, S - 1, N) := u9
  have e8 := k8 (by decide)
  have e9 := k9 (by decide)
  have eR := f17 (by decide)
  have rows' := (rows.sm e8.1 e8.2 e9).rs eR
  have eV := k7 (by decide)
  have eW := f16 (by decide)
  have vs' := vs.m (g' := g) (n' := n') (n2' := n2') (L2' := L2') (by have := e8.1; omega) eR.l.1 (fun _ _ _ => rfl) eR.l.2
  rw [u] at eN hS ⊢
  exact ⟨g, vs'.dn (by show S - 1 ≤ S; omega) (fun j j0 j1 => eN j j0 (by rcases j1 with z | z; exact z; have hS2 : 0 ≤ S - 1 := hS; show j < 8 + (S - 1); omega)) eV eW, rows'⟩
theorem zf_s26 (hw : zw_ok (0, S, N)) (ag : ∀ j, 0 ≤ j → j < 8 + S → N2 j = N j) (vs : zf_vs g n n2 L2 S N V V2) (rows : zf_rows g n L C n2 L2 C2) (bn : n ≤ 157) (b2 : 0 ≤ n2 ∧ n2 ≤ 1000) (ra : -2147483648 ≤ a ∧ a ≤ 2147483647) (x0 : (zs_ap 26 a (0, S, N)).1 = 0) (rf : zf_rf 26 a (S + 7) N2 V2 L2 0) (kw : zk_wk 26 a b (zs_ap 26 a (0, S, N)).2.1 n (fun d => V (S + 7 - d)) V L C n' V' L' C') (fw : zf_wk 26 a b (S + 7) n2 N2 V2 L2 C2 n2' V2' L2' C2') (eN : ∀ j, 0 ≤ j → j < 8 + (zs_ap 26 a (0, S, N)).2.1 → N' j = (zs_ap 26 a (0, S, N)).2.2 j) (hS : 0 ≤ (zs_ap 26 a (0, S, N)).2.1) : ∃ g', zf_vs g' n' n2' L2' (zs_ap 26 a (0, S, N)).2.1 N' V' V2' ∧ zf_rows g' n' L' C' n2' L2' C2' := by
  obtain ⟨k1, k2, k3, k4, k5, k6, k7, k8, k9, k10⟩ := kw
  obtain ⟨f1, f2, f3, f4, f5, f6, f7, f8, f9, f10, f11, f12, f13, f14, f15, f16, f17⟩ := fw
  obtain ⟨r1, r2, r3, r4, r5, r6, r7⟩ := rf
  have ⟨⟨w1, w2⟩, s0, s6⟩ := hw
  dsimp only at w1 w2 s0 s6
  obtain ⟨d1, t1, u9⟩ := zf_n5 (show (zs_need 5 (0, S, N)).1 = 0 from x0)
  have u : zs_ap 26 a (0, S, N) = (0, S - 1, N) := u9
  have e8 := k8 (by decide)
  have e9 := k9 (by decide)
  have eR := f17 (by decide)
  have rows' := (rows.sm e8.1 e8.2 e9).rs eR
  have eV := k7 (by decide)
  have eW := f16 (by decide)
  have vs' := vs.m (g' := g) (n' := n') (n2' := n2') (L2' := L2') (by have := e8.1; omega) eR.l.1 (fun _ _ _ => rfl) eR.l.2
  rw [u] at eN hS ⊢
  exact ⟨g, vs'.dn (by show S - 1 ≤ S; omega) (fun j j0 j1 => eN j j0 (by rcases j1 with z | z; exact z; have hS2 : 0 ≤ S - 1 := hS; show j < 8 + (S - 1); omega)) eV eW, rows'⟩
theorem zf_s21 (hw : zw_ok (0, S, N)) (ag : ∀ j, 0 ≤ j → j < 8 + S → N2 j = N j) (vs : zf_vs g n n2 L2 S N V V2) (rows : zf_rows g n L C n2 L2 C2) (bn : n ≤ 157) (b2 : 0 ≤ n2 ∧ n2 ≤ 1000) (ra : -2147483648 ≤ a ∧ a ≤ 2147483647) (x0 : (zs_ap 21 a (0, S, N)).1 = 0) (rf : zf_rf 21 a (S + 7) N2 V2 L2 0) (kw : zk_wk 21 a b (zs_ap 21 a (0, S, N)).2.1 n (fun d => V (S + 7 - d)) V L C n' V' L' C') (fw : zf_wk 21 a b (S + 7) n2 N2 V2 L2 C2 n2' V2' L2' C2') (ha : 5 ≤ a) (eN : ∀ j, 0 ≤ j → j < 8 + (zs_ap 21 a (0, S, N)).2.1 → N' j = if j = (zs_ap 21 a (0, S, N)).2.1 + 7 then N (S + 7) else (zs_ap 21 a (0, S, N)).2.2 j) : ∃ g', zf_vs g' n' n2' L2' (zs_ap 21 a (0, S, N)).2.1 N' V' V2' ∧ zf_rows g' n' L' C' n2' L2' C2' := by
  obtain ⟨k1, k2, k3, k4, k5, k6, k7, k8, k9, k10⟩ := kw
  obtain ⟨f1, f2, f3, f4, f5, f6, f7, f8, f9, f10, f11, f12, f13, f14, f15, f16, f17⟩ := fw
  obtain ⟨r1, r2, r3, r4, r5, r6, r7⟩ := rf
  have ⟨⟨w1, w2⟩, s0, s6⟩ := hw
  dsimp only at w1 w2 s0 s6
  obtain ⟨d1, t1, u⟩ := zf_o21 x0
  have u1 : (zs_ap 21 a (0, S, N)).2.1 = S - 1 + zs_wd a := u.1
  have u5 := u.2.2.2.2
  have e8 := k8 (by decide)
  have e9 := k9 (by decide)
  have eR := f17 (by decide)
  have rows' := (rows.sm e8.1 e8.2 e9).rs eR
  have eV := k7 (by decide)
  have eW := f16 (by decide)
  have vs' := vs.m (g' := g) (n' := n') (n2' := n2') (L2' := L2') (by have := e8.1; omega) eR.l.1 (fun _ _ _ => rfl) eR.l.2
  rw [show zs_wd a = 1 from if_neg (by omega)] at u1
  rw [u1] at eN ⊢
  refine ⟨g, vs'.dn (by omega) (fun j j0 j1 => ?_) eV eW, rows'⟩
  rw [eN j j0 (by omega)]
  by_cases y : j = S - 1 + 1 + 7
  · rw [if_pos y, y, show S - 1 + 1 + 7 = S + 7 by omega]
  · rw [if_neg y]; exact u5 j (by omega)
theorem zf_s7 (hw : zw_ok (0, S, N)) (ag : ∀ j, 0 ≤ j → j < 8 + S → N2 j = N j) (vs : zf_vs g n n2 L2 S N V V2) (rows : zf_rows g n L C n2 L2 C2) (bn : n ≤ 157) (b2 : 0 ≤ n2 ∧ n2 ≤ 1000) (ra : -2147483648 ≤ a ∧ a ≤ 2147483647) (x0 : (zs_ap 7 a (0, S, N)).1 = 0) (rf : zf_rf 7 a (S + 7) N2 V2 L2 0) (kw : zk_wk 7 a b (zs_ap 7 a (0, S, N)).2.1 n (fun d => V (S + 7 - d)) V L C n' V' L' C') (fw : zf_wk 7 a b (S + 7) n2 N2 V2 L2 C2 n2' V2' L2' C2') (eN : ∀ j, 0 ≤ j → j < 8 + (zs_ap 7 a (0, S, N)).2.1 → N' j = (zs_ap 7 a (0, S, N)).2.2 j) : ∃ g', zf_vs g' n' n2' L2' (zs_ap 7 a (0, S, N)).2.1 N' V' V2' ∧ zf_rows g' n' L' C' n2' L2' C2' := by
  obtain ⟨k1, k2, k3, k4, k5, k6, k7, k8, k9, k10⟩ := kw
  obtain ⟨f1, f2, f3, f4, f5, f6, f7, f8, f9, f10, f11, f12, f13, f14, f15, f16, f17⟩ := fw
  obtain ⟨r1, r2, r3, r4, r5, r6, r7⟩ := rf
  have ⟨⟨w1, w2⟩, s0, s6⟩ := hw
  dsimp only at w1 w2 s0 s6
  obtain ⟨d1, t1, u⟩ := zf_o7 x0
  have u1 : (zs_ap 7 a (0, S, N)).2.1 = S - 1 + 1 := u.1
  obtain ⟨a1, a2⟩ := zf_at1 vs (j := S + 7) (by omega) (by omega) t1
  have t3 : 0 ≤ V2 (S + 7) ∧ V2 (S + 7) ≤ 20 := by rcases r1 rfl with z | z | z; omega; omega; exact z.1
  have z0 : zi32 (V (S + 7 - 0)) = V (S + 7) := by rw [show S + 7 - 0 = S + 7 by omega]; exact zi32_i (by omega) (by omega)
  have z2 : zi32 (V2 (S + 7)) = V (S + 7) := by rw [a1]; exact zi32_i (by omega) (by omega)
  obtain ⟨q1, q2, q3, q4⟩ := k3 rfl ⟨by omega, by show 0 ≤ zi32 (V (S + 7 - 0)) ∧ zi32 (V (S + 7 - 0)) ≤ 20; rw [z0]; omega⟩
  obtain ⟨eR, eW⟩ := f5 rfl
  dsimp only at q3 q4
  rw [z0] at q3 q4
  rw [z2] at eR
  obtain ⟨h0, h1, h2⟩ := rows
  have g1 : ∀ q, 0 ≤ q → q < n → (fun q => if q = n then n2 else g q) q = g q := fun q _ z => if_neg (by omega)
  have vs' := vs.m (g' := fun q => if q = n then n2 else g q) (n' := n') (n2' := n2') (L2' := L2') (by omega) eR.l.1 g1 eR.l.2
  refine ⟨fun q => if q = n then n2 else g q, vs'.up u (by omega) (by omega) (by decide) eN (fun j j0 j1 => by rw [q1 j j0, if_neg (by omega)]) (fun j j0 j1 => by rw [eW j j0, if_neg (by omega)]) ?_, by omega, fun q p0 p1 => ?_, fun q r p0 p1 s1 s2 e => ?_⟩
  · have ex : V' ((zs_ap 7 a (0, S, N)).2.1 + 7) = n := by rw [q1 _ (by omega), if_pos rfl]
    have ey : V2' (S - 1 + 8) = n2 := by rw [eW _ (by omega), if_pos (by omega)]
    rw [ex, ey]
    exact ⟨fun z => by omega, fun z => by omega, fun _ => ⟨⟨h0, by omega⟩, (if_pos rfl).symm⟩, fun z => by omega⟩
  · obtain ⟨eR1, eR2, eR3⟩ := eR
    by_cases y : q = n
    · rw [show (fun q => if q = n then n2 else g q) q = n2 from if_pos y, y]
      refine ⟨by omega, by rw [eR2 _ (by omega), if_pos rfl, q3 _ h0, if_pos rfl], by rw [q3 _ h0, if_pos rfl]; omega, fun i i0 i1 => ?_⟩
      rw [q3 _ h0, if_pos rfl] at i1
      rw [q4 _ (by omega), if_pos (by omega), eR3 _ (by omega), if_pos (by omega)]
      omega
    · rw [show (fun q => if q = n then n2 else g q) q = g q from if_neg y]
      obtain ⟨p2, p3, p4, p5⟩ := h1 q p0 (by omega)
      refine ⟨by omega, by rw [eR2 _ (by omega), if_neg (by omega), q3 _ p0, if_neg y]; exact p3, by rw [q3 _ p0, if_neg y]; exact p4, fun i i0 i1 => ?_⟩
      rw [q3 _ p0, if_neg y] at i1
      rw [q4 _ (by omega), if_neg (by omega), eR3 _ (by omega), if_neg (by omega)]
      exact p5 i i0 i1
  · dsimp only at e
    by_cases y : q = n
    · by_cases y2 : r = n
      · omega
      · rw [if_pos y, if_neg y2] at e
        have := (h1 r s1 (by omega)).1
        omega
    · by_cases y2 : r = n
      · rw [if_neg y, if_pos y2] at e
        have := (h1 q p0 (by omega)).1
        omega
      · rw [if_neg y, if_neg y2] at e
        exact h2 q r p0 (by omega) s1 (by omega) e
theorem zf_s18 (hw : zw_ok (0, S, N)) (ag : ∀ j, 0 ≤ j → j < 8 + S → N2 j = N j) (vs : zf_vs g n n2 L2 S N V V2) (rows : zf_rows g n L C n2 L2 C2) (bn : n ≤ 157) (b2 : 0 ≤ n2 ∧ n2 ≤ 1000) (ra : -2147483648 ≤ a ∧ a ≤ 2147483647) (x0 : (zs_ap 18 a (0, S, N)).1 = 0) (rf : zf_rf 18 a (S + 7) N2 V2 L2 0) (kw : zk_wk 18 a b (zs_ap 18 a (0, S, N)).2.1 n (fun d => V (S + 7 - d)) V L C n' V' L' C') (fw : zf_wk 18 a b (S + 7) n2 N2 V2 L2 C2 n2' V2' L2' C2') (eN : ∀ j, 0 ≤ j → j < 8 + (zs_ap 18 a (0, S, N)).2.1 → N' j = (zs_ap 18 a (0, S, N)).2.2 j) : ∃ g', zf_vs g' n' n2' L2' (zs_ap 18 a (0, S, N)).2.1 N' V' V2' ∧ zf_rows g' n' L' C' n2' L2' C2' := by
  obtain ⟨k1, k2, k3, k4, k5, k6, k7, k8, k9, k10⟩ := kw
  obtain ⟨f1, f2, f3, f4, f5, f6, f7, f8, f9, f10, f11, f12, f13, f14, f15, f16, f17⟩ := fw
  obtain ⟨r1, r2, r3, r4, r5, r6, r7⟩ := rf
  have ⟨⟨w1, w2⟩, s0, s6⟩ := hw
  dsimp only at w1 w2 s0 s6
  obtain ⟨⟨d1, d2, d3⟩, t0, t1, t2, u⟩ := zf_o18 x0
  obtain ⟨a1, a2⟩ := zf_at1 vs (j := S + 7) (by omega) (by omega) t0
  obtain ⟨c1, c2⟩ := zf_at1 vs (j := S + 6) (by omega) (by omega) t1
  have m1 : N2 (S + 7 - 2) = N (S + 5) := by rw [show S + 7 - 2 = S + 5 by omega]; exact ag _ (by omega) (by omega)
  have t3 : N (S + 5) = 6 ∧ 0 ≤ V2 (S + 7 - 1) ∧ V2 (S + 7 - 1) < L2 (zi32 (V2 (S + 7 - 2))) := by
    rcases r4 rfl with z | z | z
    · omega
    · refine ⟨by have := z.1; omega, z.2.1⟩
    · omega
  obtain ⟨b1, b3⟩ := zf_at6 vs (j := S + 5) (by omega) (by omega) t3.1
  obtain ⟨h0, h1, h2⟩ := rows
  obtain ⟨p1, p2, p3, p4⟩ := h1 _ b1.1 b1.2
  have t4 := t3.2
  rw [show S + 7 - 2 = S + 5 by omega, show S + 7 - 1 = S + 6 by omega, b3, c1, zi32_i (by omega) (by omega), p2] at t4
  have z2 : zi32 (V (S + 7 - 2)) = V (S + 5) := by rw [show S + 7 - 2 = S + 5 by omega]; exact zi32_i (by omega) (by omega)
  have z1 : zi32 (V (S + 7 - 1)) = V (S + 6) := by rw [show S + 7 - 1 = S + 6 by omega]; exact zi32_i (by omega) (by omega)
  have z0 : zi32 (V (S + 7 - 0)) = V (S + 7) := by rw [show S + 7 - 0 = S + 7 by omega]; exact zi32_i (by omega) (by omega)
  obtain ⟨eV, eC⟩ := (k10 (by decide)).2.2.2.2.2.2.1 rfl
  have eC2 := eC (by show zk_hc n L (zi32 (V (S + 7 - 2))) (zi32 (V (S + 7 - 1))); rw [z2, z1]; exact ⟨b1, t4⟩)
  dsimp only at eC2
  rw [z2, z1, z0] at eC2
  obtain ⟨eW, eD, eR1, eR2⟩ := f13 rfl
  rw [show S + 7 - 2 = S + 5 by omega, show S + 7 - 1 = S + 6 by omega, b3, c1, a1, zi32_i (show -2147483648 ≤ g (V (S + 5)) by omega) (by omega), zi32_i c2.1 c2.2, zi32_i a2.1 a2.2] at eD
  have e8 := k8 (by decide)
  have vs' := vs.m (g' := g) (n' := n') (n2' := n2') (L2' := L2') (by omega) (by omega) (fun _ _ _ => rfl) (fun q q0 _ => eR2 q q0)
  rw [u] at eN ⊢
  refine ⟨g, vs'.dn (by show S - 3 ≤ S; omega) (fun j j0 j1 => eN j j0 (by rcases j1 with z | z; exact z; show j < 8 + (S - 3); omega)) eV eW, by omega, fun q q0 q1 => ?_, fun q r q0 q1 s1 s2 e => h2 q r q0 (by omega) s1 (by omega) e⟩
  obtain ⟨x1, x2, x3, x4⟩ := h1 q q0 (by omega)
  refine ⟨by omega, by rw [eR2 _ x1.1, e8.2 _ q0]; exact x2, by rw [e8.2 _ q0]; exact x3, fun i i0 i1 => ?_⟩
  rw [e8.2 _ q0] at i1
  rw [eC2 _ (by omega), eD _ (by omega)]
  by_cases y : q = V (S + 5) ∧ i = V (S + 6)
  · rw [if_pos (by rw [y.1, y.2]), if_pos (by rw [y.1, y.2])]
    exact ⟨rfl, a2⟩
  · rw [if_neg (by omega), if_neg (fun z => y (by
      have z1 : g q = g (V (S + 5)) := by omega
      have z2 := h2 q _ q0 (by omega) b1.1 b1.2 z1
      exact ⟨z2, by omega⟩))]
    exact x4 i i0 i1
theorem zf_s9 (hw : zw_ok (0, S, N)) (ag : ∀ j, 0 ≤ j → j < 8 + S → N2 j = N j) (vs : zf_vs g n n2 L2 S N V V2) (rows : zf_rows g n L C n2 L2 C2) (bn : n ≤ 157) (b2 : 0 ≤ n2 ∧ n2 ≤ 1000) (ra : -2147483648 ≤ a ∧ a ≤ 2147483647) (x0 : (zs_ap 9 a (0, S, N)).1 = 0) (rf : zf_rf 9 a (S + 7) N2 V2 L2 0) (kw : zk_wk 9 a b (zs_ap 9 a (0, S, N)).2.1 n (fun d => V (S + 7 - d)) V L C n' V' L' C') (fw : zf_wk 9 a b (S + 7) n2 N2 V2 L2 C2 n2' V2' L2' C2') (eN : ∀ j, 0 ≤ j → j < 8 + (zs_ap 9 a (0, S, N)).2.1 → N' j = (zs_ap 9 a (0, S, N)).2.2 j) : ∃ g', zf_vs g' n' n2' L2' (zs_ap 9 a (0, S, N)).2.1 N' V' V2' ∧ zf_rows g' n' L' C' n2' L2' C2' := by
  obtain ⟨k1, k2, k3, k4, k5, k6, k7, k8, k9, k10⟩ := kw
  obtain ⟨f1, f2, f3, f4, f5, f6, f7, f8, f9, f10, f11, f12, f13, f14, f15, f16, f17⟩ := fw
  obtain ⟨r1, r2, r3, r4, r5, r6, r7⟩ := rf
  have ⟨⟨w1, w2⟩, s0, s6⟩ := hw
  dsimp only at w1 w2 s0 s6
  have s1 : ¬ S = 0 := fun z => by
    have x1 : (zs_store a (0, S, N)).1 = 0 := x0
    unfold zs_store at x1
    rw [if_pos (by exact z)] at x1
    dsimp only at x1
    omega
  obtain ⟨d1, d0, ha, u1, u8, ul⟩ := zf_o9 x0 (zf_top hw s1)
  have e8 := k8 (by decide)
  have e9 := k9 (by decide)
  have eR := f17 (by decide)
  have rows' := (rows.sm e8.1 e8.2 e9).rs eR
  have eV := k5 rfl ha
  have eW := f7 rfl
  have vs' := vs.m (g' := g) (n' := n') (n2' := n2') (L2' := L2') (by have := e8.1; omega) eR.l.1 (fun _ _ _ => rfl) eR.l.2
  have S2 : 0 ≤ (zs_ap 9 a (0, S, N)).2.1 ∧ (zs_ap 9 a (0, S, N)).2.1 ≤ S := by
    rw [u1]
    by_cases y : N (S + 7) = 3
    · have := zf_h9 hw (j := S + 7) (by omega) (by omega) y
      rw [if_pos y]; omega
    · rw [if_neg y]; omega
  refine ⟨g, vs'.lo (a := a) (zf_n8 hw) S2.2 ha (fun j j0 j1 => (eN j (by omega) j1).trans (u8 j j0)) (fun j j0 j1 y => ?_) (fun j j0 y => by rw [eV j j0, if_neg y]) (fun j j0 y => by rw [eW j j0, if_neg y]) ?_, rows'⟩
  · rw [eN j j0 (by omega)]
    rcases ul j j0 j1 with z | z
    · exact absurd z.1 y
    · exact z.2
  · have ex : V' a = V (S + 7) := by rw [eV _ ha.1, if_pos rfl]; show V (S + 7 - 0) = _; rw [show S + 7 - 0 = S + 7 by omega]
    have ey : V2' a = if N (S + 7) = 3 then V2 (S + 7 - 1) else V2 (S + 7) := by rw [eW _ ha.1, if_pos rfl, ag (S + 7) (by omega) (by omega)]
    have ek : N' a = if N (S + 7) = 3 then 2 else N (S + 7) := by
      rw [eN a ha.1 (by omega)]
      rcases ul a ha.1 (by omega) with z | z
      · exact z.2
      · exact absurd rfl z.1
    have q := vs'.2 (S + 7) (by omega) (by omega) (zf_top hw s1)
    rw [ex, ey, ek]
    by_cases y : N (S + 7) = 3
    · rw [if_pos y] at q
      rw [if_pos y, if_pos y]
      exact zf_cnt (q.2.1 (Or.inr y))
    · rw [if_neg y] at q
      rw [if_neg y, if_neg y]
      exact q
theorem zf_s28 (hw : zw_ok (0, S, N)) (ag : ∀ j, 0 ≤ j → j < 8 + S → N2 j = N j) (vs : zf_vs g n n2 L2 S N V V2) (rows : zf_rows g n L C n2 L2 C2) (bn : n ≤ 157) (b2 : 0 ≤ n2 ∧ n2 ≤ 1000) (ra : -2147483648 ≤ a ∧ a ≤ 2147483647) (x0 : (zs_ap 28 a (0, S, N)).1 = 0) (rf : zf_rf 28 a (S + 7) N2 V2 L2 0) (kw : zk_wk 28 a b (zs_ap 28 a (0, S, N)).2.1 n (fun d => V (S + 7 - d)) V L C n' V' L' C') (fw : zf_wk 28 a b (S + 7) n2 N2 V2 L2 C2 n2' V2' L2' C2') (eN : ∀ j, 0 ≤ j → j < 8 + (zs_ap 28 a (0, S, N)).2.1 → N' j = (zs_ap 28 a (0, S, N)).2.2 j) : ∃ g', zf_vs g' n' n2' L2' (zs_ap 28 a (0, S, N)).2.1 N' V' V2' ∧ zf_rows g' n' L' C' n2' L2' C2' := by
  obtain ⟨k1, k2, k3, k4, k5, k6, k7, k8, k9, k10⟩ := kw
  obtain ⟨f1, f2, f3, f4, f5, f6, f7, f8, f9, f10, f11, f12, f13, f14, f15, f16, f17⟩ := fw
  obtain ⟨r1, r2, r3, r4, r5, r6, r7⟩ := rf
  have ⟨⟨w1, w2⟩, s0, s6⟩ := hw
  dsimp only at w1 w2 s0 s6
  obtain ⟨ha, t1, u⟩ := zf_o28 x0
  have e8 := k8 (by decide)
  have e9 := k9 (by decide)
  have eR := f17 (by decide)
  have rows' := (rows.sm e8.1 e8.2 e9).rs eR
  have eV := k6 rfl ha
  have eW := f15 rfl
  have vs' := vs.m (g' := g) (n' := n') (n2' := n2') (L2' := L2') (by have := e8.1; omega) eR.l.1 (fun _ _ _ => rfl) eR.l.2
  rw [u] at eN ⊢
  refine ⟨g, vs'.lo (a := a) (zf_n8 hw) (Int.le_refl S) ha (fun j j0 j1 => eN j (by omega) j1) (fun j j0 j1 y => Or.inr (Or.inr (eN j j0 (by show j < 8 + S; omega)))) (fun j j0 y => by rw [eV j j0, if_neg y]) (fun j j0 y => by rw [eW j j0, if_neg y]) ?_, rows'⟩
  have q := (vs.1 a ha.1 (by omega) (by omega)).1 t1
  rw [eN a ha.1 (by show a < 8 + S; omega), eV _ ha.1, if_pos rfl, eW _ ha.1, if_pos rfl, ← q.1, zi32_64, zi32_i q.2.1 q.2.2]
  show zf_rel _ _ _ _ (N a) _ _
  rw [t1]
  exact zf_int rfl (zi32_r _)
end ZW
