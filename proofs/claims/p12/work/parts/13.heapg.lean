/-! ===== 13: the abstract steps on fields and arrays are right ===== -/
def zb_Gh (HT : List za_D) (W : List (Nat × Nat)) (u : Nat → Int) (n n' : za_N) (h h' : zx_H) (f' : za_F) (st' : List Value) (as' : List za_V) (w : Bool) : Prop :=
  ∃ u', zb_X u u' n.length n'.length ∧ zb_N u' n' ∧ zb_S u' n'.length st' as' ∧ zb_I HT h' ∧ zb_F u' n'.length h' f' ∧ zb_W W h h' ∧ (w = false → h' = h)
theorem zb_Gh.id {HT : List za_D} {W : List (Nat × Nat)} {u : Nat → Int} {n : za_N} {h : zx_H} {f : za_F} {st : List Value} {as : List za_V} {w : Bool} (hN : zb_N u n) (hs : zb_S u n.length st as) (hI : zb_I HT h) (hF : zb_F u n.length h f) : zb_Gh HT W u n n h h f st as w := ⟨u, zb_X.rf, hN, hs, hI, hF, zb_W.rf, fun _ => rfl⟩
theorem zb_Gh.nw {HT : List za_D} {W : List (Nat × Nat)} {u : Nat → Int} {n : za_N} {h : zx_H} {f : za_F} {st : List Value} {as : List za_V} {w : Bool} (hN : zb_N u n) (hs : zb_S u n.length st as) (hI : zb_I HT h) (hF : zb_F u n.length h f) (x : Int32) (q : Int × Int) (h1 : q.1 ≤ x.toInt) (h2 : x.toInt ≤ q.2) : zb_Gh HT W u n (n ++ [q]) h h f (.int x :: st) (.inl (n.length, 0) :: as) w := by
  obtain ⟨u', hX, hN', hs'⟩ := zb_G.nw hN hs x q h1 h2
  exact ⟨u', hX, hN', hs', hI, hF.mo hX, zb_W.rf, fun _ => rfl⟩
theorem zb_ptyI {P : zx_P} {o idx : Nat} {ty : FieldType} (h : za_pty P o idx = some ty) {ci k : Nat} (e : zx_pf P o idx = some (ci, k)) : (zx_pt P ci k).2 = false ∧ (zx_pt P ci k).1 = ty := by
  unfold za_pty at h
  simp only [e] at h
  split at h
  · cases h
  · next hf => exact ⟨by simpa using hf, Option.some.inj h⟩
theorem zb_put {P : zx_P} {HT : List za_D} {h : zx_H} {o idx a k ci : Nat} {fd : List za_T} {t : za_T} {fs : List Value} {v : Value} {ty : FieldType} (hI : zb_I HT h) (e : zx_pf P o idx = some (ci, k)) (e1 : HT[a]? = some (.inr (ci, fd))) (e2 : fd[k]? = some t) (e3 : h[a]? = some (.inr (ci, fs))) (e4 : zb_A zb_T fs fd) (hp : za_pty P o idx = some ty) (hn : narrow ty v = v ∧ fits ty v = true) (ht : zb_T v t) {W : List (Nat × Nat)} (hw : za_in W a k = true) :
    zx_pu P o idx a v h = some (h.set a (.inr (ci, fs.set k v))) ∧ zb_I HT (h.set a (.inr (ci, fs.set k v))) ∧ k < fs.length ∧ zb_W W h (h.set a (.inr (ci, fs.set k v))) ∧ zb_W [(a, k)] h (h.set a (.inr (ci, fs.set k v))) := by
  obtain ⟨p1, p2⟩ := zb_ptyI hp e
  have hk : k < fs.length := by rw [zb_A.len e4]; exact (List.getElem?_eq_some_iff.mp e2).1
  have hW : zb_W [(a, k)] h (h.set a (.inr (ci, fs.set k v))) := by
    refine ⟨fun a' k' hn => ?_, fun a' _ => zb_arr_obj e3 a'⟩
    rw [zb_fld_set e3 hk, if_neg]
    rintro ⟨rfl, rfl⟩
    rw [za_in_iff.mpr List.mem_cons_self] at hn
    cases hn
  refine ⟨?_, zb_A.set a hI e1 ⟨rfl, zb_A.set k e4 e2 ht⟩, hk, ?_, hW⟩
  · unfold zx_pu
    simp only [e, e3]
    rw [if_pos ⟨trivial, hk, p1, by rw [p2]; exact hn.1, by rw [p2]; exact hn.2⟩]
  · refine hW.sub fun x y hx => ?_
    have := za_in_iff.mp hx
    simp only [List.mem_singleton, Prod.mk.injEq] at this
    rw [this.1, this.2]; exact hw
theorem zb_arrw {HT : List za_D} {h : zx_H} {a : Nat} {x x' : Nat × vp_A} {d : za_D} (hI : zb_I HT h) (e1 : HT[a]? = some d) (e2 : h[a]? = some (.inl x)) (hd : zb_c (.inl x') d) {W : List (Nat × Nat)} (hw : za_in W a 0 = true) : zb_I HT (h.set a (.inl x')) ∧ zb_W W h (h.set a (.inl x')) := by
  refine ⟨zb_A.set a hI e1 hd, fun a' k _ => zb_fld_arr e2 a' k, fun a' hn => zb_arr_arr a' ?_⟩
  rintro rfl
  rw [hw] at hn; cases hn
theorem zb_Fw {u : Nat → Int} {n : Nat} {h : zx_H} {a : Nat} {x x' : Nat × vp_A} {f : za_F} (e2 : h[a]? = some (.inl x)) (hF : zb_F u n h f) : zb_F u n (h.set a (.inl x')) f := by
  intro q hq
  obtain ⟨w, h1, h2⟩ := hF q hq
  exact ⟨w, by rw [zb_fld_arr e2]; exact h1, h2⟩
set_option maxHeartbeats 8000000 in
theorem zb_g {P : zx_P} {HT : List za_D} {W : List (Nat × Nat)} {o : Nat} {u : Nat → Int} {n n' : za_N} {i : Instr} {len pc nL l : Nat} {st : List Value} {as as' : List za_V} {h : zx_H} {f f' : za_F} {w : Bool} (ls : zx_L) (hN : zb_N u n) (hs : zb_S u n.length st as) (hI : zb_I HT h) (hF : zb_F u n.length h f) (hg : za_g P HT W o i n as f = some (l, n', as', f', w)) :
    zx_s i st = none ∧ zx_l i ls = none ∧ zx_t i nL ls st = none ∧ zx_j i len pc st = none ∧ ∃ st' h', zx_g P o i st h = some (l, st', h') ∧ zb_Gh HT W u n n' h h' f' st' as' w := by
  unfold za_g at hg
  split at hg
  · next idx a r =>
    obtain ⟨v, s1, rfl, h1, hs1⟩ := hs.c
    have h3 : v = .ref a := h1
    subst h3
    split at hg
    · next k q e =>
      obtain ⟨ci, fd, e1, e2, e3⟩ := zb_ftI e
      obtain ⟨fs, e4, e5⟩ := hI.obj e2
      obtain ⟨v, e6, x, rfl, x1, x2⟩ := e5.at1 k e3
      split at hg
      · next z ez =>
        cases hg
        obtain ⟨w9, f1, f2⟩ := hF _ (za_fk_mem ez)
        have : w9 = .int x := by
          unfold zx_fld at f1
          simp only [e4] at f1
          exact Option.some.inj (f1.symm.trans e6)
        subst this
        exact ⟨rfl, rfl, rfl, rfl, .int x :: s1, h, by rw [zx_g, zb_gfx e1 e4, e6]; rfl, zb_Gh.id hN ⟨f2, hs1⟩ hI hF⟩
      · cases hg
        obtain ⟨u', hX, hN', hs'⟩ := zb_G.nw hN hs1 x q x1 x2
        refine ⟨rfl, rfl, rfl, rfl, _, h, by rw [zx_g, zb_gfx e1 e4, e6]; rfl, u', hX, hN', hs', hI, ?_, zb_W.rf, fun _ => rfl⟩
        intro q9 hq9
        rcases List.mem_cons.mp hq9 with rfl | hq9
        · exact ⟨.int x, by unfold zx_fld; simp only [e4]; exact e6, hs'.1⟩
        · exact (hF.mo hX) q9 hq9
    · next k z e =>
      obtain ⟨ci, fd, e1, e2, e3⟩ := zb_ftI e
      obtain ⟨fs, e4, e5⟩ := hI.obj e2
      obtain ⟨v, e6, x, rfl⟩ := e5.at1 k e3
      cases hg
      exact ⟨rfl, rfl, rfl, rfl, .long x :: s1, h, by rw [zx_g, zb_gfx e1 e4, e6]; rfl, zb_Gh.id hN ⟨⟨x, rfl⟩, hs1⟩ hI hF⟩
    · next k b e =>
      obtain ⟨ci, fd, e1, e2, e3⟩ := zb_ftI e
      obtain ⟨fs, e4, e5⟩ := hI.obj e2
      obtain ⟨v, e6, e7⟩ := e5.at1 k e3
      have e8 : v = .ref b := e7
      subst e8
      cases hg
      exact ⟨rfl, rfl, rfl, rfl, .ref b :: s1, h, by rw [zx_g, zb_gfx e1 e4, e6]; rfl, zb_Gh.id hN ⟨rfl, hs1⟩ hI hF⟩
    · cases hg
  · next idx v9 a r =>
    obtain ⟨v, s1, rfl, h1, hs1⟩ := hs.c
    obtain ⟨v2, s2, rfl, h2, hs2⟩ := hs1.c
    have h3 : v2 = .ref a := h2
    subst h3
    split at hg
    · next k q ty e hty =>
      obtain ⟨ci, fd, e1, e2, e3⟩ := zb_ftI e
      obtain ⟨fs, e4, e5⟩ := hI.obj e2
      split at hg
      · next hc =>
        obtain ⟨hc, c4⟩ := zb_and hc
        obtain ⟨hc, c3⟩ := zb_and hc
        obtain ⟨c1, c2⟩ := zb_and hc
        obtain ⟨x, rfl, x1, x2⟩ := zb_iv hN h1 c1
        have c5 := zb_sub2 c2
        obtain ⟨p1, p2, p3, p4, p5⟩ := zb_put hI e1 e2 e3 e4 e5 hty (zb_fty c4 x1 x2) ⟨x, rfl, by omega, by omega⟩ c3
        cases hg
        refine ⟨rfl, rfl, rfl, rfl, _, _, by rw [zx_g, p1]; rfl, u, zb_X.rf, hN, hs2, p2, ?_, p4, fun z => by cases z⟩
        intro q9 hq9
        rcases List.mem_cons.mp hq9 with rfl | hq9
        · exact ⟨.int x, by rw [zb_fld_set e4 p3, if_pos ⟨rfl, rfl⟩], h1⟩
        · exact zb_fdrop hF p5 q9 hq9
      · cases hg
    · next k z e hty =>
      obtain ⟨ci, fd, e1, e2, e3⟩ := zb_ftI e
      obtain ⟨fs, e4, e5⟩ := hI.obj e2
      split at hg
      · next hc =>
        obtain ⟨c1, c3⟩ := zb_and hc
        obtain ⟨x, rfl⟩ := zb_isL h1 c1
        obtain ⟨p1, p2, p3, p4, p5⟩ := zb_put hI e1 e2 e3 e4 e5 hty ⟨rfl, rfl⟩ ⟨x, rfl⟩ c3
        cases hg
        exact ⟨rfl, rfl, rfl, rfl, _, _, by rw [zx_g, p1]; rfl, u, zb_X.rf, hN, hs2, p2, zb_fdrop hF p5, p4, fun z => by cases z⟩
      · cases hg
    · cases hg
  · next x9 a r =>
    obtain ⟨v, s1, rfl, h1, hs1⟩ := hs.c
    obtain ⟨v2, s2, rfl, h2, hs2⟩ := hs1.c
    have h3 : v2 = .ref a := h2
    subst h3
    split at hg
    · next m lo hi e =>
      obtain ⟨f9, e4, e5⟩ := hI.arr e (by omega)
      split at hg
      · next hc =>
        obtain ⟨c1, c2⟩ := zb_and hc
        obtain ⟨x, rfl, x1, x2⟩ := zb_iv hN h1 c1
        have c5 := zb_sub2 c2
        cases hg
        exact ⟨rfl, rfl, rfl, rfl, _, h, by simp only [zx_g, e4]; rw [if_neg (zb_idx (by simp only at c5; omega) (by simp only at c5; omega))], zb_Gh.nw hN hs2 hI hF _ _ (e5 _).1 (e5 _).2⟩
      · cases hg
    · next e =>
      have e4 := hI.len e
      split at hg
      · next m f9 ep =>
        split at hg
        · next hc =>
          obtain ⟨c1, c2⟩ := zb_and hc
          obtain ⟨x, rfl, x1, x2⟩ := zb_iv hN h1 c1
          have c5 := zb_sub2 c2
          cases hg
          exact ⟨rfl, rfl, rfl, rfl, _, h, by simp only [zx_g, e4, ep]; rw [if_neg (zb_idx (by simp only at c5; omega) (by simp only at c5; omega))], zb_Gh.nw hN hs2 hI hF _ _ (zb_top _).1 (zb_top _).2⟩
        · cases hg
      · cases hg
    · cases hg
  · next x9 a r =>
    obtain ⟨v, s1, rfl, h1, hs1⟩ := hs.c
    obtain ⟨v2, s2, rfl, h2, hs2⟩ := hs1.c
    have h3 : v2 = .ref a := h2
    subst h3
    split at hg
    · next m lo hi e =>
      obtain ⟨f9, e4⟩ := hI.lng e
      split at hg
      · next hc =>
        obtain ⟨c1, c2⟩ := zb_and hc
        obtain ⟨x, rfl, x1, x2⟩ := zb_iv hN h1 c1
        have c5 := zb_sub2 c2
        cases hg
        exact ⟨rfl, rfl, rfl, rfl, .long (f9 x.toNatClampNeg) :: s2, h, by simp only [zx_g, e4]; rw [if_neg (zb_idx (by simp only at c5; omega) (by simp only at c5; omega))], zb_Gh.id hN ⟨⟨_, rfl⟩, hs2⟩ hI hF⟩
      · cases hg
    · cases hg
  · next x9 a r =>
    obtain ⟨v, s1, rfl, h1, hs1⟩ := hs.c
    obtain ⟨v2, s2, rfl, h2, hs2⟩ := hs1.c
    have h3 : v2 = .ref a := h2
    subst h3
    split at hg
    · next m lo hi e =>
      obtain ⟨f9, e4, e5⟩ := hI.arr e (by omega)
      split at hg
      · next hc =>
        obtain ⟨c1, c2⟩ := zb_and hc
        obtain ⟨x, rfl, x1, x2⟩ := zb_iv hN h1 c1
        have c5 := zb_sub2 c2
        cases hg
        exact ⟨rfl, rfl, rfl, rfl, _, h, by simp only [zx_g, e4]; rw [if_neg (zb_idx (by simp only at c5; omega) (by simp only at c5; omega))], zb_Gh.nw hN hs2 hI hF _ _ (e5 _).1 (e5 _).2⟩
      · cases hg
    · cases hg
  · next v9 x9 a r =>
    obtain ⟨v0, s0, rfl, h0, hs0⟩ := hs.c
    obtain ⟨v, s1, rfl, h1, hs1⟩ := hs0.c
    obtain ⟨v2, s2, rfl, h2, hs2⟩ := hs1.c
    have h3 : v2 = .ref a := h2
    subst h3
    split at hg
    · next m lo hi e =>
      obtain ⟨f9, e4, e5⟩ := hI.arr e (by omega)
      split at hg
      · next hc =>
        obtain ⟨hc, c6⟩ := zb_and hc
        obtain ⟨hc, c4⟩ := zb_and hc
        obtain ⟨hc, c3⟩ := zb_and hc
        obtain ⟨c1, c2⟩ := zb_and hc
        obtain ⟨x, rfl, x1, x2⟩ := zb_iv hN h1 c1
        obtain ⟨y, rfl, y1, y2⟩ := zb_iv hN h0 c3
        have c5 := zb_sub2 c2
        have c7 := zb_sub2 c4
        simp only at c7
        obtain ⟨p1, p2⟩ := zb_arrw (x' := (0, m, .inl (upd f9 x.toNatClampNeg y))) hI e e4 ⟨rfl, rfl, by omega, fun j => by
          unfold upd; split
          · omega
          · exact e5 j⟩ c6
        cases hg
        exact ⟨rfl, rfl, rfl, rfl, _, _, by simp only [zx_g, e4]; rw [if_neg (zb_idx (by simp only at c5; omega) (by simp only at c5; omega))], u, zb_X.rf, hN, hs2, p1, zb_Fw e4 hF, p2, fun z => by cases z⟩
      · cases hg
    · cases hg
  · next v9 x9 a r =>
    obtain ⟨v0, s0, rfl, h0, hs0⟩ := hs.c
    obtain ⟨v, s1, rfl, h1, hs1⟩ := hs0.c
    obtain ⟨v2, s2, rfl, h2, hs2⟩ := hs1.c
    have h3 : v2 = .ref a := h2
    subst h3
    split at hg
    · next m lo hi e =>
      obtain ⟨f9, e4⟩ := hI.lng e
      split at hg
      · next hc =>
        obtain ⟨hc, c6⟩ := zb_and hc
        obtain ⟨hc, c3⟩ := zb_and hc
        obtain ⟨c1, c2⟩ := zb_and hc
        obtain ⟨x, rfl, x1, x2⟩ := zb_iv hN h1 c1
        obtain ⟨y, rfl⟩ := zb_isL h0 c3
        have c5 := zb_sub2 c2
        obtain ⟨p1, p2⟩ := zb_arrw (x' := (1, m, .inr (.inl (vp_updL f9 x.toNatClampNeg y)))) hI e e4 ⟨rfl, rfl, rfl⟩ c6
        cases hg
        exact ⟨rfl, rfl, rfl, rfl, _, _, by simp only [zx_g, e4]; rw [if_neg (zb_idx (by simp only at c5; omega) (by simp only at c5; omega))], u, zb_X.rf, hN, hs2, p1, zb_Fw e4 hF, p2, fun z => by cases z⟩
      · cases hg
    · cases hg
  · next v9 x9 a r =>
    obtain ⟨v0, s0, rfl, h0, hs0⟩ := hs.c
    obtain ⟨v, s1, rfl, h1, hs1⟩ := hs0.c
    obtain ⟨v2, s2, rfl, h2, hs2⟩ := hs1.c
    have h3 : v2 = .ref a := h2
    subst h3
    split at hg
    · next m lo hi e =>
      obtain ⟨f9, e4, e5⟩ := hI.arr e (by omega)
      split at hg
      · next hc =>
        obtain ⟨hc, c6⟩ := zb_and hc
        obtain ⟨hc, c8⟩ := zb_and hc
        obtain ⟨hc, c4⟩ := zb_and hc
        obtain ⟨hc, c3⟩ := zb_and hc
        obtain ⟨c1, c2⟩ := zb_and hc
        obtain ⟨x, rfl, x1, x2⟩ := zb_iv hN h1 c1
        obtain ⟨y, rfl, y1, y2⟩ := zb_iv hN h0 c3
        have c5 := zb_sub2 c2
        have c7 := zb_sub2 c4
        have c9 := zb_sub2 c8
        simp only at c7 c9
        obtain ⟨p1, p2⟩ := zb_arrw (x' := (2, m, .inl (upd f9 x.toNatClampNeg (vp_nar .boolean y)))) hI e e4 ⟨rfl, rfl, by omega, fun j => by
          unfold upd; split
          · rcases zb_01 (x := y) (by omega) (by omega) with rfl | rfl
            · rw [show (vp_nar .boolean 0).toInt = 0 by decide +kernel]; omega
            · rw [show (vp_nar .boolean 1).toInt = 1 by decide +kernel]; omega
          · exact e5 j⟩ c6
        cases hg
        exact ⟨rfl, rfl, rfl, rfl, _, _, by simp only [zx_g, e4]; rw [if_neg (zb_idx (by simp only at c5; omega) (by simp only at c5; omega))], u, zb_X.rf, hN, hs2, p1, zb_Fw e4 hF, p2, fun z => by cases z⟩
      · cases hg
    · cases hg
  · next a r =>
    obtain ⟨v2, s2, rfl, h2, hs2⟩ := hs.c
    have h3 : v2 = .ref a := h2
    subst h3
    split at hg
    · next t m lo hi e =>
      split at hg
      · next ht =>
        cases hg
        have ht := zb_blt ht
        by_cases t1 : t = 1
        · subst t1
          obtain ⟨f9, e4⟩ := hI.lng e
          exact ⟨rfl, rfl, rfl, rfl, .int (Int32.ofNat m) :: s2, h, by simp only [zx_g, e4]; rw [if_pos (by omega)], zb_Gh.id hN ⟨⟨_, rfl, rfl⟩, hs2⟩ hI hF⟩
        · obtain ⟨f9, e4, e5⟩ := hI.arr e t1
          exact ⟨rfl, rfl, rfl, rfl, .int (Int32.ofNat m) :: s2, h, by simp only [zx_g, e4]; rw [if_pos ht], zb_Gh.id hN ⟨⟨_, rfl, rfl⟩, hs2⟩ hI hF⟩
      · cases hg
    · next e =>
      have e4 := hI.len e
      split at hg
      · next m f9 ep =>
        cases hg
        exact ⟨rfl, rfl, rfl, rfl, .int (Int32.ofNat m) :: s2, h, by simp only [zx_g, e4, ep], zb_Gh.id hN ⟨⟨_, rfl, rfl⟩, hs2⟩ hI hF⟩
      · cases hg
    · cases hg
  · obtain ⟨k2, hv, e9⟩ := Option.map_eq_some_iff.mp hg
    cases e9
    exact ⟨rfl, rfl, rfl, rfl, .ref k2 :: st, h, by rw [zx_g, hv]; rfl, zb_Gh.id hN ⟨rfl, hs⟩ hI hF⟩
  · obtain ⟨k2, hv, e9⟩ := Option.map_eq_some_iff.mp hg
    cases e9
    exact ⟨rfl, rfl, rfl, rfl, .long k2 :: st, h, by rw [zx_g, hv]; rfl, zb_Gh.id hN ⟨⟨_, rfl⟩, hs⟩ hI hF⟩
  · cases hg
