/-! ===== 97y: PACKED, worked by pure functions ===== -/
/-- a row that begins with a list -/
def zs_bl (n : Int) (A : Int → Int) (L : List Int) : Prop := n = (L.length : Int) ∧ ∀ j : Nat, j < L.length → A j = L.getD j 0
theorem zs_bl_0 {A : Int → Int} : zs_bl 0 A [] := ⟨rfl, fun j h => absurd h (Nat.not_lt_zero j)⟩
theorem zs_bl_ap {n v : Int} {A A' : Int → Int} {L : List Int} (h : zs_bl n A L) (e : ∀ j, 0 ≤ j → A' j = if j = n then v else A j) : zs_bl (n + 1) A' (L ++ [v]) := by
  have n1 := h.1
  refine ⟨by rw [List.length_append, List.length_singleton]; omega, fun j hj => ?_⟩
  rw [List.length_append, List.length_singleton] at hj
  rw [e j (by omega)]
  by_cases c : j < L.length
  · rw [if_neg (by omega), h.2 j c, List.getD_eq_getElem?_getD, List.getD_eq_getElem?_getD, List.getElem?_append_left c]
  · have d : j = L.length := by omega
    rw [if_pos (by omega), d, List.getD_eq_getElem?_getD, List.getElem?_append_right (Nat.le_refl _)]
    simp
theorem zs_bl_cg {n : Int} {A A' : Int → Int} {L : List Int} (h : zs_bl n A L) (e : ∀ j, 0 ≤ j → j < n → A' j = A j) : zs_bl n A' L := ⟨h.1, fun j hj => by rw [e j (by omega) (by have := h.1; omega)]; exact h.2 j hj⟩
/-- a row's list is one -/
theorem zs_bl_u {n : Int} {A : Int → Int} {L M : List Int} (h : zs_bl n A L) (g : zs_bl n A M) : L = M := by
  have e : L.length = M.length := by have := h.1; have := g.1; omega
  refine List.ext_getElem e (fun j h1 h2 => ?_)
  have a := h.2 j h1
  have b := g.2 j h2
  rw [List.getD_eq_getElem?_getD, List.getElem?_eq_getElem h1] at a
  rw [List.getD_eq_getElem?_getD, List.getElem?_eq_getElem h2] at b
  exact a.symm.trans b
/-- how wide an entry is -/
def zs_wi (N : Int → Int) (k u : Int) : Int := if N k = 2 ∧ k + 1 < u ∧ N (k + 1) = 3 then 2 else 1
theorem zs_wi_r {N : Int → Int} {k u : Int} : (zs_wi N k u = 1 ∨ zs_wi N k u = 2) ∧ (k < u → k + zs_wi N k u ≤ u) := by
  unfold zs_wi
  split <;> omega
/-- entries -/
def zs_en (N : Int → Int) (u : Int) : Nat → Int → List Int
  | 0, _ => []
  | n + 1, k => if u ≤ k then [] else N k :: zs_en N u n (k + zs_wi N k u)
theorem zs_en_e {N : Int → Int} {u k : Int} (h : u ≤ k) : ∀ n : Nat, zs_en N u n k = []
  | 0 => rfl
  | n + 1 => by show (if u ≤ k then [] else _) = _; rw [if_pos h]
theorem zs_en_m {N : Int → Int} {u : Int} : ∀ (n m : Nat) (k : Int), u - k ≤ n → u - k ≤ m → zs_en N u n k = zs_en N u m k
  | 0, m, k, h, _ => by rw [zs_en_e (by omega), zs_en_e (by omega)]
  | n + 1, 0, k, _, h => by rw [zs_en_e (by omega), zs_en_e (by omega)]
  | n + 1, m + 1, k, h, g => by
    show (if u ≤ k then [] else N k :: zs_en N u n (k + zs_wi N k u)) = (if u ≤ k then [] else N k :: zs_en N u m (k + zs_wi N k u))
    have w := (zs_wi_r (N := N) (k := k) (u := u)).1
    by_cases c : u ≤ k
    · rw [if_pos c, if_pos c]
    · rw [if_neg c, if_neg c, zs_en_m n m _ (by omega) (by omega)]
/-- the entries of a row from f up to u -/
def zs_es (N : Int → Int) (f u : Int) : List Int := zs_en N u (u - f).toNat f
theorem zs_es_e {N : Int → Int} {f u : Int} (h : u ≤ f) : zs_es N f u = [] := zs_en_e h _
theorem zs_es_s {N : Int → Int} {f u : Int} (h : f < u) : zs_es N f u = N f :: zs_es N (f + zs_wi N f u) u := by
  have w := (zs_wi_r (N := N) (k := f) (u := u)).1
  unfold zs_es
  obtain ⟨n, hn⟩ : ∃ n : Nat, (u - f).toNat = n + 1 := ⟨(u - f).toNat - 1, by omega⟩
  rw [hn]
  show (if u ≤ f then [] else N f :: zs_en N u n (f + zs_wi N f u)) = _
  rw [if_neg (by omega), zs_en_m n _ _ (by omega) (Int.self_le_toNat _)]
theorem zs_es_cg {N N' : Int → Int} {f u : Int} (h : ∀ j, f ≤ j → j < u → N j = N' j) : zs_es N f u = zs_es N' f u := by
  have key : ∀ (n : Nat) (k : Int), f ≤ k → zs_en N u n k = zs_en N' u n k := fun n => by
    induction n with
    | zero => intro k _; rfl
    | succ n ih =>
      intro k hk
      show (if u ≤ k then [] else N k :: zs_en N u n (k + zs_wi N k u)) = (if u ≤ k then [] else N' k :: zs_en N' u n (k + zs_wi N' k u))
      by_cases c : u ≤ k
      · rw [if_pos c, if_pos c]
      · have e1 := h k hk (by omega)
        have e2 : zs_wi N k u = zs_wi N' k u := by
          unfold zs_wi
          by_cases d : k + 1 < u
          · rw [e1, h (k + 1) (by omega) d]
          · rw [if_neg (by omega), if_neg (by omega)]
        have w := (zs_wi_r (N := N') (k := k) (u := u)).1
        rw [if_neg c, if_neg c, e1, e2, ih _ (by omega)]
  exact key _ f (Int.le_refl f)
theorem zs_es_len {N : Int → Int} {u : Int} : ∀ (n : Nat) (f : Int), u - f ≤ n → ((zs_es N f u).length : Int) ≤ if f ≤ u then u - f else 0
  | 0, f, h => by rw [zs_es_e (by omega)]; show (0 : Int) ≤ _; split <;> omega
  | n + 1, f, h => by
    by_cases c : f < u
    · have w := zs_wi_r (N := N) (k := f) (u := u)
      have z := zs_es_len (N := N) (u := u) n (f + zs_wi N f u) (by omega)
      rw [if_pos (w.2 c)] at z
      rw [zs_es_s c, List.length_cons, if_pos (by omega)]
      omega
    · rw [zs_es_e (by omega)]; show (0 : Int) ≤ _; split <;> omega
/-- bytes of an entry -/
def zs_eb (k : Int) : List Int := if k = 0 then [0] else if k = 1 then [1] else if k = 2 then [4] else if k = 4 then [5] else [7, 0, k]
def zs_ebs (L : List Int) : List Int := L.flatMap zs_eb
theorem zs_ebs_c {k : Int} {L : List Int} : zs_ebs (k :: L) = zs_eb k ++ zs_ebs L := List.flatMap_cons
theorem zs_eb_l {k : Int} : (zs_eb k).length ≤ 3 := by
  unfold zs_eb
  repeat' split
  all_goals simp
theorem zs_ebs_l : ∀ L : List Int, (zs_ebs L).length ≤ 3 * L.length
  | [] => Nat.le_refl 0
  | k :: L => by
    rw [zs_ebs_c, List.length_append, List.length_cons]
    have := zs_eb_l (k := k)
    have := zs_ebs_l L
    omega
/-- both begin alike -/
def zs_nl (A O : List Int) : Prop := ∀ j : Nat, j < A.length → j < O.length → A.getD j 0 = O.getD j 0
/-- a frame's bytes: entries ahead, own, of the stack; the distance -/
noncomputable def zs_fb (A O T : List Int) (d : Int) : List Int :=
  zi (zs_nl A O ∧ O.length = A.length ∧ T.length = 0) [d]
    (zi (zs_nl A O ∧ O.length = A.length ∧ T.length = 1) ((64 + d) :: zs_ebs T)
      (zi (zs_nl A O ∧ T.length = 0 ∧ (-3 ≤ (O.length : Int) - A.length ∧ (O.length : Int) - A.length ≤ 3)) ((251 + ((O.length : Int) - A.length)) :: 0 :: d :: zs_ebs (O.drop A.length))
        (255 :: 0 :: d :: 0 :: (O.length : Int) :: (zs_ebs O ++ (0 :: (T.length : Int) :: zs_ebs T)))))
theorem zs_fb_l {A O T : List Int} {d : Int} (o : O.length ≤ 8) (t : T.length ≤ 6) : (zs_fb A O T d).length ≤ 49 := by
  unfold zs_fb
  have a := zs_ebs_l O
  have b := zs_ebs_l T
  have c := zs_ebs_l (O.drop A.length)
  rw [List.length_drop] at c
  by_cases h1 : zs_nl A O ∧ O.length = A.length ∧ T.length = 0
  · rw [zi_t h1]; show 1 ≤ 49; omega
  · rw [zi_f h1]
    by_cases h2 : zs_nl A O ∧ O.length = A.length ∧ T.length = 1
    · rw [zi_t h2, List.length_cons]; omega
    · rw [zi_f h2]
      by_cases h3 : zs_nl A O ∧ T.length = 0 ∧ (-3 ≤ (O.length : Int) - A.length ∧ (O.length : Int) - A.length ≤ 3)
      · rw [zi_t h3, List.length_cons, List.length_cons, List.length_cons]; omega
      · rw [zi_f h3, List.length_cons, List.length_cons, List.length_cons, List.length_cons, List.length_cons, List.length_append, List.length_cons, List.length_cons]; omega
/-- entries of a frame; those ahead of it; its distance -/
def zF.ow (F : zF) (f : Int) : List Int := zs_es (F.kf f) 0 (F.lo f)
def zF.sk (F : zF) (f : Int) : List Int := zs_es (F.kf f) 8 (8 + F.st f)
def zs_ah (P : zP) (F : zF) (f : Int) : List Int := if f = 0 then zs_es (zs_row P) 0 P.pn else F.ow (f - 1)
def zs_di (F : zF) (f : Int) : Int := if f = 0 then F.pl 0 else F.pl f - F.pl (f - 1) - 1
noncomputable def zs_pkd (P : zP) (F : zF) : Nat → List Int
  | 0 => []
  | n + 1 => zs_pkd P F n ++ zs_fb (zs_ah P F n) (F.ow n) (F.sk n) (zs_di F n)
theorem zs_pkd_s {P : zP} {F : zF} {f : Int} (f0 : 0 ≤ f) : zs_pkd P F (f + 1).toNat = zs_pkd P F f.toNat ++ zs_fb (zs_ah P F f) (F.ow f) (F.sk f) (zs_di F f) := by
  obtain ⟨n, hn⟩ : ∃ n : Nat, f.toNat = n := ⟨_, rfl⟩
  have e : (f + 1).toNat = n + 1 := by omega
  have e2 : f = (n : Int) := by omega
  rw [e, hn]
  show zs_pkd P F n ++ _ = _
  rw [← e2]
theorem zF.ow_l {F : zF} {f : Int} (o : F.ok) (f0 : 0 ≤ f) (f1 : f < F.n) : (F.ow f).length ≤ 8 ∧ (F.sk f).length ≤ 6 := by
  have b := (o.2.2 f f0 f1).2
  have x := zs_es_len (N := F.kf f) (u := F.lo f) 8 0 (by omega)
  have y := zs_es_len (N := F.kf f) (u := 8 + F.st f) 6 8 (by omega)
  rw [if_pos (by omega)] at x
  rw [if_pos (by omega)] at y
  exact ⟨by unfold zF.ow; omega, by unfold zF.sk; omega⟩
theorem zs_pkd_l {P : zP} {F : zF} (o : F.ok) : ∀ n : Nat, (n : Int) ≤ F.n → (zs_pkd P F n).length ≤ 49 * n
  | 0, _ => Nat.le_refl 0
  | n + 1, h => by
    have a := zs_pkd_l (P := P) o n (by omega)
    have b := F.ow_l o (f := (n : Int)) (by omega) (by omega)
    have c := zs_fb_l (A := zs_ah P F n) (d := zs_di F n) b.1 b.2
    show (zs_pkd P F n ++ _).length ≤ _
    rw [List.length_append]
    omega
theorem zs_es_sh {N N' : Int → Int} {s : Int} {u : Int} : ∀ (n : Nat) (f : Int), u - f ≤ n → (∀ j, f ≤ j → j < u → N j = N' (j + s)) → zs_es N f u = zs_es N' (f + s) (u + s)
  | 0, f, h, _ => by rw [zs_es_e (by omega), zs_es_e (by omega)]
  | n + 1, f, h, e => by
    by_cases c : f < u
    · have w := zs_wi_r (N := N) (k := f) (u := u)
      have e2 : zs_wi N f u = zs_wi N' (f + s) (u + s) := by
        unfold zs_wi
        rw [e f (Int.le_refl f) c]
        by_cases d : f + 1 < u
        · rw [e (f + 1) (by omega) d, show f + 1 + s = f + s + 1 by omega]
          by_cases g : N' (f + s) = 2 ∧ f + 1 < u ∧ N' (f + s + 1) = 3
          · rw [if_pos g, if_pos ⟨g.1, by omega, g.2.2⟩]
          · rw [if_neg g, if_neg (fun z => g ⟨z.1, d, z.2.2⟩)]
        · rw [if_neg (by omega), if_neg (by omega)]
      rw [zs_es_s c, zs_es_s (show f + s < u + s by omega), e f (Int.le_refl f) c, ← e2, zs_es_sh n (f + zs_wi N f u) (by omega) (fun j j0 j1 => e j (by omega) j1), show f + s + zs_wi N f u = f + zs_wi N f u + s by omega]
    · rw [zs_es_e (by omega), zs_es_e (by omega)]
theorem zs_nl_ag {A O : List Int} {R S : Int → Int} {a o : Int} (h : zs_bl a R A) (g : zs_bl o S O) : zs_nl A O ↔ ∀ j, 0 ≤ j → j < a → j < o → R j = S j := by
  have a1 := h.1
  have o1 := g.1
  refine ⟨fun z j j0 ja jo => ?_, fun z j ja jo => ?_⟩
  · obtain ⟨n, e⟩ : ∃ n : Nat, j = (n : Int) := ⟨j.toNat, by omega⟩
    subst e
    rw [h.2 n (by omega), g.2 n (by omega)]
    exact z n (by omega) (by omega)
  · rw [← h.2 j ja, ← g.2 j jo]
    exact z j (by omega) (by omega) (by omega)
theorem zs_bl_ex {n : Int} {A : Int → Int} (n0 : 0 ≤ n) : ∃ L, zs_bl n A L := by
  have key : ∀ m : Nat, ∃ L, zs_bl (m : Int) A L := fun m => by
    induction m with
    | zero => exact ⟨[], zs_bl_0⟩
    | succ m ih =>
      obtain ⟨L, a⟩ := ih
      exact ⟨L ++ [A m], zs_bl_ap a (fun j _ => by by_cases c : j = (m : Int); rw [if_pos c, c]; rw [if_neg c])⟩
  obtain ⟨L, a⟩ := key n.toNat
  exact ⟨L, by rw [show n = ((n.toNat : Nat) : Int) by omega]; exact a⟩
theorem zs_bl_dr {n : Int} {A : Int → Int} {M : List Int} {k : Int} (h : zs_bl n A M) (k0 : 0 ≤ k) (k1 : k < n) : M.drop k.toNat = A k :: M.drop (k + 1).toNat := by
  have n1 := h.1
  have hk : k.toNat < M.length := by omega
  have a := h.2 k.toNat hk
  rw [List.getD_eq_getElem?_getD, List.getElem?_eq_getElem hk] at a
  rw [show (k + 1).toNat = k.toNat + 1 by omega, List.drop_eq_getElem_cons hk]
  have e : ((k.toNat : Nat) : Int) = k := by omega
  rw [e] at a
  rw [a]
  rfl
/-- gathered one by one, but the second of two -/
def zs_gq (N : Int → Int) (f u : Int) (L : List Int) (i : Int) : Prop := ((f < i ∧ N i = 3 ∧ N (i - 1) = 2) → L ++ zs_es N (i + 1) u = zs_es N f u) ∧ (¬ (f < i ∧ N i = 3 ∧ N (i - 1) = 2) → L ++ zs_es N i u = zs_es N f u)
theorem zs_gq_0 {N : Int → Int} {f u : Int} : zs_gq N f u [] f := ⟨fun z => absurd z.1 (by omega), fun _ => rfl⟩
theorem zs_gq_s {N : Int → Int} {f u i : Int} {L : List Int} (fi : f ≤ i) (h : zs_gq N f u L i) (i1 : i < u) (n : ¬ (f < i ∧ N i = 3 ∧ N (i - 1) = 2)) : zs_gq N f u (L ++ [N i]) (i + 1) := by
  have e := h.2 n
  rw [zs_es_s i1] at e
  have w := zs_wi_r (N := N) (k := i) (u := u)
  by_cases c : i + 1 < u
  · by_cases d : N i = 2 ∧ N (i + 1) = 3
    · have w2 : zs_wi N i u = 2 := by unfold zs_wi; rw [if_pos ⟨d.1, c, d.2⟩]
      rw [w2] at e
      refine ⟨fun _ => ?_, fun z => absurd ?_ z⟩
      · rw [List.append_assoc, show i + 1 + 1 = i + 2 by omega]; exact e
      · exact ⟨by omega, d.2, by rw [show i + 1 - 1 = i by omega]; exact d.1⟩
    · have w1 : zs_wi N i u = 1 := by unfold zs_wi; rw [if_neg (fun z => d ⟨z.1, z.2.2⟩)]
      rw [w1] at e
      refine ⟨fun z => absurd ⟨by rw [show i + 1 - 1 = i by omega] at z; exact z.2.2, z.2.1⟩ d, fun _ => by rw [List.append_assoc]; exact e⟩
  · have g : zs_es N (i + zs_wi N i u) u = [] := zs_es_e (by omega)
    rw [g] at e
    have g1 : zs_es N (i + 1) u = [] := zs_es_e (by omega)
    have g2 : zs_es N (i + 1 + 1) u = [] := zs_es_e (by omega)
    exact ⟨fun _ => by rw [g2, List.append_nil]; exact e, fun _ => by rw [g1, List.append_nil]; exact e⟩
theorem zs_gq_t {N : Int → Int} {f u i : Int} {L : List Int} (h : zs_gq N f u L i) (y : f < i ∧ N i = 3 ∧ N (i - 1) = 2) : zs_gq N f u L (i + 1) :=
  ⟨fun z => absurd (by rw [show i + 1 - 1 = i by omega] at z; exact z.2.2) (by rw [y.2.1]; decide), fun _ => h.1 y⟩
theorem zs_gq_e {N : Int → Int} {f u i : Int} {L : List Int} (h : zs_gq N f u L i) (i1 : u ≤ i) : L = zs_es N f u := by
  by_cases c : f < i ∧ N i = 3 ∧ N (i - 1) = 2
  · have e := h.1 c
    rw [zs_es_e (show u ≤ i + 1 by omega), List.append_nil] at e
    exact e
  · have e := h.2 c
    rw [zs_es_e i1, List.append_nil] at e
    exact e
