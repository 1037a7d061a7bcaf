/-! ===== 30: an interpreter of constructors: cells are made; a run of it is a contract of the machine ===== -/
/-- constructors; (own class, entry) to the class that is made; .. to a constructor (and the nest's host); .. whether it is Object's; default fields; whether a field is the own class's -/
abbrev zy_P : Type := List zx_M × (Nat → Nat → Option Nat) × (Nat → Nat → Option (Nat × Option String)) × (Nat → Nat → Bool) × (Nat → List Value) × (Nat → Nat → Bool)
abbrev zy_pm (X : zy_P) : List zx_M := X.1
abbrev zy_pk (X : zy_P) : Nat → Nat → Option Nat := X.2.1
abbrev zy_pc (X : zy_P) : Nat → Nat → Option (Nat × Option String) := X.2.2.1
abbrev zy_pi (X : zy_P) : Nat → Nat → Bool := X.2.2.2.1
abbrev zy_pd (X : zy_P) : Nat → List Value := X.2.2.2.2.1
abbrev zy_pw (X : zy_P) : Nat → Nat → Bool := X.2.2.2.2.2
def zy_wfv (n : Nat) (v : Value) : Bool := match v with
  | .ref i => Nat.blt i n
  | _ => true
def zy_wfc (n : Nat) (c : zx_E) : Bool := match c with
  | .inl _ => true
  | .inr (_, fs) => fs.all (zy_wfv n)
def zy_wf (h : zx_H) (ls : zx_L) (st : List Value) : Bool := h.all (zy_wfc h.length) && ls.all (fun q => zy_wfv h.length q.2) && st.all (zy_wfv h.length)
def zy_ar (t : ArrayType) (n : Nat) : Option (Nat × vp_A) := match t with
  | .int => some (0, n, .inl (fun _ => 0))
  | .long => some (1, n, .inr (.inl (fun _ => 0)))
  | .boolean => some (2, n, .inl (fun _ => 0))
  | _ => none
def zy_pu (P : zx_P) (X : zy_P) (o idx a : Nat) (v : Value) (h : zx_H) : Option zx_H := match zx_pf P o idx with
  | some (ci, k) => (match h[a]? with
    | some (.inr (cj, fs)) => if cj = ci ∧ k < fs.length ∧ zy_pw X o idx = true ∧ narrow (zx_pt P ci k).1 v = v ∧ fits (zx_pt P ci k).1 v = true then some (h.set a (.inr (cj, fs.set k v))) else none
    | _ => none)
  | none => none
/-- fuel, depth, constructor, pc, locals, stack, heap, cells and slots made so far -/
def zy_x (P : zx_P) (X : zy_P) : Nat → Nat → zx_M → Nat → zx_L → List Value → zx_H → Nat → Nat → Option (zx_H × Nat × Nat)
  | 0, _, _, _, _, _, _, _, _ => none
  | n + 1, d, q, pc, ls, st, h, c, s =>
    match zx_at (zx_mi q) pc with
    | none => none
    | some (i, len) =>
      match zx_s i st with
      | some (k, st') => if len = k then zy_x P X n d q (pc + k) ls st' h c s else none
      | none =>
      match zx_l i ls with
      | some (k, v) => if len = k then zy_x P X n d q (pc + k) ls (v :: st) h c s else none
      | none =>
      match i, st with
      | .getfield idx, .ref a :: r => (match zx_gf P (zx_mo q) idx a h with
        | some v => if len = 3 then zy_x P X n d q (pc + 3) ls (v :: r) h c s else none
        | none => none)
      | .putfield idx, v :: .ref a :: r => (match zy_pu P X (zx_mo q) idx a v h with
        | some h' => if len = 3 then zy_x P X n d q (pc + 3) ls r h' c s else none
        | none => none)
      | .newarray t, .int m :: r => (match zy_ar t m.toNatClampNeg with
        | some z => if len = 2 ∧ ¬ m < 0 ∧ m.toNatClampNeg ≤ 60000000 ∧ zy_wf h ls r = true then zy_x P X n d q (pc + 2) ls (.ref h.length :: r) (h ++ [.inl z]) (c + 1) (s + m.toNatClampNeg) else none
        | none => none)
      | .new idx, r => (match zy_pk X (zx_mo q) idx with
        | some ci => if len = 3 ∧ zy_wf h ls r = true ∧ (zy_pd X ci).all (fun v => match v with
            | .ref _ => false
            | _ => true) = true then zy_x P X n d q (pc + 3) ls (.ref h.length :: r) (h ++ [.inr (ci, zy_pd X ci)]) (c + 1) (s + (zy_pd X ci).length) else none
        | none => none)
      | .invokespecial idx, st => if zy_pi X (zx_mo q) idx = true then (match st, d with
          | .ref _ :: r, _ + 1 => if len = 3 ∧ (r.map fun v => v.category).sum ≤ 8 then zy_x P X n d q (pc + 3) ls r h c s else none
          | _, _ => none)
        else (match zy_pc X (zx_mo q) idx, d with
          | some (j, _), d' + 1 => (match (zy_pm X)[j]? with
            | some q' => (match st.drop (zx_mp q') with
              | .ref b :: rest => if len = 3 ∧ (st.take (zx_mp q')).length = zx_mp q' ∧ (rest.map fun v => v.category).sum ≤ 8 ∧ zx_ml q' ≤ 21 ∧ (lg_sl (.ref b :: (st.take (zx_mp q')).reverse)).length ≤ zx_ml q' ∧ zy_wf h ls rest = true then
                  (match zy_x P X n d' q' 0 (lv_args 0 (.ref b :: (st.take (zx_mp q')).reverse)) [] h 0 0 with
                  | some (h', c', s') => if h.length ≤ h'.length then zy_x P X n d q (pc + 3) ls rest h' (c + c') (s + s') else none
                  | none => none) else none
              | _ => none)
            | none => none)
          | _, _ => none)
      | .return_, [] => if len = 1 then some (h, c, s) else none
      | _, _ => none
theorem zy_le {P : zx_P} {X : zy_P} : ∀ (n d : Nat) (q : zx_M) (pc : Nat) (ls : zx_L) (st : List Value) (h : zx_H) (c s : Nat) (h' : zx_H) (c' s' : Nat), zy_x P X n d q pc ls st h c s = some (h', c', s') → c ≤ c' ∧ s ≤ s' := by
  intro n
  induction n with
  | zero => intro d q pc ls st h c s h' c' s' e; simp [zy_x] at e
  | succ n ih =>
    intro d q pc ls st h c s h' c' s' e
    rw [zy_x] at e
    split at e
    · cases e
    · split at e
      · split at e
        · exact ih _ _ _ _ _ _ _ _ _ _ _ e
        · cases e
      · split at e
        · split at e
          · exact ih _ _ _ _ _ _ _ _ _ _ _ e
          · cases e
        · split at e
          · split at e
            · split at e
              · exact ih _ _ _ _ _ _ _ _ _ _ _ e
              · cases e
            · cases e
          · split at e
            · split at e
              · exact ih _ _ _ _ _ _ _ _ _ _ _ e
              · cases e
            · cases e
          · split at e
            · split at e
              · have := ih _ _ _ _ _ _ _ _ _ _ _ e; omega
              · cases e
            · cases e
          · split at e
            · split at e
              · have := ih _ _ _ _ _ _ _ _ _ _ _ e; omega
              · cases e
            · cases e
          · split at e
            · split at e
              · split at e
                · exact ih _ _ _ _ _ _ _ _ _ _ _ e
                · cases e
              · cases e
            · split at e
              · split at e
                · split at e
                  · split at e
                    · split at e
                      · split at e
                        · have := ih _ _ _ _ _ _ _ _ _ _ _ e; omega
                        · cases e
                      · cases e
                    · cases e
                  · cases e
                · cases e
              · cases e
          · split at e
            · cases e; exact ⟨Nat.le_refl _, Nat.le_refl _⟩
            · cases e
          · cases e
/-! the map of numbers to addresses grows -/
def zy_ex (ad ad' : Nat → Nat) (n : Nat) : Prop := ∀ i, i < n → ad' i = ad i
theorem zy_v {ad ad' : Nat → Nat} {n : Nat} (he : zy_ex ad ad' n) {v : Value} (h : zy_wfv n v = true) : zx_v ad' v = zx_v ad v := by
  unfold zy_wfv at h
  split at h
  · next i => show Value.ref (ad' i) = Value.ref (ad i); rw [he i (zb_blt h)]
  · next hn => cases v <;> first | rfl | exact absurd rfl (hn _)
theorem zy_vs {ad ad' : Nat → Nat} {n : Nat} (he : zy_ex ad ad' n) {vs : List Value} (h : vs.all (zy_wfv n) = true) : vs.map (zx_v ad') = vs.map (zx_v ad) :=
  List.map_congr_left fun v hv => zy_v he (List.all_eq_true.mp h v hv)
theorem zy_lm {ad ad' : Nat → Nat} {n : Nat} (he : zy_ex ad ad' n) {ls : zx_L} (h : ls.all (fun q => zy_wfv n q.2) = true) : zx_lm ad' ls = zx_lm ad ls :=
  List.map_congr_left fun q hq => by rw [zy_v he (List.all_eq_true.mp h q hq)]
theorem zy_w {ad ad' : Nat → Nat} {cA : Nat → ClassId} {h : zx_H} (he : zy_ex ad ad' h.length) (hw : h.all (zy_wfc h.length) = true) : zx_w ad' cA h = zx_w ad cA h := by
  refine List.ext_getElem? fun i => ?_
  rw [zx_w_get, zx_w_get]
  cases hc : h[i]? with
  | none => rfl
  | some c =>
    have hi : i < h.length := (List.getElem?_eq_some_iff.mp hc).1
    have hwc := List.all_eq_true.mp hw c (List.mem_of_getElem? hc)
    show some (ad' i, zx_e ad' cA c) = some (ad i, zx_e ad cA c)
    rw [he i hi]
    cases c with
    | inl x => rfl
    | inr x =>
      obtain ⟨ci, fs⟩ := x
      show some (ad i, Sum.inr (ci, fs.map (zx_v ad'))) = some (ad i, Sum.inr (ci, fs.map (zx_v ad)))
      rw [zy_vs he hwc]
def zy_up (ad : Nat → Nat) (n q : Nat) : Nat → Nat := fun i => if i = n then q else ad i
theorem zy_up_ex (ad : Nat → Nat) (n q : Nat) : zy_ex ad (zy_up ad n q) n := fun i hi => by unfold zy_up; rw [if_neg (by omega)]
theorem zy_w_app {ad : Nat → Nat} {cA : Nat → ClassId} {h : zx_H} {q : Nat} {c : zx_E} (hw : h.all (zy_wfc h.length) = true) : zx_w (zy_up ad h.length q) cA (h ++ [c]) = zx_w ad cA h ++ [(q, zx_e (zy_up ad h.length q) cA c)] := by
  rw [← zy_w (zy_up_ex ad h.length q) hw]
  refine List.ext_getElem? fun i => ?_
  have hlen : (zx_w (zy_up ad h.length q) cA h).length = h.length := by simp [zx_w]
  rw [zx_w_get, List.getElem?_append, List.getElem?_append, hlen]
  by_cases hi : i < h.length
  · rw [if_pos hi, if_pos hi, zx_w_get]
  · rw [if_neg hi, if_neg hi]
    by_cases hi2 : i = h.length
    · subst hi2
      rw [Nat.sub_self]
      show some (zy_up ad h.length q h.length, _) = some (q, _)
      unfold zy_up; rw [if_pos rfl]
    · have : ∃ k, i - h.length = k + 1 := ⟨i - h.length - 1, by omega⟩
      obtain ⟨k, hk⟩ := this
      rw [hk]; rfl
