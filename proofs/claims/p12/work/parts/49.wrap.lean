/-! ===== 49: contracts in the words of 48; the reference's small pure methods ===== -/
def zr_hull (cs : List (Option za_T × List (Int × Int))) (lo hi : Int) : Bool := cs.all (fun c => match c.1 with
  | some (.inl q) => za_sub2 q (lo, hi)
  | _ => false)
theorem zr_kr {cs : List (Option za_T × List (Int × Int))} {lo hi : Int} {r : Option Value} (hc : zr_hull cs lo hi = true) {c : Option za_T × List (Int × Int)} (hm : c ∈ cs) (hr : zb_R r c.1) : ∃ e, r = some (.int (zI e)) ∧ lo ≤ e ∧ e ≤ hi := by
  have h1 := List.all_eq_true.mp hc c hm
  split at h1
  · next q e =>
    rw [e] at hr
    have h2 := zb_sub2 h1
    dsimp only at h2
    unfold zb_R at hr
    split at hr
    · next e9 => cases e9
    · next v t e9 =>
      cases e9
      obtain ⟨x, rfl, x1, x2⟩ := hr
      exact ⟨x.toInt, by rw [zI, Int32.ofInt_toInt], by omega, by omega⟩
    · exact hr.elim
  · cases h1
theorem zr_kP {k : za_K} (hK : zb_K zp_P zc_H k) {lo hi : Int} (hw : k.2.2.2.2 = []) (hc : zr_hull k.2.2.2.1 lo hi = true) {q : zx_M} (hq : (zx_pm zp_P)[k.1]? = some q) {vs : List Value} {h : zx_H} (hI : zb_I zc_H h) (ha : zb_A zb_T vs k.2.2.1) : zx_T zp_P k.2.1 q 0 (lv_args 0 vs) [] h (zr_P h (fun e => lo ≤ e ∧ e ≤ hi)) :=
  (hK q hq vs h ha hI).im fun r h' ⟨_, _, h3, c, h4, h5, _⟩ => by
    obtain ⟨e, e1, e2⟩ := zr_kr hc h4 h5
    exact ⟨(h3 hw).symm, e, e1, e2⟩
theorem zr_kR {k : za_K} (hK : zb_K zp_P zc_H k) {lo hi : Int} (hc : zr_hull k.2.2.2.1 lo hi = true) {q : zx_M} (hq : (zx_pm zp_P)[k.1]? = some q) {vs : List Value} {h : zx_H} (hI : zb_I zc_H h) (ha : zb_A zb_T vs k.2.2.1) : zx_T zp_P k.2.1 q 0 (lv_args 0 vs) [] h (zr_R k.2.2.2.2 h (fun e _ => lo ≤ e ∧ e ≤ hi)) :=
  (hK q hq vs h ha hI).im fun r h' ⟨h1, h2, _, c, h4, h5, _⟩ => by
    obtain ⟨e, e1, e2⟩ := zr_kr hc h4 h5
    exact ⟨h1, h2, e, e1, e2⟩
theorem zr_kV {k : za_K} (hK : zb_K zp_P zc_H k) (hc : k.2.2.2.1.all (fun c => c.1.isNone) = true) {q : zx_M} (hq : (zx_pm zp_P)[k.1]? = some q) {vs : List Value} {h : zx_H} (hI : zb_I zc_H h) (ha : zb_A zb_T vs k.2.2.1) : zx_T zp_P k.2.1 q 0 (lv_args 0 vs) [] h (zr_V k.2.2.2.2 h (fun _ => True)) :=
  (hK q hq vs h ha hI).im fun r h' ⟨h1, h2, _, c, h4, h5, _⟩ => by
    refine ⟨h1, h2, ?_, trivial⟩
    have h6 := List.all_eq_true.mp hc c h4
    cases e : c.1 with
    | some z => rw [e] at h6; cases h6
    | none =>
      rw [e] at h5
      cases r with
      | none => rfl
      | some v => exact h5.elim
theorem zr_ti {x lo hi : Int} (h1 : lo ≤ x) (h2 : x ≤ hi) (hr : za_inr lo hi = true) : zb_T (.int (zI x)) (.inl (lo, hi)) := by
  have hr := zb_inr hr
  exact ⟨zI x, rfl, by rw [zI_i (by omega) (by omega)]; exact h1, by rw [zI_i (by omega) (by omega)]; exact h2⟩
