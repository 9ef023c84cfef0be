/-! the reference's rounds -/
theorem md_facts {f rw : Nat → Nat → Nat} (ok : ds_ok (md_v f rw)) : (1 ≤ f 54 0 ∧ f 54 0 ≤ 3) ∧ f 54 1 ≤ 8 ∧ f 54 12 ≤ 100000 ∧ (∀ x, x < f 54 1 → f 55 x < 10 ∧ f 56 x ≤ 10000 ∧ f 60 x ≤ 1 ∧ f 61 x ≤ 1 ∧ f 65 x ≤ f 54 0 ∧ f 72 x ≤ f 54 0) ∧ (∀ v, v < f 54 0 → f 62 v ≤ 8 ∧ f 63 v ≤ 100000) ∧ (∀ v r, v < f 54 0 → r < f 59 v → rw v r < f 54 1 ∧ f 57 (rw v r) = v ∧ f 58 (rw v r) = r) ∧ (∀ x, x < f 54 1 → f 57 x < f 54 0 ∧ f 58 x < f 59 (f 57 x) ∧ rw (f 57 x) (f 58 x) = x) ∧ (∀ v, v < f 54 0 → f 59 v ≤ f 54 1) ∧ (∀ i j, i < 10 → j < 10 → f 64 (10 * i + j) ≤ 10000) := by
  obtain ⟨hV, hn, hex, hst, hve, hwy, hw0, hrw⟩ := id ok
  have hV2 : 1 ≤ f 54 0 ∧ f 54 0 ≤ 3 := hV
  refine ⟨hV, hn, hex, hst, hve, fun v r h1 h2 => ?_, fun x h1 => ?_, fun v h1 => dr_row_len hrw h1, fun i j h1 h2 => ?_⟩
  · have q := hrw.1 v r h1 h2
    rw [md_22 (by omega)] at q
    exact q
  · have q := hrw.2 x h1
    have q1 : f 57 x < f 54 0 := q.1
    have q3 := q.2.2
    rw [show md_v f rw 10 x = f 57 x from rfl, md_22 (by omega)] at q3
    exact ⟨q1, q.2.1, q3⟩
  · have q := hwy i j h1 h2
    rw [md_28 h1] at q
    exact q
/-- the state while a round is written: round from h, its size z -/
abbrev md_r (f : Nat → Nat → Nat) (h : Nat → Nat) (z : Nat) : Nat → Nat → Nat := dw_w (dw_su f 74 h) 54 25 z
theorem md_r_ne {f : Nat → Nat → Nat} {h : Nat → Nat} {z k : Nat} (h1 : k ≠ 54) (h2 : k ≠ 74) : md_r f h z k = f k := by rw [md_r, dw_w_ne h1, dw_su_ne h2]
theorem md_r_54 {f : Nat → Nat → Nat} {h : Nat → Nat} {z j : Nat} (hj : j ≠ 25) : md_r f h z 54 j = f 54 j := by rw [md_r, dw_w_eq, dw_up_ne hj, dw_su_ne (by decide)]
theorem md_r_z {f : Nat → Nat → Nat} {h : Nat → Nat} {z : Nat} : md_r f h z 54 25 = z := by rw [md_r, dw_w_eq, dw_up_eq]
theorem md_r_74 {f : Nat → Nat → Nat} {h : Nat → Nat} {z : Nat} : md_r f h z 74 = h := by rw [md_r, dw_w_ne (by decide), dw_su_eq]
theorem md_push {f : Nat → Nat → Nat} {h : Nat → Nat} {z x y : Nat} : dw_w (dw_w (md_r f h z) 74 z x) 54 25 y = md_r f (dw_up h z x) y := by
  funext k
  by_cases h1 : k = 54
  · subst h1
    unfold md_r
    rw [dw_w_eq, dw_w_ne (by decide), dw_w_eq, dw_w_eq, dw_su_ne (by decide), dw_su_ne (by decide)]
    funext j
    by_cases h2 : j = 25
    · rw [h2, dw_up_eq, dw_up_eq]
    · rw [dw_up_ne h2, dw_up_ne h2, dw_up_ne h2]
  · unfold md_r
    rw [dw_w_ne h1, dw_w_ne h1]
    by_cases h2 : k = 74
    · subst h2
      rw [dw_w_eq, dw_w_ne (by decide), dw_su_eq, dw_su_eq]
    · rw [dw_w_ne h2, dw_w_ne h1, dw_su_ne h2, dw_su_ne h2]
theorem md_r_self {f : Nat → Nat → Nat} {z : Nat} : dw_w f 54 25 z = md_r f (f 74) z := by rw [md_r, dw_su_self]
/-- of place d of v's row: what the inner loop has found below i -/
def md_m (rw : Nat → Nat → Nat) (P : Nat → Bool) (v d i : Nat) : List Nat := if rw v d < i ∧ P (rw v d) = true then [rw v d] else []
theorem md_m_hit {rw : Nat → Nat → Nat} {P : Nat → Bool} {v d i : Nat} (h : rw v d = i) (hP : P i = true) : md_m rw P v d (i + 1) = md_m rw P v d i ++ [i] := by
  unfold md_m
  rw [h, if_pos ⟨by omega, hP⟩, if_neg (by omega), List.nil_append]
theorem md_m_skip {rw : Nat → Nat → Nat} {P : Nat → Bool} {v d i : Nat} (h : ¬ (rw v d = i ∧ P i = true)) : md_m rw P v d (i + 1) = md_m rw P v d i := by
  unfold md_m
  by_cases e : rw v d = i
  · have hP : ¬ P i = true := fun q => h ⟨e, q⟩
    rw [e, if_neg (fun q => hP q.2), if_neg (fun q => hP q.2)]
  · by_cases q : rw v d < i
    · have e1 : (rw v d < i + 1) = (rw v d < i) := propext (by omega)
      simp only [e1]
    · rw [if_neg (by omega), if_neg (by omega)]
theorem md_m_end {f rw : Nat → Nat → Nat} {P : Nat → Bool} {v d n : Nat} (hv : v < 3) (h : rw v d < n) : (ds_row (md_v f rw) v (d + 1)).filter P = (ds_row (md_v f rw) v d).filter P ++ md_m rw P v d n := by
  rw [ds_row_s, md_22 hv]
  unfold md_m
  by_cases q : P (rw v d) = true
  · rw [if_pos q, if_pos ⟨h, q⟩]
  · rw [if_neg q, if_neg (fun w => q w.2)]
theorem md_m_0 {rw : Nat → Nat → Nat} {P : Nat → Bool} {v d : Nat} : md_m rw P v d 0 = [] := by unfold md_m; rw [if_neg (by omega)]
theorem md_row_lt {f rw : Nat → Nat → Nat} {P : Nat → Bool} {v d i : Nat} (hv : v < 3) (hd : d < f 59 v) (h : rw v d = i) (hP : P i = true) : ((ds_row (md_v f rw) v d).filter P ++ md_m rw P v d i).length < (ds_rd (md_v f rw) P v).length := by
  have h1 := ds_row_lt (f := md_v f rw) P (v := v) (i := d) (by rw [md_22 hv, h]; exact hP) hd
  rw [show md_m rw P v d i = [] by unfold md_m; rw [if_neg (by omega)], List.append_nil]
  exact h1
theorem md_pushed {f f2 fa fb : Nat → Nat → Nat} {h : Nat → Nat} {L : List Nat} {x : Nat} (hh : f2 = md_r f h L.length) (eA : fa = dw_w f2 74 (f2 54 25) x) (eB : fb = dw_w fa 54 25 (fa 54 25 + 1)) : fb = md_r f (dw_up h L.length x) (L ++ [x]).length := by
  have e1 : f2 54 25 = L.length := by rw [hh, md_r_z]
  have e2 : fa 54 25 = L.length := by rw [eA, dw_w_ne (by decide), e1]
  rw [eB, e2, eA, e1, hh, List.length_append, List.length_singleton]
  exact md_push
