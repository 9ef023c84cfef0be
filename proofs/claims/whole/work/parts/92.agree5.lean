/-! the law's invariant, cell by cell; small writes on both sides -/
def ag_raw (f : Nat → Nat → Nat) : Prop := (f 54 0 = f 1 0 ∧ f 54 1 = f 1 1 ∧ f 54 12 = f 1 16) ∧ (∀ x, x < f 1 1 → f 55 x = f 8 x ∧ f 56 x = f 9 x ∧ f 57 x = f 10 x ∧ f 58 x = f 11 x ∧ f 60 x = f 12 x ∧ f 61 x = f 13 x ∧ f 65 x = f 5 x ∧ f 72 x = f 6 x) ∧ (∀ v, v < f 1 0 → f 59 v = f 15 v ∧ f 62 v = f 18 v ∧ f 63 v = f 19 v) ∧ (∀ i j, i < 10 → j < 10 → f 64 (10 * i + j) = f (28 + i) j)
theorem ag_raw_of {f : Nat → Nat → Nat} (hi : ag_inv f) : ag_raw f := by
  obtain ⟨a0, a1, a2, hx, hv⟩ := ag_mo hi
  refine ⟨⟨a0, a1, a2⟩, hx, hv, fun i j h1 h2 => ?_⟩
  have q := hi.2.1.2.2.2 i j h1 h2
  rw [md_28 h1] at q
  exact q
theorem ag_eq_of {f : Nat → Nat → Nat} (hV : f 1 0 ≤ 3) (h : ag_raw f) : ag_eq f (md_v f (ag_rw f)) := by
  obtain ⟨⟨a0, a1, a2⟩, hx, hv, hw⟩ := h
  refine ⟨⟨a0, a1, a2⟩, hx, fun v h1 => ⟨(hv v h1).1, (hv v h1).2.1, (hv v h1).2.2, fun r _ => by rw [md_22 (by omega)]; rfl⟩, fun i j h1 h2 => by rw [md_28 h1]; exact hw i j h1 h2⟩
theorem ds_rows_cells {f u : Nat → Nat → Nat} (h1 : u 1 0 = f 1 0) (h2 : u 1 1 = f 1 1) (h10 : u 10 = f 10) (h11 : u 11 = f 11) (h15 : u 15 = f 15) (h22 : ∀ v, v < 3 → u (22 + v) = f (22 + v)) (hV : f 1 0 ≤ 3) (hr : ds_rows f) : ds_rows u := by
  refine ⟨fun v r a b => ?_, fun x a => ?_⟩
  · rw [h1] at a
    rw [h15] at b
    rw [h22 v (by omega), h2, h10, h11]
    exact hr.1 v r a b
  · rw [h2] at a
    have q := hr.2 x a
    rw [h10, h11, h1, h15, h22 _ (by omega)]
    exact q
/-- a cell's write at one stop, on both sides -/
theorem ag_frz {f : Nat → Nat → Nat} (hi : ag_inv f) {x y : Nat} (hy : y ≤ 1) : ag_inv (dw_w (dw_w f 12 x y) 60 x y) := by
  have hr := ag_raw_of hi
  obtain ⟨⟨hV, hn, hex, hst, hve, hwy, hw0, hrw⟩, -, h7, hk1, hk2⟩ := hi
  obtain ⟨⟨a0, a1, a2⟩, hx, hv, hw⟩ := hr
  have cn : ∀ k, k ≠ 12 → k ≠ 60 → dw_w (dw_w f 12 x y) 60 x y k = f k := fun k q1 q2 => by rw [dw_w_ne q2, dw_w_ne q1]
  have c12 : dw_w (dw_w f 12 x y) 60 x y 12 = dw_up (f 12) x y := by rw [dw_w_ne (by decide), dw_w_eq]
  have c60 : dw_w (dw_w f 12 x y) 60 x y 60 = dw_up (f 60) x y := by rw [dw_w_eq, dw_w_ne (by decide)]
  generalize dw_w (dw_w f 12 x y) 60 x y = u at cn c12 c60
  have n1 := cn 1 (by decide) (by decide)
  have hV' : u 1 0 ≤ 3 := by rw [n1]; exact hV.2
  refine ⟨⟨by rw [n1]; exact hV, by rw [n1]; exact hn, by rw [n1]; exact hex, fun z hz => ?_, fun v q => ?_, fun i j q1 q2 => by rw [cn (28 + i) (by omega) (by omega)]; exact hwy i j q1 q2, by rw [cn 28 (by decide) (by decide)]; exact hw0, ds_rows_cells (by rw [n1]) (by rw [n1]) (cn 10 (by decide) (by decide)) (cn 11 (by decide) (by decide)) (cn 15 (by decide) (by decide)) (fun v q => cn (22 + v) (by omega) (by omega)) hV.2 hrw⟩, ag_eq_of hV' ⟨by rw [n1, cn 54 (by decide) (by decide)]; exact ⟨a0, a1, a2⟩, fun z hz => ?_, fun v q => ?_, fun i j q1 q2 => by rw [cn 64 (by decide) (by decide), cn (28 + i) (by omega) (by omega)]; exact hw i j q1 q2⟩, fun z => by rw [cn 73 (by decide) (by decide), cn 7 (by decide) (by decide)]; exact h7 z, ?_, ?_⟩
  · rw [n1] at hz
    have q := hst z hz
    rw [cn 8 (by decide) (by decide), cn 9 (by decide) (by decide), cn 13 (by decide) (by decide), cn 5 (by decide) (by decide), cn 6 (by decide) (by decide), n1, c12]
    refine ⟨q.1, q.2.1, ?_, q.2.2.2⟩
    by_cases e : z = x
    · rw [e, dw_up_eq]; exact hy
    · rw [dw_up_ne e]; exact q.2.2.1
  · rw [n1] at q
    rw [cn 18 (by decide) (by decide), cn 19 (by decide) (by decide)]
    exact hve v q
  · rw [n1] at hz
    obtain ⟨b1, b2, b3, b4, b5, b6, b7, b8⟩ := hx z hz
    rw [cn 55 (by decide) (by decide), cn 8 (by decide) (by decide), cn 56 (by decide) (by decide), cn 9 (by decide) (by decide), cn 57 (by decide) (by decide), cn 10 (by decide) (by decide), cn 58 (by decide) (by decide), cn 11 (by decide) (by decide), c60, c12, cn 61 (by decide) (by decide), cn 13 (by decide) (by decide), cn 65 (by decide) (by decide), cn 5 (by decide) (by decide), cn 72 (by decide) (by decide), cn 6 (by decide) (by decide)]
    refine ⟨b1, b2, b3, b4, ?_, b6, b7, b8⟩
    by_cases e : z = x
    · rw [e, dw_up_eq, dw_up_eq]
    · rw [dw_up_ne e, dw_up_ne e]; exact b5
  · rw [n1] at q
    rw [cn 59 (by decide) (by decide), cn 15 (by decide) (by decide), cn 62 (by decide) (by decide), cn 18 (by decide) (by decide), cn 63 (by decide) (by decide), cn 19 (by decide) (by decide)]
    exact hv v q
  · unfold ag_kp at *
    rw [n1, cn 54 (by decide) (by decide), cn 3 (by decide) (by decide), cn 45 (by decide) (by decide), cn 69 (by decide) (by decide), cn 68 (by decide) (by decide)]
    exact ⟨hk1.1, hk1.2.1, fun k q => by rw [cn (39 + k) (by omega) (by omega)]; exact hk1.2.2 k q⟩
  · unfold ag_kp at *
    rw [n1, cn 54 (by decide) (by decide), cn 4 (by decide) (by decide), cn 51 (by decide) (by decide), cn 71 (by decide) (by decide), cn 70 (by decide) (by decide)]
    exact ⟨hk2.1, hk2.2.1, fun k q => by have := hk2.2.1; rw [cn (47 + k) (by omega) (by omega)]; exact hk2.2.2 k q⟩
