/-! extra and way on both sides -/
theorem ag_mk {u : Nat → Nat → Nat} (ok : ds_ok u) (raw : ag_raw u) (h7 : ∀ x, u 73 x = u 7 x) (k1 : ag_kp u (u 1 1) (u 1 0) 3 45 39 6 16 69 68) (k2 : ag_kp u (u 1 1) (u 1 0) 4 51 47 4 19 71 70) : ag_inv u := ⟨ok, ag_eq_of ok.1.2 raw, h7, k1, k2⟩
theorem ag_ext {f : Nat → Nat → Nat} (hi : ag_inv f) {y : Nat} (hy : y ≤ 100000) : ag_inv (dw_w (dw_w f 1 16 y) 54 12 y) := by
  have hr := ag_raw_of hi
  obtain ⟨⟨hV, hn, hex, hst, hve, hwy, hw0, hrw⟩, -, h7, hk1, hk2⟩ := hi
  obtain ⟨⟨a0, a1, a2⟩, hx, hv, hw⟩ := hr
  have cn : ∀ k, k ≠ 1 → k ≠ 54 → dw_w (dw_w f 1 16 y) 54 12 y k = f k := fun k q1 q2 => by rw [dw_w_ne q2, dw_w_ne q1]
  have c1 : dw_w (dw_w f 1 16 y) 54 12 y 1 = dw_up (f 1) 16 y := by rw [dw_w_ne (by decide), dw_w_eq]
  have c54 : dw_w (dw_w f 1 16 y) 54 12 y 54 = dw_up (f 54) 12 y := by rw [dw_w_eq, dw_w_ne (by decide)]
  generalize dw_w (dw_w f 1 16 y) 54 12 y = u at cn c1 c54
  have e0 : u 1 0 = f 1 0 := by rw [c1, dw_up_ne (by decide)]
  have e1 : u 1 1 = f 1 1 := by rw [c1, dw_up_ne (by decide)]
  have e2 : u 1 16 = y := by rw [c1, dw_up_eq]
  have m : ∀ j, j ≠ 12 → u 54 j = f 54 j := fun j hj => by rw [c54, dw_up_ne hj]
  refine ag_mk ⟨by rw [e0]; exact hV, by rw [e1]; exact hn, by rw [e2]; exact hy, fun z hz => ?_, fun v q => ?_, fun i j q1 q2 => by rw [cn (28 + i) (by omega) (by omega)]; exact hwy i j q1 q2, by rw [cn 28 (by decide) (by decide)]; exact hw0, ds_rows_cells e0 e1 (cn 10 (by decide) (by decide)) (cn 11 (by decide) (by decide)) (cn 15 (by decide) (by decide)) (fun v q => cn (22 + v) (by omega) (by omega)) hV.2 hrw⟩ ⟨⟨by rw [m 0 (by decide), e0]; exact a0, by rw [m 1 (by decide), e1]; exact a1, by rw [c54, dw_up_eq, e2]⟩, fun z hz => ?_, fun v q => ?_, fun i j q1 q2 => by rw [cn 64 (by decide) (by decide), cn (28 + i) (by omega) (by omega)]; exact hw i j q1 q2⟩ (fun z => by rw [cn 73 (by decide) (by decide), cn 7 (by decide) (by decide)]; exact h7 z) ?_ ?_
  · rw [e1] at hz
    rw [cn 8 (by decide) (by decide), cn 9 (by decide) (by decide), cn 12 (by decide) (by decide), cn 13 (by decide) (by decide), cn 5 (by decide) (by decide), cn 6 (by decide) (by decide), e0]
    exact hst z hz
  · rw [e0] at q
    rw [cn 18 (by decide) (by decide), cn 19 (by decide) (by decide)]
    exact hve v q
  · rw [e1] at hz
    rw [cn 55 (by decide) (by decide), cn 8 (by decide) (by decide), cn 56 (by decide) (by decide), cn 9 (by decide) (by decide), cn 57 (by decide) (by decide), cn 10 (by decide) (by decide), cn 58 (by decide) (by decide), cn 11 (by decide) (by decide), cn 60 (by decide) (by decide), cn 12 (by decide) (by decide), cn 61 (by decide) (by decide), cn 13 (by decide) (by decide), cn 65 (by decide) (by decide), cn 5 (by decide) (by decide), cn 72 (by decide) (by decide), cn 6 (by decide) (by decide)]
    exact hx z hz
  · rw [e0] at q
    rw [cn 59 (by decide) (by decide), cn 15 (by decide) (by decide), cn 62 (by decide) (by decide), cn 18 (by decide) (by decide), cn 63 (by decide) (by decide), cn 19 (by decide) (by decide)]
    exact hv v q
  · unfold ag_kp at *
    rw [e0, e1, m 16 (by decide), cn 3 (by decide) (by decide), cn 45 (by decide) (by decide), cn 69 (by decide) (by decide), cn 68 (by decide) (by decide)]
    exact ⟨hk1.1, hk1.2.1, fun k q => by have := hk1.2.1; rw [cn (39 + k) (by omega) (by omega)]; exact hk1.2.2 k q⟩
  · unfold ag_kp at *
    rw [e0, e1, m 19 (by decide), cn 4 (by decide) (by decide), cn 51 (by decide) (by decide), cn 71 (by decide) (by decide), cn 70 (by decide) (by decide)]
    exact ⟨hk2.1, hk2.2.1, fun k q => by have := hk2.2.1; rw [cn (47 + k) (by omega) (by omega)]; exact hk2.2.2 k q⟩
theorem ag_way {f : Nat → Nat → Nat} (hi : ag_inv f) {x y z : Nat} (hx0 : x < 10) (hy0 : y < 10) (hne : x ≠ y) (hz0 : z ≤ 10000) : ag_inv (dw_w (dw_w (dw_w (dw_w f (28 + x) y z) (28 + y) x z) 64 (10 * x + y) z) 64 (10 * y + x) z) := by
  have hr := ag_raw_of hi
  obtain ⟨⟨hV, hn, hex, hst, hve, hwy, hw0, hrw⟩, -, h7, hk1, hk2⟩ := hi
  obtain ⟨⟨a0, a1, a2⟩, hx, hv, hw⟩ := hr
  obtain ⟨u, eu⟩ : ∃ u, u = dw_w (dw_w (dw_w (dw_w f (28 + x) y z) (28 + y) x z) 64 (10 * x + y) z) 64 (10 * y + x) z := ⟨_, rfl⟩
  rw [← eu]
  have cn : ∀ k, ¬ (28 ≤ k ∧ k < 38) → k ≠ 64 → u k = f k := fun k q1 q2 => by rw [eu, dw_w_ne q2, dw_w_ne q2, dw_w_ne (by omega), dw_w_ne (by omega)]
  have cw : ∀ i j, i < 10 → j < 10 → u (28 + i) j = if (i = x ∧ j = y) ∨ (i = y ∧ j = x) then z else f (28 + i) j := fun i j q1 q2 => by
    rw [eu, dw_w_ne (by omega), dw_w_ne (by omega)]
    by_cases h1 : i = y
    · subst h1
      rw [dw_w_eq, dw_w_ne (by omega)]
      by_cases h2 : j = x
      · rw [h2, dw_up_eq, if_pos (Or.inr ⟨rfl, rfl⟩)]
      · rw [dw_up_ne h2, if_neg (by omega)]
    · rw [dw_w_ne (by omega)]
      by_cases h2 : i = x
      · subst h2
        rw [dw_w_eq]
        by_cases h3 : j = y
        · rw [h3, dw_up_eq, if_pos (Or.inl ⟨rfl, rfl⟩)]
        · rw [dw_up_ne h3, if_neg (by omega)]
      · rw [dw_w_ne (by omega), if_neg (by omega)]
  have cm : ∀ i j, i < 10 → j < 10 → u 64 (10 * i + j) = if (i = x ∧ j = y) ∨ (i = y ∧ j = x) then z else f 64 (10 * i + j) := fun i j q1 q2 => by
    rw [eu, dw_w_eq]
    by_cases h1 : 10 * i + j = 10 * y + x
    · rw [h1, dw_up_eq, if_pos (by omega)]
    · rw [dw_up_ne h1, dw_w_eq]
      by_cases h2 : 10 * i + j = 10 * x + y
      · rw [h2, dw_up_eq, if_pos (by omega)]
      · rw [dw_up_ne h2, dw_w_ne (by omega), dw_w_ne (by omega), if_neg (by omega)]
  have n1 := cn 1 (by decide) (by decide)
  refine ag_mk ⟨by rw [n1]; exact hV, by rw [n1]; exact hn, by rw [n1]; exact hex, fun q hq => ?_, fun v q => ?_, fun i j q1 q2 => ?_, ?_, ds_rows_cells (by rw [n1]) (by rw [n1]) (cn 10 (by decide) (by decide)) (cn 11 (by decide) (by decide)) (cn 15 (by decide) (by decide)) (fun v q => cn (22 + v) (by omega) (by omega)) hV.2 hrw⟩ ⟨by rw [n1, cn 54 (by decide) (by decide)]; exact ⟨a0, a1, a2⟩, fun q hq => ?_, fun v q => ?_, fun i j q1 q2 => ?_⟩ (fun q => by rw [cn 73 (by decide) (by decide), cn 7 (by decide) (by decide)]; exact h7 q) ?_ ?_
  · rw [n1] at hq
    rw [cn 8 (by decide) (by decide), cn 9 (by decide) (by decide), cn 12 (by decide) (by decide), cn 13 (by decide) (by decide), cn 5 (by decide) (by decide), cn 6 (by decide) (by decide), n1]
    exact hst q hq
  · rw [n1] at q
    rw [cn 18 (by decide) (by decide), cn 19 (by decide) (by decide)]
    exact hve v q
  · rw [cw i j q1 q2]
    split
    · exact hz0
    · exact hwy i j q1 q2
  · have q := cw 0 0 (by decide) (by decide)
    rw [if_neg (by omega)] at q
    exact q.trans hw0
  · rw [n1] at hq
    rw [cn 55 (by decide) (by decide), cn 8 (by decide) (by decide), cn 56 (by decide) (by decide), cn 9 (by decide) (by decide), cn 57 (by decide) (by decide), cn 10 (by decide) (by decide), cn 58 (by decide) (by decide), cn 11 (by decide) (by decide), cn 60 (by decide) (by decide), cn 12 (by decide) (by decide), cn 61 (by decide) (by decide), cn 13 (by decide) (by decide), cn 65 (by decide) (by decide), cn 5 (by decide) (by decide), cn 72 (by decide) (by decide), cn 6 (by decide) (by decide)]
    exact hx q hq
  · rw [n1] at q
    rw [cn 59 (by decide) (by decide), cn 15 (by decide) (by decide), cn 62 (by decide) (by decide), cn 18 (by decide) (by decide), cn 63 (by decide) (by decide), cn 19 (by decide) (by decide)]
    exact hv v q
  · rw [cw i j q1 q2, cm i j q1 q2, hw i j q1 q2]
  · unfold ag_kp at *
    rw [n1, cn 54 (by decide) (by decide), cn 3 (by decide) (by decide), cn 45 (by decide) (by decide), cn 69 (by decide) (by decide), cn 68 (by decide) (by decide)]
    exact ⟨hk1.1, hk1.2.1, fun k q => by have := hk1.2.1; rw [cn (39 + k) (by omega) (by omega)]; exact hk1.2.2 k q⟩
  · unfold ag_kp at *
    rw [n1, cn 54 (by decide) (by decide), cn 4 (by decide) (by decide), cn 51 (by decide) (by decide), cn 71 (by decide) (by decide), cn 70 (by decide) (by decide)]
    exact ⟨hk2.1, hk2.2.1, fun k q => by have := hk2.2.1; rw [cn (47 + k) (by omega) (by omega)]; exact hk2.2.2 k q⟩
