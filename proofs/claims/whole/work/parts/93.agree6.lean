/-! small writes on both sides: block, out, hours -/
theorem ag_blk {f : Nat → Nat → Nat} (hi : ag_inv f) {x y : Nat} (hy : y ≤ 1) : ag_inv (dw_w (dw_w f 13 x y) 61 x y) := by
  have hr := ag_raw_of hi
  obtain ⟨⟨hV, hn, hex, hst, hve, hwy, hw0, hrw⟩, -, h7, hk1, hk2⟩ := hi
  obtain ⟨⟨a0, a1, a2⟩, hx, hv, hw⟩ := hr
  have cn : ∀ k, k ≠ 13 → k ≠ 61 → dw_w (dw_w f 13 x y) 61 x y k = f k := fun k q1 q2 => by rw [dw_w_ne q2, dw_w_ne q1]
  have cA : dw_w (dw_w f 13 x y) 61 x y 13 = dw_up (f 13) x y := by rw [dw_w_ne (by decide), dw_w_eq]
  have cB : dw_w (dw_w f 13 x y) 61 x y 61 = dw_up (f 61) x y := by rw [dw_w_eq, dw_w_ne (by decide)]
  generalize dw_w (dw_w f 13 x y) 61 x y = u at cn cA cB
  have n1 := cn 1 (by decide) (by decide)
  have hV' : u 1 0 ≤ 3 := by rw [n1]; exact hV.2
  refine ⟨⟨by rw [n1]; exact hV, by rw [n1]; exact hn, by rw [n1]; exact hex, fun z hz => ?_, fun v q => ?_, fun i j q1 q2 => by rw [cn (28 + i) (by omega) (by omega)]; exact hwy i j q1 q2, by rw [cn 28 (by decide) (by decide)]; exact hw0, ds_rows_cells (by rw [n1]) (by rw [n1]) (cn 10 (by decide) (by decide)) (cn 11 (by decide) (by decide)) (cn 15 (by decide) (by decide)) (fun v q => cn (22 + v) (by omega) (by omega)) hV.2 hrw⟩, ag_eq_of hV' ⟨by rw [n1, cn 54 (by decide) (by decide)]; exact ⟨a0, a1, a2⟩, fun z hz => ?_, fun v q => ?_, fun i j q1 q2 => by rw [cn 64 (by decide) (by decide), cn (28 + i) (by omega) (by omega)]; exact hw i j q1 q2⟩, fun z => by rw [cn 73 (by decide) (by decide), cn 7 (by decide) (by decide)]; exact h7 z, ?_, ?_⟩
  · rw [n1] at hz
    obtain ⟨q1, q2, q3, q4, q5, q6⟩ := hst z hz
    rw [cn 8 (by decide) (by decide), cn 9 (by decide) (by decide), cn 12 (by decide) (by decide), cn 5 (by decide) (by decide), cn 6 (by decide) (by decide), cA, n1]
    refine ⟨q1, q2, q3, ?_, q5, q6⟩
    by_cases e : z = x
    · rw [e, dw_up_eq]; exact hy
    · rw [dw_up_ne e]; exact q4
  · rw [n1] at q
    obtain ⟨q1, q2⟩ := hve v q
    rw [cn 18 (by decide) (by decide), cn 19 (by decide) (by decide)]
    refine ⟨q1, q2⟩
  · rw [n1] at hz
    obtain ⟨b1, b2, b3, b4, b5, b6, b7, b8⟩ := hx z hz
    rw [cn 55 (by decide) (by decide), cn 8 (by decide) (by decide), cn 56 (by decide) (by decide), cn 9 (by decide) (by decide), cn 57 (by decide) (by decide), cn 10 (by decide) (by decide), cn 58 (by decide) (by decide), cn 11 (by decide) (by decide), cn 60 (by decide) (by decide), cn 12 (by decide) (by decide), cB, cA, cn 65 (by decide) (by decide), cn 5 (by decide) (by decide), cn 72 (by decide) (by decide), cn 6 (by decide) (by decide)]
    refine ⟨b1, b2, b3, b4, b5, ?_, b7, b8⟩
    by_cases e : z = x
    · rw [e, dw_up_eq, dw_up_eq]
    · rw [dw_up_ne e, dw_up_ne e]; exact b6
  · rw [n1] at q
    obtain ⟨b1, b2, b3⟩ := hv v q
    rw [cn 59 (by decide) (by decide), cn 15 (by decide) (by decide), cn 62 (by decide) (by decide), cn 18 (by decide) (by decide), cn 63 (by decide) (by decide), cn 19 (by decide) (by decide)]
    refine ⟨b1, b2, b3⟩
  · unfold ag_kp at *
    rw [n1, cn 54 (by decide) (by decide), cn 3 (by decide) (by decide), cn 45 (by decide) (by decide), cn 69 (by decide) (by decide), cn 68 (by decide) (by decide)]
    exact ⟨hk1.1, hk1.2.1, fun k q => by have := hk1.2.1; rw [cn (39 + k) (by omega) (by omega)]; exact hk1.2.2 k q⟩
  · unfold ag_kp at *
    rw [n1, cn 54 (by decide) (by decide), cn 4 (by decide) (by decide), cn 51 (by decide) (by decide), cn 71 (by decide) (by decide), cn 70 (by decide) (by decide)]
    exact ⟨hk2.1, hk2.2.1, fun k q => by have := hk2.2.1; rw [cn (47 + k) (by omega) (by omega)]; exact hk2.2.2 k q⟩
theorem ag_out {f : Nat → Nat → Nat} (hi : ag_inv f) {x y : Nat} (hy : y ≤ 8) : ag_inv (dw_w (dw_w f 18 x y) 62 x y) := by
  have hr := ag_raw_of hi
  obtain ⟨⟨hV, hn, hex, hst, hve, hwy, hw0, hrw⟩, -, h7, hk1, hk2⟩ := hi
  obtain ⟨⟨a0, a1, a2⟩, hx, hv, hw⟩ := hr
  have cn : ∀ k, k ≠ 18 → k ≠ 62 → dw_w (dw_w f 18 x y) 62 x y k = f k := fun k q1 q2 => by rw [dw_w_ne q2, dw_w_ne q1]
  have cA : dw_w (dw_w f 18 x y) 62 x y 18 = dw_up (f 18) x y := by rw [dw_w_ne (by decide), dw_w_eq]
  have cB : dw_w (dw_w f 18 x y) 62 x y 62 = dw_up (f 62) x y := by rw [dw_w_eq, dw_w_ne (by decide)]
  generalize dw_w (dw_w f 18 x y) 62 x y = u at cn cA cB
  have n1 := cn 1 (by decide) (by decide)
  have hV' : u 1 0 ≤ 3 := by rw [n1]; exact hV.2
  refine ⟨⟨by rw [n1]; exact hV, by rw [n1]; exact hn, by rw [n1]; exact hex, fun z hz => ?_, fun v q => ?_, fun i j q1 q2 => by rw [cn (28 + i) (by omega) (by omega)]; exact hwy i j q1 q2, by rw [cn 28 (by decide) (by decide)]; exact hw0, ds_rows_cells (by rw [n1]) (by rw [n1]) (cn 10 (by decide) (by decide)) (cn 11 (by decide) (by decide)) (cn 15 (by decide) (by decide)) (fun v q => cn (22 + v) (by omega) (by omega)) hV.2 hrw⟩, ag_eq_of hV' ⟨by rw [n1, cn 54 (by decide) (by decide)]; exact ⟨a0, a1, a2⟩, fun z hz => ?_, fun v q => ?_, fun i j q1 q2 => by rw [cn 64 (by decide) (by decide), cn (28 + i) (by omega) (by omega)]; exact hw i j q1 q2⟩, fun z => by rw [cn 73 (by decide) (by decide), cn 7 (by decide) (by decide)]; exact h7 z, ?_, ?_⟩
  · rw [n1] at hz
    obtain ⟨q1, q2, q3, q4, q5, q6⟩ := hst z hz
    rw [cn 8 (by decide) (by decide), cn 9 (by decide) (by decide), cn 12 (by decide) (by decide), cn 13 (by decide) (by decide), cn 5 (by decide) (by decide), cn 6 (by decide) (by decide), n1]
    refine ⟨q1, q2, q3, q4, q5, q6⟩
  · rw [n1] at q
    obtain ⟨q1, q2⟩ := hve v q
    rw [cn 19 (by decide) (by decide), cA]
    refine ⟨?_, q2⟩
    by_cases e : v = x
    · rw [e, dw_up_eq]; exact hy
    · rw [dw_up_ne e]; exact q1
  · rw [n1] at hz
    obtain ⟨b1, b2, b3, b4, b5, b6, b7, b8⟩ := hx z hz
    rw [cn 55 (by decide) (by decide), cn 8 (by decide) (by decide), cn 56 (by decide) (by decide), cn 9 (by decide) (by decide), cn 57 (by decide) (by decide), cn 10 (by decide) (by decide), cn 58 (by decide) (by decide), cn 11 (by decide) (by decide), cn 60 (by decide) (by decide), cn 12 (by decide) (by decide), cn 61 (by decide) (by decide), cn 13 (by decide) (by decide), cn 65 (by decide) (by decide), cn 5 (by decide) (by decide), cn 72 (by decide) (by decide), cn 6 (by decide) (by decide)]
    refine ⟨b1, b2, b3, b4, b5, b6, b7, b8⟩
  · rw [n1] at q
    obtain ⟨b1, b2, b3⟩ := hv v q
    rw [cn 59 (by decide) (by decide), cn 15 (by decide) (by decide), cB, cA, cn 63 (by decide) (by decide), cn 19 (by decide) (by decide)]
    refine ⟨b1, ?_, b3⟩
    by_cases e : v = x
    · rw [e, dw_up_eq, dw_up_eq]
    · rw [dw_up_ne e, dw_up_ne e]; exact b2
  · unfold ag_kp at *
    rw [n1, cn 54 (by decide) (by decide), cn 3 (by decide) (by decide), cn 45 (by decide) (by decide), cn 69 (by decide) (by decide), cn 68 (by decide) (by decide)]
    exact ⟨hk1.1, hk1.2.1, fun k q => by have := hk1.2.1; rw [cn (39 + k) (by omega) (by omega)]; exact hk1.2.2 k q⟩
  · unfold ag_kp at *
    rw [n1, cn 54 (by decide) (by decide), cn 4 (by decide) (by decide), cn 51 (by decide) (by decide), cn 71 (by decide) (by decide), cn 70 (by decide) (by decide)]
    exact ⟨hk2.1, hk2.2.1, fun k q => by have := hk2.2.1; rw [cn (47 + k) (by omega) (by omega)]; exact hk2.2.2 k q⟩
theorem ag_hrs {f : Nat → Nat → Nat} (hi : ag_inv f) {x y : Nat} (hy : y ≤ 100000) : ag_inv (dw_w (dw_w f 19 x y) 63 x y) := by
  have hr := ag_raw_of hi
  obtain ⟨⟨hV, hn, hex, hst, hve, hwy, hw0, hrw⟩, -, h7, hk1, hk2⟩ := hi
  obtain ⟨⟨a0, a1, a2⟩, hx, hv, hw⟩ := hr
  have cn : ∀ k, k ≠ 19 → k ≠ 63 → dw_w (dw_w f 19 x y) 63 x y k = f k := fun k q1 q2 => by rw [dw_w_ne q2, dw_w_ne q1]
  have cA : dw_w (dw_w f 19 x y) 63 x y 19 = dw_up (f 19) x y := by rw [dw_w_ne (by decide), dw_w_eq]
  have cB : dw_w (dw_w f 19 x y) 63 x y 63 = dw_up (f 63) x y := by rw [dw_w_eq, dw_w_ne (by decide)]
  generalize dw_w (dw_w f 19 x y) 63 x y = u at cn cA cB
  have n1 := cn 1 (by decide) (by decide)
  have hV' : u 1 0 ≤ 3 := by rw [n1]; exact hV.2
  refine ⟨⟨by rw [n1]; exact hV, by rw [n1]; exact hn, by rw [n1]; exact hex, fun z hz => ?_, fun v q => ?_, fun i j q1 q2 => by rw [cn (28 + i) (by omega) (by omega)]; exact hwy i j q1 q2, by rw [cn 28 (by decide) (by decide)]; exact hw0, ds_rows_cells (by rw [n1]) (by rw [n1]) (cn 10 (by decide) (by decide)) (cn 11 (by decide) (by decide)) (cn 15 (by decide) (by decide)) (fun v q => cn (22 + v) (by omega) (by omega)) hV.2 hrw⟩, ag_eq_of hV' ⟨by rw [n1, cn 54 (by decide) (by decide)]; exact ⟨a0, a1, a2⟩, fun z hz => ?_, fun v q => ?_, fun i j q1 q2 => by rw [cn 64 (by decide) (by decide), cn (28 + i) (by omega) (by omega)]; exact hw i j q1 q2⟩, fun z => by rw [cn 73 (by decide) (by decide), cn 7 (by decide) (by decide)]; exact h7 z, ?_, ?_⟩
  · rw [n1] at hz
    obtain ⟨q1, q2, q3, q4, q5, q6⟩ := hst z hz
    rw [cn 8 (by decide) (by decide), cn 9 (by decide) (by decide), cn 12 (by decide) (by decide), cn 13 (by decide) (by decide), cn 5 (by decide) (by decide), cn 6 (by decide) (by decide), n1]
    refine ⟨q1, q2, q3, q4, q5, q6⟩
  · rw [n1] at q
    obtain ⟨q1, q2⟩ := hve v q
    rw [cn 18 (by decide) (by decide), cA]
    refine ⟨q1, ?_⟩
    by_cases e : v = x
    · rw [e, dw_up_eq]; exact hy
    · rw [dw_up_ne e]; exact q2
  · rw [n1] at hz
    obtain ⟨b1, b2, b3, b4, b5, b6, b7, b8⟩ := hx z hz
    rw [cn 55 (by decide) (by decide), cn 8 (by decide) (by decide), cn 56 (by decide) (by decide), cn 9 (by decide) (by decide), cn 57 (by decide) (by decide), cn 10 (by decide) (by decide), cn 58 (by decide) (by decide), cn 11 (by decide) (by decide), cn 60 (by decide) (by decide), cn 12 (by decide) (by decide), cn 61 (by decide) (by decide), cn 13 (by decide) (by decide), cn 65 (by decide) (by decide), cn 5 (by decide) (by decide), cn 72 (by decide) (by decide), cn 6 (by decide) (by decide)]
    refine ⟨b1, b2, b3, b4, b5, b6, b7, b8⟩
  · rw [n1] at q
    obtain ⟨b1, b2, b3⟩ := hv v q
    rw [cn 59 (by decide) (by decide), cn 15 (by decide) (by decide), cn 62 (by decide) (by decide), cn 18 (by decide) (by decide), cB, cA]
    refine ⟨b1, b2, ?_⟩
    by_cases e : v = x
    · rw [e, dw_up_eq, dw_up_eq]
    · rw [dw_up_ne e, dw_up_ne e]; exact b3
  · unfold ag_kp at *
    rw [n1, cn 54 (by decide) (by decide), cn 3 (by decide) (by decide), cn 45 (by decide) (by decide), cn 69 (by decide) (by decide), cn 68 (by decide) (by decide)]
    exact ⟨hk1.1, hk1.2.1, fun k q => by have := hk1.2.1; rw [cn (39 + k) (by omega) (by omega)]; exact hk1.2.2 k q⟩
  · unfold ag_kp at *
    rw [n1, cn 54 (by decide) (by decide), cn 4 (by decide) (by decide), cn 51 (by decide) (by decide), cn 71 (by decide) (by decide), cn 70 (by decide) (by decide)]
    exact ⟨hk2.1, hk2.2.1, fun k q => by have := hk2.2.1; rw [cn (47 + k) (by omega) (by omega)]; exact hk2.2.2 k q⟩
