/-! the law's invariant with the stops that are not yet told; the builder -/
def ag_hi (f : Nat → Nat → Nat) : Prop := ∀ x, f 1 1 ≤ x → f 60 x = f 12 x ∧ f 12 x ≤ 1 ∧ f 61 x = f 13 x ∧ f 13 x ≤ 1
def ag_I (f : Nat → Nat → Nat) : Prop := ag_inv f ∧ ag_hi f
theorem ag_up {f f1 : Nat → Nat → Nat} (h : ∀ k, 54 ≤ k → f1 k = f k) (rw : Nat → Nat → Nat) : md_v f1 rw = md_v f rw := md_congr (fun k h1 _ _ => h k (by omega)) (by rw [h 54 (by decide)]) (by rw [h 54 (by decide)]) (by rw [h 54 (by decide)])
theorem ag_pre {f f1 : Nat → Nat → Nat} (hi : ag_I f) (h : ∀ k, 54 ≤ k → f1 k = f k) : ds_ok (md_v f1 (ag_rw f)) := by
  rw [ag_up h]
  exact ag_ok hi.1.2.1 hi.1.1
theorem kp_cells {f u : Nat → Nat → Nat} {n n2 V ko so b c j s2 p2 : Nat} (hn : n ≤ n2) (h54 : u 54 j = f 54 j) (hko : u ko 2 = f ko 2) (hso : u so = f so) (hb : ∀ k, k < c → u (b + k) = f (b + k)) (hs2 : u s2 = f s2) (hp2 : u p2 = f p2) (h : ag_kp f n V ko so b c j s2 p2) : ag_kp u n2 V ko so b c j s2 p2 := by
  unfold ag_kp at *
  rw [h54, hko, hso, hs2, hp2]
  refine ⟨h.1, h.2.1, fun k hk => ?_⟩
  have q := h.2.2 k hk
  rw [hb k (by omega)]
  exact ⟨q.1, by omega, q.2.2⟩
def ag_fix (k : Nat) : Prop := (8 ≤ k ∧ k ≤ 13) ∨ k = 15 ∨ k = 18 ∨ k = 19 ∨ (22 ≤ k ∧ k ≤ 24) ∨ (28 ≤ k ∧ k ≤ 37) ∨ (55 ≤ k ∧ k ≤ 64)
theorem ag_bld {f u : Nat → Nat → Nat} (hi : ag_I f) (c1 : u 1 = f 1) (c54 : u 54 0 = f 54 0 ∧ u 54 1 = f 54 1 ∧ u 54 12 = f 54 12) (cf : ∀ k, ag_fix k → u k = f k) (hp : ∀ x, x < f 1 1 → u 5 x ≤ f 1 0 ∧ u 65 x = u 5 x ∧ u 6 x ≤ f 1 0 ∧ u 72 x = u 6 x) (h7 : ∀ x, u 73 x = u 7 x) (k1 : ag_kp u (f 1 1) (f 1 0) 3 45 39 6 16 69 68) (k2 : ag_kp u (f 1 1) (f 1 0) 4 51 47 4 19 71 70) : ag_I u := by
  obtain ⟨hi, hh⟩ := hi
  have hr := ag_raw_of hi
  obtain ⟨⟨hV, hn, hex, hst, hve, hwy, hw0, hrw⟩, -, -, -, -⟩ := hi
  obtain ⟨⟨a0, a1, a2⟩, hx, hv, hw⟩ := hr
  have g8 := cf 8 (by unfold ag_fix; omega)
  have g9 := cf 9 (by unfold ag_fix; omega)
  have g10 := cf 10 (by unfold ag_fix; omega)
  have g11 := cf 11 (by unfold ag_fix; omega)
  have g12 := cf 12 (by unfold ag_fix; omega)
  have g13 := cf 13 (by unfold ag_fix; omega)
  have g15 := cf 15 (by unfold ag_fix; omega)
  have g18 := cf 18 (by unfold ag_fix; omega)
  have g19 := cf 19 (by unfold ag_fix; omega)
  have g55 := cf 55 (by unfold ag_fix; omega)
  have g56 := cf 56 (by unfold ag_fix; omega)
  have g57 := cf 57 (by unfold ag_fix; omega)
  have g58 := cf 58 (by unfold ag_fix; omega)
  have g59 := cf 59 (by unfold ag_fix; omega)
  have g60 := cf 60 (by unfold ag_fix; omega)
  have g61 := cf 61 (by unfold ag_fix; omega)
  have g62 := cf 62 (by unfold ag_fix; omega)
  have g63 := cf 63 (by unfold ag_fix; omega)
  have g64 := cf 64 (by unfold ag_fix; omega)
  refine ⟨ag_mk ⟨by rw [c1]; exact hV, by rw [c1]; exact hn, by rw [c1]; exact hex, fun z hz => ?_, fun v q => ?_, fun i j q1 q2 => by rw [cf (28 + i) (by unfold ag_fix; omega)]; exact hwy i j q1 q2, by rw [cf 28 (by unfold ag_fix; omega)]; exact hw0, ds_rows_cells (by rw [c1]) (by rw [c1]) g10 g11 g15 (fun v q => cf (22 + v) (by unfold ag_fix; omega)) hV.2 hrw⟩ ⟨by rw [c1, c54.1, c54.2.1, c54.2.2]; exact ⟨a0, a1, a2⟩, fun z hz => ?_, fun v q => ?_, fun i j q1 q2 => by rw [g64, cf (28 + i) (by unfold ag_fix; omega)]; exact hw i j q1 q2⟩ h7 (by rw [c1]; exact k1) (by rw [c1]; exact k2), fun z hz => ?_⟩
  · rw [c1] at hz
    have q := hst z hz
    have p := hp z hz
    rw [g8, g9, g12, g13, c1]
    exact ⟨q.1, q.2.1, q.2.2.1, q.2.2.2.1, p.1, p.2.2.1⟩
  · rw [c1] at q
    rw [g18, g19]
    exact hve v q
  · rw [c1] at hz
    have q := hx z hz
    have p := hp z hz
    rw [g55, g56, g57, g58, g60, g61, g8, g9, g10, g11, g12, g13]
    exact ⟨q.1, q.2.1, q.2.2.1, q.2.2.2.1, q.2.2.2.2.1, q.2.2.2.2.2.1, p.2.1, p.2.2.2⟩
  · rw [c1] at q
    rw [g59, g62, g63, g15, g18, g19]
    exact hv v q
  · rw [c1] at hz
    rw [g60, g61, g12, g13]
    exact hh z hz
/-- cells of both behind stop -/
theorem st_cells {f : Nat → Nat → Nat} {v x y : Nat} (hv : v < 3) : ∃ u, u = md_stop (ds_stop f v x y) v x y ∧ u 1 = dw_up (f 1) 1 (f 1 1 + 1) ∧ u 54 = dw_up (f 54) 1 (f 54 1 + 1) ∧ u 5 = dw_up (f 5) (f 1 1) v ∧ u 6 = dw_up (f 6) (f 1 1) v ∧ u 8 = dw_up (f 8) (f 1 1) x ∧ u 9 = dw_up (f 9) (f 1 1) y ∧ u 10 = dw_up (f 10) (f 1 1) v ∧ u 11 = dw_up (f 11) (f 1 1) (f 15 v) ∧ u 15 = dw_up (f 15) v (f 15 v + 1) ∧ u 55 = dw_up (f 55) (f 54 1) x ∧ u 56 = dw_up (f 56) (f 54 1) y ∧ u 57 = dw_up (f 57) (f 54 1) v ∧ u 58 = dw_up (f 58) (f 54 1) (f 59 v) ∧ u 59 = dw_up (f 59) v (f 59 v + 1) ∧ u 65 = dw_up (f 65) (f 54 1) v ∧ u 72 = dw_up (f 72) (f 54 1) v := by
  refine ⟨_, rfl, ?_⟩
  rcases (show v = 0 ∨ v = 1 ∨ v = 2 by omega) with rfl | rfl | rfl
  · exact ⟨rfl, rfl, rfl, rfl, rfl, rfl, rfl, rfl, rfl, rfl, rfl, rfl, rfl, rfl, rfl, rfl⟩
  · exact ⟨rfl, rfl, rfl, rfl, rfl, rfl, rfl, rfl, rfl, rfl, rfl, rfl, rfl, rfl, rfl, rfl⟩
  · exact ⟨rfl, rfl, rfl, rfl, rfl, rfl, rfl, rfl, rfl, rfl, rfl, rfl, rfl, rfl, rfl, rfl⟩
theorem st_rows {f : Nat → Nat → Nat} {v x y w : Nat} (hv : v < 3) (hw : w < 3) : md_stop (ds_stop f v x y) v x y (22 + w) = if w = v then dw_up (f (22 + v)) (f 15 v) (f 1 1) else f (22 + w) := by
  rcases (show v = 0 ∨ v = 1 ∨ v = 2 by omega) with rfl | rfl | rfl <;> rcases (show w = 0 ∨ w = 1 ∨ w = 2 by omega) with rfl | rfl | rfl <;> rfl
theorem st_ne {f : Nat → Nat → Nat} {v x y k : Nat} (h : k ≠ 22 + v ∧ k ≠ 1 ∧ k ≠ 5 ∧ k ≠ 6 ∧ k ≠ 8 ∧ k ≠ 9 ∧ k ≠ 10 ∧ k ≠ 11 ∧ k ≠ 15) : ds_stop f v x y k = f k := by
  unfold ds_stop ds_tell
  rw [dw_w_ne (by omega), dw_w_ne (by omega), dw_w_ne (by omega), ds_app_ne (by omega), ds_tell1_ne (by omega)]
theorem st_ne2 {f : Nat → Nat → Nat} {v x y k : Nat} (h : k ≠ 54 ∧ k ≠ 55 ∧ k ≠ 56 ∧ k ≠ 57 ∧ k ≠ 58 ∧ k ≠ 59 ∧ k ≠ 65 ∧ k ≠ 72) : md_stop f v x y k = f k := by
  unfold md_stop
  rw [dw_w_ne (by omega), dw_w_ne (by omega), dw_w_ne (by omega), dw_w_ne (by omega), dw_w_ne (by omega), dw_w_ne (by omega), dw_w_ne (by omega), dw_w_ne (by omega)]
theorem ag_stop {f : Nat → Nat → Nat} (hi : ag_I f) {v x y : Nat} (h8 : f 1 1 < 8) (hv0 : v < f 1 0) (hx0 : x < 10) (hy0 : y ≤ 10000) : ag_I (md_stop (ds_stop f v x y) v x y) := by
  obtain ⟨hi, hh⟩ := hi
  have hr := ag_raw_of hi
  obtain ⟨⟨hV, hn, hex, hst, hve, hwy, hw0, hrw⟩, -, h7, hk1, hk2⟩ := hi
  obtain ⟨⟨a0, a1, a2⟩, hx, hv, hw⟩ := hr
  have hv3 : v < 3 := by omega
  obtain ⟨u, eu, c1, c54, c5, c6, c8, c9, c10, c11, c15, c55, c56, c57, c58, c59, c65, c72⟩ := st_cells (f := f) (v := v) (x := x) (y := y) hv3
  have cr : ∀ w, w < 3 → u (22 + w) = if w = v then dw_up (f (22 + v)) (f 15 v) (f 1 1) else f (22 + w) := fun w hw2 => by rw [eu]; exact st_rows hv3 hw2
  have cn : ∀ k, ¬ (22 ≤ k ∧ k ≤ 24) → (k ≠ 1 ∧ k ≠ 5 ∧ k ≠ 6 ∧ k ≠ 8 ∧ k ≠ 9 ∧ k ≠ 10 ∧ k ≠ 11 ∧ k ≠ 15) → (k ≠ 54 ∧ k ≠ 55 ∧ k ≠ 56 ∧ k ≠ 57 ∧ k ≠ 58 ∧ k ≠ 59 ∧ k ≠ 65 ∧ k ≠ 72) → u k = f k := fun k q1 q2 q3 => by rw [eu, st_ne2 q3, st_ne (by omega)]
  rw [← eu]
  rw [a1] at c54 c55 c56 c57 c58 c65 c72
  have e59 := (hv v hv0).1
  rw [e59] at c58 c59
  obtain ⟨n, en⟩ : ∃ n, n = f 1 1 := ⟨_, rfl⟩
  obtain ⟨L, eL⟩ : ∃ n, n = f 15 v := ⟨_, rfl⟩
  rw [← en] at c1 c54 c5 c6 c8 c9 c10 c11 c55 c56 c57 c58 c65 c72 h8
  rw [← eL] at c11 c15 c58 c59
  have cr2 : ∀ w, w < 3 → w ≠ v → u (22 + w) = f (22 + w) := fun w h1 h2 => by rw [cr w h1, if_neg h2]
  have cr1 : u (22 + v) = dw_up (f (22 + v)) L n := by rw [cr v hv3, if_pos rfl, ← eL, ← en]
  have e0 : u 1 0 = f 1 0 := by rw [c1, dw_up_ne (by decide)]
  have e1 : u 1 1 = n + 1 := by rw [c1, dw_up_eq]
  have e16 : u 1 16 = f 1 16 := by rw [c1, dw_up_ne (by decide)]
  have d12 := cn 12 (by omega) (by omega) (by omega)
  have d13 := cn 13 (by omega) (by omega) (by omega)
  have d18 := cn 18 (by omega) (by omega) (by omega)
  have d19 := cn 19 (by omega) (by omega) (by omega)
  have d60 := cn 60 (by omega) (by omega) (by omega)
  have d61 := cn 61 (by omega) (by omega) (by omega)
  have d62 := cn 62 (by omega) (by omega) (by omega)
  have d63 := cn 63 (by omega) (by omega) (by omega)
  have d64 := cn 64 (by omega) (by omega) (by omega)
  have dw : ∀ i, i < 10 → u (28 + i) = f (28 + i) := fun i h => cn (28 + i) (by omega) (by omega) (by omega)
  have hhn := hh n (by omega)
  refine ⟨ag_mk ⟨by rw [e0]; exact hV, by omega, by rw [e16]; exact hex, fun z hz => ?_, fun w q => ?_, fun i j q1 q2 => by rw [dw i q1]; exact hwy i j q1 q2, by rw [show u 28 = f 28 from dw 0 (by decide)]; exact hw0, ⟨fun w r h1 h2 => ?_, fun s h1 => ?_⟩⟩ ⟨⟨by rw [c54, dw_up_ne (by decide), e0]; exact a0, by rw [c54, dw_up_eq, e1], by rw [c54, dw_up_ne (by decide), e16]; exact a2⟩, fun z hz => ?_, fun w q => ?_, fun i j q1 q2 => by rw [d64, dw i q1]; exact hw i j q1 q2⟩ (fun z => by rw [cn 73 (by omega) (by omega) (by omega), cn 7 (by omega) (by omega) (by omega)]; exact h7 z) ?_ ?_, fun z hz => ?_⟩
  · rw [e1] at hz
    rw [c8, c9, d12, d13, c5, c6, e0]
    by_cases e : z = n
    · rw [e, dw_up_eq, dw_up_eq, dw_up_eq, dw_up_eq]
      exact ⟨hx0, hy0, hhn.2.1, hhn.2.2.2, by omega, by omega⟩
    · rw [dw_up_ne e, dw_up_ne e, dw_up_ne e, dw_up_ne e]
      exact hst z (by omega)
  · rw [e0] at q
    rw [d18, d19]
    exact hve w q
  · rw [e0] at h1
    rw [e1, c10, c11]
    by_cases e : w = v
    · subst e
      rw [c15, dw_up_eq] at h2
      rw [cr1]
      by_cases e2 : r = L
      · rw [e2, dw_up_eq, dw_up_eq, dw_up_eq]
        exact ⟨by omega, rfl, rfl⟩
      · have q := hrw.1 w r h1 (by omega)
        rw [dw_up_ne e2, dw_up_ne (by omega), dw_up_ne (by omega)]
        exact ⟨by omega, q.2⟩
    · rw [c15, dw_up_ne e] at h2
      have q := hrw.1 w r h1 h2
      rw [cr2 w (by omega) e, dw_up_ne (by omega), dw_up_ne (by omega)]
      exact ⟨by omega, q.2⟩
  · rw [e1] at h1
    rw [c10, c11, c15, e0]
    by_cases e : s = n
    · rw [e, dw_up_eq, dw_up_eq, dw_up_eq, cr1, dw_up_eq]
      exact ⟨hv0, by omega, rfl⟩
    · have q := hrw.2 s (by omega)
      rw [dw_up_ne e, dw_up_ne e]
      by_cases e2 : f 10 s = v
      · rw [e2] at q
        rw [e2, dw_up_eq, cr1, dw_up_ne (by omega)]
        exact ⟨q.1, by omega, q.2.2⟩
      · rw [dw_up_ne e2, cr2 _ (by omega) e2]
        exact q
  · rw [e1] at hz
    rw [c55, c56, c57, c58, d60, d61, c65, c72, c8, c9, c10, c11, d12, d13, c5, c6]
    by_cases e : z = n
    · rw [e, dw_up_eq, dw_up_eq, dw_up_eq, dw_up_eq, dw_up_eq, dw_up_eq, dw_up_eq, dw_up_eq, dw_up_eq, dw_up_eq, dw_up_eq, dw_up_eq]
      exact ⟨rfl, rfl, rfl, rfl, hhn.1, hhn.2.2.1, rfl, rfl⟩
    · rw [dw_up_ne e, dw_up_ne e, dw_up_ne e, dw_up_ne e, dw_up_ne e, dw_up_ne e, dw_up_ne e, dw_up_ne e, dw_up_ne e, dw_up_ne e, dw_up_ne e, dw_up_ne e]
      exact hx z (by omega)
  · rw [e0] at q
    have p := hv w q
    rw [c59, c15, d62, d18, d63, d19]
    by_cases e : w = v
    · rw [e, dw_up_eq, dw_up_eq, ← e]
      exact ⟨rfl, p.2⟩
    · rw [dw_up_ne e, dw_up_ne e]
      exact p
  · rw [e0, e1]
    exact kp_cells (n := f 1 1) (by omega) (by rw [c54, dw_up_ne (by decide)]) (by rw [cn 3 (by omega) (by omega) (by omega)]) (cn 45 (by omega) (by omega) (by omega)) (fun k hk => cn (39 + k) (by omega) (by omega) (by omega)) (cn 69 (by omega) (by omega) (by omega)) (cn 68 (by omega) (by omega) (by omega)) hk1
  · rw [e0, e1]
    exact kp_cells (n := f 1 1) (by omega) (by rw [c54, dw_up_ne (by decide)]) (by rw [cn 4 (by omega) (by omega) (by omega)]) (cn 51 (by omega) (by omega) (by omega)) (fun k hk => cn (47 + k) (by omega) (by omega) (by omega)) (cn 71 (by omega) (by omega) (by omega)) (cn 70 (by omega) (by omega) (by omega)) hk2
  · rw [e1] at hz
    rw [d60, d61, d12, d13]
    exact hh z (by omega)
