/-! the law, call by call: equal answers, and the invariant again -/
theorem L_stop {f f1 f2 : Nat → Nat → Nat} {x : Int32} {y : Int32} {z : Int32} {r r2 : Int32} (hi : ag_I f) (h1 : if f 1 1 < 8 ∧ ds_in x (f 1 0) ∧ ds_in y 10 ∧ ds_in z 10001 then r = nI (f 1 1) ∧ f1 = ds_stop f x.toNatClampNeg y.toNatClampNeg z.toNatClampNeg else r = (-1) ∧ f1 = f) (h2 : if f1 54 1 < 8 ∧ ds_in x (f1 54 0) ∧ ds_in y 10 ∧ ds_in z 10001 then r2 = nI (f1 54 1) ∧ f2 = md_stop f1 x.toNatClampNeg y.toNatClampNeg z.toNatClampNeg else r2 = (-1) ∧ f2 = f1) : r = r2 ∧ ag_I f2 := by
  have raw := ag_raw_of hi.1
  have ok := hi.1.1
  obtain ⟨⟨a0, a1, a2⟩, hx, hv, hw⟩ := raw
  by_cases hc : f 1 1 < 8 ∧ ds_in x (f 1 0) ∧ ds_in y 10 ∧ ds_in z 10001
  · rw [if_pos hc] at h1
    obtain ⟨e1, e2⟩ := h1
    have lx := (ds_in_nI hc.2.1).2
    have e54 : f1 54 = f 54 := by rw [e2]; exact st_ne (by have := ok.1; omega)
    rw [e54, a1, a0, if_pos hc] at h2
    obtain ⟨e3, e4⟩ := h2
    rw [e4, e2]
    exact ⟨by rw [e1, e3], ag_stop hi hc.1 lx (ds_in_nI hc.2.2.1).2 (by have := (ds_in_nI hc.2.2.2).2; omega)⟩
  · rw [if_neg hc] at h1
    obtain ⟨e1, e2⟩ := h1
    subst e2
    rw [a1, a0, if_neg hc] at h2
    obtain ⟨e3, e4⟩ := h2
    subst e4
    exact ⟨by rw [e1, e3], hi⟩
theorem L_freeze {f f1 f2 : Nat → Nat → Nat} {x : Int32} {y : Nat} {r r2 : Int32} (hi : ag_I f) (hy : y ≤ 1) (h1 : if ds_in x (f 1 1) then r = nI 1 ∧ f1 = dw_w f 12 x.toNatClampNeg y else r = nI 0 ∧ f1 = f) (h2 : if ds_in x (f1 54 1) then r2 = nI 1 ∧ f2 = dw_w f1 60 x.toNatClampNeg y else r2 = nI 0 ∧ f2 = f1) : r = r2 ∧ ag_I f2 := by
  have raw := ag_raw_of hi.1
  have ok := hi.1.1
  obtain ⟨⟨a0, a1, a2⟩, hx, hv, hw⟩ := raw
  by_cases hc : ds_in x (f 1 1)
  · rw [if_pos hc] at h1
    obtain ⟨e1, e2⟩ := h1
    subst e2
    rw [if_pos (by rw [show dw_w f 12 x.toNatClampNeg y 54 = f 54 from dw_w_ne (by decide), a1]; exact hc)] at h2
    obtain ⟨e3, e4⟩ := h2
    subst e4
    exact ⟨by rw [e1, e3], ag_frz hi.1 hy, fun z hz => by
      have e1 : dw_w (dw_w f 12 x.toNatClampNeg y) 60 x.toNatClampNeg y 1 = f 1 := by rw [dw_w_ne (by decide), dw_w_ne (by decide)]
      rw [e1] at hz
      have q := hi.2 z hz
      have xl := (ds_in_nI hc).2
      have cA : dw_w (dw_w f 12 x.toNatClampNeg y) 60 x.toNatClampNeg y 12 z = f 12 z := by rw [dw_w_ne (by decide), dw_w_eq, dw_up_ne (by omega)]
      have cB : dw_w (dw_w f 12 x.toNatClampNeg y) 60 x.toNatClampNeg y 60 z = f 60 z := by rw [dw_w_eq, dw_w_ne (by decide), dw_up_ne (by omega)]
      have cC : dw_w (dw_w f 12 x.toNatClampNeg y) 60 x.toNatClampNeg y 13 z = f 13 z := by rw [dw_w_ne (by decide), dw_w_ne (by decide)]
      have cD : dw_w (dw_w f 12 x.toNatClampNeg y) 60 x.toNatClampNeg y 61 z = f 61 z := by rw [dw_w_ne (by decide), dw_w_ne (by decide)]
      rw [cA, cB, cC, cD]
      exact q⟩
  · rw [if_neg hc] at h1
    obtain ⟨e1, e2⟩ := h1
    subst e2
    rw [if_neg (by rw [a1]; exact hc)] at h2
    obtain ⟨e3, e4⟩ := h2
    subst e4
    exact ⟨by rw [e1, e3], hi⟩
theorem L_block {f f1 f2 : Nat → Nat → Nat} {x : Int32} {y : Nat} {r r2 : Int32} (hi : ag_I f) (hy : y ≤ 1) (h1 : if ds_in x (f 1 1) then r = nI 1 ∧ f1 = dw_w f 13 x.toNatClampNeg y else r = nI 0 ∧ f1 = f) (h2 : if ds_in x (f1 54 1) then r2 = nI 1 ∧ f2 = dw_w f1 61 x.toNatClampNeg y else r2 = nI 0 ∧ f2 = f1) : r = r2 ∧ ag_I f2 := by
  have raw := ag_raw_of hi.1
  have ok := hi.1.1
  obtain ⟨⟨a0, a1, a2⟩, hx, hv, hw⟩ := raw
  by_cases hc : ds_in x (f 1 1)
  · rw [if_pos hc] at h1
    obtain ⟨e1, e2⟩ := h1
    subst e2
    rw [if_pos (by rw [show dw_w f 13 x.toNatClampNeg y 54 = f 54 from dw_w_ne (by decide), a1]; exact hc)] at h2
    obtain ⟨e3, e4⟩ := h2
    subst e4
    exact ⟨by rw [e1, e3], ag_blk hi.1 hy, fun z hz => by
      have e1 : dw_w (dw_w f 13 x.toNatClampNeg y) 61 x.toNatClampNeg y 1 = f 1 := by rw [dw_w_ne (by decide), dw_w_ne (by decide)]
      rw [e1] at hz
      have q := hi.2 z hz
      have xl := (ds_in_nI hc).2
      have cA : dw_w (dw_w f 13 x.toNatClampNeg y) 61 x.toNatClampNeg y 13 z = f 13 z := by rw [dw_w_ne (by decide), dw_w_eq, dw_up_ne (by omega)]
      have cB : dw_w (dw_w f 13 x.toNatClampNeg y) 61 x.toNatClampNeg y 61 z = f 61 z := by rw [dw_w_eq, dw_w_ne (by decide), dw_up_ne (by omega)]
      have cC : dw_w (dw_w f 13 x.toNatClampNeg y) 61 x.toNatClampNeg y 12 z = f 12 z := by rw [dw_w_ne (by decide), dw_w_ne (by decide)]
      have cD : dw_w (dw_w f 13 x.toNatClampNeg y) 61 x.toNatClampNeg y 60 z = f 60 z := by rw [dw_w_ne (by decide), dw_w_ne (by decide)]
      rw [cA, cB, cC, cD]
      exact q⟩
  · rw [if_neg hc] at h1
    obtain ⟨e1, e2⟩ := h1
    subst e2
    rw [if_neg (by rw [a1]; exact hc)] at h2
    obtain ⟨e3, e4⟩ := h2
    subst e4
    exact ⟨by rw [e1, e3], hi⟩
theorem L_out {f f1 f2 : Nat → Nat → Nat} {x : Int32} {y : Int32} {r r2 : Int32} (hi : ag_I f) (h1 : if ds_in x (f 1 0) ∧ ds_in y 9 then r = nI 1 ∧ f1 = dw_w f 18 x.toNatClampNeg y.toNatClampNeg else r = nI 0 ∧ f1 = f) (h2 : if ds_in x (f1 54 0) ∧ ds_in y 9 then r2 = nI 1 ∧ f2 = dw_w f1 62 x.toNatClampNeg y.toNatClampNeg else r2 = nI 0 ∧ f2 = f1) : r = r2 ∧ ag_I f2 := by
  have raw := ag_raw_of hi.1
  have ok := hi.1.1
  obtain ⟨⟨a0, a1, a2⟩, hx, hv, hw⟩ := raw
  by_cases hc : ds_in x (f 1 0) ∧ ds_in y 9
  · rw [if_pos hc] at h1
    obtain ⟨e1, e2⟩ := h1
    subst e2
    rw [if_pos (by rw [show dw_w f 18 x.toNatClampNeg y.toNatClampNeg 54 = f 54 from dw_w_ne (by decide), a0]; exact hc)] at h2
    obtain ⟨e3, e4⟩ := h2
    subst e4
    exact ⟨by rw [e1, e3], ag_out hi.1 (by have := (ds_in_nI hc.2).2; omega), fun z hz => by
      have c1 : dw_w (dw_w f 18 x.toNatClampNeg y.toNatClampNeg) 62 x.toNatClampNeg y.toNatClampNeg 1 = f 1 := by rw [dw_w_ne (by omega), dw_w_ne (by omega)]
      have c60 : dw_w (dw_w f 18 x.toNatClampNeg y.toNatClampNeg) 62 x.toNatClampNeg y.toNatClampNeg 60 = f 60 := by rw [dw_w_ne (by omega), dw_w_ne (by omega)]
      have c61 : dw_w (dw_w f 18 x.toNatClampNeg y.toNatClampNeg) 62 x.toNatClampNeg y.toNatClampNeg 61 = f 61 := by rw [dw_w_ne (by omega), dw_w_ne (by omega)]
      have c12 : dw_w (dw_w f 18 x.toNatClampNeg y.toNatClampNeg) 62 x.toNatClampNeg y.toNatClampNeg 12 = f 12 := by rw [dw_w_ne (by omega), dw_w_ne (by omega)]
      have c13 : dw_w (dw_w f 18 x.toNatClampNeg y.toNatClampNeg) 62 x.toNatClampNeg y.toNatClampNeg 13 = f 13 := by rw [dw_w_ne (by omega), dw_w_ne (by omega)]
      rw [c1] at hz
      rw [c60, c61, c12, c13]
      exact hi.2 z hz⟩
  · rw [if_neg hc] at h1
    obtain ⟨e1, e2⟩ := h1
    subst e2
    rw [if_neg (by rw [a0]; exact hc)] at h2
    obtain ⟨e3, e4⟩ := h2
    subst e4
    exact ⟨by rw [e1, e3], hi⟩
theorem L_way {f f1 f2 : Nat → Nat → Nat} {x : Int32} {y : Int32} {z : Int32} {r r2 : Int32} (hi : ag_I f) (h1 : if ds_in x 10 ∧ ds_in y 10 ∧ ¬ x = y ∧ ds_in z 10001 then r = nI 1 ∧ f1 = dw_w (dw_w f (28 + x.toNatClampNeg) y.toNatClampNeg z.toNatClampNeg) (28 + y.toNatClampNeg) x.toNatClampNeg z.toNatClampNeg else r = nI 0 ∧ f1 = f) (h2 : if ds_in x 10 ∧ ds_in y 10 ∧ ¬ x = y ∧ ds_in z 10001 then r2 = nI 1 ∧ f2 = dw_w (dw_w f1 64 (10 * x.toNatClampNeg + y.toNatClampNeg) z.toNatClampNeg) 64 (10 * y.toNatClampNeg + x.toNatClampNeg) z.toNatClampNeg else r2 = nI 0 ∧ f2 = f1) : r = r2 ∧ ag_I f2 := by
  have raw := ag_raw_of hi.1
  have ok := hi.1.1
  obtain ⟨⟨a0, a1, a2⟩, hx, hv, hw⟩ := raw
  by_cases hc : ds_in x 10 ∧ ds_in y 10 ∧ ¬ x = y ∧ ds_in z 10001
  · rw [if_pos hc] at h1
    obtain ⟨e1, e2⟩ := h1
    subst e2
    rw [if_pos (by skip; exact hc)] at h2
    obtain ⟨e3, e4⟩ := h2
    subst e4
    exact ⟨by rw [e1, e3], ag_way hi.1 (ds_in_nI hc.1).2 (ds_in_nI hc.2.1).2 (fun e => hc.2.2.1 (by rw [(ds_in_nI hc.1).1, (ds_in_nI hc.2.1).1, e])) (by have := (ds_in_nI hc.2.2.2).2; omega), fun q hq => by
      have l1 := (ds_in_nI hc.1).2
      have l2 := (ds_in_nI hc.2.1).2
      have c : ∀ k, ¬ (28 ≤ k ∧ k < 38) → k ≠ 64 → dw_w (dw_w (dw_w (dw_w f (28 + x.toNatClampNeg) y.toNatClampNeg z.toNatClampNeg) (28 + y.toNatClampNeg) x.toNatClampNeg z.toNatClampNeg) 64 (10 * x.toNatClampNeg + y.toNatClampNeg) z.toNatClampNeg) 64 (10 * y.toNatClampNeg + x.toNatClampNeg) z.toNatClampNeg k = f k := fun k q1 q2 => by rw [dw_w_ne q2, dw_w_ne q2, dw_w_ne (by omega), dw_w_ne (by omega)]
      rw [c 1 (by decide) (by decide)] at hq
      rw [c 60 (by decide) (by decide), c 61 (by decide) (by decide), c 12 (by decide) (by decide), c 13 (by decide) (by decide)]
      exact hi.2 q hq⟩
  · rw [if_neg hc] at h1
    obtain ⟨e1, e2⟩ := h1
    subst e2
    rw [if_neg (by skip; exact hc)] at h2
    obtain ⟨e3, e4⟩ := h2
    subst e4
    exact ⟨by rw [e1, e3], hi⟩
theorem L_hours {f f1 f2 : Nat → Nat → Nat} {x : Int32} {y : Int32} {r r2 : Int32} (hi : ag_I f) (h1 : if ds_in x (f 1 0) ∧ ds_in y 100001 then r = nI 1 ∧ f1 = dw_w f 19 x.toNatClampNeg y.toNatClampNeg else r = nI 0 ∧ f1 = f) (h2 : if ds_in x (f1 54 0) ∧ ds_in y 100001 then r2 = nI 1 ∧ f2 = dw_w f1 63 x.toNatClampNeg y.toNatClampNeg else r2 = nI 0 ∧ f2 = f1) : r = r2 ∧ ag_I f2 := by
  have raw := ag_raw_of hi.1
  have ok := hi.1.1
  obtain ⟨⟨a0, a1, a2⟩, hx, hv, hw⟩ := raw
  by_cases hc : ds_in x (f 1 0) ∧ ds_in y 100001
  · rw [if_pos hc] at h1
    obtain ⟨e1, e2⟩ := h1
    subst e2
    rw [if_pos (by rw [show dw_w f 19 x.toNatClampNeg y.toNatClampNeg 54 = f 54 from dw_w_ne (by decide), a0]; exact hc)] at h2
    obtain ⟨e3, e4⟩ := h2
    subst e4
    exact ⟨by rw [e1, e3], ag_hrs hi.1 (by have := (ds_in_nI hc.2).2; omega), fun z hz => by
      have c1 : dw_w (dw_w f 19 x.toNatClampNeg y.toNatClampNeg) 63 x.toNatClampNeg y.toNatClampNeg 1 = f 1 := by rw [dw_w_ne (by omega), dw_w_ne (by omega)]
      have c60 : dw_w (dw_w f 19 x.toNatClampNeg y.toNatClampNeg) 63 x.toNatClampNeg y.toNatClampNeg 60 = f 60 := by rw [dw_w_ne (by omega), dw_w_ne (by omega)]
      have c61 : dw_w (dw_w f 19 x.toNatClampNeg y.toNatClampNeg) 63 x.toNatClampNeg y.toNatClampNeg 61 = f 61 := by rw [dw_w_ne (by omega), dw_w_ne (by omega)]
      have c12 : dw_w (dw_w f 19 x.toNatClampNeg y.toNatClampNeg) 63 x.toNatClampNeg y.toNatClampNeg 12 = f 12 := by rw [dw_w_ne (by omega), dw_w_ne (by omega)]
      have c13 : dw_w (dw_w f 19 x.toNatClampNeg y.toNatClampNeg) 63 x.toNatClampNeg y.toNatClampNeg 13 = f 13 := by rw [dw_w_ne (by omega), dw_w_ne (by omega)]
      rw [c1] at hz
      rw [c60, c61, c12, c13]
      exact hi.2 z hz⟩
  · rw [if_neg hc] at h1
    obtain ⟨e1, e2⟩ := h1
    subst e2
    rw [if_neg (by rw [a0]; exact hc)] at h2
    obtain ⟨e3, e4⟩ := h2
    subst e4
    exact ⟨by rw [e1, e3], hi⟩
theorem L_extra {f f1 f2 : Nat → Nat → Nat} {x : Int32} {r r2 : Int32} (hi : ag_I f) (h1 : if ds_in x 100001 then r = nI 1 ∧ f1 = dw_w f 1 16 x.toNatClampNeg else r = nI 0 ∧ f1 = f) (h2 : if ds_in x 100001 then r2 = nI 1 ∧ f2 = dw_w f1 54 12 x.toNatClampNeg else r2 = nI 0 ∧ f2 = f1) : r = r2 ∧ ag_I f2 := by
  have raw := ag_raw_of hi.1
  have ok := hi.1.1
  obtain ⟨⟨a0, a1, a2⟩, hx, hv, hw⟩ := raw
  by_cases hc : ds_in x 100001
  · rw [if_pos hc] at h1
    obtain ⟨e1, e2⟩ := h1
    subst e2
    rw [if_pos (by skip; exact hc)] at h2
    obtain ⟨e3, e4⟩ := h2
    subst e4
    exact ⟨by rw [e1, e3], ag_ext hi.1 (by have := (ds_in_nI hc).2; omega), fun z hz => by
      have c1 : dw_w (dw_w f 1 16 x.toNatClampNeg) 54 12 x.toNatClampNeg 1 1 = f 1 1 := by rw [dw_w_ne (by decide), dw_w_eq, dw_up_ne (by decide)]
      have c : ∀ k, k ≠ 1 → k ≠ 54 → dw_w (dw_w f 1 16 x.toNatClampNeg) 54 12 x.toNatClampNeg k = f k := fun k q1 q2 => by rw [dw_w_ne q2, dw_w_ne q1]
      rw [c1] at hz
      rw [c 60 (by decide) (by decide), c 61 (by decide) (by decide), c 12 (by decide) (by decide), c 13 (by decide) (by decide)]
      exact hi.2 z hz⟩
  · rw [if_neg hc] at h1
    obtain ⟨e1, e2⟩ := h1
    subst e2
    rw [if_neg (by skip; exact hc)] at h2
    obtain ⟨e3, e4⟩ := h2
    subst e4
    exact ⟨by rw [e1, e3], hi⟩
theorem L_run {f f1 f2 : Nat → Nat → Nat}  {r r2 : Int32} (hi : ag_I f) (h1 : if ds_best f < 1152921504606846976 then r = nI (ds_cnt (fun x => f1 5 x != f 10 x) (f 1 1)) ∧ (∀ x, x < f 1 1 → f1 5 x = ds_best f / 2 ^ (2 * (7 - x)) &&& 3) ∧ (∃ kk dd : Nat, ((f 3 2 < 6 ∧ kk = f 3 2 ∧ dd = 0) ∨ (f 3 2 = 6 ∧ kk = 5 ∧ dd = 1)) ∧ f1 3 2 = kk + 1 ∧ (∀ j, j < kk → (∀ t, t < 8 → f1 (39 + j) t = f (39 + (j + dd)) t) ∧ f1 45 j = f 45 (j + dd)) ∧ (∀ t, t < 8 → f1 (39 + kk) t = f 5 t) ∧ f1 45 kk = f 1 1) ∧ (∀ k, k ≠ 3 → k ≠ 5 → k ≠ 21 → k ≠ 45 → k ≠ 52 → k ≠ 53 → ¬ (39 ≤ k ∧ k < 45) → f1 k = f k) else r = ds_why f ∧ ∀ k, k ≠ 21 → k ≠ 52 → k ≠ 53 → f1 k = f k) (h2 : ((∀ q, md_val (md_v f1 (ag_rw f)) q → ¬ md_hold (md_v f1 (ag_rw f)) q = true) ∧ r2 = ds_why (md_v f1 (ag_rw f)) ∧ md_ag f1 f2) ∨ (∃ s0 : Nat → Nat, md_val (md_v f1 (ag_rw f)) s0 ∧ md_hold (md_v f1 (ag_rw f)) s0 = true ∧ (∀ q, md_val (md_v f1 (ag_rw f)) q → md_hold (md_v f1 (ag_rw f)) q = true → md_le (md_v f1 (ag_rw f)) s0 q) ∧ r2 = nI (md_mv (md_v f1 (ag_rw f)) s0) ∧ (∀ x, x < f1 54 1 → f2 65 x = s0 x) ∧ (∃ kk dd : Nat, ((f1 54 16 < 6 ∧ kk = f1 54 16 ∧ dd = 0) ∨ (f1 54 16 = 6 ∧ kk = 5 ∧ dd = 1)) ∧ f2 54 16 = kk + 1 ∧ (∀ j, j < kk → (∀ t, t < 8 → f2 68 (8 * j + t) = f1 68 (8 * (j + dd) + t)) ∧ f2 69 j = f1 69 (j + dd)) ∧ (∀ t, t < f1 54 1 → f2 68 (8 * kk + t) = f1 65 t) ∧ f2 69 kk = f1 54 1) ∧ (∀ j, j ≠ 16 → j ≠ 25 → f2 54 j = f1 54 j) ∧ ∀ k, k ≠ 54 → k ≠ 65 → k ≠ 66 → k ≠ 67 → k ≠ 68 → k ≠ 69 → k ≠ 74 → f2 k = f1 k)) : r = r2 ∧ ag_I f2 := by
  have raw := ag_raw_of hi.1
  have ok := hi.1.1
  obtain ⟨⟨a0, a1, a2⟩, hx, hv, hw⟩ := raw
  obtain ⟨-, he, h7, hk1, hk2⟩ := hi.1
  have hk3 := hk1
  obtain ⟨m1, m2, m3⟩ := hk3
  have hn := ok.2.1
  have up : ∀ k, 54 ≤ k → f1 k = f k := fun k hk => by
    by_cases hc : ds_best f < 1152921504606846976
    · rw [if_pos hc] at h1
      exact h1.2.2.2 k (by omega) (by omega) (by omega) (by omega) (by omega) (by omega) (by omega)
    · rw [if_neg hc] at h1
      exact h1.2 k (by omega) (by omega) (by omega)
  rw [ag_up up] at h2
  rcases h2 with ⟨z1, z2, z3⟩ | ⟨s0, z1, z2, z3, z4, z5, ⟨kk, dd, y1, y2, y3, y4, y5⟩, z6, z7⟩
  · have hc := run_none ok (fun q hq hh => z1 q ((tr_val he).mpr hq) (by rw [tr_hold he ok hq]; exact hh))
    rw [if_neg hc] at h1
    refine ⟨by rw [h1.1, z2, ag_why he ok.2.2.2.2.2.2.2], ag_I_congr ⟨fun k k1 k2 => ?_, fun j hj => ?_⟩ hi⟩
    · unfold ag_scr at k2
      rw [z3.1 k k1 (by omega) (by omega) (by omega), h1.2 k (by omega) (by omega) (by omega)]
    · rw [z3.2 j hj, up 54 (by decide)]
  · have v0 := (tr_val he).mp z1
    obtain ⟨hc, hdg⟩ := run_some ok v0 (by rw [← tr_hold he ok v0]; exact z2) (fun q hq hh => tr_le he ok (z3 q ((tr_val he).mpr hq) (by rw [tr_hold he ok hq]; exact hh)))
    rw [if_pos hc] at h1
    obtain ⟨e1, h5, ⟨k2, d2, x1, x2, x3, x4, x5⟩, hc1⟩ := h1
    have e5 : ∀ x, x < f 1 1 → f1 5 x = s0 x := fun x hx2 => by rw [h5 x hx2, hdg x hx2]
    rw [up 54 (by decide), m1] at y1
    have ek : k2 = kk ∧ d2 = dd := by omega
    obtain ⟨ek, ed⟩ := ek
    subst ek
    subst ed
    rw [up 54 (by decide), a1] at z5
    rw [up 68 (by decide), up 69 (by decide)] at y3
    rw [up 54 (by decide), a1, up 65 (by decide)] at y4
    rw [up 54 (by decide), a1] at y5
    rw [up 54 (by decide)] at z6
    have cn : ∀ k, k ≠ 3 → k ≠ 5 → k ≠ 21 → k ≠ 45 → k ≠ 52 → k ≠ 53 → ¬ (39 ≤ k ∧ k < 45) → k ≠ 54 → k ≠ 65 → k ≠ 66 → k ≠ 67 → k ≠ 68 → k ≠ 69 → k ≠ 74 → f2 k = f k := fun k q1 q2 q3 q4 q5 q6 q7 q8 q9 q10 q11 q12 q13 q14 => by rw [z7 k q8 q9 q10 q11 q12 q13 q14, hc1 k q1 q2 q3 q4 q5 q6 q7]
    have dn : ∀ k, k < 54 → f2 k = f1 k := fun k hk => z7 k (by omega) (by omega) (by omega) (by omega) (by omega) (by omega) (by omega)
    have cm : ∀ k, (k = 1 ∨ k = 4 ∨ k = 6 ∨ k = 7 ∨ (47 ≤ k ∧ k ≤ 51) ∨ k = 70 ∨ k = 71 ∨ k = 72 ∨ k = 73 ∨ ag_fix k) → f2 k = f k := fun k hk => cn k (by unfold ag_fix at hk; omega) (by unfold ag_fix at hk; omega) (by unfold ag_fix at hk; omega) (by unfold ag_fix at hk; omega) (by unfold ag_fix at hk; omega) (by unfold ag_fix at hk; omega) (by unfold ag_fix at hk; omega) (by unfold ag_fix at hk; omega) (by unfold ag_fix at hk; omega) (by unfold ag_fix at hk; omega) (by unfold ag_fix at hk; omega) (by unfold ag_fix at hk; omega) (by unfold ag_fix at hk; omega) (by unfold ag_fix at hk; omega)
    refine ⟨?_, ag_bld hi (cm 1 (by omega)) ⟨z6 0 (by decide) (by decide), z6 1 (by decide) (by decide), z6 12 (by decide) (by decide)⟩ (fun k hk => cm k (by unfold ag_fix at hk ⊢; omega)) (fun x hx2 => ?_) (fun x => by rw [cm 73 (by omega), cm 7 (by omega)]; exact h7 x) (kp_push (kk := k2) (dd := d2) (P := f 5) hk1 hn (by omega) (by rw [dn 3 (by decide)]; exact x2) y2 (fun i h => ⟨fun t ht => by rw [dn (39 + i) (by omega)]; exact (x3 i h).1 t ht, by rw [dn 45 (by decide)]; exact (x3 i h).2⟩) y3 (fun t ht => ⟨by rw [dn (39 + k2) (by omega)]; exact x4 t (by omega), by rw [y4 t ht]; exact (hx t ht).2.2.2.2.2.2.1, (ok.2.2.2.1 t ht).2.2.2.2.1⟩) ⟨by rw [dn 45 (by decide)]; exact x5, y5⟩) (kp_cells (Nat.le_refl _) (z6 19 (by decide) (by decide)) (by rw [cm 4 (by omega)]) (cm 51 (by omega)) (fun k hk => cm (47 + k) (by omega)) (cm 71 (by omega)) (cm 70 (by omega)) hk2)⟩
    · rw [e1, z4, tr_mv he]
      exact congrArg nI (ds_cnt_congr _ (fun x hx2 => by rw [e5 x hx2]))
    · have q := ok.2.2.2.1 x hx2
      have p := hx x hx2
      rw [dn 5 (by decide), e5 x hx2, z5 x hx2, cm 6 (by omega), cm 72 (by omega)]
      exact ⟨v0 x hx2, rfl, q.2.2.2.2.2, p.2.2.2.2.2.2.2⟩
theorem L_vehicleOf {f f1 f2 : Nat → Nat → Nat} {x : Int32} {r r2 : Int32} (hi : ag_I f) (h1 : (if ds_in x (f 1 1) then r = nI (f 5 x.toNatClampNeg) else r = (-1)) ∧ f1 = f) (h2 : (if ds_in x (f1 54 1) then r2 = nI (f1 65 x.toNatClampNeg) else r2 = (-1)) ∧ f2 = f1) : r = r2 ∧ ag_I f2 := by
  have raw := ag_raw_of hi.1
  have ok := hi.1.1
  obtain ⟨⟨a0, a1, a2⟩, hx, hv, hw⟩ := raw
  obtain ⟨h1, e1⟩ := h1
  obtain ⟨h2, e2⟩ := h2
  subst e1
  subst e2
  rw [a1] at h2
  refine ⟨?_, hi⟩
  by_cases hc : ds_in x (f2 1 1)
  · rw [if_pos hc] at h1 h2
    rw [h1, h2, (hx _ (ds_in_nI hc).2).2.2.2.2.2.2.1]
  · rw [if_neg hc] at h1 h2
    rw [h1, h2]
theorem L_place {f f1 f2 : Nat → Nat → Nat} {x : Int32} {r r2 : Int32} (hi : ag_I f) (h1 : (if ds_in x (f 1 1) ∧ f 5 x.toNatClampNeg < f 1 0 then r = ds_pos x.toNatClampNeg (ds_rd f (fun z => Nat.testBit (ds_bits (fun s => f 5 s == (f 5 x.toNatClampNeg)) (f 1 1)) z) (f 5 x.toNatClampNeg)) 0 else r = (-1)) ∧ ∃ h : Nat → Nat, f1 = dw_su f 21 h) (h2 : (if ds_in x (f1 54 1) ∧ ¬ f1 65 x.toNatClampNeg = f1 54 0 then r2 = ds_pos x.toNatClampNeg (ds_rd (md_v f1 (ag_rw f)) (fun zz => f1 65 zz == f1 65 x.toNatClampNeg) (f1 65 x.toNatClampNeg)) 0 else r2 = (-1)) ∧ ∃ (h : Nat → Nat) (z : Nat), f2 = md_r f1 h z) : r = r2 ∧ ag_I f2 := by
  have raw := ag_raw_of hi.1
  have ok := hi.1.1
  obtain ⟨⟨a0, a1, a2⟩, hx, hv, hw⟩ := raw
  obtain ⟨h1, g1, eA⟩ := h1
  obtain ⟨h2, g2, z2, eB⟩ := h2
  rw [eA] at eB
  refine ⟨?_, by rw [eB]; exact ag_I_congr ag_same_r hi⟩
  have up : ∀ k, 54 ≤ k → f1 k = f k := fun k hk => by rw [eA, dw_su_ne (by omega)]
  rw [ag_up up] at h2
  rw [up 54 (by decide), up 65 (by decide), a1, a0] at h2
  by_cases hc : ds_in x (f 1 1)
  · have xl := (ds_in_nI hc).2
    have e65 := (hx _ xl).2.2.2.2.2.2.1
    have b5 := (ok.2.2.2.1 _ xl).2.2.2.2.1
    rw [e65] at h2
    by_cases hd : f 5 x.toNatClampNeg < f 1 0
    · rw [if_pos ⟨hc, hd⟩] at h1
      rw [if_pos ⟨hc, by omega⟩, ag_rdv hi.1 hd] at h2
      rw [h1, h2]
    · rw [if_neg (fun q => hd q.2)] at h1
      rw [if_neg (fun q => q.2 (by omega))] at h2
      rw [h1, h2]
  · rw [if_neg (fun q => hc q.1)] at h1 h2
    rw [h1, h2]
theorem L_moved {f f1 f2 : Nat → Nat → Nat} {k : Int32} {r r2 : Int32} (hi : ag_I f) (h1 : r = ds_find (fun s => (ds_bits (fun s => f 5 s != f 10 s) (f 1 1)).testBit s) k 8 0 0 ∧ f1 = f) (h2 : r2 = ds_find (fun x => f1 65 x != f1 57 x) k (f1 54 1) 0 0 ∧ f2 = f1) : r = r2 ∧ ag_I f2 := by
  obtain ⟨e1, e2⟩ := h1
  obtain ⟨e3, e4⟩ := h2
  subst e2
  subst e4
  exact ⟨by rw [e1, e3]; exact ag_moved hi.1 k, hi⟩
theorem L_carried {f f1 f2 : Nat → Nat → Nat} {k : Int32} {r r2 : Int32} (hi : ag_I f) (h1 : r = ds_find (fun s => (ds_bits (fun s => f 5 s == f 1 0) (f 1 1)).testBit s) k 8 0 0 ∧ f1 = f) (h2 : r2 = ds_find (fun x => f1 65 x == f1 54 0) k (f1 54 1) 0 0 ∧ f2 = f1) : r = r2 ∧ ag_I f2 := by
  obtain ⟨e1, e2⟩ := h1
  obtain ⟨e3, e4⟩ := h2
  subst e2
  subst e4
  exact ⟨by rw [e1, e3]; exact ag_carried hi.1 k, hi⟩
theorem L_send {f f1 f2 : Nat → Nat → Nat}  {r r2 : Int32} (hi : ag_I f) (h1 : r = nI (ds_cnt (fun x => f 5 x != f 6 x) (f 1 1)) ∧ (∀ x, f1 6 x = (if x < f 1 1 then f 5 x else f 6 x) ∧ f1 7 x = (if x < f 1 1 ∧ f 5 x ≠ f 6 x then f 7 x + 1 else f 7 x)) ∧ ∀ k, k ≠ 6 → k ≠ 7 → f1 k = f k) (h2 : r2 = nI (ds_cnt (fun x => f1 65 x != f1 72 x) (f1 54 1)) ∧ (∀ x, f2 72 x = (if x < f1 54 1 then f1 65 x else f1 72 x) ∧ f2 73 x = (if x < f1 54 1 ∧ f1 65 x ≠ f1 72 x then f1 73 x + 1 else f1 73 x)) ∧ ∀ k, k ≠ 72 → k ≠ 73 → f2 k = f1 k) : r = r2 ∧ ag_I f2 := by
  have raw := ag_raw_of hi.1
  have ok := hi.1.1
  obtain ⟨⟨a0, a1, a2⟩, hx, hv, hw⟩ := raw
  obtain ⟨e1, h6, hc⟩ := h1
  obtain ⟨e2, h72, hd⟩ := h2
  have g : ∀ k, 54 ≤ k → f1 k = f k := fun k hk => hc k (by omega) (by omega)
  rw [g 65 (by decide), g 72 (by decide), g 54 (by decide), a1] at e2
  rw [g 65 (by decide), g 72 (by decide), g 73 (by decide), g 54 (by decide), a1] at h72
  obtain ⟨-, -, h7, hk1, hk2⟩ := hi.1
  have cn : ∀ k, k ≠ 6 → k ≠ 7 → k ≠ 72 → k ≠ 73 → f2 k = f k := fun k q1 q2 q3 q4 => by rw [hd k q3 q4, hc k q1 q2]
  have hn := ok.2.1
  refine ⟨?_, ag_bld hi (cn 1 (by decide) (by decide) (by decide) (by decide)) (by rw [cn 54 (by decide) (by decide) (by decide) (by decide)]; exact ⟨rfl, rfl, rfl⟩) (fun k hk => cn k (by unfold ag_fix at hk; omega) (by unfold ag_fix at hk; omega) (by unfold ag_fix at hk; omega) (by unfold ag_fix at hk; omega)) (fun x hx2 => ?_) (fun x => ?_) (kp_cells (Nat.le_refl _) (by rw [cn 54 (by decide) (by decide) (by decide) (by decide)]) (by rw [cn 3 (by decide) (by decide) (by decide) (by decide)]) (cn 45 (by decide) (by decide) (by decide) (by decide)) (fun k hk => cn (39 + k) (by omega) (by omega) (by omega) (by omega)) (cn 69 (by decide) (by decide) (by decide) (by decide)) (cn 68 (by decide) (by decide) (by decide) (by decide)) hk1) (kp_cells (Nat.le_refl _) (by rw [cn 54 (by decide) (by decide) (by decide) (by decide)]) (by rw [cn 4 (by decide) (by decide) (by decide) (by decide)]) (cn 51 (by decide) (by decide) (by decide) (by decide)) (fun k hk => cn (47 + k) (by omega) (by omega) (by omega) (by omega)) (cn 71 (by decide) (by decide) (by decide) (by decide)) (cn 70 (by decide) (by decide) (by decide) (by decide)) hk2)⟩
  · rw [e1, e2]
    exact congrArg nI (ds_cnt_congr _ (fun x h => by rw [(hx x h).2.2.2.2.2.2.1, (hx x h).2.2.2.2.2.2.2]))
  · have q := ok.2.2.2.1 x hx2
    have e65 := (hx x hx2).2.2.2.2.2.2.1
    rw [cn 5 (by decide) (by decide) (by decide) (by decide), cn 65 (by decide) (by decide) (by decide) (by decide), (h72 x).1, if_pos hx2, hd 6 (by decide) (by decide), (h6 x).1, if_pos hx2]
    exact ⟨q.2.2.2.2.1, e65, q.2.2.2.2.1, e65⟩
  · rw [(h72 x).2, hd 7 (by decide) (by decide), (h6 x).2, h7 x]
    by_cases h : x < f 1 1
    · rw [(hx x h).2.2.2.2.2.2.1, (hx x h).2.2.2.2.2.2.2]
    · rw [if_neg (fun q => h q.1), if_neg (fun q => h q.1)]
theorem L_sent {f f1 f2 : Nat → Nat → Nat} {x : Int32} {r r2 : Int32} (hi : ag_I f) (h1 : (if ds_in x (f 1 1) then r = nI (f 7 x.toNatClampNeg) else r = (-1)) ∧ f1 = f) (h2 : (if ds_in x (f1 54 1) then r2 = nI (f1 73 x.toNatClampNeg) else r2 = (-1)) ∧ f2 = f1) : r = r2 ∧ ag_I f2 := by
  have raw := ag_raw_of hi.1
  have ok := hi.1.1
  obtain ⟨⟨a0, a1, a2⟩, hx, hv, hw⟩ := raw
  obtain ⟨h1, e1⟩ := h1
  obtain ⟨h2, e2⟩ := h2
  subst e1
  subst e2
  rw [a1] at h2
  refine ⟨?_, hi⟩
  by_cases hc : ds_in x (f2 1 1)
  · rw [if_pos hc] at h1 h2
    rw [h1, h2, hi.1.2.2.1 _]
  · rw [if_neg hc] at h1 h2
    rw [h1, h2]
theorem L_undo {f f1 f2 : Nat → Nat → Nat}  {r r2 : Int32} (hi : ag_I f) (h1 : if f 3 2 = 0 then r = nI 0 ∧ f1 = f else r = nI 1 ∧ f1 3 2 = f 3 2 - 1 ∧ (∀ x, x < f 1 1 → f1 5 x = if x < f 45 (f 3 2 - 1) then f (39 + (f 3 2 - 1)) x else f 10 x) ∧ ∀ k, k ≠ 3 → k ≠ 5 → f1 k = f k) (h2 : if f1 54 16 = 0 then r2 = nI 0 ∧ f2 = f1 else r2 = nI 1 ∧ f2 54 16 = f1 54 16 - 1 ∧ (∀ x, x < f1 54 1 → f2 65 x = if x < f1 69 (f1 54 16 - 1) then f1 68 (8 * (f1 54 16 - 1) + x) else f1 57 x) ∧ (∀ j, j ≠ 16 → f2 54 j = f1 54 j) ∧ ∀ k, k ≠ 54 → k ≠ 65 → f2 k = f1 k) : r = r2 ∧ ag_I f2 := by
  have raw := ag_raw_of hi.1
  have ok := hi.1.1
  obtain ⟨⟨a0, a1, a2⟩, hx, hv, hw⟩ := raw
  obtain ⟨-, -, h7, hk1, hk2⟩ := hi.1
  obtain ⟨m1, m2, m3⟩ := hk1
  by_cases hc : f 3 2 = 0
  · rw [if_pos hc] at h1
    obtain ⟨e1, e2⟩ := h1
    subst e2
    rw [m1, if_pos hc] at h2
    obtain ⟨e3, e4⟩ := h2
    subst e4
    exact ⟨by rw [e1, e3], hi⟩
  · rw [if_neg hc] at h1
    obtain ⟨e1, e2, h5, hc1⟩ := h1
    have g : ∀ k, 54 ≤ k → f1 k = f k := fun k hk => hc1 k (by omega) (by omega)
    rw [g 54 (by decide), g 57 (by decide), g 68 (by decide), g 69 (by decide), m1, a1, if_neg hc] at h2
    obtain ⟨e3, e4, h65, hj, hd⟩ := h2
    have cn : ∀ k, k ≠ 3 → k ≠ 5 → k ≠ 54 → k ≠ 65 → f2 k = f k := fun k q1 q2 q3 q4 => by rw [hd k q3 q4, hc1 k q1 q2]
    have hn := ok.2.1
    obtain ⟨z1, z2, z3⟩ := m3 (f 3 2 - 1) (by omega)
    refine ⟨by rw [e1, e3], ag_bld hi (cn 1 (by decide) (by decide) (by decide) (by decide)) ⟨hj 0 (by decide), hj 1 (by decide), hj 12 (by decide)⟩ (fun k hk => cn k (by unfold ag_fix at hk; omega) (by unfold ag_fix at hk; omega) (by unfold ag_fix at hk; omega) (by unfold ag_fix at hk; omega)) (fun x hx2 => ?_) (fun x => by rw [cn 73 (by decide) (by decide) (by decide) (by decide), cn 7 (by decide) (by decide) (by decide) (by decide)]; exact h7 x) (kp_pop ⟨m1, m2, m3⟩ (by rw [hd 3 (by decide) (by decide)]; exact e2) (by rw [m1]; exact e4) (cn 45 (by decide) (by decide) (by decide) (by decide)) (fun k hk => cn (39 + k) (by omega) (by omega) (by omega) (by omega)) (cn 69 (by decide) (by decide) (by decide) (by decide)) (cn 68 (by decide) (by decide) (by decide) (by decide))) (kp_cells (Nat.le_refl _) (hj 19 (by decide)) (by rw [cn 4 (by decide) (by decide) (by decide) (by decide)]) (cn 51 (by decide) (by decide) (by decide) (by decide)) (fun k hk => cn (47 + k) (by omega) (by omega) (by omega) (by omega)) (cn 71 (by decide) (by decide) (by decide) (by decide)) (cn 70 (by decide) (by decide) (by decide) (by decide)) hk2)⟩
    have q := ok.2.2.2.1 x hx2
    have p := hx x hx2
    have rr := ok.2.2.2.2.2.2.2.2 x hx2
    rw [hd 5 (by decide) (by decide), h5 x hx2, h65 x hx2, cn 6 (by decide) (by decide) (by decide) (by decide), cn 72 (by decide) (by decide) (by decide) (by decide), z1]
    by_cases hl : x < f 45 (f 3 2 - 1)
    · rw [if_pos hl, if_pos hl]
      exact ⟨(z3 x hl).2, (z3 x hl).1, q.2.2.2.2.2, p.2.2.2.2.2.2.2⟩
    · rw [if_neg hl, if_neg hl]
      exact ⟨by omega, p.2.2.1, q.2.2.2.2.2, p.2.2.2.2.2.2.2⟩
theorem L_copy {f f1 f2 : Nat → Nat → Nat}  {r r2 : Int32} (hi : ag_I f) (h1 : if f 4 2 < 4 then r = nI (f 4 2) ∧ f1 4 2 = f 4 2 + 1 ∧ (∀ j, j < f 4 2 → (∀ t, t < 8 → f1 (47 + j) t = f (47 + j) t) ∧ f1 51 j = f 51 j) ∧ (∀ t, t < 8 → f1 (47 + f 4 2) t = f 5 t) ∧ f1 51 (f 4 2) = f 1 1 ∧ (∀ k, k ≠ 4 → k ≠ 51 → ¬ (47 ≤ k ∧ k < 51) → f1 k = f k) else r = (-1) ∧ f1 = f) (h2 : if f1 54 19 < 4 then r2 = nI (f1 54 19) ∧ f2 54 19 = f1 54 19 + 1 ∧ (∀ j, j < f1 54 19 → (∀ t, t < 8 → f2 70 (8 * j + t) = f1 70 (8 * j + t)) ∧ f2 71 j = f1 71 j) ∧ (∀ t, t < f1 54 1 → f2 70 (8 * f1 54 19 + t) = f1 65 t) ∧ f2 71 (f1 54 19) = f1 54 1 ∧ (∀ j, j ≠ 19 → f2 54 j = f1 54 j) ∧ (∀ k, k ≠ 54 → k ≠ 70 → k ≠ 71 → f2 k = f1 k) else r2 = (-1) ∧ f2 = f1) : r = r2 ∧ ag_I f2 := by
  have raw := ag_raw_of hi.1
  have ok := hi.1.1
  obtain ⟨⟨a0, a1, a2⟩, hx, hv, hw⟩ := raw
  obtain ⟨-, -, h7, hk1, hk2⟩ := hi.1
  have hk3 := hk2
  obtain ⟨m1, m2, m3⟩ := hk3
  by_cases hc : f 4 2 < 4
  · rw [if_pos hc] at h1
    obtain ⟨e1, e2, h5, hn5, hs5, hc1⟩ := h1
    have g : ∀ k, 54 ≤ k → f1 k = f k := fun k hk => hc1 k (by omega) (by omega) (by omega)
    rw [g 54 (by decide), g 65 (by decide), g 70 (by decide), g 71 (by decide), m1, a1, if_pos hc] at h2
    obtain ⟨e3, e4, h6, hn6, hs6, hj, hd⟩ := h2
    have cn : ∀ k, k ≠ 4 → k ≠ 51 → ¬ (47 ≤ k ∧ k < 51) → k ≠ 54 → k ≠ 70 → k ≠ 71 → f2 k = f k := fun k q1 q2 q3 q4 q5 q6 => by rw [hd k q4 q5 q6, hc1 k q1 q2 q3]
    have hn := ok.2.1
    refine ⟨by rw [e1, e3], ag_bld hi (cn 1 (by decide) (by decide) (by decide) (by decide) (by decide) (by decide)) ⟨hj 0 (by decide), hj 1 (by decide), hj 12 (by decide)⟩ (fun k hk => cn k (by unfold ag_fix at hk; omega) (by unfold ag_fix at hk; omega) (by unfold ag_fix at hk; omega) (by unfold ag_fix at hk; omega) (by unfold ag_fix at hk; omega) (by unfold ag_fix at hk; omega)) (fun x hx2 => ?_) (fun x => by rw [cn 73 (by decide) (by decide) (by decide) (by decide) (by decide) (by decide), cn 7 (by decide) (by decide) (by decide) (by decide) (by decide) (by decide)]; exact h7 x) (kp_cells (Nat.le_refl _) (hj 16 (by decide)) (by rw [cn 3 (by decide) (by decide) (by decide) (by decide) (by decide) (by decide)]) (cn 45 (by decide) (by decide) (by decide) (by decide) (by decide) (by decide)) (fun k hk => cn (39 + k) (by omega) (by omega) (by omega) (by omega) (by omega) (by omega)) (cn 69 (by decide) (by decide) (by decide) (by decide) (by decide) (by decide)) (cn 68 (by decide) (by decide) (by decide) (by decide) (by decide) (by decide)) hk1) (kp_push (kk := f 4 2) (dd := 0) (P := f 5) hk2 hn (by omega) (by rw [hd 4 (by decide) (by decide) (by decide)]; exact e2) e4 (fun i h => ⟨fun t ht => by rw [hd (47 + i) (by omega) (by omega) (by omega)]; exact (h5 i h).1 t ht, by rw [hd 51 (by decide) (by decide) (by decide)]; exact (h5 i h).2⟩) (fun i h => h6 i h) (fun t ht => ⟨by rw [hd (47 + f 4 2) (by omega) (by omega) (by omega)]; exact hn5 t (by omega), by rw [hn6 t ht]; exact (hx t ht).2.2.2.2.2.2.1, (ok.2.2.2.1 t ht).2.2.2.2.1⟩) ⟨by rw [hd 51 (by decide) (by decide) (by decide)]; exact hs5, hs6⟩)⟩
    have q := ok.2.2.2.1 x hx2
    have p := hx x hx2
    rw [cn 5 (by decide) (by decide) (by decide) (by decide) (by decide) (by decide), cn 65 (by decide) (by decide) (by decide) (by decide) (by decide) (by decide), cn 6 (by decide) (by decide) (by decide) (by decide) (by decide) (by decide), cn 72 (by decide) (by decide) (by decide) (by decide) (by decide) (by decide)]
    exact ⟨q.2.2.2.2.1, p.2.2.2.2.2.2.1, q.2.2.2.2.2, p.2.2.2.2.2.2.2⟩
  · rw [if_neg hc] at h1
    obtain ⟨e1, e2⟩ := h1
    subst e2
    rw [m1, if_neg hc] at h2
    obtain ⟨e3, e4⟩ := h2
    subst e4
    exact ⟨by rw [e1, e3], hi⟩
theorem L_compare {f f1 f2 : Nat → Nat → Nat} {x : Int32} {k : Int32} {r r2 : Int32} (hi : ag_I f) (h1 : (if ds_in x (f 4 2) then r = ds_find (fun s => (ds_bits (fun s => f (47 + x.toNatClampNeg) s != f 5 s) (f 51 x.toNatClampNeg)).testBit s) k 8 0 0 else r = (-1)) ∧ f1 = f) (h2 : (if ds_in x (f1 54 19) then r2 = ds_find (fun s => f1 70 (8 * x.toNatClampNeg + s) != f1 65 s) k (f1 71 x.toNatClampNeg) 0 0 else r2 = (-1)) ∧ f2 = f1) : r = r2 ∧ ag_I f2 := by
  have raw := ag_raw_of hi.1
  have ok := hi.1.1
  obtain ⟨⟨a0, a1, a2⟩, hx, hv, hw⟩ := raw
  obtain ⟨h1, e1⟩ := h1
  obtain ⟨h2, e2⟩ := h2
  subst e1
  subst e2
  obtain ⟨k1, k2, k3⟩ := hi.1.2.2.2.2
  rw [k1] at h2
  refine ⟨?_, hi⟩
  by_cases hc : ds_in x (f2 4 2)
  · rw [if_pos hc] at h1 h2
    obtain ⟨m1, m2, m3⟩ := k3 _ (ds_in_nI hc).2
    have hn := ok.2.1
    rw [h1, h2, m1]
    exact ag_find (by omega) (fun s hs => by
      obtain ⟨n1, n2⟩ := m3 s hs
      rw [n1, (hx s (by omega)).2.2.2.2.2.2.1])
  · rw [if_neg hc] at h1 h2
    rw [h1, h2]
theorem L_cost {f f1 f2 : Nat → Nat → Nat}  {r r2 : Int64} (hi : ag_I f) (h1 : r = lN (ds_cost f (f 1 0)) ∧ ∃ h : Nat → Nat, f1 = dw_su f 21 h) (h2 : r2 = lN (ds_cst (md_v f1 (ag_rw f)) (f1 65) (f1 54 0)) ∧ ∃ (h : Nat → Nat) (z : Nat), f2 = md_r f1 h z) : r = r2 ∧ ag_I f2 := by
  have raw := ag_raw_of hi.1
  have ok := hi.1.1
  obtain ⟨⟨a0, a1, a2⟩, hx, hv, hw⟩ := raw
  obtain ⟨h1, g1, eA⟩ := h1
  obtain ⟨h2, g2, z2, eB⟩ := h2
  rw [eA] at eB
  refine ⟨?_, by rw [eB]; exact ag_I_congr ag_same_r hi⟩
  have up : ∀ k, 54 ≤ k → f1 k = f k := fun k hk => by rw [eA, dw_su_ne (by omega)]
  rw [ag_up up] at h2
  rw [up 54 (by decide), up 65 (by decide), a0, ag_cost hi.1 _ (Nat.le_refl _)] at h2
  rw [h1, h2]
theorem L_overtime {f f1 f2 : Nat → Nat → Nat} {x : Int32} {r r2 : Int32} (hi : ag_I f) (h1 : (if ds_in x (f 1 0) then r = nI (ds_tm f (fun z => Nat.testBit (ds_bits (fun s => f 5 s == x.toNatClampNeg) (f 1 1)) z) x.toNatClampNeg - f 19 x.toNatClampNeg) else r = (-1)) ∧ ∃ h : Nat → Nat, f1 = dw_su f 21 h) (h2 : (if ds_in x (f1 54 0) then r2 = nI (ds_tm (md_v f1 (ag_rw f)) (fun zz => f1 65 zz == x.toNatClampNeg) x.toNatClampNeg - f1 63 x.toNatClampNeg) else r2 = (-1)) ∧ ∃ (h : Nat → Nat) (z : Nat), f2 = md_r f1 h z) : r = r2 ∧ ag_I f2 := by
  have raw := ag_raw_of hi.1
  have ok := hi.1.1
  obtain ⟨⟨a0, a1, a2⟩, hx, hv, hw⟩ := raw
  obtain ⟨h1, g1, eA⟩ := h1
  obtain ⟨h2, g2, z2, eB⟩ := h2
  rw [eA] at eB
  refine ⟨?_, by rw [eB]; exact ag_I_congr ag_same_r hi⟩
  have up : ∀ k, 54 ≤ k → f1 k = f k := fun k hk => by rw [eA, dw_su_ne (by omega)]
  rw [ag_up up] at h2
  rw [up 54 (by decide), up 65 (by decide), up 63 (by decide), a0] at h2
  by_cases hc : ds_in x (f 1 0)
  · have xl := (ds_in_nI hc).2
    rw [if_pos hc] at h1
    rw [if_pos hc, ag_tmv hi.1 xl, (hv _ xl).2.2] at h2
    rw [h1, h2]
  · rw [if_neg hc] at h1 h2
    rw [h1, h2]
theorem L_next {f f1 f2 : Nat → Nat → Nat}  {r r2 : Int32} (hi : ag_I f) (h1 : r = nI (ds_cnt (fun x => f 5 x == f 1 0) (f 1 1)) ∧ (∀ v, v < f 1 0 → f1 15 v = (ds_nl f v).length ∧ f1 18 v = 8 ∧ ∀ r, r < (ds_nl f v).length → f1 (22 + v) r = (ds_nl f v).getD r 0 ∧ f1 10 ((ds_nl f v).getD r 0) = v ∧ f1 11 ((ds_nl f v).getD r 0) = r) ∧ (∀ x, x < f 1 1 → f1 12 x = 0 ∧ f1 13 x = 0 ∧ f1 5 x = f1 10 x) ∧ (∀ x, f 1 1 ≤ x → f1 12 x = f 12 x ∧ f1 13 x = f 13 x) ∧ f1 3 2 = 0 ∧ f1 4 2 = 0 ∧ ∀ k, k ≠ 3 → k ≠ 4 → k ≠ 5 → k ≠ 10 → k ≠ 11 → k ≠ 12 → k ≠ 13 → k ≠ 15 → k ≠ 17 → k ≠ 18 → ¬ (22 ≤ k ∧ k < 28) → f1 k = f k) (h2 : r2 = nI (ds_cnt (fun x => f1 65 x == f1 54 0) (f1 54 1)) ∧ (∀ w, w < f1 54 0 → ∀ r2, r2 < (md_nl (md_v f1 (ag_rw f)) w).length → f2 57 ((md_nl (md_v f1 (ag_rw f)) w).getD r2 0) = w ∧ f2 58 ((md_nl (md_v f1 (ag_rw f)) w).getD r2 0) = r2) ∧ (∀ x, x < f1 54 1 → f2 65 x = f2 57 x ∧ f2 60 x = 0 ∧ f2 61 x = 0 ∧ f2 57 x < f1 54 0) ∧ (∀ x, f1 54 1 ≤ x → f2 60 x = f1 60 x ∧ f2 61 x = f1 61 x) ∧ (∀ w, w < 3 → f2 59 w = ds_cnt (fun x => f2 57 x == w) (f1 54 1) ∧ f2 62 w = 8) ∧ f2 54 16 = 0 ∧ f2 54 19 = 0 ∧ (∀ j, j ≠ 16 → j ≠ 19 → j ≠ 25 → f2 54 j = f1 54 j) ∧ ∀ k, k ≠ 54 → k ≠ 57 → k ≠ 58 → k ≠ 59 → k ≠ 60 → k ≠ 61 → k ≠ 62 → k ≠ 65 → k ≠ 74 → k ≠ 75 → k ≠ 76 → f2 k = f1 k) : r = r2 ∧ ag_I f2 := by
  have raw := ag_raw_of hi.1
  have ok := hi.1.1
  obtain ⟨⟨a0, a1, a2⟩, hx, hv, hw⟩ := raw
  obtain ⟨-, he, h7, hk1, hk2⟩ := hi.1
  obtain ⟨hV, hn, hex, hst, hve, hwy, hw0, hrw⟩ := ok
  obtain ⟨e1, hL, h5, hYa, s3, s4, hc⟩ := h1
  have up : ∀ k, 54 ≤ k → f1 k = f k := fun k hk => hc k (by omega) (by omega) (by omega) (by omega) (by omega) (by omega) (by omega) (by omega) (by omega) (by omega) (by omega)
  rw [ag_up up, up 54 (by decide), up 65 (by decide), up 60 (by decide), up 61 (by decide), a0, a1] at h2
  obtain ⟨e2, hM, h6, hYb, hZ, s5, s6, hj, hd⟩ := h2
  have dn : ∀ k, k < 54 → f2 k = f1 k := fun k hk => hd k (by omega) (by omega) (by omega) (by omega) (by omega) (by omega) (by omega) (by omega) (by omega) (by omega) (by omega)
  have cl : ∀ k, k < 54 → k ≠ 3 → k ≠ 4 → k ≠ 5 → k ≠ 10 → k ≠ 11 → k ≠ 12 → k ≠ 13 → k ≠ 15 → k ≠ 17 → k ≠ 18 → ¬ (22 ≤ k ∧ k < 28) → f2 k = f k := fun k k0 k1 k2 k3 k4 k5 k6 k7 k8 k9 k10 k11 => by rw [dn k k0]; exact hc k k1 k2 k3 k4 k5 k6 k7 k8 k9 k10 k11
  have cu : ∀ k, (k = 55 ∨ k = 56 ∨ k = 63 ∨ k = 64 ∨ k = 72 ∨ k = 73) → f2 k = f k := fun k hk => by rw [hd k (by omega) (by omega) (by omega) (by omega) (by omega) (by omega) (by omega) (by omega) (by omega) (by omega) (by omega), up k (by omega)]
  have c1 : f2 1 = f 1 := cl 1 (by decide) (by decide) (by decide) (by decide) (by decide) (by decide) (by decide) (by decide) (by decide) (by decide) (by decide) (by decide)
  have c6 : f2 6 = f 6 := cl 6 (by decide) (by decide) (by decide) (by decide) (by decide) (by decide) (by decide) (by decide) (by decide) (by decide) (by decide) (by decide)
  have c7 : f2 7 = f 7 := cl 7 (by decide) (by decide) (by decide) (by decide) (by decide) (by decide) (by decide) (by decide) (by decide) (by decide) (by decide) (by decide)
  have c8 : f2 8 = f 8 := cl 8 (by decide) (by decide) (by decide) (by decide) (by decide) (by decide) (by decide) (by decide) (by decide) (by decide) (by decide) (by decide)
  have c9 : f2 9 = f 9 := cl 9 (by decide) (by decide) (by decide) (by decide) (by decide) (by decide) (by decide) (by decide) (by decide) (by decide) (by decide) (by decide)
  have c19 : f2 19 = f 19 := cl 19 (by decide) (by decide) (by decide) (by decide) (by decide) (by decide) (by decide) (by decide) (by decide) (by decide) (by decide) (by decide)
  have cw : ∀ i, i < 10 → f2 (28 + i) = f (28 + i) := fun i h => cl (28 + i) (by omega) (by omega) (by omega) (by omega) (by omega) (by omega) (by omega) (by omega) (by omega) (by omega) (by omega) (by omega)
  have eN : ∀ v, v < f 1 0 → md_nl (md_v f (ag_rw f)) v = ds_nl f v := fun v h => tr_nl he hrw h
  have hM2 : ∀ w, w < f 1 0 → ∀ r2, r2 < (ds_nl f w).length → f2 57 ((ds_nl f w).getD r2 0) = w ∧ f2 58 ((ds_nl f w).getD r2 0) = r2 := fun w h r2 h2 => by
    have q := hM w h r2 (by rw [eN w h]; exact h2)
    rw [eN w h] at q
    exact q
  have hL2 : ∀ v, v < f 1 0 → f2 15 v = (ds_nl f v).length ∧ f2 18 v = 8 ∧ ∀ r, r < (ds_nl f v).length → f2 (22 + v) r = (ds_nl f v).getD r 0 ∧ f2 10 ((ds_nl f v).getD r 0) = v ∧ f2 11 ((ds_nl f v).getD r 0) = r := fun v h => by
    rw [dn 15 (by decide), dn 18 (by decide), dn (22 + v) (by omega), dn 10 (by decide), dn 11 (by decide)]
    exact hL v h
  have mem : ∀ x, x < f 1 1 → ∃ v r, v < f 1 0 ∧ r < (ds_nl f v).length ∧ (ds_nl f v).getD r 0 = x := fun x hx2 => by
    obtain ⟨v, r, q1, q2, q3⟩ := md_nl_mem (F := f) hrw hx2 (hst x hx2).2.2.2.2.1
    rw [md_nl_eq hrw q1] at q2 q3
    exact ⟨v, r, q1, q2, q3⟩
  have key : ∀ x, x < f 1 1 → f2 57 x = f2 10 x ∧ f2 58 x = f2 11 x ∧ f2 10 x < f 1 0 ∧ f2 11 x < (ds_nl f (f2 10 x)).length ∧ f2 (22 + f2 10 x) (f2 11 x) = x := fun x hx2 => by
    obtain ⟨v, r, q1, q2, q3⟩ := mem x hx2
    have p1 := hM2 v q1 r q2
    have p2 := (hL2 v q1).2.2 r q2
    rw [q3] at p1 p2
    rw [p1.1, p1.2, p2.2.1, p2.2.2]
    exact ⟨rfl, rfl, q1, q2, p2.1⟩
  have h52 : ∀ x, x < f 1 1 → f2 12 x = 0 ∧ f2 13 x = 0 ∧ f2 5 x = f2 10 x := fun x hx2 => by
    rw [dn 12 (by decide), dn 13 (by decide), dn 5 (by decide), dn 10 (by decide)]
    exact h5 x hx2
  have len : ∀ v, v < f 1 0 → f2 59 v = (ds_nl f v).length := fun v h => by
    rw [(hZ v (by omega)).1, ← ct_list (n := f 1 1) (ds_nl f v) (ds_nl_nd hrw h) (fun x hx2 => (ds_nl_in hrw h hx2).1)]
    refine ds_cnt_congr _ (fun x hx2 => ?_)
    have k := key x hx2
    rw [k.1, Bool.eq_iff_iff]
    simp only [beq_iff_eq, List.contains_iff_mem]
    constructor
    · intro e
      rw [← e]
      have p := ((hL2 _ k.2.2.1).2.2 _ k.2.2.2.1).1
      rw [k.2.2.2.2] at p
      have m := ds_getD_mem k.2.2.2.1
      rw [← p] at m
      exact m
    · intro m
      obtain ⟨i, hi2, e⟩ := List.getElem_of_mem m
      have p := ((hL2 v h).2.2 i hi2).2.1
      rw [show (ds_nl f v).getD i 0 = x by rw [List.getD_eq_getElem?_getD, List.getElem?_eq_getElem hi2]; exact e] at p
      exact p
  refine ⟨?_, ag_mk ⟨by rw [c1]; exact hV, by rw [c1]; exact hn, by rw [c1]; exact hex, fun z hz => ?_, fun v q => ?_, fun i j q1 q2 => by rw [cw i q1]; exact hwy i j q1 q2, by rw [show f2 28 = f 28 from cw 0 (by decide)]; exact hw0, ⟨fun v r q1 q2 => ?_, fun x q => ?_⟩⟩ ⟨⟨by rw [hj 0 (by decide) (by decide) (by decide), c1]; exact a0, by rw [hj 1 (by decide) (by decide) (by decide), c1]; exact a1, by rw [hj 12 (by decide) (by decide) (by decide), c1]; exact a2⟩, fun z hz => ?_, fun v q => ?_, fun i j q1 q2 => by rw [cu 64 (by omega), cw i q1]; exact hw i j q1 q2⟩ (fun x => by rw [cu 73 (by omega), c7]; exact h7 x) (kp_0 (by rw [dn 3 (by decide)]; exact s3) s5) (kp_0 (by rw [dn 4 (by decide)]; exact s4) s6), fun z hz => ?_⟩
  · rw [e1, e2]
    exact congrArg nI (ds_cnt_congr _ (fun x h => by rw [(hx x h).2.2.2.2.2.2.1]))
  · rw [c1] at hz
    have k := key z hz
    have q := hst z hz
    have p := h52 z hz
    rw [c8, c9, p.1, p.2.1, p.2.2, c6, c1]
    exact ⟨q.1, q.2.1, by decide, by decide, by omega, q.2.2.2.2.2⟩
  · rw [c1] at q
    rw [(hL2 v q).2.1, c19]
    exact ⟨by decide, (hve v q).2⟩
  · rw [c1] at q1
    obtain ⟨p1, p2, p3⟩ := hL2 v q1
    rw [p1] at q2
    obtain ⟨o1, o2, o3⟩ := p3 r q2
    rw [o1, o2, o3, c1]
    exact ⟨(ds_nl_in hrw q1 (ds_getD_mem q2)).1, rfl, rfl⟩
  · rw [c1] at q
    have k := key x q
    rw [c1, (hL2 _ k.2.2.1).1]
    exact k.2.2
  · rw [c1] at hz
    have k := key z hz
    have q := hx z hz
    have p := h52 z hz
    have o := h6 z hz
    rw [cu 55 (by omega), c8, cu 56 (by omega), c9, k.1, k.2.1, o.2.1, p.1, o.2.2.1, p.2.1, o.1, k.1, p.2.2, cu 72 (by omega), c6]
    exact ⟨q.1, q.2.1, rfl, rfl, rfl, rfl, rfl, q.2.2.2.2.2.2.2⟩
  · rw [c1] at q
    rw [len v q, (hL2 v q).1, (hZ v (by omega)).2, (hL2 v q).2.1, cu 63 (by omega), c19]
    exact ⟨rfl, rfl, (hv v q).2.2⟩
  · rw [c1] at hz
    have a := hYa z hz
    have b := hYb z hz
    rw [b.1, b.2, dn 12 (by decide), dn 13 (by decide), a.1, a.2]
    exact hi.2 z hz
