/-! what the contracts want, out of the law's invariant -/
theorem ag_c {f : Nat → Nat → Nat} (hi : ag_I f) : f 3 2 ≤ 6 ∧ (∀ k, k < f 3 2 → f 45 k ≤ 8) ∧ f 4 2 ≤ 4 ∧ (∀ j, j < f 4 2 → f 51 j ≤ 8 ∧ ∀ t, t < f 51 j → f (47 + j) t < 2 ^ 31 ∧ f 5 t < 2 ^ 31) := by
  obtain ⟨⟨ok, -, -, k1, k2⟩, -⟩ := hi
  have hn := ok.2.1
  have hV := ok.1.2
  refine ⟨k1.2.1, fun k hk => ?_, k2.2.1, fun j hj => ⟨?_, fun t ht => ⟨?_, ?_⟩⟩⟩
  · have := (k1.2.2 k hk).2.1
    omega
  · have := (k2.2.2 j hj).2.1
    omega
  · have := ((k2.2.2 j hj).2.2 t ht).2
    omega
  · have := (k2.2.2 j hj).2.1
    have := (ok.2.2.2.1 t (by omega)).2.2.2.2.1
    omega
theorem ag_m {f f1 : Nat → Nat → Nat} (hi : ag_I f) (up : ∀ k, 54 ≤ k → f1 k = f k) : f1 54 0 ≤ 3 ∧ f1 54 1 ≤ 8 ∧ f1 54 16 ≤ 6 ∧ f1 54 19 ≤ 4 ∧ (∀ x, x < f1 54 1 → f1 65 x < 2 ^ 31 ∧ f1 57 x < 2 ^ 31 ∧ f1 72 x < 2 ^ 31) ∧ (∀ k, k < f1 54 16 → f1 69 k ≤ 8) ∧ (∀ j, j < f1 54 19 → f1 71 j ≤ 8 ∧ ∀ t, t < f1 71 j → f1 70 (8 * j + t) < 2 ^ 31 ∧ f1 65 t < 2 ^ 31) := by
  have raw := ag_raw_of hi.1
  have q := ag_c hi
  obtain ⟨⟨ok, -, -, k1, k2⟩, -⟩ := hi
  have hn := ok.2.1
  have hV := ok.1.2
  obtain ⟨⟨a0, a1, a2⟩, hx, hv, hw⟩ := raw
  rw [up 54 (by decide), up 65 (by decide), up 57 (by decide), up 72 (by decide), up 69 (by decide), up 71 (by decide), up 70 (by decide), a0, a1, k1.1, k2.1]
  refine ⟨hV, hn, k1.2.1, k2.2.1, fun x h => ?_, fun k hk => ?_, fun j hj => ?_⟩
  · have e := hx x h
    have o := ok.2.2.2.1 x h
    have w := (ok.2.2.2.2.2.2.2.2 x h).1
    rw [e.2.2.2.2.2.2.1, e.2.2.1, e.2.2.2.2.2.2.2]
    have o5 := o.2.2.2.2.1
    have o6 := o.2.2.2.2.2
    exact ⟨by omega, by omega, by omega⟩
  · rw [(k1.2.2 k hk).1]
    exact q.2.1 k hk
  · rw [(k2.2.2 j hj).1]
    refine ⟨(q.2.2.2 j hj).1, fun t ht => ⟨?_, ?_⟩⟩
    · rw [((k2.2.2 j hj).2.2 t ht).1]
      exact ((q.2.2.2 j hj).2 t ht).1
    · have := (k2.2.2 j hj).2.1
      rw [(hx t (by omega)).2.2.2.2.2.2.1]
      exact ((q.2.2.2 j hj).2 t ht).2
theorem U_stop {f f1 : Nat → Nat → Nat} {x : Int32} {y : Int32} {z : Int32} {r : Int32} (hi : ag_I f) (h1 : if f 1 1 < 8 ∧ ds_in x (f 1 0) ∧ ds_in y 10 ∧ ds_in z 10001 then r = nI (f 1 1) ∧ f1 = ds_stop f x.toNatClampNeg y.toNatClampNeg z.toNatClampNeg else r = (-1) ∧ f1 = f) : ∀ k, 54 ≤ k → f1 k = f k := by
  intro k hk
  split at h1
  · rename_i hc
    rw [h1.2]
    have := (ds_in_nI hc.2.1).2
    have := hi.1.1.1
    exact st_ne (by omega)
  · rw [h1.2]
theorem U_freeze {f f1 : Nat → Nat → Nat} {x : Int32} {y : Nat} {r : Int32} (hi : ag_I f) (h1 : if ds_in x (f 1 1) then r = nI 1 ∧ f1 = dw_w f 12 x.toNatClampNeg y else r = nI 0 ∧ f1 = f) : ∀ k, 54 ≤ k → f1 k = f k := by
  intro k hk
  split at h1
  · rw [h1.2]
    exact dw_w_ne (by omega)
  · rw [h1.2]
theorem U_block {f f1 : Nat → Nat → Nat} {x : Int32} {y : Nat} {r : Int32} (hi : ag_I f) (h1 : if ds_in x (f 1 1) then r = nI 1 ∧ f1 = dw_w f 13 x.toNatClampNeg y else r = nI 0 ∧ f1 = f) : ∀ k, 54 ≤ k → f1 k = f k := by
  intro k hk
  split at h1
  · rw [h1.2]
    exact dw_w_ne (by omega)
  · rw [h1.2]
theorem U_out {f f1 : Nat → Nat → Nat} {x : Int32} {y : Int32} {r : Int32} (hi : ag_I f) (h1 : if ds_in x (f 1 0) ∧ ds_in y 9 then r = nI 1 ∧ f1 = dw_w f 18 x.toNatClampNeg y.toNatClampNeg else r = nI 0 ∧ f1 = f) : ∀ k, 54 ≤ k → f1 k = f k := by
  intro k hk
  split at h1
  · rw [h1.2]
    exact dw_w_ne (by omega)
  · rw [h1.2]
theorem U_way {f f1 : Nat → Nat → Nat} {x : Int32} {y : Int32} {z : Int32} {r : Int32} (hi : ag_I f) (h1 : if ds_in x 10 ∧ ds_in y 10 ∧ ¬ x = y ∧ ds_in z 10001 then r = nI 1 ∧ f1 = dw_w (dw_w f (28 + x.toNatClampNeg) y.toNatClampNeg z.toNatClampNeg) (28 + y.toNatClampNeg) x.toNatClampNeg z.toNatClampNeg else r = nI 0 ∧ f1 = f) : ∀ k, 54 ≤ k → f1 k = f k := by
  intro k hk
  split at h1
  · rename_i hc
    have := (ds_in_nI hc.1).2
    have := (ds_in_nI hc.2.1).2
    rw [h1.2, dw_w_ne (by omega), dw_w_ne (by omega)]
  · rw [h1.2]
theorem U_hours {f f1 : Nat → Nat → Nat} {x : Int32} {y : Int32} {r : Int32} (hi : ag_I f) (h1 : if ds_in x (f 1 0) ∧ ds_in y 100001 then r = nI 1 ∧ f1 = dw_w f 19 x.toNatClampNeg y.toNatClampNeg else r = nI 0 ∧ f1 = f) : ∀ k, 54 ≤ k → f1 k = f k := by
  intro k hk
  split at h1
  · rw [h1.2]
    exact dw_w_ne (by omega)
  · rw [h1.2]
theorem U_extra {f f1 : Nat → Nat → Nat} {x : Int32} {r : Int32} (hi : ag_I f) (h1 : if ds_in x 100001 then r = nI 1 ∧ f1 = dw_w f 1 16 x.toNatClampNeg else r = nI 0 ∧ f1 = f) : ∀ k, 54 ≤ k → f1 k = f k := by
  intro k hk
  split at h1
  · rw [h1.2]
    exact dw_w_ne (by omega)
  · rw [h1.2]
theorem U_run {f f1 : Nat → Nat → Nat}  {r : Int32} (hi : ag_I f) (h1 : if ds_best f < 1152921504606846976 then r = nI (ds_cnt (fun x => f1 5 x != f 10 x) (f 1 1)) ∧ (∀ x, x < f 1 1 → f1 5 x = ds_best f / 2 ^ (2 * (7 - x)) &&& 3) ∧ (∃ kk dd : Nat, ((f 3 2 < 6 ∧ kk = f 3 2 ∧ dd = 0) ∨ (f 3 2 = 6 ∧ kk = 5 ∧ dd = 1)) ∧ f1 3 2 = kk + 1 ∧ (∀ j, j < kk → (∀ t, t < 8 → f1 (39 + j) t = f (39 + (j + dd)) t) ∧ f1 45 j = f 45 (j + dd)) ∧ (∀ t, t < 8 → f1 (39 + kk) t = f 5 t) ∧ f1 45 kk = f 1 1) ∧ (∀ k, k ≠ 3 → k ≠ 5 → k ≠ 21 → k ≠ 45 → k ≠ 52 → k ≠ 53 → ¬ (39 ≤ k ∧ k < 45) → f1 k = f k) else r = ds_why f ∧ ∀ k, k ≠ 21 → k ≠ 52 → k ≠ 53 → f1 k = f k) : ∀ k, 54 ≤ k → f1 k = f k := by
  intro k hk
  split at h1
  · exact h1.2.2.2 k (by omega) (by omega) (by omega) (by omega) (by omega) (by omega) (by omega)
  · exact h1.2 k (by omega) (by omega) (by omega)
theorem U_vehicleOf {f f1 : Nat → Nat → Nat} {x : Int32} {r : Int32} (hi : ag_I f) (h1 : (if ds_in x (f 1 1) then r = nI (f 5 x.toNatClampNeg) else r = (-1)) ∧ f1 = f) : ∀ k, 54 ≤ k → f1 k = f k := by
  intro k hk
  rw [h1.2]
theorem U_place {f f1 : Nat → Nat → Nat} {x : Int32} {r : Int32} (hi : ag_I f) (h1 : (if ds_in x (f 1 1) ∧ f 5 x.toNatClampNeg < f 1 0 then r = ds_pos x.toNatClampNeg (ds_rd f (fun z => Nat.testBit (ds_bits (fun s => f 5 s == (f 5 x.toNatClampNeg)) (f 1 1)) z) (f 5 x.toNatClampNeg)) 0 else r = (-1)) ∧ ∃ h : Nat → Nat, f1 = dw_su f 21 h) : ∀ k, 54 ≤ k → f1 k = f k := by
  intro k hk
  obtain ⟨-, h, e⟩ := h1
  rw [e]
  exact dw_su_ne (by omega)
theorem U_moved {f f1 : Nat → Nat → Nat} {k0 : Int32} {r : Int32} (hi : ag_I f) (h1 : r = ds_find (fun s => (ds_bits (fun s => f 5 s != f 10 s) (f 1 1)).testBit s) k0 8 0 0 ∧ f1 = f) : ∀ k, 54 ≤ k → f1 k = f k := by
  intro k hk
  rw [h1.2]
theorem U_carried {f f1 : Nat → Nat → Nat} {k0 : Int32} {r : Int32} (hi : ag_I f) (h1 : r = ds_find (fun s => (ds_bits (fun s => f 5 s == f 1 0) (f 1 1)).testBit s) k0 8 0 0 ∧ f1 = f) : ∀ k, 54 ≤ k → f1 k = f k := by
  intro k hk
  rw [h1.2]
theorem U_send {f f1 : Nat → Nat → Nat}  {r : Int32} (hi : ag_I f) (h1 : r = nI (ds_cnt (fun x => f 5 x != f 6 x) (f 1 1)) ∧ (∀ x, f1 6 x = (if x < f 1 1 then f 5 x else f 6 x) ∧ f1 7 x = (if x < f 1 1 ∧ f 5 x ≠ f 6 x then f 7 x + 1 else f 7 x)) ∧ ∀ k, k ≠ 6 → k ≠ 7 → f1 k = f k) : ∀ k, 54 ≤ k → f1 k = f k := by
  intro k hk
  exact h1.2.2 k (by omega) (by omega)
theorem U_sent {f f1 : Nat → Nat → Nat} {x : Int32} {r : Int32} (hi : ag_I f) (h1 : (if ds_in x (f 1 1) then r = nI (f 7 x.toNatClampNeg) else r = (-1)) ∧ f1 = f) : ∀ k, 54 ≤ k → f1 k = f k := by
  intro k hk
  rw [h1.2]
theorem U_undo {f f1 : Nat → Nat → Nat}  {r : Int32} (hi : ag_I f) (h1 : if f 3 2 = 0 then r = nI 0 ∧ f1 = f else r = nI 1 ∧ f1 3 2 = f 3 2 - 1 ∧ (∀ x, x < f 1 1 → f1 5 x = if x < f 45 (f 3 2 - 1) then f (39 + (f 3 2 - 1)) x else f 10 x) ∧ ∀ k, k ≠ 3 → k ≠ 5 → f1 k = f k) : ∀ k, 54 ≤ k → f1 k = f k := by
  intro k hk
  split at h1
  · rw [h1.2]
  · exact h1.2.2.2 k (by omega) (by omega)
theorem U_copy {f f1 : Nat → Nat → Nat}  {r : Int32} (hi : ag_I f) (h1 : if f 4 2 < 4 then r = nI (f 4 2) ∧ f1 4 2 = f 4 2 + 1 ∧ (∀ j, j < f 4 2 → (∀ t, t < 8 → f1 (47 + j) t = f (47 + j) t) ∧ f1 51 j = f 51 j) ∧ (∀ t, t < 8 → f1 (47 + f 4 2) t = f 5 t) ∧ f1 51 (f 4 2) = f 1 1 ∧ (∀ k, k ≠ 4 → k ≠ 51 → ¬ (47 ≤ k ∧ k < 51) → f1 k = f k) else r = (-1) ∧ f1 = f) : ∀ k, 54 ≤ k → f1 k = f k := by
  intro k hk
  split at h1
  · exact h1.2.2.2.2.2 k (by omega) (by omega) (by omega)
  · rw [h1.2]
theorem U_compare {f f1 : Nat → Nat → Nat} {x : Int32} {k0 : Int32} {r : Int32} (hi : ag_I f) (h1 : (if ds_in x (f 4 2) then r = ds_find (fun s => (ds_bits (fun s => f (47 + x.toNatClampNeg) s != f 5 s) (f 51 x.toNatClampNeg)).testBit s) k0 8 0 0 else r = (-1)) ∧ f1 = f) : ∀ k, 54 ≤ k → f1 k = f k := by
  intro k hk
  rw [h1.2]
theorem U_cost {f f1 : Nat → Nat → Nat}  {r : Int64} (hi : ag_I f) (h1 : r = lN (ds_cost f (f 1 0)) ∧ ∃ h : Nat → Nat, f1 = dw_su f 21 h) : ∀ k, 54 ≤ k → f1 k = f k := by
  intro k hk
  obtain ⟨-, h, e⟩ := h1
  rw [e]
  exact dw_su_ne (by omega)
theorem U_overtime {f f1 : Nat → Nat → Nat} {x : Int32} {r : Int32} (hi : ag_I f) (h1 : (if ds_in x (f 1 0) then r = nI (ds_tm f (fun z => Nat.testBit (ds_bits (fun s => f 5 s == x.toNatClampNeg) (f 1 1)) z) x.toNatClampNeg - f 19 x.toNatClampNeg) else r = (-1)) ∧ ∃ h : Nat → Nat, f1 = dw_su f 21 h) : ∀ k, 54 ≤ k → f1 k = f k := by
  intro k hk
  obtain ⟨-, h, e⟩ := h1
  rw [e]
  exact dw_su_ne (by omega)
theorem U_next {f f1 : Nat → Nat → Nat}  {r : Int32} (hi : ag_I f) (h1 : r = nI (ds_cnt (fun x => f 5 x == f 1 0) (f 1 1)) ∧ (∀ v, v < f 1 0 → f1 15 v = (ds_nl f v).length ∧ f1 18 v = 8 ∧ ∀ r, r < (ds_nl f v).length → f1 (22 + v) r = (ds_nl f v).getD r 0 ∧ f1 10 ((ds_nl f v).getD r 0) = v ∧ f1 11 ((ds_nl f v).getD r 0) = r) ∧ (∀ x, x < f 1 1 → f1 12 x = 0 ∧ f1 13 x = 0 ∧ f1 5 x = f1 10 x) ∧ (∀ x, f 1 1 ≤ x → f1 12 x = f 12 x ∧ f1 13 x = f 13 x) ∧ f1 3 2 = 0 ∧ f1 4 2 = 0 ∧ ∀ k, k ≠ 3 → k ≠ 4 → k ≠ 5 → k ≠ 10 → k ≠ 11 → k ≠ 12 → k ≠ 13 → k ≠ 15 → k ≠ 17 → k ≠ 18 → ¬ (22 ≤ k ∧ k < 28) → f1 k = f k) : ∀ k, 54 ≤ k → f1 k = f k := by
  intro k hk
  exact h1.2.2.2.2.2.2 k (by omega) (by omega) (by omega) (by omega) (by omega) (by omega) (by omega) (by omega) (by omega) (by omega) (by omega)
