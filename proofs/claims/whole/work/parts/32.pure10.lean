/-! run and next of the class -/
abbrev ds_best (f : Nat → Nat → Nat) : Nat := dp_tab (ds_wt f) (f 1 0) (f 1 0) (2 ^ f 1 1 - 1)
def ds_why (f : Nat → Nat → Nat) : Int32 := if ds_any (fun x => f 12 x != 0 && f 13 x != 0) (f 1 1) = true then (-2) else if ds_any (fun x => f 12 x != 0 && !ds_can f (f 10 x) x) (f 1 1) = true then (-3) else (-4)
theorem ds_why_congr {f u : Nat → Nat → Nat} (h : ∀ k, ¬ ds_scr k → u k = f k) : ds_why u = ds_why f := by
  unfold ds_scr at h
  unfold ds_why ds_can
  rw [h 12 (by omega), h 13 (by omega), h 1 (by omega), h 10 (by omega), h 18 (by omega), h 11 (by omega)]
theorem ds_best_b {f : Nat → Nat → Nat} (ok : ds_ok f) : ds_best f ≤ 1152921504606846976 := dp_tab_b (fun v2 hv2 y2 => ds_wt_b ok hv2) (Nat.le_refl _) _
theorem ds_cnt_bits (P : Nat → Bool) {n : Nat} (hn : n ≤ 8) : ds_cnt (fun i => (ds_bits P n).testBit i) 8 = ds_cnt P n := by
  have h1 : ds_cnt (fun i => (ds_bits P n).testBit i) (n + (8 - n)) = ds_cnt (fun i => (ds_bits P n).testBit i) n := ds_cnt_more n (fun i h1 h2 => by
    show (ds_bits P n).testBit i = false
    rw [ds_bits_tb, decide_eq_false (by omega), Bool.false_and])
  rw [show n + (8 - n) = 8 by omega] at h1
  rw [h1]
  exact ds_cnt_congr n (fun i hi => by
    show (ds_bits P n).testBit i = P i
    rw [ds_bits_tb, decide_eq_true hi, Bool.true_and])
/-- the stops that the plan gives to v, as a set of bits -/
abbrev ds_pb (f : Nat → Nat → Nat) (v : Nat) : Nat → Bool := fun z => Nat.testBit (ds_bits (fun s => f 5 s == v) (f 1 1)) z
theorem ds_pb_eq (f : Nat → Nat → Nat) (v z : Nat) : ds_pb f v z = (decide (z < f 1 1) && f 5 z == v) := ds_bits_tb _ _ _
/-- v's row of the next day -/
def ds_nl (f : Nat → Nat → Nat) (v : Nat) : List Nat := ds_own f (ds_pb f (f 1 0)) v (f 1 1) ++ ds_rd f (ds_pb f v) v
theorem ds_own_in {f : Nat → Nat → Nat} {P : Nat → Bool} {v i x : Nat} (hx : x ∈ ds_own f P v i) : x < i ∧ P x = true ∧ f 10 x = v := by
  have h1 := List.mem_filter.mp hx
  have h2 := h1.2
  simp at h2
  exact ⟨List.mem_range.mp h1.1, h2.1, h2.2⟩
theorem ds_nl_in {f : Nat → Nat → Nat} (h : ds_rows f) {v x : Nat} (hv : v < f 1 0) (hx : x ∈ ds_nl f v) : x < f 1 1 ∧ ((f 5 x = f 1 0 ∧ f 10 x = v) ∨ f 5 x = v) := by
  unfold ds_nl at hx
  rcases List.mem_append.mp hx with q | q
  · obtain ⟨h1, h2, h3⟩ := ds_own_in q
    rw [ds_pb_eq] at h2
    simp at h2
    exact ⟨h1, Or.inl ⟨h2.2, h3⟩⟩
  · obtain ⟨h1, h2⟩ := dr_rd_in h _ hv q
    rw [ds_pb_eq] at h2
    simp at h2
    exact ⟨h1, Or.inr h2.2⟩
theorem ds_nl_nd {f : Nat → Nat → Nat} (h : ds_rows f) {v : Nat} (hv : v < f 1 0) : (ds_nl f v).Nodup := by
  unfold ds_nl
  rw [List.nodup_append]
  refine ⟨List.nodup_range.filter _, dr_rd_nd h _ hv, ?_⟩
  intro x hx y hy e
  obtain ⟨h1, h2, h3⟩ := ds_own_in hx
  obtain ⟨h4, h5⟩ := dr_rd_in h _ hv hy
  rw [ds_pb_eq] at h2 h5
  simp at h2 h5
  rw [e] at h2
  omega
theorem ds_nl_len {f : Nat → Nat → Nat} (h : ds_rows f) {v : Nat} (hv : v < f 1 0) : (ds_nl f v).length ≤ f 1 1 := dr_len _ _ (ds_nl_nd h hv) (fun _ hx => (ds_nl_in h hv hx).1)
theorem ds_nd_inj {L : List Nat} (h : L.Nodup) {i j : Nat} (hi : i < L.length) (hj : j < L.length) (e : L.getD i 0 = L.getD j 0) : i = j := by
  have e2 : L[i] = L[j] := by simpa [List.getD, hi, hj] using e
  have hp := List.pairwise_iff_getElem.mp h
  rcases Nat.lt_trichotomy i j with q | q | q
  · exact absurd e2 (hp i j hi hj q)
  · exact q
  · exact absurd e2.symm (hp j i hj hi q)
/-- what prepareRow has done for the vehicles below v -/
def ds_prep (f u : Nat → Nat → Nat) (v : Nat) : Prop := (∀ w, w < v → u 17 w = (ds_nl f w).length ∧ ds_is (u (25 + w)) 0 (ds_nl f w)) ∧ ∀ k, k ≠ 17 → ¬ (25 ≤ k ∧ k < 28) → u k = f k
theorem ds_prep_at {f u : Nat → Nat → Nat} {v w r : Nat} (h : ds_prep f u v) (hw : w < v) (hr : r < u 17 w) : r < (ds_nl f w).length ∧ u (25 + w) r = (ds_nl f w).getD r 0 := by
  obtain ⟨h1, h2⟩ := h.1 w hw
  rw [h1] at hr
  have h3 := h2 r hr
  rw [Nat.zero_add] at h3
  exact ⟨hr, h3⟩
theorem ds_prep_inj {f u : Nat → Nat → Nat} (ok : ds_ok f) (h : ds_prep f u (f 1 0)) {v r v2 r2 : Nat} (hv : v < f 1 0) (hv2 : v2 < f 1 0) (hr : r < u 17 v) (hr2 : r2 < u 17 v2) (e : u (25 + v) r = u (25 + v2) r2) : v = v2 ∧ r = r2 := by
  obtain ⟨hV, hn, hex, hst, hve, hwy, hw0, hrw⟩ := ok
  obtain ⟨a1, a2⟩ := ds_prep_at h hv hr
  obtain ⟨b1, b2⟩ := ds_prep_at h hv2 hr2
  rw [a2, b2] at e
  have m1 := ds_nl_in hrw hv (ds_getD_mem a1)
  have m2 := ds_nl_in hrw hv2 (ds_getD_mem b1)
  rw [← e] at m2
  have ev : v = v2 := by
    rcases m1.2 with q | q <;> rcases m2.2 with q2 | q2 <;> omega
  subst ev
  exact ⟨rfl, ds_nd_inj (ds_nl_nd hrw hv) a1 b1 e⟩
