/-! a list of different numbers below n is no longer than n; rounds are such -/
theorem dr_drop (n : Nat) : ∀ (L : List Nat), L.Nodup → L.length ≤ (L.filter (fun x => x != n)).length + 1
  | [], _ => by simp
  | x :: L, h => by
    rw [List.nodup_cons] at h
    by_cases e : x = n
    · subst e
      have e2 : L.filter (fun y => y != x) = L := by
        rw [List.filter_eq_self]
        intro y hy
        simp
        intro q
        subst q
        exact h.1 hy
      simp [e2]
    · have ih := dr_drop n L h.2
      simp [e]
      omega
theorem dr_len : ∀ (n : Nat) (L : List Nat), L.Nodup → (∀ x ∈ L, x < n) → L.length ≤ n
  | 0, L, _, h => by
    cases L with
    | nil => simp
    | cons x L => exact absurd (h x List.mem_cons_self) (Nat.not_lt_zero _)
  | n + 1, L, hn, h => by
    have h1 := dr_drop n L hn
    have h2 := dr_len n (L.filter (fun x => x != n)) (hn.filter _) (fun x hx => by
      rw [List.mem_filter] at hx
      have h3 := h x hx.1
      have h4 : x ≠ n := by simpa using hx.2
      omega)
    omega
/-- what is known of the rows: place r of v's row holds a stop of v's row, of rank r; each stop stands in its row -/
def ds_rows (f : Nat → Nat → Nat) : Prop := (∀ v r, v < f 1 0 → r < f 15 v → f (22 + v) r < f 1 1 ∧ f 10 (f (22 + v) r) = v ∧ f 11 (f (22 + v) r) = r) ∧ ∀ s, s < f 1 1 → f 10 s < f 1 0 ∧ f 11 s < f 15 (f 10 s) ∧ f (22 + f 10 s) (f 11 s) = s
theorem dr_row_nd {f : Nat → Nat → Nat} (h : ds_rows f) {v : Nat} (hv : v < f 1 0) : (ds_row f v (f 15 v)).Nodup := by
  unfold ds_row List.Nodup
  rw [List.pairwise_map]
  refine List.Pairwise.imp_of_mem ?_ (List.pairwise_lt_range (n := f 15 v))
  intro x y hx hy hlt e
  have h1 := (h.1 v x hv (List.mem_range.mp hx)).2.2
  have h2 := (h.1 v y hv (List.mem_range.mp hy)).2.2
  rw [e, h2] at h1
  omega
theorem dr_row_in {f : Nat → Nat → Nat} (h : ds_rows f) {v : Nat} (hv : v < f 1 0) {x : Nat} (hx : x ∈ ds_row f v (f 15 v)) : x < f 1 1 ∧ f 10 x = v := by
  unfold ds_row at hx
  obtain ⟨r, hr, rfl⟩ := List.mem_map.mp hx
  have h1 := h.1 v r hv (List.mem_range.mp hr)
  exact ⟨h1.1, h1.2.1⟩
theorem dr_rd_nd {f : Nat → Nat → Nat} (h : ds_rows f) (P : Nat → Bool) {v : Nat} (hv : v < f 1 0) : (ds_rd f P v).Nodup := by
  unfold ds_rd
  rw [List.nodup_append]
  refine ⟨(dr_row_nd h hv).filter _, List.nodup_range.filter _, ?_⟩
  intro x hx y hy e
  have h1 := (dr_row_in h hv (List.mem_filter.mp hx).1).2
  have h2 := (List.mem_filter.mp hy).2
  simp at h2
  rw [e] at h1
  exact h2.2 h1
theorem dr_rd_in {f : Nat → Nat → Nat} (h : ds_rows f) (P : Nat → Bool) {v : Nat} (hv : v < f 1 0) {x : Nat} (hx : x ∈ ds_rd f P v) : x < f 1 1 ∧ P x = true := by
  unfold ds_rd at hx
  rcases List.mem_append.mp hx with q | q
  · have h1 := List.mem_filter.mp q
    exact ⟨(dr_row_in h hv h1.1).1, h1.2⟩
  · unfold ds_oth at q
    have h1 := List.mem_filter.mp q
    have h2 := h1.2
    simp at h2
    exact ⟨List.mem_range.mp h1.1, h2.1⟩
theorem dr_rd_len {f : Nat → Nat → Nat} (h : ds_rows f) (P : Nat → Bool) {v : Nat} (hv : v < f 1 0) : (ds_rd f P v).length ≤ f 1 1 := dr_len _ _ (dr_rd_nd h P hv) (fun _ hx => (dr_rd_in h P hv hx).1)
theorem dr_row_len {f : Nat → Nat → Nat} (h : ds_rows f) {v : Nat} (hv : v < f 1 0) : f 15 v ≤ f 1 1 := by
  have h1 := dr_len _ _ (dr_row_nd h hv) (fun x hx => (dr_row_in h hv hx).1)
  unfold ds_row at h1
  simpa using h1
