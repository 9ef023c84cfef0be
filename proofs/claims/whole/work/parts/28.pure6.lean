/-! the class's state: what is known of it, and what its small methods do -/
theorem dw_su_ne {f : Nat → Nat → Nat} {k j : Nat} {h : Nat → Nat} (e : j ≠ k) : dw_su f k h j = f j := if_neg e
theorem dw_su_eq {f : Nat → Nat → Nat} {k : Nat} {h : Nat → Nat} : dw_su f k h k = h := if_pos rfl
theorem dw_up_ne {h : Nat → Nat} {i j x : Nat} (e : j ≠ i) : dw_up h i x j = h j := if_neg e
theorem dw_up_eq {h : Nat → Nat} {i x : Nat} : dw_up h i x i = x := if_pos rfl
theorem dw_w_ne {f : Nat → Nat → Nat} {k j i x : Nat} (e : j ≠ k) : dw_w f k i x j = f j := if_neg e
theorem dw_w_eq {f : Nat → Nat → Nat} {k i x : Nat} : dw_w f k i x k = dw_up (f k) i x := if_pos rfl
theorem dw_w_su {f : Nat → Nat → Nat} {k i x : Nat} {h : Nat → Nat} : dw_w (dw_su f k h) k i x = dw_su f k (dw_up h i x) := by
  funext j
  unfold dw_w dw_su
  by_cases e : j = k
  · simp [e]
  · simp [e]
theorem dw_su_self {f : Nat → Nat → Nat} {k : Nat} : dw_su f k (f k) = f := by
  funext j
  unfold dw_su
  by_cases e : j = k
  · simp [e]
  · simp [e]
def ds_can (f : Nat → Nat → Nat) (v x : Nat) : Bool := f 18 v == 8 || (f 10 x == v && decide (f 11 x < f 18 v))
def ds_may (f : Nat → Nat → Nat) (x v : Nat) : Bool := !(f 12 x != 0 && f 10 x != v) && (v == f 1 0 || (f 13 x == 0 && ds_can f v x))
def ds_app (f : Nat → Nat → Nat) (x v : Nat) : Nat → Nat → Nat := dw_w (dw_w (dw_w (dw_w f (22 + v) (f 15 v) x) 10 x v) 11 x (f 15 v)) 15 v (f 15 v + 1)
def ds_tell1 (f : Nat → Nat → Nat) (x y : Nat) : Nat → Nat → Nat := dw_w (dw_w f 8 (f 1 1) x) 9 (f 1 1) y
def ds_tell (f : Nat → Nat → Nat) (v x y : Nat) : Nat → Nat → Nat := dw_w (ds_app (ds_tell1 f x y) (f 1 1) v) 1 1 (f 1 1 + 1)
theorem ds_app_ne {f : Nat → Nat → Nat} {x v k : Nat} (h : k ≠ 22 + v ∧ k ≠ 10 ∧ k ≠ 11 ∧ k ≠ 15) : ds_app f x v k = f k := by
  unfold ds_app
  rw [dw_w_ne h.2.2.2, dw_w_ne h.2.2.1, dw_w_ne h.2.1, dw_w_ne h.1]
theorem ds_tell1_ne {f : Nat → Nat → Nat} {x y k : Nat} (h : k ≠ 8 ∧ k ≠ 9) : ds_tell1 f x y k = f k := by
  unfold ds_tell1
  rw [dw_w_ne h.2, dw_w_ne h.1]
/-- the class's cells as they are between calls -/
def ds_ok (f : Nat → Nat → Nat) : Prop := (1 ≤ f 1 0 ∧ f 1 0 ≤ 3) ∧ f 1 1 ≤ 8 ∧ f 1 16 ≤ 100000 ∧ (∀ x, x < f 1 1 → f 8 x < 10 ∧ f 9 x ≤ 10000 ∧ f 12 x ≤ 1 ∧ f 13 x ≤ 1 ∧ f 5 x ≤ f 1 0 ∧ f 6 x ≤ f 1 0) ∧ (∀ v, v < f 1 0 → f 18 v ≤ 8 ∧ f 19 v ≤ 100000) ∧ (∀ i j, i < 10 → j < 10 → f (28 + i) j ≤ 10000) ∧ f 28 0 = 0 ∧ ds_rows f
/-- the time of v's round over the stops that P has, and what it is above the hours -/
def ds_tm (f : Nat → Nat → Nat) (P : Nat → Bool) (v : Nat) : Nat := ds_time (fun i j => f (28 + i) j) (f 8) (f 9) (ds_rd f P v)
theorem ds_tm_b {f : Nat → Nat → Nat} (ok : ds_ok f) (P : Nat → Bool) {v : Nat} (hv : v < f 1 0) : ds_tm f P v ≤ 170000 := by
  obtain ⟨hV, hn, hex, hst, hve, hwy, hw0, hrw⟩ := ok
  refine ds_time_b hwy (fun x hx => ?_) (Nat.le_trans (dr_rd_len hrw P hv) hn)
  have h1 := hst x (dr_rd_in hrw P hv hx).1
  exact ⟨h1.1, h1.2.1⟩
theorem ds_row_lt {f : Nat → Nat → Nat} (P : Nat → Bool) {v i : Nat} (h : P (f (22 + v) i) = true) (hi : i < f 15 v) : ((ds_row f v i).filter P).length < (ds_rd f P v).length := by
  have h1 := ds_row_mono f P v (r := i + 1) (r2 := f 15 v) hi
  rw [ds_row_s, if_pos h, List.length_append, List.length_singleton] at h1
  unfold ds_rd
  rw [List.length_append]
  omega
theorem ds_oth_lt {f : Nat → Nat → Nat} (P : Nat → Bool) {v i : Nat} (h : (P i && (f 10 i != v)) = true) (hi : i < f 1 1) : ((ds_row f v (f 15 v)).filter P ++ ds_oth f P v i).length < (ds_rd f P v).length := by
  have h1 := ds_oth_mono f P v (r := i + 1) (r2 := f 1 1) hi
  rw [ds_oth_s, if_pos h, List.length_append, List.length_singleton] at h1
  unfold ds_rd
  rw [List.length_append, List.length_append]
  omega
