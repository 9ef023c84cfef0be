/-! rows of the next day -/
def ds_any (P : Nat → Bool) : Nat → Bool
  | 0 => false
  | i + 1 => ds_any P i || P i
theorem ds_any_mono {P : Nat → Bool} {i n : Nat} (h : ds_any P i = true) (hn : i ≤ n) : ds_any P n = true := by
  induction hn with
  | refl => exact h
  | step _ ih => simp [ds_any, ih]
/-- of the stops below i, those of v's row that P has -/
def ds_own (f : Nat → Nat → Nat) (P : Nat → Bool) (v i : Nat) : List Nat := (List.range i).filter (fun x => P x && f 10 x == v)
theorem ds_own_s (f : Nat → Nat → Nat) (P : Nat → Bool) (v i : Nat) : ds_own f P v (i + 1) = ds_own f P v i ++ (if P i && f 10 i == v then [i] else []) := by
  unfold ds_own
  rw [List.range_succ, List.filter_append]
  congr 1
  by_cases h : (P i && f 10 i == v) = true
  · simp [h]
  · simp [h]
theorem ds_own_len (f : Nat → Nat → Nat) (P : Nat → Bool) (v i : Nat) : (ds_own f P v i).length ≤ i := by
  unfold ds_own
  exact Nat.le_trans (List.length_filter_le _ _) (by simp)
theorem ds_is_app {h : Nat → Nat} {b : Nat} {L M : List Nat} (h1 : ds_is h b L) (h2 : ds_is h (b + L.length) M) : ds_is h b (L ++ M) := by
  intro i hi
  rw [List.length_append] at hi
  by_cases q : i < L.length
  · rw [h1 i q]
    simp [List.getElem?_append_left q]
  · have h3 := h2 (i - L.length) (by omega)
    rw [show b + L.length + (i - L.length) = b + i by omega] at h3
    rw [h3]
    simp [List.getElem?_append_right (Nat.not_lt.mp q)]
theorem ds_is_keep {h h2 : Nat → Nat} {L : List Nat} (h1 : ds_is h 0 L) (hk : ∀ i, i < L.length → h2 i = h i) : ds_is h2 0 L := fun i hi => by
  rw [Nat.zero_add, hk i hi]
  have q := h1 i hi
  rwa [Nat.zero_add] at q
/-- the class's cells behind turn(): rows, lengths, ranks out of the new rows -/
def ds_trn (f u : Nat → Nat → Nat) (V : Nat) : Prop := ∀ v, v < V → u 15 v = f 17 v ∧ u 18 v = 8 ∧ ∀ r, r < f 17 v → u (22 + v) r = f (25 + v) r ∧ u 10 (f (25 + v) r) = v ∧ u 11 (f (25 + v) r) = r
def ds_stop (f : Nat → Nat → Nat) (v x y : Nat) : Nat → Nat → Nat := dw_w (dw_w (ds_tell f v x y) 5 (f 1 1) v) 6 (f 1 1) v
/-- times and overtimes of the plan, of the vehicles below v -/
def ds_cost (f : Nat → Nat → Nat) : Nat → Nat
  | 0 => 0
  | v + 1 => ds_cost f v + (ds_tm f (fun z => Nat.testBit (ds_bits (fun s => f 5 s == v) (f 1 1)) z) v + (ds_tm f (fun z => Nat.testBit (ds_bits (fun s => f 5 s == v) (f 1 1)) z) v - f 19 v))
