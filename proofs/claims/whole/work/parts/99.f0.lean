/-! the first state -/
def ds_f0 (V : Nat) : Nat → Nat → Nat := fun k j =>
  if k = 1 ∨ k = 54 then (if j = 0 then V else 0)
  else if k = 18 ∨ k = 62 then 8
  else if k = 19 ∨ k = 63 then 28800
  else if 28 ≤ k ∧ k < 38 then (if j = k - 28 then 0 else 60)
  else if k = 64 then (if j / 10 = j % 10 then 0 else 60)
  else 0
theorem f0_28 (V : Nat) {i : Nat} (h : i < 10) (j : Nat) : ds_f0 V (28 + i) j = if j = i then 0 else 60 := by
  unfold ds_f0
  rw [if_neg (by omega), if_neg (by omega), if_neg (by omega), if_pos (by omega), show 28 + i - 28 = i by omega]
theorem f0_I {V : Nat} (h1 : 1 ≤ V) (h3 : V ≤ 3) : ag_I (ds_f0 V) := by
  have e10 : ds_f0 V 1 0 = V := rfl
  have e11 : ds_f0 V 1 1 = 0 := rfl
  refine ⟨ag_mk ?_ ?_ (fun _ => rfl) ⟨rfl, Nat.zero_le _, fun k hk => absurd hk (Nat.not_lt_zero k)⟩ ⟨rfl, Nat.zero_le _, fun k hk => absurd hk (Nat.not_lt_zero k)⟩, fun x _ => ⟨rfl, Nat.zero_le _, rfl, Nat.zero_le _⟩⟩
  · refine ⟨⟨h1, h3⟩, Nat.zero_le _, Nat.zero_le _, fun x hx => absurd hx (Nat.not_lt_zero x), fun v _ => ⟨Nat.le_refl 8, Nat.le_of_ble_eq_true rfl⟩, fun i j hi _ => ?_, rfl, fun v r _ hr => absurd hr (Nat.not_lt_zero r), fun s hs => absurd hs (Nat.not_lt_zero s)⟩
    rw [f0_28 V hi]
    split <;> omega
  · refine ⟨⟨rfl, rfl, rfl⟩, fun x hx => absurd hx (Nat.not_lt_zero x), fun v _ => ⟨rfl, rfl, rfl⟩, fun i j hi hj => ?_⟩
    rw [f0_28 V hi]
    show (if (10 * i + j) / 10 = (10 * i + j) % 10 then 0 else 60) = _
    have q1 : (10 * i + j) / 10 = i := by omega
    have q2 : (10 * i + j) % 10 = j := by omega
    rw [q1, q2]
    by_cases q : i = j
    · rw [if_pos q, if_pos q.symm]
    · rw [if_neg q, if_neg (fun z => q z.symm)]
