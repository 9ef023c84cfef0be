/-! the reference's state, seen as a state of the class; rw: its rows, which it does not hold itself -/
def md_v (f rw : Nat → Nat → Nat) : Nat → Nat → Nat := fun k =>
  if k = 1 then (fun j => if j = 16 then f 54 12 else if j = 0 then f 54 0 else if j = 1 then f 54 1 else 0)
  else if k = 5 then f 65 else if k = 6 then f 72 else if k = 7 then f 73 else if k = 8 then f 55 else if k = 9 then f 56 else if k = 10 then f 57 else if k = 11 then f 58 else if k = 12 then f 60 else if k = 13 then f 61 else if k = 15 then f 59 else if k = 18 then f 62 else if k = 19 then f 63
  else if 22 ≤ k ∧ k < 25 then rw (k - 22) else if 28 ≤ k ∧ k < 38 then (fun j => f 64 (10 * (k - 28) + j)) else fun _ => 0
theorem md_1 (f rw : Nat → Nat → Nat) : md_v f rw 1 0 = f 54 0 ∧ md_v f rw 1 1 = f 54 1 ∧ md_v f rw 1 16 = f 54 12 := ⟨rfl, rfl, rfl⟩
theorem md_22 {f rw : Nat → Nat → Nat} {v : Nat} (h : v < 3) : md_v f rw (22 + v) = rw v := by
  rcases (show v = 0 ∨ v = 1 ∨ v = 2 by omega) with rfl | rfl | rfl <;> rfl
theorem md_28 {f rw : Nat → Nat → Nat} {i : Nat} (h : i < 10) : md_v f rw (28 + i) = fun j => f 64 (10 * i + j) := by
  unfold md_v
  rw [if_neg (by omega), if_neg (by omega), if_neg (by omega), if_neg (by omega), if_neg (by omega), if_neg (by omega), if_neg (by omega), if_neg (by omega), if_neg (by omega), if_neg (by omega), if_neg (by omega), if_neg (by omega), if_neg (by omega), if_neg (by omega), if_pos (by omega), show 28 + i - 28 = i by omega]
/-- what the reference's scratch leaves alone: equal cells give the same view -/
theorem md_congr {f u rw : Nat → Nat → Nat} (h : ∀ k, 55 ≤ k → k ≤ 73 → ¬ (66 ≤ k ∧ k ≤ 71) → u k = f k) (h0 : u 54 0 = f 54 0) (h1 : u 54 1 = f 54 1) (h2 : u 54 12 = f 54 12) : md_v u rw = md_v f rw := by
  funext k
  unfold md_v
  rw [h0, h1, h2, h 65 (by decide) (by decide) (by decide), h 72 (by decide) (by decide) (by decide), h 73 (by decide) (by decide) (by decide), h 55 (by decide) (by decide) (by decide), h 56 (by decide) (by decide) (by decide), h 57 (by decide) (by decide) (by decide), h 58 (by decide) (by decide) (by decide), h 60 (by decide) (by decide) (by decide), h 61 (by decide) (by decide) (by decide), h 59 (by decide) (by decide) (by decide), h 62 (by decide) (by decide) (by decide), h 63 (by decide) (by decide) (by decide), h 64 (by decide) (by decide) (by decide)]
theorem ds_in_iff {x : Int32} {n : Nat} (hn : n < 2 ^ 31) : ds_in x n ↔ (¬ x < 0 ∧ ¬ nI n ≤ x) := by
  unfold ds_in
  rw [Int32.lt_iff_toInt_lt, Int32.le_iff_toInt_le, nI_toInt hn, Int32.toInt_zero]
  omega
theorem ds_lin {x : Int32} {n : Nat} (hn : n < 2 ^ 31) : (lN 0 ≤ x.toInt64 ∧ x.toInt64 ≤ lN n) ↔ ds_in x (n + 1) := by
  unfold ds_in
  rw [Int64.le_iff_toInt_le, Int64.le_iff_toInt_le, lN_toInt hn, lN_toInt (by decide), Int32.toInt_toInt64]
  omega
def md_stop (f : Nat → Nat → Nat) (v x y : Nat) : Nat → Nat → Nat := dw_w (dw_w (dw_w (dw_w (dw_w (dw_w (dw_w (dw_w f 55 (f 54 1) x) 56 (f 54 1) y) 57 (f 54 1) v) 58 (f 54 1) (f 59 v)) 59 v (f 59 v + 1)) 65 (f 54 1) v) 72 (f 54 1) v) 54 1 (f 54 1 + 1)
