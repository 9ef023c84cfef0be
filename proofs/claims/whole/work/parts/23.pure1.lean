/-! plain words: sets of bits, the k-th, counts -/
abbrev ds_in (v : Int32) (n : Nat) : Prop := 0 ≤ v.toInt ∧ v.toInt < (n : Int)
theorem ds_in_nI {v : Int32} {n : Nat} (h : ds_in v n) : v = nI v.toNatClampNeg ∧ v.toNatClampNeg < n := by
  obtain ⟨h1, h2⟩ := h
  have h3 : ¬ v < 0 := by rw [Int32.lt_iff_toInt_lt, Int32.toInt_zero]; omega
  obtain ⟨j, hj, rfl⟩ := nI_of h3
  rw [nI_toInt hj] at h2
  rw [nI_clamp hj]
  exact ⟨rfl, by omega⟩
theorem ds_nI_in {j n : Nat} (hj : j < 2 ^ 31) : ds_in (nI j) n ↔ j < n := by
  unfold ds_in
  rw [nI_toInt hj]
  omega
def ds_bits (P : Nat → Bool) : Nat → Nat
  | 0 => 0
  | i + 1 => if P i then ds_bits P i ||| 1 * 2 ^ i else ds_bits P i
theorem ds_bits_tb (P : Nat → Bool) : ∀ n s, (ds_bits P n).testBit s = (decide (s < n) && P s)
  | 0, s => by simp [ds_bits]
  | n + 1, s => by
    have ih := ds_bits_tb P n s
    unfold ds_bits
    by_cases h : P n = true
    · rw [if_pos h, Nat.testBit_or, ih, Nat.one_mul, Nat.testBit_two_pow]
      by_cases e : n = s
      · subst e
        simp [h]
      · have h2 : (s < n + 1) ↔ (s < n) := by omega
        simp [e, h2]
    · rw [if_neg h, ih]
      by_cases e : s = n
      · subst e
        simp [h]
      · have h2 : (s < n + 1) ↔ (s < n) := by omega
        simp [h2]
theorem ds_bits_lt (P : Nat → Bool) : ∀ n, ds_bits P n < 2 ^ n
  | 0 => by simp [ds_bits]
  | n + 1 => by
    have ih := ds_bits_lt P n
    have h1 : 2 ^ n < 2 ^ (n + 1) := Nat.pow_lt_pow_right (by omega) (by omega)
    unfold ds_bits
    split
    · exact Nat.or_lt_two_pow (Nat.lt_trans ih h1) (by rw [Nat.one_mul]; exact h1)
    · exact Nat.lt_trans ih h1
theorem ds_bits_congr {P P2 : Nat → Bool} : ∀ n, (∀ i, i < n → P i = P2 i) → ds_bits P n = ds_bits P2 n
  | 0, _ => rfl
  | n + 1, h => by
    unfold ds_bits
    rw [ds_bits_congr n (fun i hi => h i (by omega)), h n (by omega)]
theorem ds_bits_256 (P : Nat → Bool) {n : Nat} (hn : n ≤ 8) : ds_bits P n < 256 := Nat.lt_of_lt_of_le (ds_bits_lt P n) (Nat.pow_le_pow_right (n := 2) (by omega) hn)
theorem ds_tb (x s : Nat) : ((x / 2 ^ s) &&& 1 = 1) ↔ x.testBit s = true := by
  rw [Nat.and_one_is_mod, Nat.testBit_eq_decide_div_mod_eq]
  simp
/-- the k-th place of P from s on, b seen before -/
def ds_find (P : Nat → Bool) (k : Int32) : Nat → Nat → Nat → Int32
  | 0, _, _ => -1
  | m + 1, s, b => if P s then (if nI b = k then nI s else ds_find P k m (s + 1) (b + 1)) else ds_find P k m (s + 1) b
theorem ds_find_congr {P P2 : Nat → Bool} {k : Int32} : ∀ m s b, (∀ i, s ≤ i → i < s + m → P i = P2 i) → ds_find P k m s b = ds_find P2 k m s b
  | 0, _, _, _ => rfl
  | m + 1, s, b, h => by
    unfold ds_find
    rw [h s (Nat.le_refl _) (by omega), ds_find_congr m (s + 1) (b + 1) (fun i h1 h2 => h i (by omega) (by omega)), ds_find_congr m (s + 1) b (fun i h1 h2 => h i (by omega) (by omega))]
theorem ds_find_none {P : Nat → Bool} {k : Int32} : ∀ m s b, (∀ i, s ≤ i → i < s + m → P i = false) → ds_find P k m s b = -1
  | 0, _, _, _ => rfl
  | m + 1, s, b, h => by
    unfold ds_find
    rw [h s (Nat.le_refl _) (by omega), ds_find_none m (s + 1) b (fun i h1 h2 => h i (by omega) (by omega))]
    rfl
theorem ds_find_more {P : Nat → Bool} {k : Int32} {j : Nat} : ∀ m s b, (∀ i, s + m ≤ i → i < s + m + j → P i = false) → ds_find P k (m + j) s b = ds_find P k m s b
  | 0, s, b, h => by
    rw [Nat.zero_add, ds_find_none j s b (fun i h1 h2 => h i (by omega) (by omega))]
    rfl
  | m + 1, s, b, h => by
    rw [show m + 1 + j = (m + j) + 1 by omega]
    unfold ds_find
    rw [ds_find_more m (s + 1) (b + 1) (fun i h1 h2 => h i (by omega) (by omega)), ds_find_more m (s + 1) b (fun i h1 h2 => h i (by omega) (by omega))]
def ds_cnt (P : Nat → Bool) : Nat → Nat
  | 0 => 0
  | i + 1 => if P i then ds_cnt P i + 1 else ds_cnt P i
theorem ds_cnt_le (P : Nat → Bool) : ∀ n, ds_cnt P n ≤ n
  | 0 => Nat.le_refl _
  | n + 1 => by
    have ih := ds_cnt_le P n
    unfold ds_cnt
    split <;> omega
theorem ds_cnt_congr {P P2 : Nat → Bool} : ∀ n, (∀ i, i < n → P i = P2 i) → ds_cnt P n = ds_cnt P2 n
  | 0, _ => rfl
  | n + 1, h => by
    unfold ds_cnt
    rw [ds_cnt_congr n (fun i hi => h i (by omega)), h n (by omega)]
/-- apart: two counts together are no more than n -/
theorem ds_cnt_two {P P2 : Nat → Bool} : ∀ n, (∀ i, i < n → ¬ (P i = true ∧ P2 i = true)) → ds_cnt P n + ds_cnt P2 n = ds_cnt (fun i => P i || P2 i) n
  | 0, _ => rfl
  | n + 1, h => by
    have ih := ds_cnt_two n (fun i hi => h i (by omega))
    have hn := h n (by omega)
    unfold ds_cnt
    cases h1 : P n <;> cases h2 : P2 n <;> simp_all <;> omega
theorem ds_cnt_false : ∀ n, ds_cnt (fun _ => false) n = 0
  | 0 => rfl
  | n + 1 => by unfold ds_cnt; simpa using ds_cnt_false n
theorem ds_cnt_more {P : Nat → Bool} {j : Nat} : ∀ m, (∀ i, m ≤ i → i < m + j → P i = false) → ds_cnt P (m + j) = ds_cnt P m := by
  induction j with
  | zero => intro m _; rfl
  | succ j ih =>
    intro m h
    have e : ds_cnt P ((m + j) + 1) = ds_cnt P (m + j) := by
      rw [show ds_cnt P ((m + j) + 1) = if P (m + j) then ds_cnt P (m + j) + 1 else ds_cnt P (m + j) from rfl, h (m + j) (by omega) (by omega)]
      rfl
    rw [show m + (j + 1) = (m + j) + 1 by omega, e]
    exact ih m (fun i h1 h2 => h i h1 (by omega))
