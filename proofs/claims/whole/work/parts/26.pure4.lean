/-! plans as numbers: the order of the plans, and the turn from one to the next -/
def md_code (B : Nat) (p : Nat → Nat) : Nat → Nat
  | 0 => 0
  | s + 1 => md_code B p s * B + p s
theorem md_lt {B c c2 x y : Nat} (hx : x < B) (hy : y < B) : c * B + x < c2 * B + y ↔ c < c2 ∨ (c = c2 ∧ x < y) := by
  rcases Nat.lt_trichotomy c c2 with h | h | h
  · have h1 : (c + 1) * B ≤ c2 * B := Nat.mul_le_mul_right B h
    rw [Nat.succ_mul] at h1
    constructor
    · intro _; exact Or.inl h
    · intro _; omega
  · subst h
    constructor
    · intro q; exact Or.inr ⟨rfl, by omega⟩
    · intro q; rcases q with q | q <;> omega
  · have h1 : (c2 + 1) * B ≤ c * B := Nat.mul_le_mul_right B h
    rw [Nat.succ_mul] at h1
    constructor
    · intro q; omega
    · intro q; rcases q with q | q <;> omega
theorem md_eq {B c c2 x y : Nat} (hx : x < B) (hy : y < B) : c * B + x = c2 * B + y ↔ c = c2 ∧ x = y := by
  constructor
  · intro h
    have h1 := (md_lt (c := c) (c2 := c2) hx hy)
    have h2 := (md_lt (c := c2) (c2 := c) hy hx)
    have h3 : ¬ (c < c2 ∨ (c = c2 ∧ x < y)) := fun q => by have := h1.mpr q; omega
    have h4 : ¬ (c2 < c ∨ (c2 = c ∧ y < x)) := fun q => by have := h2.mpr q; omega
    omega
  · rintro ⟨rfl, rfl⟩; rfl
theorem md_code_congr {B : Nat} {p q : Nat → Nat} : ∀ n, (∀ s, s < n → p s = q s) → md_code B p n = md_code B q n
  | 0, _ => rfl
  | n + 1, h => by
    unfold md_code
    rw [md_code_congr n (fun s hs => h s (by omega)), h n (by omega)]
theorem md_code_lt {B : Nat} {p : Nat → Nat} : ∀ n, (∀ s, s < n → p s < B) → md_code B p n < B ^ n
  | 0, _ => by simp [md_code]
  | n + 1, h => by
    have ih := md_code_lt n (fun s hs => h s (by omega))
    have h1 := h n (by omega)
    unfold md_code
    rw [Nat.pow_succ]
    have h2 : (md_code B p n + 1) * B ≤ B ^ n * B := Nat.mul_le_mul_right B ih
    rw [Nat.succ_mul] at h2
    omega
theorem md_code_inj {B : Nat} {p q : Nat → Nat} : ∀ n, (∀ s, s < n → p s < B) → (∀ s, s < n → q s < B) → md_code B p n = md_code B q n → ∀ s, s < n → p s = q s
  | 0, _, _, _ => fun s h => absurd h (Nat.not_lt_zero _)
  | n + 1, hp, hq, h => by
    unfold md_code at h
    obtain ⟨h1, h2⟩ := (md_eq (hp n (by omega)) (hq n (by omega))).mp h
    have ih := md_code_inj n (fun s hs => hp s (by omega)) (fun s hs => hq s (by omega)) h1
    intro s hs
    rcases Nat.lt_or_ge s n with q1 | q1
    · exact ih s q1
    · rw [show s = n by omega]; exact h2
/-- the order does not hang on the base -/
theorem md_code_mono {B B2 : Nat} {p q : Nat → Nat} : ∀ n, (∀ s, s < n → p s < B ∧ p s < B2) → (∀ s, s < n → q s < B ∧ q s < B2) → (md_code B p n < md_code B q n ↔ md_code B2 p n < md_code B2 q n)
  | 0, _, _ => by simp [md_code]
  | n + 1, hp, hq => by
    have ih := md_code_mono n (fun s hs => hp s (by omega)) (fun s hs => hq s (by omega))
    have hpn := hp n (by omega)
    have hqn := hq n (by omega)
    have e1 : md_code B p n = md_code B q n ↔ md_code B2 p n = md_code B2 q n := by
      constructor
      · intro h
        exact md_code_congr n (md_code_inj n (fun s hs => (hp s (by omega)).1) (fun s hs => (hq s (by omega)).1) h)
      · intro h
        exact md_code_congr n (md_code_inj n (fun s hs => (hp s (by omega)).2) (fun s hs => (hq s (by omega)).2) h)
    unfold md_code
    rw [md_lt hpn.1 hqn.1, md_lt hpn.2 hqn.2, ih, e1]
/-- the rest of the places at the top digit, and the same with zeros -/
theorem md_code_top {V : Nat} {p : Nat → Nat} {j : Nat} : ∀ d, (∀ s, j ≤ s → s < j + d → p s = V) → md_code (V + 1) p (j + d) + 1 = (md_code (V + 1) p j + 1) * (V + 1) ^ d
  | 0, _ => by simp
  | d + 1, h => by
    have ih := md_code_top d (fun s h1 h2 => h s h1 (by omega))
    rw [← Nat.add_assoc, show md_code (V + 1) p (j + d + 1) = md_code (V + 1) p (j + d) * (V + 1) + p (j + d) from rfl]
    rw [h (j + d) (by omega) (by omega), Nat.pow_succ, ← Nat.mul_assoc, ← ih, Nat.succ_mul]
    omega
theorem md_code_zero {B : Nat} {p : Nat → Nat} {j : Nat} : ∀ d, (∀ s, j ≤ s → s < j + d → p s = 0) → md_code B p (j + d) = md_code B p j * B ^ d
  | 0, _ => by simp
  | d + 1, h => by
    have ih := md_code_zero (B := B) d (fun s h1 h2 => h s h1 (by omega))
    rw [← Nat.add_assoc, show md_code B p (j + d + 1) = md_code B p (j + d) * B + p (j + d) from rfl]
    rw [h (j + d) (by omega) (by omega), Nat.pow_succ, ← Nat.mul_assoc, ← ih, Nat.add_zero]
/-- one step on: place j grows by one, all behind it was V and is 0 -/
theorem md_code_turn {V n j : Nat} {p q : Nat → Nat} (hj : j < n) (h1 : ∀ s, s < j → q s = p s) (h2 : q j = p j + 1) (h3 : ∀ s, j < s → s < n → p s = V ∧ q s = 0) : md_code (V + 1) q n = md_code (V + 1) p n + 1 := by
  obtain ⟨d, rfl⟩ : ∃ d, n = (j + 1) + d := ⟨n - (j + 1), by omega⟩
  rw [md_code_top (p := p) (j := j + 1) d (fun s a b => (h3 s (by omega) b).1), md_code_zero (p := q) (j := j + 1) d (fun s a b => (h3 s (by omega) b).2)]
  congr 1
  rw [show md_code (V + 1) q (j + 1) = md_code (V + 1) q j * (V + 1) + q j from rfl, show md_code (V + 1) p (j + 1) = md_code (V + 1) p j * (V + 1) + p j from rfl, md_code_congr j h1, h2]
  omega
/-- all places at the top digit: the last number -/
theorem md_code_last {V n : Nat} {p : Nat → Nat} (h : ∀ s, s < n → p s = V) : md_code (V + 1) p n + 1 = (V + 1) ^ n := by
  have h1 := md_code_top (V := V) (p := p) (j := 0) n (fun s _ b => h s (by omega))
  simpa [md_code] using h1
