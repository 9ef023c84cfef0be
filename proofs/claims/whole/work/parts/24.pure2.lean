/-! the parts of a set, and the table that is joined vehicle by vehicle -/
theorem dp_half (x : Nat) : x = 2 * (x / 2) + x % 2 := by omega
theorem dp_and2 (x y : Nat) : (x &&& y) / 2 = x / 2 &&& y / 2 := Nat.and_div_two
theorem dp_andm (x y : Nat) : (x &&& y) % 2 = x % 2 &&& y % 2 := by
  have h := Nat.and_mod_two_pow (a := x) (b := y) (n := 1)
  simpa using h
/-- the next part: none lies between -/
theorem dp_next : ∀ (k S P Q : Nat), P < 2 ^ k → P &&& S = P → Q &&& S = Q → Q < P → Q ≤ (P - 1) &&& S
  | 0, S, P, Q, h0, _, _, hq => by simp at h0; omega
  | k + 1, S, P, Q, h0, hP, hQ, hq => by
    have e2 := dp_and2 (P - 1) S
    have em := dp_andm (P - 1) S
    have hP2 : P / 2 &&& S / 2 = P / 2 := by rw [← dp_and2, hP]
    have hQ2 : Q / 2 &&& S / 2 = Q / 2 := by rw [← dp_and2, hQ]
    have hQm : Q % 2 &&& S % 2 = Q % 2 := by rw [← dp_andm, hQ]
    have hPm : P % 2 &&& S % 2 = P % 2 := by rw [← dp_andm, hP]
    rcases Nat.mod_two_eq_zero_or_one P with c | c
    · have hp : (P - 1) / 2 = P / 2 - 1 := by omega
      have hm : (P - 1) % 2 = 1 := by omega
      rw [hp] at e2
      rw [hm] at em
      have ih := dp_next k (S / 2) (P / 2) (Q / 2) (by rw [Nat.pow_succ] at h0; omega) hP2 hQ2 (by omega)
      have h1 : Q % 2 ≤ 1 &&& S % 2 := by
        rcases Nat.mod_two_eq_zero_or_one Q with d | d
        · omega
        · rw [d] at hQm
          rw [hQm]
          omega
      rw [dp_half ((P - 1) &&& S), e2, em, dp_half Q]
      omega
    · have hp : (P - 1) / 2 = P / 2 := by omega
      rw [hp, hP2] at e2
      rw [dp_half ((P - 1) &&& S), e2]
      omega
/-- the least of m and the parts from P down -/
def dp_part (B w : Nat → Nat) (S : Nat) : Nat → Nat → Nat → Nat
  | 0, _, m => m
  | k + 1, P, m => if P = 0 then m else dp_part B w S k ((P - 1) &&& S) (min m (B (S ^^^ P) + w P))
theorem dp_part_le {B w : Nat → Nat} {S : Nat} : ∀ k P m, dp_part B w S k P m ≤ m
  | 0, _, _ => Nat.le_refl _
  | k + 1, P, m => by
    unfold dp_part
    split
    · exact Nat.le_refl _
    · exact Nat.le_trans (dp_part_le k _ _) (Nat.min_le_left _ _)
theorem dp_part_all {B w : Nat → Nat} {S : Nat} : ∀ k P m, P < k → P &&& S = P → ∀ Q, Q &&& S = Q → 0 < Q → Q ≤ P → dp_part B w S k P m ≤ B (S ^^^ Q) + w Q
  | 0, P, m, h, _, _, _, _, _ => by omega
  | k + 1, P, m, h, hP, Q, hQ, h0, hq => by
    unfold dp_part
    rw [if_neg (by omega)]
    have h2 : (P - 1) &&& S ≤ P - 1 := Nat.and_le_left
    rcases Nat.eq_or_lt_of_le hq with e | e
    · rw [e]
      exact Nat.le_trans (dp_part_le k _ _) (Nat.min_le_right _ _)
    · exact dp_part_all k _ _ (by omega) (by rw [Nat.and_assoc, Nat.and_self]) Q hQ h0 (dp_next P S P Q Nat.lt_two_pow_self hP hQ e)
theorem dp_part_in {B w : Nat → Nat} {S : Nat} : ∀ k P m, P &&& S = P → dp_part B w S k P m = m ∨ ∃ Q, Q &&& S = Q ∧ 0 < Q ∧ dp_part B w S k P m = B (S ^^^ Q) + w Q
  | 0, _, _, _ => Or.inl rfl
  | k + 1, P, m, hP => by
    unfold dp_part
    split
    · exact Or.inl rfl
    · rename_i hz
      rcases dp_part_in (B := B) (w := w) k ((P - 1) &&& S) (min m (B (S ^^^ P) + w P)) (by rw [Nat.and_assoc, Nat.and_self]) with h | h
      · rw [h]
        rcases Nat.le_total m (B (S ^^^ P) + w P) with q | q
        · exact Or.inl (Nat.min_eq_left q)
        · exact Or.inr ⟨P, hP, by omega, Nat.min_eq_right q⟩
      · exact Or.inr h
/-- one vehicle more -/
def dp_join (B w : Nat → Nat) (S : Nat) : Nat := dp_part B w S (S + 1) S (B S)
/-- the table after the vehicles 0 .. j - 1; V stands for those that are carried -/
def dp_tab (wt : Nat → Nat → Nat) (V : Nat) : Nat → Nat → Nat
  | 0, S => wt V S
  | j + 1, S => dp_join (dp_tab wt V j) (wt j) S
/-- the stops of S that p gives to v -/
def dp_mask (n : Nat) (p : Nat → Nat) (v S : Nat) : Nat := ds_bits (fun s => S.testBit s && p s == v) n
theorem dp_mask_tb (n : Nat) (p : Nat → Nat) (v S s : Nat) : (dp_mask n p v S).testBit s = (decide (s < n) && (S.testBit s && p s == v)) := ds_bits_tb _ n s
/-- what the plan p weighs on S, with the vehicles 0 .. j - 1 -/
def dp_sum (wt : Nat → Nat → Nat) (V n : Nat) (p : Nat → Nat) (S : Nat) : Nat → Nat
  | 0 => wt V (dp_mask n p V S)
  | j + 1 => dp_sum wt V n p S j + wt j (dp_mask n p j S)
theorem dp_sum_congr {wt : Nat → Nat → Nat} {V n : Nat} {p p2 : Nat → Nat} {S S2 : Nat} : ∀ j, (∀ v, v = V ∨ v < j → dp_mask n p v S = dp_mask n p2 v S2) → dp_sum wt V n p S j = dp_sum wt V n p2 S2 j
  | 0, h => by unfold dp_sum; rw [h V (Or.inl rfl)]
  | j + 1, h => by
    unfold dp_sum
    rw [dp_sum_congr j (fun v hv => h v (by omega)), h j (Or.inr (by omega))]
theorem dp_sub_tb {Q S : Nat} (h : Q &&& S = Q) (s : Nat) (hs : Q.testBit s = true) : S.testBit s = true := by
  rw [← h, Nat.testBit_and] at hs
  simp at hs
  exact hs.2
theorem dp_tb_sub {Q S : Nat} (h : ∀ s, Q.testBit s = true → S.testBit s = true) : Q &&& S = Q := by
  apply Nat.eq_of_testBit_eq
  intro i
  rw [Nat.testBit_and]
  cases hq : Q.testBit i
  · rfl
  · rw [h i hq]; rfl
def dp_ok (V j : Nat) (p : Nat → Nat) (S : Nat) : Prop := ∀ s, S.testBit s = true → p s = V ∨ p s < j
theorem dp_big {S n s : Nat} (hS : S < 2 ^ n) (h : S.testBit s = true) : s < n := by
  rcases Nat.lt_or_ge s n with q | q
  · exact q
  · rw [Nat.testBit_lt_two_pow (Nat.lt_of_lt_of_le hS (Nat.pow_le_pow_right (by omega) q))] at h
    cases h
theorem dp_xor_tb {Q S : Nat} (h : Q &&& S = Q) (s : Nat) : (S ^^^ Q).testBit s = (S.testBit s && !Q.testBit s) := by
  rw [Nat.testBit_xor]
  cases hq : Q.testBit s
  · cases S.testBit s <;> rfl
  · rw [dp_sub_tb h s hq]; rfl
theorem dp_lower {wt : Nat → Nat → Nat} {V n : Nat} (h0 : ∀ v, v < V → wt v 0 = 0) : ∀ j, j ≤ V → ∀ (S : Nat) (p : Nat → Nat), S < 2 ^ n → dp_ok V j p S → dp_tab wt V j S ≤ dp_sum wt V n p S j
  | 0, _, S, p, hS, hp => by
    unfold dp_tab dp_sum
    have e : dp_mask n p V S = S := by
      apply Nat.eq_of_testBit_eq
      intro i
      rw [dp_mask_tb]
      cases hi : S.testBit i
      · simp
      · have h1 := dp_big hS hi
        rcases hp i hi with q | q
        · simp [h1, q]
        · omega
    rw [e]
    exact Nat.le_refl _
  | j + 1, hj, S, p, hS, hp => by
    have hM : dp_mask n p j S &&& S = dp_mask n p j S := dp_tb_sub (fun s hs => by rw [dp_mask_tb] at hs; simp at hs; exact hs.2.1)
    unfold dp_tab dp_join dp_sum
    by_cases hz : dp_mask n p j S = 0
    · rw [hz, h0 j (by omega), Nat.add_zero]
      refine Nat.le_trans (dp_part_le _ _ _) (dp_lower h0 j (by omega) S p hS (fun s hs => ?_))
      rcases hp s hs with q | q
      · exact Or.inl q
      · rcases Nat.lt_or_ge (p s) j with q2 | q2
        · exact Or.inr q2
        · exfalso
          have e : (dp_mask n p j S).testBit s = true := by
            rw [dp_mask_tb, hs]
            have h1 := dp_big hS hs
            have h2 : p s = j := by omega
            simp [h1, h2]
          rw [hz] at e
          simp at e
    · have hle : dp_mask n p j S ≤ S := by
        have h1 : dp_mask n p j S &&& S ≤ S := Nat.and_le_right
        rwa [hM] at h1
      refine Nat.le_trans (dp_part_all (S + 1) S _ (by omega) (Nat.and_self S) (dp_mask n p j S) hM (by omega) hle) ?_
      refine Nat.add_le_add_right ?_ _
      have hS2 : S ^^^ dp_mask n p j S < 2 ^ n := Nat.xor_lt_two_pow hS (Nat.lt_of_le_of_lt hle hS)
      rw [dp_sum_congr (p := p) (p2 := p) (S := S) (S2 := S ^^^ dp_mask n p j S) j (fun v hv => ?_)]
      · refine dp_lower h0 j (by omega) _ p hS2 (fun s hs => ?_)
        rw [dp_xor_tb hM] at hs
        simp at hs
        rcases hp s hs.1 with q | q
        · exact Or.inl q
        · rcases Nat.lt_or_ge (p s) j with q2 | q2
          · exact Or.inr q2
          · exfalso
            have e : (dp_mask n p j S).testBit s = true := by
              rw [dp_mask_tb, hs.1]
              have h1 := dp_big hS hs.1
              have h2 : p s = j := by omega
              simp [h1, h2]
            rw [hs.2] at e
            cases e
      · apply Nat.eq_of_testBit_eq
        intro i
        rw [dp_mask_tb, dp_mask_tb, dp_xor_tb hM, dp_mask_tb]
        by_cases h1 : p i = v
        · have h2 : (p i == j) = false := beq_eq_false_iff_ne.mpr (by omega)
          rw [h2]
          cases decide (i < n) <;> cases S.testBit i <;> cases (p i == v) <;> rfl
        · have h2 : (p i == v) = false := beq_eq_false_iff_ne.mpr h1
          rw [h2]
          cases decide (i < n) <;> cases S.testBit i <;> cases (p i == j) <;> rfl
theorem dp_reach {wt : Nat → Nat → Nat} {V n : Nat} (h0 : ∀ v, v < V → wt v 0 = 0) : ∀ j, j ≤ V → ∀ (S : Nat), S < 2 ^ n → ∃ p : Nat → Nat, dp_ok V j p S ∧ dp_tab wt V j S = dp_sum wt V n p S j
  | 0, _, S, hS => by
    refine ⟨fun _ => V, fun s _ => Or.inl rfl, ?_⟩
    unfold dp_tab dp_sum
    have e : dp_mask n (fun _ => V) V S = S := by
      apply Nat.eq_of_testBit_eq
      intro i
      rw [dp_mask_tb]
      cases hi : S.testBit i
      · simp
      · have h1 := dp_big hS hi
        simp [h1]
    rw [e]
  | j + 1, hj, S, hS => by
    rcases dp_part_in (B := dp_tab wt V j) (w := wt j) (S := S) (S + 1) S (dp_tab wt V j S) (Nat.and_self S) with h | ⟨Q, hQ, hq, h⟩
    · obtain ⟨p, hp, e⟩ := dp_reach h0 j (by omega) S hS
      refine ⟨p, fun s hs => ?_, ?_⟩
      · rcases hp s hs with q | q
        · exact Or.inl q
        · exact Or.inr (by omega)
      · unfold dp_tab dp_join dp_sum
        have hz : dp_mask n p j S = 0 := by
          apply Nat.eq_of_testBit_eq
          intro i
          rw [dp_mask_tb, Nat.zero_testBit]
          cases hi : S.testBit i
          · simp
          · have h1 : p i ≠ j := by
              rcases hp i hi with q | q <;> omega
            simp [h1]
        rw [h, e, hz, h0 j (by omega), Nat.add_zero]
    · have hle : Q ≤ S := by
        have h1 : Q &&& S ≤ S := Nat.and_le_right
        rwa [hQ] at h1
      have hS2 : S ^^^ Q < 2 ^ n := Nat.xor_lt_two_pow hS (Nat.lt_of_le_of_lt hle hS)
      obtain ⟨p, hp, e⟩ := dp_reach h0 j (by omega) (S ^^^ Q) hS2
      refine ⟨fun s => if Q.testBit s then j else p s, fun s hs => ?_, ?_⟩
      · by_cases hz : Q.testBit s = true
        · right
          simp [hz]
        · have h1 := hp s (by rw [dp_xor_tb hQ, hs]; simp [hz])
          simp only [hz]
          rcases h1 with q | q
          · exact Or.inl q
          · exact Or.inr (Nat.lt_succ_of_lt q)
      · unfold dp_tab dp_join dp_sum
        have hm : dp_mask n (fun s => if Q.testBit s then j else p s) j S = Q := by
          apply Nat.eq_of_testBit_eq
          intro i
          rw [dp_mask_tb]
          cases hi : Q.testBit i
          · cases hs : S.testBit i
            · simp
            · have h1 : p i ≠ j := by
                rcases hp i (by rw [dp_xor_tb hQ, hs, hi]; rfl) with q | q <;> omega
              simp [h1]
          · have h1 := dp_sub_tb hQ i hi
            have h2 := dp_big hS h1
            simp [h1, h2]
        rw [h, e, hm]
        congr 1
        refine dp_sum_congr j (fun v hv => ?_)
        apply Nat.eq_of_testBit_eq
        intro i
        rw [dp_mask_tb, dp_mask_tb, dp_xor_tb hQ]
        cases hi : Q.testBit i
        · simp
        · have h1 : j ≠ v := by omega
          simp [h1]
