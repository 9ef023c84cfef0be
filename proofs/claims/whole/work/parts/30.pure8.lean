/-! the search: weights, and what its scratch rows leave alone -/
theorem dp_part_two {B w : Nat → Nat} {S : Nat} : ∀ k k2 P m, P < k → P < k2 → dp_part B w S k P m = dp_part B w S k2 P m
  | 0, _, P, m, h, _ => absurd h (Nat.not_lt_zero _)
  | _ + 1, 0, P, m, _, h => absurd h (Nat.not_lt_zero _)
  | k + 1, k2 + 1, P, m, h, h2 => by
    unfold dp_part
    by_cases hz : P = 0
    · rw [if_pos hz, if_pos hz]
    · rw [if_neg hz, if_neg hz]
      have h3 : (P - 1) &&& S ≤ P - 1 := Nat.and_le_left
      exact dp_part_two k k2 _ _ (by omega) (by omega)
theorem dp_part_fuel {B w : Nat → Nat} {S : Nat} (k P m : Nat) (h : P < k) : dp_part B w S k P m = dp_part B w S (P + 1) P m := dp_part_two k (P + 1) P m h (by omega)
theorem dp_join0 (B w : Nat → Nat) : dp_join B w 0 = B 0 := rfl
theorem dp_xor_lt {P S : Nat} (h : P &&& S = P) (h0 : 0 < P) : S ^^^ P < S := by
  have h1 : (S ^^^ P) &&& S = S ^^^ P := dp_tb_sub (fun s hs => by rw [dp_xor_tb h] at hs; simp at hs; exact hs.1)
  have h2 : (S ^^^ P) &&& S ≤ S := Nat.and_le_right
  rw [h1] at h2
  rcases Nat.eq_or_lt_of_le h2 with q | q
  · exfalso
    have h3 : P = 0 := by
      have h4 : S ^^^ (S ^^^ P) = P := by rw [← Nat.xor_assoc, Nat.xor_self, Nat.zero_xor]
      rw [q, Nat.xor_self] at h4
      exact h4.symm
    omega
  · exact q
def ds_acc (f : Nat → Nat → Nat) (v t : Nat) : Nat → Nat
  | 0 => 0
  | i + 1 => if t.testBit i then ds_acc f v t i + v * 2 ^ (2 * (7 - i)) + (if f 10 i = v then 0 else 1099511627776) else ds_acc f v t i
def ds_bad (f : Nat → Nat → Nat) (v t : Nat) : Nat → Bool
  | 0 => false
  | i + 1 => ds_bad f v t i || (t.testBit i && !ds_may f i v)
theorem ds_bad_mono {f : Nat → Nat → Nat} {v t i n : Nat} (h : ds_bad f v t i = true) (hn : i ≤ n) : ds_bad f v t n = true := by
  induction hn with
  | refl => exact h
  | step _ ih => simp [ds_bad, ih]
def ds_wt (f : Nat → Nat → Nat) (v t : Nat) : Nat := if ds_bad f v t (f 1 1) = true then 1152921504606846976 else if v = f 1 0 then ds_acc f v t (f 1 1) else if f 1 16 < ds_tm f (fun x => t.testBit x) v - f 19 v then 1152921504606846976 else ds_acc f v t (f 1 1) + (ds_tm f (fun x => t.testBit x) v + (ds_tm f (fun x => t.testBit x) v - f 19 v)) * 2 ^ 16
theorem ds_acc_b {f : Nat → Nat → Nat} {v t : Nat} (hv : v ≤ 3) : ∀ i, i ≤ 8 → ds_acc f v t i ≤ 1099511700000 * i
  | 0, _ => by simp [ds_acc]
  | i + 1, h => by
    have ih := ds_acc_b (f := f) (t := t) hv i (by omega)
    have h1 : 2 ^ (2 * (7 - i)) ≤ 2 ^ 14 := Nat.pow_le_pow_right (by omega) (by omega)
    have h2 : v * 2 ^ (2 * (7 - i)) ≤ 3 * 2 ^ 14 := Nat.mul_le_mul hv h1
    unfold ds_acc
    split
    · split <;> omega
    · omega
theorem ds_wt_b {f : Nat → Nat → Nat} (ok : ds_ok f) {v t : Nat} (hv : v ≤ f 1 0) : ds_wt f v t ≤ 1152921504606846976 := by
  have h1 := ds_acc_b (f := f) (t := t) (v := v) (by have := ok.1; omega) (f 1 1) ok.2.1
  have h3 := ok.2.1
  unfold ds_wt
  split
  · exact Nat.le_refl _
  · split
    · omega
    · rename_i hz
      have h2 := ds_tm_b ok (fun x => t.testBit x) (v := v) (by omega)
      split
      · exact Nat.le_refl _
      · omega
/-- cells of scratch and of what ds_ok does not speak of -/
def ds_scr (k : Nat) : Prop := k = 7 ∨ k = 17 ∨ k = 21 ∨ (25 ≤ k ∧ k ≤ 27) ∨ 38 ≤ k
theorem ds_rows_congr {f u : Nat → Nat → Nat} (h : ∀ k, ¬ ds_scr k → u k = f k) (hr : ds_rows f) (hV : f 1 0 ≤ 3) : ds_rows u := by
  unfold ds_rows at *
  unfold ds_scr at h
  refine ⟨fun v r hv hr2 => ?_, fun x hx => ?_⟩
  · rw [h 1 (by omega)] at hv
    rw [h 15 (by omega)] at hr2
    rw [h (22 + v) (by omega), h 1 (by omega), h 10 (by omega), h 11 (by omega)]
    exact hr.1 v r hv hr2
  · rw [h 1 (by omega)] at hx
    have h1 := hr.2 x hx
    rw [h 10 (by omega), h 11 (by omega), h 1 (by omega), h 15 (by omega), h (22 + f 10 x) (by omega)]
    exact h1
theorem ds_ok_congr {f u : Nat → Nat → Nat} (h : ∀ k, ¬ ds_scr k → u k = f k) (ok : ds_ok f) : ds_ok u := by
  obtain ⟨hV, hn, hex, hst, hve, hwy, hw0, hrw⟩ := ok
  have h2 := ds_rows_congr h hrw hV.2
  unfold ds_scr at h
  unfold ds_ok
  rw [h 1 (by omega), h 8 (by omega), h 9 (by omega), h 12 (by omega), h 13 (by omega), h 5 (by omega), h 6 (by omega), h 18 (by omega), h 19 (by omega), h 28 (by omega)]
  refine ⟨hV, hn, hex, hst, hve, fun i j hi hj => ?_, hw0, h2⟩
  rw [h (28 + i) (by omega)]
  exact hwy i j hi hj
theorem ds_rd_congr {f u : Nat → Nat → Nat} (h : ∀ k, ¬ ds_scr k → u k = f k) (P : Nat → Bool) {v : Nat} (hv : v < 3) : ds_rd u P v = ds_rd f P v := by
  unfold ds_scr at h
  unfold ds_rd ds_row ds_oth
  rw [h (22 + v) (by omega), h 15 (by omega), h 10 (by omega), h 1 (by omega)]
theorem ds_tm_congr {f u : Nat → Nat → Nat} (h : ∀ k, ¬ ds_scr k → u k = f k) (ok : ds_ok f) (P : Nat → Bool) {v : Nat} (hv : v < f 1 0) : ds_tm u P v = ds_tm f P v := by
  have e := ds_rd_congr h P (v := v) (by have := ok.1; omega)
  obtain ⟨hV, hn, hex, hst, hve, hwy, hw0, hrw⟩ := ok
  unfold ds_tm ds_time
  rw [e]
  have hm : ∀ x ∈ ds_rd f P v, x < f 1 1 := fun x hx => (dr_rd_in hrw P hv hx).1
  have h8 : u 8 = f 8 := h 8 (by unfold ds_scr; omega)
  have h9 : u 9 = f 9 := h 9 (by unfold ds_scr; omega)
  have hw : ∀ i j, i < 10 → j < 10 → u (28 + i) j = f (28 + i) j := fun i j hi _ => by rw [h (28 + i) (by unfold ds_scr; omega)]
  have hf : ds_fold (fun i j => u (28 + i) j) (u 8) (u 9) (ds_rd f P v) = ds_fold (fun i j => f (28 + i) j) (f 8) (f 9) (ds_rd f P v) := by
    unfold ds_fold
    rw [h8, h9]
    exact ds_fold_congr _ _ (fun x hx => ⟨rfl, rfl, (hst x (hm x hx)).1⟩) (by decide) hw
  rw [hf]
  have hb := (ds_fold_b (w := fun i j => f (28 + i) j) (pl := f 8) (sv := f 9) hwy (ds_rd f P v) (0, 0) (fun x hx => ⟨(hst x (hm x hx)).1, (hst x (hm x hx)).2.1⟩) (by decide)).2
  exact congrArg _ (hw _ 0 hb (by decide))
theorem ds_may_congr {f u : Nat → Nat → Nat} (h : ∀ k, ¬ ds_scr k → u k = f k) (x v : Nat) : ds_may u x v = ds_may f x v := by
  unfold ds_scr at h
  unfold ds_may ds_can
  rw [h 12 (by omega), h 10 (by omega), h 1 (by omega), h 13 (by omega), h 18 (by omega), h 11 (by omega)]
theorem ds_bad_congr {f u : Nat → Nat → Nat} (h : ∀ k, ¬ ds_scr k → u k = f k) (v t : Nat) : ∀ i, ds_bad u v t i = ds_bad f v t i
  | 0 => rfl
  | i + 1 => by
    unfold ds_bad
    rw [ds_bad_congr h v t i, ds_may_congr h]
theorem ds_acc_congr {f u : Nat → Nat → Nat} (h : ∀ k, ¬ ds_scr k → u k = f k) (v t : Nat) : ∀ i, ds_acc u v t i = ds_acc f v t i
  | 0 => rfl
  | i + 1 => by
    unfold ds_acc
    rw [ds_acc_congr h v t i, h 10 (by unfold ds_scr; omega)]
theorem ds_wt_congr {f u : Nat → Nat → Nat} (h : ∀ k, ¬ ds_scr k → u k = f k) (ok : ds_ok f) {v : Nat} (hv : v ≤ f 1 0) (t : Nat) : ds_wt u v t = ds_wt f v t := by
  unfold ds_wt
  rw [ds_bad_congr h, ds_acc_congr h, h 1 (by unfold ds_scr; omega), h 19 (by unfold ds_scr; omega)]
  by_cases e : v = f 1 0
  · simp [e]
  · rw [ds_tm_congr h ok _ (by omega)]
theorem ds_su_agree {f : Nat → Nat → Nat} {K : Nat} {h : Nat → Nat} (hK : ds_scr K) : ∀ k, ¬ ds_scr k → dw_su f K h k = f k := fun k hk => dw_su_ne (fun e => hk (e ▸ hK))
theorem dp_part_congr {B w B2 w2 : Nat → Nat} {S : Nat} : ∀ k P m, P &&& S = P → (∀ z, z ≤ S → B z = B2 z) → (∀ z, z ≤ S → w z = w2 z) → dp_part B w S k P m = dp_part B2 w2 S k P m
  | 0, _, _, _, _, _ => rfl
  | k + 1, P, m, hP, hB, hw => by
    unfold dp_part
    by_cases hz : P = 0
    · rw [if_pos hz, if_pos hz]
    · have h1 : P ≤ S := by
        have h2 : P &&& S ≤ S := Nat.and_le_right
        rwa [hP] at h2
      rw [if_neg hz, if_neg hz, hB (S ^^^ P) (Nat.le_of_lt (dp_xor_lt hP (by omega))), hw P h1]
      exact dp_part_congr k _ _ (by rw [Nat.and_assoc, Nat.and_self]) hB hw
theorem dp_join_congr {B w B2 w2 : Nat → Nat} {q : Nat} (hB : ∀ z, z ≤ q → B z = B2 z) (hw : ∀ z, z ≤ q → w z = w2 z) : dp_join B w q = dp_join B2 w2 q := by
  unfold dp_join
  rw [hB q (Nat.le_refl _)]
  exact dp_part_congr _ _ _ (Nat.and_self q) hB hw
theorem dp_tab_b {wt : Nat → Nat → Nat} {V b : Nat} (h : ∀ v, v ≤ V → ∀ y, wt v y ≤ b) : ∀ {j : Nat}, j ≤ V → ∀ y, dp_tab wt V j y ≤ b
  | 0, _, y => h V (Nat.le_refl _) y
  | j + 1, hj, y => Nat.le_trans (dp_part_le _ _ _) (dp_tab_b h (by omega) y)
