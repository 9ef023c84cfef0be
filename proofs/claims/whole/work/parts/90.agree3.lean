/-! the class's least weight and the reference's best plan are the same -/
theorem wt_4 (k : Nat) : 2 ^ (2 * k) = 4 ^ k := by rw [Nat.pow_mul]
theorem wt_4s {x : Nat} (h : x ≤ 7) : (4 : Nat) ^ (8 - x) = 4 ^ (7 - x) * 4 := by rw [show 8 - x = (7 - x) + 1 by omega, Nat.pow_succ]
theorem wt_code (p : Nat → Nat) : ∀ n, n ≤ 8 → wt_dg p n = md_code 4 p n * 4 ^ (8 - n)
  | 0, _ => by simp [wt_dg, md_code]
  | n + 1, h => by
    have e := wt_4s (x := n) (by omega)
    rw [show wt_dg p (n + 1) = wt_dg p n + p n * 2 ^ (2 * (7 - n)) from rfl, wt_code p n (by omega), wt_4, show md_code 4 p (n + 1) = md_code 4 p n * 4 + p n from rfl, e, show 8 - (n + 1) = 7 - n by omega, Nat.add_mul, Nat.mul_assoc, Nat.mul_comm (4 ^ (7 - n)) 4]
theorem wt_dg_b {p : Nat → Nat} : ∀ n, n ≤ 8 → (∀ x, x < n → p x ≤ 3) → wt_dg p n + 4 ^ (8 - n) ≤ 4 ^ 8
  | 0, _, _ => by simp [wt_dg]
  | n + 1, h, hp => by
    have ih := wt_dg_b n (by omega) (fun x hx => hp x (by omega))
    have e := wt_4s (x := n) (by omega)
    have h1 : p n * 4 ^ (7 - n) ≤ 3 * 4 ^ (7 - n) := Nat.mul_le_mul_right _ (hp n (by omega))
    rw [show wt_dg p (n + 1) = wt_dg p n + p n * 2 ^ (2 * (7 - n)) from rfl, wt_4, show 8 - (n + 1) = 7 - n by omega]
    omega
theorem wt_dg_at {p : Nat → Nat} {x : Nat} : ∀ n, x < n → n ≤ 8 → (∀ y, y < n → p y ≤ 3) → ∃ lo, wt_dg p n = md_code 4 p x * 4 ^ (8 - x) + p x * 4 ^ (7 - x) + lo ∧ lo + 4 ^ (8 - n) ≤ 4 ^ (7 - x)
  | 0, h, _, _ => absurd h (Nat.not_lt_zero _)
  | n + 1, h, h8, hp => by
    by_cases e : x = n
    · subst e
      refine ⟨0, ?_, ?_⟩
      · rw [show wt_dg p (x + 1) = wt_dg p x + p x * 2 ^ (2 * (7 - x)) from rfl, wt_code p x (by omega), wt_4]
        rfl
      · rw [show 8 - (x + 1) = 7 - x by omega]
        omega
    · obtain ⟨lo, h1, h2⟩ := wt_dg_at (x := x) n (by omega) (by omega) (fun y hy => hp y (by omega))
      have e4 := wt_4s (x := n) (by omega)
      have h3 : p n * 4 ^ (7 - n) ≤ 3 * 4 ^ (7 - n) := Nat.mul_le_mul_right _ (hp n (by omega))
      refine ⟨lo + p n * 4 ^ (7 - n), ?_, ?_⟩
      · rw [show wt_dg p (n + 1) = wt_dg p n + p n * 2 ^ (2 * (7 - n)) from rfl, h1, wt_4]
        omega
      · rw [show 8 - (n + 1) = 7 - n by omega]
        omega
theorem wt_digit {p : Nat → Nat} {n x K : Nat} (hx : x < n) (hn : n ≤ 8) (hp : ∀ y, y < n → p y ≤ 3) : (K * 65536 + wt_dg p n) / 2 ^ (2 * (7 - x)) &&& 3 = p x := by
  obtain ⟨lo, h1, h2⟩ := wt_dg_at n hx hn hp
  have h3 : 0 < (4 : Nat) ^ (8 - n) := Nat.pow_pos (by decide)
  have h4 : (65536 : Nat) = 4 ^ x * 4 ^ (8 - x) := by rw [← Nat.pow_add, show x + (8 - x) = 8 by omega]
  have e := wt_4s (x := x) (by omega)
  have h5 : K * 65536 + wt_dg p n = 4 ^ (7 - x) * ((K * 4 ^ x + md_code 4 p x) * 4 + p x) + lo := by
    rw [h1, h4, e]
    rw [Nat.mul_add, ← Nat.mul_assoc (4 ^ (7 - x)), Nat.mul_comm (4 ^ (7 - x)) (K * 4 ^ x + md_code 4 p x), Nat.add_mul, Nat.add_mul, Nat.mul_comm (4 ^ (7 - x)) (p x)]
    rw [show K * (4 ^ x * (4 ^ (7 - x) * 4)) = K * 4 ^ x * 4 ^ (7 - x) * 4 by rw [Nat.mul_assoc K, Nat.mul_assoc K, Nat.mul_assoc (4 ^ x)], show md_code 4 p x * (4 ^ (7 - x) * 4) = md_code 4 p x * 4 ^ (7 - x) * 4 by rw [Nat.mul_assoc]]
    omega
  have h6 := hp x hx
  rw [wt_4, h5, Nat.mul_add_div (Nat.pow_pos (by decide)), Nat.div_eq_of_lt (by omega), Nat.add_zero, show (3 : Nat) = 2 ^ 2 - 1 from rfl, Nat.and_two_pow_sub_one_eq_mod]
  omega
theorem wt_0 {f : Nat → Nat → Nat} (ok : ds_ok f) {v : Nat} (hv : v < f 1 0) : ds_wt f v 0 = 0 := by
  have hb : ∀ i, ds_bad f v 0 i = false := fun i => by
    induction i with
    | zero => rfl
    | succ i ih => simp [ds_bad, ih]
  have ha : ∀ i, ds_acc f v 0 i = 0 := fun i => by
    induction i with
    | zero => rfl
    | succ i ih => simp [ds_acc, ih]
  have hr : ds_rd f (fun x => Nat.testBit 0 x) v = [] := by
    unfold ds_rd ds_oth
    simp
  have ht : ds_tm f (fun x => Nat.testBit 0 x) v = 0 := by
    unfold ds_tm
    rw [hr]
    show 0 + f 28 0 = 0
    rw [ok.2.2.2.2.2.2.1]
  unfold ds_wt
  rw [if_neg (by rw [hb]; decide), if_neg (by omega), ht, if_neg (by omega), ha]
  simp
theorem run_none {f : Nat → Nat → Nat} (ok : ds_ok f) (h : ∀ q, md_val f q → ¬ md_hold f q = true) : ¬ ds_best f < 1152921504606846976 := by
  obtain ⟨p, hp, e⟩ := dp_reach (wt := ds_wt f) (V := f 1 0) (n := f 1 1) (fun v hv => wt_0 ok hv) (f 1 0) (Nat.le_refl _) (2 ^ f 1 1 - 1) (by have := Nat.one_le_two_pow (n := f 1 1); omega)
  have hv : md_val f p := fun x hx => by
    have q := hp x (by rw [Nat.testBit_two_pow_sub_one]; exact decide_eq_true hx)
    omega
  have h2 := wt_not ok hv (h p hv)
  have e2 : ds_best f = wt_p f p := e
  omega
theorem run_some {f : Nat → Nat → Nat} (ok : ds_ok f) {s0 : Nat → Nat} (hv : md_val f s0) (hh : md_hold f s0 = true) (hm : ∀ q, md_val f q → md_hold f q = true → md_le f s0 q) : ds_best f < 1152921504606846976 ∧ ∀ x, x < f 1 1 → ds_best f / 2 ^ (2 * (7 - x)) &&& 3 = s0 x := by
  have hn := ok.2.1
  have hV := ok.1
  have p3 : ∀ q, md_val f q → ∀ x, x < f 1 1 → q x ≤ 3 := fun q hq x hx => Nat.le_trans (hq x hx) hV.2
  have hlow : ds_best f ≤ wt_p f s0 := dp_lower (wt := ds_wt f) (V := f 1 0) (n := f 1 1) (fun v hv => wt_0 ok hv) (f 1 0) (Nat.le_refl _) (2 ^ f 1 1 - 1) s0 (by have := Nat.one_le_two_pow (n := f 1 1); omega) (fun x hx => by
    have q := hv x (by rw [Nat.testBit_two_pow_sub_one] at hx; exact of_decide_eq_true hx)
    omega)
  have k0 := wt_hold ok hv hh
  have b1 := ds_cst_b ok s0 (f 1 0) (Nat.le_refl _)
  have b2 := wt_dg_b (p := s0) (f 1 1) hn (p3 s0 hv)
  have b3 := md_mv_b f s0
  have b4 : 0 < (4 : Nat) ^ (8 - f 1 1) := Nat.pow_pos (by decide)
  have cs0 : md_cs f s0 ≤ 1020000 := by show ds_cst f s0 (f 1 0) ≤ 1020000; omega
  have hlt : ds_best f < 1152921504606846976 := by omega
  refine ⟨hlt, ?_⟩
  obtain ⟨p, hp, e⟩ := dp_reach (wt := ds_wt f) (V := f 1 0) (n := f 1 1) (fun v hv => wt_0 ok hv) (f 1 0) (Nat.le_refl _) (2 ^ f 1 1 - 1) (by have := Nat.one_le_two_pow (n := f 1 1); omega)
  have hvp : md_val f p := fun x hx => by
    have q := hp x (by rw [Nat.testBit_two_pow_sub_one]; exact decide_eq_true hx)
    omega
  have e2 : ds_best f = wt_p f p := e
  have hhp : md_hold f p = true := by
    by_cases q : md_hold f p = true
    · exact q
    · have := wt_not ok hvp q
      omega
  have k1 := wt_hold ok hvp hhp
  have c1 := ds_cst_b ok p (f 1 0) (Nat.le_refl _)
  have c2 := wt_dg_b (p := p) (f 1 1) hn (p3 p hvp)
  have cs1 : md_cs f p ≤ 1020000 := by show ds_cst f p (f 1 0) ≤ 1020000; omega
  have hle := hm p hvp hhp
  have hkey : wt_p f s0 ≤ wt_p f p := by
    rw [k0, k1]
    rcases hle with q | ⟨q1, q | ⟨q2, q3⟩⟩
    · omega
    · omega
    · have hd : wt_dg s0 (f 1 1) ≤ wt_dg p (f 1 1) := by
        rw [wt_code s0 _ hn, wt_code p _ hn]
        refine Nat.mul_le_mul_right _ (Nat.not_lt.mp (fun w => ?_))
        have w2 := (md_code_mono (B := 4) (B2 := f 1 0 + 1) (p := p) (q := s0) (f 1 1) (fun x hx => ⟨by have := p3 p hvp x hx; omega, Nat.lt_succ_of_le (hvp x hx)⟩) (fun x hx => ⟨by have := p3 s0 hv x hx; omega, Nat.lt_succ_of_le (hv x hx)⟩)).mp w
        exact absurd q3 (Nat.not_le.mpr w2)
      omega
  have hB : ds_best f = wt_p f s0 := by omega
  intro x hx
  rw [hB, k0, show md_mv f s0 * 1099511627776 + md_cs f s0 * 2 ^ 16 + wt_dg s0 (f 1 1) = (md_mv f s0 * 16777216 + md_cs f s0) * 65536 + wt_dg s0 (f 1 1) by omega]
  exact wt_digit hx hn (p3 s0 hv)
