/-! the weight of a plan: moves, cost, digits -/
/-- the sum over V and 0 .. j - 1 -/
def sm_s (g : Nat → Nat) (V : Nat) : Nat → Nat
  | 0 => g V
  | j + 1 => sm_s g V j + g j
theorem sm_congr {g h : Nat → Nat} {V : Nat} : ∀ j, (∀ v, v = V ∨ v < j → g v = h v) → sm_s g V j = sm_s h V j
  | 0, e => e V (Or.inl rfl)
  | j + 1, e => by
    unfold sm_s
    rw [sm_congr j (fun v hv => e v (by omega)), e j (Or.inr (by omega))]
theorem sm_add {g h : Nat → Nat} {V : Nat} : ∀ j, sm_s (fun v => g v + h v) V j = sm_s g V j + sm_s h V j
  | 0 => rfl
  | j + 1 => by
    unfold sm_s
    rw [sm_add j]
    omega
theorem sm_zero {V : Nat} : ∀ j, sm_s (fun _ => 0) V j = 0
  | 0 => rfl
  | j + 1 => by unfold sm_s; rw [sm_zero j]
theorem sm_one {c : Nat → Nat} {V x : Nat} : ∀ j, j ≤ V → sm_s (fun v => if x = v then c v else 0) V j = if x = V ∨ x < j then c x else 0
  | 0, _ => by
    unfold sm_s
    by_cases h : x = V
    · simp [h]
    · simp [h]
  | j + 1, hj => by
    unfold sm_s
    rw [sm_one j (by omega)]
    by_cases h : x = j
    · subst h
      have h1 : ¬ (x = V ∨ x < x) := by omega
      have h2 : x = V ∨ x < x + 1 := by omega
      rw [if_neg h1, if_pos rfl, if_pos h2]
      omega
    · rw [if_neg h]
      by_cases h1 : x = V ∨ x < j
      · rw [if_pos h1, if_pos (by omega)]
        omega
      · rw [if_neg h1, if_neg (by omega)]
theorem sm_dp {wt : Nat → Nat → Nat} {V n : Nat} {p : Nat → Nat} {S : Nat} : ∀ j, dp_sum wt V n p S j = sm_s (fun v => wt v (dp_mask n p v S)) V j
  | 0 => rfl
  | j + 1 => by unfold dp_sum sm_s; rw [sm_dp j]
theorem sm_ge {g : Nat → Nat} {V v : Nat} : ∀ j, (v = V ∨ v < j) → g v ≤ sm_s g V j
  | 0, h => by
    have : v = V := by omega
    rw [this]
    exact Nat.le_refl _
  | j + 1, h => by
    unfold sm_s
    by_cases e : v = j
    · rw [e]; exact Nat.le_add_left _ _
    · exact Nat.le_trans (sm_ge j (by omega)) (Nat.le_add_right _ _)
/-- the stops that p gives to v -/
abbrev wt_m (n : Nat) (p : Nat → Nat) (v : Nat) : Nat := ds_bits (fun x => p x == v) n
theorem wt_mask {n : Nat} {p : Nat → Nat} {v : Nat} : dp_mask n p v (2 ^ n - 1) = wt_m n p v := ds_bits_congr n (fun i hi => by rw [Nat.testBit_two_pow_sub_one, decide_eq_true hi, Bool.true_and])
theorem wt_tb {n : Nat} {p : Nat → Nat} {v x : Nat} (hx : x < n) : (wt_m n p v).testBit x = (p x == v) := by rw [ds_bits_tb, decide_eq_true hx, Bool.true_and]
/-- digits and moves of the stops below i -/
def wt_dg (p : Nat → Nat) : Nat → Nat
  | 0 => 0
  | i + 1 => wt_dg p i + p i * 2 ^ (2 * (7 - i))
theorem wt_acc {f : Nat → Nat → Nat} {V n : Nat} {p : Nat → Nat} (hp : ∀ x, x < n → p x ≤ V) : ∀ i, i ≤ n → sm_s (fun v => ds_acc f v (wt_m n p v) i) V V = wt_dg p i + ds_cnt (fun x => p x != f 10 x) i * 1099511627776
  | 0, _ => by
    rw [show (fun v => ds_acc f v (wt_m n p v) 0) = fun _ => 0 from rfl, sm_zero]
    simp [wt_dg, ds_cnt]
  | i + 1, hi => by
    have ih := wt_acc (f := f) hp i (by omega)
    have e : ∀ v, v = V ∨ v < V → ds_acc f v (wt_m n p v) (i + 1) = ds_acc f v (wt_m n p v) i + (if p i = v then v * 2 ^ (2 * (7 - i)) + (if f 10 i = v then 0 else 1099511627776) else 0) := fun v _ => by
      rw [show ds_acc f v (wt_m n p v) (i + 1) = if (wt_m n p v).testBit i then ds_acc f v (wt_m n p v) i + v * 2 ^ (2 * (7 - i)) + (if f 10 i = v then 0 else 1099511627776) else ds_acc f v (wt_m n p v) i from rfl, wt_tb (by omega)]
      by_cases h : p i = v
      · rw [if_pos (by simp [h]), if_pos h]
        omega
      · rw [if_neg (by simp [h]), if_neg h]
        rfl
    rw [sm_congr V e, sm_add, ih, sm_one (c := fun v => v * 2 ^ (2 * (7 - i)) + (if f 10 i = v then 0 else 1099511627776)) V (Nat.le_refl _), if_pos (by have := hp i (by omega); omega)]
    rw [show wt_dg p (i + 1) = wt_dg p i + p i * 2 ^ (2 * (7 - i)) from rfl, show ds_cnt (fun x => p x != f 10 x) (i + 1) = if (p i != f 10 i) then ds_cnt (fun x => p x != f 10 x) i + 1 else ds_cnt (fun x => p x != f 10 x) i from rfl]
    by_cases h : f 10 i = p i
    · rw [if_pos h, if_neg (by simp [h])]
      omega
    · rw [if_neg h, if_pos (by simp; omega)]
      omega
theorem wt_bad {f : Nat → Nat → Nat} {n v : Nat} {p : Nat → Nat} : ∀ i, i ≤ n → (ds_bad f v (wt_m n p v) i = true ↔ ∃ x, x < i ∧ p x = v ∧ ¬ ds_may f x v = true)
  | 0, _ => by
    constructor
    · intro h; exact absurd (show false = true from h) (by decide)
    · rintro ⟨x, hx, _⟩; omega
  | i + 1, hi => by
    have ih := wt_bad (f := f) (n := n) (v := v) (p := p) i (by omega)
    rw [show ds_bad f v (wt_m n p v) (i + 1) = (ds_bad f v (wt_m n p v) i || ((wt_m n p v).testBit i && !ds_may f i v)) from rfl, wt_tb (by omega), Bool.or_eq_true, ih]
    constructor
    · rintro (⟨x, h1, h2, h3⟩ | h)
      · exact ⟨x, by omega, h2, h3⟩
      · simp at h
        exact ⟨i, by omega, h.1, by simp [h.2]⟩
    · rintro ⟨x, h1, h2, h3⟩
      by_cases e : x = i
      · subst e
        right
        simp [h2]
        simpa using h3
      · exact Or.inl ⟨x, by omega, h2, h3⟩
theorem wt_ap {F : Nat → Nat → Nat} {p : Nat → Nat} : ∀ i, (md_ap F p i = true ↔ ∀ x, x < i → ds_may F x (p x) = true)
  | 0 => ⟨fun _ x hx => absurd hx (Nat.not_lt_zero _), fun _ => rfl⟩
  | i + 1 => by
    rw [show md_ap F p (i + 1) = (md_ap F p i && ds_may F i (p i)) from rfl, Bool.and_eq_true, wt_ap i]
    constructor
    · intro h x hx
      by_cases e : x = i
      · rw [e]; exact h.2
      · exact h.1 x (by omega)
    · intro h
      exact ⟨fun x hx => h x (by omega), h i (by omega)⟩
theorem wt_ho {F : Nat → Nat → Nat} {p : Nat → Nat} : ∀ v, (md_ho F p v = true ↔ ∀ w, w < v → ds_tm F (fun x => p x == w) w - F 19 w ≤ F 1 16)
  | 0 => ⟨fun _ x hx => absurd hx (Nat.not_lt_zero _), fun _ => rfl⟩
  | v + 1 => by
    rw [show md_ho F p (v + 1) = (md_ho F p v && decide (ds_tm F (fun x => p x == v) v - F 19 v ≤ F 1 16)) from rfl, Bool.and_eq_true, wt_ho v, decide_eq_true_eq]
    constructor
    · intro h w hw
      by_cases e : w = v
      · rw [e]; exact h.2
      · exact h.1 w (by omega)
    · intro h
      exact ⟨fun x hx => h x (by omega), h v (by omega)⟩
theorem wt_tm {f : Nat → Nat → Nat} (h : ds_rows f) {p : Nat → Nat} {v : Nat} (hv : v < f 1 0) : ds_tm f (fun x => (wt_m (f 1 1) p v).testBit x) v = ds_tm f (fun x => p x == v) v := ds_tm_pc h hv (fun x hx => wt_tb hx)
/-- what the plan p weighs -/
abbrev wt_p (f : Nat → Nat → Nat) (p : Nat → Nat) : Nat := dp_sum (ds_wt f) (f 1 0) (f 1 1) p (2 ^ f 1 1 - 1) (f 1 0)
theorem wt_cs {f : Nat → Nat → Nat} {p : Nat → Nat} : ∀ j, j ≤ f 1 0 → sm_s (fun v => if v = f 1 0 then 0 else (ds_tm f (fun x => p x == v) v + (ds_tm f (fun x => p x == v) v - f 19 v)) * 2 ^ 16) (f 1 0) j = ds_cst f p j * 2 ^ 16
  | 0, _ => by
    unfold sm_s
    rw [if_pos rfl]
    simp [ds_cst]
  | j + 1, hj => by
    unfold sm_s
    rw [wt_cs j (by omega), if_neg (by omega), show ds_cst f p (j + 1) = ds_cst f p j + (ds_tm f (fun x => p x == j) j + (ds_tm f (fun x => p x == j) j - f 19 j)) from rfl]
    omega
theorem wt_hold {f : Nat → Nat → Nat} (ok : ds_ok f) {p : Nat → Nat} (hp : md_val f p) (hh : md_hold f p = true) : wt_p f p = md_mv f p * 1099511627776 + md_cs f p * 2 ^ 16 + wt_dg p (f 1 1) := by
  have hrw := ok.2.2.2.2.2.2.2
  unfold md_hold at hh
  rw [Bool.and_eq_true, wt_ap, wt_ho] at hh
  have e : ∀ v, v = f 1 0 ∨ v < f 1 0 → ds_wt f v (dp_mask (f 1 1) p v (2 ^ f 1 1 - 1)) = ds_acc f v (wt_m (f 1 1) p v) (f 1 1) + (if v = f 1 0 then 0 else (ds_tm f (fun x => p x == v) v + (ds_tm f (fun x => p x == v) v - f 19 v)) * 2 ^ 16) := fun v hv => by
    rw [wt_mask]
    unfold ds_wt
    have hb : ¬ ds_bad f v (wt_m (f 1 1) p v) (f 1 1) = true := fun q => by
      obtain ⟨x, h1, h2, h3⟩ := (wt_bad (f 1 1) (Nat.le_refl _)).mp q
      rw [← h2] at h3
      exact h3 (hh.1 x h1)
    rw [if_neg hb]
    by_cases ev : v = f 1 0
    · rw [if_pos ev, if_pos ev]
      rfl
    · rw [if_neg ev, if_neg ev, wt_tm hrw (by omega), if_neg (by have := hh.2 v (by omega); omega)]
  unfold wt_p
  rw [sm_dp, sm_congr (f 1 0) e, sm_add, wt_acc hp (f 1 1) (Nat.le_refl _), wt_cs (f 1 0) (Nat.le_refl _)]
  show _ = ds_cnt (fun x => p x != f 10 x) (f 1 1) * 1099511627776 + ds_cst f p (f 1 0) * 2 ^ 16 + wt_dg p (f 1 1)
  omega
theorem wt_not {f : Nat → Nat → Nat} (ok : ds_ok f) {p : Nat → Nat} (hp : md_val f p) (hh : ¬ md_hold f p = true) : 1152921504606846976 ≤ wt_p f p := by
  have hrw := ok.2.2.2.2.2.2.2
  unfold md_hold at hh
  rw [Bool.and_eq_true, wt_ap, wt_ho] at hh
  unfold wt_p
  rw [sm_dp]
  by_cases h1 : ∀ x, x < f 1 1 → ds_may f x (p x) = true
  · have h2 : ¬ ∀ w, w < f 1 0 → ds_tm f (fun x => p x == w) w - f 19 w ≤ f 1 16 := fun q => hh ⟨h1, q⟩
    obtain ⟨w, h3⟩ := Classical.not_forall.mp h2
    obtain ⟨hw, h4⟩ := Classical.not_imp.mp h3
    refine Nat.le_trans ?_ (sm_ge (v := w) (f 1 0) (Or.inr hw))
    show 1152921504606846976 ≤ ds_wt f w (dp_mask (f 1 1) p w (2 ^ f 1 1 - 1))
    rw [wt_mask]
    unfold ds_wt
    by_cases hb : ds_bad f w (wt_m (f 1 1) p w) (f 1 1) = true
    · rw [if_pos hb]; exact Nat.le_refl _
    · rw [if_neg hb, if_neg (by omega), wt_tm hrw hw, if_pos (by omega)]
      exact Nat.le_refl _
  · obtain ⟨x, h3⟩ := Classical.not_forall.mp h1
    obtain ⟨hx, h4⟩ := Classical.not_imp.mp h3
    refine Nat.le_trans ?_ (sm_ge (v := p x) (f 1 0) (by have := hp x hx; omega))
    show 1152921504606846976 ≤ ds_wt f (p x) (dp_mask (f 1 1) p (p x) (2 ^ f 1 1 - 1))
    rw [wt_mask]
    unfold ds_wt
    rw [if_pos ((wt_bad (f 1 1) (Nat.le_refl _)).mpr ⟨x, hx, rfl, h4⟩)]
    exact Nat.le_refl _
