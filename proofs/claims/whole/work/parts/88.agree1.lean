/-! agreement: two states of the class that look the same where it matters -/
def ag_eq (f F : Nat → Nat → Nat) : Prop := (F 1 0 = f 1 0 ∧ F 1 1 = f 1 1 ∧ F 1 16 = f 1 16) ∧ (∀ x, x < f 1 1 → F 8 x = f 8 x ∧ F 9 x = f 9 x ∧ F 10 x = f 10 x ∧ F 11 x = f 11 x ∧ F 12 x = f 12 x ∧ F 13 x = f 13 x ∧ F 5 x = f 5 x ∧ F 6 x = f 6 x) ∧ (∀ v, v < f 1 0 → F 15 v = f 15 v ∧ F 18 v = f 18 v ∧ F 19 v = f 19 v ∧ ∀ r, r < f 15 v → F (22 + v) r = f (22 + v) r) ∧ (∀ i j, i < 10 → j < 10 → F (28 + i) j = f (28 + i) j)
theorem ag_rows {f F : Nat → Nat → Nat} (h : ag_eq f F) (hr : ds_rows f) : ds_rows F := by
  obtain ⟨⟨a0, a1, a2⟩, hx, hv, hw⟩ := h
  refine ⟨fun v r h1 h2 => ?_, fun x h1 => ?_⟩
  · rw [a0] at h1
    obtain ⟨b1, b2, b3, b4⟩ := hv v h1
    rw [b1] at h2
    have q := hr.1 v r h1 h2
    have q2 := hx _ q.1
    rw [b4 r h2, a1, q2.2.2.1, q2.2.2.2.1]
    exact q
  · rw [a1] at h1
    have q := hr.2 x h1
    have q2 := hx x h1
    obtain ⟨b1, b2, b3, b4⟩ := hv _ q.1
    rw [q2.2.2.1, q2.2.2.2.1, a0, b1, b4 _ q.2.1]
    exact q
theorem ag_ok {f F : Nat → Nat → Nat} (h : ag_eq f F) (ok : ds_ok f) : ds_ok F := by
  obtain ⟨hV, hn, hex, hst, hve, hwy, hw0, hrw⟩ := ok
  have hr2 := ag_rows h hrw
  obtain ⟨⟨a0, a1, a2⟩, hx, hv, hw⟩ := h
  refine ⟨by rw [a0]; exact hV, by rw [a1]; exact hn, by rw [a2]; exact hex, fun x h1 => ?_, fun v h1 => ?_, fun i j h1 h2 => by rw [hw i j h1 h2]; exact hwy i j h1 h2, by rw [show F 28 0 = f 28 0 from hw 0 0 (by decide) (by decide)]; exact hw0, hr2⟩
  · rw [a1] at h1
    obtain ⟨b1, b2, b3, b4, b5, b6, b7, b8⟩ := hx x h1
    rw [b1, b2, b5, b6, b7, b8, a0]
    exact hst x h1
  · rw [a0] at h1
    obtain ⟨b1, b2, b3, b4⟩ := hv v h1
    rw [b2, b3]
    exact hve v h1
theorem ag_rd {f F : Nat → Nat → Nat} (h : ag_eq f F) (P : Nat → Bool) {v : Nat} (hv : v < f 1 0) : ds_rd F P v = ds_rd f P v := by
  obtain ⟨⟨a0, a1, a2⟩, hx, hv2, hw⟩ := h
  obtain ⟨b1, b2, b3, b4⟩ := hv2 v hv
  unfold ds_rd
  congr 1
  · unfold ds_row
    rw [b1]
    congr 1
    exact List.map_congr_left (fun r hr => b4 r (List.mem_range.mp hr))
  · unfold ds_oth
    rw [a1]
    exact List.filter_congr (fun x hx2 => by rw [(hx x (List.mem_range.mp hx2)).2.2.1])
theorem ag_tm {f F : Nat → Nat → Nat} (h : ag_eq f F) (ok : ds_ok f) (P : Nat → Bool) {v : Nat} (hv : v < f 1 0) : ds_tm F P v = ds_tm f P v := by
  have e := ag_rd h P hv
  obtain ⟨hV, hn, hex, hst, hve, hwy, hw0, hrw⟩ := ok
  obtain ⟨⟨a0, a1, a2⟩, hx, hv2, hw⟩ := h
  have hm : ∀ x ∈ ds_rd f P v, x < f 1 1 := fun x hx2 => (dr_rd_in hrw P hv hx2).1
  unfold ds_tm ds_time
  rw [e]
  have hf : ds_fold (fun i j => F (28 + i) j) (F 8) (F 9) (ds_rd f P v) = ds_fold (fun i j => f (28 + i) j) (f 8) (f 9) (ds_rd f P v) := by
    unfold ds_fold
    refine ds_fold_congr _ _ (fun x hx2 => ?_) (by decide) hw
    obtain ⟨b1, b2, b3⟩ := hx x (hm x hx2)
    exact ⟨b1, b2, by rw [b1]; exact (hst x (hm x hx2)).1⟩
  rw [hf]
  have hb := (ds_fold_b (w := fun i j => f (28 + i) j) (pl := f 8) (sv := f 9) hwy (ds_rd f P v) (0, 0) (fun x hx2 => ⟨(hst x (hm x hx2)).1, (hst x (hm x hx2)).2.1⟩) (by decide)).2
  exact congrArg _ (hw _ 0 hb (by decide))
theorem ag_can {f F : Nat → Nat → Nat} (h : ag_eq f F) {v x : Nat} (hv : v < f 1 0) (hx : x < f 1 1) : ds_can F v x = ds_can f v x := by
  obtain ⟨⟨a0, a1, a2⟩, hx2, hv2, hw⟩ := h
  obtain ⟨b1, b2, b3, b4⟩ := hv2 v hv
  obtain ⟨c1, c2, c3, c4, c5, c6, c7, c8⟩ := hx2 x hx
  unfold ds_can
  rw [b2, c3, c4]
theorem ag_may {f F : Nat → Nat → Nat} (h : ag_eq f F) {v x : Nat} (hv : v ≤ f 1 0) (hx : x < f 1 1) : ds_may F x v = ds_may f x v := by
  have hc := fun q : v < f 1 0 => ag_can h q hx
  obtain ⟨⟨a0, a1, a2⟩, hx2, hv2, hw⟩ := h
  obtain ⟨c1, c2, c3, c4, c5, c6, c7, c8⟩ := hx2 x hx
  unfold ds_may
  rw [c5, c3, a0, c6]
  rcases Nat.eq_or_lt_of_le hv with e | e
  · rw [e]
    simp
  · rw [hc e]
theorem ds_any_congr {P P2 : Nat → Bool} : ∀ n, (∀ i, i < n → P i = P2 i) → ds_any P n = ds_any P2 n
  | 0, _ => rfl
  | n + 1, h => by
    unfold ds_any
    rw [ds_any_congr n (fun i hi => h i (by omega)), h n (by omega)]
theorem ag_why {f F : Nat → Nat → Nat} (h : ag_eq f F) (hr : ds_rows f) : ds_why F = ds_why f := by
  have hc := fun (x : Nat) (hx : x < f 1 1) => ag_can h (hr.2 x hx).1 hx
  obtain ⟨⟨a0, a1, a2⟩, hx2, hv2, hw⟩ := h
  unfold ds_why
  rw [a1, ds_any_congr (P := fun x => F 12 x != 0 && F 13 x != 0) (P2 := fun x => f 12 x != 0 && f 13 x != 0) (f 1 1) (fun x hx => by
    obtain ⟨c1, c2, c3, c4, c5, c6, c7, c8⟩ := hx2 x hx
    rw [c5, c6]), ds_any_congr (P := fun x => F 12 x != 0 && !ds_can F (F 10 x) x) (P2 := fun x => f 12 x != 0 && !ds_can f (f 10 x) x) (f 1 1) (fun x hx => by
    obtain ⟨c1, c2, c3, c4, c5, c6, c7, c8⟩ := hx2 x hx
    rw [c5, c3, hc x hx])]
/-- the rows of the class, as the reference's ghost -/
def ag_rw (f : Nat → Nat → Nat) : Nat → Nat → Nat := fun v r => f (22 + v) r
/-- what is kept, on both sides: size, stops then, plans -/
def ag_kp (f : Nat → Nat → Nat) (n V ko so b c j s2 p2 : Nat) : Prop := f 54 j = f ko 2 ∧ f ko 2 ≤ c ∧ ∀ k, k < f ko 2 → f s2 k = f so k ∧ f so k ≤ n ∧ ∀ x, x < f so k → f p2 (8 * k + x) = f (b + k) x ∧ f (b + k) x ≤ V
/-- the law's invariant: the class and the reference agree -/
def ag_inv (f : Nat → Nat → Nat) : Prop := ds_ok f ∧ ag_eq f (md_v f (ag_rw f)) ∧ (∀ x, f 73 x = f 7 x) ∧ ag_kp f (f 1 1) (f 1 0) 3 45 39 6 16 69 68 ∧ ag_kp f (f 1 1) (f 1 0) 4 51 47 4 19 71 70
