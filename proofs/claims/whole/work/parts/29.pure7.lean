/-! times of rounds, on the way -/
abbrev ds_wy (f : Nat → Nat → Nat) : Nat → Nat → Nat := fun i j => f (28 + i) j
abbrev ds_fo (f : Nat → Nat → Nat) (L : List Nat) : Nat × Nat := ds_fold (ds_wy f) (f 8) (f 9) L
theorem ds_fo_b {f : Nat → Nat → Nat} (ok : ds_ok f) {L : List Nat} (hL : ∀ x ∈ L, x < f 1 1) (i : Nat) : (ds_fo f (L.take i)).1 ≤ 20000 * i ∧ (ds_fo f (L.take i)).2 < 10 := by
  obtain ⟨hV, hn, hex, hst, hve, hwy, hw0, hrw⟩ := ok
  have h := ds_fold_b (w := ds_wy f) (pl := f 8) (sv := f 9) hwy (L.take i) (0, 0) (fun x hx => by
    have h1 := hst x (hL x (List.mem_of_mem_take hx))
    exact ⟨h1.1, h1.2.1⟩) (by decide)
  refine ⟨Nat.le_trans h.1 ?_, h.2⟩
  have h2 : (L.take i).length ≤ i := by rw [List.length_take]; omega
  show 0 + 20000 * (L.take i).length ≤ 20000 * i
  omega
theorem ds_fo_s {f : Nat → Nat → Nat} {L : List Nat} {i : Nat} (h : i < L.length) : (ds_fo f (L.take (i + 1))).1 = (ds_fo f (L.take i)).1 + (f (28 + (ds_fo f (L.take i)).2) (f 8 (L.getD i 0)) + f 9 (L.getD i 0)) ∧ (ds_fo f (L.take (i + 1))).2 = f 8 (L.getD i 0) := by
  unfold ds_fo
  rw [ds_fold_s h]
  exact ⟨rfl, rfl⟩
theorem ds_fo_e {f : Nat → Nat → Nat} {P : Nat → Bool} {v : Nat} : ds_tm f P v = (ds_fo f (ds_rd f P v)).1 + f (28 + (ds_fo f (ds_rd f P v)).2) 0 := rfl
theorem ds_getD_mem {L : List Nat} {i : Nat} (h : i < L.length) : L.getD i 0 ∈ L := by
  simp [List.getD, h]
/-- where x stands, from place i on -/
theorem ds_pos_s {L : List Nat} {i x : Nat} (h : i < L.length) : ds_pos x (L.drop i) i = if L.getD i 0 = x then nI i else ds_pos x (L.drop (i + 1)) (i + 1) := by
  rw [List.drop_eq_getElem_cons h]
  simp [ds_pos, List.getD, h]
