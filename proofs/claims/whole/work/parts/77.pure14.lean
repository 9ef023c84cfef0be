/-! small rows for the reference's search -/
theorem dn_bnz {P : Prop} [Decidable P] {b : Nat} (e : b = dn_b P) (h : b ≠ 0) : P := Decidable.byContradiction (fun q => h (by rw [e, dn_b0 q]))
theorem dn_bz0 {P : Prop} [Decidable P] {b : Nat} (e : b = dn_b P) (h : b = 0) : ¬ P := fun q => by rw [e, dn_b1 q] at h; omega
theorem ds_neg1 {j : Nat} (hj : j < 2 ^ 30) : (nI j - nI 1 < 0) ↔ j = 0 := by
  rw [Int32.lt_iff_toInt_lt, pk_sub_toInt hj (by decide), Int32.toInt_zero]
  omega
theorem ds_dec1 (x : Int32) : x + Int32.ofInt (-1) = x - nI 1 := by
  rw [Int32.sub_eq_add_neg]
  rfl
