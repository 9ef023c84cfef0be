/-! small rows for the walks -/
theorem dn_bc {P Q : Prop} [Decidable P] [Decidable Q] (h : P ↔ Q) : dn_b P = dn_b Q := by
  unfold dn_b
  by_cases hp : P
  · rw [if_pos hp, if_pos (h.mp hp)]
  · rw [if_neg hp, if_neg (fun q => hp (h.mpr q))]
theorem ds_le_in {x : Int32} {n : Nat} (hn : n < 2 ^ 31) : (nI 0 ≤ x ∧ x ≤ nI n) ↔ ds_in x (n + 1) := by
  unfold ds_in
  rw [Int32.le_iff_toInt_le, Int32.le_iff_toInt_le, nI_toInt hn, nI_toInt (by decide)]
  omega
theorem ds_le_in2 {x : Int32} {n : Nat} (h1 : 1 ≤ n) (hn : n < 2 ^ 31) : (nI 0 ≤ x ∧ x ≤ nI (n - 1)) ↔ ds_in x n := by
  rw [ds_le_in (by omega), show n - 1 + 1 = n by omega]
theorem ds_le_in3 {x : Int32} {n : Nat} (hn : n < 2 ^ 30) : (nI 0 ≤ x ∧ x ≤ nI n - nI 1) ↔ ds_in x n := by
  unfold ds_in
  rw [Int32.le_iff_toInt_le, Int32.le_iff_toInt_le, pk_sub_toInt hn (by decide), nI_toInt (by decide)]
  omega
theorem ds_sh {i : Nat} (h : i < 31) : 1 * 2 ^ i < 2 ^ 32 := by
  rw [Nat.one_mul]
  exact Nat.pow_lt_pow_right (by decide) (by omega)
theorem ds_a1 (x : Nat) : x &&& 1 < 2 ^ 31 := Nat.lt_of_le_of_lt Nat.and_le_right (by decide)
theorem ds_minl {x y : Nat} (hx : x < 2 ^ 63) (hy : y < 2 ^ 63) : (if lN y < lN x then lN y else lN x) = lN (min x y) := by
  by_cases h : y < x
  · rw [if_pos ((pk_lLT hy hx).mpr h), Nat.min_eq_right (by omega)]
  · rw [if_neg (fun q => h ((pk_lLT hy hx).mp q)), Nat.min_eq_left (by omega)]
theorem ds_max0 {t h : Nat} (ht : t < 2 ^ 30) (hh : h < 2 ^ 30) : (if nI 0 < nI t - nI h then nI t - nI h else nI 0) = nI (t - h) := by
  by_cases q : h ≤ t
  · rw [pk_sub q]
    by_cases z : t - h = 0
    · rw [z]
      rfl
    · rw [if_pos (nI_lt (by omega) (by omega))]
  · rw [if_neg (fun w => ?_), show t - h = 0 by omega]
    rw [Int32.lt_iff_toInt_lt, pk_sub_toInt ht hh, nI_toInt (by decide)] at w
    omega
section
variable {p : Program} {l : Launch} {e : Env} {R : Room} {s : State} {m : MethodId} {args : Array Value} {below : List Frame} {meth : Method} {c : Code} {H : Heap} {locs : List Loc} {cells slots : Nat} {Q : State → Prop} {cc : ByteArray} {pc : Nat} {ls : Array Slot} {rest : List Value}
theorem ds_topi {x w : Int32} (h : x = w) (k : W p l e R s m args below meth c H locs cells slots Q (F0 m pc ls (.int w :: rest))) : W p l e R s m args below meth c H locs cells slots Q (F0 m pc ls (.int x :: rest)) := by rw [h]; exact k
theorem ds_topl {x w : Int64} (h : x = w) (k : W p l e R s m args below meth c H locs cells slots Q (F0 m pc ls (.long w :: rest))) : W p l e R s m args below meth c H locs cells slots Q (F0 m pc ls (.long x :: rest)) := by rw [h]; exact k
theorem ds_lcmp_lt (hx : p.tables.exec = Jvm.exec) (hb : c.code = cc) {x y : Int64} {off : Int} (tgt : Nat) (hd0 : decode cc pc = .ok (.lcmp, 1)) (hdg : decode cc (pc + 1) = .ok (.ifCond .lt off, 3)) (ht : ((pc + 1 : Nat) : Int) + off = (tgt : Int)) (kt : x < y → W p l e R s m args below meth c H locs cells slots Q (F0 m tgt ls rest)) (kf : ¬ x < y → W p l e R s m args below meth c H locs cells slots Q (F0 m (pc + 4) ls rest)) : W p l e R s m args below meth c H locs cells slots Q (F0 m pc ls (.long y :: .long x :: rest)) := W.lcmp hx hb hd0 (lv_if_lt hx hb hdg ht (fun h => kt ((lg_cmp_lt _ _).mp h)) (fun h => kf (fun q => h ((lg_cmp_lt _ _).mpr q))))
theorem ds_lcmp_gt (hx : p.tables.exec = Jvm.exec) (hb : c.code = cc) {x y : Int64} {off : Int} (tgt : Nat) (hd0 : decode cc pc = .ok (.lcmp, 1)) (hdg : decode cc (pc + 1) = .ok (.ifCond .gt off, 3)) (ht : ((pc + 1 : Nat) : Int) + off = (tgt : Int)) (kt : y < x → W p l e R s m args below meth c H locs cells slots Q (F0 m tgt ls rest)) (kf : ¬ y < x → W p l e R s m args below meth c H locs cells slots Q (F0 m (pc + 4) ls rest)) : W p l e R s m args below meth c H locs cells slots Q (F0 m pc ls (.long y :: .long x :: rest)) := W.lcmp hx hb hd0 (lv_if_gt hx hb hdg ht (fun h => kt ((lg_cmp_gt _ _).mp h)) (fun h => kf (fun q => h ((lg_cmp_gt _ _).mpr q))))
end
