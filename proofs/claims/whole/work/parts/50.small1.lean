/-! contracts of the small methods -/
set_option maxHeartbeats 4000000 in
set_option maxRecDepth 100000 in
theorem c_isWithin (l : Launch) (D : va_G) (g : Nat → ClassId) (a : Nat → Nat) (f : Nat → Nat → Nat) (x : Int32) (y : Int32) (z : Int32)  : ds_I l D g a y_DS_isWithin b_DS_isWithin 3 .boolean 0 0 [.int x, .int y, .int z] f (fun r u => r = nI (dn_b (y ≤ x ∧ x ≤ z)) ∧ u = f) := by
  refine dw_ofI (by decide) (fun _ _ h => h.1 ▸ dn_nar) (Nat.le_of_ble_eq_true rfl) ?_
  intro p e s m args below meth c ls A Q R H locs hR hA S hN hw hl hret
  have hl : lv_has ls 3 [(0, .int x), (1, .int y), (2, .int z)] := hl
  have S : CallFix p m c b_DS_isWithin 3 s args ds_T R_DS := S
  refine lv_iload_n S.1 S.2.1 d_DS_isWithin_0 rfl (lv_at hl 0 rfl) ?_
  refine lv_iload_n S.1 S.2.1 d_DS_isWithin_1 rfl (lv_at hl 1 rfl) ?_
  refine lv_icmp_lt (tgt := 14) S.1 S.2.1 d_DS_isWithin_2 (by decide) (fun h_2 => ?_) (fun h_2 => ?_)
  · refine lv_iconst (v := nI 0) S.1 S.2.1 d_DS_isWithin_14 (by decide) ?_
    exact hret H locs _ ls _ _ hw (⟨by rw [dn_b0 (fun q => absurd q.1 (Int32.not_le.mpr h_2))], rfl⟩) d_DS_isWithin_15
  · refine lv_iload_n S.1 S.2.1 d_DS_isWithin_5 rfl (lv_at hl 0 rfl) ?_
    refine lv_iload_n S.1 S.2.1 d_DS_isWithin_6 rfl (lv_at hl 2 rfl) ?_
    refine lv_icmp_gt (tgt := 14) S.1 S.2.1 d_DS_isWithin_7 (by decide) (fun h_7 => ?_) (fun h_7 => ?_)
    · refine lv_iconst (v := nI 0) S.1 S.2.1 d_DS_isWithin_14 (by decide) ?_
      exact hret H locs _ ls _ _ hw (⟨by rw [dn_b0 (fun q => absurd q.2 (Int32.not_le.mpr h_7))], rfl⟩) d_DS_isWithin_15
    · refine lv_iconst (v := nI 1) S.1 S.2.1 d_DS_isWithin_10 (by decide) ?_
      refine lv_goto (tgt := 15) S.1 S.2.1 d_DS_isWithin_11 (by decide) ?_
      exact hret H locs _ ls _ _ hw (⟨by rw [dn_b1 ⟨Int32.not_lt.mp h_2, Int32.not_lt.mp h_7⟩], rfl⟩) d_DS_isWithin_15
set_option maxHeartbeats 4000000 in
set_option maxRecDepth 100000 in
theorem c_isPlace (l : Launch) (D : va_G) (g : Nat → ClassId) (a : Nat → Nat) (f : Nat → Nat → Nat) (x : Int32)  : ds_I l D g a y_DS_isPlace b_DS_isPlace 1 .boolean 1 22 [.int x] f (fun r u => r = nI (dn_b (ds_in x 10)) ∧ u = f) := by
  refine dw_ofI (by decide) (fun _ _ h => h.1 ▸ dn_nar) (Nat.le_of_ble_eq_true rfl) ?_
  intro p e s m args below meth c ls A Q R H locs hR hA S hN hw hl hret
  have hl : lv_has ls 1 [(0, .int x)] := hl
  have S : CallFix p m c b_DS_isPlace 1 s args ds_T R_DS := S
  refine lv_iload_n S.1 S.2.1 d_DS_isPlace_0 rfl (lv_at hl 0 rfl) ?_
  refine lv_iconst (v := nI 0) S.1 S.2.1 d_DS_isPlace_1 (by decide) ?_
  refine lv_bipush (v := nI 9) S.1 S.2.1 d_DS_isPlace_2 (by decide) ?_
  refine dw_afti hw hA (dw_runS (As := [.int x, .int (nI 0), .int (nI 9)]) (rest := []) S ds_good (c_isWithin l D g a f x (nI 0) (nI 9) H.size) cw_DS_isWithin wd_20 wd_21 dw_blind (dw_pre hw hN) rfl hl.1 rfl ⟨Nat.le_trans (Nat.le_of_ble_eq_true rfl) hR.1, Nat.le_trans (Nat.le_of_ble_eq_true rfl) hR.2⟩ (Nat.le_of_ble_eq_true rfl) ⟨Nat.zero_le _, Nat.zero_le _⟩ d_DS_isPlace_4) (fun r_4 f_1 H locs hp hw => ?_)
  obtain ⟨er, ef⟩ := hp
  subst er
  rw [ef] at hw
  exact hret H locs _ ls _ _ hw (⟨by rw [dn_bc (ds_le_in (n := 9) (by decide))], rfl⟩) d_DS_isPlace_7
set_option maxHeartbeats 4000000 in
set_option maxRecDepth 100000 in
theorem c_isVehicle (l : Launch) (D : va_G) (g : Nat → ClassId) (a : Nat → Nat) (f : Nat → Nat → Nat) (x : Int32) (hV : 1 ≤ f 1 0 ∧ f 1 0 ≤ 3) : ds_I l D g a y_Day_isVehicle b_Day_isVehicle 2 .boolean 1 22 [.ref (a 1), .int x] f (fun r u => r = nI (dn_b (ds_in x (f 1 0))) ∧ u = f) := by
  refine dw_ofI (by decide) (fun _ _ h => h.1 ▸ dn_nar) (Nat.le_of_ble_eq_true rfl) ?_
  intro p e s m args below meth c ls A Q R H locs hR hA S hN hw hl hret
  have hl : lv_has ls 2 [(0, .ref (a 1)), (1, .int x)] := hl
  have S : CallFix p m c b_Day_isVehicle 2 s args ds_T R_Day := S
  refine lv_iload_n S.1 S.2.1 d_Day_isVehicle_0 rfl (lv_at hl 1 rfl) ?_
  refine lv_iconst (v := nI 0) S.1 S.2.1 d_Day_isVehicle_1 (by decide) ?_
  refine lv_aload_n S.1 S.2.1 d_Day_isVehicle_2 rfl (lv_at hl 0 rfl) ?_
  refine dw_getf (fi := 0) (v := .int (nI (f 1 0))) S hw i_Day ds_ob1 (by decide) rfl wd_32 rfl d_Day_isVehicle_3 ?_
  refine lv_iconst (v := nI 1) S.1 S.2.1 d_Day_isVehicle_6 (by decide) ?_
  refine dn_isub S.1 S.2.1 (by omega) d_Day_isVehicle_7 ?_
  refine dw_afti hw hA (dw_runSN (As := [.int x, .int (nI 0), .int (nI ((f 1 0) - 1))]) (rest := []) S ds_good (c_isWithin l D g a f x (nI 0) (nI ((f 1 0) - 1)) H.size) cw_DS_isWithin hN wd_165 wd_21 dw_blind (dw_pre hw hN) rfl hl.1 rfl ⟨Nat.le_trans (Nat.le_of_ble_eq_true rfl) hR.1, Nat.le_trans (Nat.le_of_ble_eq_true rfl) hR.2⟩ (Nat.le_of_ble_eq_true rfl) ⟨Nat.zero_le _, Nat.zero_le _⟩ d_Day_isVehicle_8) (fun r_8 f_1 H locs hp hw => ?_)
  obtain ⟨er, ef⟩ := hp
  subst er
  rw [ef] at hw
  exact hret H locs _ ls _ _ hw (⟨by rw [dn_bc (ds_le_in2 hV.1 (by omega))], rfl⟩) d_Day_isVehicle_11
set_option maxHeartbeats 4000000 in
set_option maxRecDepth 100000 in
theorem c_isStop (l : Launch) (D : va_G) (g : Nat → ClassId) (a : Nat → Nat) (f : Nat → Nat → Nat) (x : Int32) (hn : f 1 1 ≤ 8) : ds_I l D g a y_Day_isStop b_Day_isStop 2 .boolean 1 22 [.ref (a 1), .int x] f (fun r u => r = nI (dn_b (ds_in x (f 1 1))) ∧ u = f) := by
  refine dw_ofI (by decide) (fun _ _ h => h.1 ▸ dn_nar) (Nat.le_of_ble_eq_true rfl) ?_
  intro p e s m args below meth c ls A Q R H locs hR hA S hN hw hl hret
  have hl : lv_has ls 2 [(0, .ref (a 1)), (1, .int x)] := hl
  have S : CallFix p m c b_Day_isStop 2 s args ds_T R_Day := S
  refine lv_iload_n S.1 S.2.1 d_Day_isStop_0 rfl (lv_at hl 1 rfl) ?_
  refine lv_iconst (v := nI 0) S.1 S.2.1 d_Day_isStop_1 (by decide) ?_
  refine lv_aload_n S.1 S.2.1 d_Day_isStop_2 rfl (lv_at hl 0 rfl) ?_
  refine dw_getf (fi := 1) (v := .int (nI (f 1 1))) S hw i_Day ds_ob1 (by decide) rfl wd_37 rfl d_Day_isStop_3 ?_
  refine lv_iconst (v := nI 1) S.1 S.2.1 d_Day_isStop_6 (by decide) ?_
  refine lv_isub S.1 S.2.1 d_Day_isStop_7 ?_
  refine dw_afti hw hA (dw_runSN (As := [.int x, .int (nI 0), .int ((nI (f 1 1)) - (nI 1))]) (rest := []) S ds_good (c_isWithin l D g a f x (nI 0) ((nI (f 1 1)) - (nI 1)) H.size) cw_DS_isWithin hN wd_165 wd_21 dw_blind (dw_pre hw hN) rfl hl.1 rfl ⟨Nat.le_trans (Nat.le_of_ble_eq_true rfl) hR.1, Nat.le_trans (Nat.le_of_ble_eq_true rfl) hR.2⟩ (Nat.le_of_ble_eq_true rfl) ⟨Nat.zero_le _, Nat.zero_le _⟩ d_Day_isStop_8) (fun r_8 f_1 H locs hp hw => ?_)
  obtain ⟨er, ef⟩ := hp
  subst er
  rw [ef] at hw
  exact hret H locs _ ls _ _ hw (⟨by rw [dn_bc (ds_le_in3 (by omega))], rfl⟩) d_Day_isStop_11
set_option maxHeartbeats 4000000 in
set_option maxRecDepth 100000 in
theorem c_isIn (l : Launch) (D : va_G) (g : Nat → ClassId) (a : Nat → Nat) (f : Nat → Nat → Nat) (t : Nat) (i : Nat) (ht : t < 2 ^ 31) (hi : i < 32) : ds_I l D g a y_DS_isIn b_DS_isIn 2 .boolean 0 0 [.int (nI t), .int (nI i)] f (fun r u => r = nI (dn_b (t.testBit i = true)) ∧ u = f) := by
  refine dw_ofI (by decide) (fun _ _ h => h.1 ▸ dn_nar) (Nat.le_of_ble_eq_true rfl) ?_
  intro p e s m args below meth c ls A Q R H locs hR hA S hN hw hl hret
  have hl : lv_has ls 2 [(0, .int (nI t)), (1, .int (nI i))] := hl
  have S : CallFix p m c b_DS_isIn 2 s args ds_T R_DS := S
  refine lv_iload_n S.1 S.2.1 d_DS_isIn_0 rfl (lv_at hl 0 rfl) ?_
  refine lv_iload_n S.1 S.2.1 d_DS_isIn_1 rfl (lv_at hl 1 rfl) ?_
  refine dn_ishr S.1 S.2.1 hi ht d_DS_isIn_2 ?_
  refine lv_iconst (v := nI 1) S.1 S.2.1 d_DS_isIn_3 (by decide) ?_
  refine dn_iand S.1 S.2.1 d_DS_isIn_4 ?_
  refine lv_iconst (v := nI 1) S.1 S.2.1 d_DS_isIn_5 (by decide) ?_
  refine dn_icmp_ne S.1 S.2.1 13 (ds_a1 _) (by decide) d_DS_isIn_6 (by decide) (fun h_6 => ?_) (fun h_6 => ?_)
  · refine lv_iconst (v := nI 0) S.1 S.2.1 d_DS_isIn_13 (by decide) ?_
    exact hret H locs _ ls _ _ hw (⟨by rw [dn_b0 (fun q => h_6 ((ds_tb t i).mpr q))], rfl⟩) d_DS_isIn_14
  · refine lv_iconst (v := nI 1) S.1 S.2.1 d_DS_isIn_9 (by decide) ?_
    refine lv_goto (tgt := 14) S.1 S.2.1 d_DS_isIn_10 (by decide) ?_
    exact hret H locs _ ls _ _ hw (⟨by rw [dn_b1 ((ds_tb t i).mp h_6)], rfl⟩) d_DS_isIn_14
set_option maxHeartbeats 4000000 in
set_option maxRecDepth 100000 in
theorem c_digitShift (l : Launch) (D : va_G) (g : Nat → ClassId) (a : Nat → Nat) (f : Nat → Nat → Nat) (i : Nat) (hi : i < 8) : ds_I l D g a y_Se_digitShift b_Se_digitShift 1 .int 0 0 [.int (nI i)] f (fun r u => r = nI (2 * (7 - i)) ∧ u = f) := by
  refine dw_ofI (by decide) (fun _ _ _ => rfl) (Nat.le_of_ble_eq_true rfl) ?_
  intro p e s m args below meth c ls A Q R H locs hR hA S hN hw hl hret
  have hl : lv_has ls 1 [(0, .int (nI i))] := hl
  have S : CallFix p m c b_Se_digitShift 1 s args ds_T R_Se := S
  refine lv_iconst (v := nI 2) S.1 S.2.1 d_Se_digitShift_0 (by decide) ?_
  refine lv_bipush (v := nI 7) S.1 S.2.1 d_Se_digitShift_1 (by decide) ?_
  refine lv_iload_n S.1 S.2.1 d_Se_digitShift_3 rfl (lv_at hl 0 rfl) ?_
  refine dn_isub S.1 S.2.1 (by omega) d_Se_digitShift_4 ?_
  refine dn_imul S.1 S.2.1 d_Se_digitShift_5 ?_
  exact hret H locs _ ls _ _ hw (⟨rfl, rfl⟩) d_Se_digitShift_6
set_option maxHeartbeats 4000000 in
set_option maxRecDepth 100000 in
theorem c_setOf (l : Launch) (D : va_G) (g : Nat → ClassId) (a : Nat → Nat) (f : Nat → Nat → Nat) (v : Nat) (hn : f 1 1 ≤ 8) (hv : v < 2 ^ 31) (hp : ∀ s, s < f 1 1 → f 5 s < 2 ^ 31) : ds_I l D g a y_DS_setOf b_DS_setOf 4 .int 0 0 [.ref (a 0), .int (nI v)] f (fun r u => r = nI (ds_bits (fun s => f 5 s == v) (f 1 1)) ∧ u = f) := by
  refine dw_ofI (by decide) (fun _ _ _ => rfl) (Nat.le_of_ble_eq_true rfl) ?_
  intro p e s m args below meth c ls A Q R H locs hR hA S hN hw hl hret
  have hl : lv_has ls 4 [(0, .ref (a 0)), (1, .int (nI v))] := hl
  have S : CallFix p m c b_DS_setOf 4 s args ds_T R_DS := S
  refine lv_iconst (v := nI 0) S.1 S.2.1 d_DS_setOf_0 (by decide) ?_
  refine lv_istore_n (lv' := [(2, .int (nI 0)), (0, .ref (a 0)), (1, .int (nI v))]) S.1 S.2.1 d_DS_setOf_1 rfl hl (by decide) rfl (fun ls hl => ?_)
  refine lv_iconst (v := nI 0) S.1 S.2.1 d_DS_setOf_2 (by decide) ?_
  refine lv_istore_n (lv' := [(3, .int (nI 0)), (2, .int (nI 0)), (0, .ref (a 0)), (1, .int (nI v))]) S.1 S.2.1 d_DS_setOf_3 rfl hl (by decide) rfl (fun ls hl => ?_)
  have loop_4 : ∀ (n : Nat) (t : Nat) (i : Nat) (hi : i ≤ f 1 1) (et : t = ds_bits (fun s => f 5 s == v) i) (_ : f 1 1 - i < n) (H : Heap) (locs : List Loc), dw_W D classes (ds_tys g) A s.heap (dw_l 77 (ds_ce g a) a f) s H locs → ∀ (ls : Array Slot), lv_has ls 4 [(0, .ref (a 0)), (1, .int (nI v)), (2, .int (nI t)), (3, .int (nI i))] → W p l e R s m args below meth c H locs 0 0 Q (F0 m 4 ls []) := by
    intro n
    induction n with
    | zero => intro t i hi et h9; exact absurd h9 (Nat.not_lt_zero _)
    | succ n ih_4 =>
      intro t i hi et hm_4 H locs hw ls hl
      refine lv_iload_n S.1 S.2.1 d_DS_setOf_4 rfl (lv_at hl 3 rfl) ?_
      refine lv_aload_n S.1 S.2.1 d_DS_setOf_5 rfl (lv_at hl 0 rfl) ?_
      refine dw_getf (fi := 0) (v := .ref (a 1)) S hw i_DS ds_ob0 (by decide) rfl wd_135 rfl d_DS_setOf_6 ?_
      refine dw_getN (fi := 1) (v := .int (nI (f 1 1))) S hw i_Day ds_ob1 (by decide) rfl hN wd_35 rfl d_DS_setOf_9 ?_
      refine dn_icmp_ge S.1 S.2.1 37 (by omega) (by omega) d_DS_setOf_12 (by decide) (fun h_12 => ?_) (fun h_12 => ?_)
      · refine lv_iload_n S.1 S.2.1 d_DS_setOf_37 rfl (lv_at hl 2 rfl) ?_
        exact hret H locs _ ls _ _ hw (⟨by rw [et, show i = f 1 1 by omega], rfl⟩) d_DS_setOf_38
      · refine lv_aload_n S.1 S.2.1 d_DS_setOf_15 rfl (lv_at hl 0 rfl) ?_
        refine dw_getf (fi := 4) (v := .ref (a 5)) S hw i_DS ds_ob0 (by decide) rfl wd_139 rfl d_DS_setOf_16 ?_
        refine lv_iload_n S.1 S.2.1 d_DS_setOf_19 rfl (lv_at hl 3 rfl) ?_
        refine dw_iald S.1 S.2.1 hw ds_k5 (by omega) d_DS_setOf_20 ?_
        refine lv_iload_n S.1 S.2.1 d_DS_setOf_21 rfl (lv_at hl 1 rfl) ?_
        refine dn_icmp_ne S.1 S.2.1 31 (hp i h_12) hv d_DS_setOf_22 (by decide) (fun h_22 => ?_) (fun h_22 => ?_)
        · refine lv_iinc (v := nI (i + 1)) (lv' := [(3, .int (nI (i + 1))), (0, .ref (a 0)), (1, .int (nI v)), (2, .int (nI t))]) S.1 S.2.1 d_DS_setOf_31 hl (k := 3) rfl (by rw [show Int32.ofInt 1 = nI 1 from rfl, nI_add]) (by decide) rfl (fun ls hl => ?_)
          refine lv_goto (tgt := 4) S.1 S.2.1 d_DS_setOf_34 (by decide) ?_
          exact ih_4 t (i + 1) (by omega) (by rw [et]; simp [ds_bits, h_22]) (by omega) H locs hw ls (lv_sub hl [1, 2, 3, 0] rfl)
        · refine lv_iload_n S.1 S.2.1 d_DS_setOf_25 rfl (lv_at hl 2 rfl) ?_
          refine lv_iconst (v := nI 1) S.1 S.2.1 d_DS_setOf_26 (by decide) ?_
          refine lv_iload_n S.1 S.2.1 d_DS_setOf_27 rfl (lv_at hl 3 rfl) ?_
          refine dn_ishl S.1 S.2.1 (by omega) (ds_sh (by omega)) d_DS_setOf_28 ?_
          refine dn_ior S.1 S.2.1 d_DS_setOf_29 ?_
          refine lv_istore_n (lv' := [(2, .int (nI (t ||| (1 * 2 ^ i)))), (0, .ref (a 0)), (1, .int (nI v)), (3, .int (nI i))]) S.1 S.2.1 d_DS_setOf_30 rfl hl (by decide) rfl (fun ls hl => ?_)
          refine lv_iinc (v := nI (i + 1)) (lv' := [(3, .int (nI (i + 1))), (2, .int (nI (t ||| (1 * 2 ^ i)))), (0, .ref (a 0)), (1, .int (nI v))]) S.1 S.2.1 d_DS_setOf_31 hl (k := 3) rfl (by rw [show Int32.ofInt 1 = nI 1 from rfl, nI_add]) (by decide) rfl (fun ls hl => ?_)
          refine lv_goto (tgt := 4) S.1 S.2.1 d_DS_setOf_34 (by decide) ?_
          exact ih_4 (t ||| (1 * 2 ^ i)) (i + 1) (by omega) (by rw [et]; simp [ds_bits, h_22]) (by omega) H locs hw ls (lv_sub hl [2, 3, 1, 0] rfl)
  exact loop_4 _ 0 0 (Nat.zero_le _) (rfl) (Nat.lt_succ_self _) H locs hw ls (lv_sub hl [2, 3, 1, 0] rfl)
set_option maxHeartbeats 4000000 in
set_option maxRecDepth 100000 in
theorem c_movedSet (l : Launch) (D : va_G) (g : Nat → ClassId) (a : Nat → Nat) (f : Nat → Nat → Nat)  (hn : f 1 1 ≤ 8) (hp : ∀ s, s < f 1 1 → f 5 s < 2 ^ 31 ∧ f 10 s < 2 ^ 31) : ds_I l D g a y_DS_movedSet b_DS_movedSet 3 .int 0 0 [.ref (a 0)] f (fun r u => r = nI (ds_bits (fun s => f 5 s != f 10 s) (f 1 1)) ∧ u = f) := by
  refine dw_ofI (by decide) (fun _ _ _ => rfl) (Nat.le_of_ble_eq_true rfl) ?_
  intro p e s m args below meth c ls A Q R H locs hR hA S hN hw hl hret
  have hl : lv_has ls 3 [(0, .ref (a 0))] := hl
  have S : CallFix p m c b_DS_movedSet 3 s args ds_T R_DS := S
  refine lv_iconst (v := nI 0) S.1 S.2.1 d_DS_movedSet_0 (by decide) ?_
  refine lv_istore_n (lv' := [(1, .int (nI 0)), (0, .ref (a 0))]) S.1 S.2.1 d_DS_movedSet_1 rfl hl (by decide) rfl (fun ls hl => ?_)
  refine lv_iconst (v := nI 0) S.1 S.2.1 d_DS_movedSet_2 (by decide) ?_
  refine lv_istore_n (lv' := [(2, .int (nI 0)), (1, .int (nI 0)), (0, .ref (a 0))]) S.1 S.2.1 d_DS_movedSet_3 rfl hl (by decide) rfl (fun ls hl => ?_)
  have loop_4 : ∀ (n : Nat) (t : Nat) (i : Nat) (hi : i ≤ f 1 1) (et : t = ds_bits (fun s => f 5 s != f 10 s) i) (_ : f 1 1 - i < n) (H : Heap) (locs : List Loc), dw_W D classes (ds_tys g) A s.heap (dw_l 77 (ds_ce g a) a f) s H locs → ∀ (ls : Array Slot), lv_has ls 3 [(0, .ref (a 0)), (1, .int (nI t)), (2, .int (nI i))] → W p l e R s m args below meth c H locs 0 0 Q (F0 m 4 ls []) := by
    intro n
    induction n with
    | zero => intro t i hi et h9; exact absurd h9 (Nat.not_lt_zero _)
    | succ n ih_4 =>
      intro t i hi et hm_4 H locs hw ls hl
      refine lv_iload_n S.1 S.2.1 d_DS_movedSet_4 rfl (lv_at hl 2 rfl) ?_
      refine lv_aload_n S.1 S.2.1 d_DS_movedSet_5 rfl (lv_at hl 0 rfl) ?_
      refine dw_getf (fi := 0) (v := .ref (a 1)) S hw i_DS ds_ob0 (by decide) rfl wd_135 rfl d_DS_movedSet_6 ?_
      refine dw_getN (fi := 1) (v := .int (nI (f 1 1))) S hw i_Day ds_ob1 (by decide) rfl hN wd_35 rfl d_DS_movedSet_9 ?_
      refine dn_icmp_ge S.1 S.2.1 45 (by omega) (by omega) d_DS_movedSet_12 (by decide) (fun h_12 => ?_) (fun h_12 => ?_)
      · refine lv_iload_n S.1 S.2.1 d_DS_movedSet_45 rfl (lv_at hl 1 rfl) ?_
        exact hret H locs _ ls _ _ hw (⟨by rw [et, show i = f 1 1 by omega], rfl⟩) d_DS_movedSet_46
      · refine lv_aload_n S.1 S.2.1 d_DS_movedSet_15 rfl (lv_at hl 0 rfl) ?_
        refine dw_getf (fi := 4) (v := .ref (a 5)) S hw i_DS ds_ob0 (by decide) rfl wd_139 rfl d_DS_movedSet_16 ?_
        refine lv_iload_n S.1 S.2.1 d_DS_movedSet_19 rfl (lv_at hl 2 rfl) ?_
        refine dw_iald S.1 S.2.1 hw ds_k5 (by omega) d_DS_movedSet_20 ?_
        refine lv_aload_n S.1 S.2.1 d_DS_movedSet_21 rfl (lv_at hl 0 rfl) ?_
        refine dw_getf (fi := 0) (v := .ref (a 1)) S hw i_DS ds_ob0 (by decide) rfl wd_135 rfl d_DS_movedSet_22 ?_
        refine dw_getN (fi := 4) (v := .ref (a 10)) S hw i_Day ds_ob1 (by decide) rfl hN wd_42 rfl d_DS_movedSet_25 ?_
        refine lv_iload_n S.1 S.2.1 d_DS_movedSet_28 rfl (lv_at hl 2 rfl) ?_
        refine dw_iald S.1 S.2.1 hw ds_k10 (by omega) d_DS_movedSet_29 ?_
        refine dn_icmp_eq S.1 S.2.1 39 (hp i h_12).1 (hp i h_12).2 d_DS_movedSet_30 (by decide) (fun h_30 => ?_) (fun h_30 => ?_)
        · refine lv_iinc (v := nI (i + 1)) (lv' := [(2, .int (nI (i + 1))), (0, .ref (a 0)), (1, .int (nI t))]) S.1 S.2.1 d_DS_movedSet_39 hl (k := 2) rfl (by rw [show Int32.ofInt 1 = nI 1 from rfl, nI_add]) (by decide) rfl (fun ls hl => ?_)
          refine lv_goto (tgt := 4) S.1 S.2.1 d_DS_movedSet_42 (by decide) ?_
          exact ih_4 t (i + 1) (by omega) (by rw [et]; simp [ds_bits, h_30]) (by omega) H locs hw ls (lv_sub hl [1, 2, 0] rfl)
        · refine lv_iload_n S.1 S.2.1 d_DS_movedSet_33 rfl (lv_at hl 1 rfl) ?_
          refine lv_iconst (v := nI 1) S.1 S.2.1 d_DS_movedSet_34 (by decide) ?_
          refine lv_iload_n S.1 S.2.1 d_DS_movedSet_35 rfl (lv_at hl 2 rfl) ?_
          refine dn_ishl S.1 S.2.1 (by omega) (ds_sh (by omega)) d_DS_movedSet_36 ?_
          refine dn_ior S.1 S.2.1 d_DS_movedSet_37 ?_
          refine lv_istore_n (lv' := [(1, .int (nI (t ||| (1 * 2 ^ i)))), (0, .ref (a 0)), (2, .int (nI i))]) S.1 S.2.1 d_DS_movedSet_38 rfl hl (by decide) rfl (fun ls hl => ?_)
          refine lv_iinc (v := nI (i + 1)) (lv' := [(2, .int (nI (i + 1))), (1, .int (nI (t ||| (1 * 2 ^ i)))), (0, .ref (a 0))]) S.1 S.2.1 d_DS_movedSet_39 hl (k := 2) rfl (by rw [show Int32.ofInt 1 = nI 1 from rfl, nI_add]) (by decide) rfl (fun ls hl => ?_)
          refine lv_goto (tgt := 4) S.1 S.2.1 d_DS_movedSet_42 (by decide) ?_
          exact ih_4 (t ||| (1 * 2 ^ i)) (i + 1) (by omega) (by rw [et]; simp [ds_bits, h_30]) (by omega) H locs hw ls (lv_sub hl [2, 1, 0] rfl)
  exact loop_4 _ 0 0 (Nat.zero_le _) (rfl) (Nat.lt_succ_self _) H locs hw ls (lv_sub hl [2, 1, 0] rfl)
set_option maxHeartbeats 4000000 in
set_option maxRecDepth 100000 in
theorem c_stopAt (l : Launch) (D : va_G) (g : Nat → ClassId) (a : Nat → Nat) (f : Nat → Nat → Nat) (t : Nat) (k : Int32) (ht : t < 2 ^ 31) : ds_I l D g a y_DS_stopAt b_DS_stopAt 4 .int 1 21 [.int (nI t), .int k] f (fun r u => r = ds_find (fun s => t.testBit s) k 8 0 0 ∧ u = f) := by
  refine dw_ofI (by decide) (fun _ _ _ => rfl) (Nat.le_of_ble_eq_true rfl) ?_
  intro p e s m args below meth c ls A Q R H locs hR hA S hN hw hl hret
  have hl : lv_has ls 4 [(0, .int (nI t)), (1, .int k)] := hl
  have S : CallFix p m c b_DS_stopAt 4 s args ds_T R_DS := S
  refine lv_iconst (v := nI 0) S.1 S.2.1 d_DS_stopAt_0 (by decide) ?_
  refine lv_istore_n (lv' := [(2, .int (nI 0)), (0, .int (nI t)), (1, .int k)]) S.1 S.2.1 d_DS_stopAt_1 rfl hl (by decide) rfl (fun ls hl => ?_)
  refine lv_iconst (v := nI 0) S.1 S.2.1 d_DS_stopAt_2 (by decide) ?_
  refine lv_istore_n (lv' := [(3, .int (nI 0)), (2, .int (nI 0)), (0, .int (nI t)), (1, .int k)]) S.1 S.2.1 d_DS_stopAt_3 rfl hl (by decide) rfl (fun ls hl => ?_)
  have loop_4 : ∀ (n : Nat) (b : Nat) (i : Nat) (hi : i ≤ 8) (hE : ds_find (fun s => t.testBit s) k 8 0 0 = ds_find (fun s => t.testBit s) k (8 - i) i b) (_ : 8 - i < n) (H : Heap) (locs : List Loc), dw_W D classes (ds_tys g) A s.heap (dw_l 77 (ds_ce g a) a f) s H locs → ∀ (ls : Array Slot), lv_has ls 4 [(0, .int (nI t)), (1, .int k), (2, .int (nI b)), (3, .int (nI i))] → W p l e R s m args below meth c H locs 0 0 Q (F0 m 4 ls []) := by
    intro n
    induction n with
    | zero => intro b i hi hE h9; exact absurd h9 (Nat.not_lt_zero _)
    | succ n ih_4 =>
      intro b i hi hE hm_4 H locs hw ls hl
      refine lv_iload_n S.1 S.2.1 d_DS_stopAt_4 rfl (lv_at hl 3 rfl) ?_
      refine lv_bipush (v := nI 8) S.1 S.2.1 d_DS_stopAt_5 (by decide) ?_
      refine dn_icmp_ge S.1 S.2.1 34 (by omega) (by decide) d_DS_stopAt_7 (by decide) (fun h_7 => ?_) (fun h_7 => ?_)
      · refine lv_iconst (v := (-1)) S.1 S.2.1 d_DS_stopAt_34 (by decide) ?_
        exact hret H locs _ ls _ _ hw (⟨by rw [hE, show 8 - i = 0 by omega]; rfl, rfl⟩) d_DS_stopAt_35
      · refine lv_iload_n S.1 S.2.1 d_DS_stopAt_10 rfl (lv_at hl 0 rfl) ?_
        refine lv_iload_n S.1 S.2.1 d_DS_stopAt_11 rfl (lv_at hl 3 rfl) ?_
        refine dw_afti hw hA (dw_runS (As := [.int (nI t), .int (nI i)]) (rest := []) S ds_good (c_isIn l D g a f t i (ht) (by omega) H.size) cw_DS_isIn wd_306 wd_219 dw_blind (dw_pre hw hN) rfl hl.1 rfl ⟨Nat.le_trans (Nat.le_of_ble_eq_true rfl) hR.1, Nat.le_trans (Nat.le_of_ble_eq_true rfl) hR.2⟩ (Nat.le_of_ble_eq_true rfl) ⟨Nat.zero_le _, Nat.zero_le _⟩ d_DS_stopAt_12) (fun r_12 f_1 H locs hp hw => ?_)
        obtain ⟨er, ef⟩ := hp
        subst er
        rw [ef] at hw
        refine dn_ifb_eq S.1 S.2.1 28 d_DS_stopAt_15 (by decide) (fun h_15 => ?_) (fun h_15 => ?_)
        · refine lv_iinc (v := nI (i + 1)) (lv' := [(3, .int (nI (i + 1))), (0, .int (nI t)), (1, .int k), (2, .int (nI b))]) S.1 S.2.1 d_DS_stopAt_28 hl (k := 3) rfl (by rw [show Int32.ofInt 1 = nI 1 from rfl, nI_add]) (by decide) rfl (fun ls hl => ?_)
          refine lv_goto (tgt := 4) S.1 S.2.1 d_DS_stopAt_31 (by decide) ?_
          exact ih_4 b (i + 1) (by omega) (by rw [hE, show 8 - i = (8 - (i + 1)) + 1 by omega]; simp [ds_find, h_15]) (by omega) H locs hw ls (lv_sub hl [1, 2, 3, 0] rfl)
        · refine lv_iload_n S.1 S.2.1 d_DS_stopAt_18 rfl (lv_at hl 2 rfl) ?_
          refine lv_iload_n S.1 S.2.1 d_DS_stopAt_19 rfl (lv_at hl 1 rfl) ?_
          refine lv_icmp_ne (tgt := 25) S.1 S.2.1 d_DS_stopAt_20 (by decide) (fun h_20 => ?_) (fun h_20 => ?_)
          · refine lv_iinc (v := nI (b + 1)) (lv' := [(2, .int (nI (b + 1))), (0, .int (nI t)), (1, .int k), (3, .int (nI i))]) S.1 S.2.1 d_DS_stopAt_25 hl (k := 2) rfl (by rw [show Int32.ofInt 1 = nI 1 from rfl, nI_add]) (by decide) rfl (fun ls hl => ?_)
            refine lv_iinc (v := nI (i + 1)) (lv' := [(3, .int (nI (i + 1))), (2, .int (nI (b + 1))), (0, .int (nI t)), (1, .int k)]) S.1 S.2.1 d_DS_stopAt_28 hl (k := 3) rfl (by rw [show Int32.ofInt 1 = nI 1 from rfl, nI_add]) (by decide) rfl (fun ls hl => ?_)
            refine lv_goto (tgt := 4) S.1 S.2.1 d_DS_stopAt_31 (by decide) ?_
            exact ih_4 (b + 1) (i + 1) (by omega) (by rw [hE, show 8 - i = (8 - (i + 1)) + 1 by omega]; simp [ds_find, h_15, h_20]) (by omega) H locs hw ls (lv_sub hl [2, 3, 1, 0] rfl)
          · refine lv_iload_n S.1 S.2.1 d_DS_stopAt_23 rfl (lv_at hl 3 rfl) ?_
            exact hret H locs _ ls _ _ hw (⟨by rw [hE, show 8 - i = (8 - (i + 1)) + 1 by omega]; simp [ds_find, h_15, h_20], rfl⟩) d_DS_stopAt_24
  exact loop_4 _ 0 0 (by decide) (rfl) (Nat.lt_succ_self _) H locs hw ls (lv_sub hl [2, 3, 1, 0] rfl)
