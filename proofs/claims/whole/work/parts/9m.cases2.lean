/-! the law's cases -/
section
variable {p : Program} {l : Launch} {e : Env} {s : State} {m : MethodId} {below : List Frame} {meth : Method} {c : Code} {b L i : Nat} {xs : Nat → Int32} {D : va_G} {g : Nat → ClassId} {a : Nat → Nat} {f : Nat → Nat → Nat} {H : Heap} {locs : List Loc} {ls : Array Slot} {Q : State → Prop}
set_option maxHeartbeats 4000000 in
theorem law_moved (S : CallFix p m c code 4 s #[Value.ref b] ds_T R_law) (hN : dw_N lw_tbl s) (hX : va_X b L xs s s.heap) (hbl : b < s.heap.size) (hL : L ≤ 2049) (hiL : i + 4 ≤ L) (hi : ag_I f) (hw : dw_W D classes (ds_tys g) (fun q : Nat => s.heap.size ≤ q) s.heap (dw_l 77 (ds_ce g a) a f) s H locs) (hl : lv_has ls 4 [(0, .ref b), (1, .ref (a 0)), (2, .ref (a 54)), (3, .int (nI i))]) (kk : ∀ (f2 : Nat → Nat → Nat) (H : Heap) (locs : List Loc), ag_I f2 → dw_W D classes (ds_tys g) (fun q : Nat => s.heap.size ≤ q) s.heap (dw_l 77 (ds_ce g a) a f2) s H locs → W p l e room_1 s m #[Value.ref b] below meth c H locs 77 1240 Q (F0 m 659 ls [])) : W p l e room_1 s m #[Value.ref b] below meth c H locs 77 1240 Q (F0 m 468 ls []) := by
  have hA : ∀ q : Nat, s.heap.size ≤ q → (fun q : Nat => s.heap.size ≤ q) q := fun _ h => h
  have hbA : ¬ (fun q : Nat => s.heap.size ≤ q) b := Nat.not_le.mpr hbl
  obtain ⟨x1, e1⟩ : ∃ z, z = xs (nI (i + 1)).toNatClampNeg := ⟨_, rfl⟩
  refine lv_aload_n S.1 S.2.1 d_law_468 rfl (lv_at hl 1 rfl) ?_
  refine lv_aload_n S.1 S.2.1 d_law_469 rfl (lv_at hl 0 rfl) ?_
  refine lv_iload_n S.1 S.2.1 d_law_470 rfl (lv_at hl 3 rfl) ?_
  refine lv_iconst (v := nI 1) S.1 S.2.1 d_law_471 (by decide) ?_
  refine dn_iadd S.1 S.2.1 d_law_472 ?_
  refine va_sld S.1 S.2.1 hX hbl hbA hw.2.2.2 (vp_in_nI (by omega) (by omega)) d_law_473 ?_
  refine ds_topi (w := x1) e1.symm ?_
  refine dw_afti hw hA (dw_runV (As := [.int x1]) (rest := []) (ko := 0) hw S ds_good (c_moved l D g a f x1 hi.1.1 H.size) cw_DS_moved wd_299 wd_300 wd_301 ds_ob0 dw_blind (dw_pre hw hN) rfl hl.1 rfl ⟨Nat.le_of_ble_eq_true rfl, Nat.le_of_ble_eq_true rfl⟩ (Nat.le_of_ble_eq_true rfl) ⟨Nat.le_of_ble_eq_true rfl, Nat.le_of_ble_eq_true rfl⟩ d_law_474) (fun r1 f1 H locs h1 hw => ?_)
  have up := U_moved hi h1
  have M := ag_m hi up
  refine lv_aload_n S.1 S.2.1 d_law_477 rfl (lv_at hl 2 rfl) ?_
  refine lv_aload_n S.1 S.2.1 d_law_478 rfl (lv_at hl 0 rfl) ?_
  refine lv_iload_n S.1 S.2.1 d_law_479 rfl (lv_at hl 3 rfl) ?_
  refine lv_iconst (v := nI 1) S.1 S.2.1 d_law_480 (by decide) ?_
  refine dn_iadd S.1 S.2.1 d_law_481 ?_
  refine va_sld S.1 S.2.1 hX hbl hbA hw.2.2.2 (vp_in_nI (by omega) (by omega)) d_law_482 ?_
  refine ds_topi (w := x1) e1.symm ?_
  refine dw_afti hw hA (dw_runV (As := [.int x1]) (rest := [.int r1]) (ko := 54) hw S ds_good (m_moved l D g a f1 x1 M.2.1 (fun x hx => ⟨(M.2.2.2.2.1 x hx).1, (M.2.2.2.2.1 x hx).2.1⟩) H.size) cw_Mo_moved wd_558 wd_559 wd_560 ds_ob54 dw_blind (dw_pre hw hN) rfl hl.1 rfl ⟨Nat.le_of_ble_eq_true rfl, Nat.le_of_ble_eq_true rfl⟩ (Nat.le_of_ble_eq_true rfl) ⟨Nat.le_of_ble_eq_true rfl, Nat.le_of_ble_eq_true rfl⟩ d_law_483) (fun r2 f2 H locs h2 hw => ?_)
  have hag := L_moved hi h1 h2
  exact lv_icmp_eq (tgt := 659) S.1 S.2.1 d_law_486 (by decide) (fun _ => kk f2 H locs hag.2 hw) (fun h => absurd hag.1 h)
set_option maxHeartbeats 4000000 in
theorem law_carried (S : CallFix p m c code 4 s #[Value.ref b] ds_T R_law) (hN : dw_N lw_tbl s) (hX : va_X b L xs s s.heap) (hbl : b < s.heap.size) (hL : L ≤ 2049) (hiL : i + 4 ≤ L) (hi : ag_I f) (hw : dw_W D classes (ds_tys g) (fun q : Nat => s.heap.size ≤ q) s.heap (dw_l 77 (ds_ce g a) a f) s H locs) (hl : lv_has ls 4 [(0, .ref b), (1, .ref (a 0)), (2, .ref (a 54)), (3, .int (nI i))]) (kk : ∀ (f2 : Nat → Nat → Nat) (H : Heap) (locs : List Loc), ag_I f2 → dw_W D classes (ds_tys g) (fun q : Nat => s.heap.size ≤ q) s.heap (dw_l 77 (ds_ce g a) a f2) s H locs → W p l e room_1 s m #[Value.ref b] below meth c H locs 77 1240 Q (F0 m 659 ls [])) : W p l e room_1 s m #[Value.ref b] below meth c H locs 77 1240 Q (F0 m 491 ls []) := by
  have hA : ∀ q : Nat, s.heap.size ≤ q → (fun q : Nat => s.heap.size ≤ q) q := fun _ h => h
  have hbA : ¬ (fun q : Nat => s.heap.size ≤ q) b := Nat.not_le.mpr hbl
  obtain ⟨x1, e1⟩ : ∃ z, z = xs (nI (i + 1)).toNatClampNeg := ⟨_, rfl⟩
  refine lv_aload_n S.1 S.2.1 d_law_491 rfl (lv_at hl 1 rfl) ?_
  refine lv_aload_n S.1 S.2.1 d_law_492 rfl (lv_at hl 0 rfl) ?_
  refine lv_iload_n S.1 S.2.1 d_law_493 rfl (lv_at hl 3 rfl) ?_
  refine lv_iconst (v := nI 1) S.1 S.2.1 d_law_494 (by decide) ?_
  refine dn_iadd S.1 S.2.1 d_law_495 ?_
  refine va_sld S.1 S.2.1 hX hbl hbA hw.2.2.2 (vp_in_nI (by omega) (by omega)) d_law_496 ?_
  refine ds_topi (w := x1) e1.symm ?_
  refine dw_afti hw hA (dw_runV (As := [.int x1]) (rest := []) (ko := 0) hw S ds_good (c_carried l D g a f x1 hi.1.1 H.size) cw_DS_carried wd_307 wd_308 wd_309 ds_ob0 dw_blind (dw_pre hw hN) rfl hl.1 rfl ⟨Nat.le_of_ble_eq_true rfl, Nat.le_of_ble_eq_true rfl⟩ (Nat.le_of_ble_eq_true rfl) ⟨Nat.le_of_ble_eq_true rfl, Nat.le_of_ble_eq_true rfl⟩ d_law_497) (fun r1 f1 H locs h1 hw => ?_)
  have up := U_carried hi h1
  have M := ag_m hi up
  refine lv_aload_n S.1 S.2.1 d_law_500 rfl (lv_at hl 2 rfl) ?_
  refine lv_aload_n S.1 S.2.1 d_law_501 rfl (lv_at hl 0 rfl) ?_
  refine lv_iload_n S.1 S.2.1 d_law_502 rfl (lv_at hl 3 rfl) ?_
  refine lv_iconst (v := nI 1) S.1 S.2.1 d_law_503 (by decide) ?_
  refine dn_iadd S.1 S.2.1 d_law_504 ?_
  refine va_sld S.1 S.2.1 hX hbl hbA hw.2.2.2 (vp_in_nI (by omega) (by omega)) d_law_505 ?_
  refine ds_topi (w := x1) e1.symm ?_
  refine dw_afti hw hA (dw_runV (As := [.int x1]) (rest := [.int r1]) (ko := 54) hw S ds_good (m_carried l D g a f1 x1 M.2.1 M.1 (fun x hx => (M.2.2.2.2.1 x hx).1) H.size) cw_Mo_carried wd_562 wd_563 wd_564 ds_ob54 dw_blind (dw_pre hw hN) rfl hl.1 rfl ⟨Nat.le_of_ble_eq_true rfl, Nat.le_of_ble_eq_true rfl⟩ (Nat.le_of_ble_eq_true rfl) ⟨Nat.le_of_ble_eq_true rfl, Nat.le_of_ble_eq_true rfl⟩ d_law_506) (fun r2 f2 H locs h2 hw => ?_)
  have hag := L_carried hi h1 h2
  exact lv_icmp_eq (tgt := 659) S.1 S.2.1 d_law_509 (by decide) (fun _ => kk f2 H locs hag.2 hw) (fun h => absurd hag.1 h)
set_option maxHeartbeats 4000000 in
theorem law_send (S : CallFix p m c code 4 s #[Value.ref b] ds_T R_law) (hN : dw_N lw_tbl s) (hX : va_X b L xs s s.heap) (hbl : b < s.heap.size) (hL : L ≤ 2049) (hiL : i + 4 ≤ L) (hi : ag_I f) (hw : dw_W D classes (ds_tys g) (fun q : Nat => s.heap.size ≤ q) s.heap (dw_l 77 (ds_ce g a) a f) s H locs) (hl : lv_has ls 4 [(0, .ref b), (1, .ref (a 0)), (2, .ref (a 54)), (3, .int (nI i))]) (kk : ∀ (f2 : Nat → Nat → Nat) (H : Heap) (locs : List Loc), ag_I f2 → dw_W D classes (ds_tys g) (fun q : Nat => s.heap.size ≤ q) s.heap (dw_l 77 (ds_ce g a) a f2) s H locs → W p l e room_1 s m #[Value.ref b] below meth c H locs 77 1240 Q (F0 m 659 ls [])) : W p l e room_1 s m #[Value.ref b] below meth c H locs 77 1240 Q (F0 m 514 ls []) := by
  have hA : ∀ q : Nat, s.heap.size ≤ q → (fun q : Nat => s.heap.size ≤ q) q := fun _ h => h
  have hbA : ¬ (fun q : Nat => s.heap.size ≤ q) b := Nat.not_le.mpr hbl
  refine lv_aload_n S.1 S.2.1 d_law_514 rfl (lv_at hl 1 rfl) ?_
  refine dw_afti hw hA (dw_runV (As := []) (rest := []) (ko := 0) hw S ds_good (c_send l D g a f hi.1.1 H.size) cw_DS_send wd_311 wd_312 wd_313 ds_ob0 dw_blind (dw_pre hw hN) rfl hl.1 rfl ⟨Nat.le_of_ble_eq_true rfl, Nat.le_of_ble_eq_true rfl⟩ (Nat.le_of_ble_eq_true rfl) ⟨Nat.le_of_ble_eq_true rfl, Nat.le_of_ble_eq_true rfl⟩ d_law_515) (fun r1 f1 H locs h1 hw => ?_)
  have up := U_send hi h1
  have M := ag_m hi up
  refine lv_aload_n S.1 S.2.1 d_law_518 rfl (lv_at hl 2 rfl) ?_
  refine dw_afti hw hA (dw_runV (As := []) (rest := [.int r1]) (ko := 54) hw S ds_good (m_send l D g a f1 M.2.1 (fun x hx => ⟨(M.2.2.2.2.1 x hx).1, (M.2.2.2.2.1 x hx).2.2⟩) H.size) cw_Mo_send wd_566 wd_567 wd_568 ds_ob54 dw_blind (dw_pre hw hN) rfl hl.1 rfl ⟨Nat.le_of_ble_eq_true rfl, Nat.le_of_ble_eq_true rfl⟩ (Nat.le_of_ble_eq_true rfl) ⟨Nat.le_of_ble_eq_true rfl, Nat.le_of_ble_eq_true rfl⟩ d_law_519) (fun r2 f2 H locs h2 hw => ?_)
  have hag := L_send hi h1 h2
  exact lv_icmp_eq (tgt := 659) S.1 S.2.1 d_law_522 (by decide) (fun _ => kk f2 H locs hag.2 hw) (fun h => absurd hag.1 h)
set_option maxHeartbeats 4000000 in
theorem law_sent (S : CallFix p m c code 4 s #[Value.ref b] ds_T R_law) (hN : dw_N lw_tbl s) (hX : va_X b L xs s s.heap) (hbl : b < s.heap.size) (hL : L ≤ 2049) (hiL : i + 4 ≤ L) (hi : ag_I f) (hw : dw_W D classes (ds_tys g) (fun q : Nat => s.heap.size ≤ q) s.heap (dw_l 77 (ds_ce g a) a f) s H locs) (hl : lv_has ls 4 [(0, .ref b), (1, .ref (a 0)), (2, .ref (a 54)), (3, .int (nI i))]) (kk : ∀ (f2 : Nat → Nat → Nat) (H : Heap) (locs : List Loc), ag_I f2 → dw_W D classes (ds_tys g) (fun q : Nat => s.heap.size ≤ q) s.heap (dw_l 77 (ds_ce g a) a f2) s H locs → W p l e room_1 s m #[Value.ref b] below meth c H locs 77 1240 Q (F0 m 659 ls [])) : W p l e room_1 s m #[Value.ref b] below meth c H locs 77 1240 Q (F0 m 527 ls []) := by
  have hA : ∀ q : Nat, s.heap.size ≤ q → (fun q : Nat => s.heap.size ≤ q) q := fun _ h => h
  have hbA : ¬ (fun q : Nat => s.heap.size ≤ q) b := Nat.not_le.mpr hbl
  obtain ⟨x1, e1⟩ : ∃ z, z = xs (nI (i + 1)).toNatClampNeg := ⟨_, rfl⟩
  refine lv_aload_n S.1 S.2.1 d_law_527 rfl (lv_at hl 1 rfl) ?_
  refine lv_aload_n S.1 S.2.1 d_law_528 rfl (lv_at hl 0 rfl) ?_
  refine lv_iload_n S.1 S.2.1 d_law_529 rfl (lv_at hl 3 rfl) ?_
  refine lv_iconst (v := nI 1) S.1 S.2.1 d_law_530 (by decide) ?_
  refine dn_iadd S.1 S.2.1 d_law_531 ?_
  refine va_sld S.1 S.2.1 hX hbl hbA hw.2.2.2 (vp_in_nI (by omega) (by omega)) d_law_532 ?_
  refine ds_topi (w := x1) e1.symm ?_
  refine dw_afti hw hA (dw_runV (As := [.int x1]) (rest := []) (ko := 0) hw S ds_good (c_sent l D g a f x1 hi.1.1.2.1 H.size) cw_DS_sent wd_315 wd_316 wd_317 ds_ob0 dw_blind (dw_pre hw hN) rfl hl.1 rfl ⟨Nat.le_of_ble_eq_true rfl, Nat.le_of_ble_eq_true rfl⟩ (Nat.le_of_ble_eq_true rfl) ⟨Nat.le_of_ble_eq_true rfl, Nat.le_of_ble_eq_true rfl⟩ d_law_533) (fun r1 f1 H locs h1 hw => ?_)
  have up := U_sent hi h1
  have M := ag_m hi up
  refine lv_aload_n S.1 S.2.1 d_law_536 rfl (lv_at hl 2 rfl) ?_
  refine lv_aload_n S.1 S.2.1 d_law_537 rfl (lv_at hl 0 rfl) ?_
  refine lv_iload_n S.1 S.2.1 d_law_538 rfl (lv_at hl 3 rfl) ?_
  refine lv_iconst (v := nI 1) S.1 S.2.1 d_law_539 (by decide) ?_
  refine dn_iadd S.1 S.2.1 d_law_540 ?_
  refine va_sld S.1 S.2.1 hX hbl hbA hw.2.2.2 (vp_in_nI (by omega) (by omega)) d_law_541 ?_
  refine ds_topi (w := x1) e1.symm ?_
  refine dw_afti hw hA (dw_runV (As := [.int x1]) (rest := [.int r1]) (ko := 54) hw S ds_good (m_sent l D g a f1 x1 M.2.1 H.size) cw_Mo_sent wd_570 wd_571 wd_572 ds_ob54 dw_blind (dw_pre hw hN) rfl hl.1 rfl ⟨Nat.le_of_ble_eq_true rfl, Nat.le_of_ble_eq_true rfl⟩ (Nat.le_of_ble_eq_true rfl) ⟨Nat.le_of_ble_eq_true rfl, Nat.le_of_ble_eq_true rfl⟩ d_law_542) (fun r2 f2 H locs h2 hw => ?_)
  have hag := L_sent hi h1 h2
  exact lv_icmp_eq (tgt := 659) S.1 S.2.1 d_law_545 (by decide) (fun _ => kk f2 H locs hag.2 hw) (fun h => absurd hag.1 h)
set_option maxHeartbeats 4000000 in
theorem law_undo (S : CallFix p m c code 4 s #[Value.ref b] ds_T R_law) (hN : dw_N lw_tbl s) (hX : va_X b L xs s s.heap) (hbl : b < s.heap.size) (hL : L ≤ 2049) (hiL : i + 4 ≤ L) (hi : ag_I f) (hw : dw_W D classes (ds_tys g) (fun q : Nat => s.heap.size ≤ q) s.heap (dw_l 77 (ds_ce g a) a f) s H locs) (hl : lv_has ls 4 [(0, .ref b), (1, .ref (a 0)), (2, .ref (a 54)), (3, .int (nI i))]) (kk : ∀ (f2 : Nat → Nat → Nat) (H : Heap) (locs : List Loc), ag_I f2 → dw_W D classes (ds_tys g) (fun q : Nat => s.heap.size ≤ q) s.heap (dw_l 77 (ds_ce g a) a f2) s H locs → W p l e room_1 s m #[Value.ref b] below meth c H locs 77 1240 Q (F0 m 659 ls [])) : W p l e room_1 s m #[Value.ref b] below meth c H locs 77 1240 Q (F0 m 550 ls []) := by
  have hA : ∀ q : Nat, s.heap.size ≤ q → (fun q : Nat => s.heap.size ≤ q) q := fun _ h => h
  have hbA : ¬ (fun q : Nat => s.heap.size ≤ q) b := Nat.not_le.mpr hbl
  refine lv_aload_n S.1 S.2.1 d_law_550 rfl (lv_at hl 1 rfl) ?_
  refine dw_afti hw hA (dw_runV (As := []) (rest := []) (ko := 0) hw S ds_good (c_undo l D g a f hi.1.1 (ag_c hi).1 (ag_c hi).2.1 H.size) cw_DS_undo wd_319 wd_320 wd_321 ds_ob0 dw_blind (dw_pre hw hN) rfl hl.1 rfl ⟨Nat.le_of_ble_eq_true rfl, Nat.le_of_ble_eq_true rfl⟩ (Nat.le_of_ble_eq_true rfl) ⟨Nat.le_of_ble_eq_true rfl, Nat.le_of_ble_eq_true rfl⟩ d_law_551) (fun r1 f1 H locs h1 hw => ?_)
  have up := U_undo hi h1
  have M := ag_m hi up
  refine lv_aload_n S.1 S.2.1 d_law_554 rfl (lv_at hl 2 rfl) ?_
  refine dw_afti hw hA (dw_runV (As := []) (rest := [.int r1]) (ko := 54) hw S ds_good (m_undo l D g a f1 M.2.1 M.2.2.1 M.2.2.2.2.2.1 H.size) cw_Mo_undo wd_546 wd_547 wd_548 ds_ob54 dw_blind (dw_pre hw hN) rfl hl.1 rfl ⟨Nat.le_of_ble_eq_true rfl, Nat.le_of_ble_eq_true rfl⟩ (Nat.le_of_ble_eq_true rfl) ⟨Nat.le_of_ble_eq_true rfl, Nat.le_of_ble_eq_true rfl⟩ d_law_555) (fun r2 f2 H locs h2 hw => ?_)
  have hag := L_undo hi h1 h2
  exact lv_icmp_eq (tgt := 659) S.1 S.2.1 d_law_558 (by decide) (fun _ => kk f2 H locs hag.2 hw) (fun h => absurd hag.1 h)
set_option maxHeartbeats 4000000 in
theorem law_copy (S : CallFix p m c code 4 s #[Value.ref b] ds_T R_law) (hN : dw_N lw_tbl s) (hX : va_X b L xs s s.heap) (hbl : b < s.heap.size) (hL : L ≤ 2049) (hiL : i + 4 ≤ L) (hi : ag_I f) (hw : dw_W D classes (ds_tys g) (fun q : Nat => s.heap.size ≤ q) s.heap (dw_l 77 (ds_ce g a) a f) s H locs) (hl : lv_has ls 4 [(0, .ref b), (1, .ref (a 0)), (2, .ref (a 54)), (3, .int (nI i))]) (kk : ∀ (f2 : Nat → Nat → Nat) (H : Heap) (locs : List Loc), ag_I f2 → dw_W D classes (ds_tys g) (fun q : Nat => s.heap.size ≤ q) s.heap (dw_l 77 (ds_ce g a) a f2) s H locs → W p l e room_1 s m #[Value.ref b] below meth c H locs 77 1240 Q (F0 m 659 ls [])) : W p l e room_1 s m #[Value.ref b] below meth c H locs 77 1240 Q (F0 m 563 ls []) := by
  have hA : ∀ q : Nat, s.heap.size ≤ q → (fun q : Nat => s.heap.size ≤ q) q := fun _ h => h
  have hbA : ¬ (fun q : Nat => s.heap.size ≤ q) b := Nat.not_le.mpr hbl
  refine lv_aload_n S.1 S.2.1 d_law_563 rfl (lv_at hl 1 rfl) ?_
  refine dw_afti hw hA (dw_runV (As := []) (rest := []) (ko := 0) hw S ds_good (c_copy l D g a f (ag_c hi).2.2.1 H.size) cw_DS_copy wd_323 wd_324 wd_325 ds_ob0 dw_blind (dw_pre hw hN) rfl hl.1 rfl ⟨Nat.le_of_ble_eq_true rfl, Nat.le_of_ble_eq_true rfl⟩ (Nat.le_of_ble_eq_true rfl) ⟨Nat.le_of_ble_eq_true rfl, Nat.le_of_ble_eq_true rfl⟩ d_law_564) (fun r1 f1 H locs h1 hw => ?_)
  have up := U_copy hi h1
  have M := ag_m hi up
  refine lv_aload_n S.1 S.2.1 d_law_567 rfl (lv_at hl 2 rfl) ?_
  refine dw_afti hw hA (dw_runV (As := []) (rest := [.int r1]) (ko := 54) hw S ds_good (m_copy l D g a f1 M.2.1 M.2.2.2.1 H.size) cw_Mo_copy wd_574 wd_575 wd_576 ds_ob54 dw_blind (dw_pre hw hN) rfl hl.1 rfl ⟨Nat.le_of_ble_eq_true rfl, Nat.le_of_ble_eq_true rfl⟩ (Nat.le_of_ble_eq_true rfl) ⟨Nat.le_of_ble_eq_true rfl, Nat.le_of_ble_eq_true rfl⟩ d_law_568) (fun r2 f2 H locs h2 hw => ?_)
  have hag := L_copy hi h1 h2
  exact lv_icmp_eq (tgt := 659) S.1 S.2.1 d_law_571 (by decide) (fun _ => kk f2 H locs hag.2 hw) (fun h => absurd hag.1 h)
set_option maxHeartbeats 4000000 in
theorem law_compare (S : CallFix p m c code 4 s #[Value.ref b] ds_T R_law) (hN : dw_N lw_tbl s) (hX : va_X b L xs s s.heap) (hbl : b < s.heap.size) (hL : L ≤ 2049) (hiL : i + 4 ≤ L) (hi : ag_I f) (hw : dw_W D classes (ds_tys g) (fun q : Nat => s.heap.size ≤ q) s.heap (dw_l 77 (ds_ce g a) a f) s H locs) (hl : lv_has ls 4 [(0, .ref b), (1, .ref (a 0)), (2, .ref (a 54)), (3, .int (nI i))]) (kk : ∀ (f2 : Nat → Nat → Nat) (H : Heap) (locs : List Loc), ag_I f2 → dw_W D classes (ds_tys g) (fun q : Nat => s.heap.size ≤ q) s.heap (dw_l 77 (ds_ce g a) a f2) s H locs → W p l e room_1 s m #[Value.ref b] below meth c H locs 77 1240 Q (F0 m 659 ls [])) : W p l e room_1 s m #[Value.ref b] below meth c H locs 77 1240 Q (F0 m 576 ls []) := by
  have hA : ∀ q : Nat, s.heap.size ≤ q → (fun q : Nat => s.heap.size ≤ q) q := fun _ h => h
  have hbA : ¬ (fun q : Nat => s.heap.size ≤ q) b := Nat.not_le.mpr hbl
  obtain ⟨x1, e1⟩ : ∃ z, z = xs (nI (i + 1)).toNatClampNeg := ⟨_, rfl⟩
  obtain ⟨x2, e2⟩ : ∃ z, z = xs (nI (i + 2)).toNatClampNeg := ⟨_, rfl⟩
  refine lv_aload_n S.1 S.2.1 d_law_576 rfl (lv_at hl 1 rfl) ?_
  refine lv_aload_n S.1 S.2.1 d_law_577 rfl (lv_at hl 0 rfl) ?_
  refine lv_iload_n S.1 S.2.1 d_law_578 rfl (lv_at hl 3 rfl) ?_
  refine lv_iconst (v := nI 1) S.1 S.2.1 d_law_579 (by decide) ?_
  refine dn_iadd S.1 S.2.1 d_law_580 ?_
  refine va_sld S.1 S.2.1 hX hbl hbA hw.2.2.2 (vp_in_nI (by omega) (by omega)) d_law_581 ?_
  refine ds_topi (w := x1) e1.symm ?_
  refine lv_aload_n S.1 S.2.1 d_law_582 rfl (lv_at hl 0 rfl) ?_
  refine lv_iload_n S.1 S.2.1 d_law_583 rfl (lv_at hl 3 rfl) ?_
  refine lv_iconst (v := nI 2) S.1 S.2.1 d_law_584 (by decide) ?_
  refine dn_iadd S.1 S.2.1 d_law_585 ?_
  refine va_sld S.1 S.2.1 hX hbl hbA hw.2.2.2 (vp_in_nI (by omega) (by omega)) d_law_586 ?_
  refine ds_topi (w := x2) e2.symm ?_
  refine dw_afti hw hA (dw_runV (As := [.int x1, .int x2]) (rest := []) (ko := 0) hw S ds_good (c_compare l D g a f x1 x2 (ag_c hi).2.2.1 (ag_c hi).2.2.2 H.size) cw_DS_compare wd_327 wd_328 wd_329 ds_ob0 dw_blind (dw_pre hw hN) rfl hl.1 rfl ⟨Nat.le_of_ble_eq_true rfl, Nat.le_of_ble_eq_true rfl⟩ (Nat.le_of_ble_eq_true rfl) ⟨Nat.le_of_ble_eq_true rfl, Nat.le_of_ble_eq_true rfl⟩ d_law_587) (fun r1 f1 H locs h1 hw => ?_)
  have up := U_compare hi h1
  have M := ag_m hi up
  refine lv_aload_n S.1 S.2.1 d_law_590 rfl (lv_at hl 2 rfl) ?_
  refine lv_aload_n S.1 S.2.1 d_law_591 rfl (lv_at hl 0 rfl) ?_
  refine lv_iload_n S.1 S.2.1 d_law_592 rfl (lv_at hl 3 rfl) ?_
  refine lv_iconst (v := nI 1) S.1 S.2.1 d_law_593 (by decide) ?_
  refine dn_iadd S.1 S.2.1 d_law_594 ?_
  refine va_sld S.1 S.2.1 hX hbl hbA hw.2.2.2 (vp_in_nI (by omega) (by omega)) d_law_595 ?_
  refine ds_topi (w := x1) e1.symm ?_
  refine lv_aload_n S.1 S.2.1 d_law_596 rfl (lv_at hl 0 rfl) ?_
  refine lv_iload_n S.1 S.2.1 d_law_597 rfl (lv_at hl 3 rfl) ?_
  refine lv_iconst (v := nI 2) S.1 S.2.1 d_law_598 (by decide) ?_
  refine dn_iadd S.1 S.2.1 d_law_599 ?_
  refine va_sld S.1 S.2.1 hX hbl hbA hw.2.2.2 (vp_in_nI (by omega) (by omega)) d_law_600 ?_
  refine ds_topi (w := x2) e2.symm ?_
  refine dw_afti hw hA (dw_runV (As := [.int x1, .int x2]) (rest := [.int r1]) (ko := 54) hw S ds_good (m_compare l D g a f1 x1 x2 M.2.2.2.1 M.2.2.2.2.2.2 H.size) cw_Mo_compare wd_578 wd_579 wd_580 ds_ob54 dw_blind (dw_pre hw hN) rfl hl.1 rfl ⟨Nat.le_of_ble_eq_true rfl, Nat.le_of_ble_eq_true rfl⟩ (Nat.le_of_ble_eq_true rfl) ⟨Nat.le_of_ble_eq_true rfl, Nat.le_of_ble_eq_true rfl⟩ d_law_601) (fun r2 f2 H locs h2 hw => ?_)
  have hag := L_compare hi h1 h2
  exact lv_icmp_eq (tgt := 659) S.1 S.2.1 d_law_604 (by decide) (fun _ => kk f2 H locs hag.2 hw) (fun h => absurd hag.1 h)
set_option maxHeartbeats 4000000 in
theorem law_cost (S : CallFix p m c code 4 s #[Value.ref b] ds_T R_law) (hN : dw_N lw_tbl s) (hX : va_X b L xs s s.heap) (hbl : b < s.heap.size) (hL : L ≤ 2049) (hiL : i + 4 ≤ L) (hi : ag_I f) (hw : dw_W D classes (ds_tys g) (fun q : Nat => s.heap.size ≤ q) s.heap (dw_l 77 (ds_ce g a) a f) s H locs) (hl : lv_has ls 4 [(0, .ref b), (1, .ref (a 0)), (2, .ref (a 54)), (3, .int (nI i))]) (kk : ∀ (f2 : Nat → Nat → Nat) (H : Heap) (locs : List Loc), ag_I f2 → dw_W D classes (ds_tys g) (fun q : Nat => s.heap.size ≤ q) s.heap (dw_l 77 (ds_ce g a) a f2) s H locs → W p l e room_1 s m #[Value.ref b] below meth c H locs 77 1240 Q (F0 m 659 ls [])) : W p l e room_1 s m #[Value.ref b] below meth c H locs 77 1240 Q (F0 m 609 ls []) := by
  have hA : ∀ q : Nat, s.heap.size ≤ q → (fun q : Nat => s.heap.size ≤ q) q := fun _ h => h
  have hbA : ¬ (fun q : Nat => s.heap.size ≤ q) b := Nat.not_le.mpr hbl
  refine lv_aload_n S.1 S.2.1 d_law_609 rfl (lv_at hl 1 rfl) ?_
  refine dw_aftl hw hA (dw_runV (As := []) (rest := []) (ko := 0) hw S ds_good (c_cost l D g a f hi.1.1 H.size) cw_DS_cost wd_331 wd_332 wd_333 ds_ob0 dw_blind (dw_pre hw hN) rfl hl.1 rfl ⟨Nat.le_of_ble_eq_true rfl, Nat.le_of_ble_eq_true rfl⟩ (Nat.le_of_ble_eq_true rfl) ⟨Nat.le_of_ble_eq_true rfl, Nat.le_of_ble_eq_true rfl⟩ d_law_610) (fun r1 f1 H locs h1 hw => ?_)
  have up := U_cost hi h1
  have M := ag_m hi up
  refine lv_aload_n S.1 S.2.1 d_law_613 rfl (lv_at hl 2 rfl) ?_
  refine dw_aftl hw hA (dw_runV (As := []) (rest := [.long r1]) (ko := 54) hw S ds_good (m_cost l D g a f1 (ag_rw f) (ag_pre hi up) H.size) cw_Mo_cost wd_490 wd_491 wd_492 ds_ob54 dw_blind (dw_pre hw hN) rfl hl.1 rfl ⟨Nat.le_of_ble_eq_true rfl, Nat.le_of_ble_eq_true rfl⟩ (Nat.le_of_ble_eq_true rfl) ⟨Nat.le_of_ble_eq_true rfl, Nat.le_of_ble_eq_true rfl⟩ d_law_614) (fun r2 f2 H locs h2 hw => ?_)
  have hag := L_cost hi h1 h2
  refine W.lcmp S.1 S.2.1 d_law_617 ?_
  exact lv_if_eq (tgt := 659) S.1 S.2.1 d_law_618 (by decide) (fun _ => kk f2 H locs hag.2 hw) (fun h => absurd ((lg_cmp_eq _ _).mpr hag.1) h)
set_option maxHeartbeats 4000000 in
theorem law_overtime (S : CallFix p m c code 4 s #[Value.ref b] ds_T R_law) (hN : dw_N lw_tbl s) (hX : va_X b L xs s s.heap) (hbl : b < s.heap.size) (hL : L ≤ 2049) (hiL : i + 4 ≤ L) (hi : ag_I f) (hw : dw_W D classes (ds_tys g) (fun q : Nat => s.heap.size ≤ q) s.heap (dw_l 77 (ds_ce g a) a f) s H locs) (hl : lv_has ls 4 [(0, .ref b), (1, .ref (a 0)), (2, .ref (a 54)), (3, .int (nI i))]) (kk : ∀ (f2 : Nat → Nat → Nat) (H : Heap) (locs : List Loc), ag_I f2 → dw_W D classes (ds_tys g) (fun q : Nat => s.heap.size ≤ q) s.heap (dw_l 77 (ds_ce g a) a f2) s H locs → W p l e room_1 s m #[Value.ref b] below meth c H locs 77 1240 Q (F0 m 659 ls [])) : W p l e room_1 s m #[Value.ref b] below meth c H locs 77 1240 Q (F0 m 623 ls []) := by
  have hA : ∀ q : Nat, s.heap.size ≤ q → (fun q : Nat => s.heap.size ≤ q) q := fun _ h => h
  have hbA : ¬ (fun q : Nat => s.heap.size ≤ q) b := Nat.not_le.mpr hbl
  obtain ⟨x1, e1⟩ : ∃ z, z = xs (nI (i + 1)).toNatClampNeg := ⟨_, rfl⟩
  refine lv_aload_n S.1 S.2.1 d_law_623 rfl (lv_at hl 1 rfl) ?_
  refine lv_aload_n S.1 S.2.1 d_law_624 rfl (lv_at hl 0 rfl) ?_
  refine lv_iload_n S.1 S.2.1 d_law_625 rfl (lv_at hl 3 rfl) ?_
  refine lv_iconst (v := nI 1) S.1 S.2.1 d_law_626 (by decide) ?_
  refine dn_iadd S.1 S.2.1 d_law_627 ?_
  refine va_sld S.1 S.2.1 hX hbl hbA hw.2.2.2 (vp_in_nI (by omega) (by omega)) d_law_628 ?_
  refine ds_topi (w := x1) e1.symm ?_
  refine dw_afti hw hA (dw_runV (As := [.int x1]) (rest := []) (ko := 0) hw S ds_good (c_overtime l D g a f x1 hi.1.1 H.size) cw_DS_overtime wd_337 wd_338 wd_339 ds_ob0 dw_blind (dw_pre hw hN) rfl hl.1 rfl ⟨Nat.le_of_ble_eq_true rfl, Nat.le_of_ble_eq_true rfl⟩ (Nat.le_of_ble_eq_true rfl) ⟨Nat.le_of_ble_eq_true rfl, Nat.le_of_ble_eq_true rfl⟩ d_law_629) (fun r1 f1 H locs h1 hw => ?_)
  have up := U_overtime hi h1
  have M := ag_m hi up
  refine lv_aload_n S.1 S.2.1 d_law_632 rfl (lv_at hl 2 rfl) ?_
  refine lv_aload_n S.1 S.2.1 d_law_633 rfl (lv_at hl 0 rfl) ?_
  refine lv_iload_n S.1 S.2.1 d_law_634 rfl (lv_at hl 3 rfl) ?_
  refine lv_iconst (v := nI 1) S.1 S.2.1 d_law_635 (by decide) ?_
  refine dn_iadd S.1 S.2.1 d_law_636 ?_
  refine va_sld S.1 S.2.1 hX hbl hbA hw.2.2.2 (vp_in_nI (by omega) (by omega)) d_law_637 ?_
  refine ds_topi (w := x1) e1.symm ?_
  refine dw_afti hw hA (dw_runV (As := [.int x1]) (rest := [.int r1]) (ko := 54) hw S ds_good (m_overtime l D g a f1 (ag_rw f) x1 (ag_pre hi up) H.size) cw_Mo_overtime wd_510 wd_511 wd_512 ds_ob54 dw_blind (dw_pre hw hN) rfl hl.1 rfl ⟨Nat.le_of_ble_eq_true rfl, Nat.le_of_ble_eq_true rfl⟩ (Nat.le_of_ble_eq_true rfl) ⟨Nat.le_of_ble_eq_true rfl, Nat.le_of_ble_eq_true rfl⟩ d_law_638) (fun r2 f2 H locs h2 hw => ?_)
  have hag := L_overtime hi h1 h2
  exact lv_icmp_eq (tgt := 659) S.1 S.2.1 d_law_641 (by decide) (fun _ => kk f2 H locs hag.2 hw) (fun h => absurd hag.1 h)
set_option maxHeartbeats 4000000 in
theorem law_next (S : CallFix p m c code 4 s #[Value.ref b] ds_T R_law) (hN : dw_N lw_tbl s) (hX : va_X b L xs s s.heap) (hbl : b < s.heap.size) (hL : L ≤ 2049) (hiL : i + 4 ≤ L) (hi : ag_I f) (hw : dw_W D classes (ds_tys g) (fun q : Nat => s.heap.size ≤ q) s.heap (dw_l 77 (ds_ce g a) a f) s H locs) (hl : lv_has ls 4 [(0, .ref b), (1, .ref (a 0)), (2, .ref (a 54)), (3, .int (nI i))]) (kk : ∀ (f2 : Nat → Nat → Nat) (H : Heap) (locs : List Loc), ag_I f2 → dw_W D classes (ds_tys g) (fun q : Nat => s.heap.size ≤ q) s.heap (dw_l 77 (ds_ce g a) a f2) s H locs → W p l e room_1 s m #[Value.ref b] below meth c H locs 77 1240 Q (F0 m 659 ls [])) : W p l e room_1 s m #[Value.ref b] below meth c H locs 77 1240 Q (F0 m 646 ls []) := by
  have hA : ∀ q : Nat, s.heap.size ≤ q → (fun q : Nat => s.heap.size ≤ q) q := fun _ h => h
  have hbA : ¬ (fun q : Nat => s.heap.size ≤ q) b := Nat.not_le.mpr hbl
  refine lv_aload_n S.1 S.2.1 d_law_646 rfl (lv_at hl 1 rfl) ?_
  refine dw_afti hw hA (dw_runV (As := []) (rest := []) (ko := 0) hw S ds_good (c_next l D g a f hi.1.1 H.size) cw_DS_next wd_341 wd_342 wd_343 ds_ob0 dw_blind (dw_pre hw hN) rfl hl.1 rfl ⟨Nat.le_of_ble_eq_true rfl, Nat.le_of_ble_eq_true rfl⟩ (Nat.le_of_ble_eq_true rfl) ⟨Nat.le_of_ble_eq_true rfl, Nat.le_of_ble_eq_true rfl⟩ d_law_647) (fun r1 f1 H locs h1 hw => ?_)
  have up := U_next hi h1
  have M := ag_m hi up
  refine lv_aload_n S.1 S.2.1 d_law_650 rfl (lv_at hl 2 rfl) ?_
  refine dw_afti hw hA (dw_runV (As := []) (rest := [.int r1]) (ko := 54) hw S ds_good (m_next l D g a f1 (ag_rw f) (ag_pre hi up) H.size) cw_Mo_next wd_582 wd_583 wd_584 ds_ob54 dw_blind (dw_pre hw hN) rfl hl.1 rfl ⟨Nat.le_of_ble_eq_true rfl, Nat.le_of_ble_eq_true rfl⟩ (Nat.le_of_ble_eq_true rfl) ⟨Nat.le_of_ble_eq_true rfl, Nat.le_of_ble_eq_true rfl⟩ d_law_651) (fun r2 f2 H locs h2 hw => ?_)
  have hag := L_next hi h1 h2
  exact lv_icmp_eq (tgt := 659) S.1 S.2.1 d_law_654 (by decide) (fun _ => kk f2 H locs hag.2 hw) (fun h => absurd hag.1 h)
end
