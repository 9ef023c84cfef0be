/-! the law's loop and its start -/
set_option maxHeartbeats 8000000 in
set_option maxRecDepth 20000 in
theorem law_loop {p : Program} {l : Launch} {e : Env} {s : State} {m : MethodId} {below : List Frame} {meth : Method} {c : Code} {b L : Nat} {xs : Nat → Int32} {D : va_G} {g : Nat → ClassId} {a : Nat → Nat} (S : CallFix p m c code 4 s #[Value.ref b] ds_T R_law) (hN : dw_N lw_tbl s) (hX : va_X b L xs s s.heap) (hbl : b < s.heap.size) (hL : L ≤ 2049) (hr : meth.sig.returnType = ret) (hlocks : meth.locks = false) : ∀ (k i : Nat) (f : Nat → Nat → Nat) (H : Heap) (locs : List Loc) (ls : Array Slot), L + 5 - i < k → 1 ≤ i → i ≤ L + 4 → ag_I f → dw_W D classes (ds_tys g) (fun q : Nat => s.heap.size ≤ q) s.heap (dw_l 77 (ds_ce g a) a f) s H locs → lv_has ls 4 [(0, .ref b), (1, .ref (a 0)), (2, .ref (a 54)), (3, .int (nI i))] → W p l e room_1 s m #[Value.ref b] below meth c H locs 77 1240 (lw_Z below #[Value.ref b] s) (F0 m 28 ls []) := by
  have hbA : ¬ (fun q : Nat => s.heap.size ≤ q) b := Nat.not_le.mpr hbl
  intro k
  induction k with
  | zero => intro i f H locs ls h; omega
  | succ k ih =>
    intro i f H locs ls hk h1 h4 hi hw hl
    refine lv_iload_n S.1 S.2.1 d_law_28 rfl (lv_at hl 3 rfl) ?_
    refine lv_aload_n S.1 S.2.1 d_law_29 rfl (lv_at hl 0 rfl) ?_
    refine va_slen S.1 S.2.1 hX hbl hbA hw.2.2.2 d_law_30 ?_
    refine ds_topi (w := nI L) rfl ?_
    refine lv_iconst (v := nI 4) S.1 S.2.1 d_law_31 (by decide) ?_
    refine lv_isub S.1 S.2.1 d_law_32 ?_
    refine lv_icmp_gt (tgt := 665) S.1 S.2.1 d_law_33 (by decide) (fun h => ?_) (fun h => ?_)
    · refine lv_iconst (v := 1) S.1 S.2.1 d_law_665 (by decide) ?_
      refine va_forget (fun q hq => hw.2.2.2.2.2 q hq) ?_
      refine W.widen (k := 600000) (n := 7302250) (Nat.le_of_ble_eq_true rfl) (Nat.le_of_ble_eq_true rfl) ?_
      exact lw_ret S.1 S.2.1 hr hlocks d_law_666
    · have hiL : i + 4 ≤ L := by
        rw [Int32.lt_iff_toInt_lt, pk_sub_toInt (by omega) (by omega), nI_toInt (by omega)] at h
        omega
      have back : ∀ (f2 : Nat → Nat → Nat) (H : Heap) (locs : List Loc), ag_I f2 → dw_W D classes (ds_tys g) (fun q : Nat => s.heap.size ≤ q) s.heap (dw_l 77 (ds_ce g a) a f2) s H locs → W p l e room_1 s m #[Value.ref b] below meth c H locs 77 1240 (lw_Z below #[Value.ref b] s) (F0 m 659 ls []) := by
        intro f2 H locs hi2 hw2
        refine lv_iinc (v := nI (i + 4)) (lv' := [(3, .int (nI (i + 4))), (0, .ref b), (1, .ref (a 0)), (2, .ref (a 54))]) S.1 S.2.1 d_law_659 hl (k := 3) rfl (by rw [show Int32.ofInt 4 = nI 4 from rfl, nI_add]) (by decide) rfl (fun ls hl => ?_)
        refine lv_goto (tgt := 28) S.1 S.2.1 d_law_662 (by decide) ?_
        exact ih (i + 4) f2 H locs ls (by omega) (by omega) (by omega) hi2 hw2 (lv_sub hl [1, 2, 3, 0] rfl)
      refine lv_aload_n S.1 S.2.1 d_law_36 rfl (lv_at hl 0 rfl) ?_
      refine lv_iload_n S.1 S.2.1 d_law_37 rfl (lv_at hl 3 rfl) ?_
      refine va_sld S.1 S.2.1 hX hbl hbA hw.2.2.2 (vp_in_nI (by omega) (by omega)) d_law_38 ?_
      refine lv_bipush (v := nI 31) S.1 S.2.1 d_law_39 (by decide) ?_
      refine lv_iand S.1 S.2.1 d_law_41 ?_
      obtain ⟨j, hj, ej⟩ := pk_andE (xs (nI i).toNatClampNeg) (m := nI 31) 5 (by decide)
      refine ds_topi (w := nI j) ej ?_
      clear ej
      have hj32 : j < 32 := hj
      clear hj
      rcases (show j = 0 ∨ j = 1 ∨ j = 2 ∨ j = 3 ∨ j = 4 ∨ j = 5 ∨ j = 6 ∨ j = 7 ∨ j = 8 ∨ j = 9 ∨ j = 10 ∨ j = 11 ∨ j = 12 ∨ j = 13 ∨ j = 14 ∨ j = 15 ∨ j = 16 ∨ j = 17 ∨ j = 18 ∨ j = 19 ∨ 20 ≤ j by omega) with rfl | rfl | rfl | rfl | rfl | rfl | rfl | rfl | rfl | rfl | rfl | rfl | rfl | rfl | rfl | rfl | rfl | rfl | rfl | rfl | h20
      · exact lv_tableIn (off := 94) (tgt := 136) S.1 S.2.1 d_law_42 (by decide +kernel) (by decide +kernel) (by decide +kernel) (by decide) (law_stop S hN hX hbl hL hiL hi hw hl back)
      · exact lv_tableIn (off := 137) (tgt := 179) S.1 S.2.1 d_law_42 (by decide +kernel) (by decide +kernel) (by decide +kernel) (by decide) (law_freeze S hN hX hbl hL hiL hi hw hl back)
      · exact lv_tableIn (off := 186) (tgt := 228) S.1 S.2.1 d_law_42 (by decide +kernel) (by decide +kernel) (by decide +kernel) (by decide) (law_block S hN hX hbl hL hiL hi hw hl back)
      · exact lv_tableIn (off := 235) (tgt := 277) S.1 S.2.1 d_law_42 (by decide +kernel) (by decide +kernel) (by decide +kernel) (by decide) (law_out S hN hX hbl hL hiL hi hw hl back)
      · exact lv_tableIn (off := 268) (tgt := 310) S.1 S.2.1 d_law_42 (by decide +kernel) (by decide +kernel) (by decide +kernel) (by decide) (law_way S hN hX hbl hL hiL hi hw hl back)
      · exact lv_tableIn (off := 311) (tgt := 353) S.1 S.2.1 d_law_42 (by decide +kernel) (by decide +kernel) (by decide +kernel) (by decide) (law_hours S hN hX hbl hL hiL hi hw hl back)
      · exact lv_tableIn (off := 344) (tgt := 386) S.1 S.2.1 d_law_42 (by decide +kernel) (by decide +kernel) (by decide +kernel) (by decide) (law_extra S hN hX hbl hL hiL hi hw hl back)
      · exact lv_tableIn (off := 367) (tgt := 409) S.1 S.2.1 d_law_42 (by decide +kernel) (by decide +kernel) (by decide +kernel) (by decide) (law_run S hN hX hbl hL hiL hi hw hl back)
      · exact lv_tableIn (off := 380) (tgt := 422) S.1 S.2.1 d_law_42 (by decide +kernel) (by decide +kernel) (by decide +kernel) (by decide) (law_vehicleOf S hN hX hbl hL hiL hi hw hl back)
      · exact lv_tableIn (off := 403) (tgt := 445) S.1 S.2.1 d_law_42 (by decide +kernel) (by decide +kernel) (by decide +kernel) (by decide) (law_place S hN hX hbl hL hiL hi hw hl back)
      · exact lv_tableIn (off := 426) (tgt := 468) S.1 S.2.1 d_law_42 (by decide +kernel) (by decide +kernel) (by decide +kernel) (by decide) (law_moved S hN hX hbl hL hiL hi hw hl back)
      · exact lv_tableIn (off := 449) (tgt := 491) S.1 S.2.1 d_law_42 (by decide +kernel) (by decide +kernel) (by decide +kernel) (by decide) (law_carried S hN hX hbl hL hiL hi hw hl back)
      · exact lv_tableIn (off := 472) (tgt := 514) S.1 S.2.1 d_law_42 (by decide +kernel) (by decide +kernel) (by decide +kernel) (by decide) (law_send S hN hX hbl hL hiL hi hw hl back)
      · exact lv_tableIn (off := 485) (tgt := 527) S.1 S.2.1 d_law_42 (by decide +kernel) (by decide +kernel) (by decide +kernel) (by decide) (law_sent S hN hX hbl hL hiL hi hw hl back)
      · exact lv_tableIn (off := 508) (tgt := 550) S.1 S.2.1 d_law_42 (by decide +kernel) (by decide +kernel) (by decide +kernel) (by decide) (law_undo S hN hX hbl hL hiL hi hw hl back)
      · exact lv_tableIn (off := 521) (tgt := 563) S.1 S.2.1 d_law_42 (by decide +kernel) (by decide +kernel) (by decide +kernel) (by decide) (law_copy S hN hX hbl hL hiL hi hw hl back)
      · exact lv_tableIn (off := 534) (tgt := 576) S.1 S.2.1 d_law_42 (by decide +kernel) (by decide +kernel) (by decide +kernel) (by decide) (law_compare S hN hX hbl hL hiL hi hw hl back)
      · exact lv_tableIn (off := 567) (tgt := 609) S.1 S.2.1 d_law_42 (by decide +kernel) (by decide +kernel) (by decide +kernel) (by decide) (law_cost S hN hX hbl hL hiL hi hw hl back)
      · exact lv_tableIn (off := 581) (tgt := 623) S.1 S.2.1 d_law_42 (by decide +kernel) (by decide +kernel) (by decide +kernel) (by decide) (law_overtime S hN hX hbl hL hiL hi hw hl back)
      · exact lv_tableIn (off := 604) (tgt := 646) S.1 S.2.1 d_law_42 (by decide +kernel) (by decide +kernel) (by decide +kernel) (by decide) (law_next S hN hX hbl hL hiL hi hw hl back)
      · refine lv_tableOut (tgt := 659) S.1 S.2.1 d_law_42 (Or.inr ?_) (by decide) (back f H locs hi hw)
        rw [nI_toInt (by omega)]
        omega
