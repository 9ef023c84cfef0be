/-! contracts: bits, why, rows of the next day -/
set_option maxHeartbeats 4000000 in
set_option maxRecDepth 100000 in
theorem c_bitCount (l : Launch) (D : va_G) (g : Nat → ClassId) (a : Nat → Nat) (f : Nat → Nat → Nat) (x : Nat) (hx : x < 256) : ds_I l D g a y_In_bitCount b_In_bitCount 1 .int 0 0 [.int (nI x)] f (fun r u => r = nI (ds_cnt (fun i => x.testBit i) 8) ∧ u = f) := by
  refine dw_ofI (by decide) (fun _ _ _ => rfl) (Nat.le_of_ble_eq_true rfl) ?_
  intro p e s m args below meth c ls A Q R H locs hR hA S hN hw hl hret
  have hl : lv_has ls 1 [(0, .int (nI x))] := hl
  have S : CallFix p m c b_In_bitCount 1 s args ds_T "java/lang/Integer" := S
  refine lv_iload_n S.1 S.2.1 d_In_bitCount_0 rfl (lv_at hl 0 rfl) ?_
  refine lv_iload_n S.1 S.2.1 d_In_bitCount_1 rfl (lv_at hl 0 rfl) ?_
  refine lv_iconst (v := nI 1) S.1 S.2.1 d_In_bitCount_2 (by decide) ?_
  refine lv_iushr S.1 S.2.1 d_In_bitCount_3 rfl ?_
  refine lv_ldcw (v := nI 1431655765) S.1 S.2.1 S.2.2.2.1 (S.2.2.2.2 _ wd_280) d_In_bitCount_4 ?_
  refine lv_iand S.1 S.2.1 d_In_bitCount_7 ?_
  refine lv_isub S.1 S.2.1 d_In_bitCount_8 ?_
  refine lv_istore_n (lv' := [(0, .int ((nI x) - ((((nI x).toUInt32 >>> ((nI 1).toUInt32 &&& Int32.toUInt32 31)).toInt32) &&& (nI 1431655765))))]) S.1 S.2.1 d_In_bitCount_9 rfl hl (by decide) rfl (fun ls hl => ?_)
  refine lv_iload_n S.1 S.2.1 d_In_bitCount_10 rfl (lv_at hl 0 rfl) ?_
  refine lv_ldcw (v := nI 858993459) S.1 S.2.1 S.2.2.2.1 (S.2.2.2.2 _ wd_281) d_In_bitCount_11 ?_
  refine lv_iand S.1 S.2.1 d_In_bitCount_14 ?_
  refine lv_iload_n S.1 S.2.1 d_In_bitCount_15 rfl (lv_at hl 0 rfl) ?_
  refine lv_iconst (v := nI 2) S.1 S.2.1 d_In_bitCount_16 (by decide) ?_
  refine lv_iushr S.1 S.2.1 d_In_bitCount_17 rfl ?_
  refine lv_ldcw (v := nI 858993459) S.1 S.2.1 S.2.2.2.1 (S.2.2.2.2 _ wd_281) d_In_bitCount_18 ?_
  refine lv_iand S.1 S.2.1 d_In_bitCount_21 ?_
  refine lv_iadd S.1 S.2.1 d_In_bitCount_22 ?_
  refine lv_istore_n (lv' := [(0, .int ((((nI x) - ((((nI x).toUInt32 >>> ((nI 1).toUInt32 &&& Int32.toUInt32 31)).toInt32) &&& (nI 1431655765))) &&& (nI 858993459)) + (((((nI x) - ((((nI x).toUInt32 >>> ((nI 1).toUInt32 &&& Int32.toUInt32 31)).toInt32) &&& (nI 1431655765))).toUInt32 >>> ((nI 2).toUInt32 &&& Int32.toUInt32 31)).toInt32) &&& (nI 858993459))))]) S.1 S.2.1 d_In_bitCount_23 rfl hl (by decide) rfl (fun ls hl => ?_)
  refine lv_iload_n S.1 S.2.1 d_In_bitCount_24 rfl (lv_at hl 0 rfl) ?_
  refine lv_iload_n S.1 S.2.1 d_In_bitCount_25 rfl (lv_at hl 0 rfl) ?_
  refine lv_iconst (v := nI 4) S.1 S.2.1 d_In_bitCount_26 (by decide) ?_
  refine lv_iushr S.1 S.2.1 d_In_bitCount_27 rfl ?_
  refine lv_iadd S.1 S.2.1 d_In_bitCount_28 ?_
  refine lv_ldcw (v := nI 252645135) S.1 S.2.1 S.2.2.2.1 (S.2.2.2.2 _ wd_282) d_In_bitCount_29 ?_
  refine lv_iand S.1 S.2.1 d_In_bitCount_32 ?_
  refine lv_istore_n (lv' := [(0, .int ((((((nI x) - ((((nI x).toUInt32 >>> ((nI 1).toUInt32 &&& Int32.toUInt32 31)).toInt32) &&& (nI 1431655765))) &&& (nI 858993459)) + (((((nI x) - ((((nI x).toUInt32 >>> ((nI 1).toUInt32 &&& Int32.toUInt32 31)).toInt32) &&& (nI 1431655765))).toUInt32 >>> ((nI 2).toUInt32 &&& Int32.toUInt32 31)).toInt32) &&& (nI 858993459))) + ((((((nI x) - ((((nI x).toUInt32 >>> ((nI 1).toUInt32 &&& Int32.toUInt32 31)).toInt32) &&& (nI 1431655765))) &&& (nI 858993459)) + (((((nI x) - ((((nI x).toUInt32 >>> ((nI 1).toUInt32 &&& Int32.toUInt32 31)).toInt32) &&& (nI 1431655765))).toUInt32 >>> ((nI 2).toUInt32 &&& Int32.toUInt32 31)).toInt32) &&& (nI 858993459))).toUInt32 >>> ((nI 4).toUInt32 &&& Int32.toUInt32 31)).toInt32)) &&& (nI 252645135)))]) S.1 S.2.1 d_In_bitCount_33 rfl hl (by decide) rfl (fun ls hl => ?_)
  refine lv_iload_n S.1 S.2.1 d_In_bitCount_34 rfl (lv_at hl 0 rfl) ?_
  refine lv_iload_n S.1 S.2.1 d_In_bitCount_35 rfl (lv_at hl 0 rfl) ?_
  refine lv_bipush (v := nI 8) S.1 S.2.1 d_In_bitCount_36 (by decide) ?_
  refine lv_iushr S.1 S.2.1 d_In_bitCount_38 rfl ?_
  refine lv_iadd S.1 S.2.1 d_In_bitCount_39 ?_
  refine lv_istore_n (lv' := [(0, .int (((((((nI x) - ((((nI x).toUInt32 >>> ((nI 1).toUInt32 &&& Int32.toUInt32 31)).toInt32) &&& (nI 1431655765))) &&& (nI 858993459)) + (((((nI x) - ((((nI x).toUInt32 >>> ((nI 1).toUInt32 &&& Int32.toUInt32 31)).toInt32) &&& (nI 1431655765))).toUInt32 >>> ((nI 2).toUInt32 &&& Int32.toUInt32 31)).toInt32) &&& (nI 858993459))) + ((((((nI x) - ((((nI x).toUInt32 >>> ((nI 1).toUInt32 &&& Int32.toUInt32 31)).toInt32) &&& (nI 1431655765))) &&& (nI 858993459)) + (((((nI x) - ((((nI x).toUInt32 >>> ((nI 1).toUInt32 &&& Int32.toUInt32 31)).toInt32) &&& (nI 1431655765))).toUInt32 >>> ((nI 2).toUInt32 &&& Int32.toUInt32 31)).toInt32) &&& (nI 858993459))).toUInt32 >>> ((nI 4).toUInt32 &&& Int32.toUInt32 31)).toInt32)) &&& (nI 252645135)) + ((((((((nI x) - ((((nI x).toUInt32 >>> ((nI 1).toUInt32 &&& Int32.toUInt32 31)).toInt32) &&& (nI 1431655765))) &&& (nI 858993459)) + (((((nI x) - ((((nI x).toUInt32 >>> ((nI 1).toUInt32 &&& Int32.toUInt32 31)).toInt32) &&& (nI 1431655765))).toUInt32 >>> ((nI 2).toUInt32 &&& Int32.toUInt32 31)).toInt32) &&& (nI 858993459))) + ((((((nI x) - ((((nI x).toUInt32 >>> ((nI 1).toUInt32 &&& Int32.toUInt32 31)).toInt32) &&& (nI 1431655765))) &&& (nI 858993459)) + (((((nI x) - ((((nI x).toUInt32 >>> ((nI 1).toUInt32 &&& Int32.toUInt32 31)).toInt32) &&& (nI 1431655765))).toUInt32 >>> ((nI 2).toUInt32 &&& Int32.toUInt32 31)).toInt32) &&& (nI 858993459))).toUInt32 >>> ((nI 4).toUInt32 &&& Int32.toUInt32 31)).toInt32)) &&& (nI 252645135)).toUInt32 >>> ((nI 8).toUInt32 &&& Int32.toUInt32 31)).toInt32)))]) S.1 S.2.1 d_In_bitCount_40 rfl hl (by decide) rfl (fun ls hl => ?_)
  refine lv_iload_n S.1 S.2.1 d_In_bitCount_41 rfl (lv_at hl 0 rfl) ?_
  refine lv_iload_n S.1 S.2.1 d_In_bitCount_42 rfl (lv_at hl 0 rfl) ?_
  refine lv_bipush (v := nI 16) S.1 S.2.1 d_In_bitCount_43 (by decide) ?_
  refine lv_iushr S.1 S.2.1 d_In_bitCount_45 rfl ?_
  refine lv_iadd S.1 S.2.1 d_In_bitCount_46 ?_
  refine lv_istore_n (lv' := [(0, .int ((((((((nI x) - ((((nI x).toUInt32 >>> ((nI 1).toUInt32 &&& Int32.toUInt32 31)).toInt32) &&& (nI 1431655765))) &&& (nI 858993459)) + (((((nI x) - ((((nI x).toUInt32 >>> ((nI 1).toUInt32 &&& Int32.toUInt32 31)).toInt32) &&& (nI 1431655765))).toUInt32 >>> ((nI 2).toUInt32 &&& Int32.toUInt32 31)).toInt32) &&& (nI 858993459))) + ((((((nI x) - ((((nI x).toUInt32 >>> ((nI 1).toUInt32 &&& Int32.toUInt32 31)).toInt32) &&& (nI 1431655765))) &&& (nI 858993459)) + (((((nI x) - ((((nI x).toUInt32 >>> ((nI 1).toUInt32 &&& Int32.toUInt32 31)).toInt32) &&& (nI 1431655765))).toUInt32 >>> ((nI 2).toUInt32 &&& Int32.toUInt32 31)).toInt32) &&& (nI 858993459))).toUInt32 >>> ((nI 4).toUInt32 &&& Int32.toUInt32 31)).toInt32)) &&& (nI 252645135)) + ((((((((nI x) - ((((nI x).toUInt32 >>> ((nI 1).toUInt32 &&& Int32.toUInt32 31)).toInt32) &&& (nI 1431655765))) &&& (nI 858993459)) + (((((nI x) - ((((nI x).toUInt32 >>> ((nI 1).toUInt32 &&& Int32.toUInt32 31)).toInt32) &&& (nI 1431655765))).toUInt32 >>> ((nI 2).toUInt32 &&& Int32.toUInt32 31)).toInt32) &&& (nI 858993459))) + ((((((nI x) - ((((nI x).toUInt32 >>> ((nI 1).toUInt32 &&& Int32.toUInt32 31)).toInt32) &&& (nI 1431655765))) &&& (nI 858993459)) + (((((nI x) - ((((nI x).toUInt32 >>> ((nI 1).toUInt32 &&& Int32.toUInt32 31)).toInt32) &&& (nI 1431655765))).toUInt32 >>> ((nI 2).toUInt32 &&& Int32.toUInt32 31)).toInt32) &&& (nI 858993459))).toUInt32 >>> ((nI 4).toUInt32 &&& Int32.toUInt32 31)).toInt32)) &&& (nI 252645135)).toUInt32 >>> ((nI 8).toUInt32 &&& Int32.toUInt32 31)).toInt32)) + (((((((((nI x) - ((((nI x).toUInt32 >>> ((nI 1).toUInt32 &&& Int32.toUInt32 31)).toInt32) &&& (nI 1431655765))) &&& (nI 858993459)) + (((((nI x) - ((((nI x).toUInt32 >>> ((nI 1).toUInt32 &&& Int32.toUInt32 31)).toInt32) &&& (nI 1431655765))).toUInt32 >>> ((nI 2).toUInt32 &&& Int32.toUInt32 31)).toInt32) &&& (nI 858993459))) + ((((((nI x) - ((((nI x).toUInt32 >>> ((nI 1).toUInt32 &&& Int32.toUInt32 31)).toInt32) &&& (nI 1431655765))) &&& (nI 858993459)) + (((((nI x) - ((((nI x).toUInt32 >>> ((nI 1).toUInt32 &&& Int32.toUInt32 31)).toInt32) &&& (nI 1431655765))).toUInt32 >>> ((nI 2).toUInt32 &&& Int32.toUInt32 31)).toInt32) &&& (nI 858993459))).toUInt32 >>> ((nI 4).toUInt32 &&& Int32.toUInt32 31)).toInt32)) &&& (nI 252645135)) + ((((((((nI x) - ((((nI x).toUInt32 >>> ((nI 1).toUInt32 &&& Int32.toUInt32 31)).toInt32) &&& (nI 1431655765))) &&& (nI 858993459)) + (((((nI x) - ((((nI x).toUInt32 >>> ((nI 1).toUInt32 &&& Int32.toUInt32 31)).toInt32) &&& (nI 1431655765))).toUInt32 >>> ((nI 2).toUInt32 &&& Int32.toUInt32 31)).toInt32) &&& (nI 858993459))) + ((((((nI x) - ((((nI x).toUInt32 >>> ((nI 1).toUInt32 &&& Int32.toUInt32 31)).toInt32) &&& (nI 1431655765))) &&& (nI 858993459)) + (((((nI x) - ((((nI x).toUInt32 >>> ((nI 1).toUInt32 &&& Int32.toUInt32 31)).toInt32) &&& (nI 1431655765))).toUInt32 >>> ((nI 2).toUInt32 &&& Int32.toUInt32 31)).toInt32) &&& (nI 858993459))).toUInt32 >>> ((nI 4).toUInt32 &&& Int32.toUInt32 31)).toInt32)) &&& (nI 252645135)).toUInt32 >>> ((nI 8).toUInt32 &&& Int32.toUInt32 31)).toInt32)).toUInt32 >>> ((nI 16).toUInt32 &&& Int32.toUInt32 31)).toInt32)))]) S.1 S.2.1 d_In_bitCount_47 rfl hl (by decide) rfl (fun ls hl => ?_)
  refine lv_iload_n S.1 S.2.1 d_In_bitCount_48 rfl (lv_at hl 0 rfl) ?_
  refine lv_bipush (v := nI 63) S.1 S.2.1 d_In_bitCount_49 (by decide) ?_
  refine lv_iand S.1 S.2.1 d_In_bitCount_51 ?_
  exact hret H locs _ ls _ _ hw (⟨(show ∀ x, x < 256 → ((((((((nI x) - ((((nI x).toUInt32 >>> ((nI 1).toUInt32 &&& Int32.toUInt32 31)).toInt32) &&& (nI 1431655765))) &&& (nI 858993459)) + (((((nI x) - ((((nI x).toUInt32 >>> ((nI 1).toUInt32 &&& Int32.toUInt32 31)).toInt32) &&& (nI 1431655765))).toUInt32 >>> ((nI 2).toUInt32 &&& Int32.toUInt32 31)).toInt32) &&& (nI 858993459))) + ((((((nI x) - ((((nI x).toUInt32 >>> ((nI 1).toUInt32 &&& Int32.toUInt32 31)).toInt32) &&& (nI 1431655765))) &&& (nI 858993459)) + (((((nI x) - ((((nI x).toUInt32 >>> ((nI 1).toUInt32 &&& Int32.toUInt32 31)).toInt32) &&& (nI 1431655765))).toUInt32 >>> ((nI 2).toUInt32 &&& Int32.toUInt32 31)).toInt32) &&& (nI 858993459))).toUInt32 >>> ((nI 4).toUInt32 &&& Int32.toUInt32 31)).toInt32)) &&& (nI 252645135)) + ((((((((nI x) - ((((nI x).toUInt32 >>> ((nI 1).toUInt32 &&& Int32.toUInt32 31)).toInt32) &&& (nI 1431655765))) &&& (nI 858993459)) + (((((nI x) - ((((nI x).toUInt32 >>> ((nI 1).toUInt32 &&& Int32.toUInt32 31)).toInt32) &&& (nI 1431655765))).toUInt32 >>> ((nI 2).toUInt32 &&& Int32.toUInt32 31)).toInt32) &&& (nI 858993459))) + ((((((nI x) - ((((nI x).toUInt32 >>> ((nI 1).toUInt32 &&& Int32.toUInt32 31)).toInt32) &&& (nI 1431655765))) &&& (nI 858993459)) + (((((nI x) - ((((nI x).toUInt32 >>> ((nI 1).toUInt32 &&& Int32.toUInt32 31)).toInt32) &&& (nI 1431655765))).toUInt32 >>> ((nI 2).toUInt32 &&& Int32.toUInt32 31)).toInt32) &&& (nI 858993459))).toUInt32 >>> ((nI 4).toUInt32 &&& Int32.toUInt32 31)).toInt32)) &&& (nI 252645135)).toUInt32 >>> ((nI 8).toUInt32 &&& Int32.toUInt32 31)).toInt32)) + (((((((((nI x) - ((((nI x).toUInt32 >>> ((nI 1).toUInt32 &&& Int32.toUInt32 31)).toInt32) &&& (nI 1431655765))) &&& (nI 858993459)) + (((((nI x) - ((((nI x).toUInt32 >>> ((nI 1).toUInt32 &&& Int32.toUInt32 31)).toInt32) &&& (nI 1431655765))).toUInt32 >>> ((nI 2).toUInt32 &&& Int32.toUInt32 31)).toInt32) &&& (nI 858993459))) + ((((((nI x) - ((((nI x).toUInt32 >>> ((nI 1).toUInt32 &&& Int32.toUInt32 31)).toInt32) &&& (nI 1431655765))) &&& (nI 858993459)) + (((((nI x) - ((((nI x).toUInt32 >>> ((nI 1).toUInt32 &&& Int32.toUInt32 31)).toInt32) &&& (nI 1431655765))).toUInt32 >>> ((nI 2).toUInt32 &&& Int32.toUInt32 31)).toInt32) &&& (nI 858993459))).toUInt32 >>> ((nI 4).toUInt32 &&& Int32.toUInt32 31)).toInt32)) &&& (nI 252645135)) + ((((((((nI x) - ((((nI x).toUInt32 >>> ((nI 1).toUInt32 &&& Int32.toUInt32 31)).toInt32) &&& (nI 1431655765))) &&& (nI 858993459)) + (((((nI x) - ((((nI x).toUInt32 >>> ((nI 1).toUInt32 &&& Int32.toUInt32 31)).toInt32) &&& (nI 1431655765))).toUInt32 >>> ((nI 2).toUInt32 &&& Int32.toUInt32 31)).toInt32) &&& (nI 858993459))) + ((((((nI x) - ((((nI x).toUInt32 >>> ((nI 1).toUInt32 &&& Int32.toUInt32 31)).toInt32) &&& (nI 1431655765))) &&& (nI 858993459)) + (((((nI x) - ((((nI x).toUInt32 >>> ((nI 1).toUInt32 &&& Int32.toUInt32 31)).toInt32) &&& (nI 1431655765))).toUInt32 >>> ((nI 2).toUInt32 &&& Int32.toUInt32 31)).toInt32) &&& (nI 858993459))).toUInt32 >>> ((nI 4).toUInt32 &&& Int32.toUInt32 31)).toInt32)) &&& (nI 252645135)).toUInt32 >>> ((nI 8).toUInt32 &&& Int32.toUInt32 31)).toInt32)).toUInt32 >>> ((nI 16).toUInt32 &&& Int32.toUInt32 31)).toInt32)) &&& (nI 63) = nI (ds_cnt (fun i => x.testBit i) 8) by decide +kernel) x hx, rfl⟩) d_In_bitCount_52
set_option maxHeartbeats 4000000 in
set_option maxRecDepth 100000 in
theorem c_whyNoPlan (l : Launch) (D : va_G) (g : Nat → ClassId) (a : Nat → Nat) (f : Nat → Nat → Nat)  (ok : ds_ok f) : ds_I l D g a y_DS_whyNoPlan b_DS_whyNoPlan 2 .int 1 22 [.ref (a 0)] f (fun r u => r = (if ds_any (fun x => f 12 x != 0 && f 13 x != 0) (f 1 1) = true then (-2) else if ds_any (fun x => f 12 x != 0 && !ds_can f (f 10 x) x) (f 1 1) = true then (-3) else (-4)) ∧ u = f) := by
  refine dw_ofI (by decide) (fun _ _ _ => rfl) (Nat.le_of_ble_eq_true rfl) ?_
  intro p e s m args below meth c ls A Q R H locs hR hA S hN hw hl hret
  have hl : lv_has ls 2 [(0, .ref (a 0))] := hl
  have S : CallFix p m c b_DS_whyNoPlan 2 s args ds_T R_DS := S
  obtain ⟨hV, hn, hex, hst, hve, hwy, hw0, hrw⟩ := id ok
  refine lv_iconst (v := nI 0) S.1 S.2.1 d_DS_whyNoPlan_0 (by decide) ?_
  refine lv_istore_n (lv' := [(1, .int (nI 0)), (0, .ref (a 0))]) S.1 S.2.1 d_DS_whyNoPlan_1 rfl hl (by decide) rfl (fun ls hl => ?_)
  have loop_2 : ∀ (n : Nat) (i : Nat) (hi : i ≤ f 1 1) (h1 : ds_any (fun x => f 12 x != 0 && f 13 x != 0) i = false) (_ : f 1 1 - i < n) (H : Heap) (locs : List Loc), dw_W D classes (ds_tys g) A s.heap (dw_l 77 (ds_ce g a) a f) s H locs → ∀ (ls : Array Slot), lv_has ls 2 [(0, .ref (a 0)), (1, .int (nI i))] → W p l e R s m args below meth c H locs 0 0 Q (F0 m 2 ls []) := by
    intro n
    induction n with
    | zero => intro i hi h1 h9; exact absurd h9 (Nat.not_lt_zero _)
    | succ n ih_2 =>
      intro i hi h1 hm_2 H locs hw ls hl
      refine lv_iload_n S.1 S.2.1 d_DS_whyNoPlan_2 rfl (lv_at hl 1 rfl) ?_
      refine lv_aload_n S.1 S.2.1 d_DS_whyNoPlan_3 rfl (lv_at hl 0 rfl) ?_
      refine dw_getf (fi := 0) (v := .ref (a 1)) S hw i_DS ds_ob0 (by decide) rfl wd_135 rfl d_DS_whyNoPlan_4 ?_
      refine dw_getN (fi := 1) (v := .int (nI (f 1 1))) S hw i_Day ds_ob1 (by decide) rfl hN wd_35 rfl d_DS_whyNoPlan_7 ?_
      refine dn_icmp_ge S.1 S.2.1 46 (by omega) (by omega) d_DS_whyNoPlan_10 (by decide) (fun h_10 => ?_) (fun h_10 => ?_)
      · have h1 : ds_any (fun x => f 12 x != 0 && f 13 x != 0) (f 1 1) = false := by rw [← show i = f 1 1 by omega]; exact h1
        refine lv_iconst (v := nI 0) S.1 S.2.1 d_DS_whyNoPlan_46 (by decide) ?_
        refine lv_istore_n (lv' := [(1, .int (nI 0)), (0, .ref (a 0))]) S.1 S.2.1 d_DS_whyNoPlan_47 rfl hl (by decide) rfl (fun ls hl => ?_)
        have loop_48 : ∀ (n : Nat) (i : Nat) (hi : i ≤ f 1 1) (h2 : ds_any (fun x => f 12 x != 0 && !ds_can f (f 10 x) x) i = false) (_ : f 1 1 - i < n) (H : Heap) (locs : List Loc), dw_W D classes (ds_tys g) A s.heap (dw_l 77 (ds_ce g a) a f) s H locs → ∀ (ls : Array Slot), lv_has ls 2 [(0, .ref (a 0)), (1, .int (nI i))] → W p l e R s m args below meth c H locs 0 0 Q (F0 m 48 ls []) := by
          intro n
          induction n with
          | zero => intro i hi h2 h9; exact absurd h9 (Nat.not_lt_zero _)
          | succ n ih_48 =>
            intro i hi h2 hm_48 H locs hw ls hl
            refine lv_iload_n S.1 S.2.1 d_DS_whyNoPlan_48 rfl (lv_at hl 1 rfl) ?_
            refine lv_aload_n S.1 S.2.1 d_DS_whyNoPlan_49 rfl (lv_at hl 0 rfl) ?_
            refine dw_getf (fi := 0) (v := .ref (a 1)) S hw i_DS ds_ob0 (by decide) rfl wd_135 rfl d_DS_whyNoPlan_50 ?_
            refine dw_getN (fi := 1) (v := .int (nI (f 1 1))) S hw i_Day ds_ob1 (by decide) rfl hN wd_35 rfl d_DS_whyNoPlan_53 ?_
            refine dn_icmp_ge S.1 S.2.1 100 (by omega) (by omega) d_DS_whyNoPlan_56 (by decide) (fun h_56 => ?_) (fun h_56 => ?_)
            · refine lv_bipush (v := (-4)) S.1 S.2.1 d_DS_whyNoPlan_100 (by decide) ?_
              exact hret H locs _ ls _ _ hw (⟨by rw [if_neg (by rw [h1]; decide), if_neg (by rw [← show i = f 1 1 by omega, h2]; decide)], rfl⟩) d_DS_whyNoPlan_102
            · have s1 := hst i (by omega)
              have r1 := hrw.2 i (by omega)
              refine lv_aload_n S.1 S.2.1 d_DS_whyNoPlan_59 rfl (lv_at hl 0 rfl) ?_
              refine dw_getf (fi := 0) (v := .ref (a 1)) S hw i_DS ds_ob0 (by decide) rfl wd_135 rfl d_DS_whyNoPlan_60 ?_
              refine dw_getN (fi := 6) (v := .ref (a 12)) S hw i_Day ds_ob1 (by decide) rfl hN wd_45 rfl d_DS_whyNoPlan_63 ?_
              refine lv_iload_n S.1 S.2.1 d_DS_whyNoPlan_66 rfl (lv_at hl 1 rfl) ?_
              refine dw_zald S.1 S.2.1 hw ds_k12 (by omega) d_DS_whyNoPlan_67 ?_
              refine dn_if_eq S.1 S.2.1 94 (by omega) d_DS_whyNoPlan_68 (by decide) (fun h_68 => ?_) (fun h_68 => ?_)
              · refine lv_iinc (v := nI (i + 1)) (lv' := [(1, .int (nI (i + 1))), (0, .ref (a 0))]) S.1 S.2.1 d_DS_whyNoPlan_94 hl (k := 1) rfl (by rw [show Int32.ofInt 1 = nI 1 from rfl, nI_add]) (by decide) rfl (fun ls hl => ?_)
                refine lv_goto (tgt := 48) S.1 S.2.1 d_DS_whyNoPlan_97 (by decide) ?_
                exact ih_48 (i + 1) (by omega) (by simp [ds_any, h2, h_68]) (by omega) H locs hw ls (lv_sub hl [1, 0] rfl)
              · refine lv_aload_n S.1 S.2.1 d_DS_whyNoPlan_71 rfl (lv_at hl 0 rfl) ?_
                refine dw_getf (fi := 0) (v := .ref (a 1)) S hw i_DS ds_ob0 (by decide) rfl wd_135 rfl d_DS_whyNoPlan_72 ?_
                refine lv_aload_n S.1 S.2.1 d_DS_whyNoPlan_75 rfl (lv_at hl 0 rfl) ?_
                refine dw_getf (fi := 0) (v := .ref (a 1)) S hw i_DS ds_ob0 (by decide) rfl wd_135 rfl d_DS_whyNoPlan_76 ?_
                refine dw_getN (fi := 4) (v := .ref (a 10)) S hw i_Day ds_ob1 (by decide) rfl hN wd_42 rfl d_DS_whyNoPlan_79 ?_
                refine lv_iload_n S.1 S.2.1 d_DS_whyNoPlan_82 rfl (lv_at hl 1 rfl) ?_
                refine dw_iald S.1 S.2.1 hw ds_k10 (by omega) d_DS_whyNoPlan_83 ?_
                refine lv_iload_n S.1 S.2.1 d_DS_whyNoPlan_84 rfl (lv_at hl 1 rfl) ?_
                refine dw_afti hw hA (dw_runVN (As := [.int (nI (f 10 i)), .int (nI i)]) (rest := []) (ko := 1) hw S ds_good (c_canDo l D g a f (f 10 i) i (ok) (r1.1) (by omega) H.size) cw_Day_canDo hN wd_262 wd_227 ws_Day_canDo ds_ob1 dw_blind (dw_pre hw hN) rfl hl.1 rfl ⟨Nat.le_trans (Nat.le_of_ble_eq_true rfl) hR.1, Nat.le_trans (Nat.le_of_ble_eq_true rfl) hR.2⟩ (Nat.le_of_ble_eq_true rfl) ⟨Nat.zero_le _, Nat.zero_le _⟩ d_DS_whyNoPlan_85) (fun r_85 f_1 H locs hp hw => ?_)
                obtain ⟨er, ef⟩ := hp
                subst er
                rw [ef] at hw
                refine dn_ifb_ne S.1 S.2.1 94 d_DS_whyNoPlan_88 (by decide) (fun h_88 => ?_) (fun h_88 => ?_)
                · refine lv_iinc (v := nI (i + 1)) (lv' := [(1, .int (nI (i + 1))), (0, .ref (a 0))]) S.1 S.2.1 d_DS_whyNoPlan_94 hl (k := 1) rfl (by rw [show Int32.ofInt 1 = nI 1 from rfl, nI_add]) (by decide) rfl (fun ls hl => ?_)
                  refine lv_goto (tgt := 48) S.1 S.2.1 d_DS_whyNoPlan_97 (by decide) ?_
                  exact ih_48 (i + 1) (by omega) (by simp [ds_any, h2, h_88]) (by omega) H locs hw ls (lv_sub hl [1, 0] rfl)
                · refine lv_bipush (v := (-3)) S.1 S.2.1 d_DS_whyNoPlan_91 (by decide) ?_
                  exact hret H locs _ ls _ _ hw (⟨by rw [if_neg (by rw [h1]; decide), if_pos (ds_any_mono (i := i + 1) (by simp [ds_any, h_68, h_88]) (by omega))], rfl⟩) d_DS_whyNoPlan_93
        exact loop_48 _ 0 (Nat.zero_le _) (rfl) (Nat.lt_succ_self _) H locs hw ls (lv_sub hl [1, 0] rfl)
      · have s1 := hst i (by omega)
        refine lv_aload_n S.1 S.2.1 d_DS_whyNoPlan_13 rfl (lv_at hl 0 rfl) ?_
        refine dw_getf (fi := 0) (v := .ref (a 1)) S hw i_DS ds_ob0 (by decide) rfl wd_135 rfl d_DS_whyNoPlan_14 ?_
        refine dw_getN (fi := 6) (v := .ref (a 12)) S hw i_Day ds_ob1 (by decide) rfl hN wd_45 rfl d_DS_whyNoPlan_17 ?_
        refine lv_iload_n S.1 S.2.1 d_DS_whyNoPlan_20 rfl (lv_at hl 1 rfl) ?_
        refine dw_zald S.1 S.2.1 hw ds_k12 (by omega) d_DS_whyNoPlan_21 ?_
        refine dn_if_eq S.1 S.2.1 40 (by omega) d_DS_whyNoPlan_22 (by decide) (fun h_22 => ?_) (fun h_22 => ?_)
        · refine lv_iinc (v := nI (i + 1)) (lv' := [(1, .int (nI (i + 1))), (0, .ref (a 0))]) S.1 S.2.1 d_DS_whyNoPlan_40 hl (k := 1) rfl (by rw [show Int32.ofInt 1 = nI 1 from rfl, nI_add]) (by decide) rfl (fun ls hl => ?_)
          refine lv_goto (tgt := 2) S.1 S.2.1 d_DS_whyNoPlan_43 (by decide) ?_
          exact ih_2 (i + 1) (by omega) (by simp [ds_any, h1, h_22]) (by omega) H locs hw ls (lv_sub hl [1, 0] rfl)
        · refine lv_aload_n S.1 S.2.1 d_DS_whyNoPlan_25 rfl (lv_at hl 0 rfl) ?_
          refine dw_getf (fi := 0) (v := .ref (a 1)) S hw i_DS ds_ob0 (by decide) rfl wd_135 rfl d_DS_whyNoPlan_26 ?_
          refine dw_getN (fi := 7) (v := .ref (a 13)) S hw i_Day ds_ob1 (by decide) rfl hN wd_47 rfl d_DS_whyNoPlan_29 ?_
          refine lv_iload_n S.1 S.2.1 d_DS_whyNoPlan_32 rfl (lv_at hl 1 rfl) ?_
          refine dw_zald S.1 S.2.1 hw ds_k13 (by omega) d_DS_whyNoPlan_33 ?_
          refine dn_if_eq S.1 S.2.1 40 (by omega) d_DS_whyNoPlan_34 (by decide) (fun h_34 => ?_) (fun h_34 => ?_)
          · refine lv_iinc (v := nI (i + 1)) (lv' := [(1, .int (nI (i + 1))), (0, .ref (a 0))]) S.1 S.2.1 d_DS_whyNoPlan_40 hl (k := 1) rfl (by rw [show Int32.ofInt 1 = nI 1 from rfl, nI_add]) (by decide) rfl (fun ls hl => ?_)
            refine lv_goto (tgt := 2) S.1 S.2.1 d_DS_whyNoPlan_43 (by decide) ?_
            exact ih_2 (i + 1) (by omega) (by simp [ds_any, h1, h_34]) (by omega) H locs hw ls (lv_sub hl [1, 0] rfl)
          · refine lv_bipush (v := (-2)) S.1 S.2.1 d_DS_whyNoPlan_37 (by decide) ?_
            exact hret H locs _ ls _ _ hw (⟨by rw [if_pos (ds_any_mono (i := i + 1) (by simp [ds_any, h_22, h_34]) (by omega))], rfl⟩) d_DS_whyNoPlan_39
  exact loop_2 _ 0 (Nat.zero_le _) (rfl) (Nat.lt_succ_self _) H locs hw ls (lv_sub hl [1, 0] rfl)
set_option maxHeartbeats 4000000 in
set_option maxRecDepth 100000 in
theorem c_prepareRow (l : Launch) (D : va_G) (g : Nat → ClassId) (a : Nat → Nat) (f : Nat → Nat → Nat) (v : Nat) (t : Nat) (w : Nat) (ok : ds_ok f) (hv : v < f 1 0) (ht : t < 2 ^ 31) (hw3 : w < 2 ^ 31) (hb : (ds_own f (fun x => t.testBit x) v (f 1 1)).length + (ds_rd f (fun x => w.testBit x) v).length ≤ 8) : ds_V l D g a y_Day_prepareRow b_Day_prepareRow 6 2 47 [.ref (a 1), .int (nI v), .int (nI t), .int (nI w)] f (fun u => ∃ h : Nat → Nat, u = dw_w (dw_su f (25 + v) h) 17 v ((ds_own f (fun x => t.testBit x) v (f 1 1)).length + (ds_rd f (fun x => w.testBit x) v).length) ∧ ds_is h 0 (ds_own f (fun x => t.testBit x) v (f 1 1) ++ ds_rd f (fun x => w.testBit x) v)) := by
  refine dw_ofV (by decide) (Nat.le_of_ble_eq_true rfl) ?_
  intro p e s m args below meth c ls A Q R H locs hR hA S hN hw hl hret
  have hl : lv_has ls 6 [(0, .ref (a 1)), (1, .int (nI v)), (2, .int (nI t)), (3, .int (nI w))] := hl
  have S : CallFix p m c b_Day_prepareRow 6 s args ds_T R_Day := S
  obtain ⟨hV, hn, hex, hst, hve, hwy, hw0, hrw⟩ := id ok
  refine lv_iconst (v := nI 0) S.1 S.2.1 d_Day_prepareRow_0 (by decide) ?_
  refine lv_istore (lv' := [(4, .int (nI 0)), (0, .ref (a 1)), (1, .int (nI v)), (2, .int (nI t)), (3, .int (nI w))]) S.1 S.2.1 d_Day_prepareRow_1 hl (by decide) rfl (fun ls hl => ?_)
  refine lv_iconst (v := nI 0) S.1 S.2.1 d_Day_prepareRow_3 (by decide) ?_
  refine lv_istore (lv' := [(5, .int (nI 0)), (4, .int (nI 0)), (0, .ref (a 1)), (1, .int (nI v)), (2, .int (nI t)), (3, .int (nI w))]) S.1 S.2.1 d_Day_prepareRow_4 hl (by decide) rfl (fun ls hl => ?_)
  have loop_6 : ∀ (n : Nat) (z : Nat) (i : Nat) (f2 : Nat → Nat → Nat) (h : Nat → Nat) (hi : i ≤ f 1 1) (ez : z = (ds_own f (fun x => t.testBit x) v i).length) (hh : f2 = dw_su f (25 + v) h) (hs : ds_is h 0 (ds_own f (fun x => t.testBit x) v i)) (_ : f 1 1 - i < n) (H : Heap) (locs : List Loc), dw_W D classes (ds_tys g) A s.heap (dw_l 77 (ds_ce g a) a f2) s H locs → ∀ (ls : Array Slot), lv_has ls 6 [(0, .ref (a 1)), (1, .int (nI v)), (2, .int (nI t)), (3, .int (nI w)), (4, .int (nI z)), (5, .int (nI i))] → W p l e R s m args below meth c H locs 0 0 Q (F0 m 6 ls []) := by
    intro n
    induction n with
    | zero => intro z i f2 h hi ez hh hs h9; exact absurd h9 (Nat.not_lt_zero _)
    | succ n ih_6 =>
      intro z i f2 h hi ez hh hs hm_6 H locs hw ls hl
      have q11 : f2 1 1 = f 1 1 := by rw [hh, dw_su_ne (by omega)]
      have q10 : f2 10 i = f 10 i := by rw [hh, dw_su_ne (by omega)]
      have zl : z ≤ i := by rw [ez]; exact ds_own_len _ _ _ _
      refine lv_iload S.1 S.2.1 d_Day_prepareRow_6 (lv_at hl 5 rfl) ?_
      refine lv_aload_n S.1 S.2.1 d_Day_prepareRow_8 rfl (lv_at hl 0 rfl) ?_
      refine dw_getf (fi := 1) (v := .int (nI (f2 1 1))) S hw i_Day ds_ob1 (by decide) rfl wd_37 rfl d_Day_prepareRow_9 ?_
      refine dn_icmp_ge S.1 S.2.1 55 (by omega) (by omega) d_Day_prepareRow_12 (by decide) (fun h_12 => ?_) (fun h_12 => ?_)
      · have ag : ∀ k, ¬ ds_scr k → f2 k = f k := by rw [hh]; exact ds_su_agree (by unfold ds_scr; omega)
        have ok2 := ds_ok_congr ag ok
        have eR : ds_rd f2 (fun x => w.testBit x) v = ds_rd f (fun x => w.testBit x) v := ds_rd_congr ag _ (by omega)
        have q1 : f2 1 = f 1 := by rw [hh, dw_su_ne (by omega)]
        rw [show i = f 1 1 by omega] at ez hs
        refine lv_aload_n S.1 S.2.1 d_Day_prepareRow_55 rfl (lv_at hl 0 rfl) ?_
        refine dw_getf (fi := 11) (v := .ref (a 17)) S hw i_Day ds_ob1 (by decide) rfl wd_51 rfl d_Day_prepareRow_56 ?_
        refine lv_iload_n S.1 S.2.1 d_Day_prepareRow_59 rfl (lv_at hl 1 rfl) ?_
        refine lv_aload_n S.1 S.2.1 d_Day_prepareRow_60 rfl (lv_at hl 0 rfl) ?_
        refine lv_iload_n S.1 S.2.1 d_Day_prepareRow_61 rfl (lv_at hl 1 rfl) ?_
        refine lv_iload_n S.1 S.2.1 d_Day_prepareRow_62 rfl (lv_at hl 3 rfl) ?_
        refine lv_aload_n S.1 S.2.1 d_Day_prepareRow_63 rfl (lv_at hl 0 rfl) ?_
        refine dw_getf (fi := 10) (v := .ref (a 16)) S hw i_Day ds_ob1 (by decide) rfl wd_50 rfl d_Day_prepareRow_64 ?_
        refine lv_iload_n S.1 S.2.1 d_Day_prepareRow_67 rfl (lv_at hl 1 rfl) ?_
        refine dw_aald S.1 S.2.1 hw ds_k16 (by omega) d_Day_prepareRow_68 ?_
        refine lv_iload S.1 S.2.1 d_Day_prepareRow_69 (lv_at hl 4 rfl) ?_
        refine dw_afti hw hA (dw_runV (As := [.int (nI v), .int (nI w), .ref (a (25 + v)), .int (nI z)]) (rest := [.int (nI v), .ref (a 17)]) (ko := 1) hw S ds_good (c_addRound l D g a f2 v w (25 + v) z (ok2) (by rw [q1]; exact hv) (hw3) (ds_k25 (by omega)) (Or.inr (by omega)) (by rw [eR, ez]; exact hb) H.size) cw_Day_addRound wd_238 wd_240 ws_Day_addRound ds_ob1 dw_blind (dw_pre hw hN) rfl hl.1 rfl ⟨Nat.le_trans (Nat.le_of_ble_eq_true rfl) hR.1, Nat.le_trans (Nat.le_of_ble_eq_true rfl) hR.2⟩ (Nat.le_of_ble_eq_true rfl) ⟨Nat.zero_le _, Nat.zero_le _⟩ d_Day_prepareRow_71) (fun r_71 f_1 H locs hp hw => ?_)
        obtain ⟨er, h2, ef_1, hk2, hs2⟩ := hp
        subst er
        rw [eR] at hs2
        refine ds_topi (w := nI (z + (ds_rd f (fun x => w.testBit x) v).length)) (by rw [eR]) ?_
        refine dw_iast S.1 S.2.1 hw ds_k17 (by omega) d_Day_prepareRow_74 (fun f_2 H locs ef_2 hw => ?_)
        exact hret H locs _ ls _  hw (by
    have eE := ef_2
    refine ⟨h2, ?_, ?_⟩
    · rw [eE, ef_1, hh, ez]
      congr 1
      funext k
      by_cases ek : k = 25 + v
      · rw [ek, dw_su_eq, dw_su_eq]
      · rw [dw_su_ne ek, dw_su_ne ek, dw_su_ne ek]
    · refine ds_is_app (ds_is_keep hs (fun i hi => ?_)) (by rw [Nat.zero_add, ← ez]; exact hs2)
      have q := hk2 i (by omega)
      rw [q, hh, dw_su_eq]) d_Day_prepareRow_75
      · have r4 := hrw.2 i (by omega)
        refine lv_iload_n S.1 S.2.1 d_Day_prepareRow_15 rfl (lv_at hl 2 rfl) ?_
        refine lv_iload S.1 S.2.1 d_Day_prepareRow_16 (lv_at hl 5 rfl) ?_
        refine dw_afti hw hA (dw_runSN (As := [.int (nI t), .int (nI i)]) (rest := []) S ds_good (c_isIn l D g a f2 t i (ht) (by omega) H.size) cw_DS_isIn hN wd_242 wd_219 dw_blind (dw_pre hw hN) rfl hl.1 rfl ⟨Nat.le_trans (Nat.le_of_ble_eq_true rfl) hR.1, Nat.le_trans (Nat.le_of_ble_eq_true rfl) hR.2⟩ (Nat.le_of_ble_eq_true rfl) ⟨Nat.zero_le _, Nat.zero_le _⟩ d_Day_prepareRow_18) (fun r_18 f_3 H locs hp hw => ?_)
        obtain ⟨er, ef⟩ := hp
        subst er
        rw [ef] at hw
        refine dn_ifb_eq S.1 S.2.1 49 d_Day_prepareRow_21 (by decide) (fun h_21 => ?_) (fun h_21 => ?_)
        · have hP : ¬ ((fun x => t.testBit x) i && f 10 i == v) = true := by simp [h_21]
          refine lv_iinc (v := nI (i + 1)) (lv' := [(5, .int (nI (i + 1))), (0, .ref (a 1)), (1, .int (nI v)), (2, .int (nI t)), (3, .int (nI w)), (4, .int (nI z))]) S.1 S.2.1 d_Day_prepareRow_49 hl (k := 5) rfl (by rw [show Int32.ofInt 1 = nI 1 from rfl, nI_add]) (by decide) rfl (fun ls hl => ?_)
          refine lv_goto (tgt := 6) S.1 S.2.1 d_Day_prepareRow_52 (by decide) ?_
          exact ih_6 z (i + 1) f2 h (by omega) (by rw [ds_own_s, if_neg hP, List.append_nil]; exact ez) (hh) (by rw [ds_own_s, if_neg hP, List.append_nil]; exact hs) (by omega) H locs hw ls (lv_sub hl [1, 2, 3, 4, 5, 0] rfl)
        · refine lv_aload_n S.1 S.2.1 d_Day_prepareRow_24 rfl (lv_at hl 0 rfl) ?_
          refine dw_getf (fi := 4) (v := .ref (a 10)) S hw i_Day ds_ob1 (by decide) rfl wd_40 rfl d_Day_prepareRow_25 ?_
          refine lv_iload S.1 S.2.1 d_Day_prepareRow_28 (lv_at hl 5 rfl) ?_
          refine dw_iald S.1 S.2.1 hw ds_k10 (by omega) d_Day_prepareRow_30 ?_
          refine lv_iload_n S.1 S.2.1 d_Day_prepareRow_31 rfl (lv_at hl 1 rfl) ?_
          refine dn_icmp_ne S.1 S.2.1 49 (by omega) (by omega) d_Day_prepareRow_32 (by decide) (fun h_32 => ?_) (fun h_32 => ?_)
          · have hP : ¬ ((fun x => t.testBit x) i && f 10 i == v) = true := by simp; intro _; omega
            refine lv_iinc (v := nI (i + 1)) (lv' := [(5, .int (nI (i + 1))), (0, .ref (a 1)), (1, .int (nI v)), (2, .int (nI t)), (3, .int (nI w)), (4, .int (nI z))]) S.1 S.2.1 d_Day_prepareRow_49 hl (k := 5) rfl (by rw [show Int32.ofInt 1 = nI 1 from rfl, nI_add]) (by decide) rfl (fun ls hl => ?_)
            refine lv_goto (tgt := 6) S.1 S.2.1 d_Day_prepareRow_52 (by decide) ?_
            exact ih_6 z (i + 1) f2 h (by omega) (by rw [ds_own_s, if_neg hP, List.append_nil]; exact ez) (hh) (by rw [ds_own_s, if_neg hP, List.append_nil]; exact hs) (by omega) H locs hw ls (lv_sub hl [1, 2, 3, 4, 5, 0] rfl)
          · have hP : ((fun x => t.testBit x) i && f 10 i == v) = true := by simp [h_21]; omega
            refine lv_aload_n S.1 S.2.1 d_Day_prepareRow_35 rfl (lv_at hl 0 rfl) ?_
            refine dw_getf (fi := 10) (v := .ref (a 16)) S hw i_Day ds_ob1 (by decide) rfl wd_50 rfl d_Day_prepareRow_36 ?_
            refine lv_iload_n S.1 S.2.1 d_Day_prepareRow_39 rfl (lv_at hl 1 rfl) ?_
            refine dw_aald S.1 S.2.1 hw ds_k16 (by omega) d_Day_prepareRow_40 ?_
            refine lv_iload S.1 S.2.1 d_Day_prepareRow_41 (lv_at hl 4 rfl) ?_
            refine lv_iinc (v := nI (z + 1)) (lv' := [(4, .int (nI (z + 1))), (0, .ref (a 1)), (1, .int (nI v)), (2, .int (nI t)), (3, .int (nI w)), (5, .int (nI i))]) S.1 S.2.1 d_Day_prepareRow_43 hl (k := 4) rfl (by rw [show Int32.ofInt 1 = nI 1 from rfl, nI_add]) (by decide) rfl (fun ls hl => ?_)
            refine lv_iload S.1 S.2.1 d_Day_prepareRow_46 (lv_at hl 5 rfl) ?_
            refine dw_iast S.1 S.2.1 hw (ds_k25 (by omega)) (by omega) d_Day_prepareRow_48 (fun f_4 H locs ef_4 hw => ?_)
            refine lv_iinc (v := nI (i + 1)) (lv' := [(5, .int (nI (i + 1))), (4, .int (nI (z + 1))), (0, .ref (a 1)), (1, .int (nI v)), (2, .int (nI t)), (3, .int (nI w))]) S.1 S.2.1 d_Day_prepareRow_49 hl (k := 5) rfl (by rw [show Int32.ofInt 1 = nI 1 from rfl, nI_add]) (by decide) rfl (fun ls hl => ?_)
            refine lv_goto (tgt := 6) S.1 S.2.1 d_Day_prepareRow_52 (by decide) ?_
            exact ih_6 (z + 1) (i + 1) f_4 (dw_up h z i) (by omega) (by rw [ds_own_s, if_pos hP, List.length_append, List.length_singleton, ez]) (by rw [ef_4, hh, dw_w_su]) (by rw [ds_own_s, if_pos hP, ez]; have q := ds_is_push i hs; rwa [Nat.zero_add] at q) (by omega) H locs hw ls (lv_sub hl [2, 3, 4, 5, 1, 0] rfl)
  exact loop_6 _ 0 0 f (f (25 + v)) (Nat.zero_le _) (rfl) (dw_su_self.symm) (ds_is_nil _ _) (Nat.lt_succ_self _) H locs hw ls (lv_sub hl [2, 3, 4, 5, 1, 0] rfl)
set_option maxHeartbeats 4000000 in
set_option maxRecDepth 100000 in
theorem c_turn (l : Launch) (D : va_G) (g : Nat → ClassId) (a : Nat → Nat) (f : Nat → Nat → Nat)  (hV : f 1 0 ≤ 3) (hn : f 1 1 ≤ 8) (hL : ∀ v r, v < f 1 0 → r < f 17 v → r < 8 ∧ f (25 + v) r < 8) (hI : ∀ v r v2 r2, v < f 1 0 → v2 < f 1 0 → r < f 17 v → r2 < f 17 v2 → f (25 + v) r = f (25 + v2) r2 → v = v2 ∧ r = r2) (hB : ∀ v, v < f 1 0 → f 17 v ≤ 8) : ds_V l D g a y_Day_turn b_Day_turn 3 1 23 [.ref (a 1)] f (fun u => ds_trn f u (f 1 0) ∧ (∀ x, x < f 1 1 → u 12 x = 0 ∧ u 13 x = 0) ∧ (∀ x, f 1 1 ≤ x → u 12 x = f 12 x ∧ u 13 x = f 13 x) ∧ (∀ k, k ≠ 10 → k ≠ 11 → k ≠ 12 → k ≠ 13 → k ≠ 15 → k ≠ 18 → ¬ (22 ≤ k ∧ k < 25) → u k = f k)) := by
  refine dw_ofV (by decide) (Nat.le_of_ble_eq_true rfl) ?_
  intro p e s m args below meth c ls A Q R H locs hR hA S hN hw hl hret
  have hl : lv_has ls 3 [(0, .ref (a 1))] := hl
  have S : CallFix p m c b_Day_turn 3 s args ds_T R_Day := S
  refine lv_iconst (v := nI 0) S.1 S.2.1 d_Day_turn_0 (by decide) ?_
  refine lv_istore_n (lv' := [(1, .int (nI 0)), (0, .ref (a 1))]) S.1 S.2.1 d_Day_turn_1 rfl hl (by decide) rfl (fun ls hl => ?_)
  have loop_2 : ∀ (n : Nat) (v : Nat) (f2 : Nat → Nat → Nat) (hv : v ≤ f 1 0) (hT : ds_trn f f2 v) (hg : (∀ k, k ≠ 10 → k ≠ 11 → k ≠ 12 → k ≠ 13 → k ≠ 15 → k ≠ 18 → ¬ (22 ≤ k ∧ k < 25) → f2 k = f k)) (hY : ∀ x, f 1 1 ≤ x → f2 12 x = f 12 x ∧ f2 13 x = f 13 x) (_ : f 1 0 - v < n) (H : Heap) (locs : List Loc), dw_W D classes (ds_tys g) A s.heap (dw_l 77 (ds_ce g a) a f2) s H locs → ∀ (ls : Array Slot), lv_has ls 3 [(0, .ref (a 1)), (1, .int (nI v))] → W p l e R s m args below meth c H locs 0 0 Q (F0 m 2 ls []) := by
    intro n
    induction n with
    | zero => intro v f2 hv hT hg hY h9; exact absurd h9 (Nat.not_lt_zero _)
    | succ n ih_2 =>
      intro v f2 hv hT hg hY hm_2 H locs hw ls hl
      have q1 : f2 1 = f 1 := hg 1 (by decide) (by decide) (by decide) (by decide) (by decide) (by decide) (by decide)
      have q10 : f2 1 0 = f 1 0 := by rw [q1]
      refine lv_iload_n S.1 S.2.1 d_Day_turn_2 rfl (lv_at hl 1 rfl) ?_
      refine lv_aload_n S.1 S.2.1 d_Day_turn_3 rfl (lv_at hl 0 rfl) ?_
      refine dw_getf (fi := 0) (v := .int (nI (f2 1 0))) S hw i_Day ds_ob1 (by decide) rfl wd_32 rfl d_Day_turn_4 ?_
      refine dn_icmp_ge S.1 S.2.1 62 (by omega) (by omega) d_Day_turn_7 (by decide) (fun h_7 => ?_) (fun h_7 => ?_)
      · refine lv_iconst (v := nI 0) S.1 S.2.1 d_Day_turn_62 (by decide) ?_
        refine lv_istore_n (lv' := [(1, .int (nI 0)), (0, .ref (a 1))]) S.1 S.2.1 d_Day_turn_63 rfl hl (by decide) rfl (fun ls hl => ?_)
        have loop_64 : ∀ (n : Nat) (i : Nat) (f2 : Nat → Nat → Nat) (hi : i ≤ f 1 1) (hT : ds_trn f f2 (f 1 0)) (hg : (∀ k, k ≠ 10 → k ≠ 11 → k ≠ 12 → k ≠ 13 → k ≠ 15 → k ≠ 18 → ¬ (22 ≤ k ∧ k < 25) → f2 k = f k)) (hY : ∀ x, f 1 1 ≤ x → f2 12 x = f 12 x ∧ f2 13 x = f 13 x) (hZ : ∀ x, x < i → f2 12 x = 0 ∧ f2 13 x = 0) (_ : f 1 1 - i < n) (H : Heap) (locs : List Loc), dw_W D classes (ds_tys g) A s.heap (dw_l 77 (ds_ce g a) a f2) s H locs → ∀ (ls : Array Slot), lv_has ls 3 [(0, .ref (a 1)), (1, .int (nI i))] → W p l e R s m args below meth c H locs 0 0 Q (F0 m 64 ls []) := by
          intro n
          induction n with
          | zero => intro i f2 hi hT hg hY hZ h9; exact absurd h9 (Nat.not_lt_zero _)
          | succ n ih_64 =>
            intro i f2 hi hT hg hY hZ hm_64 H locs hw ls hl
            have q11 : f2 1 1 = f 1 1 := by rw [hg 1 (by decide) (by decide) (by decide) (by decide) (by decide) (by decide) (by decide)]
            refine lv_iload_n S.1 S.2.1 d_Day_turn_64 rfl (lv_at hl 1 rfl) ?_
            refine lv_aload_n S.1 S.2.1 d_Day_turn_65 rfl (lv_at hl 0 rfl) ?_
            refine dw_getf (fi := 1) (v := .int (nI (f2 1 1))) S hw i_Day ds_ob1 (by decide) rfl wd_37 rfl d_Day_turn_66 ?_
            refine dn_icmp_ge S.1 S.2.1 92 (by omega) (by omega) d_Day_turn_69 (by decide) (fun h_69 => ?_) (fun h_69 => ?_)
            · exact hret H locs _ ls _  hw (⟨hT, fun x hx => hZ x (by omega), hY, hg⟩) d_Day_turn_92
            · refine lv_aload_n S.1 S.2.1 d_Day_turn_72 rfl (lv_at hl 0 rfl) ?_
              refine dw_getf (fi := 6) (v := .ref (a 12)) S hw i_Day ds_ob1 (by decide) rfl wd_44 rfl d_Day_turn_73 ?_
              refine lv_iload_n S.1 S.2.1 d_Day_turn_76 rfl (lv_at hl 1 rfl) ?_
              refine lv_iconst (v := nI 0) S.1 S.2.1 d_Day_turn_77 (by decide) ?_
              refine dw_zast S.1 S.2.1 hw (by decide) ds_k12 (by omega) d_Day_turn_78 (fun f_1 H locs ef_1 hw => ?_)
              have eA := ef_1
              refine lv_aload_n S.1 S.2.1 d_Day_turn_79 rfl (lv_at hl 0 rfl) ?_
              refine dw_getf (fi := 7) (v := .ref (a 13)) S hw i_Day ds_ob1 (by decide) rfl wd_46 rfl d_Day_turn_80 ?_
              refine lv_iload_n S.1 S.2.1 d_Day_turn_83 rfl (lv_at hl 1 rfl) ?_
              refine lv_iconst (v := nI 0) S.1 S.2.1 d_Day_turn_84 (by decide) ?_
              refine dw_zast S.1 S.2.1 hw (by decide) ds_k13 (by omega) d_Day_turn_85 (fun f_2 H locs ef_2 hw => ?_)
              have eB := ef_2
              refine lv_iinc (v := nI (i + 1)) (lv' := [(1, .int (nI (i + 1))), (0, .ref (a 1))]) S.1 S.2.1 d_Day_turn_86 hl (k := 1) rfl (by rw [show Int32.ofInt 1 = nI 1 from rfl, nI_add]) (by decide) rfl (fun ls hl => ?_)
              refine lv_goto (tgt := 64) S.1 S.2.1 d_Day_turn_89 (by decide) ?_
              exact ih_64 (i + 1) f_2 (by omega) (fun v2 h2 => by have q := hT v2 h2; rw [eB, eA, dw_w_ne (by decide), dw_w_ne (by decide), dw_w_ne (by decide), dw_w_ne (by decide)]; refine ⟨q.1, q.2.1, fun r hr => ?_⟩; rw [dw_w_ne (by omega), dw_w_ne (by omega), dw_w_ne (by decide), dw_w_ne (by decide), dw_w_ne (by decide), dw_w_ne (by decide)]; exact q.2.2 r hr) (fun k k1 k2 k3 k4 k5 k6 k7 => by rw [eB, eA, dw_w_ne k4, dw_w_ne k3]; exact hg k k1 k2 k3 k4 k5 k6 k7) (fun x hx => by rw [eB, eA, dw_w_ne (by decide), dw_w_eq, dw_w_eq, dw_w_ne (by decide), dw_up_ne (by omega), dw_up_ne (by omega)]; exact hY x hx) (fun x hx => by
    rw [eB, eA, dw_w_ne (by decide), dw_w_eq, dw_w_eq, dw_w_ne (by decide)]
    by_cases ex : x = i
    · rw [ex, dw_up_eq, dw_up_eq]; exact ⟨rfl, rfl⟩
    · rw [dw_up_ne ex, dw_up_ne ex]; exact hZ x (by omega)) (by omega) H locs hw ls (lv_sub hl [1, 0] rfl)
        exact loop_64 _ 0 f2 (Nat.zero_le _) (by rw [← show v = f 1 0 by omega]; exact hT) (hg) (hY) (fun x hx => absurd hx (Nat.not_lt_zero _)) (Nat.lt_succ_self _) H locs hw ls (lv_sub hl [1, 0] rfl)
      · refine lv_aload_n S.1 S.2.1 d_Day_turn_10 rfl (lv_at hl 0 rfl) ?_
        refine dw_getf (fi := 9) (v := .ref (a 15)) S hw i_Day ds_ob1 (by decide) rfl wd_49 rfl d_Day_turn_11 ?_
        refine lv_iload_n S.1 S.2.1 d_Day_turn_14 rfl (lv_at hl 1 rfl) ?_
        refine lv_iconst (v := nI 0) S.1 S.2.1 d_Day_turn_15 (by decide) ?_
        refine dw_iast S.1 S.2.1 hw ds_k15 (by omega) d_Day_turn_16 (fun f_3 H locs ef_3 hw => ?_)
        have eA := ef_3
        refine lv_aload_n S.1 S.2.1 d_Day_turn_17 rfl (lv_at hl 0 rfl) ?_
        refine dw_getf (fi := 12) (v := .ref (a 18)) S hw i_Day ds_ob1 (by decide) rfl wd_52 rfl d_Day_turn_18 ?_
        refine lv_iload_n S.1 S.2.1 d_Day_turn_21 rfl (lv_at hl 1 rfl) ?_
        refine lv_bipush (v := nI 8) S.1 S.2.1 d_Day_turn_22 (by decide) ?_
        refine dw_iast S.1 S.2.1 hw ds_k18 (by omega) d_Day_turn_24 (fun f_4 H locs ef_4 hw => ?_)
        have eB := ef_4
        refine lv_iconst (v := nI 0) S.1 S.2.1 d_Day_turn_25 (by decide) ?_
        refine lv_istore_n (lv' := [(2, .int (nI 0)), (0, .ref (a 1)), (1, .int (nI v))]) S.1 S.2.1 d_Day_turn_26 rfl hl (by decide) rfl (fun ls hl => ?_)
        have loop_27 : ∀ (n : Nat) (z : Nat) (f2 : Nat → Nat → Nat) (hz : z ≤ f 17 v) (hT : ds_trn f f2 v) (hg : (∀ k, k ≠ 10 → k ≠ 11 → k ≠ 12 → k ≠ 13 → k ≠ 15 → k ≠ 18 → ¬ (22 ≤ k ∧ k < 25) → f2 k = f k)) (hY : ∀ x, f 1 1 ≤ x → f2 12 x = f 12 x ∧ f2 13 x = f 13 x) (h15 : f2 15 v = z) (h18 : f2 18 v = 8) (hR2 : ∀ r, r < z → f2 (22 + v) r = f (25 + v) r ∧ f2 10 (f (25 + v) r) = v ∧ f2 11 (f (25 + v) r) = r) (_ : f 17 v - z < n) (H : Heap) (locs : List Loc), dw_W D classes (ds_tys g) A s.heap (dw_l 77 (ds_ce g a) a f2) s H locs → ∀ (ls : Array Slot), lv_has ls 3 [(0, .ref (a 1)), (1, .int (nI v)), (2, .int (nI z))] → W p l e R s m args below meth c H locs 0 0 Q (F0 m 27 ls []) := by
          intro n
          induction n with
          | zero => intro z f2 hz hT hg hY h15 h18 hR2 h9; exact absurd h9 (Nat.not_lt_zero _)
          | succ n ih_27 =>
            intro z f2 hz hT hg hY h15 h18 hR2 hm_27 H locs hw ls hl
            have q17 : f2 17 v = f 17 v := by rw [hg 17 (by decide) (by decide) (by decide) (by decide) (by decide) (by decide) (by decide)]
            have q25 : f2 (25 + v) z = f (25 + v) z := by rw [hg (25 + v) (by omega) (by omega) (by omega) (by omega) (by omega) (by omega) (by omega)]
            have b17 := hB v (by omega)
            refine lv_iload_n S.1 S.2.1 d_Day_turn_27 rfl (lv_at hl 2 rfl) ?_
            refine lv_aload_n S.1 S.2.1 d_Day_turn_28 rfl (lv_at hl 0 rfl) ?_
            refine dw_getf (fi := 11) (v := .ref (a 17)) S hw i_Day ds_ob1 (by decide) rfl wd_51 rfl d_Day_turn_29 ?_
            refine lv_iload_n S.1 S.2.1 d_Day_turn_32 rfl (lv_at hl 1 rfl) ?_
            refine dw_iald S.1 S.2.1 hw ds_k17 (by omega) d_Day_turn_33 ?_
            refine dn_icmp_ge S.1 S.2.1 56 (by omega) (by omega) d_Day_turn_34 (by decide) (fun h_34 => ?_) (fun h_34 => ?_)
            · refine lv_iinc (v := nI (v + 1)) (lv' := [(1, .int (nI (v + 1))), (0, .ref (a 1)), (2, .int (nI z))]) S.1 S.2.1 d_Day_turn_56 hl (k := 1) rfl (by rw [show Int32.ofInt 1 = nI 1 from rfl, nI_add]) (by decide) rfl (fun ls hl => ?_)
              refine lv_goto (tgt := 2) S.1 S.2.1 d_Day_turn_59 (by decide) ?_
              exact ih_2 (v + 1) f2 (by omega) (fun v2 h2 => by
    by_cases e2 : v2 = v
    · rw [e2]; exact ⟨by rw [h15]; omega, h18, fun r hr => hR2 r (by omega)⟩
    · exact hT v2 (by omega)) (hg) (hY) (by omega) H locs hw ls (lv_sub hl [1, 0] rfl)
            · have l1 := hL v z (by omega) (by omega)
              refine lv_aload_n S.1 S.2.1 d_Day_turn_37 rfl (lv_at hl 0 rfl) ?_
              refine lv_aload_n S.1 S.2.1 d_Day_turn_38 rfl (lv_at hl 0 rfl) ?_
              refine dw_getf (fi := 10) (v := .ref (a 16)) S hw i_Day ds_ob1 (by decide) rfl wd_50 rfl d_Day_turn_39 ?_
              refine lv_iload_n S.1 S.2.1 d_Day_turn_42 rfl (lv_at hl 1 rfl) ?_
              refine dw_aald S.1 S.2.1 hw ds_k16 (by omega) d_Day_turn_43 ?_
              refine lv_iload_n S.1 S.2.1 d_Day_turn_44 rfl (lv_at hl 2 rfl) ?_
              refine dw_iald S.1 S.2.1 hw (ds_k25 (by omega)) (by omega) d_Day_turn_45 ?_
              refine lv_iload_n S.1 S.2.1 d_Day_turn_46 rfl (lv_at hl 1 rfl) ?_
              refine dw_aftv hw hA (dw_runV (As := [.int (nI (f2 (25 + v) z)), .int (nI v)]) (rest := []) (ko := 1) hw S ds_good (c_append l D g a f2 (f2 (25 + v) z) v (by omega) (by omega) (by omega) H.size) cw_Day_append wd_173 wd_175 ws_Day_append ds_ob1 dw_blind (dw_pre hw hN) rfl hl.1 rfl ⟨Nat.le_trans (Nat.le_of_ble_eq_true rfl) hR.1, Nat.le_trans (Nat.le_of_ble_eq_true rfl) hR.2⟩ (Nat.le_of_ble_eq_true rfl) ⟨Nat.zero_le _, Nat.zero_le _⟩ d_Day_turn_47) (fun f_5 H locs hp hw => ?_)
              have ef_5 := hp
              have eC : f_5 = ds_app f2 (f (25 + v) z) v := by rw [← q25]; exact ef_5
              refine lv_iinc (v := nI (z + 1)) (lv' := [(2, .int (nI (z + 1))), (0, .ref (a 1)), (1, .int (nI v))]) S.1 S.2.1 d_Day_turn_50 hl (k := 2) rfl (by rw [show Int32.ofInt 1 = nI 1 from rfl, nI_add]) (by decide) rfl (fun ls hl => ?_)
              refine lv_goto (tgt := 27) S.1 S.2.1 d_Day_turn_53 (by decide) ?_
              exact ih_27 (z + 1) f_5 (by omega) (fun v2 h2 => by
    have q := hT v2 h2
    rw [eC]
    refine ⟨?_, ?_, fun r hr => ?_⟩
    · unfold ds_app; rw [dw_w_eq, dw_up_ne (by omega), dw_w_ne (by decide), dw_w_ne (by decide), dw_w_ne (by omega)]; exact q.1
    · rw [ds_app_ne (by omega)]; exact q.2.1
    · have q2 := q.2.2 r hr
      have ne : f (25 + v2) r ≠ f (25 + v) z := fun e => by have := hI v2 r v z (by omega) (by omega) hr (by omega) e; omega
      refine ⟨by rw [ds_app_ne (by omega)]; exact q2.1, ?_, ?_⟩
      · unfold ds_app; rw [dw_w_ne (by decide), dw_w_ne (by decide), dw_w_eq, dw_up_ne ne, dw_w_ne (by omega)]; exact q2.2.1
      · unfold ds_app; rw [dw_w_ne (by decide), dw_w_eq, dw_up_ne ne, dw_w_ne (by decide), dw_w_ne (by omega)]; exact q2.2.2) (fun k k1 k2 k3 k4 k5 k6 k7 => by rw [eC, ds_app_ne (by omega)]; exact hg k k1 k2 k3 k4 k5 k6 k7) (fun x hx => by rw [eC, ds_app_ne (by omega), ds_app_ne (by omega)]; exact hY x hx) (by rw [eC]; unfold ds_app; rw [dw_w_eq, dw_up_eq, h15]) (by rw [eC, ds_app_ne (by omega)]; exact h18) (fun r hr => by
    rw [eC]
    by_cases er : r = z
    · rw [er]
      unfold ds_app
      refine ⟨?_, ?_, ?_⟩
      · rw [dw_w_ne (by omega), dw_w_ne (by omega), dw_w_ne (by omega), dw_w_eq, h15, dw_up_eq]
      · rw [dw_w_ne (by decide), dw_w_ne (by decide), dw_w_eq, dw_up_eq]
      · rw [dw_w_ne (by decide), dw_w_eq, dw_up_eq, h15]
    · have q2 := hR2 r (by omega)
      have ne : f (25 + v) r ≠ f (25 + v) z := fun e => by have := hI v r v z (by omega) (by omega) (by omega) (by omega) e; omega
      unfold ds_app
      refine ⟨?_, ?_, ?_⟩
      · rw [dw_w_ne (by omega), dw_w_ne (by omega), dw_w_ne (by omega), dw_w_eq, h15, dw_up_ne er]; exact q2.1
      · rw [dw_w_ne (by decide), dw_w_ne (by decide), dw_w_eq, dw_up_ne ne, dw_w_ne (by omega)]; exact q2.2.1
      · rw [dw_w_ne (by decide), dw_w_eq, dw_up_ne ne, dw_w_ne (by decide), dw_w_ne (by omega)]; exact q2.2.2) (by omega) H locs hw ls (lv_sub hl [1, 2, 0] rfl)
        exact loop_27 _ 0 f_4 (Nat.zero_le _) (fun v2 h2 => by
    have q := hT v2 h2
    rw [eB, eA, dw_w_ne (by decide), dw_w_eq, dw_w_eq, dw_up_ne (by omega), dw_up_ne (by omega), dw_w_ne (by decide)]
    refine ⟨q.1, q.2.1, fun r hr => ?_⟩
    have q2 := q.2.2 r hr
    rw [dw_w_ne (by omega), dw_w_ne (by omega), dw_w_ne (by decide), dw_w_ne (by decide), dw_w_ne (by decide), dw_w_ne (by decide)]
    exact q2) (fun k k1 k2 k3 k4 k5 k6 k7 => by rw [eB, eA, dw_w_ne k6, dw_w_ne k5]; exact hg k k1 k2 k3 k4 k5 k6 k7) (fun x hx => by rw [eB, eA, dw_w_ne (by decide), dw_w_ne (by decide), dw_w_ne (by decide), dw_w_ne (by decide)]; exact hY x hx) (by rw [eB, eA, dw_w_ne (by decide), dw_w_eq, dw_up_eq]) (by rw [eB, dw_w_eq, dw_up_eq]) (fun r hr => absurd hr (Nat.not_lt_zero _)) (Nat.lt_succ_self _) H locs hw ls (lv_sub hl [1, 2, 0] rfl)
  exact loop_2 _ 0 f (Nat.zero_le _) (fun v2 h2 => absurd h2 (Nat.not_lt_zero _)) (fun _ _ _ _ _ _ _ _ => rfl) (fun _ _ => ⟨rfl, rfl⟩) (Nat.lt_succ_self _) H locs hw ls (lv_sub hl [1, 0] rfl)
