/-! contracts of the reference: simple methods -/
set_option maxHeartbeats 4000000 in
set_option maxRecDepth 100000 in
theorem m_isIn (l : Launch) (D : va_G) (g : Nat → ClassId) (a : Nat → Nat) (f : Nat → Nat → Nat) (x : Int64) (y : Int64) (z : Int64)  : ds_I l D g a y_Mo_isIn b_Mo_isIn 6 .boolean 0 0 [.long x, .long y, .long z] f (fun r u => r = nI (dn_b (y ≤ x ∧ x ≤ z)) ∧ u = f) := by
  refine dw_ofI (by decide) (fun _ _ h => h.1 ▸ dn_nar) (Nat.le_of_ble_eq_true rfl) ?_
  intro p e s m args below meth c ls A Q R H locs hR hA S hN hw hl hret
  have hl : lv_has ls 6 [(0, .long x), (2, .long y), (4, .long z)] := hl
  have S : CallFix p m c b_Mo_isIn 6 s args ds_T R_Mo := S
  refine lv_lload_n S.1 S.2.1 d_Mo_isIn_0 rfl (lv_at hl 0 rfl) ?_
  refine lv_lload_n S.1 S.2.1 d_Mo_isIn_1 rfl (lv_at hl 1 rfl) ?_
  refine ds_lcmp_lt S.1 S.2.1 17 d_Mo_isIn_2 d_Mo_isIn_3 (by decide) (fun h_2 => ?_) (fun h_2 => ?_)
  · refine lv_iconst (v := nI 0) S.1 S.2.1 d_Mo_isIn_17 (by decide) ?_
    exact hret H locs _ ls _ _ hw (⟨by rw [dn_b0 (fun q => absurd q.1 (Int64.not_le.mpr h_2))], rfl⟩) d_Mo_isIn_18
  · refine lv_lload_n S.1 S.2.1 d_Mo_isIn_6 rfl (lv_at hl 0 rfl) ?_
    refine lv_lload S.1 S.2.1 d_Mo_isIn_7 (lv_at hl 2 rfl) ?_
    refine ds_lcmp_gt S.1 S.2.1 17 d_Mo_isIn_9 d_Mo_isIn_10 (by decide) (fun h_9 => ?_) (fun h_9 => ?_)
    · refine lv_iconst (v := nI 0) S.1 S.2.1 d_Mo_isIn_17 (by decide) ?_
      exact hret H locs _ ls _ _ hw (⟨by rw [dn_b0 (fun q => absurd q.2 (Int64.not_le.mpr h_9))], rfl⟩) d_Mo_isIn_18
    · refine lv_iconst (v := nI 1) S.1 S.2.1 d_Mo_isIn_13 (by decide) ?_
      refine lv_goto (tgt := 18) S.1 S.2.1 d_Mo_isIn_14 (by decide) ?_
      exact hret H locs _ ls _ _ hw (⟨by rw [dn_b1 ⟨Int64.not_lt.mp h_2, Int64.not_lt.mp h_9⟩], rfl⟩) d_Mo_isIn_18
set_option maxHeartbeats 4000000 in
set_option maxRecDepth 100000 in
theorem m_isVehicle (l : Launch) (D : va_G) (g : Nat → ClassId) (a : Nat → Nat) (f : Nat → Nat → Nat) (x : Int32) (hn : f 54 0 ≤ 8) : ds_I l D g a y_Mo_isVehicle b_Mo_isVehicle 2 .boolean 0 0 [.ref (a 54), .int x] f (fun r u => r = nI (dn_b (ds_in x (f 54 0))) ∧ u = f) := by
  refine dw_ofI (by decide) (fun _ _ h => h.1 ▸ dn_nar) (Nat.le_of_ble_eq_true rfl) ?_
  intro p e s m args below meth c ls A Q R H locs hR hA S hN hw hl hret
  have hl : lv_has ls 2 [(0, .ref (a 54)), (1, .int x)] := hl
  have S : CallFix p m c b_Mo_isVehicle 2 s args ds_T R_Mo := S
  refine lv_iload_n S.1 S.2.1 d_Mo_isVehicle_0 rfl (lv_at hl 1 rfl) ?_
  refine lv_if_lt (tgt := 16) S.1 S.2.1 d_Mo_isVehicle_1 (by decide) (fun h_1 => ?_) (fun h_1 => ?_)
  · refine lv_iconst (v := nI 0) S.1 S.2.1 d_Mo_isVehicle_16 (by decide) ?_
    exact hret H locs _ ls _ _ hw (⟨by rw [dn_b0 (fun q => ((ds_in_iff (by omega)).mp q).1 h_1)], rfl⟩) d_Mo_isVehicle_17
  · refine lv_iload_n S.1 S.2.1 d_Mo_isVehicle_4 rfl (lv_at hl 1 rfl) ?_
    refine lv_aload_n S.1 S.2.1 d_Mo_isVehicle_5 rfl (lv_at hl 0 rfl) ?_
    refine dw_getf (fi := 0) (v := .int (nI (f 54 0))) S hw i_Mo ds_ob54 (by decide) rfl wd_362 rfl d_Mo_isVehicle_6 ?_
    refine lv_icmp_ge (tgt := 16) S.1 S.2.1 d_Mo_isVehicle_9 (by decide) (fun h_9 => ?_) (fun h_9 => ?_)
    · refine lv_iconst (v := nI 0) S.1 S.2.1 d_Mo_isVehicle_16 (by decide) ?_
      exact hret H locs _ ls _ _ hw (⟨by rw [dn_b0 (fun q => ((ds_in_iff (by omega)).mp q).2 h_9)], rfl⟩) d_Mo_isVehicle_17
    · refine lv_iconst (v := nI 1) S.1 S.2.1 d_Mo_isVehicle_12 (by decide) ?_
      refine lv_goto (tgt := 17) S.1 S.2.1 d_Mo_isVehicle_13 (by decide) ?_
      exact hret H locs _ ls _ _ hw (⟨by rw [dn_b1 ((ds_in_iff (by omega)).mpr ⟨h_1, h_9⟩)], rfl⟩) d_Mo_isVehicle_17
set_option maxHeartbeats 4000000 in
set_option maxRecDepth 100000 in
theorem m_isStop (l : Launch) (D : va_G) (g : Nat → ClassId) (a : Nat → Nat) (f : Nat → Nat → Nat) (x : Int32) (hn : f 54 1 ≤ 8) : ds_I l D g a y_Mo_isStop b_Mo_isStop 2 .boolean 0 0 [.ref (a 54), .int x] f (fun r u => r = nI (dn_b (ds_in x (f 54 1))) ∧ u = f) := by
  refine dw_ofI (by decide) (fun _ _ h => h.1 ▸ dn_nar) (Nat.le_of_ble_eq_true rfl) ?_
  intro p e s m args below meth c ls A Q R H locs hR hA S hN hw hl hret
  have hl : lv_has ls 2 [(0, .ref (a 54)), (1, .int x)] := hl
  have S : CallFix p m c b_Mo_isStop 2 s args ds_T R_Mo := S
  refine lv_iload_n S.1 S.2.1 d_Mo_isStop_0 rfl (lv_at hl 1 rfl) ?_
  refine lv_if_lt (tgt := 16) S.1 S.2.1 d_Mo_isStop_1 (by decide) (fun h_1 => ?_) (fun h_1 => ?_)
  · refine lv_iconst (v := nI 0) S.1 S.2.1 d_Mo_isStop_16 (by decide) ?_
    exact hret H locs _ ls _ _ hw (⟨by rw [dn_b0 (fun q => ((ds_in_iff (by omega)).mp q).1 h_1)], rfl⟩) d_Mo_isStop_17
  · refine lv_iload_n S.1 S.2.1 d_Mo_isStop_4 rfl (lv_at hl 1 rfl) ?_
    refine lv_aload_n S.1 S.2.1 d_Mo_isStop_5 rfl (lv_at hl 0 rfl) ?_
    refine dw_getf (fi := 1) (v := .int (nI (f 54 1))) S hw i_Mo ds_ob54 (by decide) rfl wd_363 rfl d_Mo_isStop_6 ?_
    refine lv_icmp_ge (tgt := 16) S.1 S.2.1 d_Mo_isStop_9 (by decide) (fun h_9 => ?_) (fun h_9 => ?_)
    · refine lv_iconst (v := nI 0) S.1 S.2.1 d_Mo_isStop_16 (by decide) ?_
      exact hret H locs _ ls _ _ hw (⟨by rw [dn_b0 (fun q => ((ds_in_iff (by omega)).mp q).2 h_9)], rfl⟩) d_Mo_isStop_17
    · refine lv_iconst (v := nI 1) S.1 S.2.1 d_Mo_isStop_12 (by decide) ?_
      refine lv_goto (tgt := 17) S.1 S.2.1 d_Mo_isStop_13 (by decide) ?_
      exact hret H locs _ ls _ _ hw (⟨by rw [dn_b1 ((ds_in_iff (by omega)).mpr ⟨h_1, h_9⟩)], rfl⟩) d_Mo_isStop_17
set_option maxHeartbeats 4000000 in
set_option maxRecDepth 100000 in
theorem m_stop (l : Launch) (D : va_G) (g : Nat → ClassId) (a : Nat → Nat) (f : Nat → Nat → Nat) (x : Int32) (y : Int32) (z : Int32) (hV : f 54 0 ≤ 3) (hn : f 54 1 ≤ 8) : ds_I l D g a y_Mo_stop b_Mo_stop 4 .int 1 25 [.ref (a 54), .int x, .int y, .int z] f (fun r u => if f 54 1 < 8 ∧ ds_in x (f 54 0) ∧ ds_in y 10 ∧ ds_in z 10001 then r = nI (f 54 1) ∧ u = md_stop f x.toNatClampNeg y.toNatClampNeg z.toNatClampNeg else r = (-1) ∧ u = f) := by
  refine dw_ofI (by decide) (fun _ _ _ => rfl) (Nat.le_of_ble_eq_true rfl) ?_
  intro p e s m args below meth c ls A Q R H locs hR hA S hN hw hl hret
  have hl : lv_has ls 4 [(0, .ref (a 54)), (1, .int x), (2, .int y), (3, .int z)] := hl
  have S : CallFix p m c b_Mo_stop 4 s args ds_T R_Mo := S
  refine lv_aload_n S.1 S.2.1 d_Mo_stop_0 rfl (lv_at hl 0 rfl) ?_
  refine dw_getf (fi := 1) (v := .int (nI (f 54 1))) S hw i_Mo ds_ob54 (by decide) rfl wd_363 rfl d_Mo_stop_1 ?_
  refine lv_bipush (v := nI 8) S.1 S.2.1 d_Mo_stop_4 (by decide) ?_
  refine dn_icmp_eq S.1 S.2.1 41 (by omega) (by decide) d_Mo_stop_6 (by decide) (fun h_6 => ?_) (fun h_6 => ?_)
  · refine lv_iconst (v := (-1)) S.1 S.2.1 d_Mo_stop_41 (by decide) ?_
    exact hret H locs _ ls _ _ hw (by rw [if_neg (fun q => absurd q.1 (by omega))]; exact ⟨rfl, rfl⟩) d_Mo_stop_42
  · refine lv_aload_n S.1 S.2.1 d_Mo_stop_9 rfl (lv_at hl 0 rfl) ?_
    refine lv_iload_n S.1 S.2.1 d_Mo_stop_10 rfl (lv_at hl 1 rfl) ?_
    refine dw_afti hw hA (dw_runV (As := [.int x]) (rest := []) (ko := 54) hw S ds_good (m_isVehicle l D g a f x (by omega) H.size) cw_Mo_isVehicle wd_451 wd_453 ws_Mo_isVehicle ds_ob54 dw_blind (dw_pre hw hN) rfl hl.1 rfl ⟨Nat.le_trans (Nat.le_of_ble_eq_true rfl) hR.1, Nat.le_trans (Nat.le_of_ble_eq_true rfl) hR.2⟩ (Nat.le_of_ble_eq_true rfl) ⟨Nat.zero_le _, Nat.zero_le _⟩ d_Mo_stop_11) (fun r_11 f_1 H locs hp hw => ?_)
    obtain ⟨er, ef⟩ := hp
    subst er
    rw [ef] at hw
    refine dn_ifb_eq S.1 S.2.1 41 d_Mo_stop_14 (by decide) (fun h_14 => ?_) (fun h_14 => ?_)
    · refine lv_iconst (v := (-1)) S.1 S.2.1 d_Mo_stop_41 (by decide) ?_
      exact hret H locs _ ls _ _ hw (by rw [if_neg (fun q => h_14 q.2.1)]; exact ⟨rfl, rfl⟩) d_Mo_stop_42
    · refine lv_iload_n S.1 S.2.1 d_Mo_stop_17 rfl (lv_at hl 2 rfl) ?_
      refine lv_i2l (v := y.toInt64) S.1 S.2.1 d_Mo_stop_18 rfl ?_
      refine lv_lconst (v := lN 0) S.1 S.2.1 d_Mo_stop_19 rfl ?_
      refine lv_ldc2 (v := lN 9) S.1 S.2.1 S.2.2.2.1 (S.2.2.2.2 _ wd_455) d_Mo_stop_20 ?_
      refine dw_afti hw hA (dw_runS (As := [.long (y.toInt64), .long (lN 0), .long (lN 9)]) (rest := []) S ds_good (m_isIn l D g a f (y.toInt64) (lN 0) (lN 9) H.size) cw_Mo_isIn wd_456 wd_457 dw_blind (dw_pre hw hN) rfl hl.1 rfl ⟨Nat.le_trans (Nat.le_of_ble_eq_true rfl) hR.1, Nat.le_trans (Nat.le_of_ble_eq_true rfl) hR.2⟩ (Nat.le_of_ble_eq_true rfl) ⟨Nat.zero_le _, Nat.zero_le _⟩ d_Mo_stop_23) (fun r_23 f_2 H locs hp hw => ?_)
      obtain ⟨er, ef⟩ := hp
      subst er
      rw [ef] at hw
      refine dn_ifb_eq S.1 S.2.1 41 d_Mo_stop_26 (by decide) (fun h_26 => ?_) (fun h_26 => ?_)
      · refine lv_iconst (v := (-1)) S.1 S.2.1 d_Mo_stop_41 (by decide) ?_
        exact hret H locs _ ls _ _ hw (by rw [if_neg (fun q => h_26 ((ds_lin (by decide)).mpr q.2.2.1))]; exact ⟨rfl, rfl⟩) d_Mo_stop_42
      · refine lv_iload_n S.1 S.2.1 d_Mo_stop_29 rfl (lv_at hl 3 rfl) ?_
        refine lv_i2l (v := z.toInt64) S.1 S.2.1 d_Mo_stop_30 rfl ?_
        refine lv_lconst (v := lN 0) S.1 S.2.1 d_Mo_stop_31 rfl ?_
        refine lv_ldc2 (v := lN 10000) S.1 S.2.1 S.2.2.2.1 (S.2.2.2.2 _ wd_459) d_Mo_stop_32 ?_
        refine dw_afti hw hA (dw_runS (As := [.long (z.toInt64), .long (lN 0), .long (lN 10000)]) (rest := []) S ds_good (m_isIn l D g a f (z.toInt64) (lN 0) (lN 10000) H.size) cw_Mo_isIn wd_456 wd_457 dw_blind (dw_pre hw hN) rfl hl.1 rfl ⟨Nat.le_trans (Nat.le_of_ble_eq_true rfl) hR.1, Nat.le_trans (Nat.le_of_ble_eq_true rfl) hR.2⟩ (Nat.le_of_ble_eq_true rfl) ⟨Nat.zero_le _, Nat.zero_le _⟩ d_Mo_stop_35) (fun r_35 f_3 H locs hp hw => ?_)
        obtain ⟨er, ef⟩ := hp
        subst er
        rw [ef] at hw
        refine dn_ifb_ne S.1 S.2.1 43 d_Mo_stop_38 (by decide) (fun h_38 => ?_) (fun h_38 => ?_)
        · obtain ⟨ex1, hx1⟩ := ds_in_nI h_14
          have h_27 := (ds_lin (x := y) (n := 9) (by decide)).mp h_26
          obtain ⟨ex2, hx2⟩ := ds_in_nI h_27
          have h_39 := (ds_lin (x := z) (n := 10000) (by decide)).mp h_38
          obtain ⟨ex3, hx3⟩ := ds_in_nI h_39
          have hl : lv_has ls 4 [(0, .ref (a 54)), (1, .int (nI (x.toNatClampNeg))), (2, .int y), (3, .int z)] := by have hl2 := hl; rw [ex1] at hl2; exact hl2
          have hl : lv_has ls 4 [(0, .ref (a 54)), (1, .int (nI (x.toNatClampNeg))), (2, .int (nI (y.toNatClampNeg))), (3, .int z)] := by have hl2 := hl; rw [ex2] at hl2; exact hl2
          have hl : lv_has ls 4 [(0, .ref (a 54)), (1, .int (nI (x.toNatClampNeg))), (2, .int (nI (y.toNatClampNeg))), (3, .int (nI (z.toNatClampNeg)))] := by have hl2 := hl; rw [ex3] at hl2; exact hl2
          refine lv_aload_n S.1 S.2.1 d_Mo_stop_43 rfl (lv_at hl 0 rfl) ?_
          refine dw_getf (fi := 2) (v := .ref (a 55)) S hw i_Mo ds_ob54 (by decide) rfl wd_364 rfl d_Mo_stop_44 ?_
          refine lv_aload_n S.1 S.2.1 d_Mo_stop_47 rfl (lv_at hl 0 rfl) ?_
          refine dw_getf (fi := 1) (v := .int (nI (f 54 1))) S hw i_Mo ds_ob54 (by decide) rfl wd_363 rfl d_Mo_stop_48 ?_
          refine lv_iload_n S.1 S.2.1 d_Mo_stop_51 rfl (lv_at hl 2 rfl) ?_
          refine dw_iast S.1 S.2.1 hw ds_k55 (by omega) d_Mo_stop_52 (fun f_4 H locs ef_4 hw => ?_)
          have g1 : f_4 54 1 = f 54 1 := by rw [ef_4, dw_w_ne (by decide)]
          have y1 : f_4 59 x.toNatClampNeg = f 59 x.toNatClampNeg := by rw [ef_4, dw_w_ne (by decide)]
          refine lv_aload_n S.1 S.2.1 d_Mo_stop_53 rfl (lv_at hl 0 rfl) ?_
          refine dw_getf (fi := 3) (v := .ref (a 56)) S hw i_Mo ds_ob54 (by decide) rfl wd_365 rfl d_Mo_stop_54 ?_
          refine lv_aload_n S.1 S.2.1 d_Mo_stop_57 rfl (lv_at hl 0 rfl) ?_
          refine dw_getf (fi := 1) (v := .int (nI (f_4 54 1))) S hw i_Mo ds_ob54 (by decide) rfl wd_363 rfl d_Mo_stop_58 ?_
          refine lv_iload_n S.1 S.2.1 d_Mo_stop_61 rfl (lv_at hl 3 rfl) ?_
          refine dw_iast S.1 S.2.1 hw ds_k56 (by omega) d_Mo_stop_62 (fun f_5 H locs ef_5 hw => ?_)
          have g2 : f_5 54 1 = f 54 1 := by rw [ef_5, dw_w_ne (by decide)]; exact g1
          have y2 : f_5 59 x.toNatClampNeg = f 59 x.toNatClampNeg := by rw [ef_5, dw_w_ne (by decide)]; exact y1
          refine lv_aload_n S.1 S.2.1 d_Mo_stop_63 rfl (lv_at hl 0 rfl) ?_
          refine dw_getf (fi := 4) (v := .ref (a 57)) S hw i_Mo ds_ob54 (by decide) rfl wd_366 rfl d_Mo_stop_64 ?_
          refine lv_aload_n S.1 S.2.1 d_Mo_stop_67 rfl (lv_at hl 0 rfl) ?_
          refine dw_getf (fi := 1) (v := .int (nI (f_5 54 1))) S hw i_Mo ds_ob54 (by decide) rfl wd_363 rfl d_Mo_stop_68 ?_
          refine lv_iload_n S.1 S.2.1 d_Mo_stop_71 rfl (lv_at hl 1 rfl) ?_
          refine dw_iast S.1 S.2.1 hw ds_k57 (by omega) d_Mo_stop_72 (fun f_6 H locs ef_6 hw => ?_)
          have g3 : f_6 54 1 = f 54 1 := by rw [ef_6, dw_w_ne (by decide)]; exact g2
          have y3 : f_6 59 x.toNatClampNeg = f 59 x.toNatClampNeg := by rw [ef_6, dw_w_ne (by decide)]; exact y2
          refine lv_aload_n S.1 S.2.1 d_Mo_stop_73 rfl (lv_at hl 0 rfl) ?_
          refine dw_getf (fi := 5) (v := .ref (a 58)) S hw i_Mo ds_ob54 (by decide) rfl wd_367 rfl d_Mo_stop_74 ?_
          refine lv_aload_n S.1 S.2.1 d_Mo_stop_77 rfl (lv_at hl 0 rfl) ?_
          refine dw_getf (fi := 1) (v := .int (nI (f_6 54 1))) S hw i_Mo ds_ob54 (by decide) rfl wd_363 rfl d_Mo_stop_78 ?_
          refine lv_aload_n S.1 S.2.1 d_Mo_stop_81 rfl (lv_at hl 0 rfl) ?_
          refine dw_getf (fi := 6) (v := .ref (a 59)) S hw i_Mo ds_ob54 (by decide) rfl wd_368 rfl d_Mo_stop_82 ?_
          refine lv_iload_n S.1 S.2.1 d_Mo_stop_85 rfl (lv_at hl 1 rfl) ?_
          refine dw_iald S.1 S.2.1 hw ds_k59 (by omega) d_Mo_stop_86 ?_
          refine dw_iast S.1 S.2.1 hw ds_k58 (by omega) d_Mo_stop_87 (fun f_7 H locs ef_7 hw => ?_)
          have g4 : f_7 54 1 = f 54 1 := by rw [ef_7, dw_w_ne (by decide)]; exact g3
          have y4 : f_7 59 x.toNatClampNeg = f 59 x.toNatClampNeg := by rw [ef_7, dw_w_ne (by decide)]; exact y3
          refine lv_aload_n S.1 S.2.1 d_Mo_stop_88 rfl (lv_at hl 0 rfl) ?_
          refine dw_getf (fi := 6) (v := .ref (a 59)) S hw i_Mo ds_ob54 (by decide) rfl wd_368 rfl d_Mo_stop_89 ?_
          refine lv_iload_n S.1 S.2.1 d_Mo_stop_92 rfl (lv_at hl 1 rfl) ?_
          refine lv_dup2_11 S.1 S.2.1 d_Mo_stop_93 rfl rfl ?_
          refine dw_iald S.1 S.2.1 hw ds_k59 (by omega) d_Mo_stop_94 ?_
          refine lv_iconst (v := nI 1) S.1 S.2.1 d_Mo_stop_95 (by decide) ?_
          refine dn_iadd S.1 S.2.1 d_Mo_stop_96 ?_
          refine dw_iast S.1 S.2.1 hw ds_k59 (by omega) d_Mo_stop_97 (fun f_8 H locs ef_8 hw => ?_)
          have g5 : f_8 54 1 = f 54 1 := by rw [ef_8, dw_w_ne (by decide)]; exact g4
          refine lv_aload_n S.1 S.2.1 d_Mo_stop_98 rfl (lv_at hl 0 rfl) ?_
          refine dw_getf (fi := 13) (v := .ref (a 65)) S hw i_Mo ds_ob54 (by decide) rfl wd_375 rfl d_Mo_stop_99 ?_
          refine lv_aload_n S.1 S.2.1 d_Mo_stop_102 rfl (lv_at hl 0 rfl) ?_
          refine dw_getf (fi := 1) (v := .int (nI (f_8 54 1))) S hw i_Mo ds_ob54 (by decide) rfl wd_363 rfl d_Mo_stop_103 ?_
          refine lv_iload_n S.1 S.2.1 d_Mo_stop_106 rfl (lv_at hl 1 rfl) ?_
          refine dw_iast S.1 S.2.1 hw ds_k65 (by omega) d_Mo_stop_107 (fun f_9 H locs ef_9 hw => ?_)
          have g6 : f_9 54 1 = f 54 1 := by rw [ef_9, dw_w_ne (by decide)]; exact g5
          refine lv_aload_n S.1 S.2.1 d_Mo_stop_108 rfl (lv_at hl 0 rfl) ?_
          refine dw_getf (fi := 22) (v := .ref (a 72)) S hw i_Mo ds_ob54 (by decide) rfl wd_384 rfl d_Mo_stop_109 ?_
          refine lv_aload_n S.1 S.2.1 d_Mo_stop_112 rfl (lv_at hl 0 rfl) ?_
          refine dw_getf (fi := 1) (v := .int (nI (f_9 54 1))) S hw i_Mo ds_ob54 (by decide) rfl wd_363 rfl d_Mo_stop_113 ?_
          refine lv_iload_n S.1 S.2.1 d_Mo_stop_116 rfl (lv_at hl 1 rfl) ?_
          refine dw_iast S.1 S.2.1 hw ds_k72 (by omega) d_Mo_stop_117 (fun f_10 H locs ef_10 hw => ?_)
          have g7 : f_10 54 1 = f 54 1 := by rw [ef_10, dw_w_ne (by decide)]; exact g6
          refine lv_aload_n S.1 S.2.1 d_Mo_stop_118 rfl (lv_at hl 0 rfl) ?_
          refine lv_dup S.1 S.2.1 d_Mo_stop_119 rfl ?_
          refine dw_getf (fi := 1) (v := .int (nI (f_10 54 1))) S hw i_Mo ds_ob54 (by decide) rfl wd_363 rfl d_Mo_stop_120 ?_
          refine lv_iconst (v := nI 1) S.1 S.2.1 d_Mo_stop_123 (by decide) ?_
          refine dn_iadd S.1 S.2.1 d_Mo_stop_124 ?_
          refine dw_putf (fi := 1) S hw i_Mo t_Mo t_Mo_ok n_Mo ds_ob54 (by decide) rfl wd_363 rfl (by decide +kernel) (Nat.le_of_ble_eq_true rfl) rfl d_Mo_stop_125 (fun f_11 H locs ef_11 hw => ?_)
          refine lv_aload_n S.1 S.2.1 d_Mo_stop_128 rfl (lv_at hl 0 rfl) ?_
          refine dw_getf (fi := 1) (v := .int (nI (f_11 54 1))) S hw i_Mo ds_ob54 (by decide) rfl wd_363 rfl d_Mo_stop_129 ?_
          refine lv_iconst (v := nI 1) S.1 S.2.1 d_Mo_stop_132 (by decide) ?_
          refine dn_isub S.1 S.2.1 (by rw [ef_11, dw_w_eq, dw_up_eq]; omega) d_Mo_stop_133 ?_
          exact hret H locs _ ls _ _ hw (by
    rw [if_pos ⟨by omega, h_14, h_27, h_39⟩]
    refine ⟨by rw [ef_11, dw_w_eq, dw_up_eq, g7]; rfl, ?_⟩
    rw [g7] at ef_11; rw [g6] at ef_10; rw [g5] at ef_9; rw [y4] at ef_8; rw [g3, y3] at ef_7; rw [g2] at ef_6; rw [g1] at ef_5
    rw [ef_11, ef_10, ef_9, ef_8, ef_7, ef_6, ef_5, ef_4]; rfl) d_Mo_stop_134
        · refine lv_iconst (v := (-1)) S.1 S.2.1 d_Mo_stop_41 (by decide) ?_
          exact hret H locs _ ls _ _ hw (by rw [if_neg (fun q => h_38 ((ds_lin (by decide)).mpr q.2.2.2))]; exact ⟨rfl, rfl⟩) d_Mo_stop_42
set_option maxHeartbeats 4000000 in
set_option maxRecDepth 100000 in
theorem m_freeze (l : Launch) (D : va_G) (g : Nat → ClassId) (a : Nat → Nat) (f : Nat → Nat → Nat) (x : Int32) (y : Nat) (hn : f 54 1 ≤ 8) (hy : y ≤ 1) : ds_I l D g a y_Mo_freeze b_Mo_freeze 3 .boolean 1 21 [.ref (a 54), .int x, .int (nI y)] f (fun r u => if ds_in x (f 54 1) then r = nI 1 ∧ u = dw_w f 60 x.toNatClampNeg y else r = nI 0 ∧ u = f) := by
  refine dw_ofI (by decide) (fun v u h => by split at h <;> (rw [h.1]; rfl)) (Nat.le_of_ble_eq_true rfl) ?_
  intro p e s m args below meth c ls A Q R H locs hR hA S hN hw hl hret
  have hl : lv_has ls 3 [(0, .ref (a 54)), (1, .int x), (2, .int (nI y))] := hl
  have S : CallFix p m c b_Mo_freeze 3 s args ds_T R_Mo := S
  refine lv_aload_n S.1 S.2.1 d_Mo_freeze_0 rfl (lv_at hl 0 rfl) ?_
  refine lv_iload_n S.1 S.2.1 d_Mo_freeze_1 rfl (lv_at hl 1 rfl) ?_
  refine dw_afti hw hA (dw_runV (As := [.int x]) (rest := []) (ko := 54) hw S ds_good (m_isStop l D g a f x (hn) H.size) cw_Mo_isStop wd_464 wd_466 ws_Mo_isStop ds_ob54 dw_blind (dw_pre hw hN) rfl hl.1 rfl ⟨Nat.le_trans (Nat.le_of_ble_eq_true rfl) hR.1, Nat.le_trans (Nat.le_of_ble_eq_true rfl) hR.2⟩ (Nat.le_of_ble_eq_true rfl) ⟨Nat.zero_le _, Nat.zero_le _⟩ d_Mo_freeze_2) (fun r_2 f_1 H locs hp hw => ?_)
  obtain ⟨er, ef⟩ := hp
  subst er
  rw [ef] at hw
  refine dn_ifb_ne S.1 S.2.1 10 d_Mo_freeze_5 (by decide) (fun h_5 => ?_) (fun h_5 => ?_)
  · obtain ⟨ex1, hx1⟩ := ds_in_nI h_5
    have hl : lv_has ls 3 [(0, .ref (a 54)), (1, .int (nI (x.toNatClampNeg))), (2, .int (nI y))] := by have hl2 := hl; rw [ex1] at hl2; exact hl2
    refine lv_aload_n S.1 S.2.1 d_Mo_freeze_10 rfl (lv_at hl 0 rfl) ?_
    refine dw_getf (fi := 7) (v := .ref (a 60)) S hw i_Mo ds_ob54 (by decide) rfl wd_369 rfl d_Mo_freeze_11 ?_
    refine lv_iload_n S.1 S.2.1 d_Mo_freeze_14 rfl (lv_at hl 1 rfl) ?_
    refine lv_iload_n S.1 S.2.1 d_Mo_freeze_15 rfl (lv_at hl 2 rfl) ?_
    refine dw_zast S.1 S.2.1 hw hy ds_k60 (by omega) d_Mo_freeze_16 (fun f_2 H locs ef_2 hw => ?_)
    refine lv_iconst (v := nI 1) S.1 S.2.1 d_Mo_freeze_17 (by decide) ?_
    exact hret H locs _ ls _ _ hw (by rw [if_pos h_5]; exact ⟨rfl, ef_2⟩) d_Mo_freeze_18
  · refine lv_iconst (v := nI 0) S.1 S.2.1 d_Mo_freeze_8 (by decide) ?_
    exact hret H locs _ ls _ _ hw (by rw [if_neg h_5]; exact ⟨rfl, rfl⟩) d_Mo_freeze_9
set_option maxHeartbeats 4000000 in
set_option maxRecDepth 100000 in
theorem m_block (l : Launch) (D : va_G) (g : Nat → ClassId) (a : Nat → Nat) (f : Nat → Nat → Nat) (x : Int32) (y : Nat) (hn : f 54 1 ≤ 8) (hy : y ≤ 1) : ds_I l D g a y_Mo_block b_Mo_block 3 .boolean 1 21 [.ref (a 54), .int x, .int (nI y)] f (fun r u => if ds_in x (f 54 1) then r = nI 1 ∧ u = dw_w f 61 x.toNatClampNeg y else r = nI 0 ∧ u = f) := by
  refine dw_ofI (by decide) (fun v u h => by split at h <;> (rw [h.1]; rfl)) (Nat.le_of_ble_eq_true rfl) ?_
  intro p e s m args below meth c ls A Q R H locs hR hA S hN hw hl hret
  have hl : lv_has ls 3 [(0, .ref (a 54)), (1, .int x), (2, .int (nI y))] := hl
  have S : CallFix p m c b_Mo_block 3 s args ds_T R_Mo := S
  refine lv_aload_n S.1 S.2.1 d_Mo_block_0 rfl (lv_at hl 0 rfl) ?_
  refine lv_iload_n S.1 S.2.1 d_Mo_block_1 rfl (lv_at hl 1 rfl) ?_
  refine dw_afti hw hA (dw_runV (As := [.int x]) (rest := []) (ko := 54) hw S ds_good (m_isStop l D g a f x (hn) H.size) cw_Mo_isStop wd_464 wd_466 ws_Mo_isStop ds_ob54 dw_blind (dw_pre hw hN) rfl hl.1 rfl ⟨Nat.le_trans (Nat.le_of_ble_eq_true rfl) hR.1, Nat.le_trans (Nat.le_of_ble_eq_true rfl) hR.2⟩ (Nat.le_of_ble_eq_true rfl) ⟨Nat.zero_le _, Nat.zero_le _⟩ d_Mo_block_2) (fun r_2 f_1 H locs hp hw => ?_)
  obtain ⟨er, ef⟩ := hp
  subst er
  rw [ef] at hw
  refine dn_ifb_ne S.1 S.2.1 10 d_Mo_block_5 (by decide) (fun h_5 => ?_) (fun h_5 => ?_)
  · obtain ⟨ex1, hx1⟩ := ds_in_nI h_5
    have hl : lv_has ls 3 [(0, .ref (a 54)), (1, .int (nI (x.toNatClampNeg))), (2, .int (nI y))] := by have hl2 := hl; rw [ex1] at hl2; exact hl2
    refine lv_aload_n S.1 S.2.1 d_Mo_block_10 rfl (lv_at hl 0 rfl) ?_
    refine dw_getf (fi := 8) (v := .ref (a 61)) S hw i_Mo ds_ob54 (by decide) rfl wd_370 rfl d_Mo_block_11 ?_
    refine lv_iload_n S.1 S.2.1 d_Mo_block_14 rfl (lv_at hl 1 rfl) ?_
    refine lv_iload_n S.1 S.2.1 d_Mo_block_15 rfl (lv_at hl 2 rfl) ?_
    refine dw_zast S.1 S.2.1 hw hy ds_k61 (by omega) d_Mo_block_16 (fun f_2 H locs ef_2 hw => ?_)
    refine lv_iconst (v := nI 1) S.1 S.2.1 d_Mo_block_17 (by decide) ?_
    exact hret H locs _ ls _ _ hw (by rw [if_pos h_5]; exact ⟨rfl, ef_2⟩) d_Mo_block_18
  · refine lv_iconst (v := nI 0) S.1 S.2.1 d_Mo_block_8 (by decide) ?_
    exact hret H locs _ ls _ _ hw (by rw [if_neg h_5]; exact ⟨rfl, rfl⟩) d_Mo_block_9
set_option maxHeartbeats 4000000 in
set_option maxRecDepth 100000 in
theorem m_out (l : Launch) (D : va_G) (g : Nat → ClassId) (a : Nat → Nat) (f : Nat → Nat → Nat) (x : Int32) (y : Int32) (hV : f 54 0 ≤ 3) : ds_I l D g a y_Mo_out b_Mo_out 3 .boolean 1 25 [.ref (a 54), .int x, .int y] f (fun r u => if ds_in x (f 54 0) ∧ ds_in y 9 then r = nI 1 ∧ u = dw_w f 62 x.toNatClampNeg y.toNatClampNeg else r = nI 0 ∧ u = f) := by
  refine dw_ofI (by decide) (fun v u h => by split at h <;> (rw [h.1]; rfl)) (Nat.le_of_ble_eq_true rfl) ?_
  intro p e s m args below meth c ls A Q R H locs hR hA S hN hw hl hret
  have hl : lv_has ls 3 [(0, .ref (a 54)), (1, .int x), (2, .int y)] := hl
  have S : CallFix p m c b_Mo_out 3 s args ds_T R_Mo := S
  refine lv_aload_n S.1 S.2.1 d_Mo_out_0 rfl (lv_at hl 0 rfl) ?_
  refine lv_iload_n S.1 S.2.1 d_Mo_out_1 rfl (lv_at hl 1 rfl) ?_
  refine dw_afti hw hA (dw_runV (As := [.int x]) (rest := []) (ko := 54) hw S ds_good (m_isVehicle l D g a f x (by omega) H.size) cw_Mo_isVehicle wd_451 wd_453 ws_Mo_isVehicle ds_ob54 dw_blind (dw_pre hw hN) rfl hl.1 rfl ⟨Nat.le_trans (Nat.le_of_ble_eq_true rfl) hR.1, Nat.le_trans (Nat.le_of_ble_eq_true rfl) hR.2⟩ (Nat.le_of_ble_eq_true rfl) ⟨Nat.zero_le _, Nat.zero_le _⟩ d_Mo_out_2) (fun r_2 f_1 H locs hp hw => ?_)
  obtain ⟨er, ef⟩ := hp
  subst er
  rw [ef] at hw
  refine dn_ifb_eq S.1 S.2.1 20 d_Mo_out_5 (by decide) (fun h_5 => ?_) (fun h_5 => ?_)
  · refine lv_iconst (v := nI 0) S.1 S.2.1 d_Mo_out_20 (by decide) ?_
    exact hret H locs _ ls _ _ hw (by rw [if_neg (fun q => h_5 q.1)]; exact ⟨rfl, rfl⟩) d_Mo_out_21
  · refine lv_iload_n S.1 S.2.1 d_Mo_out_8 rfl (lv_at hl 2 rfl) ?_
    refine lv_i2l (v := y.toInt64) S.1 S.2.1 d_Mo_out_9 rfl ?_
    refine lv_lconst (v := lN 0) S.1 S.2.1 d_Mo_out_10 rfl ?_
    refine lv_ldc2 (v := lN 8) S.1 S.2.1 S.2.2.2.1 (S.2.2.2.2 _ wd_476) d_Mo_out_11 ?_
    refine dw_afti hw hA (dw_runS (As := [.long (y.toInt64), .long (lN 0), .long (lN 8)]) (rest := []) S ds_good (m_isIn l D g a f (y.toInt64) (lN 0) (lN 8) H.size) cw_Mo_isIn wd_456 wd_457 dw_blind (dw_pre hw hN) rfl hl.1 rfl ⟨Nat.le_trans (Nat.le_of_ble_eq_true rfl) hR.1, Nat.le_trans (Nat.le_of_ble_eq_true rfl) hR.2⟩ (Nat.le_of_ble_eq_true rfl) ⟨Nat.zero_le _, Nat.zero_le _⟩ d_Mo_out_14) (fun r_14 f_2 H locs hp hw => ?_)
    obtain ⟨er, ef⟩ := hp
    subst er
    rw [ef] at hw
    refine dn_ifb_ne S.1 S.2.1 22 d_Mo_out_17 (by decide) (fun h_17 => ?_) (fun h_17 => ?_)
    · obtain ⟨ex1, hx1⟩ := ds_in_nI h_5
      have h_18 := (ds_lin (x := y) (n := 8) (by decide)).mp h_17
      obtain ⟨ex2, hx2⟩ := ds_in_nI h_18
      have hl : lv_has ls 3 [(0, .ref (a 54)), (1, .int (nI (x.toNatClampNeg))), (2, .int y)] := by have hl2 := hl; rw [ex1] at hl2; exact hl2
      have hl : lv_has ls 3 [(0, .ref (a 54)), (1, .int (nI (x.toNatClampNeg))), (2, .int (nI (y.toNatClampNeg)))] := by have hl2 := hl; rw [ex2] at hl2; exact hl2
      refine lv_aload_n S.1 S.2.1 d_Mo_out_22 rfl (lv_at hl 0 rfl) ?_
      refine dw_getf (fi := 9) (v := .ref (a 62)) S hw i_Mo ds_ob54 (by decide) rfl wd_371 rfl d_Mo_out_23 ?_
      refine lv_iload_n S.1 S.2.1 d_Mo_out_26 rfl (lv_at hl 1 rfl) ?_
      refine lv_iload_n S.1 S.2.1 d_Mo_out_27 rfl (lv_at hl 2 rfl) ?_
      refine dw_iast S.1 S.2.1 hw ds_k62 (by omega) d_Mo_out_28 (fun f_3 H locs ef_3 hw => ?_)
      refine lv_iconst (v := nI 1) S.1 S.2.1 d_Mo_out_29 (by decide) ?_
      exact hret H locs _ ls _ _ hw (by rw [if_pos ⟨h_5, h_18⟩]; exact ⟨rfl, ef_3⟩) d_Mo_out_30
    · refine lv_iconst (v := nI 0) S.1 S.2.1 d_Mo_out_20 (by decide) ?_
      exact hret H locs _ ls _ _ hw (by rw [if_neg (fun q => h_17 ((ds_lin (by decide)).mpr q.2))]; exact ⟨rfl, rfl⟩) d_Mo_out_21
set_option maxHeartbeats 4000000 in
set_option maxRecDepth 100000 in
theorem m_hours (l : Launch) (D : va_G) (g : Nat → ClassId) (a : Nat → Nat) (f : Nat → Nat → Nat) (x : Int32) (y : Int32) (hV : f 54 0 ≤ 3) : ds_I l D g a y_Mo_hours b_Mo_hours 3 .boolean 1 25 [.ref (a 54), .int x, .int y] f (fun r u => if ds_in x (f 54 0) ∧ ds_in y 100001 then r = nI 1 ∧ u = dw_w f 63 x.toNatClampNeg y.toNatClampNeg else r = nI 0 ∧ u = f) := by
  refine dw_ofI (by decide) (fun v u h => by split at h <;> (rw [h.1]; rfl)) (Nat.le_of_ble_eq_true rfl) ?_
  intro p e s m args below meth c ls A Q R H locs hR hA S hN hw hl hret
  have hl : lv_has ls 3 [(0, .ref (a 54)), (1, .int x), (2, .int y)] := hl
  have S : CallFix p m c b_Mo_hours 3 s args ds_T R_Mo := S
  refine lv_aload_n S.1 S.2.1 d_Mo_hours_0 rfl (lv_at hl 0 rfl) ?_
  refine lv_iload_n S.1 S.2.1 d_Mo_hours_1 rfl (lv_at hl 1 rfl) ?_
  refine dw_afti hw hA (dw_runV (As := [.int x]) (rest := []) (ko := 54) hw S ds_good (m_isVehicle l D g a f x (by omega) H.size) cw_Mo_isVehicle wd_451 wd_453 ws_Mo_isVehicle ds_ob54 dw_blind (dw_pre hw hN) rfl hl.1 rfl ⟨Nat.le_trans (Nat.le_of_ble_eq_true rfl) hR.1, Nat.le_trans (Nat.le_of_ble_eq_true rfl) hR.2⟩ (Nat.le_of_ble_eq_true rfl) ⟨Nat.zero_le _, Nat.zero_le _⟩ d_Mo_hours_2) (fun r_2 f_1 H locs hp hw => ?_)
  obtain ⟨er, ef⟩ := hp
  subst er
  rw [ef] at hw
  refine dn_ifb_eq S.1 S.2.1 20 d_Mo_hours_5 (by decide) (fun h_5 => ?_) (fun h_5 => ?_)
  · refine lv_iconst (v := nI 0) S.1 S.2.1 d_Mo_hours_20 (by decide) ?_
    exact hret H locs _ ls _ _ hw (by rw [if_neg (fun q => h_5 q.1)]; exact ⟨rfl, rfl⟩) d_Mo_hours_21
  · refine lv_iload_n S.1 S.2.1 d_Mo_hours_8 rfl (lv_at hl 2 rfl) ?_
    refine lv_i2l (v := y.toInt64) S.1 S.2.1 d_Mo_hours_9 rfl ?_
    refine lv_lconst (v := lN 0) S.1 S.2.1 d_Mo_hours_10 rfl ?_
    refine lv_ldc2 (v := lN 100000) S.1 S.2.1 S.2.2.2.1 (S.2.2.2.2 _ wd_485) d_Mo_hours_11 ?_
    refine dw_afti hw hA (dw_runS (As := [.long (y.toInt64), .long (lN 0), .long (lN 100000)]) (rest := []) S ds_good (m_isIn l D g a f (y.toInt64) (lN 0) (lN 100000) H.size) cw_Mo_isIn wd_456 wd_457 dw_blind (dw_pre hw hN) rfl hl.1 rfl ⟨Nat.le_trans (Nat.le_of_ble_eq_true rfl) hR.1, Nat.le_trans (Nat.le_of_ble_eq_true rfl) hR.2⟩ (Nat.le_of_ble_eq_true rfl) ⟨Nat.zero_le _, Nat.zero_le _⟩ d_Mo_hours_14) (fun r_14 f_2 H locs hp hw => ?_)
    obtain ⟨er, ef⟩ := hp
    subst er
    rw [ef] at hw
    refine dn_ifb_ne S.1 S.2.1 22 d_Mo_hours_17 (by decide) (fun h_17 => ?_) (fun h_17 => ?_)
    · obtain ⟨ex1, hx1⟩ := ds_in_nI h_5
      have h_18 := (ds_lin (x := y) (n := 100000) (by decide)).mp h_17
      obtain ⟨ex2, hx2⟩ := ds_in_nI h_18
      have hl : lv_has ls 3 [(0, .ref (a 54)), (1, .int (nI (x.toNatClampNeg))), (2, .int y)] := by have hl2 := hl; rw [ex1] at hl2; exact hl2
      have hl : lv_has ls 3 [(0, .ref (a 54)), (1, .int (nI (x.toNatClampNeg))), (2, .int (nI (y.toNatClampNeg)))] := by have hl2 := hl; rw [ex2] at hl2; exact hl2
      refine lv_aload_n S.1 S.2.1 d_Mo_hours_22 rfl (lv_at hl 0 rfl) ?_
      refine dw_getf (fi := 10) (v := .ref (a 63)) S hw i_Mo ds_ob54 (by decide) rfl wd_372 rfl d_Mo_hours_23 ?_
      refine lv_iload_n S.1 S.2.1 d_Mo_hours_26 rfl (lv_at hl 1 rfl) ?_
      refine lv_iload_n S.1 S.2.1 d_Mo_hours_27 rfl (lv_at hl 2 rfl) ?_
      refine dw_iast S.1 S.2.1 hw ds_k63 (by omega) d_Mo_hours_28 (fun f_3 H locs ef_3 hw => ?_)
      refine lv_iconst (v := nI 1) S.1 S.2.1 d_Mo_hours_29 (by decide) ?_
      exact hret H locs _ ls _ _ hw (by rw [if_pos ⟨h_5, h_18⟩]; exact ⟨rfl, ef_3⟩) d_Mo_hours_30
    · refine lv_iconst (v := nI 0) S.1 S.2.1 d_Mo_hours_20 (by decide) ?_
      exact hret H locs _ ls _ _ hw (by rw [if_neg (fun q => h_17 ((ds_lin (by decide)).mpr q.2))]; exact ⟨rfl, rfl⟩) d_Mo_hours_21
set_option maxHeartbeats 4000000 in
set_option maxRecDepth 100000 in
theorem m_way (l : Launch) (D : va_G) (g : Nat → ClassId) (a : Nat → Nat) (f : Nat → Nat → Nat) (x : Int32) (y : Int32) (z : Int32)  : ds_I l D g a y_Mo_way b_Mo_way 4 .boolean 1 25 [.ref (a 54), .int x, .int y, .int z] f (fun r u => if ds_in x 10 ∧ ds_in y 10 ∧ ¬ x = y ∧ ds_in z 10001 then r = nI 1 ∧ u = dw_w (dw_w f 64 (10 * x.toNatClampNeg + y.toNatClampNeg) z.toNatClampNeg) 64 (10 * y.toNatClampNeg + x.toNatClampNeg) z.toNatClampNeg else r = nI 0 ∧ u = f) := by
  refine dw_ofI (by decide) (fun v u h => by split at h <;> (rw [h.1]; rfl)) (Nat.le_of_ble_eq_true rfl) ?_
  intro p e s m args below meth c ls A Q R H locs hR hA S hN hw hl hret
  have hl : lv_has ls 4 [(0, .ref (a 54)), (1, .int x), (2, .int y), (3, .int z)] := hl
  have S : CallFix p m c b_Mo_way 4 s args ds_T R_Mo := S
  refine lv_iload_n S.1 S.2.1 d_Mo_way_0 rfl (lv_at hl 1 rfl) ?_
  refine lv_i2l (v := x.toInt64) S.1 S.2.1 d_Mo_way_1 rfl ?_
  refine lv_lconst (v := lN 0) S.1 S.2.1 d_Mo_way_2 rfl ?_
  refine lv_ldc2 (v := lN 9) S.1 S.2.1 S.2.2.2.1 (S.2.2.2.2 _ wd_455) d_Mo_way_3 ?_
  refine dw_afti hw hA (dw_runS (As := [.long (x.toInt64), .long (lN 0), .long (lN 9)]) (rest := []) S ds_good (m_isIn l D g a f (x.toInt64) (lN 0) (lN 9) H.size) cw_Mo_isIn wd_456 wd_457 dw_blind (dw_pre hw hN) rfl hl.1 rfl ⟨Nat.le_trans (Nat.le_of_ble_eq_true rfl) hR.1, Nat.le_trans (Nat.le_of_ble_eq_true rfl) hR.2⟩ (Nat.le_of_ble_eq_true rfl) ⟨Nat.zero_le _, Nat.zero_le _⟩ d_Mo_way_6) (fun r_6 f_1 H locs hp hw => ?_)
  obtain ⟨er, ef⟩ := hp
  subst er
  rw [ef] at hw
  refine dn_ifb_eq S.1 S.2.1 41 d_Mo_way_9 (by decide) (fun h_9 => ?_) (fun h_9 => ?_)
  · refine lv_iconst (v := nI 0) S.1 S.2.1 d_Mo_way_41 (by decide) ?_
    exact hret H locs _ ls _ _ hw (by rw [if_neg (fun q => h_9 ((ds_lin (by decide)).mpr q.1))]; exact ⟨rfl, rfl⟩) d_Mo_way_42
  · refine lv_iload_n S.1 S.2.1 d_Mo_way_12 rfl (lv_at hl 2 rfl) ?_
    refine lv_i2l (v := y.toInt64) S.1 S.2.1 d_Mo_way_13 rfl ?_
    refine lv_lconst (v := lN 0) S.1 S.2.1 d_Mo_way_14 rfl ?_
    refine lv_ldc2 (v := lN 9) S.1 S.2.1 S.2.2.2.1 (S.2.2.2.2 _ wd_455) d_Mo_way_15 ?_
    refine dw_afti hw hA (dw_runS (As := [.long (y.toInt64), .long (lN 0), .long (lN 9)]) (rest := []) S ds_good (m_isIn l D g a f (y.toInt64) (lN 0) (lN 9) H.size) cw_Mo_isIn wd_456 wd_457 dw_blind (dw_pre hw hN) rfl hl.1 rfl ⟨Nat.le_trans (Nat.le_of_ble_eq_true rfl) hR.1, Nat.le_trans (Nat.le_of_ble_eq_true rfl) hR.2⟩ (Nat.le_of_ble_eq_true rfl) ⟨Nat.zero_le _, Nat.zero_le _⟩ d_Mo_way_18) (fun r_18 f_2 H locs hp hw => ?_)
    obtain ⟨er, ef⟩ := hp
    subst er
    rw [ef] at hw
    refine dn_ifb_eq S.1 S.2.1 41 d_Mo_way_21 (by decide) (fun h_21 => ?_) (fun h_21 => ?_)
    · refine lv_iconst (v := nI 0) S.1 S.2.1 d_Mo_way_41 (by decide) ?_
      exact hret H locs _ ls _ _ hw (by rw [if_neg (fun q => h_21 ((ds_lin (by decide)).mpr q.2.1))]; exact ⟨rfl, rfl⟩) d_Mo_way_42
    · refine lv_iload_n S.1 S.2.1 d_Mo_way_24 rfl (lv_at hl 1 rfl) ?_
      refine lv_iload_n S.1 S.2.1 d_Mo_way_25 rfl (lv_at hl 2 rfl) ?_
      refine lv_icmp_eq (tgt := 41) S.1 S.2.1 d_Mo_way_26 (by decide) (fun h_26 => ?_) (fun h_26 => ?_)
      · refine lv_iconst (v := nI 0) S.1 S.2.1 d_Mo_way_41 (by decide) ?_
        exact hret H locs _ ls _ _ hw (by rw [if_neg (fun q => q.2.2.1 h_26)]; exact ⟨rfl, rfl⟩) d_Mo_way_42
      · refine lv_iload_n S.1 S.2.1 d_Mo_way_29 rfl (lv_at hl 3 rfl) ?_
        refine lv_i2l (v := z.toInt64) S.1 S.2.1 d_Mo_way_30 rfl ?_
        refine lv_lconst (v := lN 0) S.1 S.2.1 d_Mo_way_31 rfl ?_
        refine lv_ldc2 (v := lN 10000) S.1 S.2.1 S.2.2.2.1 (S.2.2.2.2 _ wd_459) d_Mo_way_32 ?_
        refine dw_afti hw hA (dw_runS (As := [.long (z.toInt64), .long (lN 0), .long (lN 10000)]) (rest := []) S ds_good (m_isIn l D g a f (z.toInt64) (lN 0) (lN 10000) H.size) cw_Mo_isIn wd_456 wd_457 dw_blind (dw_pre hw hN) rfl hl.1 rfl ⟨Nat.le_trans (Nat.le_of_ble_eq_true rfl) hR.1, Nat.le_trans (Nat.le_of_ble_eq_true rfl) hR.2⟩ (Nat.le_of_ble_eq_true rfl) ⟨Nat.zero_le _, Nat.zero_le _⟩ d_Mo_way_35) (fun r_35 f_3 H locs hp hw => ?_)
        obtain ⟨er, ef⟩ := hp
        subst er
        rw [ef] at hw
        refine dn_ifb_ne S.1 S.2.1 43 d_Mo_way_38 (by decide) (fun h_38 => ?_) (fun h_38 => ?_)
        · have h_10 := (ds_lin (x := x) (n := 9) (by decide)).mp h_9
          have h_22 := (ds_lin (x := y) (n := 9) (by decide)).mp h_21
          have h_39 := (ds_lin (x := z) (n := 10000) (by decide)).mp h_38
          obtain ⟨ex1, hx1⟩ := ds_in_nI h_10
          obtain ⟨ex2, hx2⟩ := ds_in_nI h_22
          obtain ⟨ex3, hx3⟩ := ds_in_nI h_39
          have hl : lv_has ls 4 [(0, .ref (a 54)), (1, .int (nI (x.toNatClampNeg))), (2, .int y), (3, .int z)] := by have hl2 := hl; rw [ex1] at hl2; exact hl2
          have hl : lv_has ls 4 [(0, .ref (a 54)), (1, .int (nI (x.toNatClampNeg))), (2, .int (nI (y.toNatClampNeg))), (3, .int z)] := by have hl2 := hl; rw [ex2] at hl2; exact hl2
          have hl : lv_has ls 4 [(0, .ref (a 54)), (1, .int (nI (x.toNatClampNeg))), (2, .int (nI (y.toNatClampNeg))), (3, .int (nI (z.toNatClampNeg)))] := by have hl2 := hl; rw [ex3] at hl2; exact hl2
          refine lv_aload_n S.1 S.2.1 d_Mo_way_43 rfl (lv_at hl 0 rfl) ?_
          refine dw_getf (fi := 11) (v := .ref (a 64)) S hw i_Mo ds_ob54 (by decide) rfl wd_373 rfl d_Mo_way_44 ?_
          refine lv_bipush (v := nI 10) S.1 S.2.1 d_Mo_way_47 (by decide) ?_
          refine lv_iload_n S.1 S.2.1 d_Mo_way_49 rfl (lv_at hl 1 rfl) ?_
          refine dn_imul S.1 S.2.1 d_Mo_way_50 ?_
          refine lv_iload_n S.1 S.2.1 d_Mo_way_51 rfl (lv_at hl 2 rfl) ?_
          refine dn_iadd S.1 S.2.1 d_Mo_way_52 ?_
          refine lv_iload_n S.1 S.2.1 d_Mo_way_53 rfl (lv_at hl 3 rfl) ?_
          refine dw_iast S.1 S.2.1 hw ds_k64 (by omega) d_Mo_way_54 (fun f_4 H locs ef_4 hw => ?_)
          refine lv_aload_n S.1 S.2.1 d_Mo_way_55 rfl (lv_at hl 0 rfl) ?_
          refine dw_getf (fi := 11) (v := .ref (a 64)) S hw i_Mo ds_ob54 (by decide) rfl wd_373 rfl d_Mo_way_56 ?_
          refine lv_bipush (v := nI 10) S.1 S.2.1 d_Mo_way_59 (by decide) ?_
          refine lv_iload_n S.1 S.2.1 d_Mo_way_61 rfl (lv_at hl 2 rfl) ?_
          refine dn_imul S.1 S.2.1 d_Mo_way_62 ?_
          refine lv_iload_n S.1 S.2.1 d_Mo_way_63 rfl (lv_at hl 1 rfl) ?_
          refine dn_iadd S.1 S.2.1 d_Mo_way_64 ?_
          refine lv_iload_n S.1 S.2.1 d_Mo_way_65 rfl (lv_at hl 3 rfl) ?_
          refine dw_iast S.1 S.2.1 hw ds_k64 (by omega) d_Mo_way_66 (fun f_5 H locs ef_5 hw => ?_)
          refine lv_iconst (v := nI 1) S.1 S.2.1 d_Mo_way_67 (by decide) ?_
          exact hret H locs _ ls _ _ hw (by rw [if_pos ⟨h_10, h_22, h_26, h_39⟩]; exact ⟨rfl, by rw [ef_5, ef_4]⟩) d_Mo_way_68
        · refine lv_iconst (v := nI 0) S.1 S.2.1 d_Mo_way_41 (by decide) ?_
          exact hret H locs _ ls _ _ hw (by rw [if_neg (fun q => h_38 ((ds_lin (by decide)).mpr q.2.2.2))]; exact ⟨rfl, rfl⟩) d_Mo_way_42
set_option maxHeartbeats 4000000 in
set_option maxRecDepth 100000 in
theorem m_extra (l : Launch) (D : va_G) (g : Nat → ClassId) (a : Nat → Nat) (f : Nat → Nat → Nat) (x : Int32)  : ds_I l D g a y_Mo_extra b_Mo_extra 2 .boolean 1 25 [.ref (a 54), .int x] f (fun r u => if ds_in x 100001 then r = nI 1 ∧ u = dw_w f 54 12 x.toNatClampNeg else r = nI 0 ∧ u = f) := by
  refine dw_ofI (by decide) (fun v u h => by split at h <;> (rw [h.1]; rfl)) (Nat.le_of_ble_eq_true rfl) ?_
  intro p e s m args below meth c ls A Q R H locs hR hA S hN hw hl hret
  have hl : lv_has ls 2 [(0, .ref (a 54)), (1, .int x)] := hl
  have S : CallFix p m c b_Mo_extra 2 s args ds_T R_Mo := S
  refine lv_iload_n S.1 S.2.1 d_Mo_extra_0 rfl (lv_at hl 1 rfl) ?_
  refine lv_i2l (v := x.toInt64) S.1 S.2.1 d_Mo_extra_1 rfl ?_
  refine lv_lconst (v := lN 0) S.1 S.2.1 d_Mo_extra_2 rfl ?_
  refine lv_ldc2 (v := lN 100000) S.1 S.2.1 S.2.2.2.1 (S.2.2.2.2 _ wd_485) d_Mo_extra_3 ?_
  refine dw_afti hw hA (dw_runS (As := [.long (x.toInt64), .long (lN 0), .long (lN 100000)]) (rest := []) S ds_good (m_isIn l D g a f (x.toInt64) (lN 0) (lN 100000) H.size) cw_Mo_isIn wd_456 wd_457 dw_blind (dw_pre hw hN) rfl hl.1 rfl ⟨Nat.le_trans (Nat.le_of_ble_eq_true rfl) hR.1, Nat.le_trans (Nat.le_of_ble_eq_true rfl) hR.2⟩ (Nat.le_of_ble_eq_true rfl) ⟨Nat.zero_le _, Nat.zero_le _⟩ d_Mo_extra_6) (fun r_6 f_1 H locs hp hw => ?_)
  obtain ⟨er, ef⟩ := hp
  subst er
  rw [ef] at hw
  refine dn_ifb_ne S.1 S.2.1 14 d_Mo_extra_9 (by decide) (fun h_9 => ?_) (fun h_9 => ?_)
  · have h_10 := (ds_lin (x := x) (n := 100000) (by decide)).mp h_9
    obtain ⟨ex1, hx1⟩ := ds_in_nI h_10
    have hl : lv_has ls 2 [(0, .ref (a 54)), (1, .int (nI (x.toNatClampNeg)))] := by have hl2 := hl; rw [ex1] at hl2; exact hl2
    refine lv_aload_n S.1 S.2.1 d_Mo_extra_14 rfl (lv_at hl 0 rfl) ?_
    refine lv_iload_n S.1 S.2.1 d_Mo_extra_15 rfl (lv_at hl 1 rfl) ?_
    refine dw_putf (fi := 12) S hw i_Mo t_Mo t_Mo_ok n_Mo ds_ob54 (by decide) rfl wd_374 rfl (by decide +kernel) (Nat.le_of_ble_eq_true rfl) rfl d_Mo_extra_16 (fun f_2 H locs ef_2 hw => ?_)
    refine lv_iconst (v := nI 1) S.1 S.2.1 d_Mo_extra_19 (by decide) ?_
    exact hret H locs _ ls _ _ hw (by rw [if_pos h_10]; exact ⟨rfl, ef_2⟩) d_Mo_extra_20
  · refine lv_iconst (v := nI 0) S.1 S.2.1 d_Mo_extra_12 (by decide) ?_
    exact hret H locs _ ls _ _ hw (by rw [if_neg (fun q => h_9 ((ds_lin (by decide)).mpr q))]; exact ⟨rfl, rfl⟩) d_Mo_extra_13
set_option maxHeartbeats 4000000 in
set_option maxRecDepth 100000 in
theorem m_vehicleOf (l : Launch) (D : va_G) (g : Nat → ClassId) (a : Nat → Nat) (f : Nat → Nat → Nat) (x : Int32) (hn : f 54 1 ≤ 8) : ds_I l D g a y_Mo_vehicleOf b_Mo_vehicleOf 2 .int 1 21 [.ref (a 54), .int x] f (fun r u => (if ds_in x (f 54 1) then r = nI (f 65 x.toNatClampNeg) else r = (-1)) ∧ u = f) := by
  refine dw_ofI (by decide) (fun _ _ _ => rfl) (Nat.le_of_ble_eq_true rfl) ?_
  intro p e s m args below meth c ls A Q R H locs hR hA S hN hw hl hret
  have hl : lv_has ls 2 [(0, .ref (a 54)), (1, .int x)] := hl
  have S : CallFix p m c b_Mo_vehicleOf 2 s args ds_T R_Mo := S
  refine lv_aload_n S.1 S.2.1 d_Mo_vehicleOf_0 rfl (lv_at hl 0 rfl) ?_
  refine lv_iload_n S.1 S.2.1 d_Mo_vehicleOf_1 rfl (lv_at hl 1 rfl) ?_
  refine dw_afti hw hA (dw_runV (As := [.int x]) (rest := []) (ko := 54) hw S ds_good (m_isStop l D g a f x (hn) H.size) cw_Mo_isStop wd_464 wd_466 ws_Mo_isStop ds_ob54 dw_blind (dw_pre hw hN) rfl hl.1 rfl ⟨Nat.le_trans (Nat.le_of_ble_eq_true rfl) hR.1, Nat.le_trans (Nat.le_of_ble_eq_true rfl) hR.2⟩ (Nat.le_of_ble_eq_true rfl) ⟨Nat.zero_le _, Nat.zero_le _⟩ d_Mo_vehicleOf_2) (fun r_2 f_1 H locs hp hw => ?_)
  obtain ⟨er, ef⟩ := hp
  subst er
  rw [ef] at hw
  refine dn_ifb_eq S.1 S.2.1 17 d_Mo_vehicleOf_5 (by decide) (fun h_5 => ?_) (fun h_5 => ?_)
  · refine lv_iconst (v := (-1)) S.1 S.2.1 d_Mo_vehicleOf_17 (by decide) ?_
    exact hret H locs _ ls _ _ hw (⟨by rw [if_neg h_5], rfl⟩) d_Mo_vehicleOf_18
  · obtain ⟨ex1, hx1⟩ := ds_in_nI h_5
    have hl : lv_has ls 2 [(0, .ref (a 54)), (1, .int (nI (x.toNatClampNeg)))] := by have hl2 := hl; rw [ex1] at hl2; exact hl2
    refine lv_aload_n S.1 S.2.1 d_Mo_vehicleOf_8 rfl (lv_at hl 0 rfl) ?_
    refine dw_getf (fi := 13) (v := .ref (a 65)) S hw i_Mo ds_ob54 (by decide) rfl wd_375 rfl d_Mo_vehicleOf_9 ?_
    refine lv_iload_n S.1 S.2.1 d_Mo_vehicleOf_12 rfl (lv_at hl 1 rfl) ?_
    refine dw_iald S.1 S.2.1 hw ds_k65 (by omega) d_Mo_vehicleOf_13 ?_
    refine lv_goto (tgt := 18) S.1 S.2.1 d_Mo_vehicleOf_14 (by decide) ?_
    exact hret H locs _ ls _ _ hw (⟨by rw [if_pos h_5], rfl⟩) d_Mo_vehicleOf_18
set_option maxHeartbeats 4000000 in
set_option maxRecDepth 100000 in
theorem m_sent (l : Launch) (D : va_G) (g : Nat → ClassId) (a : Nat → Nat) (f : Nat → Nat → Nat) (x : Int32) (hn : f 54 1 ≤ 8) : ds_I l D g a y_Mo_sent b_Mo_sent 2 .int 1 21 [.ref (a 54), .int x] f (fun r u => (if ds_in x (f 54 1) then r = nI (f 73 x.toNatClampNeg) else r = (-1)) ∧ u = f) := by
  refine dw_ofI (by decide) (fun _ _ _ => rfl) (Nat.le_of_ble_eq_true rfl) ?_
  intro p e s m args below meth c ls A Q R H locs hR hA S hN hw hl hret
  have hl : lv_has ls 2 [(0, .ref (a 54)), (1, .int x)] := hl
  have S : CallFix p m c b_Mo_sent 2 s args ds_T R_Mo := S
  refine lv_aload_n S.1 S.2.1 d_Mo_sent_0 rfl (lv_at hl 0 rfl) ?_
  refine lv_iload_n S.1 S.2.1 d_Mo_sent_1 rfl (lv_at hl 1 rfl) ?_
  refine dw_afti hw hA (dw_runV (As := [.int x]) (rest := []) (ko := 54) hw S ds_good (m_isStop l D g a f x (hn) H.size) cw_Mo_isStop wd_464 wd_466 ws_Mo_isStop ds_ob54 dw_blind (dw_pre hw hN) rfl hl.1 rfl ⟨Nat.le_trans (Nat.le_of_ble_eq_true rfl) hR.1, Nat.le_trans (Nat.le_of_ble_eq_true rfl) hR.2⟩ (Nat.le_of_ble_eq_true rfl) ⟨Nat.zero_le _, Nat.zero_le _⟩ d_Mo_sent_2) (fun r_2 f_1 H locs hp hw => ?_)
  obtain ⟨er, ef⟩ := hp
  subst er
  rw [ef] at hw
  refine dn_ifb_eq S.1 S.2.1 17 d_Mo_sent_5 (by decide) (fun h_5 => ?_) (fun h_5 => ?_)
  · refine lv_iconst (v := (-1)) S.1 S.2.1 d_Mo_sent_17 (by decide) ?_
    exact hret H locs _ ls _ _ hw (⟨by rw [if_neg h_5], rfl⟩) d_Mo_sent_18
  · obtain ⟨ex1, hx1⟩ := ds_in_nI h_5
    have hl : lv_has ls 2 [(0, .ref (a 54)), (1, .int (nI (x.toNatClampNeg)))] := by have hl2 := hl; rw [ex1] at hl2; exact hl2
    refine lv_aload_n S.1 S.2.1 d_Mo_sent_8 rfl (lv_at hl 0 rfl) ?_
    refine dw_getf (fi := 23) (v := .ref (a 73)) S hw i_Mo ds_ob54 (by decide) rfl wd_385 rfl d_Mo_sent_9 ?_
    refine lv_iload_n S.1 S.2.1 d_Mo_sent_12 rfl (lv_at hl 1 rfl) ?_
    refine dw_iald S.1 S.2.1 hw ds_k73 (by omega) d_Mo_sent_13 ?_
    refine lv_goto (tgt := 18) S.1 S.2.1 d_Mo_sent_14 (by decide) ?_
    exact hret H locs _ ls _ _ hw (⟨by rw [if_pos h_5], rfl⟩) d_Mo_sent_18
set_option maxHeartbeats 4000000 in
set_option maxRecDepth 100000 in
theorem m_moved (l : Launch) (D : va_G) (g : Nat → ClassId) (a : Nat → Nat) (f : Nat → Nat → Nat) (k : Int32) (hn : f 54 1 ≤ 8) (hb : ∀ x, x < f 54 1 → f 65 x < 2 ^ 31 ∧ f 57 x < 2 ^ 31) : ds_I l D g a y_Mo_moved b_Mo_moved 4 .int 0 0 [.ref (a 54), .int k] f (fun r u => r = ds_find (fun x => f 65 x != f 57 x) k (f 54 1) 0 0 ∧ u = f) := by
  refine dw_ofI (by decide) (fun _ _ _ => rfl) (Nat.le_of_ble_eq_true rfl) ?_
  intro p e s m args below meth c ls A Q R H locs hR hA S hN hw hl hret
  have hl : lv_has ls 4 [(0, .ref (a 54)), (1, .int k)] := hl
  have S : CallFix p m c b_Mo_moved 4 s args ds_T R_Mo := S
  refine lv_iconst (v := nI 0) S.1 S.2.1 d_Mo_moved_0 (by decide) ?_
  refine lv_istore_n (lv' := [(2, .int (nI 0)), (0, .ref (a 54)), (1, .int k)]) S.1 S.2.1 d_Mo_moved_1 rfl hl (by decide) rfl (fun ls hl => ?_)
  refine lv_iconst (v := nI 0) S.1 S.2.1 d_Mo_moved_2 (by decide) ?_
  refine lv_istore_n (lv' := [(3, .int (nI 0)), (2, .int (nI 0)), (0, .ref (a 54)), (1, .int k)]) S.1 S.2.1 d_Mo_moved_3 rfl hl (by decide) rfl (fun ls hl => ?_)
  have loop_4 : ∀ (n : Nat) (b : Nat) (i : Nat) (hi : i ≤ f 54 1) (hE : ds_find (fun x => f 65 x != f 57 x) k (f 54 1) 0 0 = ds_find (fun x => f 65 x != f 57 x) k (f 54 1 - i) i b) (_ : f 54 1 - i < n) (H : Heap) (locs : List Loc), dw_W D classes (ds_tys g) A s.heap (dw_l 77 (ds_ce g a) a f) s H locs → ∀ (ls : Array Slot), lv_has ls 4 [(0, .ref (a 54)), (1, .int k), (2, .int (nI b)), (3, .int (nI i))] → W p l e R s m args below meth c H locs 0 0 Q (F0 m 4 ls []) := by
    intro n
    induction n with
    | zero => intro b i hi hE h9; exact absurd h9 (Nat.not_lt_zero _)
    | succ n ih_4 =>
      intro b i hi hE hm_4 H locs hw ls hl
      refine lv_iload_n S.1 S.2.1 d_Mo_moved_4 rfl (lv_at hl 3 rfl) ?_
      refine lv_aload_n S.1 S.2.1 d_Mo_moved_5 rfl (lv_at hl 0 rfl) ?_
      refine dw_getf (fi := 1) (v := .int (nI (f 54 1))) S hw i_Mo ds_ob54 (by decide) rfl wd_363 rfl d_Mo_moved_6 ?_
      refine dn_icmp_ge S.1 S.2.1 43 (by omega) (by omega) d_Mo_moved_9 (by decide) (fun h_9 => ?_) (fun h_9 => ?_)
      · refine lv_iconst (v := (-1)) S.1 S.2.1 d_Mo_moved_43 (by decide) ?_
        exact hret H locs _ ls _ _ hw (⟨by rw [hE, show f 54 1 - i = 0 by omega]; rfl, rfl⟩) d_Mo_moved_44
      · have b1 := hb i (by omega)
        refine lv_aload_n S.1 S.2.1 d_Mo_moved_12 rfl (lv_at hl 0 rfl) ?_
        refine dw_getf (fi := 13) (v := .ref (a 65)) S hw i_Mo ds_ob54 (by decide) rfl wd_375 rfl d_Mo_moved_13 ?_
        refine lv_iload_n S.1 S.2.1 d_Mo_moved_16 rfl (lv_at hl 3 rfl) ?_
        refine dw_iald S.1 S.2.1 hw ds_k65 (by omega) d_Mo_moved_17 ?_
        refine lv_aload_n S.1 S.2.1 d_Mo_moved_18 rfl (lv_at hl 0 rfl) ?_
        refine dw_getf (fi := 4) (v := .ref (a 57)) S hw i_Mo ds_ob54 (by decide) rfl wd_366 rfl d_Mo_moved_19 ?_
        refine lv_iload_n S.1 S.2.1 d_Mo_moved_22 rfl (lv_at hl 3 rfl) ?_
        refine dw_iald S.1 S.2.1 hw ds_k57 (by omega) d_Mo_moved_23 ?_
        refine dn_icmp_eq S.1 S.2.1 37 (by omega) (by omega) d_Mo_moved_24 (by decide) (fun h_24 => ?_) (fun h_24 => ?_)
        · refine lv_iinc (v := nI (i + 1)) (lv' := [(3, .int (nI (i + 1))), (0, .ref (a 54)), (1, .int k), (2, .int (nI b))]) S.1 S.2.1 d_Mo_moved_37 hl (k := 3) rfl (by rw [show Int32.ofInt 1 = nI 1 from rfl, nI_add]) (by decide) rfl (fun ls hl => ?_)
          refine lv_goto (tgt := 4) S.1 S.2.1 d_Mo_moved_40 (by decide) ?_
          exact ih_4 b (i + 1) (by omega) (by rw [hE, show f 54 1 - i = (f 54 1 - (i + 1)) + 1 by omega]; simp [ds_find, h_24]) (by omega) H locs hw ls (lv_sub hl [1, 2, 3, 0] rfl)
        · refine lv_iload_n S.1 S.2.1 d_Mo_moved_27 rfl (lv_at hl 2 rfl) ?_
          refine lv_iload_n S.1 S.2.1 d_Mo_moved_28 rfl (lv_at hl 1 rfl) ?_
          refine lv_icmp_ne (tgt := 34) S.1 S.2.1 d_Mo_moved_29 (by decide) (fun h_29 => ?_) (fun h_29 => ?_)
          · refine lv_iinc (v := nI (b + 1)) (lv' := [(2, .int (nI (b + 1))), (0, .ref (a 54)), (1, .int k), (3, .int (nI i))]) S.1 S.2.1 d_Mo_moved_34 hl (k := 2) rfl (by rw [show Int32.ofInt 1 = nI 1 from rfl, nI_add]) (by decide) rfl (fun ls hl => ?_)
            refine lv_iinc (v := nI (i + 1)) (lv' := [(3, .int (nI (i + 1))), (2, .int (nI (b + 1))), (0, .ref (a 54)), (1, .int k)]) S.1 S.2.1 d_Mo_moved_37 hl (k := 3) rfl (by rw [show Int32.ofInt 1 = nI 1 from rfl, nI_add]) (by decide) rfl (fun ls hl => ?_)
            refine lv_goto (tgt := 4) S.1 S.2.1 d_Mo_moved_40 (by decide) ?_
            exact ih_4 (b + 1) (i + 1) (by omega) (by rw [hE, show f 54 1 - i = (f 54 1 - (i + 1)) + 1 by omega]; simp [ds_find, h_24, h_29]) (by omega) H locs hw ls (lv_sub hl [2, 3, 1, 0] rfl)
          · refine lv_iload_n S.1 S.2.1 d_Mo_moved_32 rfl (lv_at hl 3 rfl) ?_
            exact hret H locs _ ls _ _ hw (⟨by rw [hE, show f 54 1 - i = (f 54 1 - (i + 1)) + 1 by omega]; simp [ds_find, h_24, h_29], rfl⟩) d_Mo_moved_33
  exact loop_4 _ 0 0 (Nat.zero_le _) (rfl) (Nat.lt_succ_self _) H locs hw ls (lv_sub hl [2, 3, 1, 0] rfl)
set_option maxHeartbeats 4000000 in
set_option maxRecDepth 100000 in
theorem m_carried (l : Launch) (D : va_G) (g : Nat → ClassId) (a : Nat → Nat) (f : Nat → Nat → Nat) (k : Int32) (hn : f 54 1 ≤ 8) (hV : f 54 0 ≤ 3) (hb : ∀ x, x < f 54 1 → f 65 x < 2 ^ 31) : ds_I l D g a y_Mo_carried b_Mo_carried 4 .int 0 0 [.ref (a 54), .int k] f (fun r u => r = ds_find (fun x => f 65 x == f 54 0) k (f 54 1) 0 0 ∧ u = f) := by
  refine dw_ofI (by decide) (fun _ _ _ => rfl) (Nat.le_of_ble_eq_true rfl) ?_
  intro p e s m args below meth c ls A Q R H locs hR hA S hN hw hl hret
  have hl : lv_has ls 4 [(0, .ref (a 54)), (1, .int k)] := hl
  have S : CallFix p m c b_Mo_carried 4 s args ds_T R_Mo := S
  refine lv_iconst (v := nI 0) S.1 S.2.1 d_Mo_carried_0 (by decide) ?_
  refine lv_istore_n (lv' := [(2, .int (nI 0)), (0, .ref (a 54)), (1, .int k)]) S.1 S.2.1 d_Mo_carried_1 rfl hl (by decide) rfl (fun ls hl => ?_)
  refine lv_iconst (v := nI 0) S.1 S.2.1 d_Mo_carried_2 (by decide) ?_
  refine lv_istore_n (lv' := [(3, .int (nI 0)), (2, .int (nI 0)), (0, .ref (a 54)), (1, .int k)]) S.1 S.2.1 d_Mo_carried_3 rfl hl (by decide) rfl (fun ls hl => ?_)
  have loop_4 : ∀ (n : Nat) (b : Nat) (i : Nat) (hi : i ≤ f 54 1) (hE : ds_find (fun x => f 65 x == f 54 0) k (f 54 1) 0 0 = ds_find (fun x => f 65 x == f 54 0) k (f 54 1 - i) i b) (_ : f 54 1 - i < n) (H : Heap) (locs : List Loc), dw_W D classes (ds_tys g) A s.heap (dw_l 77 (ds_ce g a) a f) s H locs → ∀ (ls : Array Slot), lv_has ls 4 [(0, .ref (a 54)), (1, .int k), (2, .int (nI b)), (3, .int (nI i))] → W p l e R s m args below meth c H locs 0 0 Q (F0 m 4 ls []) := by
    intro n
    induction n with
    | zero => intro b i hi hE h9; exact absurd h9 (Nat.not_lt_zero _)
    | succ n ih_4 =>
      intro b i hi hE hm_4 H locs hw ls hl
      refine lv_iload_n S.1 S.2.1 d_Mo_carried_4 rfl (lv_at hl 3 rfl) ?_
      refine lv_aload_n S.1 S.2.1 d_Mo_carried_5 rfl (lv_at hl 0 rfl) ?_
      refine dw_getf (fi := 1) (v := .int (nI (f 54 1))) S hw i_Mo ds_ob54 (by decide) rfl wd_363 rfl d_Mo_carried_6 ?_
      refine dn_icmp_ge S.1 S.2.1 41 (by omega) (by omega) d_Mo_carried_9 (by decide) (fun h_9 => ?_) (fun h_9 => ?_)
      · refine lv_iconst (v := (-1)) S.1 S.2.1 d_Mo_carried_41 (by decide) ?_
        exact hret H locs _ ls _ _ hw (⟨by rw [hE, show f 54 1 - i = 0 by omega]; rfl, rfl⟩) d_Mo_carried_42
      · have b1 := hb i (by omega)
        refine lv_aload_n S.1 S.2.1 d_Mo_carried_12 rfl (lv_at hl 0 rfl) ?_
        refine dw_getf (fi := 13) (v := .ref (a 65)) S hw i_Mo ds_ob54 (by decide) rfl wd_375 rfl d_Mo_carried_13 ?_
        refine lv_iload_n S.1 S.2.1 d_Mo_carried_16 rfl (lv_at hl 3 rfl) ?_
        refine dw_iald S.1 S.2.1 hw ds_k65 (by omega) d_Mo_carried_17 ?_
        refine lv_aload_n S.1 S.2.1 d_Mo_carried_18 rfl (lv_at hl 0 rfl) ?_
        refine dw_getf (fi := 0) (v := .int (nI (f 54 0))) S hw i_Mo ds_ob54 (by decide) rfl wd_362 rfl d_Mo_carried_19 ?_
        refine dn_icmp_ne S.1 S.2.1 35 (by omega) (by omega) d_Mo_carried_22 (by decide) (fun h_22 => ?_) (fun h_22 => ?_)
        · refine lv_iinc (v := nI (i + 1)) (lv' := [(3, .int (nI (i + 1))), (0, .ref (a 54)), (1, .int k), (2, .int (nI b))]) S.1 S.2.1 d_Mo_carried_35 hl (k := 3) rfl (by rw [show Int32.ofInt 1 = nI 1 from rfl, nI_add]) (by decide) rfl (fun ls hl => ?_)
          refine lv_goto (tgt := 4) S.1 S.2.1 d_Mo_carried_38 (by decide) ?_
          exact ih_4 b (i + 1) (by omega) (by rw [hE, show f 54 1 - i = (f 54 1 - (i + 1)) + 1 by omega]; simp [ds_find, h_22]) (by omega) H locs hw ls (lv_sub hl [1, 2, 3, 0] rfl)
        · refine lv_iload_n S.1 S.2.1 d_Mo_carried_25 rfl (lv_at hl 2 rfl) ?_
          refine lv_iload_n S.1 S.2.1 d_Mo_carried_26 rfl (lv_at hl 1 rfl) ?_
          refine lv_icmp_ne (tgt := 32) S.1 S.2.1 d_Mo_carried_27 (by decide) (fun h_27 => ?_) (fun h_27 => ?_)
          · refine lv_iinc (v := nI (b + 1)) (lv' := [(2, .int (nI (b + 1))), (0, .ref (a 54)), (1, .int k), (3, .int (nI i))]) S.1 S.2.1 d_Mo_carried_32 hl (k := 2) rfl (by rw [show Int32.ofInt 1 = nI 1 from rfl, nI_add]) (by decide) rfl (fun ls hl => ?_)
            refine lv_iinc (v := nI (i + 1)) (lv' := [(3, .int (nI (i + 1))), (2, .int (nI (b + 1))), (0, .ref (a 54)), (1, .int k)]) S.1 S.2.1 d_Mo_carried_35 hl (k := 3) rfl (by rw [show Int32.ofInt 1 = nI 1 from rfl, nI_add]) (by decide) rfl (fun ls hl => ?_)
            refine lv_goto (tgt := 4) S.1 S.2.1 d_Mo_carried_38 (by decide) ?_
            exact ih_4 (b + 1) (i + 1) (by omega) (by rw [hE, show f 54 1 - i = (f 54 1 - (i + 1)) + 1 by omega]; simp [ds_find, h_22, h_27]) (by omega) H locs hw ls (lv_sub hl [2, 3, 1, 0] rfl)
          · refine lv_iload_n S.1 S.2.1 d_Mo_carried_30 rfl (lv_at hl 3 rfl) ?_
            exact hret H locs _ ls _ _ hw (⟨by rw [hE, show f 54 1 - i = (f 54 1 - (i + 1)) + 1 by omega]; simp [ds_find, h_22, h_27], rfl⟩) d_Mo_carried_31
  exact loop_4 _ 0 0 (Nat.zero_le _) (rfl) (Nat.lt_succ_self _) H locs hw ls (lv_sub hl [2, 3, 1, 0] rfl)
