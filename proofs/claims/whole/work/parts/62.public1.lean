/-! contracts of the public methods -/
set_option maxHeartbeats 4000000 in
set_option maxRecDepth 100000 in
theorem c_stop (l : Launch) (D : va_G) (g : Nat → ClassId) (a : Nat → Nat) (f : Nat → Nat → Nat) (x : Int32) (y : Int32) (z : Int32) (ok : ds_ok f) : ds_I l D g a y_DS_stop b_DS_stop 5 .int 2 47 [.ref (a 0), .int x, .int y, .int z] f (fun r u => if f 1 1 < 8 ∧ ds_in x (f 1 0) ∧ ds_in y 10 ∧ ds_in z 10001 then r = nI (f 1 1) ∧ u = ds_stop f x.toNatClampNeg y.toNatClampNeg z.toNatClampNeg else r = (-1) ∧ u = f) := by
  refine dw_ofI (by decide) (fun _ _ _ => rfl) (Nat.le_of_ble_eq_true rfl) ?_
  intro p e s m args below meth c ls A Q R H locs hR hA S hN hw hl hret
  have hl : lv_has ls 5 [(0, .ref (a 0)), (1, .int x), (2, .int y), (3, .int z)] := hl
  have S : CallFix p m c b_DS_stop 5 s args ds_T R_DS := S
  obtain ⟨hV, hn, hex, hst, hve, hwy, hw0, hrw⟩ := id ok
  refine lv_aload_n S.1 S.2.1 d_DS_stop_0 rfl (lv_at hl 0 rfl) ?_
  refine dw_getf (fi := 0) (v := .ref (a 1)) S hw i_DS ds_ob0 (by decide) rfl wd_135 rfl d_DS_stop_1 ?_
  refine dw_getN (fi := 1) (v := .int (nI (f 1 1))) S hw i_Day ds_ob1 (by decide) rfl hN wd_35 rfl d_DS_stop_4 ?_
  refine lv_bipush (v := nI 8) S.1 S.2.1 d_DS_stop_7 (by decide) ?_
  refine dn_icmp_ge S.1 S.2.1 23 (by omega) (by decide) d_DS_stop_9 (by decide) (fun h_9 => ?_) (fun h_9 => ?_)
  · refine lv_iconst (v := (-1)) S.1 S.2.1 d_DS_stop_23 (by decide) ?_
    exact hret H locs _ ls _ _ hw (by rw [if_neg (fun q => absurd q.1 (by omega))]; exact ⟨rfl, rfl⟩) d_DS_stop_24
  · refine lv_aload_n S.1 S.2.1 d_DS_stop_12 rfl (lv_at hl 0 rfl) ?_
    refine dw_getf (fi := 0) (v := .ref (a 1)) S hw i_DS ds_ob0 (by decide) rfl wd_135 rfl d_DS_stop_13 ?_
    refine lv_iload_n S.1 S.2.1 d_DS_stop_16 rfl (lv_at hl 1 rfl) ?_
    refine dw_afti hw hA (dw_runVN (As := [.int x]) (rest := []) (ko := 1) hw S ds_good (c_isVehicle l D g a f x (hV) H.size) cw_Day_isVehicle hN wd_161 wd_163 ws_Day_isVehicle ds_ob1 dw_blind (dw_pre hw hN) rfl hl.1 rfl ⟨Nat.le_trans (Nat.le_of_ble_eq_true rfl) hR.1, Nat.le_trans (Nat.le_of_ble_eq_true rfl) hR.2⟩ (Nat.le_of_ble_eq_true rfl) ⟨Nat.zero_le _, Nat.zero_le _⟩ d_DS_stop_17) (fun r_17 f_1 H locs hp hw => ?_)
    obtain ⟨er, ef⟩ := hp
    subst er
    rw [ef] at hw
    refine dn_ifb_ne S.1 S.2.1 25 d_DS_stop_20 (by decide) (fun h_20 => ?_) (fun h_20 => ?_)
    · refine lv_iload_n S.1 S.2.1 d_DS_stop_25 rfl (lv_at hl 2 rfl) ?_
      refine dw_afti hw hA (dw_runS (As := [.int y]) (rest := []) S ds_good (c_isPlace l D g a f y H.size) cw_DS_isPlace wd_166 wd_167 dw_blind (dw_pre hw hN) rfl hl.1 rfl ⟨Nat.le_trans (Nat.le_of_ble_eq_true rfl) hR.1, Nat.le_trans (Nat.le_of_ble_eq_true rfl) hR.2⟩ (Nat.le_of_ble_eq_true rfl) ⟨Nat.zero_le _, Nat.zero_le _⟩ d_DS_stop_26) (fun r_26 f_2 H locs hp hw => ?_)
      obtain ⟨er, ef⟩ := hp
      subst er
      rw [ef] at hw
      refine dn_ifb_eq S.1 S.2.1 43 d_DS_stop_29 (by decide) (fun h_29 => ?_) (fun h_29 => ?_)
      · refine lv_iconst (v := (-1)) S.1 S.2.1 d_DS_stop_43 (by decide) ?_
        exact hret H locs _ ls _ _ hw (by rw [if_neg (fun q => h_29 q.2.2.1)]; exact ⟨rfl, rfl⟩) d_DS_stop_44
      · refine lv_iload_n S.1 S.2.1 d_DS_stop_32 rfl (lv_at hl 3 rfl) ?_
        refine lv_iconst (v := nI 0) S.1 S.2.1 d_DS_stop_33 (by decide) ?_
        refine lv_sipush (v := nI 10000) S.1 S.2.1 d_DS_stop_34 (by decide) ?_
        refine dw_afti hw hA (dw_runS (As := [.int z, .int (nI 0), .int (nI 10000)]) (rest := []) S ds_good (c_isWithin l D g a f z (nI 0) (nI 10000) H.size) cw_DS_isWithin wd_20 wd_21 dw_blind (dw_pre hw hN) rfl hl.1 rfl ⟨Nat.le_trans (Nat.le_of_ble_eq_true rfl) hR.1, Nat.le_trans (Nat.le_of_ble_eq_true rfl) hR.2⟩ (Nat.le_of_ble_eq_true rfl) ⟨Nat.zero_le _, Nat.zero_le _⟩ d_DS_stop_37) (fun r_37 f_3 H locs hp hw => ?_)
        obtain ⟨er, ef⟩ := hp
        subst er
        rw [ef] at hw
        refine dn_ifb_ne S.1 S.2.1 45 d_DS_stop_40 (by decide) (fun h_40 => ?_) (fun h_40 => ?_)
        · obtain ⟨ex1, hx1⟩ := ds_in_nI h_20
          obtain ⟨ex2, hx2⟩ := ds_in_nI h_29
          have h_41 := (ds_le_in (x := z) (n := 10000) (by decide)).mp h_40
          obtain ⟨ex3, hx3⟩ := ds_in_nI h_41
          have hl : lv_has ls 5 [(0, .ref (a 0)), (1, .int (nI (x.toNatClampNeg))), (2, .int y), (3, .int z)] := by have hl2 := hl; rw [ex1] at hl2; exact hl2
          have hl : lv_has ls 5 [(0, .ref (a 0)), (1, .int (nI (x.toNatClampNeg))), (2, .int (nI (y.toNatClampNeg))), (3, .int z)] := by have hl2 := hl; rw [ex2] at hl2; exact hl2
          have hl : lv_has ls 5 [(0, .ref (a 0)), (1, .int (nI (x.toNatClampNeg))), (2, .int (nI (y.toNatClampNeg))), (3, .int (nI (z.toNatClampNeg)))] := by have hl2 := hl; rw [ex3] at hl2; exact hl2
          refine lv_aload_n S.1 S.2.1 d_DS_stop_45 rfl (lv_at hl 0 rfl) ?_
          refine dw_getf (fi := 0) (v := .ref (a 1)) S hw i_DS ds_ob0 (by decide) rfl wd_135 rfl d_DS_stop_46 ?_
          refine lv_iload_n S.1 S.2.1 d_DS_stop_49 rfl (lv_at hl 1 rfl) ?_
          refine lv_iload_n S.1 S.2.1 d_DS_stop_50 rfl (lv_at hl 2 rfl) ?_
          refine lv_iload_n S.1 S.2.1 d_DS_stop_51 rfl (lv_at hl 3 rfl) ?_
          refine dw_afti hw hA (dw_runVN (As := [.int (nI (x.toNatClampNeg)), .int (nI (y.toNatClampNeg)), .int (nI (z.toNatClampNeg))]) (rest := []) (ko := 1) hw S ds_good (c_tell l D g a f (x.toNatClampNeg) (y.toNatClampNeg) (z.toNatClampNeg) (ok) (hx1) (h_9) H.size) cw_Day_tell hN wd_169 wd_171 ws_Day_tell ds_ob1 dw_blind (dw_pre hw hN) rfl hl.1 rfl ⟨Nat.le_trans (Nat.le_of_ble_eq_true rfl) hR.1, Nat.le_trans (Nat.le_of_ble_eq_true rfl) hR.2⟩ (Nat.le_of_ble_eq_true rfl) ⟨Nat.zero_le _, Nat.zero_le _⟩ d_DS_stop_52) (fun r_52 f_4 H locs hp hw => ?_)
          obtain ⟨er, ef_4⟩ := hp
          subst er
          refine lv_istore (lv' := [(4, .int (nI (f 1 1))), (0, .ref (a 0)), (1, .int (nI (x.toNatClampNeg))), (2, .int (nI (y.toNatClampNeg))), (3, .int (nI (z.toNatClampNeg)))]) S.1 S.2.1 d_DS_stop_55 hl (by decide) rfl (fun ls hl => ?_)
          refine lv_aload_n S.1 S.2.1 d_DS_stop_57 rfl (lv_at hl 1 rfl) ?_
          refine dw_getf (fi := 4) (v := .ref (a 5)) S hw i_DS ds_ob0 (by decide) rfl wd_139 rfl d_DS_stop_58 ?_
          refine lv_iload S.1 S.2.1 d_DS_stop_61 (lv_at hl 0 rfl) ?_
          refine lv_iload_n S.1 S.2.1 d_DS_stop_63 rfl (lv_at hl 2 rfl) ?_
          refine dw_iast S.1 S.2.1 hw ds_k5 (by omega) d_DS_stop_64 (fun f_5 H locs ef_5 hw => ?_)
          refine lv_aload_n S.1 S.2.1 d_DS_stop_65 rfl (lv_at hl 1 rfl) ?_
          refine dw_getf (fi := 5) (v := .ref (a 6)) S hw i_DS ds_ob0 (by decide) rfl wd_140 rfl d_DS_stop_66 ?_
          refine lv_iload S.1 S.2.1 d_DS_stop_69 (lv_at hl 0 rfl) ?_
          refine lv_iload_n S.1 S.2.1 d_DS_stop_71 rfl (lv_at hl 2 rfl) ?_
          refine dw_iast S.1 S.2.1 hw ds_k6 (by omega) d_DS_stop_72 (fun f_6 H locs ef_6 hw => ?_)
          refine lv_iload S.1 S.2.1 d_DS_stop_73 (lv_at hl 0 rfl) ?_
          exact hret H locs _ ls _ _ hw (by rw [if_pos ⟨h_9, h_20, h_29, h_41⟩]; exact ⟨rfl, by rw [ef_6, ef_5, ef_4]; rfl⟩) d_DS_stop_75
        · refine lv_iconst (v := (-1)) S.1 S.2.1 d_DS_stop_43 (by decide) ?_
          exact hret H locs _ ls _ _ hw (by rw [if_neg (fun q => h_40 ((ds_le_in (by decide)).mpr q.2.2.2))]; exact ⟨rfl, rfl⟩) d_DS_stop_44
    · refine lv_iconst (v := (-1)) S.1 S.2.1 d_DS_stop_23 (by decide) ?_
      exact hret H locs _ ls _ _ hw (by rw [if_neg (fun q => h_20 q.2.1)]; exact ⟨rfl, rfl⟩) d_DS_stop_24
set_option maxHeartbeats 4000000 in
set_option maxRecDepth 100000 in
theorem c_freeze (l : Launch) (D : va_G) (g : Nat → ClassId) (a : Nat → Nat) (f : Nat → Nat → Nat) (x : Int32) (y : Nat) (hn : f 1 1 ≤ 8) (hy : y ≤ 1) : ds_I l D g a y_DS_freeze b_DS_freeze 3 .boolean 2 43 [.ref (a 0), .int x, .int (nI y)] f (fun r u => if ds_in x (f 1 1) then r = nI 1 ∧ u = dw_w f 12 x.toNatClampNeg y else r = nI 0 ∧ u = f) := by
  refine dw_ofI (by decide) (fun v u h => by split at h <;> (rw [h.1]; rfl)) (Nat.le_of_ble_eq_true rfl) ?_
  intro p e s m args below meth c ls A Q R H locs hR hA S hN hw hl hret
  have hl : lv_has ls 3 [(0, .ref (a 0)), (1, .int x), (2, .int (nI y))] := hl
  have S : CallFix p m c b_DS_freeze 3 s args ds_T R_DS := S
  refine lv_aload_n S.1 S.2.1 d_DS_freeze_0 rfl (lv_at hl 0 rfl) ?_
  refine dw_getf (fi := 0) (v := .ref (a 1)) S hw i_DS ds_ob0 (by decide) rfl wd_135 rfl d_DS_freeze_1 ?_
  refine lv_iload_n S.1 S.2.1 d_DS_freeze_4 rfl (lv_at hl 1 rfl) ?_
  refine dw_afti hw hA (dw_runVN (As := [.int x]) (rest := []) (ko := 1) hw S ds_good (c_isStop l D g a f x (hn) H.size) cw_Day_isStop hN wd_181 wd_183 ws_Day_isStop ds_ob1 dw_blind (dw_pre hw hN) rfl hl.1 rfl ⟨Nat.le_trans (Nat.le_of_ble_eq_true rfl) hR.1, Nat.le_trans (Nat.le_of_ble_eq_true rfl) hR.2⟩ (Nat.le_of_ble_eq_true rfl) ⟨Nat.zero_le _, Nat.zero_le _⟩ d_DS_freeze_5) (fun r_5 f_1 H locs hp hw => ?_)
  obtain ⟨er, ef⟩ := hp
  subst er
  rw [ef] at hw
  refine dn_ifb_ne S.1 S.2.1 13 d_DS_freeze_8 (by decide) (fun h_8 => ?_) (fun h_8 => ?_)
  · obtain ⟨ex1, hx1⟩ := ds_in_nI h_8
    have hl : lv_has ls 3 [(0, .ref (a 0)), (1, .int (nI (x.toNatClampNeg))), (2, .int (nI y))] := by have hl2 := hl; rw [ex1] at hl2; exact hl2
    refine lv_aload_n S.1 S.2.1 d_DS_freeze_13 rfl (lv_at hl 0 rfl) ?_
    refine dw_getf (fi := 0) (v := .ref (a 1)) S hw i_DS ds_ob0 (by decide) rfl wd_135 rfl d_DS_freeze_14 ?_
    refine dw_getN (fi := 6) (v := .ref (a 12)) S hw i_Day ds_ob1 (by decide) rfl hN wd_45 rfl d_DS_freeze_17 ?_
    refine lv_iload_n S.1 S.2.1 d_DS_freeze_20 rfl (lv_at hl 1 rfl) ?_
    refine lv_iload_n S.1 S.2.1 d_DS_freeze_21 rfl (lv_at hl 2 rfl) ?_
    refine dw_zast S.1 S.2.1 hw hy ds_k12 (by omega) d_DS_freeze_22 (fun f_2 H locs ef_2 hw => ?_)
    refine lv_iconst (v := nI 1) S.1 S.2.1 d_DS_freeze_23 (by decide) ?_
    exact hret H locs _ ls _ _ hw (by rw [if_pos h_8]; exact ⟨rfl, ef_2⟩) d_DS_freeze_24
  · refine lv_iconst (v := nI 0) S.1 S.2.1 d_DS_freeze_11 (by decide) ?_
    exact hret H locs _ ls _ _ hw (by rw [if_neg h_8]; exact ⟨rfl, rfl⟩) d_DS_freeze_12
set_option maxHeartbeats 4000000 in
set_option maxRecDepth 100000 in
theorem c_block (l : Launch) (D : va_G) (g : Nat → ClassId) (a : Nat → Nat) (f : Nat → Nat → Nat) (x : Int32) (y : Nat) (hn : f 1 1 ≤ 8) (hy : y ≤ 1) : ds_I l D g a y_DS_block b_DS_block 3 .boolean 2 43 [.ref (a 0), .int x, .int (nI y)] f (fun r u => if ds_in x (f 1 1) then r = nI 1 ∧ u = dw_w f 13 x.toNatClampNeg y else r = nI 0 ∧ u = f) := by
  refine dw_ofI (by decide) (fun v u h => by split at h <;> (rw [h.1]; rfl)) (Nat.le_of_ble_eq_true rfl) ?_
  intro p e s m args below meth c ls A Q R H locs hR hA S hN hw hl hret
  have hl : lv_has ls 3 [(0, .ref (a 0)), (1, .int x), (2, .int (nI y))] := hl
  have S : CallFix p m c b_DS_block 3 s args ds_T R_DS := S
  refine lv_aload_n S.1 S.2.1 d_DS_block_0 rfl (lv_at hl 0 rfl) ?_
  refine dw_getf (fi := 0) (v := .ref (a 1)) S hw i_DS ds_ob0 (by decide) rfl wd_135 rfl d_DS_block_1 ?_
  refine lv_iload_n S.1 S.2.1 d_DS_block_4 rfl (lv_at hl 1 rfl) ?_
  refine dw_afti hw hA (dw_runVN (As := [.int x]) (rest := []) (ko := 1) hw S ds_good (c_isStop l D g a f x (hn) H.size) cw_Day_isStop hN wd_181 wd_183 ws_Day_isStop ds_ob1 dw_blind (dw_pre hw hN) rfl hl.1 rfl ⟨Nat.le_trans (Nat.le_of_ble_eq_true rfl) hR.1, Nat.le_trans (Nat.le_of_ble_eq_true rfl) hR.2⟩ (Nat.le_of_ble_eq_true rfl) ⟨Nat.zero_le _, Nat.zero_le _⟩ d_DS_block_5) (fun r_5 f_1 H locs hp hw => ?_)
  obtain ⟨er, ef⟩ := hp
  subst er
  rw [ef] at hw
  refine dn_ifb_ne S.1 S.2.1 13 d_DS_block_8 (by decide) (fun h_8 => ?_) (fun h_8 => ?_)
  · obtain ⟨ex1, hx1⟩ := ds_in_nI h_8
    have hl : lv_has ls 3 [(0, .ref (a 0)), (1, .int (nI (x.toNatClampNeg))), (2, .int (nI y))] := by have hl2 := hl; rw [ex1] at hl2; exact hl2
    refine lv_aload_n S.1 S.2.1 d_DS_block_13 rfl (lv_at hl 0 rfl) ?_
    refine dw_getf (fi := 0) (v := .ref (a 1)) S hw i_DS ds_ob0 (by decide) rfl wd_135 rfl d_DS_block_14 ?_
    refine dw_getN (fi := 7) (v := .ref (a 13)) S hw i_Day ds_ob1 (by decide) rfl hN wd_47 rfl d_DS_block_17 ?_
    refine lv_iload_n S.1 S.2.1 d_DS_block_20 rfl (lv_at hl 1 rfl) ?_
    refine lv_iload_n S.1 S.2.1 d_DS_block_21 rfl (lv_at hl 2 rfl) ?_
    refine dw_zast S.1 S.2.1 hw hy ds_k13 (by omega) d_DS_block_22 (fun f_2 H locs ef_2 hw => ?_)
    refine lv_iconst (v := nI 1) S.1 S.2.1 d_DS_block_23 (by decide) ?_
    exact hret H locs _ ls _ _ hw (by rw [if_pos h_8]; exact ⟨rfl, ef_2⟩) d_DS_block_24
  · refine lv_iconst (v := nI 0) S.1 S.2.1 d_DS_block_11 (by decide) ?_
    exact hret H locs _ ls _ _ hw (by rw [if_neg h_8]; exact ⟨rfl, rfl⟩) d_DS_block_12
set_option maxHeartbeats 4000000 in
set_option maxRecDepth 100000 in
theorem c_out (l : Launch) (D : va_G) (g : Nat → ClassId) (a : Nat → Nat) (f : Nat → Nat → Nat) (x : Int32) (y : Int32) (hV : 1 ≤ f 1 0 ∧ f 1 0 ≤ 3) : ds_I l D g a y_DS_out b_DS_out 3 .boolean 2 43 [.ref (a 0), .int x, .int y] f (fun r u => if ds_in x (f 1 0) ∧ ds_in y 9 then r = nI 1 ∧ u = dw_w f 18 x.toNatClampNeg y.toNatClampNeg else r = nI 0 ∧ u = f) := by
  refine dw_ofI (by decide) (fun v u h => by split at h <;> (rw [h.1]; rfl)) (Nat.le_of_ble_eq_true rfl) ?_
  intro p e s m args below meth c ls A Q R H locs hR hA S hN hw hl hret
  have hl : lv_has ls 3 [(0, .ref (a 0)), (1, .int x), (2, .int y)] := hl
  have S : CallFix p m c b_DS_out 3 s args ds_T R_DS := S
  refine lv_aload_n S.1 S.2.1 d_DS_out_0 rfl (lv_at hl 0 rfl) ?_
  refine dw_getf (fi := 0) (v := .ref (a 1)) S hw i_DS ds_ob0 (by decide) rfl wd_135 rfl d_DS_out_1 ?_
  refine lv_iload_n S.1 S.2.1 d_DS_out_4 rfl (lv_at hl 1 rfl) ?_
  refine dw_afti hw hA (dw_runVN (As := [.int x]) (rest := []) (ko := 1) hw S ds_good (c_isVehicle l D g a f x (hV) H.size) cw_Day_isVehicle hN wd_161 wd_163 ws_Day_isVehicle ds_ob1 dw_blind (dw_pre hw hN) rfl hl.1 rfl ⟨Nat.le_trans (Nat.le_of_ble_eq_true rfl) hR.1, Nat.le_trans (Nat.le_of_ble_eq_true rfl) hR.2⟩ (Nat.le_of_ble_eq_true rfl) ⟨Nat.zero_le _, Nat.zero_le _⟩ d_DS_out_5) (fun r_5 f_1 H locs hp hw => ?_)
  obtain ⟨er, ef⟩ := hp
  subst er
  rw [ef] at hw
  refine dn_ifb_eq S.1 S.2.1 21 d_DS_out_8 (by decide) (fun h_8 => ?_) (fun h_8 => ?_)
  · refine lv_iconst (v := nI 0) S.1 S.2.1 d_DS_out_21 (by decide) ?_
    exact hret H locs _ ls _ _ hw (by rw [if_neg (fun q => h_8 q.1)]; exact ⟨rfl, rfl⟩) d_DS_out_22
  · refine lv_iload_n S.1 S.2.1 d_DS_out_11 rfl (lv_at hl 2 rfl) ?_
    refine lv_iconst (v := nI 0) S.1 S.2.1 d_DS_out_12 (by decide) ?_
    refine lv_bipush (v := nI 8) S.1 S.2.1 d_DS_out_13 (by decide) ?_
    refine dw_afti hw hA (dw_runS (As := [.int y, .int (nI 0), .int (nI 8)]) (rest := []) S ds_good (c_isWithin l D g a f y (nI 0) (nI 8) H.size) cw_DS_isWithin wd_20 wd_21 dw_blind (dw_pre hw hN) rfl hl.1 rfl ⟨Nat.le_trans (Nat.le_of_ble_eq_true rfl) hR.1, Nat.le_trans (Nat.le_of_ble_eq_true rfl) hR.2⟩ (Nat.le_of_ble_eq_true rfl) ⟨Nat.zero_le _, Nat.zero_le _⟩ d_DS_out_15) (fun r_15 f_2 H locs hp hw => ?_)
    obtain ⟨er, ef⟩ := hp
    subst er
    rw [ef] at hw
    refine dn_ifb_ne S.1 S.2.1 23 d_DS_out_18 (by decide) (fun h_18 => ?_) (fun h_18 => ?_)
    · obtain ⟨ex1, hx1⟩ := ds_in_nI h_8
      have h_19 := (ds_le_in (x := y) (n := 8) (by decide)).mp h_18
      obtain ⟨ex2, hx2⟩ := ds_in_nI h_19
      have hl : lv_has ls 3 [(0, .ref (a 0)), (1, .int (nI (x.toNatClampNeg))), (2, .int y)] := by have hl2 := hl; rw [ex1] at hl2; exact hl2
      have hl : lv_has ls 3 [(0, .ref (a 0)), (1, .int (nI (x.toNatClampNeg))), (2, .int (nI (y.toNatClampNeg)))] := by have hl2 := hl; rw [ex2] at hl2; exact hl2
      refine lv_aload_n S.1 S.2.1 d_DS_out_23 rfl (lv_at hl 0 rfl) ?_
      refine dw_getf (fi := 0) (v := .ref (a 1)) S hw i_DS ds_ob0 (by decide) rfl wd_135 rfl d_DS_out_24 ?_
      refine dw_getN (fi := 12) (v := .ref (a 18)) S hw i_Day ds_ob1 (by decide) rfl hN wd_53 rfl d_DS_out_27 ?_
      refine lv_iload_n S.1 S.2.1 d_DS_out_30 rfl (lv_at hl 1 rfl) ?_
      refine lv_iload_n S.1 S.2.1 d_DS_out_31 rfl (lv_at hl 2 rfl) ?_
      refine dw_iast S.1 S.2.1 hw ds_k18 (by omega) d_DS_out_32 (fun f_3 H locs ef_3 hw => ?_)
      refine lv_iconst (v := nI 1) S.1 S.2.1 d_DS_out_33 (by decide) ?_
      exact hret H locs _ ls _ _ hw (by rw [if_pos ⟨h_8, h_19⟩]; exact ⟨rfl, ef_3⟩) d_DS_out_34
    · refine lv_iconst (v := nI 0) S.1 S.2.1 d_DS_out_21 (by decide) ?_
      exact hret H locs _ ls _ _ hw (by rw [if_neg (fun q => h_18 ((ds_le_in (by decide)).mpr q.2))]; exact ⟨rfl, rfl⟩) d_DS_out_22
set_option maxHeartbeats 4000000 in
set_option maxRecDepth 100000 in
theorem c_hours (l : Launch) (D : va_G) (g : Nat → ClassId) (a : Nat → Nat) (f : Nat → Nat → Nat) (x : Int32) (y : Int32) (hV : 1 ≤ f 1 0 ∧ f 1 0 ≤ 3) : ds_I l D g a y_DS_hours b_DS_hours 3 .boolean 2 43 [.ref (a 0), .int x, .int y] f (fun r u => if ds_in x (f 1 0) ∧ ds_in y 100001 then r = nI 1 ∧ u = dw_w f 19 x.toNatClampNeg y.toNatClampNeg else r = nI 0 ∧ u = f) := by
  refine dw_ofI (by decide) (fun v u h => by split at h <;> (rw [h.1]; rfl)) (Nat.le_of_ble_eq_true rfl) ?_
  intro p e s m args below meth c ls A Q R H locs hR hA S hN hw hl hret
  have hl : lv_has ls 3 [(0, .ref (a 0)), (1, .int x), (2, .int y)] := hl
  have S : CallFix p m c b_DS_hours 3 s args ds_T R_DS := S
  refine lv_aload_n S.1 S.2.1 d_DS_hours_0 rfl (lv_at hl 0 rfl) ?_
  refine dw_getf (fi := 0) (v := .ref (a 1)) S hw i_DS ds_ob0 (by decide) rfl wd_135 rfl d_DS_hours_1 ?_
  refine lv_iload_n S.1 S.2.1 d_DS_hours_4 rfl (lv_at hl 1 rfl) ?_
  refine dw_afti hw hA (dw_runVN (As := [.int x]) (rest := []) (ko := 1) hw S ds_good (c_isVehicle l D g a f x (hV) H.size) cw_Day_isVehicle hN wd_161 wd_163 ws_Day_isVehicle ds_ob1 dw_blind (dw_pre hw hN) rfl hl.1 rfl ⟨Nat.le_trans (Nat.le_of_ble_eq_true rfl) hR.1, Nat.le_trans (Nat.le_of_ble_eq_true rfl) hR.2⟩ (Nat.le_of_ble_eq_true rfl) ⟨Nat.zero_le _, Nat.zero_le _⟩ d_DS_hours_5) (fun r_5 f_1 H locs hp hw => ?_)
  obtain ⟨er, ef⟩ := hp
  subst er
  rw [ef] at hw
  refine dn_ifb_eq S.1 S.2.1 21 d_DS_hours_8 (by decide) (fun h_8 => ?_) (fun h_8 => ?_)
  · refine lv_iconst (v := nI 0) S.1 S.2.1 d_DS_hours_21 (by decide) ?_
    exact hret H locs _ ls _ _ hw (by rw [if_neg (fun q => h_8 q.1)]; exact ⟨rfl, rfl⟩) d_DS_hours_22
  · refine lv_iload_n S.1 S.2.1 d_DS_hours_11 rfl (lv_at hl 2 rfl) ?_
    refine lv_iconst (v := nI 0) S.1 S.2.1 d_DS_hours_12 (by decide) ?_
    refine lv_ldc (v := nI 100000) S.1 S.2.1 S.2.2.2.1 (S.2.2.2.2 _ wd_201) d_DS_hours_13 ?_
    refine dw_afti hw hA (dw_runS (As := [.int y, .int (nI 0), .int (nI 100000)]) (rest := []) S ds_good (c_isWithin l D g a f y (nI 0) (nI 100000) H.size) cw_DS_isWithin wd_20 wd_21 dw_blind (dw_pre hw hN) rfl hl.1 rfl ⟨Nat.le_trans (Nat.le_of_ble_eq_true rfl) hR.1, Nat.le_trans (Nat.le_of_ble_eq_true rfl) hR.2⟩ (Nat.le_of_ble_eq_true rfl) ⟨Nat.zero_le _, Nat.zero_le _⟩ d_DS_hours_15) (fun r_15 f_2 H locs hp hw => ?_)
    obtain ⟨er, ef⟩ := hp
    subst er
    rw [ef] at hw
    refine dn_ifb_ne S.1 S.2.1 23 d_DS_hours_18 (by decide) (fun h_18 => ?_) (fun h_18 => ?_)
    · obtain ⟨ex1, hx1⟩ := ds_in_nI h_8
      have h_19 := (ds_le_in (x := y) (n := 100000) (by decide)).mp h_18
      obtain ⟨ex2, hx2⟩ := ds_in_nI h_19
      have hl : lv_has ls 3 [(0, .ref (a 0)), (1, .int (nI (x.toNatClampNeg))), (2, .int y)] := by have hl2 := hl; rw [ex1] at hl2; exact hl2
      have hl : lv_has ls 3 [(0, .ref (a 0)), (1, .int (nI (x.toNatClampNeg))), (2, .int (nI (y.toNatClampNeg)))] := by have hl2 := hl; rw [ex2] at hl2; exact hl2
      refine lv_aload_n S.1 S.2.1 d_DS_hours_23 rfl (lv_at hl 0 rfl) ?_
      refine dw_getf (fi := 0) (v := .ref (a 1)) S hw i_DS ds_ob0 (by decide) rfl wd_135 rfl d_DS_hours_24 ?_
      refine dw_getN (fi := 13) (v := .ref (a 19)) S hw i_Day ds_ob1 (by decide) rfl hN wd_55 rfl d_DS_hours_27 ?_
      refine lv_iload_n S.1 S.2.1 d_DS_hours_30 rfl (lv_at hl 1 rfl) ?_
      refine lv_iload_n S.1 S.2.1 d_DS_hours_31 rfl (lv_at hl 2 rfl) ?_
      refine dw_iast S.1 S.2.1 hw ds_k19 (by omega) d_DS_hours_32 (fun f_3 H locs ef_3 hw => ?_)
      refine lv_iconst (v := nI 1) S.1 S.2.1 d_DS_hours_33 (by decide) ?_
      exact hret H locs _ ls _ _ hw (by rw [if_pos ⟨h_8, h_19⟩]; exact ⟨rfl, ef_3⟩) d_DS_hours_34
    · refine lv_iconst (v := nI 0) S.1 S.2.1 d_DS_hours_21 (by decide) ?_
      exact hret H locs _ ls _ _ hw (by rw [if_neg (fun q => h_18 ((ds_le_in (by decide)).mpr q.2))]; exact ⟨rfl, rfl⟩) d_DS_hours_22
set_option maxHeartbeats 4000000 in
set_option maxRecDepth 100000 in
theorem c_way (l : Launch) (D : va_G) (g : Nat → ClassId) (a : Nat → Nat) (f : Nat → Nat → Nat) (x : Int32) (y : Int32) (z : Int32)  : ds_I l D g a y_DS_way b_DS_way 4 .boolean 2 42 [.ref (a 0), .int x, .int y, .int z] f (fun r u => if ds_in x 10 ∧ ds_in y 10 ∧ ¬ x = y ∧ ds_in z 10001 then r = nI 1 ∧ u = dw_w (dw_w f (28 + x.toNatClampNeg) y.toNatClampNeg z.toNatClampNeg) (28 + y.toNatClampNeg) x.toNatClampNeg z.toNatClampNeg else r = nI 0 ∧ u = f) := by
  refine dw_ofI (by decide) (fun v u h => by split at h <;> (rw [h.1]; rfl)) (Nat.le_of_ble_eq_true rfl) ?_
  intro p e s m args below meth c ls A Q R H locs hR hA S hN hw hl hret
  have hl : lv_has ls 4 [(0, .ref (a 0)), (1, .int x), (2, .int y), (3, .int z)] := hl
  have S : CallFix p m c b_DS_way 4 s args ds_T R_DS := S
  refine lv_iload_n S.1 S.2.1 d_DS_way_0 rfl (lv_at hl 1 rfl) ?_
  refine dw_afti hw hA (dw_runS (As := [.int x]) (rest := []) S ds_good (c_isPlace l D g a f x H.size) cw_DS_isPlace wd_166 wd_167 dw_blind (dw_pre hw hN) rfl hl.1 rfl ⟨Nat.le_trans (Nat.le_of_ble_eq_true rfl) hR.1, Nat.le_trans (Nat.le_of_ble_eq_true rfl) hR.2⟩ (Nat.le_of_ble_eq_true rfl) ⟨Nat.zero_le _, Nat.zero_le _⟩ d_DS_way_1) (fun r_1 f_1 H locs hp hw => ?_)
  obtain ⟨er, ef⟩ := hp
  subst er
  rw [ef] at hw
  refine dn_ifb_eq S.1 S.2.1 30 d_DS_way_4 (by decide) (fun h_4 => ?_) (fun h_4 => ?_)
  · refine lv_iconst (v := nI 0) S.1 S.2.1 d_DS_way_30 (by decide) ?_
    exact hret H locs _ ls _ _ hw (by rw [if_neg (fun q => h_4 q.1)]; exact ⟨rfl, rfl⟩) d_DS_way_31
  · refine lv_iload_n S.1 S.2.1 d_DS_way_7 rfl (lv_at hl 2 rfl) ?_
    refine dw_afti hw hA (dw_runS (As := [.int y]) (rest := []) S ds_good (c_isPlace l D g a f y H.size) cw_DS_isPlace wd_166 wd_167 dw_blind (dw_pre hw hN) rfl hl.1 rfl ⟨Nat.le_trans (Nat.le_of_ble_eq_true rfl) hR.1, Nat.le_trans (Nat.le_of_ble_eq_true rfl) hR.2⟩ (Nat.le_of_ble_eq_true rfl) ⟨Nat.zero_le _, Nat.zero_le _⟩ d_DS_way_8) (fun r_8 f_2 H locs hp hw => ?_)
    obtain ⟨er, ef⟩ := hp
    subst er
    rw [ef] at hw
    refine dn_ifb_eq S.1 S.2.1 30 d_DS_way_11 (by decide) (fun h_11 => ?_) (fun h_11 => ?_)
    · refine lv_iconst (v := nI 0) S.1 S.2.1 d_DS_way_30 (by decide) ?_
      exact hret H locs _ ls _ _ hw (by rw [if_neg (fun q => h_11 q.2.1)]; exact ⟨rfl, rfl⟩) d_DS_way_31
    · refine lv_iload_n S.1 S.2.1 d_DS_way_14 rfl (lv_at hl 1 rfl) ?_
      refine lv_iload_n S.1 S.2.1 d_DS_way_15 rfl (lv_at hl 2 rfl) ?_
      refine lv_icmp_eq (tgt := 30) S.1 S.2.1 d_DS_way_16 (by decide) (fun h_16 => ?_) (fun h_16 => ?_)
      · refine lv_iconst (v := nI 0) S.1 S.2.1 d_DS_way_30 (by decide) ?_
        exact hret H locs _ ls _ _ hw (by rw [if_neg (fun q => q.2.2.1 h_16)]; exact ⟨rfl, rfl⟩) d_DS_way_31
      · refine lv_iload_n S.1 S.2.1 d_DS_way_19 rfl (lv_at hl 3 rfl) ?_
        refine lv_iconst (v := nI 0) S.1 S.2.1 d_DS_way_20 (by decide) ?_
        refine lv_sipush (v := nI 10000) S.1 S.2.1 d_DS_way_21 (by decide) ?_
        refine dw_afti hw hA (dw_runS (As := [.int z, .int (nI 0), .int (nI 10000)]) (rest := []) S ds_good (c_isWithin l D g a f z (nI 0) (nI 10000) H.size) cw_DS_isWithin wd_20 wd_21 dw_blind (dw_pre hw hN) rfl hl.1 rfl ⟨Nat.le_trans (Nat.le_of_ble_eq_true rfl) hR.1, Nat.le_trans (Nat.le_of_ble_eq_true rfl) hR.2⟩ (Nat.le_of_ble_eq_true rfl) ⟨Nat.zero_le _, Nat.zero_le _⟩ d_DS_way_24) (fun r_24 f_3 H locs hp hw => ?_)
        obtain ⟨er, ef⟩ := hp
        subst er
        rw [ef] at hw
        refine dn_ifb_ne S.1 S.2.1 32 d_DS_way_27 (by decide) (fun h_27 => ?_) (fun h_27 => ?_)
        · obtain ⟨ex1, hx1⟩ := ds_in_nI h_4
          obtain ⟨ex2, hx2⟩ := ds_in_nI h_11
          have h_28 := (ds_le_in (x := z) (n := 10000) (by decide)).mp h_27
          obtain ⟨ex3, hx3⟩ := ds_in_nI h_28
          have hl : lv_has ls 4 [(0, .ref (a 0)), (1, .int (nI (x.toNatClampNeg))), (2, .int y), (3, .int z)] := by have hl2 := hl; rw [ex1] at hl2; exact hl2
          have hl : lv_has ls 4 [(0, .ref (a 0)), (1, .int (nI (x.toNatClampNeg))), (2, .int (nI (y.toNatClampNeg))), (3, .int z)] := by have hl2 := hl; rw [ex2] at hl2; exact hl2
          have hl : lv_has ls 4 [(0, .ref (a 0)), (1, .int (nI (x.toNatClampNeg))), (2, .int (nI (y.toNatClampNeg))), (3, .int (nI (z.toNatClampNeg)))] := by have hl2 := hl; rw [ex3] at hl2; exact hl2
          refine lv_aload_n S.1 S.2.1 d_DS_way_32 rfl (lv_at hl 0 rfl) ?_
          refine dw_getf (fi := 0) (v := .ref (a 1)) S hw i_DS ds_ob0 (by decide) rfl wd_135 rfl d_DS_way_33 ?_
          refine dw_getN (fi := 14) (v := .ref (a 20)) S hw i_Day ds_ob1 (by decide) rfl hN wd_57 rfl d_DS_way_36 ?_
          refine lv_iload_n S.1 S.2.1 d_DS_way_39 rfl (lv_at hl 1 rfl) ?_
          refine dw_aald S.1 S.2.1 hw ds_k20 (by omega) d_DS_way_40 ?_
          refine lv_iload_n S.1 S.2.1 d_DS_way_41 rfl (lv_at hl 2 rfl) ?_
          refine lv_iload_n S.1 S.2.1 d_DS_way_42 rfl (lv_at hl 3 rfl) ?_
          refine dw_iast S.1 S.2.1 hw (ds_k28 (by omega)) (by omega) d_DS_way_43 (fun f_4 H locs ef_4 hw => ?_)
          refine lv_aload_n S.1 S.2.1 d_DS_way_44 rfl (lv_at hl 0 rfl) ?_
          refine dw_getf (fi := 0) (v := .ref (a 1)) S hw i_DS ds_ob0 (by decide) rfl wd_135 rfl d_DS_way_45 ?_
          refine dw_getN (fi := 14) (v := .ref (a 20)) S hw i_Day ds_ob1 (by decide) rfl hN wd_57 rfl d_DS_way_48 ?_
          refine lv_iload_n S.1 S.2.1 d_DS_way_51 rfl (lv_at hl 2 rfl) ?_
          refine dw_aald S.1 S.2.1 hw ds_k20 (by omega) d_DS_way_52 ?_
          refine lv_iload_n S.1 S.2.1 d_DS_way_53 rfl (lv_at hl 1 rfl) ?_
          refine lv_iload_n S.1 S.2.1 d_DS_way_54 rfl (lv_at hl 3 rfl) ?_
          refine dw_iast S.1 S.2.1 hw (ds_k28 (by omega)) (by omega) d_DS_way_55 (fun f_5 H locs ef_5 hw => ?_)
          refine lv_iconst (v := nI 1) S.1 S.2.1 d_DS_way_56 (by decide) ?_
          exact hret H locs _ ls _ _ hw (by rw [if_pos ⟨h_4, h_11, h_16, h_28⟩]; exact ⟨rfl, by rw [ef_5, ef_4]⟩) d_DS_way_57
        · refine lv_iconst (v := nI 0) S.1 S.2.1 d_DS_way_30 (by decide) ?_
          exact hret H locs _ ls _ _ hw (by rw [if_neg (fun q => h_27 ((ds_le_in (by decide)).mpr q.2.2.2))]; exact ⟨rfl, rfl⟩) d_DS_way_31
set_option maxHeartbeats 4000000 in
set_option maxRecDepth 100000 in
theorem c_extra (l : Launch) (D : va_G) (g : Nat → ClassId) (a : Nat → Nat) (f : Nat → Nat → Nat) (x : Int32)  : ds_I l D g a y_DS_extra b_DS_extra 2 .boolean 1 22 [.ref (a 0), .int x] f (fun r u => if ds_in x 100001 then r = nI 1 ∧ u = dw_w f 1 16 x.toNatClampNeg else r = nI 0 ∧ u = f) := by
  refine dw_ofI (by decide) (fun v u h => by split at h <;> (rw [h.1]; rfl)) (Nat.le_of_ble_eq_true rfl) ?_
  intro p e s m args below meth c ls A Q R H locs hR hA S hN hw hl hret
  have hl : lv_has ls 2 [(0, .ref (a 0)), (1, .int x)] := hl
  have S : CallFix p m c b_DS_extra 2 s args ds_T R_DS := S
  refine lv_iload_n S.1 S.2.1 d_DS_extra_0 rfl (lv_at hl 1 rfl) ?_
  refine lv_iconst (v := nI 0) S.1 S.2.1 d_DS_extra_1 (by decide) ?_
  refine lv_ldc (v := nI 100000) S.1 S.2.1 S.2.2.2.1 (S.2.2.2.2 _ wd_201) d_DS_extra_2 ?_
  refine dw_afti hw hA (dw_runS (As := [.int x, .int (nI 0), .int (nI 100000)]) (rest := []) S ds_good (c_isWithin l D g a f x (nI 0) (nI 100000) H.size) cw_DS_isWithin wd_20 wd_21 dw_blind (dw_pre hw hN) rfl hl.1 rfl ⟨Nat.le_trans (Nat.le_of_ble_eq_true rfl) hR.1, Nat.le_trans (Nat.le_of_ble_eq_true rfl) hR.2⟩ (Nat.le_of_ble_eq_true rfl) ⟨Nat.zero_le _, Nat.zero_le _⟩ d_DS_extra_4) (fun r_4 f_1 H locs hp hw => ?_)
  obtain ⟨er, ef⟩ := hp
  subst er
  rw [ef] at hw
  refine dn_ifb_ne S.1 S.2.1 12 d_DS_extra_7 (by decide) (fun h_7 => ?_) (fun h_7 => ?_)
  · have h_8 := (ds_le_in (x := x) (n := 100000) (by decide)).mp h_7
    obtain ⟨ex1, hx1⟩ := ds_in_nI h_8
    have hl : lv_has ls 2 [(0, .ref (a 0)), (1, .int (nI (x.toNatClampNeg)))] := by have hl2 := hl; rw [ex1] at hl2; exact hl2
    refine lv_aload_n S.1 S.2.1 d_DS_extra_12 rfl (lv_at hl 0 rfl) ?_
    refine dw_getf (fi := 0) (v := .ref (a 1)) S hw i_DS ds_ob0 (by decide) rfl wd_135 rfl d_DS_extra_13 ?_
    refine lv_iload_n S.1 S.2.1 d_DS_extra_16 rfl (lv_at hl 1 rfl) ?_
    refine dw_putN (fi := 16) S hw i_Day t_Day t_Day_ok n_Day ds_ob1 (by decide) rfl hN wd_60 rfl (by decide +kernel) (Nat.le_of_ble_eq_true rfl) rfl d_DS_extra_17 (fun f_2 H locs ef_2 hw => ?_)
    refine lv_iconst (v := nI 1) S.1 S.2.1 d_DS_extra_20 (by decide) ?_
    exact hret H locs _ ls _ _ hw (by rw [if_pos h_8]; exact ⟨rfl, ef_2⟩) d_DS_extra_21
  · refine lv_iconst (v := nI 0) S.1 S.2.1 d_DS_extra_10 (by decide) ?_
    exact hret H locs _ ls _ _ hw (by rw [if_neg (fun q => h_7 ((ds_le_in (by decide)).mpr q))]; exact ⟨rfl, rfl⟩) d_DS_extra_11
set_option maxHeartbeats 4000000 in
set_option maxRecDepth 100000 in
theorem c_vehicleOf (l : Launch) (D : va_G) (g : Nat → ClassId) (a : Nat → Nat) (f : Nat → Nat → Nat) (x : Int32) (hn : f 1 1 ≤ 8) : ds_I l D g a y_DS_vehicleOf b_DS_vehicleOf 2 .int 2 43 [.ref (a 0), .int x] f (fun r u => (if ds_in x (f 1 1) then r = nI (f 5 x.toNatClampNeg) else r = (-1)) ∧ u = f) := by
  refine dw_ofI (by decide) (fun _ _ _ => rfl) (Nat.le_of_ble_eq_true rfl) ?_
  intro p e s m args below meth c ls A Q R H locs hR hA S hN hw hl hret
  have hl : lv_has ls 2 [(0, .ref (a 0)), (1, .int x)] := hl
  have S : CallFix p m c b_DS_vehicleOf 2 s args ds_T R_DS := S
  refine lv_aload_n S.1 S.2.1 d_DS_vehicleOf_0 rfl (lv_at hl 0 rfl) ?_
  refine dw_getf (fi := 0) (v := .ref (a 1)) S hw i_DS ds_ob0 (by decide) rfl wd_135 rfl d_DS_vehicleOf_1 ?_
  refine lv_iload_n S.1 S.2.1 d_DS_vehicleOf_4 rfl (lv_at hl 1 rfl) ?_
  refine dw_afti hw hA (dw_runVN (As := [.int x]) (rest := []) (ko := 1) hw S ds_good (c_isStop l D g a f x (hn) H.size) cw_Day_isStop hN wd_181 wd_183 ws_Day_isStop ds_ob1 dw_blind (dw_pre hw hN) rfl hl.1 rfl ⟨Nat.le_trans (Nat.le_of_ble_eq_true rfl) hR.1, Nat.le_trans (Nat.le_of_ble_eq_true rfl) hR.2⟩ (Nat.le_of_ble_eq_true rfl) ⟨Nat.zero_le _, Nat.zero_le _⟩ d_DS_vehicleOf_5) (fun r_5 f_1 H locs hp hw => ?_)
  obtain ⟨er, ef⟩ := hp
  subst er
  rw [ef] at hw
  refine dn_ifb_eq S.1 S.2.1 20 d_DS_vehicleOf_8 (by decide) (fun h_8 => ?_) (fun h_8 => ?_)
  · refine lv_iconst (v := (-1)) S.1 S.2.1 d_DS_vehicleOf_20 (by decide) ?_
    exact hret H locs _ ls _ _ hw (⟨by rw [if_neg h_8], rfl⟩) d_DS_vehicleOf_21
  · obtain ⟨ex1, hx1⟩ := ds_in_nI h_8
    have hl : lv_has ls 2 [(0, .ref (a 0)), (1, .int (nI (x.toNatClampNeg)))] := by have hl2 := hl; rw [ex1] at hl2; exact hl2
    refine lv_aload_n S.1 S.2.1 d_DS_vehicleOf_11 rfl (lv_at hl 0 rfl) ?_
    refine dw_getf (fi := 4) (v := .ref (a 5)) S hw i_DS ds_ob0 (by decide) rfl wd_139 rfl d_DS_vehicleOf_12 ?_
    refine lv_iload_n S.1 S.2.1 d_DS_vehicleOf_15 rfl (lv_at hl 1 rfl) ?_
    refine dw_iald S.1 S.2.1 hw ds_k5 (by omega) d_DS_vehicleOf_16 ?_
    refine lv_goto (tgt := 21) S.1 S.2.1 d_DS_vehicleOf_17 (by decide) ?_
    exact hret H locs _ ls _ _ hw (⟨by rw [if_pos h_8], rfl⟩) d_DS_vehicleOf_21
set_option maxHeartbeats 4000000 in
set_option maxRecDepth 100000 in
theorem c_sent (l : Launch) (D : va_G) (g : Nat → ClassId) (a : Nat → Nat) (f : Nat → Nat → Nat) (x : Int32) (hn : f 1 1 ≤ 8) : ds_I l D g a y_DS_sent b_DS_sent 2 .int 2 43 [.ref (a 0), .int x] f (fun r u => (if ds_in x (f 1 1) then r = nI (f 7 x.toNatClampNeg) else r = (-1)) ∧ u = f) := by
  refine dw_ofI (by decide) (fun _ _ _ => rfl) (Nat.le_of_ble_eq_true rfl) ?_
  intro p e s m args below meth c ls A Q R H locs hR hA S hN hw hl hret
  have hl : lv_has ls 2 [(0, .ref (a 0)), (1, .int x)] := hl
  have S : CallFix p m c b_DS_sent 2 s args ds_T R_DS := S
  refine lv_aload_n S.1 S.2.1 d_DS_sent_0 rfl (lv_at hl 0 rfl) ?_
  refine dw_getf (fi := 0) (v := .ref (a 1)) S hw i_DS ds_ob0 (by decide) rfl wd_135 rfl d_DS_sent_1 ?_
  refine lv_iload_n S.1 S.2.1 d_DS_sent_4 rfl (lv_at hl 1 rfl) ?_
  refine dw_afti hw hA (dw_runVN (As := [.int x]) (rest := []) (ko := 1) hw S ds_good (c_isStop l D g a f x (hn) H.size) cw_Day_isStop hN wd_181 wd_183 ws_Day_isStop ds_ob1 dw_blind (dw_pre hw hN) rfl hl.1 rfl ⟨Nat.le_trans (Nat.le_of_ble_eq_true rfl) hR.1, Nat.le_trans (Nat.le_of_ble_eq_true rfl) hR.2⟩ (Nat.le_of_ble_eq_true rfl) ⟨Nat.zero_le _, Nat.zero_le _⟩ d_DS_sent_5) (fun r_5 f_1 H locs hp hw => ?_)
  obtain ⟨er, ef⟩ := hp
  subst er
  rw [ef] at hw
  refine dn_ifb_eq S.1 S.2.1 20 d_DS_sent_8 (by decide) (fun h_8 => ?_) (fun h_8 => ?_)
  · refine lv_iconst (v := (-1)) S.1 S.2.1 d_DS_sent_20 (by decide) ?_
    exact hret H locs _ ls _ _ hw (⟨by rw [if_neg h_8], rfl⟩) d_DS_sent_21
  · obtain ⟨ex1, hx1⟩ := ds_in_nI h_8
    have hl : lv_has ls 2 [(0, .ref (a 0)), (1, .int (nI (x.toNatClampNeg)))] := by have hl2 := hl; rw [ex1] at hl2; exact hl2
    refine lv_aload_n S.1 S.2.1 d_DS_sent_11 rfl (lv_at hl 0 rfl) ?_
    refine dw_getf (fi := 6) (v := .ref (a 7)) S hw i_DS ds_ob0 (by decide) rfl wd_141 rfl d_DS_sent_12 ?_
    refine lv_iload_n S.1 S.2.1 d_DS_sent_15 rfl (lv_at hl 1 rfl) ?_
    refine dw_iald S.1 S.2.1 hw ds_k7 (by omega) d_DS_sent_16 ?_
    refine lv_goto (tgt := 21) S.1 S.2.1 d_DS_sent_17 (by decide) ?_
    exact hret H locs _ ls _ _ hw (⟨by rw [if_pos h_8], rfl⟩) d_DS_sent_21
set_option maxHeartbeats 4000000 in
set_option maxRecDepth 100000 in
theorem c_place (l : Launch) (D : va_G) (g : Nat → ClassId) (a : Nat → Nat) (f : Nat → Nat → Nat) (x : Int32) (ok : ds_ok f) : ds_I l D g a y_DS_place b_DS_place 2 .int 3 72 [.ref (a 0), .int x] f (fun r u => (if ds_in x (f 1 1) ∧ f 5 x.toNatClampNeg < f 1 0 then r = ds_pos x.toNatClampNeg (ds_rd f (fun z => Nat.testBit (ds_bits (fun s => f 5 s == (f 5 x.toNatClampNeg)) (f 1 1)) z) (f 5 x.toNatClampNeg)) 0 else r = (-1)) ∧ ∃ h : Nat → Nat, u = dw_su f 21 h) := by
  refine dw_ofI (by decide) (fun _ _ _ => rfl) (Nat.le_of_ble_eq_true rfl) ?_
  intro p e s m args below meth c ls A Q R H locs hR hA S hN hw hl hret
  have hl : lv_has ls 2 [(0, .ref (a 0)), (1, .int x)] := hl
  have S : CallFix p m c b_DS_place 2 s args ds_T R_DS := S
  obtain ⟨hV, hn, hex, hst, hve, hwy, hw0, hrw⟩ := id ok
  refine lv_aload_n S.1 S.2.1 d_DS_place_0 rfl (lv_at hl 0 rfl) ?_
  refine dw_getf (fi := 0) (v := .ref (a 1)) S hw i_DS ds_ob0 (by decide) rfl wd_135 rfl d_DS_place_1 ?_
  refine lv_iload_n S.1 S.2.1 d_DS_place_4 rfl (lv_at hl 1 rfl) ?_
  refine dw_afti hw hA (dw_runVN (As := [.int x]) (rest := []) (ko := 1) hw S ds_good (c_isStop l D g a f x (hn) H.size) cw_Day_isStop hN wd_181 wd_183 ws_Day_isStop ds_ob1 dw_blind (dw_pre hw hN) rfl hl.1 rfl ⟨Nat.le_trans (Nat.le_of_ble_eq_true rfl) hR.1, Nat.le_trans (Nat.le_of_ble_eq_true rfl) hR.2⟩ (Nat.le_of_ble_eq_true rfl) ⟨Nat.zero_le _, Nat.zero_le _⟩ d_DS_place_5) (fun r_5 f_1 H locs hp hw => ?_)
  obtain ⟨er, ef⟩ := hp
  subst er
  rw [ef] at hw
  refine dn_ifb_eq S.1 S.2.1 27 d_DS_place_8 (by decide) (fun h_8 => ?_) (fun h_8 => ?_)
  · refine lv_iconst (v := (-1)) S.1 S.2.1 d_DS_place_27 (by decide) ?_
    exact hret H locs _ ls _ _ hw (⟨by rw [if_neg (fun q => h_8 q.1)], f 21, dw_su_self.symm⟩) d_DS_place_28
  · obtain ⟨ex1, hx1⟩ := ds_in_nI h_8
    have s1 := hst _ hx1
    have hl : lv_has ls 2 [(0, .ref (a 0)), (1, .int (nI (x.toNatClampNeg)))] := by have hl2 := hl; rw [ex1] at hl2; exact hl2
    refine lv_aload_n S.1 S.2.1 d_DS_place_11 rfl (lv_at hl 0 rfl) ?_
    refine dw_getf (fi := 0) (v := .ref (a 1)) S hw i_DS ds_ob0 (by decide) rfl wd_135 rfl d_DS_place_12 ?_
    refine lv_aload_n S.1 S.2.1 d_DS_place_15 rfl (lv_at hl 0 rfl) ?_
    refine dw_getf (fi := 4) (v := .ref (a 5)) S hw i_DS ds_ob0 (by decide) rfl wd_139 rfl d_DS_place_16 ?_
    refine lv_iload_n S.1 S.2.1 d_DS_place_19 rfl (lv_at hl 1 rfl) ?_
    refine dw_iald S.1 S.2.1 hw ds_k5 (by omega) d_DS_place_20 ?_
    refine dw_afti hw hA (dw_runVN (As := [.int (nI (f 5 (x.toNatClampNeg)))]) (rest := []) (ko := 1) hw S ds_good (c_isVehicle l D g a f (nI (f 5 (x.toNatClampNeg))) (hV) H.size) cw_Day_isVehicle hN wd_161 wd_163 ws_Day_isVehicle ds_ob1 dw_blind (dw_pre hw hN) rfl hl.1 rfl ⟨Nat.le_trans (Nat.le_of_ble_eq_true rfl) hR.1, Nat.le_trans (Nat.le_of_ble_eq_true rfl) hR.2⟩ (Nat.le_of_ble_eq_true rfl) ⟨Nat.zero_le _, Nat.zero_le _⟩ d_DS_place_21) (fun r_21 f_2 H locs hp hw => ?_)
    obtain ⟨er, ef⟩ := hp
    subst er
    rw [ef] at hw
    refine dn_ifb_ne S.1 S.2.1 29 d_DS_place_24 (by decide) (fun h_24 => ?_) (fun h_24 => ?_)
    · have hx3 : f 5 x.toNatClampNeg < f 1 0 := (ds_nI_in (by omega)).mp h_24
      refine lv_aload_n S.1 S.2.1 d_DS_place_29 rfl (lv_at hl 0 rfl) ?_
      refine dw_getf (fi := 0) (v := .ref (a 1)) S hw i_DS ds_ob0 (by decide) rfl wd_135 rfl d_DS_place_30 ?_
      refine lv_iload_n S.1 S.2.1 d_DS_place_33 rfl (lv_at hl 1 rfl) ?_
      refine lv_aload_n S.1 S.2.1 d_DS_place_34 rfl (lv_at hl 0 rfl) ?_
      refine dw_getf (fi := 4) (v := .ref (a 5)) S hw i_DS ds_ob0 (by decide) rfl wd_139 rfl d_DS_place_35 ?_
      refine lv_iload_n S.1 S.2.1 d_DS_place_38 rfl (lv_at hl 1 rfl) ?_
      refine dw_iald S.1 S.2.1 hw ds_k5 (by omega) d_DS_place_39 ?_
      refine lv_aload_n S.1 S.2.1 d_DS_place_40 rfl (lv_at hl 0 rfl) ?_
      refine lv_aload_n S.1 S.2.1 d_DS_place_41 rfl (lv_at hl 0 rfl) ?_
      refine dw_getf (fi := 4) (v := .ref (a 5)) S hw i_DS ds_ob0 (by decide) rfl wd_139 rfl d_DS_place_42 ?_
      refine lv_iload_n S.1 S.2.1 d_DS_place_45 rfl (lv_at hl 1 rfl) ?_
      refine dw_iald S.1 S.2.1 hw ds_k5 (by omega) d_DS_place_46 ?_
      refine dw_afti hw hA (dw_runV (As := [.int (nI (f 5 (x.toNatClampNeg)))]) (rest := [.int (nI (f 5 (x.toNatClampNeg))), .int (nI (x.toNatClampNeg)), .ref (a 1)]) (ko := 0) hw S ds_good (c_setOf l D g a f (f 5 (x.toNatClampNeg)) (hn) (by omega) (fun x hx => by have := hst x hx; omega) H.size) cw_DS_setOf wd_291 wd_293 ws_DS_setOf ds_ob0 dw_blind (dw_pre hw hN) rfl hl.1 rfl ⟨Nat.le_trans (Nat.le_of_ble_eq_true rfl) hR.1, Nat.le_trans (Nat.le_of_ble_eq_true rfl) hR.2⟩ (Nat.le_of_ble_eq_true rfl) ⟨Nat.zero_le _, Nat.zero_le _⟩ d_DS_place_47) (fun r_47 f_3 H locs hp hw => ?_)
      obtain ⟨er, ef⟩ := hp
      subst er
      rw [ef] at hw
      refine dw_afti hw hA (dw_runVN (As := [.int (nI (x.toNatClampNeg)), .int (nI (f 5 (x.toNatClampNeg))), .int (nI (ds_bits (fun s => f 5 s == (f 5 (x.toNatClampNeg))) (f 1 1)))]) (rest := []) (ko := 1) hw S ds_good (c_placeInRound l D g a f (x.toNatClampNeg) (f 5 (x.toNatClampNeg)) (ds_bits (fun s => f 5 s == (f 5 (x.toNatClampNeg))) (f 1 1)) (ok) (hx3) (Nat.lt_trans (ds_bits_256 _ hn) (by decide)) (by omega) H.size) cw_Day_placeInRound hN wd_295 wd_297 ws_Day_placeInRound ds_ob1 dw_blind (dw_pre hw hN) rfl hl.1 rfl ⟨Nat.le_trans (Nat.le_of_ble_eq_true rfl) hR.1, Nat.le_trans (Nat.le_of_ble_eq_true rfl) hR.2⟩ (Nat.le_of_ble_eq_true rfl) ⟨Nat.zero_le _, Nat.zero_le _⟩ d_DS_place_50) (fun r_50 f_4 H locs hp hw => ?_)
      obtain ⟨er, h, ef_4⟩ := hp
      subst er
      exact hret H locs _ ls _ _ hw (⟨by rw [if_pos ⟨h_8, hx3⟩], h, ef_4⟩) d_DS_place_53
    · refine lv_iconst (v := (-1)) S.1 S.2.1 d_DS_place_27 (by decide) ?_
      exact hret H locs _ ls _ _ hw (⟨by rw [if_neg (fun q => h_24 ((ds_nI_in (by omega)).mpr q.2))], f 21, dw_su_self.symm⟩) d_DS_place_28
set_option maxHeartbeats 4000000 in
set_option maxRecDepth 100000 in
theorem c_moved (l : Launch) (D : va_G) (g : Nat → ClassId) (a : Nat → Nat) (f : Nat → Nat → Nat) (k : Int32) (ok : ds_ok f) : ds_I l D g a y_DS_moved b_DS_moved 2 .int 2 44 [.ref (a 0), .int k] f (fun r u => r = ds_find (fun s => (ds_bits (fun s => f 5 s != f 10 s) (f 1 1)).testBit s) k 8 0 0 ∧ u = f) := by
  refine dw_ofI (by decide) (fun _ _ _ => rfl) (Nat.le_of_ble_eq_true rfl) ?_
  intro p e s m args below meth c ls A Q R H locs hR hA S hN hw hl hret
  have hl : lv_has ls 2 [(0, .ref (a 0)), (1, .int k)] := hl
  have S : CallFix p m c b_DS_moved 2 s args ds_T R_DS := S
  obtain ⟨hV, hn, hex, hst, hve, hwy, hw0, hrw⟩ := id ok
  refine lv_aload_n S.1 S.2.1 d_DS_moved_0 rfl (lv_at hl 0 rfl) ?_
  refine dw_afti hw hA (dw_runV (As := []) (rest := []) (ko := 0) hw S ds_good (c_movedSet l D g a f (hn) (fun x hx => by have := hst x hx; have := hrw.2 x hx; omega) H.size) cw_DS_movedSet wd_273 wd_275 ws_DS_movedSet ds_ob0 dw_blind (dw_pre hw hN) rfl hl.1 rfl ⟨Nat.le_trans (Nat.le_of_ble_eq_true rfl) hR.1, Nat.le_trans (Nat.le_of_ble_eq_true rfl) hR.2⟩ (Nat.le_of_ble_eq_true rfl) ⟨Nat.zero_le _, Nat.zero_le _⟩ d_DS_moved_1) (fun r_1 f_1 H locs hp hw => ?_)
  obtain ⟨er, ef⟩ := hp
  subst er
  rw [ef] at hw
  refine lv_iload_n S.1 S.2.1 d_DS_moved_4 rfl (lv_at hl 1 rfl) ?_
  refine dw_afti hw hA (dw_runS (As := [.int (nI (ds_bits (fun s => f 5 s != f 10 s) (f 1 1))), .int k]) (rest := []) S ds_good (c_stopAt l D g a f (ds_bits (fun s => f 5 s != f 10 s) (f 1 1)) k (Nat.lt_trans (ds_bits_256 _ hn) (by decide)) H.size) cw_DS_stopAt wd_303 wd_304 dw_blind (dw_pre hw hN) rfl hl.1 rfl ⟨Nat.le_trans (Nat.le_of_ble_eq_true rfl) hR.1, Nat.le_trans (Nat.le_of_ble_eq_true rfl) hR.2⟩ (Nat.le_of_ble_eq_true rfl) ⟨Nat.zero_le _, Nat.zero_le _⟩ d_DS_moved_5) (fun r_5 f_2 H locs hp hw => ?_)
  obtain ⟨er, ef⟩ := hp
  subst er
  rw [ef] at hw
  exact hret H locs _ ls _ _ hw (⟨rfl, rfl⟩) d_DS_moved_8
set_option maxHeartbeats 4000000 in
set_option maxRecDepth 100000 in
theorem c_carried (l : Launch) (D : va_G) (g : Nat → ClassId) (a : Nat → Nat) (f : Nat → Nat → Nat) (k : Int32) (ok : ds_ok f) : ds_I l D g a y_DS_carried b_DS_carried 2 .int 2 44 [.ref (a 0), .int k] f (fun r u => r = ds_find (fun s => (ds_bits (fun s => f 5 s == f 1 0) (f 1 1)).testBit s) k 8 0 0 ∧ u = f) := by
  refine dw_ofI (by decide) (fun _ _ _ => rfl) (Nat.le_of_ble_eq_true rfl) ?_
  intro p e s m args below meth c ls A Q R H locs hR hA S hN hw hl hret
  have hl : lv_has ls 2 [(0, .ref (a 0)), (1, .int k)] := hl
  have S : CallFix p m c b_DS_carried 2 s args ds_T R_DS := S
  obtain ⟨hV, hn, hex, hst, hve, hwy, hw0, hrw⟩ := id ok
  refine lv_aload_n S.1 S.2.1 d_DS_carried_0 rfl (lv_at hl 0 rfl) ?_
  refine lv_aload_n S.1 S.2.1 d_DS_carried_1 rfl (lv_at hl 0 rfl) ?_
  refine dw_getf (fi := 0) (v := .ref (a 1)) S hw i_DS ds_ob0 (by decide) rfl wd_135 rfl d_DS_carried_2 ?_
  refine dw_getN (fi := 0) (v := .int (nI (f 1 0))) S hw i_Day ds_ob1 (by decide) rfl hN wd_34 rfl d_DS_carried_5 ?_
  refine dw_afti hw hA (dw_runV (As := [.int (nI (f 1 0))]) (rest := []) (ko := 0) hw S ds_good (c_setOf l D g a f (f 1 0) (hn) (by omega) (fun x hx => by have := hst x hx; omega) H.size) cw_DS_setOf wd_291 wd_293 ws_DS_setOf ds_ob0 dw_blind (dw_pre hw hN) rfl hl.1 rfl ⟨Nat.le_trans (Nat.le_of_ble_eq_true rfl) hR.1, Nat.le_trans (Nat.le_of_ble_eq_true rfl) hR.2⟩ (Nat.le_of_ble_eq_true rfl) ⟨Nat.zero_le _, Nat.zero_le _⟩ d_DS_carried_8) (fun r_8 f_1 H locs hp hw => ?_)
  obtain ⟨er, ef⟩ := hp
  subst er
  rw [ef] at hw
  refine lv_iload_n S.1 S.2.1 d_DS_carried_11 rfl (lv_at hl 1 rfl) ?_
  refine dw_afti hw hA (dw_runS (As := [.int (nI (ds_bits (fun s => f 5 s == (f 1 0)) (f 1 1))), .int k]) (rest := []) S ds_good (c_stopAt l D g a f (ds_bits (fun s => f 5 s == (f 1 0)) (f 1 1)) k (Nat.lt_trans (ds_bits_256 _ hn) (by decide)) H.size) cw_DS_stopAt wd_303 wd_304 dw_blind (dw_pre hw hN) rfl hl.1 rfl ⟨Nat.le_trans (Nat.le_of_ble_eq_true rfl) hR.1, Nat.le_trans (Nat.le_of_ble_eq_true rfl) hR.2⟩ (Nat.le_of_ble_eq_true rfl) ⟨Nat.zero_le _, Nat.zero_le _⟩ d_DS_carried_12) (fun r_12 f_2 H locs hp hw => ?_)
  obtain ⟨er, ef⟩ := hp
  subst er
  rw [ef] at hw
  exact hret H locs _ ls _ _ hw (⟨rfl, rfl⟩) d_DS_carried_15
