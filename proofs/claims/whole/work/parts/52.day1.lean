/-! contracts of Day -/
set_option maxHeartbeats 4000000 in
set_option maxRecDepth 100000 in
theorem c_append (l : Launch) (D : va_G) (g : Nat → ClassId) (a : Nat → Nat) (f : Nat → Nat → Nat) (x : Nat) (v : Nat) (hx : x < 8) (hv : v < 3) (hr : f 15 v < 8) : ds_V l D g a y_Day_append b_Day_append 4 0 0 [.ref (a 1), .int (nI x), .int (nI v)] f (fun u => u = ds_app f x v) := by
  refine dw_ofV (by decide) (Nat.le_of_ble_eq_true rfl) ?_
  intro p e s m args below meth c ls A Q R H locs hR hA S hN hw hl hret
  have hl : lv_has ls 4 [(0, .ref (a 1)), (1, .int (nI x)), (2, .int (nI v))] := hl
  have S : CallFix p m c b_Day_append 4 s args ds_T R_Day := S
  refine lv_aload_n S.1 S.2.1 d_Day_append_0 rfl (lv_at hl 0 rfl) ?_
  refine dw_getf (fi := 9) (v := .ref (a 15)) S hw i_Day ds_ob1 (by decide) rfl wd_49 rfl d_Day_append_1 ?_
  refine lv_iload_n S.1 S.2.1 d_Day_append_4 rfl (lv_at hl 2 rfl) ?_
  refine dw_iald S.1 S.2.1 hw ds_k15 (by omega) d_Day_append_5 ?_
  refine lv_istore_n (lv' := [(3, .int (nI (f 15 v))), (0, .ref (a 1)), (1, .int (nI x)), (2, .int (nI v))]) S.1 S.2.1 d_Day_append_6 rfl hl (by decide) rfl (fun ls hl => ?_)
  refine lv_aload_n S.1 S.2.1 d_Day_append_7 rfl (lv_at hl 1 rfl) ?_
  refine dw_getf (fi := 8) (v := .ref (a 14)) S hw i_Day ds_ob1 (by decide) rfl wd_48 rfl d_Day_append_8 ?_
  refine lv_iload_n S.1 S.2.1 d_Day_append_11 rfl (lv_at hl 3 rfl) ?_
  refine dw_aald S.1 S.2.1 hw ds_k14 (by omega) d_Day_append_12 ?_
  refine lv_iload_n S.1 S.2.1 d_Day_append_13 rfl (lv_at hl 0 rfl) ?_
  refine lv_iload_n S.1 S.2.1 d_Day_append_14 rfl (lv_at hl 2 rfl) ?_
  refine dw_iast S.1 S.2.1 hw (ds_k22 (by omega)) (by omega) d_Day_append_15 (fun f_1 H locs ef_1 hw => ?_)
  refine lv_aload_n S.1 S.2.1 d_Day_append_16 rfl (lv_at hl 1 rfl) ?_
  refine dw_getf (fi := 4) (v := .ref (a 10)) S hw i_Day ds_ob1 (by decide) rfl wd_40 rfl d_Day_append_17 ?_
  refine lv_iload_n S.1 S.2.1 d_Day_append_20 rfl (lv_at hl 2 rfl) ?_
  refine lv_iload_n S.1 S.2.1 d_Day_append_21 rfl (lv_at hl 3 rfl) ?_
  refine dw_iast S.1 S.2.1 hw ds_k10 (by omega) d_Day_append_22 (fun f_2 H locs ef_2 hw => ?_)
  refine lv_aload_n S.1 S.2.1 d_Day_append_23 rfl (lv_at hl 1 rfl) ?_
  refine dw_getf (fi := 5) (v := .ref (a 11)) S hw i_Day ds_ob1 (by decide) rfl wd_43 rfl d_Day_append_24 ?_
  refine lv_iload_n S.1 S.2.1 d_Day_append_27 rfl (lv_at hl 2 rfl) ?_
  refine lv_iload_n S.1 S.2.1 d_Day_append_28 rfl (lv_at hl 0 rfl) ?_
  refine dw_iast S.1 S.2.1 hw ds_k11 (by omega) d_Day_append_29 (fun f_3 H locs ef_3 hw => ?_)
  refine lv_aload_n S.1 S.2.1 d_Day_append_30 rfl (lv_at hl 1 rfl) ?_
  refine dw_getf (fi := 9) (v := .ref (a 15)) S hw i_Day ds_ob1 (by decide) rfl wd_49 rfl d_Day_append_31 ?_
  refine lv_iload_n S.1 S.2.1 d_Day_append_34 rfl (lv_at hl 3 rfl) ?_
  refine lv_iload_n S.1 S.2.1 d_Day_append_35 rfl (lv_at hl 0 rfl) ?_
  refine lv_iconst (v := nI 1) S.1 S.2.1 d_Day_append_36 (by decide) ?_
  refine dn_iadd S.1 S.2.1 d_Day_append_37 ?_
  refine dw_iast S.1 S.2.1 hw ds_k15 (by omega) d_Day_append_38 (fun f_4 H locs ef_4 hw => ?_)
  exact hret H locs _ ls _  hw (by rw [ef_4, ef_3, ef_2, ef_1]; rfl) d_Day_append_39
set_option maxHeartbeats 4000000 in
set_option maxRecDepth 100000 in
theorem c_canDo (l : Launch) (D : va_G) (g : Nat → ClassId) (a : Nat → Nat) (f : Nat → Nat → Nat) (v : Nat) (x : Nat) (ok : ds_ok f) (hv : v < f 1 0) (hx : x < f 1 1) : ds_I l D g a y_Day_canDo b_Day_canDo 3 .boolean 0 0 [.ref (a 1), .int (nI v), .int (nI x)] f (fun r u => r = nI (dn_b (ds_can f v x = true)) ∧ u = f) := by
  refine dw_ofI (by decide) (fun _ _ h => h.1 ▸ dn_nar) (Nat.le_of_ble_eq_true rfl) ?_
  intro p e s m args below meth c ls A Q R H locs hR hA S hN hw hl hret
  have hl : lv_has ls 3 [(0, .ref (a 1)), (1, .int (nI v)), (2, .int (nI x))] := hl
  have S : CallFix p m c b_Day_canDo 3 s args ds_T R_Day := S
  obtain ⟨hV, hn, hex, hst, hve, hwy, hw0, hrw⟩ := id ok
  have s1 := hst x hx
  have r1 := hrw.2 x hx
  have v1 := hve v hv
  have r2 := dr_row_len hrw r1.1
  refine lv_aload_n S.1 S.2.1 d_Day_canDo_0 rfl (lv_at hl 0 rfl) ?_
  refine dw_getf (fi := 12) (v := .ref (a 18)) S hw i_Day ds_ob1 (by decide) rfl wd_52 rfl d_Day_canDo_1 ?_
  refine lv_iload_n S.1 S.2.1 d_Day_canDo_4 rfl (lv_at hl 1 rfl) ?_
  refine dw_iald S.1 S.2.1 hw ds_k18 (by omega) d_Day_canDo_5 ?_
  refine lv_bipush (v := nI 8) S.1 S.2.1 d_Day_canDo_6 (by decide) ?_
  refine dn_icmp_ne S.1 S.2.1 13 (by omega) (by decide) d_Day_canDo_8 (by decide) (fun h_8 => ?_) (fun h_8 => ?_)
  · refine lv_aload_n S.1 S.2.1 d_Day_canDo_13 rfl (lv_at hl 0 rfl) ?_
    refine dw_getf (fi := 4) (v := .ref (a 10)) S hw i_Day ds_ob1 (by decide) rfl wd_40 rfl d_Day_canDo_14 ?_
    refine lv_iload_n S.1 S.2.1 d_Day_canDo_17 rfl (lv_at hl 2 rfl) ?_
    refine dw_iald S.1 S.2.1 hw ds_k10 (by omega) d_Day_canDo_18 ?_
    refine lv_iload_n S.1 S.2.1 d_Day_canDo_19 rfl (lv_at hl 1 rfl) ?_
    refine dn_icmp_ne S.1 S.2.1 42 (by omega) (by omega) d_Day_canDo_20 (by decide) (fun h_20 => ?_) (fun h_20 => ?_)
    · refine lv_iconst (v := nI 0) S.1 S.2.1 d_Day_canDo_42 (by decide) ?_
      exact hret H locs _ ls _ _ hw (⟨by rw [dn_b0 (by simp [ds_can, h_8, h_20])], rfl⟩) d_Day_canDo_43
    · refine lv_aload_n S.1 S.2.1 d_Day_canDo_23 rfl (lv_at hl 0 rfl) ?_
      refine dw_getf (fi := 5) (v := .ref (a 11)) S hw i_Day ds_ob1 (by decide) rfl wd_43 rfl d_Day_canDo_24 ?_
      refine lv_iload_n S.1 S.2.1 d_Day_canDo_27 rfl (lv_at hl 2 rfl) ?_
      refine dw_iald S.1 S.2.1 hw ds_k11 (by omega) d_Day_canDo_28 ?_
      refine lv_aload_n S.1 S.2.1 d_Day_canDo_29 rfl (lv_at hl 0 rfl) ?_
      refine dw_getf (fi := 12) (v := .ref (a 18)) S hw i_Day ds_ob1 (by decide) rfl wd_52 rfl d_Day_canDo_30 ?_
      refine lv_iload_n S.1 S.2.1 d_Day_canDo_33 rfl (lv_at hl 1 rfl) ?_
      refine dw_iald S.1 S.2.1 hw ds_k18 (by omega) d_Day_canDo_34 ?_
      refine dn_icmp_ge S.1 S.2.1 42 (by omega) (by omega) d_Day_canDo_35 (by decide) (fun h_35 => ?_) (fun h_35 => ?_)
      · refine lv_iconst (v := nI 0) S.1 S.2.1 d_Day_canDo_42 (by decide) ?_
        exact hret H locs _ ls _ _ hw (⟨by rw [dn_b0 (by simp [ds_can, h_8, h_20]; omega)], rfl⟩) d_Day_canDo_43
      · refine lv_iconst (v := nI 1) S.1 S.2.1 d_Day_canDo_38 (by decide) ?_
        refine lv_goto (tgt := 43) S.1 S.2.1 d_Day_canDo_39 (by decide) ?_
        exact hret H locs _ ls _ _ hw (⟨by rw [dn_b1 (by simp [ds_can, h_8, h_20, h_35])], rfl⟩) d_Day_canDo_43
  · refine lv_iconst (v := nI 1) S.1 S.2.1 d_Day_canDo_11 (by decide) ?_
    exact hret H locs _ ls _ _ hw (⟨by rw [dn_b1 (by simp [ds_can, h_8])], rfl⟩) d_Day_canDo_12
set_option maxHeartbeats 4000000 in
set_option maxRecDepth 100000 in
theorem c_mayHave (l : Launch) (D : va_G) (g : Nat → ClassId) (a : Nat → Nat) (f : Nat → Nat → Nat) (x : Nat) (v : Nat) (ok : ds_ok f) (hx : x < f 1 1) (hv : v ≤ f 1 0) : ds_I l D g a y_Day_mayHave b_Day_mayHave 3 .boolean 1 22 [.ref (a 1), .int (nI x), .int (nI v)] f (fun r u => r = nI (dn_b (ds_may f x v = true)) ∧ u = f) := by
  refine dw_ofI (by decide) (fun _ _ h => h.1 ▸ dn_nar) (Nat.le_of_ble_eq_true rfl) ?_
  intro p e s m args below meth c ls A Q R H locs hR hA S hN hw hl hret
  have hl : lv_has ls 3 [(0, .ref (a 1)), (1, .int (nI x)), (2, .int (nI v))] := hl
  have S : CallFix p m c b_Day_mayHave 3 s args ds_T R_Day := S
  obtain ⟨hV, hn, hex, hst, hve, hwy, hw0, hrw⟩ := id ok
  have s1 := hst x hx
  have r1 := hrw.2 x hx
  refine lv_aload_n S.1 S.2.1 d_Day_mayHave_0 rfl (lv_at hl 0 rfl) ?_
  refine dw_getf (fi := 6) (v := .ref (a 12)) S hw i_Day ds_ob1 (by decide) rfl wd_44 rfl d_Day_mayHave_1 ?_
  refine lv_iload_n S.1 S.2.1 d_Day_mayHave_4 rfl (lv_at hl 1 rfl) ?_
  refine dw_zald S.1 S.2.1 hw ds_k12 (by omega) d_Day_mayHave_5 ?_
  refine dn_if_eq S.1 S.2.1 21 (by omega) d_Day_mayHave_6 (by decide) (fun h_6 => ?_) (fun h_6 => ?_)
  · refine lv_iload_n S.1 S.2.1 d_Day_mayHave_21 rfl (lv_at hl 2 rfl) ?_
    refine lv_aload_n S.1 S.2.1 d_Day_mayHave_22 rfl (lv_at hl 0 rfl) ?_
    refine dw_getf (fi := 0) (v := .int (nI (f 1 0))) S hw i_Day ds_ob1 (by decide) rfl wd_32 rfl d_Day_mayHave_23 ?_
    refine dn_icmp_eq S.1 S.2.1 47 (by omega) (by omega) d_Day_mayHave_26 (by decide) (fun h_26 => ?_) (fun h_26 => ?_)
    · refine lv_iconst (v := nI 1) S.1 S.2.1 d_Day_mayHave_47 (by decide) ?_
      refine lv_goto (tgt := 52) S.1 S.2.1 d_Day_mayHave_48 (by decide) ?_
      exact hret H locs _ ls _ _ hw (⟨by rw [dn_b1 (by simp_all [ds_may])], rfl⟩) d_Day_mayHave_52
    · refine lv_aload_n S.1 S.2.1 d_Day_mayHave_29 rfl (lv_at hl 0 rfl) ?_
      refine dw_getf (fi := 7) (v := .ref (a 13)) S hw i_Day ds_ob1 (by decide) rfl wd_46 rfl d_Day_mayHave_30 ?_
      refine lv_iload_n S.1 S.2.1 d_Day_mayHave_33 rfl (lv_at hl 1 rfl) ?_
      refine dw_zald S.1 S.2.1 hw ds_k13 (by omega) d_Day_mayHave_34 ?_
      refine dn_if_ne S.1 S.2.1 51 (by omega) d_Day_mayHave_35 (by decide) (fun h_35 => ?_) (fun h_35 => ?_)
      · refine lv_iconst (v := nI 0) S.1 S.2.1 d_Day_mayHave_51 (by decide) ?_
        exact hret H locs _ ls _ _ hw (⟨by rw [dn_b0 (by simp_all [ds_may])], rfl⟩) d_Day_mayHave_52
      · refine lv_aload_n S.1 S.2.1 d_Day_mayHave_38 rfl (lv_at hl 0 rfl) ?_
        refine lv_iload_n S.1 S.2.1 d_Day_mayHave_39 rfl (lv_at hl 2 rfl) ?_
        refine lv_iload_n S.1 S.2.1 d_Day_mayHave_40 rfl (lv_at hl 1 rfl) ?_
        refine dw_afti hw hA (dw_runV (As := [.int (nI v), .int (nI x)]) (rest := []) (ko := 1) hw S ds_good (c_canDo l D g a f v x (ok) (by omega) (hx) H.size) cw_Day_canDo wd_225 wd_227 ws_Day_canDo ds_ob1 dw_blind (dw_pre hw hN) rfl hl.1 rfl ⟨Nat.le_trans (Nat.le_of_ble_eq_true rfl) hR.1, Nat.le_trans (Nat.le_of_ble_eq_true rfl) hR.2⟩ (Nat.le_of_ble_eq_true rfl) ⟨Nat.zero_le _, Nat.zero_le _⟩ d_Day_mayHave_41) (fun r_41 f_1 H locs hp hw => ?_)
        obtain ⟨er, ef⟩ := hp
        subst er
        rw [ef] at hw
        refine dn_ifb_eq S.1 S.2.1 51 d_Day_mayHave_44 (by decide) (fun h_44 => ?_) (fun h_44 => ?_)
        · refine lv_iconst (v := nI 0) S.1 S.2.1 d_Day_mayHave_51 (by decide) ?_
          exact hret H locs _ ls _ _ hw (⟨by rw [dn_b0 (by simp_all [ds_may])], rfl⟩) d_Day_mayHave_52
        · refine lv_iconst (v := nI 1) S.1 S.2.1 d_Day_mayHave_47 (by decide) ?_
          refine lv_goto (tgt := 52) S.1 S.2.1 d_Day_mayHave_48 (by decide) ?_
          exact hret H locs _ ls _ _ hw (⟨by rw [dn_b1 (by simp_all [ds_may])], rfl⟩) d_Day_mayHave_52
  · refine lv_aload_n S.1 S.2.1 d_Day_mayHave_9 rfl (lv_at hl 0 rfl) ?_
    refine dw_getf (fi := 4) (v := .ref (a 10)) S hw i_Day ds_ob1 (by decide) rfl wd_40 rfl d_Day_mayHave_10 ?_
    refine lv_iload_n S.1 S.2.1 d_Day_mayHave_13 rfl (lv_at hl 1 rfl) ?_
    refine dw_iald S.1 S.2.1 hw ds_k10 (by omega) d_Day_mayHave_14 ?_
    refine lv_iload_n S.1 S.2.1 d_Day_mayHave_15 rfl (lv_at hl 2 rfl) ?_
    refine dn_icmp_eq S.1 S.2.1 21 (by omega) (by omega) d_Day_mayHave_16 (by decide) (fun h_16 => ?_) (fun h_16 => ?_)
    · refine lv_iload_n S.1 S.2.1 d_Day_mayHave_21 rfl (lv_at hl 2 rfl) ?_
      refine lv_aload_n S.1 S.2.1 d_Day_mayHave_22 rfl (lv_at hl 0 rfl) ?_
      refine dw_getf (fi := 0) (v := .int (nI (f 1 0))) S hw i_Day ds_ob1 (by decide) rfl wd_32 rfl d_Day_mayHave_23 ?_
      refine dn_icmp_eq S.1 S.2.1 47 (by omega) (by omega) d_Day_mayHave_26 (by decide) (fun h_26 => ?_) (fun h_26 => ?_)
      · refine lv_iconst (v := nI 1) S.1 S.2.1 d_Day_mayHave_47 (by decide) ?_
        refine lv_goto (tgt := 52) S.1 S.2.1 d_Day_mayHave_48 (by decide) ?_
        exact hret H locs _ ls _ _ hw (⟨by rw [dn_b1 (by simp_all [ds_may])], rfl⟩) d_Day_mayHave_52
      · refine lv_aload_n S.1 S.2.1 d_Day_mayHave_29 rfl (lv_at hl 0 rfl) ?_
        refine dw_getf (fi := 7) (v := .ref (a 13)) S hw i_Day ds_ob1 (by decide) rfl wd_46 rfl d_Day_mayHave_30 ?_
        refine lv_iload_n S.1 S.2.1 d_Day_mayHave_33 rfl (lv_at hl 1 rfl) ?_
        refine dw_zald S.1 S.2.1 hw ds_k13 (by omega) d_Day_mayHave_34 ?_
        refine dn_if_ne S.1 S.2.1 51 (by omega) d_Day_mayHave_35 (by decide) (fun h_35 => ?_) (fun h_35 => ?_)
        · refine lv_iconst (v := nI 0) S.1 S.2.1 d_Day_mayHave_51 (by decide) ?_
          exact hret H locs _ ls _ _ hw (⟨by rw [dn_b0 (by simp_all [ds_may])], rfl⟩) d_Day_mayHave_52
        · refine lv_aload_n S.1 S.2.1 d_Day_mayHave_38 rfl (lv_at hl 0 rfl) ?_
          refine lv_iload_n S.1 S.2.1 d_Day_mayHave_39 rfl (lv_at hl 2 rfl) ?_
          refine lv_iload_n S.1 S.2.1 d_Day_mayHave_40 rfl (lv_at hl 1 rfl) ?_
          refine dw_afti hw hA (dw_runV (As := [.int (nI v), .int (nI x)]) (rest := []) (ko := 1) hw S ds_good (c_canDo l D g a f v x (ok) (by omega) (hx) H.size) cw_Day_canDo wd_225 wd_227 ws_Day_canDo ds_ob1 dw_blind (dw_pre hw hN) rfl hl.1 rfl ⟨Nat.le_trans (Nat.le_of_ble_eq_true rfl) hR.1, Nat.le_trans (Nat.le_of_ble_eq_true rfl) hR.2⟩ (Nat.le_of_ble_eq_true rfl) ⟨Nat.zero_le _, Nat.zero_le _⟩ d_Day_mayHave_41) (fun r_41 f_2 H locs hp hw => ?_)
          obtain ⟨er, ef⟩ := hp
          subst er
          rw [ef] at hw
          refine dn_ifb_eq S.1 S.2.1 51 d_Day_mayHave_44 (by decide) (fun h_44 => ?_) (fun h_44 => ?_)
          · refine lv_iconst (v := nI 0) S.1 S.2.1 d_Day_mayHave_51 (by decide) ?_
            exact hret H locs _ ls _ _ hw (⟨by rw [dn_b0 (by simp_all [ds_may])], rfl⟩) d_Day_mayHave_52
          · refine lv_iconst (v := nI 1) S.1 S.2.1 d_Day_mayHave_47 (by decide) ?_
            refine lv_goto (tgt := 52) S.1 S.2.1 d_Day_mayHave_48 (by decide) ?_
            exact hret H locs _ ls _ _ hw (⟨by rw [dn_b1 (by simp_all [ds_may])], rfl⟩) d_Day_mayHave_52
    · refine lv_iconst (v := nI 0) S.1 S.2.1 d_Day_mayHave_19 (by decide) ?_
      exact hret H locs _ ls _ _ hw (⟨by rw [dn_b0 (by simp_all [ds_may])], rfl⟩) d_Day_mayHave_20
set_option maxHeartbeats 4000000 in
set_option maxRecDepth 100000 in
theorem c_tell (l : Launch) (D : va_G) (g : Nat → ClassId) (a : Nat → Nat) (f : Nat → Nat → Nat) (v : Nat) (x : Nat) (y : Nat) (ok : ds_ok f) (hv : v < f 1 0) (h8 : f 1 1 < 8) : ds_I l D g a y_Day_tell b_Day_tell 5 .int 1 23 [.ref (a 1), .int (nI v), .int (nI x), .int (nI y)] f (fun r u => r = nI (f 1 1) ∧ u = ds_tell f v x y) := by
  refine dw_ofI (by decide) (fun _ _ _ => rfl) (Nat.le_of_ble_eq_true rfl) ?_
  intro p e s m args below meth c ls A Q R H locs hR hA S hN hw hl hret
  have hl : lv_has ls 5 [(0, .ref (a 1)), (1, .int (nI v)), (2, .int (nI x)), (3, .int (nI y))] := hl
  have S : CallFix p m c b_Day_tell 5 s args ds_T R_Day := S
  obtain ⟨hV, hn, hex, hst, hve, hwy, hw0, hrw⟩ := id ok
  have r2 := dr_row_len hrw hv
  refine lv_aload_n S.1 S.2.1 d_Day_tell_0 rfl (lv_at hl 0 rfl) ?_
  refine dw_getf (fi := 1) (v := .int (nI (f 1 1))) S hw i_Day ds_ob1 (by decide) rfl wd_37 rfl d_Day_tell_1 ?_
  refine lv_istore (lv' := [(4, .int (nI (f 1 1))), (0, .ref (a 1)), (1, .int (nI v)), (2, .int (nI x)), (3, .int (nI y))]) S.1 S.2.1 d_Day_tell_4 hl (by decide) rfl (fun ls hl => ?_)
  refine lv_aload_n S.1 S.2.1 d_Day_tell_6 rfl (lv_at hl 1 rfl) ?_
  refine dw_getf (fi := 2) (v := .ref (a 8)) S hw i_Day ds_ob1 (by decide) rfl wd_38 rfl d_Day_tell_7 ?_
  refine lv_iload S.1 S.2.1 d_Day_tell_10 (lv_at hl 0 rfl) ?_
  refine lv_iload_n S.1 S.2.1 d_Day_tell_12 rfl (lv_at hl 3 rfl) ?_
  refine dw_iast S.1 S.2.1 hw ds_k8 (by omega) d_Day_tell_13 (fun f_1 H locs ef_1 hw => ?_)
  refine lv_aload_n S.1 S.2.1 d_Day_tell_14 rfl (lv_at hl 1 rfl) ?_
  refine dw_getf (fi := 3) (v := .ref (a 9)) S hw i_Day ds_ob1 (by decide) rfl wd_39 rfl d_Day_tell_15 ?_
  refine lv_iload S.1 S.2.1 d_Day_tell_18 (lv_at hl 0 rfl) ?_
  refine lv_iload_n S.1 S.2.1 d_Day_tell_20 rfl (lv_at hl 4 rfl) ?_
  refine dw_iast S.1 S.2.1 hw ds_k9 (by omega) d_Day_tell_21 (fun f_2 H locs ef_2 hw => ?_)
  refine lv_aload_n S.1 S.2.1 d_Day_tell_22 rfl (lv_at hl 1 rfl) ?_
  refine lv_iload S.1 S.2.1 d_Day_tell_23 (lv_at hl 0 rfl) ?_
  refine lv_iload_n S.1 S.2.1 d_Day_tell_25 rfl (lv_at hl 2 rfl) ?_
  refine dw_aftv hw hA (dw_runV (As := [.int (nI (f 1 1)), .int (nI v)]) (rest := []) (ko := 1) hw S ds_good (c_append l D g a f_2 (f 1 1) v (h8) (by omega) (by rw [ef_2, ef_1, dw_w_ne (by decide), dw_w_ne (by decide)]; omega) H.size) cw_Day_append wd_173 wd_175 ws_Day_append ds_ob1 dw_blind (dw_pre hw hN) rfl hl.1 rfl ⟨Nat.le_trans (Nat.le_of_ble_eq_true rfl) hR.1, Nat.le_trans (Nat.le_of_ble_eq_true rfl) hR.2⟩ (Nat.le_of_ble_eq_true rfl) ⟨Nat.zero_le _, Nat.zero_le _⟩ d_Day_tell_26) (fun f_3 H locs hp hw => ?_)
  have ef_3 := hp
  refine lv_aload_n S.1 S.2.1 d_Day_tell_29 rfl (lv_at hl 1 rfl) ?_
  refine lv_dup S.1 S.2.1 d_Day_tell_30 rfl ?_
  refine dw_getf (fi := 1) (v := .int (nI (f_3 1 1))) S hw i_Day ds_ob1 (by decide) rfl wd_37 rfl d_Day_tell_31 ?_
  refine lv_iconst (v := nI 1) S.1 S.2.1 d_Day_tell_34 (by decide) ?_
  refine dn_iadd S.1 S.2.1 d_Day_tell_35 ?_
  refine dw_putf (fi := 1) S hw i_Day t_Day t_Day_ok n_Day ds_ob1 (by decide) rfl wd_37 rfl (by decide +kernel) (Nat.le_of_ble_eq_true rfl) rfl d_Day_tell_36 (fun f_4 H locs ef_4 hw => ?_)
  refine lv_iload S.1 S.2.1 d_Day_tell_39 (lv_at hl 0 rfl) ?_
  exact hret H locs _ ls _ _ hw (⟨rfl, by rw [ef_4, ef_3]; unfold ds_tell; rw [show f_2 = ds_tell1 f x y by rw [ef_2, ef_1]; rfl, ds_app_ne (k := 1) (by omega), ds_tell1_ne (k := 1) (by omega)]⟩) d_Day_tell_41
set_option maxHeartbeats 4000000 in
set_option maxRecDepth 100000 in
theorem c_overHours (l : Launch) (D : va_G) (g : Nat → ClassId) (a : Nat → Nat) (f : Nat → Nat → Nat) (v : Nat) (t : Nat) (ok : ds_ok f) (hv : v < f 1 0) (ht : t ≤ 200000) : ds_I l D g a y_Day_overHours b_Day_overHours 3 .int 1 24 [.ref (a 1), .int (nI v), .int (nI t)] f (fun r u => r = nI (t - f 19 v) ∧ u = f) := by
  refine dw_ofI (by decide) (fun _ _ _ => rfl) (Nat.le_of_ble_eq_true rfl) ?_
  intro p e s m args below meth c ls A Q R H locs hR hA S hN hw hl hret
  have hl : lv_has ls 3 [(0, .ref (a 1)), (1, .int (nI v)), (2, .int (nI t))] := hl
  have S : CallFix p m c b_Day_overHours 3 s args ds_T R_Day := S
  obtain ⟨hV, hn, hex, hst, hve, hwy, hw0, hrw⟩ := id ok
  have v1 := hve v hv
  refine lv_iconst (v := nI 0) S.1 S.2.1 d_Day_overHours_0 (by decide) ?_
  refine lv_iload_n S.1 S.2.1 d_Day_overHours_1 rfl (lv_at hl 2 rfl) ?_
  refine lv_aload_n S.1 S.2.1 d_Day_overHours_2 rfl (lv_at hl 0 rfl) ?_
  refine dw_getf (fi := 13) (v := .ref (a 19)) S hw i_Day ds_ob1 (by decide) rfl wd_54 rfl d_Day_overHours_3 ?_
  refine lv_iload_n S.1 S.2.1 d_Day_overHours_6 rfl (lv_at hl 1 rfl) ?_
  refine dw_iald S.1 S.2.1 hw ds_k19 (by omega) d_Day_overHours_7 ?_
  refine lv_isub S.1 S.2.1 d_Day_overHours_8 ?_
  refine va_mmax (rest := []) S.1 S.2.1 (S.2.2.1.trans hl.1.symm) S.2.2.2.1 (S.2.2.2.2 _ wd_247) (S.2.2.2.2 _ wd_248) (S.2.2.2.2 _ wd_7) (S.2.2.2.2 _ wd_249) (Nat.le_trans (Nat.le_of_ble_eq_true rfl) hR.1) (Nat.le_trans (Nat.le_of_ble_eq_true rfl) hR.2) (Nat.zero_le _) (Nat.zero_le _) d_Day_overHours_9 ?_
  refine ds_topi (w := nI (t - f 19 v)) (ds_max0 (by omega) (by omega)) ?_
  exact hret H locs _ ls _ _ hw (⟨rfl, rfl⟩) d_Day_overHours_12
set_option maxHeartbeats 4000000 in
set_option maxRecDepth 100000 in
theorem c_addRound (l : Launch) (D : va_G) (g : Nat → ClassId) (a : Nat → Nat) (f : Nat → Nat → Nat) (v : Nat) (t : Nat) (K : Nat) (b : Nat) (ok : ds_ok f) (hv : v < f 1 0) (ht : t < 2 ^ 31) (hK : dw_Ci (ds_tys g) 77 (ds_ce g a) .int K 8) (hK2 : K = 21 ∨ (25 ≤ K ∧ K < 28)) (hb : b + (ds_rd f (fun x => t.testBit x) v).length ≤ 8) : ds_I l D g a y_Day_addRound b_Day_addRound 7 .int 1 21 [.ref (a 1), .int (nI v), .int (nI t), .ref (a K), .int (nI b)] f (fun r u => r = nI (b + (ds_rd f (fun x => t.testBit x) v).length) ∧ ∃ h : Nat → Nat, u = dw_su f K h ∧ (∀ i, i < b → h i = f K i) ∧ ds_is h b (ds_rd f (fun x => t.testBit x) v)) := by
  refine dw_ofI (by decide) (fun _ _ _ => rfl) (Nat.le_of_ble_eq_true rfl) ?_
  intro p e s m args below meth c ls A Q R H locs hR hA S hN hw hl hret
  have hl : lv_has ls 7 [(0, .ref (a 1)), (1, .int (nI v)), (2, .int (nI t)), (3, .ref (a K)), (4, .int (nI b))] := hl
  have S : CallFix p m c b_Day_addRound 7 s args ds_T R_Day := S
  obtain ⟨hV, hn, hex, hst, hve, hwy, hw0, hrw⟩ := id ok
  have r2 := dr_row_len hrw hv
  obtain ⟨h, eh⟩ : ∃ z, z = f K := ⟨_, rfl⟩
  refine lv_iload S.1 S.2.1 d_Day_addRound_0 (lv_at hl 4 rfl) ?_
  refine lv_istore (lv' := [(5, .int (nI b)), (0, .ref (a 1)), (1, .int (nI v)), (2, .int (nI t)), (3, .ref (a K)), (4, .int (nI b))]) S.1 S.2.1 d_Day_addRound_2 hl (by decide) rfl (fun ls hl => ?_)
  refine lv_iconst (v := nI 0) S.1 S.2.1 d_Day_addRound_4 (by decide) ?_
  refine lv_istore (lv' := [(6, .int (nI 0)), (5, .int (nI b)), (0, .ref (a 1)), (1, .int (nI v)), (2, .int (nI t)), (3, .ref (a K)), (4, .int (nI b))]) S.1 S.2.1 d_Day_addRound_5 hl (by decide) rfl (fun ls hl => ?_)
  have loop_7 : ∀ (n : Nat) (z : Nat) (i : Nat) (f2 : Nat → Nat → Nat) (h : Nat → Nat) (hi : i ≤ f 15 v) (ez : z = b + ((ds_row f v i).filter (fun x => t.testBit x)).length) (hh : f2 = dw_su f K h) (hk : ∀ j, j < b → h j = f K j) (hs : ds_is h b ((ds_row f v i).filter (fun x => t.testBit x))) (_ : f 15 v - i < n) (H : Heap) (locs : List Loc), dw_W D classes (ds_tys g) A s.heap (dw_l 77 (ds_ce g a) a f2) s H locs → ∀ (ls : Array Slot), lv_has ls 7 [(0, .ref (a 1)), (1, .int (nI v)), (2, .int (nI t)), (3, .ref (a K)), (4, .int (nI b)), (5, .int (nI z)), (6, .int (nI i))] → W p l e R s m args below meth c H locs 0 0 Q (F0 m 7 ls []) := by
    intro n
    induction n with
    | zero => intro z i f2 h hi ez hh hk hs h9; exact absurd h9 (Nat.not_lt_zero _)
    | succ n ih_7 =>
      intro z i f2 h hi ez hh hk hs hm_7 H locs hw ls hl
      have q15 : f2 15 v = f 15 v := by rw [hh, dw_su_ne (by omega)]
      have q22 : f2 (22 + v) i = f (22 + v) i := by rw [hh, dw_su_ne (by omega)]
      refine lv_iload S.1 S.2.1 d_Day_addRound_7 (lv_at hl 6 rfl) ?_
      refine lv_aload_n S.1 S.2.1 d_Day_addRound_9 rfl (lv_at hl 0 rfl) ?_
      refine dw_getf (fi := 9) (v := .ref (a 15)) S hw i_Day ds_ob1 (by decide) rfl wd_49 rfl d_Day_addRound_10 ?_
      refine lv_iload_n S.1 S.2.1 d_Day_addRound_13 rfl (lv_at hl 1 rfl) ?_
      refine dw_iald S.1 S.2.1 hw ds_k15 (by omega) d_Day_addRound_14 ?_
      refine dn_icmp_ge S.1 S.2.1 56 (by omega) (by omega) d_Day_addRound_15 (by decide) (fun h_15 => ?_) (fun h_15 => ?_)
      · refine lv_iconst (v := nI 0) S.1 S.2.1 d_Day_addRound_56 (by decide) ?_
        refine lv_istore (lv' := [(6, .int (nI 0)), (0, .ref (a 1)), (1, .int (nI v)), (2, .int (nI t)), (3, .ref (a K)), (4, .int (nI b)), (5, .int (nI z))]) S.1 S.2.1 d_Day_addRound_57 hl (by decide) rfl (fun ls hl => ?_)
        have loop_59 : ∀ (n : Nat) (z : Nat) (i : Nat) (f2 : Nat → Nat → Nat) (h : Nat → Nat) (hi : i ≤ f 1 1) (ez : z = b + ((ds_row f v (f 15 v)).filter (fun x => t.testBit x) ++ ds_oth f (fun x => t.testBit x) v i).length) (hh : f2 = dw_su f K h) (hk : ∀ j, j < b → h j = f K j) (hs : ds_is h b ((ds_row f v (f 15 v)).filter (fun x => t.testBit x) ++ ds_oth f (fun x => t.testBit x) v i)) (_ : f 1 1 - i < n) (H : Heap) (locs : List Loc), dw_W D classes (ds_tys g) A s.heap (dw_l 77 (ds_ce g a) a f2) s H locs → ∀ (ls : Array Slot), lv_has ls 7 [(0, .ref (a 1)), (1, .int (nI v)), (2, .int (nI t)), (3, .ref (a K)), (4, .int (nI b)), (5, .int (nI z)), (6, .int (nI i))] → W p l e R s m args below meth c H locs 0 0 Q (F0 m 59 ls []) := by
          intro n
          induction n with
          | zero => intro z i f2 h hi ez hh hk hs h9; exact absurd h9 (Nat.not_lt_zero _)
          | succ n ih_59 =>
            intro z i f2 h hi ez hh hk hs hm_59 H locs hw ls hl
            have q11 : f2 1 1 = f 1 1 := by rw [hh, dw_su_ne (by omega)]
            have q10 : f2 10 i = f 10 i := by rw [hh, dw_su_ne (by omega)]
            refine lv_iload S.1 S.2.1 d_Day_addRound_59 (lv_at hl 6 rfl) ?_
            refine lv_aload_n S.1 S.2.1 d_Day_addRound_61 rfl (lv_at hl 0 rfl) ?_
            refine dw_getf (fi := 1) (v := .int (nI (f2 1 1))) S hw i_Day ds_ob1 (by decide) rfl wd_37 rfl d_Day_addRound_62 ?_
            refine dn_icmp_ge S.1 S.2.1 103 (by omega) (by omega) d_Day_addRound_65 (by decide) (fun h_65 => ?_) (fun h_65 => ?_)
            · refine lv_iload S.1 S.2.1 d_Day_addRound_103 (lv_at hl 5 rfl) ?_
              exact hret H locs _ ls _ _ hw (⟨by rw [ez, show i = f 1 1 by omega]; rfl, h, hh, hk, by rw [show i = f 1 1 by omega] at hs; exact hs⟩) d_Day_addRound_105
            · have r4 := hrw.2 i (by omega)
              refine lv_iload_n S.1 S.2.1 d_Day_addRound_68 rfl (lv_at hl 2 rfl) ?_
              refine lv_iload S.1 S.2.1 d_Day_addRound_69 (lv_at hl 6 rfl) ?_
              refine dw_afti hw hA (dw_runSN (As := [.int (nI t), .int (nI i)]) (rest := []) S ds_good (c_isIn l D g a f2 t i (ht) (by omega) H.size) cw_DS_isIn hN wd_242 wd_219 dw_blind (dw_pre hw hN) rfl hl.1 rfl ⟨Nat.le_trans (Nat.le_of_ble_eq_true rfl) hR.1, Nat.le_trans (Nat.le_of_ble_eq_true rfl) hR.2⟩ (Nat.le_of_ble_eq_true rfl) ⟨Nat.zero_le _, Nat.zero_le _⟩ d_Day_addRound_71) (fun r_71 f_1 H locs hp hw => ?_)
              obtain ⟨er, ef⟩ := hp
              subst er
              rw [ef] at hw
              refine dn_ifb_eq S.1 S.2.1 97 d_Day_addRound_74 (by decide) (fun h_74 => ?_) (fun h_74 => ?_)
              · have hP : ¬ ((fun x => t.testBit x) i && (f 10 i != v)) = true := by simp [h_74]
                refine lv_iinc (v := nI (i + 1)) (lv' := [(6, .int (nI (i + 1))), (0, .ref (a 1)), (1, .int (nI v)), (2, .int (nI t)), (3, .ref (a K)), (4, .int (nI b)), (5, .int (nI z))]) S.1 S.2.1 d_Day_addRound_97 hl (k := 6) rfl (by rw [show Int32.ofInt 1 = nI 1 from rfl, nI_add]) (by decide) rfl (fun ls hl => ?_)
                refine lv_goto (tgt := 59) S.1 S.2.1 d_Day_addRound_100 (by decide) ?_
                exact ih_59 z (i + 1) f2 h (by omega) (by rw [ds_oth_s, if_neg hP, List.append_nil]; exact ez) (hh) (hk) (by rw [ds_oth_s, if_neg hP, List.append_nil]; exact hs) (by omega) H locs hw ls (lv_sub hl [1, 2, 3, 4, 5, 6, 0] rfl)
              · refine lv_aload_n S.1 S.2.1 d_Day_addRound_77 rfl (lv_at hl 0 rfl) ?_
                refine dw_getf (fi := 4) (v := .ref (a 10)) S hw i_Day ds_ob1 (by decide) rfl wd_40 rfl d_Day_addRound_78 ?_
                refine lv_iload S.1 S.2.1 d_Day_addRound_81 (lv_at hl 6 rfl) ?_
                refine dw_iald S.1 S.2.1 hw ds_k10 (by omega) d_Day_addRound_83 ?_
                refine lv_iload_n S.1 S.2.1 d_Day_addRound_84 rfl (lv_at hl 1 rfl) ?_
                refine dn_icmp_eq S.1 S.2.1 97 (by omega) (by omega) d_Day_addRound_85 (by decide) (fun h_85 => ?_) (fun h_85 => ?_)
                · have hP : ¬ ((fun x => t.testBit x) i && (f 10 i != v)) = true := by simp; intro _; omega
                  refine lv_iinc (v := nI (i + 1)) (lv' := [(6, .int (nI (i + 1))), (0, .ref (a 1)), (1, .int (nI v)), (2, .int (nI t)), (3, .ref (a K)), (4, .int (nI b)), (5, .int (nI z))]) S.1 S.2.1 d_Day_addRound_97 hl (k := 6) rfl (by rw [show Int32.ofInt 1 = nI 1 from rfl, nI_add]) (by decide) rfl (fun ls hl => ?_)
                  refine lv_goto (tgt := 59) S.1 S.2.1 d_Day_addRound_100 (by decide) ?_
                  exact ih_59 z (i + 1) f2 h (by omega) (by rw [ds_oth_s, if_neg hP, List.append_nil]; exact ez) (hh) (hk) (by rw [ds_oth_s, if_neg hP, List.append_nil]; exact hs) (by omega) H locs hw ls (lv_sub hl [1, 2, 3, 4, 5, 6, 0] rfl)
                · have hP : ((fun x => t.testBit x) i && (f 10 i != v)) = true := by simp [h_74]; omega
                  have hlt := ds_oth_lt (fun x => t.testBit x) hP (by omega)
                  refine lv_aload_n S.1 S.2.1 d_Day_addRound_88 rfl (lv_at hl 3 rfl) ?_
                  refine lv_iload S.1 S.2.1 d_Day_addRound_89 (lv_at hl 5 rfl) ?_
                  refine lv_iinc (v := nI (z + 1)) (lv' := [(5, .int (nI (z + 1))), (0, .ref (a 1)), (1, .int (nI v)), (2, .int (nI t)), (3, .ref (a K)), (4, .int (nI b)), (6, .int (nI i))]) S.1 S.2.1 d_Day_addRound_91 hl (k := 5) rfl (by rw [show Int32.ofInt 1 = nI 1 from rfl, nI_add]) (by decide) rfl (fun ls hl => ?_)
                  refine lv_iload S.1 S.2.1 d_Day_addRound_94 (lv_at hl 6 rfl) ?_
                  refine dw_iast S.1 S.2.1 hw hK (by omega) d_Day_addRound_96 (fun f_2 H locs ef_2 hw => ?_)
                  refine lv_iinc (v := nI (i + 1)) (lv' := [(6, .int (nI (i + 1))), (5, .int (nI (z + 1))), (0, .ref (a 1)), (1, .int (nI v)), (2, .int (nI t)), (3, .ref (a K)), (4, .int (nI b))]) S.1 S.2.1 d_Day_addRound_97 hl (k := 6) rfl (by rw [show Int32.ofInt 1 = nI 1 from rfl, nI_add]) (by decide) rfl (fun ls hl => ?_)
                  refine lv_goto (tgt := 59) S.1 S.2.1 d_Day_addRound_100 (by decide) ?_
                  exact ih_59 (z + 1) (i + 1) f_2 (dw_up h z i) (by omega) (by rw [ds_oth_s, if_pos hP, ← List.append_assoc, List.length_append, List.length_singleton, ez]; omega) (by rw [ef_2, hh, dw_w_su]) (fun j hj => by rw [dw_up_ne (by omega)]; exact hk j hj) (by rw [ds_oth_s, if_pos hP, ← List.append_assoc, ez]; exact ds_is_push _ hs) (by omega) H locs hw ls (lv_sub hl [2, 3, 4, 5, 6, 1, 0] rfl)
        exact loop_59 _ z 0 f2 h (Nat.zero_le _) (by rw [ez, show i = f 15 v by omega]; simp [ds_oth]) (hh) (hk) (by rw [show ds_oth f (fun x => t.testBit x) v 0 = [] from rfl, List.append_nil, ← show i = f 15 v by omega]; exact hs) (Nat.lt_succ_self _) H locs hw ls (lv_sub hl [1, 2, 3, 4, 5, 6, 0] rfl)
      · have r3 := hrw.1 v i hv (by omega)
        refine lv_iload_n S.1 S.2.1 d_Day_addRound_18 rfl (lv_at hl 2 rfl) ?_
        refine lv_aload_n S.1 S.2.1 d_Day_addRound_19 rfl (lv_at hl 0 rfl) ?_
        refine dw_getf (fi := 8) (v := .ref (a 14)) S hw i_Day ds_ob1 (by decide) rfl wd_48 rfl d_Day_addRound_20 ?_
        refine lv_iload_n S.1 S.2.1 d_Day_addRound_23 rfl (lv_at hl 1 rfl) ?_
        refine dw_aald S.1 S.2.1 hw ds_k14 (by omega) d_Day_addRound_24 ?_
        refine lv_iload S.1 S.2.1 d_Day_addRound_25 (lv_at hl 6 rfl) ?_
        refine dw_iald S.1 S.2.1 hw (ds_k22 (by omega)) (by omega) d_Day_addRound_27 ?_
        refine dw_afti hw hA (dw_runSN (As := [.int (nI t), .int (nI (f2 (22 + v) i))]) (rest := []) S ds_good (c_isIn l D g a f2 t (f2 (22 + v) i) (ht) (by omega) H.size) cw_DS_isIn hN wd_242 wd_219 dw_blind (dw_pre hw hN) rfl hl.1 rfl ⟨Nat.le_trans (Nat.le_of_ble_eq_true rfl) hR.1, Nat.le_trans (Nat.le_of_ble_eq_true rfl) hR.2⟩ (Nat.le_of_ble_eq_true rfl) ⟨Nat.zero_le _, Nat.zero_le _⟩ d_Day_addRound_28) (fun r_28 f_3 H locs hp hw => ?_)
        obtain ⟨er, ef⟩ := hp
        subst er
        rw [ef] at hw
        refine dn_ifb_eq S.1 S.2.1 50 d_Day_addRound_31 (by decide) (fun h_31 => ?_) (fun h_31 => ?_)
        · rw [q22] at h_31
          have hP : ¬ (fun x => t.testBit x) (f (22 + v) i) = true := h_31
          refine lv_iinc (v := nI (i + 1)) (lv' := [(6, .int (nI (i + 1))), (0, .ref (a 1)), (1, .int (nI v)), (2, .int (nI t)), (3, .ref (a K)), (4, .int (nI b)), (5, .int (nI z))]) S.1 S.2.1 d_Day_addRound_50 hl (k := 6) rfl (by rw [show Int32.ofInt 1 = nI 1 from rfl, nI_add]) (by decide) rfl (fun ls hl => ?_)
          refine lv_goto (tgt := 7) S.1 S.2.1 d_Day_addRound_53 (by decide) ?_
          exact ih_7 z (i + 1) f2 h (by omega) (by rw [ds_row_s, if_neg hP, List.append_nil]; exact ez) (hh) (hk) (by rw [ds_row_s, if_neg hP, List.append_nil]; exact hs) (by omega) H locs hw ls (lv_sub hl [1, 2, 3, 4, 5, 6, 0] rfl)
        · rw [q22] at h_31
          have hP : (fun x => t.testBit x) (f (22 + v) i) = true := h_31
          have hlt := ds_row_lt (fun x => t.testBit x) hP (by omega)
          refine lv_aload_n S.1 S.2.1 d_Day_addRound_34 rfl (lv_at hl 3 rfl) ?_
          refine lv_iload S.1 S.2.1 d_Day_addRound_35 (lv_at hl 5 rfl) ?_
          refine lv_iinc (v := nI (z + 1)) (lv' := [(5, .int (nI (z + 1))), (0, .ref (a 1)), (1, .int (nI v)), (2, .int (nI t)), (3, .ref (a K)), (4, .int (nI b)), (6, .int (nI i))]) S.1 S.2.1 d_Day_addRound_37 hl (k := 5) rfl (by rw [show Int32.ofInt 1 = nI 1 from rfl, nI_add]) (by decide) rfl (fun ls hl => ?_)
          refine lv_aload_n S.1 S.2.1 d_Day_addRound_40 rfl (lv_at hl 1 rfl) ?_
          refine dw_getf (fi := 8) (v := .ref (a 14)) S hw i_Day ds_ob1 (by decide) rfl wd_48 rfl d_Day_addRound_41 ?_
          refine lv_iload_n S.1 S.2.1 d_Day_addRound_44 rfl (lv_at hl 2 rfl) ?_
          refine dw_aald S.1 S.2.1 hw ds_k14 (by omega) d_Day_addRound_45 ?_
          refine lv_iload S.1 S.2.1 d_Day_addRound_46 (lv_at hl 6 rfl) ?_
          refine dw_iald S.1 S.2.1 hw (ds_k22 (by omega)) (by omega) d_Day_addRound_48 ?_
          refine dw_iast S.1 S.2.1 hw hK (by omega) d_Day_addRound_49 (fun f_4 H locs ef_4 hw => ?_)
          refine lv_iinc (v := nI (i + 1)) (lv' := [(6, .int (nI (i + 1))), (5, .int (nI (z + 1))), (0, .ref (a 1)), (1, .int (nI v)), (2, .int (nI t)), (3, .ref (a K)), (4, .int (nI b))]) S.1 S.2.1 d_Day_addRound_50 hl (k := 6) rfl (by rw [show Int32.ofInt 1 = nI 1 from rfl, nI_add]) (by decide) rfl (fun ls hl => ?_)
          refine lv_goto (tgt := 7) S.1 S.2.1 d_Day_addRound_53 (by decide) ?_
          exact ih_7 (z + 1) (i + 1) f_4 (dw_up h z (f (22 + v) i)) (by omega) (by rw [ds_row_s, if_pos hP, List.length_append, List.length_singleton, ez]; omega) (by rw [ef_4, hh, dw_w_su, dw_su_ne (by omega)]) (fun j hj => by rw [dw_up_ne (by omega)]; exact hk j hj) (by rw [ds_row_s, if_pos hP, ez]; exact ds_is_push _ hs) (by omega) H locs hw ls (lv_sub hl [2, 3, 4, 5, 6, 1, 0] rfl)
  exact loop_7 _ b 0 f (f K) (Nat.zero_le _) (rfl) (dw_su_self.symm) (fun _ _ => rfl) (ds_is_nil _ _) (Nat.lt_succ_self _) H locs hw ls (lv_sub hl [2, 3, 4, 5, 6, 1, 0] rfl)
