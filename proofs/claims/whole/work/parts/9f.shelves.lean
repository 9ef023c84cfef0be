/-! Search(), Shelf() -/
set_option maxHeartbeats 8000000 in
set_option maxRecDepth 100000 in
theorem c_Se_init (l : Launch) (D : va_G) (g : Nat → ClassId) (h0 d V : Nat) : dx_C l D g y_Se_init b_Se_init 2 1 2 512 12 [.ref h0, .ref d] [(h0, .inr (2, [.null, .null, .null]))] (fun w => ∃ b : Nat → Nat, b 1 = d ∧ b 2 = h0 ∧ w = [dx_e g b V 2, dx_e g b V 52, dx_e g b V 53]) := by
  refine dx_of (by decide) (Nat.le_of_ble_eq_true rfl) ?_
  intro p e s m args below meth c ls A Q R H locs hR hA S hN hO hnm hw hl hret
  have hin : meth.name = "<init>" := hnm
  have hl : lv_has ls 2 [(0, .ref h0), (1, .ref d)] := hl
  have S : CallFix p m c b_Se_init 2 s args ds_T R_Se := S
  refine lv_aload_n S.1 S.2.1 d_Se_init_0 rfl (lv_at hl 0 rfl) ?_
  refine dx_obj S hl.1 wd_103 d_Se_init_1 ⟨Nat.le_trans (Nat.le_of_ble_eq_true rfl) hR.1, Nat.le_trans (Nat.le_of_ble_eq_true rfl) hR.2.1⟩ ?_
  refine lv_aload_n S.1 S.2.1 d_Se_init_4 rfl (lv_at hl 0 rfl) ?_
  refine lv_sipush (v := nI 256) S.1 S.2.1 d_Se_init_5 (by decide) ?_
  refine dx_newa (atype := .long) 2 256 (256, .inr (.inl (fun _ => 0))) S hw hA wd_114 rfl rfl (fun _ _ => Iff.rfl) (fun _ => rfl) (by decide) (Nat.le_of_ble_eq_true rfl) (Nat.le_trans (Nat.le_of_ble_eq_true rfl) hR.2.2.1) (Nat.le_trans (Nat.le_of_ble_eq_true rfl) hR.2.2.2) d_Se_init_8 (fun q_8 H hw => ?_)
  have hw : dw_W D classes (ds_tys g) A s.heap [(h0, .inr (2, [.null, .null, .null])), (q_8, .inl (g 2, 256, .inr (.inl (fun _ => 0))))] s H locs := hw
  refine W.widen (k := 1) (n := 256) (Nat.le_of_ble_eq_true rfl) (Nat.le_of_ble_eq_true rfl) ?_
  refine dx_putF (ty := .array .long) 0 1 t_Se S hw i_Se t_Se_ok n_Se hin rfl rfl (by decide) wd_105 rfl rfl rfl rfl rfl rfl (Nat.le_of_ble_eq_true rfl) d_Se_init_10 (fun H locs hw => ?_)
  have hw : dw_W D classes (ds_tys g) A s.heap [(h0, .inr (2, [.null, .ref q_8, .null])), (q_8, .inl (g 2, 256, .inr (.inl (fun _ => 0))))] s H locs := hw
  refine lv_aload_n S.1 S.2.1 d_Se_init_13 rfl (lv_at hl 0 rfl) ?_
  refine lv_sipush (v := nI 256) S.1 S.2.1 d_Se_init_14 (by decide) ?_
  refine dx_newa (atype := .long) 2 256 (256, .inr (.inl (fun _ => 0))) S hw hA wd_114 rfl rfl (fun _ _ => Iff.rfl) (fun _ => rfl) (by decide) (Nat.le_of_ble_eq_true rfl) (Nat.le_trans (Nat.le_of_ble_eq_true rfl) hR.2.2.1) (Nat.le_trans (Nat.le_of_ble_eq_true rfl) hR.2.2.2) d_Se_init_17 (fun q_17 H hw => ?_)
  have hw : dw_W D classes (ds_tys g) A s.heap [(h0, .inr (2, [.null, .ref q_8, .null])), (q_8, .inl (g 2, 256, .inr (.inl (fun _ => 0)))), (q_17, .inl (g 2, 256, .inr (.inl (fun _ => 0))))] s H locs := hw
  refine W.widen (k := 2) (n := 512) (Nat.le_of_ble_eq_true rfl) (Nat.le_of_ble_eq_true rfl) ?_
  refine dx_putF (ty := .array .long) 0 2 t_Se S hw i_Se t_Se_ok n_Se hin rfl rfl (by decide) wd_106 rfl rfl rfl rfl rfl rfl (Nat.le_of_ble_eq_true rfl) d_Se_init_19 (fun H locs hw => ?_)
  have hw : dw_W D classes (ds_tys g) A s.heap [(h0, .inr (2, [.null, .ref q_8, .ref q_17])), (q_8, .inl (g 2, 256, .inr (.inl (fun _ => 0)))), (q_17, .inl (g 2, 256, .inr (.inl (fun _ => 0))))] s H locs := hw
  refine lv_aload_n S.1 S.2.1 d_Se_init_22 rfl (lv_at hl 0 rfl) ?_
  refine lv_aload_n S.1 S.2.1 d_Se_init_23 rfl (lv_at hl 1 rfl) ?_
  refine dx_putF (ty := .object "DaySwaps$Day") 0 0 t_Se S hw i_Se t_Se_ok n_Se hin rfl rfl (by decide) wd_104 rfl rfl rfl rfl rfl rfl (Nat.le_of_ble_eq_true rfl) d_Se_init_24 (fun H locs hw => ?_)
  have hw : dw_W D classes (ds_tys g) A s.heap [(h0, .inr (2, [.ref d, .ref q_8, .ref q_17])), (q_8, .inl (g 2, 256, .inr (.inl (fun _ => 0)))), (q_17, .inl (g 2, 256, .inr (.inl (fun _ => 0))))] s H locs := hw
  have hw : dw_W D classes (ds_tys g) A s.heap [(h0, .inr (2, [.ref d, .ref q_8, .ref q_17])), (q_8, .inl (g 2, 256, .inr (.inl (fun _ => 0)))), (q_17, .inl (g 2, 256, .inr (.inl (fun _ => 0))))] s H locs := dx_perm hw [0, 1, 2] rfl rfl
  obtain ⟨b, eb⟩ : ∃ b : Nat → Nat, b = fun k => ([0, d, h0, 0, 0, 0, 0, 0, 0, 0, 0, 0, 0, 0, 0, 0, 0, 0, 0, 0, 0, 0, 0, 0, 0, 0, 0, 0, 0, 0, 0, 0, 0, 0, 0, 0, 0, 0, 0, 0, 0, 0, 0, 0, 0, 0, 0, 0, 0, 0, 0, 0, q_8, q_17] : List Nat).getD k 0 := ⟨_, rfl⟩
  have hw : dw_W D classes (ds_tys g) A s.heap [dx_e g b V 2, dx_e g b V 52, dx_e g b V 53] s H locs := by
    subst eb
    exact dx_cong hw (dx_c rfl (dx_rf rfl) (dx_c rfl (dx_el (fun j _ => dx_zl rfl)) (dx_c rfl (dx_el (fun j _ => dx_zl rfl)) (dx_n))))
  exact hret H locs _ ls _ hw ⟨b, (by subst eb; rfl), (by subst eb; rfl), rfl⟩ d_Se_init_27
set_option maxHeartbeats 8000000 in
set_option maxRecDepth 100000 in
theorem c_Sh_init6 (l : Launch) (D : va_G) (g : Nat → ClassId) (h0 V : Nat) : dx_C l D g y_Sh_init b_Sh_init 2 1 8 60 12 [.ref h0, .int (nI 6)] [(h0, .inr (3, [.null, .null, .int (nI 0)]))] (fun w => ∃ b : Nat → Nat, b 3 = h0 ∧ w = [dx_e g b V 3, dx_e g b V 38, dx_e g b V 39, dx_e g b V 40, dx_e g b V 41, dx_e g b V 42, dx_e g b V 43, dx_e g b V 44, dx_e g b V 45]) := by
  refine dx_of (by decide) (Nat.le_of_ble_eq_true rfl) ?_
  intro p e s m args below meth c ls A Q R H locs hR hA S hN hO hnm hw hl hret
  have hin : meth.name = "<init>" := hnm
  have hl : lv_has ls 2 [(0, .ref h0), (1, .int (nI 6))] := hl
  have S : CallFix p m c b_Sh_init 2 s args ds_T R_Sh := S
  refine lv_aload_n S.1 S.2.1 d_Sh_init_0 rfl (lv_at hl 0 rfl) ?_
  refine dx_obj S hl.1 wd_120 d_Sh_init_1 ⟨Nat.le_trans (Nat.le_of_ble_eq_true rfl) hR.1, Nat.le_trans (Nat.le_of_ble_eq_true rfl) hR.2.1⟩ ?_
  refine lv_aload_n S.1 S.2.1 d_Sh_init_4 rfl (lv_at hl 0 rfl) ?_
  refine lv_iload_n S.1 S.2.1 d_Sh_init_5 rfl (lv_at hl 1 rfl) ?_
  refine lv_bipush (v := nI 8) S.1 S.2.1 d_Sh_init_6 (by decide) ?_
  refine dx_mna 0 3 6 8 S hw hA wd_121 hO wd_96 rfl rfl (by decide) (by decide) (Nat.le_trans (Nat.le_of_ble_eq_true rfl) hR.2.2.1) (Nat.le_trans (Nat.le_of_ble_eq_true rfl) hR.2.2.2) d_Sh_init_8 (fun q_8 r_8 H hw => ?_)
  have hw : dw_W D classes (ds_tys g) A s.heap [(h0, .inr (3, [.null, .null, .int (nI 0)])), (q_8, .inl (g 3, 6, .inr (.inr (.inr (.inr (dn_ro 6 r_8)))))), (r_8 0, .inl (g 0, 8, .inl (fun _ => 0))), (r_8 1, .inl (g 0, 8, .inl (fun _ => 0))), (r_8 2, .inl (g 0, 8, .inl (fun _ => 0))), (r_8 3, .inl (g 0, 8, .inl (fun _ => 0))), (r_8 4, .inl (g 0, 8, .inl (fun _ => 0))), (r_8 5, .inl (g 0, 8, .inl (fun _ => 0)))] s H locs := hw
  refine W.widen (k := 7) (n := 54) (Nat.le_of_ble_eq_true rfl) (Nat.le_of_ble_eq_true rfl) ?_
  refine dx_putF (ty := .array (.array .int)) 0 0 t_Sh S hw i_Sh t_Sh_ok n_Sh hin rfl rfl (by decide) wd_122 rfl rfl rfl rfl rfl rfl (Nat.le_of_ble_eq_true rfl) d_Sh_init_12 (fun H locs hw => ?_)
  have hw : dw_W D classes (ds_tys g) A s.heap [(h0, .inr (3, [.ref q_8, .null, .int (nI 0)])), (q_8, .inl (g 3, 6, .inr (.inr (.inr (.inr (dn_ro 6 r_8)))))), (r_8 0, .inl (g 0, 8, .inl (fun _ => 0))), (r_8 1, .inl (g 0, 8, .inl (fun _ => 0))), (r_8 2, .inl (g 0, 8, .inl (fun _ => 0))), (r_8 3, .inl (g 0, 8, .inl (fun _ => 0))), (r_8 4, .inl (g 0, 8, .inl (fun _ => 0))), (r_8 5, .inl (g 0, 8, .inl (fun _ => 0)))] s H locs := hw
  refine lv_aload_n S.1 S.2.1 d_Sh_init_15 rfl (lv_at hl 0 rfl) ?_
  refine lv_iload_n S.1 S.2.1 d_Sh_init_16 rfl (lv_at hl 1 rfl) ?_
  refine dx_newa (atype := .int) 0 6 (6, .inl (fun _ => 0)) S hw hA wd_96 rfl rfl (fun _ _ => Iff.rfl) (fun _ => rfl) (by decide) (Nat.le_of_ble_eq_true rfl) (Nat.le_trans (Nat.le_of_ble_eq_true rfl) hR.2.2.1) (Nat.le_trans (Nat.le_of_ble_eq_true rfl) hR.2.2.2) d_Sh_init_17 (fun q_17 H hw => ?_)
  have hw : dw_W D classes (ds_tys g) A s.heap [(h0, .inr (3, [.ref q_8, .null, .int (nI 0)])), (q_8, .inl (g 3, 6, .inr (.inr (.inr (.inr (dn_ro 6 r_8)))))), (r_8 0, .inl (g 0, 8, .inl (fun _ => 0))), (r_8 1, .inl (g 0, 8, .inl (fun _ => 0))), (r_8 2, .inl (g 0, 8, .inl (fun _ => 0))), (r_8 3, .inl (g 0, 8, .inl (fun _ => 0))), (r_8 4, .inl (g 0, 8, .inl (fun _ => 0))), (r_8 5, .inl (g 0, 8, .inl (fun _ => 0))), (q_17, .inl (g 0, 6, .inl (fun _ => 0)))] s H locs := hw
  refine W.widen (k := 8) (n := 60) (Nat.le_of_ble_eq_true rfl) (Nat.le_of_ble_eq_true rfl) ?_
  refine dx_putF (ty := .array .int) 0 1 t_Sh S hw i_Sh t_Sh_ok n_Sh hin rfl rfl (by decide) wd_124 rfl rfl rfl rfl rfl rfl (Nat.le_of_ble_eq_true rfl) d_Sh_init_19 (fun H locs hw => ?_)
  have hw : dw_W D classes (ds_tys g) A s.heap [(h0, .inr (3, [.ref q_8, .ref q_17, .int (nI 0)])), (q_8, .inl (g 3, 6, .inr (.inr (.inr (.inr (dn_ro 6 r_8)))))), (r_8 0, .inl (g 0, 8, .inl (fun _ => 0))), (r_8 1, .inl (g 0, 8, .inl (fun _ => 0))), (r_8 2, .inl (g 0, 8, .inl (fun _ => 0))), (r_8 3, .inl (g 0, 8, .inl (fun _ => 0))), (r_8 4, .inl (g 0, 8, .inl (fun _ => 0))), (r_8 5, .inl (g 0, 8, .inl (fun _ => 0))), (q_17, .inl (g 0, 6, .inl (fun _ => 0)))] s H locs := hw
  have hw : dw_W D classes (ds_tys g) A s.heap [(h0, .inr (3, [.ref q_8, .ref q_17, .int (nI 0)])), (q_8, .inl (g 3, 6, .inr (.inr (.inr (.inr (dn_ro 6 r_8)))))), (r_8 0, .inl (g 0, 8, .inl (fun _ => 0))), (r_8 1, .inl (g 0, 8, .inl (fun _ => 0))), (r_8 2, .inl (g 0, 8, .inl (fun _ => 0))), (r_8 3, .inl (g 0, 8, .inl (fun _ => 0))), (r_8 4, .inl (g 0, 8, .inl (fun _ => 0))), (r_8 5, .inl (g 0, 8, .inl (fun _ => 0))), (q_17, .inl (g 0, 6, .inl (fun _ => 0)))] s H locs := dx_perm hw [0, 1, 2, 3, 4, 5, 6, 7, 8] rfl rfl
  obtain ⟨b, eb⟩ : ∃ b : Nat → Nat, b = fun k => ([0, 0, 0, h0, 0, 0, 0, 0, 0, 0, 0, 0, 0, 0, 0, 0, 0, 0, 0, 0, 0, 0, 0, 0, 0, 0, 0, 0, 0, 0, 0, 0, 0, 0, 0, 0, 0, 0, q_8, r_8 0, r_8 1, r_8 2, r_8 3, r_8 4, r_8 5, q_17] : List Nat).getD k 0 := ⟨_, rfl⟩
  have hw : dw_W D classes (ds_tys g) A s.heap [dx_e g b V 3, dx_e g b V 38, dx_e g b V 39, dx_e g b V 40, dx_e g b V 41, dx_e g b V 42, dx_e g b V 43, dx_e g b V 44, dx_e g b V 45] s H locs := by
    subst eb
    exact dx_cong hw (dx_c rfl (dx_rf rfl) (dx_c rfl (dx_er (fun j hj => by rcases (show j = 0 ∨ j = 1 ∨ j = 2 ∨ j = 3 ∨ j = 4 ∨ j = 5 by omega) with rfl | rfl | rfl | rfl | rfl | rfl <;> rfl)) (dx_c rfl (dx_ei (fun j _ => dx_z rfl)) (dx_c rfl (dx_ei (fun j _ => dx_z rfl)) (dx_c rfl (dx_ei (fun j _ => dx_z rfl)) (dx_c rfl (dx_ei (fun j _ => dx_z rfl)) (dx_c rfl (dx_ei (fun j _ => dx_z rfl)) (dx_c rfl (dx_ei (fun j _ => dx_z rfl)) (dx_c rfl (dx_ei (fun j _ => dx_z rfl)) (dx_n))))))))))
  exact hret H locs _ ls _ hw ⟨b, (by subst eb; rfl), rfl⟩ d_Sh_init_22
set_option maxHeartbeats 8000000 in
set_option maxRecDepth 100000 in
theorem c_Sh_init4 (l : Launch) (D : va_G) (g : Nat → ClassId) (h0 V : Nat) : dx_C l D g y_Sh_init b_Sh_init 2 1 6 40 12 [.ref h0, .int (nI 4)] [(h0, .inr (3, [.null, .null, .int (nI 0)]))] (fun w => ∃ b : Nat → Nat, b 4 = h0 ∧ w = [dx_e g b V 4, dx_e g b V 46, dx_e g b V 47, dx_e g b V 48, dx_e g b V 49, dx_e g b V 50, dx_e g b V 51]) := by
  refine dx_of (by decide) (Nat.le_of_ble_eq_true rfl) ?_
  intro p e s m args below meth c ls A Q R H locs hR hA S hN hO hnm hw hl hret
  have hin : meth.name = "<init>" := hnm
  have hl : lv_has ls 2 [(0, .ref h0), (1, .int (nI 4))] := hl
  have S : CallFix p m c b_Sh_init 2 s args ds_T R_Sh := S
  refine lv_aload_n S.1 S.2.1 d_Sh_init_0 rfl (lv_at hl 0 rfl) ?_
  refine dx_obj S hl.1 wd_120 d_Sh_init_1 ⟨Nat.le_trans (Nat.le_of_ble_eq_true rfl) hR.1, Nat.le_trans (Nat.le_of_ble_eq_true rfl) hR.2.1⟩ ?_
  refine lv_aload_n S.1 S.2.1 d_Sh_init_4 rfl (lv_at hl 0 rfl) ?_
  refine lv_iload_n S.1 S.2.1 d_Sh_init_5 rfl (lv_at hl 1 rfl) ?_
  refine lv_bipush (v := nI 8) S.1 S.2.1 d_Sh_init_6 (by decide) ?_
  refine dx_mna 0 3 4 8 S hw hA wd_121 hO wd_96 rfl rfl (by decide) (by decide) (Nat.le_trans (Nat.le_of_ble_eq_true rfl) hR.2.2.1) (Nat.le_trans (Nat.le_of_ble_eq_true rfl) hR.2.2.2) d_Sh_init_8 (fun q_8 r_8 H hw => ?_)
  have hw : dw_W D classes (ds_tys g) A s.heap [(h0, .inr (3, [.null, .null, .int (nI 0)])), (q_8, .inl (g 3, 4, .inr (.inr (.inr (.inr (dn_ro 4 r_8)))))), (r_8 0, .inl (g 0, 8, .inl (fun _ => 0))), (r_8 1, .inl (g 0, 8, .inl (fun _ => 0))), (r_8 2, .inl (g 0, 8, .inl (fun _ => 0))), (r_8 3, .inl (g 0, 8, .inl (fun _ => 0)))] s H locs := hw
  refine W.widen (k := 5) (n := 36) (Nat.le_of_ble_eq_true rfl) (Nat.le_of_ble_eq_true rfl) ?_
  refine dx_putF (ty := .array (.array .int)) 0 0 t_Sh S hw i_Sh t_Sh_ok n_Sh hin rfl rfl (by decide) wd_122 rfl rfl rfl rfl rfl rfl (Nat.le_of_ble_eq_true rfl) d_Sh_init_12 (fun H locs hw => ?_)
  have hw : dw_W D classes (ds_tys g) A s.heap [(h0, .inr (3, [.ref q_8, .null, .int (nI 0)])), (q_8, .inl (g 3, 4, .inr (.inr (.inr (.inr (dn_ro 4 r_8)))))), (r_8 0, .inl (g 0, 8, .inl (fun _ => 0))), (r_8 1, .inl (g 0, 8, .inl (fun _ => 0))), (r_8 2, .inl (g 0, 8, .inl (fun _ => 0))), (r_8 3, .inl (g 0, 8, .inl (fun _ => 0)))] s H locs := hw
  refine lv_aload_n S.1 S.2.1 d_Sh_init_15 rfl (lv_at hl 0 rfl) ?_
  refine lv_iload_n S.1 S.2.1 d_Sh_init_16 rfl (lv_at hl 1 rfl) ?_
  refine dx_newa (atype := .int) 0 4 (4, .inl (fun _ => 0)) S hw hA wd_96 rfl rfl (fun _ _ => Iff.rfl) (fun _ => rfl) (by decide) (Nat.le_of_ble_eq_true rfl) (Nat.le_trans (Nat.le_of_ble_eq_true rfl) hR.2.2.1) (Nat.le_trans (Nat.le_of_ble_eq_true rfl) hR.2.2.2) d_Sh_init_17 (fun q_17 H hw => ?_)
  have hw : dw_W D classes (ds_tys g) A s.heap [(h0, .inr (3, [.ref q_8, .null, .int (nI 0)])), (q_8, .inl (g 3, 4, .inr (.inr (.inr (.inr (dn_ro 4 r_8)))))), (r_8 0, .inl (g 0, 8, .inl (fun _ => 0))), (r_8 1, .inl (g 0, 8, .inl (fun _ => 0))), (r_8 2, .inl (g 0, 8, .inl (fun _ => 0))), (r_8 3, .inl (g 0, 8, .inl (fun _ => 0))), (q_17, .inl (g 0, 4, .inl (fun _ => 0)))] s H locs := hw
  refine W.widen (k := 6) (n := 40) (Nat.le_of_ble_eq_true rfl) (Nat.le_of_ble_eq_true rfl) ?_
  refine dx_putF (ty := .array .int) 0 1 t_Sh S hw i_Sh t_Sh_ok n_Sh hin rfl rfl (by decide) wd_124 rfl rfl rfl rfl rfl rfl (Nat.le_of_ble_eq_true rfl) d_Sh_init_19 (fun H locs hw => ?_)
  have hw : dw_W D classes (ds_tys g) A s.heap [(h0, .inr (3, [.ref q_8, .ref q_17, .int (nI 0)])), (q_8, .inl (g 3, 4, .inr (.inr (.inr (.inr (dn_ro 4 r_8)))))), (r_8 0, .inl (g 0, 8, .inl (fun _ => 0))), (r_8 1, .inl (g 0, 8, .inl (fun _ => 0))), (r_8 2, .inl (g 0, 8, .inl (fun _ => 0))), (r_8 3, .inl (g 0, 8, .inl (fun _ => 0))), (q_17, .inl (g 0, 4, .inl (fun _ => 0)))] s H locs := hw
  have hw : dw_W D classes (ds_tys g) A s.heap [(h0, .inr (3, [.ref q_8, .ref q_17, .int (nI 0)])), (q_8, .inl (g 3, 4, .inr (.inr (.inr (.inr (dn_ro 4 r_8)))))), (r_8 0, .inl (g 0, 8, .inl (fun _ => 0))), (r_8 1, .inl (g 0, 8, .inl (fun _ => 0))), (r_8 2, .inl (g 0, 8, .inl (fun _ => 0))), (r_8 3, .inl (g 0, 8, .inl (fun _ => 0))), (q_17, .inl (g 0, 4, .inl (fun _ => 0)))] s H locs := dx_perm hw [0, 1, 2, 3, 4, 5, 6] rfl rfl
  obtain ⟨b, eb⟩ : ∃ b : Nat → Nat, b = fun k => ([0, 0, 0, 0, h0, 0, 0, 0, 0, 0, 0, 0, 0, 0, 0, 0, 0, 0, 0, 0, 0, 0, 0, 0, 0, 0, 0, 0, 0, 0, 0, 0, 0, 0, 0, 0, 0, 0, 0, 0, 0, 0, 0, 0, 0, 0, q_8, r_8 0, r_8 1, r_8 2, r_8 3, q_17] : List Nat).getD k 0 := ⟨_, rfl⟩
  have hw : dw_W D classes (ds_tys g) A s.heap [dx_e g b V 4, dx_e g b V 46, dx_e g b V 47, dx_e g b V 48, dx_e g b V 49, dx_e g b V 50, dx_e g b V 51] s H locs := by
    subst eb
    exact dx_cong hw (dx_c rfl (dx_rf rfl) (dx_c rfl (dx_er (fun j hj => by rcases (show j = 0 ∨ j = 1 ∨ j = 2 ∨ j = 3 by omega) with rfl | rfl | rfl | rfl <;> rfl)) (dx_c rfl (dx_ei (fun j _ => dx_z rfl)) (dx_c rfl (dx_ei (fun j _ => dx_z rfl)) (dx_c rfl (dx_ei (fun j _ => dx_z rfl)) (dx_c rfl (dx_ei (fun j _ => dx_z rfl)) (dx_c rfl (dx_ei (fun j _ => dx_z rfl)) (dx_n))))))))
  exact hret H locs _ ls _ hw ⟨b, (by subst eb; rfl), rfl⟩ d_Sh_init_22
