/-! contracts of the shelves -/
set_option maxHeartbeats 4000000 in
set_option maxRecDepth 100000 in
theorem c_putLatest3 (l : Launch) (D : va_G) (g : Nat → ClassId) (a : Nat → Nat) (f : Nat → Nat → Nat) (y : Nat) (hc : f 3 2 ≤ 6) : ds_V l D g a y_Sh_putLatest b_Sh_putLatest 4 1 40 [.ref (a 3), .ref (a 5), .int (nI y)] f (fun u => ∃ kk dd : Nat, ((f 3 2 < 6 ∧ kk = f 3 2 ∧ dd = 0) ∨ (f 3 2 = 6 ∧ kk = 5 ∧ dd = 1)) ∧ u 3 2 = kk + 1 ∧ (∀ j, j < kk → (∀ t, t < 8 → u (39 + j) t = f (39 + (j + dd)) t) ∧ u 45 j = f 45 (j + dd)) ∧ (∀ t, t < 8 → u (39 + kk) t = f 5 t) ∧ u 45 kk = y ∧ (∀ k, k ≠ 3 → k ≠ 45 → ¬ (39 ≤ k ∧ k < 45) → u k = f k)) := by
  refine dw_ofV (by decide) (Nat.le_of_ble_eq_true rfl) ?_
  intro p e s m args below meth c ls A Q R H locs hR hA S hN hw hl hret
  have hl : lv_has ls 4 [(0, .ref (a 3)), (1, .ref (a 5)), (2, .int (nI y))] := hl
  have S : CallFix p m c b_Sh_putLatest 4 s args ds_T R_Sh := S
  refine lv_aload_n S.1 S.2.1 d_Sh_putLatest_0 rfl (lv_at hl 0 rfl) ?_
  refine dw_getf (fi := 2) (v := .int (nI (f 3 2))) S hw i_Sh ds_ob3 (by decide) rfl wd_126 rfl d_Sh_putLatest_1 ?_
  refine lv_aload_n S.1 S.2.1 d_Sh_putLatest_4 rfl (lv_at hl 0 rfl) ?_
  refine dw_getf (fi := 0) (v := .ref (a 38)) S hw i_Sh ds_ob3 (by decide) rfl wd_122 rfl d_Sh_putLatest_5 ?_
  refine dw_alen S.1 S.2.1 hw ds_k38 d_Sh_putLatest_8 ?_
  refine dn_icmp_ne S.1 S.2.1 73 (by omega) (by decide) d_Sh_putLatest_9 (by decide) (fun h_9 => ?_) (fun h_9 => ?_)
  · have cut_73 : ∀ (f2 : Nat → Nat → Nat) (kk : Nat) (dd : Nat) (hkd : (f 3 2 < 6 ∧ kk = f 3 2 ∧ dd = 0) ∨ (f 3 2 = 6 ∧ kk = 5 ∧ dd = 1)) (hsz : f2 3 2 = kk) (hsh : (∀ j, j < kk → (∀ t, t < 8 → f2 (39 + j) t = f (39 + (j + dd)) t) ∧ f2 45 j = f 45 (j + dd))) (hoth : (∀ k, k ≠ 3 → k ≠ 45 → ¬ (39 ≤ k ∧ k < 45) → f2 k = f k)) (H : Heap) (locs : List Loc), dw_W D classes (ds_tys g) A s.heap (dw_l 77 (ds_ce g a) a f2) s H locs → ∀ (ls : Array Slot), lv_has ls 4 [(0, .ref (a 3)), (1, .ref (a 5)), (2, .int (nI y))] → W p l e R s m args below meth c H locs 0 0 Q (F0 m 73 ls []) := by
      intro f2 kk dd hkd hsz hsh hoth H locs hw ls hl
      refine lv_aload_n S.1 S.2.1 d_Sh_putLatest_73 rfl (lv_at hl 1 rfl) ?_
      refine lv_iconst (v := nI 0) S.1 S.2.1 d_Sh_putLatest_74 (by decide) ?_
      refine lv_aload_n S.1 S.2.1 d_Sh_putLatest_75 rfl (lv_at hl 0 rfl) ?_
      refine dw_getf (fi := 0) (v := .ref (a 38)) S hw i_Sh ds_ob3 (by decide) rfl wd_122 rfl d_Sh_putLatest_76 ?_
      refine lv_aload_n S.1 S.2.1 d_Sh_putLatest_79 rfl (lv_at hl 0 rfl) ?_
      refine dw_getf (fi := 2) (v := .int (nI (f2 3 2))) S hw i_Sh ds_ob3 (by decide) rfl wd_126 rfl d_Sh_putLatest_80 ?_
      refine dw_aald S.1 S.2.1 hw ds_k38 (by omega) d_Sh_putLatest_83 ?_
      refine lv_iconst (v := nI 0) S.1 S.2.1 d_Sh_putLatest_84 (by decide) ?_
      refine lv_bipush (v := nI 8) S.1 S.2.1 d_Sh_putLatest_85 (by decide) ?_
      refine dw_copy (rest := []) S hw wd_267 wd_269 wd_268 wd_8 ds_k5 (ds_k39 (by omega)) (by decide) (by decide) hl.1 (Nat.le_trans (Nat.le_of_ble_eq_true rfl) hR.1) (Nat.le_trans (Nat.le_of_ble_eq_true rfl) hR.2) d_Sh_putLatest_87 (fun f_1 H locs ef_1 hw => ?_)
      have eC := ef_1
      rw [hsz] at eC
      have qs : f_1 3 2 = kk := by rw [eC, dw_su_ne (by omega)]; exact hsz
      refine lv_aload_n S.1 S.2.1 d_Sh_putLatest_90 rfl (lv_at hl 0 rfl) ?_
      refine dw_getf (fi := 1) (v := .ref (a 45)) S hw i_Sh ds_ob3 (by decide) rfl wd_124 rfl d_Sh_putLatest_91 ?_
      refine lv_aload_n S.1 S.2.1 d_Sh_putLatest_94 rfl (lv_at hl 0 rfl) ?_
      refine dw_getf (fi := 2) (v := .int (nI (f_1 3 2))) S hw i_Sh ds_ob3 (by decide) rfl wd_126 rfl d_Sh_putLatest_95 ?_
      refine lv_iload_n S.1 S.2.1 d_Sh_putLatest_98 rfl (lv_at hl 2 rfl) ?_
      refine dw_iast S.1 S.2.1 hw ds_k45 (by omega) d_Sh_putLatest_99 (fun f_2 H locs ef_2 hw => ?_)
      have eD := ef_2
      rw [qs] at eD
      have qs2 : f_2 3 2 = kk := by rw [eD, dw_w_ne (by decide)]; exact qs
      refine lv_aload_n S.1 S.2.1 d_Sh_putLatest_100 rfl (lv_at hl 0 rfl) ?_
      refine lv_dup S.1 S.2.1 d_Sh_putLatest_101 rfl ?_
      refine dw_getf (fi := 2) (v := .int (nI (f_2 3 2))) S hw i_Sh ds_ob3 (by decide) rfl wd_126 rfl d_Sh_putLatest_102 ?_
      refine lv_iconst (v := nI 1) S.1 S.2.1 d_Sh_putLatest_105 (by decide) ?_
      refine dn_iadd S.1 S.2.1 d_Sh_putLatest_106 ?_
      refine dw_putf (fi := 2) S hw i_Sh t_Sh t_Sh_ok n_Sh ds_ob3 (by decide) rfl wd_126 rfl (by decide +kernel) (Nat.le_of_ble_eq_true rfl) rfl d_Sh_putLatest_107 (fun f_3 H locs ef_3 hw => ?_)
      exact hret H locs _ ls _  hw (by
    have eE := ef_3
    rw [qs2] at eE
    refine ⟨kk, dd, hkd, by rw [eE, dw_w_eq, dw_up_eq], fun j hj => ⟨fun t ht => ?_, ?_⟩, fun t ht => ?_, ?_, fun k k1 k2 k3 => ?_⟩
    · rw [eE, dw_w_ne (by omega), eD, dw_w_ne (by omega), eC, dw_su_ne (by omega)]; exact (hsh j hj).1 t ht
    · rw [eE, dw_w_ne (by decide), eD, dw_w_eq, dw_up_ne (by omega), eC, dw_su_ne (by omega)]; exact (hsh j hj).2
    · rw [eE, dw_w_ne (by omega), eD, dw_w_ne (by omega), eC, dw_su_eq]; simp only [ht, if_true]; rw [hoth 5 (by decide) (by decide) (by decide)]
    · rw [eE, dw_w_ne (by decide), eD, dw_w_eq, dw_up_eq]
    · rw [eE, dw_w_ne k1, eD, dw_w_ne k2, eC, dw_su_ne (by omega)]; exact hoth k k1 k2 k3) d_Sh_putLatest_110
    exact cut_73 f (f 3 2) 0 (Or.inl ⟨by omega, rfl, rfl⟩) (rfl) (fun _ _ => ⟨fun _ _ => rfl, rfl⟩) (fun _ _ _ _ => rfl) H locs hw ls (lv_sub hl [0, 1, 2] rfl)
  · refine lv_iconst (v := nI 1) S.1 S.2.1 d_Sh_putLatest_12 (by decide) ?_
    refine lv_istore_n (lv' := [(3, .int (nI 1)), (0, .ref (a 3)), (1, .ref (a 5)), (2, .int (nI y))]) S.1 S.2.1 d_Sh_putLatest_13 rfl hl (by decide) rfl (fun ls hl => ?_)
    have loop_14 : ∀ (n : Nat) (i : Nat) (f2 : Nat → Nat → Nat) (hi : 1 ≤ i ∧ i ≤ 6) (h1 : ∀ j, j + 1 < i → (∀ t, t < 8 → f2 (39 + j) t = f (39 + (j + 1)) t) ∧ f2 45 j = f 45 (j + 1)) (h2 : ∀ j, i ≤ j + 1 → j < 6 → f2 (39 + j) = f (39 + j) ∧ f2 45 j = f 45 j) (h3 : (∀ k, k ≠ 3 → k ≠ 45 → ¬ (39 ≤ k ∧ k < 45) → f2 k = f k)) (h4 : f2 3 2 = 6) (_ : 6 - i < n) (H : Heap) (locs : List Loc), dw_W D classes (ds_tys g) A s.heap (dw_l 77 (ds_ce g a) a f2) s H locs → ∀ (ls : Array Slot), lv_has ls 4 [(0, .ref (a 3)), (1, .ref (a 5)), (2, .int (nI y)), (3, .int (nI i))] → W p l e R s m args below meth c H locs 0 0 Q (F0 m 14 ls []) := by
      intro n
      induction n with
      | zero => intro i f2 hi h1 h2 h3 h4 h9; exact absurd h9 (Nat.not_lt_zero _)
      | succ n ih_14 =>
        intro i f2 hi h1 h2 h3 h4 hm_14 H locs hw ls hl
        refine lv_iload_n S.1 S.2.1 d_Sh_putLatest_14 rfl (lv_at hl 3 rfl) ?_
        refine lv_aload_n S.1 S.2.1 d_Sh_putLatest_15 rfl (lv_at hl 0 rfl) ?_
        refine dw_getf (fi := 2) (v := .int (nI (f2 3 2))) S hw i_Sh ds_ob3 (by decide) rfl wd_126 rfl d_Sh_putLatest_16 ?_
        refine dn_icmp_ge S.1 S.2.1 63 (by omega) (by omega) d_Sh_putLatest_19 (by decide) (fun h_19 => ?_) (fun h_19 => ?_)
        · refine lv_aload_n S.1 S.2.1 d_Sh_putLatest_63 rfl (lv_at hl 0 rfl) ?_
          refine lv_dup S.1 S.2.1 d_Sh_putLatest_64 rfl ?_
          refine dw_getf (fi := 2) (v := .int (nI (f2 3 2))) S hw i_Sh ds_ob3 (by decide) rfl wd_126 rfl d_Sh_putLatest_65 ?_
          refine lv_iconst (v := nI 1) S.1 S.2.1 d_Sh_putLatest_68 (by decide) ?_
          refine dn_isub S.1 S.2.1 (by omega) d_Sh_putLatest_69 ?_
          refine dw_putf (fi := 2) S hw i_Sh t_Sh t_Sh_ok n_Sh ds_ob3 (by decide) rfl wd_126 rfl (by decide +kernel) (Nat.le_of_ble_eq_true rfl) rfl d_Sh_putLatest_70 (fun f_4 H locs ef_4 hw => ?_)
          have cut_73 : ∀ (f2 : Nat → Nat → Nat) (kk : Nat) (dd : Nat) (hkd : (f 3 2 < 6 ∧ kk = f 3 2 ∧ dd = 0) ∨ (f 3 2 = 6 ∧ kk = 5 ∧ dd = 1)) (hsz : f2 3 2 = kk) (hsh : (∀ j, j < kk → (∀ t, t < 8 → f2 (39 + j) t = f (39 + (j + dd)) t) ∧ f2 45 j = f 45 (j + dd))) (hoth : (∀ k, k ≠ 3 → k ≠ 45 → ¬ (39 ≤ k ∧ k < 45) → f2 k = f k)) (H : Heap) (locs : List Loc), dw_W D classes (ds_tys g) A s.heap (dw_l 77 (ds_ce g a) a f2) s H locs → ∀ (ls : Array Slot), lv_has ls 4 [(0, .ref (a 3)), (1, .ref (a 5)), (2, .int (nI y))] → W p l e R s m args below meth c H locs 0 0 Q (F0 m 73 ls []) := by
            intro f2 kk dd hkd hsz hsh hoth H locs hw ls hl
            refine lv_aload_n S.1 S.2.1 d_Sh_putLatest_73 rfl (lv_at hl 1 rfl) ?_
            refine lv_iconst (v := nI 0) S.1 S.2.1 d_Sh_putLatest_74 (by decide) ?_
            refine lv_aload_n S.1 S.2.1 d_Sh_putLatest_75 rfl (lv_at hl 0 rfl) ?_
            refine dw_getf (fi := 0) (v := .ref (a 38)) S hw i_Sh ds_ob3 (by decide) rfl wd_122 rfl d_Sh_putLatest_76 ?_
            refine lv_aload_n S.1 S.2.1 d_Sh_putLatest_79 rfl (lv_at hl 0 rfl) ?_
            refine dw_getf (fi := 2) (v := .int (nI (f2 3 2))) S hw i_Sh ds_ob3 (by decide) rfl wd_126 rfl d_Sh_putLatest_80 ?_
            refine dw_aald S.1 S.2.1 hw ds_k38 (by omega) d_Sh_putLatest_83 ?_
            refine lv_iconst (v := nI 0) S.1 S.2.1 d_Sh_putLatest_84 (by decide) ?_
            refine lv_bipush (v := nI 8) S.1 S.2.1 d_Sh_putLatest_85 (by decide) ?_
            refine dw_copy (rest := []) S hw wd_267 wd_269 wd_268 wd_8 ds_k5 (ds_k39 (by omega)) (by decide) (by decide) hl.1 (Nat.le_trans (Nat.le_of_ble_eq_true rfl) hR.1) (Nat.le_trans (Nat.le_of_ble_eq_true rfl) hR.2) d_Sh_putLatest_87 (fun f_5 H locs ef_5 hw => ?_)
            have eC := ef_5
            rw [hsz] at eC
            have qs : f_5 3 2 = kk := by rw [eC, dw_su_ne (by omega)]; exact hsz
            refine lv_aload_n S.1 S.2.1 d_Sh_putLatest_90 rfl (lv_at hl 0 rfl) ?_
            refine dw_getf (fi := 1) (v := .ref (a 45)) S hw i_Sh ds_ob3 (by decide) rfl wd_124 rfl d_Sh_putLatest_91 ?_
            refine lv_aload_n S.1 S.2.1 d_Sh_putLatest_94 rfl (lv_at hl 0 rfl) ?_
            refine dw_getf (fi := 2) (v := .int (nI (f_5 3 2))) S hw i_Sh ds_ob3 (by decide) rfl wd_126 rfl d_Sh_putLatest_95 ?_
            refine lv_iload_n S.1 S.2.1 d_Sh_putLatest_98 rfl (lv_at hl 2 rfl) ?_
            refine dw_iast S.1 S.2.1 hw ds_k45 (by omega) d_Sh_putLatest_99 (fun f_6 H locs ef_6 hw => ?_)
            have eD := ef_6
            rw [qs] at eD
            have qs2 : f_6 3 2 = kk := by rw [eD, dw_w_ne (by decide)]; exact qs
            refine lv_aload_n S.1 S.2.1 d_Sh_putLatest_100 rfl (lv_at hl 0 rfl) ?_
            refine lv_dup S.1 S.2.1 d_Sh_putLatest_101 rfl ?_
            refine dw_getf (fi := 2) (v := .int (nI (f_6 3 2))) S hw i_Sh ds_ob3 (by decide) rfl wd_126 rfl d_Sh_putLatest_102 ?_
            refine lv_iconst (v := nI 1) S.1 S.2.1 d_Sh_putLatest_105 (by decide) ?_
            refine dn_iadd S.1 S.2.1 d_Sh_putLatest_106 ?_
            refine dw_putf (fi := 2) S hw i_Sh t_Sh t_Sh_ok n_Sh ds_ob3 (by decide) rfl wd_126 rfl (by decide +kernel) (Nat.le_of_ble_eq_true rfl) rfl d_Sh_putLatest_107 (fun f_7 H locs ef_7 hw => ?_)
            exact hret H locs _ ls _  hw (by
    have eE := ef_7
    rw [qs2] at eE
    refine ⟨kk, dd, hkd, by rw [eE, dw_w_eq, dw_up_eq], fun j hj => ⟨fun t ht => ?_, ?_⟩, fun t ht => ?_, ?_, fun k k1 k2 k3 => ?_⟩
    · rw [eE, dw_w_ne (by omega), eD, dw_w_ne (by omega), eC, dw_su_ne (by omega)]; exact (hsh j hj).1 t ht
    · rw [eE, dw_w_ne (by decide), eD, dw_w_eq, dw_up_ne (by omega), eC, dw_su_ne (by omega)]; exact (hsh j hj).2
    · rw [eE, dw_w_ne (by omega), eD, dw_w_ne (by omega), eC, dw_su_eq]; simp only [ht, if_true]; rw [hoth 5 (by decide) (by decide) (by decide)]
    · rw [eE, dw_w_ne (by decide), eD, dw_w_eq, dw_up_eq]
    · rw [eE, dw_w_ne k1, eD, dw_w_ne k2, eC, dw_su_ne (by omega)]; exact hoth k k1 k2 k3) d_Sh_putLatest_110
          exact cut_73 f_4 5 1 (Or.inr ⟨h_9, rfl, rfl⟩) (by rw [ef_4, dw_w_eq, dw_up_eq, h4]) (fun j hj => by have e3 := h1 j (by omega); exact ⟨fun t ht => by rw [ef_4, dw_w_ne (by omega)]; exact e3.1 t ht, by rw [ef_4, dw_w_ne (by decide)]; exact e3.2⟩) (fun k k1 k2 k3 => by rw [ef_4, dw_w_ne k1]; exact h3 k k1 k2 k3) H locs hw ls (lv_sub hl [0, 1, 2] rfl)
        · rw [h4] at h_19
          refine lv_aload_n S.1 S.2.1 d_Sh_putLatest_22 rfl (lv_at hl 0 rfl) ?_
          refine dw_getf (fi := 0) (v := .ref (a 38)) S hw i_Sh ds_ob3 (by decide) rfl wd_122 rfl d_Sh_putLatest_23 ?_
          refine lv_iload_n S.1 S.2.1 d_Sh_putLatest_26 rfl (lv_at hl 3 rfl) ?_
          refine dw_aald S.1 S.2.1 hw ds_k38 (by omega) d_Sh_putLatest_27 ?_
          refine lv_iconst (v := nI 0) S.1 S.2.1 d_Sh_putLatest_28 (by decide) ?_
          refine lv_aload_n S.1 S.2.1 d_Sh_putLatest_29 rfl (lv_at hl 0 rfl) ?_
          refine dw_getf (fi := 0) (v := .ref (a 38)) S hw i_Sh ds_ob3 (by decide) rfl wd_122 rfl d_Sh_putLatest_30 ?_
          refine lv_iload_n S.1 S.2.1 d_Sh_putLatest_33 rfl (lv_at hl 3 rfl) ?_
          refine lv_iconst (v := nI 1) S.1 S.2.1 d_Sh_putLatest_34 (by decide) ?_
          refine dn_isub S.1 S.2.1 (by omega) d_Sh_putLatest_35 ?_
          refine dw_aald S.1 S.2.1 hw ds_k38 (by omega) d_Sh_putLatest_36 ?_
          refine lv_iconst (v := nI 0) S.1 S.2.1 d_Sh_putLatest_37 (by decide) ?_
          refine lv_bipush (v := nI 8) S.1 S.2.1 d_Sh_putLatest_38 (by decide) ?_
          refine dw_copy (rest := []) S hw wd_267 wd_269 wd_268 wd_8 (ds_k39 (by omega)) (ds_k39 (by omega)) (by decide) (by decide) hl.1 (Nat.le_trans (Nat.le_of_ble_eq_true rfl) hR.1) (Nat.le_trans (Nat.le_of_ble_eq_true rfl) hR.2) d_Sh_putLatest_40 (fun f_8 H locs ef_8 hw => ?_)
          have eA := ef_8
          refine lv_aload_n S.1 S.2.1 d_Sh_putLatest_43 rfl (lv_at hl 0 rfl) ?_
          refine dw_getf (fi := 1) (v := .ref (a 45)) S hw i_Sh ds_ob3 (by decide) rfl wd_124 rfl d_Sh_putLatest_44 ?_
          refine lv_iload_n S.1 S.2.1 d_Sh_putLatest_47 rfl (lv_at hl 3 rfl) ?_
          refine lv_iconst (v := nI 1) S.1 S.2.1 d_Sh_putLatest_48 (by decide) ?_
          refine dn_isub S.1 S.2.1 (by omega) d_Sh_putLatest_49 ?_
          refine lv_aload_n S.1 S.2.1 d_Sh_putLatest_50 rfl (lv_at hl 0 rfl) ?_
          refine dw_getf (fi := 1) (v := .ref (a 45)) S hw i_Sh ds_ob3 (by decide) rfl wd_124 rfl d_Sh_putLatest_51 ?_
          refine lv_iload_n S.1 S.2.1 d_Sh_putLatest_54 rfl (lv_at hl 3 rfl) ?_
          refine dw_iald S.1 S.2.1 hw ds_k45 (by omega) d_Sh_putLatest_55 ?_
          refine dw_iast S.1 S.2.1 hw ds_k45 (by omega) d_Sh_putLatest_56 (fun f_9 H locs ef_9 hw => ?_)
          have eB := ef_9
          refine lv_iinc (v := nI (i + 1)) (lv' := [(3, .int (nI (i + 1))), (0, .ref (a 3)), (1, .ref (a 5)), (2, .int (nI y))]) S.1 S.2.1 d_Sh_putLatest_57 hl (k := 3) rfl (by rw [show Int32.ofInt 1 = nI 1 from rfl, nI_add]) (by decide) rfl (fun ls hl => ?_)
          refine lv_goto (tgt := 14) S.1 S.2.1 d_Sh_putLatest_60 (by decide) ?_
          exact ih_14 (i + 1) f_9 (by omega) (fun j hj => by
    by_cases ej : j + 1 = i
    · have e1 : i - 1 = j := by omega
      rw [e1] at eA eB
      have e2 := h2 i (by omega) (by omega)
      refine ⟨fun t ht => ?_, ?_⟩
      · rw [eB, dw_w_ne (by omega), eA, dw_su_eq]; simp only [ht, if_true]; rw [e2.1, ← ej]
      · rw [eB, dw_w_eq, dw_up_eq, eA, dw_su_ne (by omega), e2.2, ← ej]
    · have e3 := h1 j (by omega)
      refine ⟨fun t ht => ?_, ?_⟩
      · rw [eB, dw_w_ne (by omega), eA, dw_su_ne (by omega)]; exact e3.1 t ht
      · rw [eB, dw_w_eq, dw_up_ne (by omega), eA, dw_su_ne (by omega)]; exact e3.2) (fun j hj hj2 => by
    have e3 := h2 j (by omega) hj2
    refine ⟨?_, ?_⟩
    · rw [eB, dw_w_ne (by omega), eA, dw_su_ne (by omega)]; exact e3.1
    · rw [eB, dw_w_eq, dw_up_ne (by omega), eA, dw_su_ne (by omega)]; exact e3.2) (fun k k1 k2 k3 => by rw [eB, dw_w_ne k2, eA, dw_su_ne (by omega)]; exact h3 k k1 k2 k3) (by rw [eB, dw_w_ne (by decide), eA, dw_su_ne (by omega)]; exact h4) (by omega) H locs hw ls (lv_sub hl [1, 2, 3, 0] rfl)
    exact loop_14 _ 1 f (by decide) (fun j hj => by omega) (fun _ _ _ => ⟨rfl, rfl⟩) (fun _ _ _ _ => rfl) (h_9) (Nat.lt_succ_self _) H locs hw ls (lv_sub hl [1, 2, 3, 0] rfl)
set_option maxHeartbeats 4000000 in
set_option maxRecDepth 100000 in
theorem c_putLatest4 (l : Launch) (D : va_G) (g : Nat → ClassId) (a : Nat → Nat) (f : Nat → Nat → Nat) (y : Nat) (hc : f 4 2 ≤ 4) : ds_V l D g a y_Sh_putLatest b_Sh_putLatest 4 1 40 [.ref (a 4), .ref (a 5), .int (nI y)] f (fun u => ∃ kk dd : Nat, ((f 4 2 < 4 ∧ kk = f 4 2 ∧ dd = 0) ∨ (f 4 2 = 4 ∧ kk = 3 ∧ dd = 1)) ∧ u 4 2 = kk + 1 ∧ (∀ j, j < kk → (∀ t, t < 8 → u (47 + j) t = f (47 + (j + dd)) t) ∧ u 51 j = f 51 (j + dd)) ∧ (∀ t, t < 8 → u (47 + kk) t = f 5 t) ∧ u 51 kk = y ∧ (∀ k, k ≠ 4 → k ≠ 51 → ¬ (47 ≤ k ∧ k < 51) → u k = f k)) := by
  refine dw_ofV (by decide) (Nat.le_of_ble_eq_true rfl) ?_
  intro p e s m args below meth c ls A Q R H locs hR hA S hN hw hl hret
  have hl : lv_has ls 4 [(0, .ref (a 4)), (1, .ref (a 5)), (2, .int (nI y))] := hl
  have S : CallFix p m c b_Sh_putLatest 4 s args ds_T R_Sh := S
  refine lv_aload_n S.1 S.2.1 d_Sh_putLatest_0 rfl (lv_at hl 0 rfl) ?_
  refine dw_getf (fi := 2) (v := .int (nI (f 4 2))) S hw i_Sh ds_ob4 (by decide) rfl wd_126 rfl d_Sh_putLatest_1 ?_
  refine lv_aload_n S.1 S.2.1 d_Sh_putLatest_4 rfl (lv_at hl 0 rfl) ?_
  refine dw_getf (fi := 0) (v := .ref (a 46)) S hw i_Sh ds_ob4 (by decide) rfl wd_122 rfl d_Sh_putLatest_5 ?_
  refine dw_alen S.1 S.2.1 hw ds_k46 d_Sh_putLatest_8 ?_
  refine dn_icmp_ne S.1 S.2.1 73 (by omega) (by decide) d_Sh_putLatest_9 (by decide) (fun h_9 => ?_) (fun h_9 => ?_)
  · have cut_73 : ∀ (f2 : Nat → Nat → Nat) (kk : Nat) (dd : Nat) (hkd : (f 4 2 < 4 ∧ kk = f 4 2 ∧ dd = 0) ∨ (f 4 2 = 4 ∧ kk = 3 ∧ dd = 1)) (hsz : f2 4 2 = kk) (hsh : (∀ j, j < kk → (∀ t, t < 8 → f2 (47 + j) t = f (47 + (j + dd)) t) ∧ f2 51 j = f 51 (j + dd))) (hoth : (∀ k, k ≠ 4 → k ≠ 51 → ¬ (47 ≤ k ∧ k < 51) → f2 k = f k)) (H : Heap) (locs : List Loc), dw_W D classes (ds_tys g) A s.heap (dw_l 77 (ds_ce g a) a f2) s H locs → ∀ (ls : Array Slot), lv_has ls 4 [(0, .ref (a 4)), (1, .ref (a 5)), (2, .int (nI y))] → W p l e R s m args below meth c H locs 0 0 Q (F0 m 73 ls []) := by
      intro f2 kk dd hkd hsz hsh hoth H locs hw ls hl
      refine lv_aload_n S.1 S.2.1 d_Sh_putLatest_73 rfl (lv_at hl 1 rfl) ?_
      refine lv_iconst (v := nI 0) S.1 S.2.1 d_Sh_putLatest_74 (by decide) ?_
      refine lv_aload_n S.1 S.2.1 d_Sh_putLatest_75 rfl (lv_at hl 0 rfl) ?_
      refine dw_getf (fi := 0) (v := .ref (a 46)) S hw i_Sh ds_ob4 (by decide) rfl wd_122 rfl d_Sh_putLatest_76 ?_
      refine lv_aload_n S.1 S.2.1 d_Sh_putLatest_79 rfl (lv_at hl 0 rfl) ?_
      refine dw_getf (fi := 2) (v := .int (nI (f2 4 2))) S hw i_Sh ds_ob4 (by decide) rfl wd_126 rfl d_Sh_putLatest_80 ?_
      refine dw_aald S.1 S.2.1 hw ds_k46 (by omega) d_Sh_putLatest_83 ?_
      refine lv_iconst (v := nI 0) S.1 S.2.1 d_Sh_putLatest_84 (by decide) ?_
      refine lv_bipush (v := nI 8) S.1 S.2.1 d_Sh_putLatest_85 (by decide) ?_
      refine dw_copy (rest := []) S hw wd_267 wd_269 wd_268 wd_8 ds_k5 (ds_k47 (by omega)) (by decide) (by decide) hl.1 (Nat.le_trans (Nat.le_of_ble_eq_true rfl) hR.1) (Nat.le_trans (Nat.le_of_ble_eq_true rfl) hR.2) d_Sh_putLatest_87 (fun f_1 H locs ef_1 hw => ?_)
      have eC := ef_1
      rw [hsz] at eC
      have qs : f_1 4 2 = kk := by rw [eC, dw_su_ne (by omega)]; exact hsz
      refine lv_aload_n S.1 S.2.1 d_Sh_putLatest_90 rfl (lv_at hl 0 rfl) ?_
      refine dw_getf (fi := 1) (v := .ref (a 51)) S hw i_Sh ds_ob4 (by decide) rfl wd_124 rfl d_Sh_putLatest_91 ?_
      refine lv_aload_n S.1 S.2.1 d_Sh_putLatest_94 rfl (lv_at hl 0 rfl) ?_
      refine dw_getf (fi := 2) (v := .int (nI (f_1 4 2))) S hw i_Sh ds_ob4 (by decide) rfl wd_126 rfl d_Sh_putLatest_95 ?_
      refine lv_iload_n S.1 S.2.1 d_Sh_putLatest_98 rfl (lv_at hl 2 rfl) ?_
      refine dw_iast S.1 S.2.1 hw ds_k51 (by omega) d_Sh_putLatest_99 (fun f_2 H locs ef_2 hw => ?_)
      have eD := ef_2
      rw [qs] at eD
      have qs2 : f_2 4 2 = kk := by rw [eD, dw_w_ne (by decide)]; exact qs
      refine lv_aload_n S.1 S.2.1 d_Sh_putLatest_100 rfl (lv_at hl 0 rfl) ?_
      refine lv_dup S.1 S.2.1 d_Sh_putLatest_101 rfl ?_
      refine dw_getf (fi := 2) (v := .int (nI (f_2 4 2))) S hw i_Sh ds_ob4 (by decide) rfl wd_126 rfl d_Sh_putLatest_102 ?_
      refine lv_iconst (v := nI 1) S.1 S.2.1 d_Sh_putLatest_105 (by decide) ?_
      refine dn_iadd S.1 S.2.1 d_Sh_putLatest_106 ?_
      refine dw_putf (fi := 2) S hw i_Sh t_Sh t_Sh_ok n_Sh ds_ob4 (by decide) rfl wd_126 rfl (by decide +kernel) (Nat.le_of_ble_eq_true rfl) rfl d_Sh_putLatest_107 (fun f_3 H locs ef_3 hw => ?_)
      exact hret H locs _ ls _  hw (by
    have eE := ef_3
    rw [qs2] at eE
    refine ⟨kk, dd, hkd, by rw [eE, dw_w_eq, dw_up_eq], fun j hj => ⟨fun t ht => ?_, ?_⟩, fun t ht => ?_, ?_, fun k k1 k2 k3 => ?_⟩
    · rw [eE, dw_w_ne (by omega), eD, dw_w_ne (by omega), eC, dw_su_ne (by omega)]; exact (hsh j hj).1 t ht
    · rw [eE, dw_w_ne (by decide), eD, dw_w_eq, dw_up_ne (by omega), eC, dw_su_ne (by omega)]; exact (hsh j hj).2
    · rw [eE, dw_w_ne (by omega), eD, dw_w_ne (by omega), eC, dw_su_eq]; simp only [ht, if_true]; rw [hoth 5 (by decide) (by decide) (by decide)]
    · rw [eE, dw_w_ne (by decide), eD, dw_w_eq, dw_up_eq]
    · rw [eE, dw_w_ne k1, eD, dw_w_ne k2, eC, dw_su_ne (by omega)]; exact hoth k k1 k2 k3) d_Sh_putLatest_110
    exact cut_73 f (f 4 2) 0 (Or.inl ⟨by omega, rfl, rfl⟩) (rfl) (fun _ _ => ⟨fun _ _ => rfl, rfl⟩) (fun _ _ _ _ => rfl) H locs hw ls (lv_sub hl [0, 1, 2] rfl)
  · refine lv_iconst (v := nI 1) S.1 S.2.1 d_Sh_putLatest_12 (by decide) ?_
    refine lv_istore_n (lv' := [(3, .int (nI 1)), (0, .ref (a 4)), (1, .ref (a 5)), (2, .int (nI y))]) S.1 S.2.1 d_Sh_putLatest_13 rfl hl (by decide) rfl (fun ls hl => ?_)
    have loop_14 : ∀ (n : Nat) (i : Nat) (f2 : Nat → Nat → Nat) (hi : 1 ≤ i ∧ i ≤ 4) (h1 : ∀ j, j + 1 < i → (∀ t, t < 8 → f2 (47 + j) t = f (47 + (j + 1)) t) ∧ f2 51 j = f 51 (j + 1)) (h2 : ∀ j, i ≤ j + 1 → j < 4 → f2 (47 + j) = f (47 + j) ∧ f2 51 j = f 51 j) (h3 : (∀ k, k ≠ 4 → k ≠ 51 → ¬ (47 ≤ k ∧ k < 51) → f2 k = f k)) (h4 : f2 4 2 = 4) (_ : 4 - i < n) (H : Heap) (locs : List Loc), dw_W D classes (ds_tys g) A s.heap (dw_l 77 (ds_ce g a) a f2) s H locs → ∀ (ls : Array Slot), lv_has ls 4 [(0, .ref (a 4)), (1, .ref (a 5)), (2, .int (nI y)), (3, .int (nI i))] → W p l e R s m args below meth c H locs 0 0 Q (F0 m 14 ls []) := by
      intro n
      induction n with
      | zero => intro i f2 hi h1 h2 h3 h4 h9; exact absurd h9 (Nat.not_lt_zero _)
      | succ n ih_14 =>
        intro i f2 hi h1 h2 h3 h4 hm_14 H locs hw ls hl
        refine lv_iload_n S.1 S.2.1 d_Sh_putLatest_14 rfl (lv_at hl 3 rfl) ?_
        refine lv_aload_n S.1 S.2.1 d_Sh_putLatest_15 rfl (lv_at hl 0 rfl) ?_
        refine dw_getf (fi := 2) (v := .int (nI (f2 4 2))) S hw i_Sh ds_ob4 (by decide) rfl wd_126 rfl d_Sh_putLatest_16 ?_
        refine dn_icmp_ge S.1 S.2.1 63 (by omega) (by omega) d_Sh_putLatest_19 (by decide) (fun h_19 => ?_) (fun h_19 => ?_)
        · refine lv_aload_n S.1 S.2.1 d_Sh_putLatest_63 rfl (lv_at hl 0 rfl) ?_
          refine lv_dup S.1 S.2.1 d_Sh_putLatest_64 rfl ?_
          refine dw_getf (fi := 2) (v := .int (nI (f2 4 2))) S hw i_Sh ds_ob4 (by decide) rfl wd_126 rfl d_Sh_putLatest_65 ?_
          refine lv_iconst (v := nI 1) S.1 S.2.1 d_Sh_putLatest_68 (by decide) ?_
          refine dn_isub S.1 S.2.1 (by omega) d_Sh_putLatest_69 ?_
          refine dw_putf (fi := 2) S hw i_Sh t_Sh t_Sh_ok n_Sh ds_ob4 (by decide) rfl wd_126 rfl (by decide +kernel) (Nat.le_of_ble_eq_true rfl) rfl d_Sh_putLatest_70 (fun f_4 H locs ef_4 hw => ?_)
          have cut_73 : ∀ (f2 : Nat → Nat → Nat) (kk : Nat) (dd : Nat) (hkd : (f 4 2 < 4 ∧ kk = f 4 2 ∧ dd = 0) ∨ (f 4 2 = 4 ∧ kk = 3 ∧ dd = 1)) (hsz : f2 4 2 = kk) (hsh : (∀ j, j < kk → (∀ t, t < 8 → f2 (47 + j) t = f (47 + (j + dd)) t) ∧ f2 51 j = f 51 (j + dd))) (hoth : (∀ k, k ≠ 4 → k ≠ 51 → ¬ (47 ≤ k ∧ k < 51) → f2 k = f k)) (H : Heap) (locs : List Loc), dw_W D classes (ds_tys g) A s.heap (dw_l 77 (ds_ce g a) a f2) s H locs → ∀ (ls : Array Slot), lv_has ls 4 [(0, .ref (a 4)), (1, .ref (a 5)), (2, .int (nI y))] → W p l e R s m args below meth c H locs 0 0 Q (F0 m 73 ls []) := by
            intro f2 kk dd hkd hsz hsh hoth H locs hw ls hl
            refine lv_aload_n S.1 S.2.1 d_Sh_putLatest_73 rfl (lv_at hl 1 rfl) ?_
            refine lv_iconst (v := nI 0) S.1 S.2.1 d_Sh_putLatest_74 (by decide) ?_
            refine lv_aload_n S.1 S.2.1 d_Sh_putLatest_75 rfl (lv_at hl 0 rfl) ?_
            refine dw_getf (fi := 0) (v := .ref (a 46)) S hw i_Sh ds_ob4 (by decide) rfl wd_122 rfl d_Sh_putLatest_76 ?_
            refine lv_aload_n S.1 S.2.1 d_Sh_putLatest_79 rfl (lv_at hl 0 rfl) ?_
            refine dw_getf (fi := 2) (v := .int (nI (f2 4 2))) S hw i_Sh ds_ob4 (by decide) rfl wd_126 rfl d_Sh_putLatest_80 ?_
            refine dw_aald S.1 S.2.1 hw ds_k46 (by omega) d_Sh_putLatest_83 ?_
            refine lv_iconst (v := nI 0) S.1 S.2.1 d_Sh_putLatest_84 (by decide) ?_
            refine lv_bipush (v := nI 8) S.1 S.2.1 d_Sh_putLatest_85 (by decide) ?_
            refine dw_copy (rest := []) S hw wd_267 wd_269 wd_268 wd_8 ds_k5 (ds_k47 (by omega)) (by decide) (by decide) hl.1 (Nat.le_trans (Nat.le_of_ble_eq_true rfl) hR.1) (Nat.le_trans (Nat.le_of_ble_eq_true rfl) hR.2) d_Sh_putLatest_87 (fun f_5 H locs ef_5 hw => ?_)
            have eC := ef_5
            rw [hsz] at eC
            have qs : f_5 4 2 = kk := by rw [eC, dw_su_ne (by omega)]; exact hsz
            refine lv_aload_n S.1 S.2.1 d_Sh_putLatest_90 rfl (lv_at hl 0 rfl) ?_
            refine dw_getf (fi := 1) (v := .ref (a 51)) S hw i_Sh ds_ob4 (by decide) rfl wd_124 rfl d_Sh_putLatest_91 ?_
            refine lv_aload_n S.1 S.2.1 d_Sh_putLatest_94 rfl (lv_at hl 0 rfl) ?_
            refine dw_getf (fi := 2) (v := .int (nI (f_5 4 2))) S hw i_Sh ds_ob4 (by decide) rfl wd_126 rfl d_Sh_putLatest_95 ?_
            refine lv_iload_n S.1 S.2.1 d_Sh_putLatest_98 rfl (lv_at hl 2 rfl) ?_
            refine dw_iast S.1 S.2.1 hw ds_k51 (by omega) d_Sh_putLatest_99 (fun f_6 H locs ef_6 hw => ?_)
            have eD := ef_6
            rw [qs] at eD
            have qs2 : f_6 4 2 = kk := by rw [eD, dw_w_ne (by decide)]; exact qs
            refine lv_aload_n S.1 S.2.1 d_Sh_putLatest_100 rfl (lv_at hl 0 rfl) ?_
            refine lv_dup S.1 S.2.1 d_Sh_putLatest_101 rfl ?_
            refine dw_getf (fi := 2) (v := .int (nI (f_6 4 2))) S hw i_Sh ds_ob4 (by decide) rfl wd_126 rfl d_Sh_putLatest_102 ?_
            refine lv_iconst (v := nI 1) S.1 S.2.1 d_Sh_putLatest_105 (by decide) ?_
            refine dn_iadd S.1 S.2.1 d_Sh_putLatest_106 ?_
            refine dw_putf (fi := 2) S hw i_Sh t_Sh t_Sh_ok n_Sh ds_ob4 (by decide) rfl wd_126 rfl (by decide +kernel) (Nat.le_of_ble_eq_true rfl) rfl d_Sh_putLatest_107 (fun f_7 H locs ef_7 hw => ?_)
            exact hret H locs _ ls _  hw (by
    have eE := ef_7
    rw [qs2] at eE
    refine ⟨kk, dd, hkd, by rw [eE, dw_w_eq, dw_up_eq], fun j hj => ⟨fun t ht => ?_, ?_⟩, fun t ht => ?_, ?_, fun k k1 k2 k3 => ?_⟩
    · rw [eE, dw_w_ne (by omega), eD, dw_w_ne (by omega), eC, dw_su_ne (by omega)]; exact (hsh j hj).1 t ht
    · rw [eE, dw_w_ne (by decide), eD, dw_w_eq, dw_up_ne (by omega), eC, dw_su_ne (by omega)]; exact (hsh j hj).2
    · rw [eE, dw_w_ne (by omega), eD, dw_w_ne (by omega), eC, dw_su_eq]; simp only [ht, if_true]; rw [hoth 5 (by decide) (by decide) (by decide)]
    · rw [eE, dw_w_ne (by decide), eD, dw_w_eq, dw_up_eq]
    · rw [eE, dw_w_ne k1, eD, dw_w_ne k2, eC, dw_su_ne (by omega)]; exact hoth k k1 k2 k3) d_Sh_putLatest_110
          exact cut_73 f_4 3 1 (Or.inr ⟨h_9, rfl, rfl⟩) (by rw [ef_4, dw_w_eq, dw_up_eq, h4]) (fun j hj => by have e3 := h1 j (by omega); exact ⟨fun t ht => by rw [ef_4, dw_w_ne (by omega)]; exact e3.1 t ht, by rw [ef_4, dw_w_ne (by decide)]; exact e3.2⟩) (fun k k1 k2 k3 => by rw [ef_4, dw_w_ne k1]; exact h3 k k1 k2 k3) H locs hw ls (lv_sub hl [0, 1, 2] rfl)
        · rw [h4] at h_19
          refine lv_aload_n S.1 S.2.1 d_Sh_putLatest_22 rfl (lv_at hl 0 rfl) ?_
          refine dw_getf (fi := 0) (v := .ref (a 46)) S hw i_Sh ds_ob4 (by decide) rfl wd_122 rfl d_Sh_putLatest_23 ?_
          refine lv_iload_n S.1 S.2.1 d_Sh_putLatest_26 rfl (lv_at hl 3 rfl) ?_
          refine dw_aald S.1 S.2.1 hw ds_k46 (by omega) d_Sh_putLatest_27 ?_
          refine lv_iconst (v := nI 0) S.1 S.2.1 d_Sh_putLatest_28 (by decide) ?_
          refine lv_aload_n S.1 S.2.1 d_Sh_putLatest_29 rfl (lv_at hl 0 rfl) ?_
          refine dw_getf (fi := 0) (v := .ref (a 46)) S hw i_Sh ds_ob4 (by decide) rfl wd_122 rfl d_Sh_putLatest_30 ?_
          refine lv_iload_n S.1 S.2.1 d_Sh_putLatest_33 rfl (lv_at hl 3 rfl) ?_
          refine lv_iconst (v := nI 1) S.1 S.2.1 d_Sh_putLatest_34 (by decide) ?_
          refine dn_isub S.1 S.2.1 (by omega) d_Sh_putLatest_35 ?_
          refine dw_aald S.1 S.2.1 hw ds_k46 (by omega) d_Sh_putLatest_36 ?_
          refine lv_iconst (v := nI 0) S.1 S.2.1 d_Sh_putLatest_37 (by decide) ?_
          refine lv_bipush (v := nI 8) S.1 S.2.1 d_Sh_putLatest_38 (by decide) ?_
          refine dw_copy (rest := []) S hw wd_267 wd_269 wd_268 wd_8 (ds_k47 (by omega)) (ds_k47 (by omega)) (by decide) (by decide) hl.1 (Nat.le_trans (Nat.le_of_ble_eq_true rfl) hR.1) (Nat.le_trans (Nat.le_of_ble_eq_true rfl) hR.2) d_Sh_putLatest_40 (fun f_8 H locs ef_8 hw => ?_)
          have eA := ef_8
          refine lv_aload_n S.1 S.2.1 d_Sh_putLatest_43 rfl (lv_at hl 0 rfl) ?_
          refine dw_getf (fi := 1) (v := .ref (a 51)) S hw i_Sh ds_ob4 (by decide) rfl wd_124 rfl d_Sh_putLatest_44 ?_
          refine lv_iload_n S.1 S.2.1 d_Sh_putLatest_47 rfl (lv_at hl 3 rfl) ?_
          refine lv_iconst (v := nI 1) S.1 S.2.1 d_Sh_putLatest_48 (by decide) ?_
          refine dn_isub S.1 S.2.1 (by omega) d_Sh_putLatest_49 ?_
          refine lv_aload_n S.1 S.2.1 d_Sh_putLatest_50 rfl (lv_at hl 0 rfl) ?_
          refine dw_getf (fi := 1) (v := .ref (a 51)) S hw i_Sh ds_ob4 (by decide) rfl wd_124 rfl d_Sh_putLatest_51 ?_
          refine lv_iload_n S.1 S.2.1 d_Sh_putLatest_54 rfl (lv_at hl 3 rfl) ?_
          refine dw_iald S.1 S.2.1 hw ds_k51 (by omega) d_Sh_putLatest_55 ?_
          refine dw_iast S.1 S.2.1 hw ds_k51 (by omega) d_Sh_putLatest_56 (fun f_9 H locs ef_9 hw => ?_)
          have eB := ef_9
          refine lv_iinc (v := nI (i + 1)) (lv' := [(3, .int (nI (i + 1))), (0, .ref (a 4)), (1, .ref (a 5)), (2, .int (nI y))]) S.1 S.2.1 d_Sh_putLatest_57 hl (k := 3) rfl (by rw [show Int32.ofInt 1 = nI 1 from rfl, nI_add]) (by decide) rfl (fun ls hl => ?_)
          refine lv_goto (tgt := 14) S.1 S.2.1 d_Sh_putLatest_60 (by decide) ?_
          exact ih_14 (i + 1) f_9 (by omega) (fun j hj => by
    by_cases ej : j + 1 = i
    · have e1 : i - 1 = j := by omega
      rw [e1] at eA eB
      have e2 := h2 i (by omega) (by omega)
      refine ⟨fun t ht => ?_, ?_⟩
      · rw [eB, dw_w_ne (by omega), eA, dw_su_eq]; simp only [ht, if_true]; rw [e2.1, ← ej]
      · rw [eB, dw_w_eq, dw_up_eq, eA, dw_su_ne (by omega), e2.2, ← ej]
    · have e3 := h1 j (by omega)
      refine ⟨fun t ht => ?_, ?_⟩
      · rw [eB, dw_w_ne (by omega), eA, dw_su_ne (by omega)]; exact e3.1 t ht
      · rw [eB, dw_w_eq, dw_up_ne (by omega), eA, dw_su_ne (by omega)]; exact e3.2) (fun j hj hj2 => by
    have e3 := h2 j (by omega) hj2
    refine ⟨?_, ?_⟩
    · rw [eB, dw_w_ne (by omega), eA, dw_su_ne (by omega)]; exact e3.1
    · rw [eB, dw_w_eq, dw_up_ne (by omega), eA, dw_su_ne (by omega)]; exact e3.2) (fun k k1 k2 k3 => by rw [eB, dw_w_ne k2, eA, dw_su_ne (by omega)]; exact h3 k k1 k2 k3) (by rw [eB, dw_w_ne (by decide), eA, dw_su_ne (by omega)]; exact h4) (by omega) H locs hw ls (lv_sub hl [1, 2, 3, 0] rfl)
    exact loop_14 _ 1 f (by decide) (fun j hj => by omega) (fun _ _ _ => ⟨rfl, rfl⟩) (fun _ _ _ _ => rfl) (h_9) (Nat.lt_succ_self _) H locs hw ls (lv_sub hl [1, 2, 3, 0] rfl)
