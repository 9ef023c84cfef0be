/-! contracts of the reference: rounds -/
set_option maxHeartbeats 4000000 in
set_option maxRecDepth 100000 in
theorem m_can (l : Launch) (D : va_G) (g : Nat → ClassId) (a : Nat → Nat) (f : Nat → Nat → Nat) (rw : Nat → Nat → Nat) (v : Nat) (x : Nat) (ok : ds_ok (md_v f rw)) (hv : v < f 54 0) (hx : x < f 54 1) : ds_I l D g a y_Mo_can b_Mo_can 3 .boolean 0 0 [.ref (a 54), .int (nI v), .int (nI x)] f (fun r u => r = nI (dn_b (ds_can (md_v f rw) v x = true)) ∧ u = f) := by
  refine dw_ofI (by decide) (fun _ _ h => h.1 ▸ dn_nar) (Nat.le_of_ble_eq_true rfl) ?_
  intro p e s m args below meth c ls A Q R H locs hR hA S hN hw hl hret
  have hl : lv_has ls 3 [(0, .ref (a 54)), (1, .int (nI v)), (2, .int (nI x))] := hl
  have S : CallFix p m c b_Mo_can 3 s args ds_T R_Mo := S
  obtain ⟨hV, hn, hex, hst, hve, hrA, hrB, hrl, hwy⟩ := md_facts ok
  have r1 := hrB x hx
  have v1 := hve v hv
  have r2 := hrl _ r1.1
  have ec : ds_can (md_v f rw) v x = (f 62 v == 8 || (f 57 x == v && decide (f 58 x < f 62 v))) := rfl
  refine lv_aload_n S.1 S.2.1 d_Mo_can_0 rfl (lv_at hl 0 rfl) ?_
  refine dw_getf (fi := 9) (v := .ref (a 62)) S hw i_Mo ds_ob54 (by decide) rfl wd_371 rfl d_Mo_can_1 ?_
  refine lv_iload_n S.1 S.2.1 d_Mo_can_4 rfl (lv_at hl 1 rfl) ?_
  refine dw_iald S.1 S.2.1 hw ds_k62 (by omega) d_Mo_can_5 ?_
  refine lv_bipush (v := nI 8) S.1 S.2.1 d_Mo_can_6 (by decide) ?_
  refine dn_icmp_eq S.1 S.2.1 36 (by omega) (by decide) d_Mo_can_8 (by decide) (fun h_8 => ?_) (fun h_8 => ?_)
  · refine lv_iconst (v := nI 1) S.1 S.2.1 d_Mo_can_36 (by decide) ?_
    refine lv_goto (tgt := 41) S.1 S.2.1 d_Mo_can_37 (by decide) ?_
    exact hret H locs _ ls _ _ hw (⟨by rw [dn_b1 (by rw [ec]; simp [h_8])], rfl⟩) d_Mo_can_41
  · refine lv_aload_n S.1 S.2.1 d_Mo_can_11 rfl (lv_at hl 0 rfl) ?_
    refine dw_getf (fi := 4) (v := .ref (a 57)) S hw i_Mo ds_ob54 (by decide) rfl wd_366 rfl d_Mo_can_12 ?_
    refine lv_iload_n S.1 S.2.1 d_Mo_can_15 rfl (lv_at hl 2 rfl) ?_
    refine dw_iald S.1 S.2.1 hw ds_k57 (by omega) d_Mo_can_16 ?_
    refine lv_iload_n S.1 S.2.1 d_Mo_can_17 rfl (lv_at hl 1 rfl) ?_
    refine dn_icmp_ne S.1 S.2.1 40 (by omega) (by omega) d_Mo_can_18 (by decide) (fun h_18 => ?_) (fun h_18 => ?_)
    · refine lv_iconst (v := nI 0) S.1 S.2.1 d_Mo_can_40 (by decide) ?_
      exact hret H locs _ ls _ _ hw (⟨by rw [dn_b0 (by rw [ec]; simp [h_8, h_18])], rfl⟩) d_Mo_can_41
    · refine lv_aload_n S.1 S.2.1 d_Mo_can_21 rfl (lv_at hl 0 rfl) ?_
      refine dw_getf (fi := 5) (v := .ref (a 58)) S hw i_Mo ds_ob54 (by decide) rfl wd_367 rfl d_Mo_can_22 ?_
      refine lv_iload_n S.1 S.2.1 d_Mo_can_25 rfl (lv_at hl 2 rfl) ?_
      refine dw_iald S.1 S.2.1 hw ds_k58 (by omega) d_Mo_can_26 ?_
      refine lv_aload_n S.1 S.2.1 d_Mo_can_27 rfl (lv_at hl 0 rfl) ?_
      refine dw_getf (fi := 9) (v := .ref (a 62)) S hw i_Mo ds_ob54 (by decide) rfl wd_371 rfl d_Mo_can_28 ?_
      refine lv_iload_n S.1 S.2.1 d_Mo_can_31 rfl (lv_at hl 1 rfl) ?_
      refine dw_iald S.1 S.2.1 hw ds_k62 (by omega) d_Mo_can_32 ?_
      refine dn_icmp_ge S.1 S.2.1 40 (by omega) (by omega) d_Mo_can_33 (by decide) (fun h_33 => ?_) (fun h_33 => ?_)
      · refine lv_iconst (v := nI 0) S.1 S.2.1 d_Mo_can_40 (by decide) ?_
        exact hret H locs _ ls _ _ hw (⟨by rw [dn_b0 (by rw [ec]; simp [h_8, h_18]; omega)], rfl⟩) d_Mo_can_41
      · refine lv_iconst (v := nI 1) S.1 S.2.1 d_Mo_can_36 (by decide) ?_
        refine lv_goto (tgt := 41) S.1 S.2.1 d_Mo_can_37 (by decide) ?_
        exact hret H locs _ ls _ _ hw (⟨by rw [dn_b1 (by rw [ec]; simp [h_8, h_18, h_33])], rfl⟩) d_Mo_can_41
set_option maxHeartbeats 4000000 in
set_option maxRecDepth 100000 in
theorem m_go (l : Launch) (D : va_G) (g : Nat → ClassId) (a : Nat → Nat) (f : Nat → Nat → Nat) (rw : Nat → Nat → Nat) (K : Nat) (v : Nat) (ok : ds_ok (md_v f rw)) (hv : v < f 54 0) (hK : dw_Ci (ds_tys g) 77 (ds_ce g a) .int K 8) (hK2 : K = 65 ∨ K = 66) (hb : ∀ x, x < f 54 1 → f K x < 2 ^ 31) : ds_V l D g a y_Mo_go b_Mo_go 5 0 0 [.ref (a 54), .ref (a K), .int (nI v)] f (fun u => ∃ h : Nat → Nat, u = md_r f h (ds_rd (md_v f rw) (fun x => f K x == v) v).length ∧ ds_is h 0 (ds_rd (md_v f rw) (fun x => f K x == v) v)) := by
  refine dw_ofV (by decide) (Nat.le_of_ble_eq_true rfl) ?_
  intro p e s m args below meth c ls A Q R H locs hR hA S hN hw hl hret
  have hl : lv_has ls 5 [(0, .ref (a 54)), (1, .ref (a K)), (2, .int (nI v))] := hl
  have S : CallFix p m c b_Mo_go 5 s args ds_T R_Mo := S
  obtain ⟨hV, hn, hex, hst, hve, hrA, hrB, hrl, hwy⟩ := md_facts ok
  have hrw := ok.2.2.2.2.2.2.2
  have hLn : (ds_rd (md_v f rw) (fun x => f K x == v) v).length ≤ f 54 1 := dr_rd_len hrw _ hv
  have v3 : v < 3 := by omega
  have r9 := hrl v hv
  refine lv_aload_n S.1 S.2.1 d_Mo_go_0 rfl (lv_at hl 0 rfl) ?_
  refine lv_iconst (v := nI 0) S.1 S.2.1 d_Mo_go_1 (by decide) ?_
  refine dw_putf (fi := 25) S hw i_Mo t_Mo t_Mo_ok n_Mo ds_ob54 (by decide) rfl wd_387 rfl (by decide +kernel) (Nat.le_of_ble_eq_true rfl) rfl d_Mo_go_2 (fun f_1 H locs ef_1 hw => ?_)
  refine lv_iconst (v := nI 0) S.1 S.2.1 d_Mo_go_5 (by decide) ?_
  refine lv_istore_n (lv' := [(3, .int (nI 0)), (0, .ref (a 54)), (1, .ref (a K)), (2, .int (nI v))]) S.1 S.2.1 d_Mo_go_6 rfl hl (by decide) rfl (fun ls hl => ?_)
  have loop_7 : ∀ (n : Nat) (d : Nat) (f2 : Nat → Nat → Nat) (h : Nat → Nat) (hd : d ≤ f 59 v) (hh : f2 = md_r f h ((ds_row (md_v f rw) v d).filter (fun x => f K x == v)).length) (hs : ds_is h 0 ((ds_row (md_v f rw) v d).filter (fun x => f K x == v))) (_ : f 59 v - d < n) (H : Heap) (locs : List Loc), dw_W D classes (ds_tys g) A s.heap (dw_l 77 (ds_ce g a) a f2) s H locs → ∀ (ls : Array Slot), lv_has ls 5 [(0, .ref (a 54)), (1, .ref (a K)), (2, .int (nI v)), (3, .int (nI d))] → W p l e R s m args below meth c H locs 0 0 Q (F0 m 7 ls []) := by
    intro n
    induction n with
    | zero => intro d f2 h hd hh hs h9; exact absurd h9 (Nat.not_lt_zero _)
    | succ n ih_7 =>
      intro d f2 h hd hh hs hm_7 H locs hw ls hl
      have q59 : f2 59 v = f 59 v := by rw [hh, md_r_ne (by decide) (by decide)]
      refine lv_iload_n S.1 S.2.1 d_Mo_go_7 rfl (lv_at hl 3 rfl) ?_
      refine lv_aload_n S.1 S.2.1 d_Mo_go_8 rfl (lv_at hl 0 rfl) ?_
      refine dw_getf (fi := 6) (v := .ref (a 59)) S hw i_Mo ds_ob54 (by decide) rfl wd_368 rfl d_Mo_go_9 ?_
      refine lv_iload_n S.1 S.2.1 d_Mo_go_12 rfl (lv_at hl 2 rfl) ?_
      refine dw_iald S.1 S.2.1 hw ds_k59 (by omega) d_Mo_go_13 ?_
      refine dn_icmp_ge S.1 S.2.1 92 (by omega) (by omega) d_Mo_go_14 (by decide) (fun h_14 => ?_) (fun h_14 => ?_)
      · refine lv_iconst (v := nI 0) S.1 S.2.1 d_Mo_go_92 (by decide) ?_
        refine lv_istore_n (lv' := [(3, .int (nI 0)), (0, .ref (a 54)), (1, .ref (a K)), (2, .int (nI v))]) S.1 S.2.1 d_Mo_go_93 rfl hl (by decide) rfl (fun ls hl => ?_)
        have loop_94 : ∀ (n : Nat) (i : Nat) (f2 : Nat → Nat → Nat) (h : Nat → Nat) (hi : i ≤ f 54 1) (hh : f2 = md_r f h ((ds_row (md_v f rw) v (f 59 v)).filter (fun x => f K x == v) ++ ds_oth (md_v f rw) (fun x => f K x == v) v i).length) (hs : ds_is h 0 ((ds_row (md_v f rw) v (f 59 v)).filter (fun x => f K x == v) ++ ds_oth (md_v f rw) (fun x => f K x == v) v i)) (_ : f 54 1 - i < n) (H : Heap) (locs : List Loc), dw_W D classes (ds_tys g) A s.heap (dw_l 77 (ds_ce g a) a f2) s H locs → ∀ (ls : Array Slot), lv_has ls 5 [(0, .ref (a 54)), (1, .ref (a K)), (2, .int (nI v)), (3, .int (nI i))] → W p l e R s m args below meth c H locs 0 0 Q (F0 m 94 ls []) := by
          intro n
          induction n with
          | zero => intro i f2 h hi hh hs h9; exact absurd h9 (Nat.not_lt_zero _)
          | succ n ih_94 =>
            intro i f2 h hi hh hs hm_94 H locs hw ls hl
            have q1 : f2 54 1 = f 54 1 := by rw [hh, md_r_54 (by decide)]
            have qz : f2 54 25 = ((ds_row (md_v f rw) v (f 59 v)).filter (fun x => f K x == v) ++ ds_oth (md_v f rw) (fun x => f K x == v) v i).length := by rw [hh, md_r_z]
            have q57 : f2 57 i = f 57 i := by rw [hh, md_r_ne (by decide) (by decide)]
            have qK : f2 K i = f K i := by rw [hh, md_r_ne (by omega) (by omega)]
            refine lv_iload_n S.1 S.2.1 d_Mo_go_94 rfl (lv_at hl 3 rfl) ?_
            refine lv_aload_n S.1 S.2.1 d_Mo_go_95 rfl (lv_at hl 0 rfl) ?_
            refine dw_getf (fi := 1) (v := .int (nI (f2 54 1))) S hw i_Mo ds_ob54 (by decide) rfl wd_363 rfl d_Mo_go_96 ?_
            refine dn_icmp_ge S.1 S.2.1 145 (by omega) (by omega) d_Mo_go_99 (by decide) (fun h_99 => ?_) (fun h_99 => ?_)
            · exact hret H locs _ ls _  hw (⟨h, by rw [hh, show i = f 54 1 by omega]; rfl, by rw [show i = f 54 1 by omega] at hs; exact hs⟩) d_Mo_go_145
            · have r4 := hrB i (by omega)
              have b4 := hb i (by omega)
              refine lv_aload_n S.1 S.2.1 d_Mo_go_102 rfl (lv_at hl 0 rfl) ?_
              refine dw_getf (fi := 4) (v := .ref (a 57)) S hw i_Mo ds_ob54 (by decide) rfl wd_366 rfl d_Mo_go_103 ?_
              refine lv_iload_n S.1 S.2.1 d_Mo_go_106 rfl (lv_at hl 3 rfl) ?_
              refine dw_iald S.1 S.2.1 hw ds_k57 (by omega) d_Mo_go_107 ?_
              refine lv_iload_n S.1 S.2.1 d_Mo_go_108 rfl (lv_at hl 2 rfl) ?_
              refine dn_icmp_eq S.1 S.2.1 139 (by omega) (by omega) d_Mo_go_109 (by decide) (fun h_109 => ?_) (fun h_109 => ?_)
              · have hPi : ¬ ((fun x => f K x == v) i && ((md_v f rw) 10 i != v)) = true := by show ¬ ((f K i == v) && (f 57 i != v)) = true; simp; omega
                refine lv_iinc (v := nI (i + 1)) (lv' := [(3, .int (nI (i + 1))), (0, .ref (a 54)), (1, .ref (a K)), (2, .int (nI v))]) S.1 S.2.1 d_Mo_go_139 hl (k := 3) rfl (by rw [show Int32.ofInt 1 = nI 1 from rfl, nI_add]) (by decide) rfl (fun ls hl => ?_)
                refine lv_goto (tgt := 94) S.1 S.2.1 d_Mo_go_142 (by decide) ?_
                exact ih_94 (i + 1) f2 h (by omega) (by rw [ds_oth_s, if_neg hPi, List.append_nil]; exact hh) (by rw [ds_oth_s, if_neg hPi, List.append_nil]; exact hs) (by omega) H locs hw ls (lv_sub hl [1, 2, 3, 0] rfl)
              · refine lv_aload_n S.1 S.2.1 d_Mo_go_112 rfl (lv_at hl 1 rfl) ?_
                refine lv_iload_n S.1 S.2.1 d_Mo_go_113 rfl (lv_at hl 3 rfl) ?_
                refine dw_iald S.1 S.2.1 hw hK (by omega) d_Mo_go_114 ?_
                refine lv_iload_n S.1 S.2.1 d_Mo_go_115 rfl (lv_at hl 2 rfl) ?_
                refine dn_icmp_ne S.1 S.2.1 139 (by omega) (by omega) d_Mo_go_116 (by decide) (fun h_116 => ?_) (fun h_116 => ?_)
                · have hPi : ¬ ((fun x => f K x == v) i && ((md_v f rw) 10 i != v)) = true := by show ¬ ((f K i == v) && (f 57 i != v)) = true; simp; omega
                  refine lv_iinc (v := nI (i + 1)) (lv' := [(3, .int (nI (i + 1))), (0, .ref (a 54)), (1, .ref (a K)), (2, .int (nI v))]) S.1 S.2.1 d_Mo_go_139 hl (k := 3) rfl (by rw [show Int32.ofInt 1 = nI 1 from rfl, nI_add]) (by decide) rfl (fun ls hl => ?_)
                  refine lv_goto (tgt := 94) S.1 S.2.1 d_Mo_go_142 (by decide) ?_
                  exact ih_94 (i + 1) f2 h (by omega) (by rw [ds_oth_s, if_neg hPi, List.append_nil]; exact hh) (by rw [ds_oth_s, if_neg hPi, List.append_nil]; exact hs) (by omega) H locs hw ls (lv_sub hl [1, 2, 3, 0] rfl)
                · have hPi : ((fun x => f K x == v) i && ((md_v f rw) 10 i != v)) = true := by show ((f K i == v) && (f 57 i != v)) = true; simp; omega
                  have hlt := ds_oth_lt (f := (md_v f rw)) (fun x => f K x == v) hPi (by show i < f 54 1; omega)
                  rw [show (md_v f rw) 15 v = f 59 v from rfl] at hlt
                  refine lv_aload_n S.1 S.2.1 d_Mo_go_119 rfl (lv_at hl 0 rfl) ?_
                  refine dw_getf (fi := 24) (v := .ref (a 74)) S hw i_Mo ds_ob54 (by decide) rfl wd_386 rfl d_Mo_go_120 ?_
                  refine lv_aload_n S.1 S.2.1 d_Mo_go_123 rfl (lv_at hl 0 rfl) ?_
                  refine dw_getf (fi := 25) (v := .int (nI (f2 54 25))) S hw i_Mo ds_ob54 (by decide) rfl wd_387 rfl d_Mo_go_124 ?_
                  refine lv_iload_n S.1 S.2.1 d_Mo_go_127 rfl (lv_at hl 3 rfl) ?_
                  refine dw_iast S.1 S.2.1 hw ds_k74 (by omega) d_Mo_go_128 (fun f_2 H locs ef_2 hw => ?_)
                  have eA := ef_2
                  refine lv_aload_n S.1 S.2.1 d_Mo_go_129 rfl (lv_at hl 0 rfl) ?_
                  refine lv_dup S.1 S.2.1 d_Mo_go_130 rfl ?_
                  refine dw_getf (fi := 25) (v := .int (nI (f_2 54 25))) S hw i_Mo ds_ob54 (by decide) rfl wd_387 rfl d_Mo_go_131 ?_
                  refine lv_iconst (v := nI 1) S.1 S.2.1 d_Mo_go_134 (by decide) ?_
                  refine dn_iadd S.1 S.2.1 d_Mo_go_135 ?_
                  refine dw_putf (fi := 25) S hw i_Mo t_Mo t_Mo_ok n_Mo ds_ob54 (by decide) rfl wd_387 rfl (by decide +kernel) (Nat.le_of_ble_eq_true rfl) rfl d_Mo_go_136 (fun f_3 H locs ef_3 hw => ?_)
                  refine lv_iinc (v := nI (i + 1)) (lv' := [(3, .int (nI (i + 1))), (0, .ref (a 54)), (1, .ref (a K)), (2, .int (nI v))]) S.1 S.2.1 d_Mo_go_139 hl (k := 3) rfl (by rw [show Int32.ofInt 1 = nI 1 from rfl, nI_add]) (by decide) rfl (fun ls hl => ?_)
                  refine lv_goto (tgt := 94) S.1 S.2.1 d_Mo_go_142 (by decide) ?_
                  exact ih_94 (i + 1) f_3 (dw_up h ((ds_row (md_v f rw) v (f 59 v)).filter (fun x => f K x == v) ++ ds_oth (md_v f rw) (fun x => f K x == v) v i).length i) (by omega) (by rw [ds_oth_s, if_pos hPi, ← List.append_assoc]; exact md_pushed hh eA ef_3) (by rw [ds_oth_s, if_pos hPi, ← List.append_assoc]; have q := ds_is_push i hs; rwa [Nat.zero_add] at q) (by omega) H locs hw ls (lv_sub hl [1, 2, 3, 0] rfl)
        exact loop_94 _ 0 f2 h (Nat.zero_le _) (by rw [show ds_oth (md_v f rw) (fun x => f K x == v) v 0 = [] from rfl, List.append_nil, ← show d = f 59 v by omega]; exact hh) (by rw [show ds_oth (md_v f rw) (fun x => f K x == v) v 0 = [] from rfl, List.append_nil, ← show d = f 59 v by omega]; exact hs) (Nat.lt_succ_self _) H locs hw ls (lv_sub hl [1, 2, 3, 0] rfl)
      · refine lv_iconst (v := nI 0) S.1 S.2.1 d_Mo_go_17 (by decide) ?_
        refine lv_istore (lv' := [(4, .int (nI 0)), (0, .ref (a 54)), (1, .ref (a K)), (2, .int (nI v)), (3, .int (nI d))]) S.1 S.2.1 d_Mo_go_18 hl (by decide) rfl (fun ls hl => ?_)
        have loop_20 : ∀ (n : Nat) (i : Nat) (f2 : Nat → Nat → Nat) (h : Nat → Nat) (hi : i ≤ f 54 1) (hh : f2 = md_r f h (((ds_row (md_v f rw) v d).filter (fun x => f K x == v)) ++ md_m rw (fun x => f K x == v) v d i).length) (hs : ds_is h 0 (((ds_row (md_v f rw) v d).filter (fun x => f K x == v)) ++ md_m rw (fun x => f K x == v) v d i)) (_ : f 54 1 - i < n) (H : Heap) (locs : List Loc), dw_W D classes (ds_tys g) A s.heap (dw_l 77 (ds_ce g a) a f2) s H locs → ∀ (ls : Array Slot), lv_has ls 5 [(0, .ref (a 54)), (1, .ref (a K)), (2, .int (nI v)), (3, .int (nI d)), (4, .int (nI i))] → W p l e R s m args below meth c H locs 0 0 Q (F0 m 20 ls []) := by
          intro n
          induction n with
          | zero => intro i f2 h hi hh hs h9; exact absurd h9 (Nat.not_lt_zero _)
          | succ n ih_20 =>
            intro i f2 h hi hh hs hm_20 H locs hw ls hl
            have q1 : f2 54 1 = f 54 1 := by rw [hh, md_r_54 (by decide)]
            have qz : f2 54 25 = (((ds_row (md_v f rw) v d).filter (fun x => f K x == v)) ++ md_m rw (fun x => f K x == v) v d i).length := by rw [hh, md_r_z]
            have q57 : f2 57 i = f 57 i := by rw [hh, md_r_ne (by decide) (by decide)]
            have q58 : f2 58 i = f 58 i := by rw [hh, md_r_ne (by decide) (by decide)]
            have qK : f2 K i = f K i := by rw [hh, md_r_ne (by omega) (by omega)]
            refine lv_iload S.1 S.2.1 d_Mo_go_20 (lv_at hl 4 rfl) ?_
            refine lv_aload_n S.1 S.2.1 d_Mo_go_22 rfl (lv_at hl 0 rfl) ?_
            refine dw_getf (fi := 1) (v := .int (nI (f2 54 1))) S hw i_Mo ds_ob54 (by decide) rfl wd_363 rfl d_Mo_go_23 ?_
            refine dn_icmp_ge S.1 S.2.1 86 (by omega) (by omega) d_Mo_go_26 (by decide) (fun h_26 => ?_) (fun h_26 => ?_)
            · refine lv_iinc (v := nI (d + 1)) (lv' := [(3, .int (nI (d + 1))), (0, .ref (a 54)), (1, .ref (a K)), (2, .int (nI v)), (4, .int (nI i))]) S.1 S.2.1 d_Mo_go_86 hl (k := 3) rfl (by rw [show Int32.ofInt 1 = nI 1 from rfl, nI_add]) (by decide) rfl (fun ls hl => ?_)
              refine lv_goto (tgt := 7) S.1 S.2.1 d_Mo_go_89 (by decide) ?_
              exact ih_7 (d + 1) f2 h (by omega) (by rw [md_m_end v3 (hrA v d hv (by omega)).1]; rw [show f 54 1 = i by omega]; exact hh) (by rw [md_m_end v3 (hrA v d hv (by omega)).1]; rw [show f 54 1 = i by omega]; exact hs) (by omega) H locs hw ls (lv_sub hl [1, 2, 3, 0] rfl)
            · have r4 := hrB i (by omega)
              have r5 := hrl _ r4.1
              have b4 := hb i (by omega)
              refine lv_aload_n S.1 S.2.1 d_Mo_go_29 rfl (lv_at hl 0 rfl) ?_
              refine dw_getf (fi := 4) (v := .ref (a 57)) S hw i_Mo ds_ob54 (by decide) rfl wd_366 rfl d_Mo_go_30 ?_
              refine lv_iload S.1 S.2.1 d_Mo_go_33 (lv_at hl 4 rfl) ?_
              refine dw_iald S.1 S.2.1 hw ds_k57 (by omega) d_Mo_go_35 ?_
              refine lv_iload_n S.1 S.2.1 d_Mo_go_36 rfl (lv_at hl 2 rfl) ?_
              refine dn_icmp_ne S.1 S.2.1 80 (by omega) (by omega) d_Mo_go_37 (by decide) (fun h_37 => ?_) (fun h_37 => ?_)
              · have hsk : ¬ (rw v d = i ∧ (fun x => f K x == v) i = true) := by
                  intro q
                  have q2 := hrA v d hv (by omega)
                  rw [q.1] at q2
                  have q3 := q.2
                  simp at q3
                  omega
                refine lv_iinc (v := nI (i + 1)) (lv' := [(4, .int (nI (i + 1))), (0, .ref (a 54)), (1, .ref (a K)), (2, .int (nI v)), (3, .int (nI d))]) S.1 S.2.1 d_Mo_go_80 hl (k := 4) rfl (by rw [show Int32.ofInt 1 = nI 1 from rfl, nI_add]) (by decide) rfl (fun ls hl => ?_)
                refine lv_goto (tgt := 20) S.1 S.2.1 d_Mo_go_83 (by decide) ?_
                exact ih_20 (i + 1) f2 h (by omega) (by rw [md_m_skip hsk]; exact hh) (by rw [md_m_skip hsk]; exact hs) (by omega) H locs hw ls (lv_sub hl [1, 2, 3, 4, 0] rfl)
              · refine lv_aload_n S.1 S.2.1 d_Mo_go_40 rfl (lv_at hl 0 rfl) ?_
                refine dw_getf (fi := 5) (v := .ref (a 58)) S hw i_Mo ds_ob54 (by decide) rfl wd_367 rfl d_Mo_go_41 ?_
                refine lv_iload S.1 S.2.1 d_Mo_go_44 (lv_at hl 4 rfl) ?_
                refine dw_iald S.1 S.2.1 hw ds_k58 (by omega) d_Mo_go_46 ?_
                refine lv_iload_n S.1 S.2.1 d_Mo_go_47 rfl (lv_at hl 3 rfl) ?_
                refine dn_icmp_ne S.1 S.2.1 80 (by omega) (by omega) d_Mo_go_48 (by decide) (fun h_48 => ?_) (fun h_48 => ?_)
                · have hsk : ¬ (rw v d = i ∧ (fun x => f K x == v) i = true) := by
                    intro q
                    have q2 := hrA v d hv (by omega)
                    rw [q.1] at q2
                    have q3 := q.2
                    simp at q3
                    omega
                  refine lv_iinc (v := nI (i + 1)) (lv' := [(4, .int (nI (i + 1))), (0, .ref (a 54)), (1, .ref (a K)), (2, .int (nI v)), (3, .int (nI d))]) S.1 S.2.1 d_Mo_go_80 hl (k := 4) rfl (by rw [show Int32.ofInt 1 = nI 1 from rfl, nI_add]) (by decide) rfl (fun ls hl => ?_)
                  refine lv_goto (tgt := 20) S.1 S.2.1 d_Mo_go_83 (by decide) ?_
                  exact ih_20 (i + 1) f2 h (by omega) (by rw [md_m_skip hsk]; exact hh) (by rw [md_m_skip hsk]; exact hs) (by omega) H locs hw ls (lv_sub hl [1, 2, 3, 4, 0] rfl)
                · refine lv_aload_n S.1 S.2.1 d_Mo_go_51 rfl (lv_at hl 1 rfl) ?_
                  refine lv_iload S.1 S.2.1 d_Mo_go_52 (lv_at hl 4 rfl) ?_
                  refine dw_iald S.1 S.2.1 hw hK (by omega) d_Mo_go_54 ?_
                  refine lv_iload_n S.1 S.2.1 d_Mo_go_55 rfl (lv_at hl 2 rfl) ?_
                  refine dn_icmp_ne S.1 S.2.1 80 (by omega) (by omega) d_Mo_go_56 (by decide) (fun h_56 => ?_) (fun h_56 => ?_)
                  · have hsk : ¬ (rw v d = i ∧ (fun x => f K x == v) i = true) := by
                      intro q
                      have q2 := hrA v d hv (by omega)
                      rw [q.1] at q2
                      have q3 := q.2
                      simp at q3
                      omega
                    refine lv_iinc (v := nI (i + 1)) (lv' := [(4, .int (nI (i + 1))), (0, .ref (a 54)), (1, .ref (a K)), (2, .int (nI v)), (3, .int (nI d))]) S.1 S.2.1 d_Mo_go_80 hl (k := 4) rfl (by rw [show Int32.ofInt 1 = nI 1 from rfl, nI_add]) (by decide) rfl (fun ls hl => ?_)
                    refine lv_goto (tgt := 20) S.1 S.2.1 d_Mo_go_83 (by decide) ?_
                    exact ih_20 (i + 1) f2 h (by omega) (by rw [md_m_skip hsk]; exact hh) (by rw [md_m_skip hsk]; exact hs) (by omega) H locs hw ls (lv_sub hl [1, 2, 3, 4, 0] rfl)
                  · have hri : rw v d = i := by have q := r4.2.2; rw [show f 57 i = v by omega, show f 58 i = d by omega] at q; exact q
                    have hPi : (fun x => f K x == v) i = true := by simp; omega
                    have hlt := md_row_lt (f := f) (P := (fun x => f K x == v)) v3 (by omega) hri hPi
                    refine lv_aload_n S.1 S.2.1 d_Mo_go_59 rfl (lv_at hl 0 rfl) ?_
                    refine dw_getf (fi := 24) (v := .ref (a 74)) S hw i_Mo ds_ob54 (by decide) rfl wd_386 rfl d_Mo_go_60 ?_
                    refine lv_aload_n S.1 S.2.1 d_Mo_go_63 rfl (lv_at hl 0 rfl) ?_
                    refine dw_getf (fi := 25) (v := .int (nI (f2 54 25))) S hw i_Mo ds_ob54 (by decide) rfl wd_387 rfl d_Mo_go_64 ?_
                    refine lv_iload S.1 S.2.1 d_Mo_go_67 (lv_at hl 4 rfl) ?_
                    refine dw_iast S.1 S.2.1 hw ds_k74 (by omega) d_Mo_go_69 (fun f_4 H locs ef_4 hw => ?_)
                    have eA := ef_4
                    refine lv_aload_n S.1 S.2.1 d_Mo_go_70 rfl (lv_at hl 0 rfl) ?_
                    refine lv_dup S.1 S.2.1 d_Mo_go_71 rfl ?_
                    refine dw_getf (fi := 25) (v := .int (nI (f_4 54 25))) S hw i_Mo ds_ob54 (by decide) rfl wd_387 rfl d_Mo_go_72 ?_
                    refine lv_iconst (v := nI 1) S.1 S.2.1 d_Mo_go_75 (by decide) ?_
                    refine dn_iadd S.1 S.2.1 d_Mo_go_76 ?_
                    refine dw_putf (fi := 25) S hw i_Mo t_Mo t_Mo_ok n_Mo ds_ob54 (by decide) rfl wd_387 rfl (by decide +kernel) (Nat.le_of_ble_eq_true rfl) rfl d_Mo_go_77 (fun f_5 H locs ef_5 hw => ?_)
                    refine lv_iinc (v := nI (i + 1)) (lv' := [(4, .int (nI (i + 1))), (0, .ref (a 54)), (1, .ref (a K)), (2, .int (nI v)), (3, .int (nI d))]) S.1 S.2.1 d_Mo_go_80 hl (k := 4) rfl (by rw [show Int32.ofInt 1 = nI 1 from rfl, nI_add]) (by decide) rfl (fun ls hl => ?_)
                    refine lv_goto (tgt := 20) S.1 S.2.1 d_Mo_go_83 (by decide) ?_
                    exact ih_20 (i + 1) f_5 (dw_up h (((ds_row (md_v f rw) v d).filter (fun x => f K x == v)) ++ md_m rw (fun x => f K x == v) v d i).length i) (by omega) (by rw [md_m_hit hri hPi, ← List.append_assoc]; exact md_pushed hh eA ef_5) (by rw [md_m_hit hri hPi, ← List.append_assoc]; have q := ds_is_push i hs; rwa [Nat.zero_add] at q) (by omega) H locs hw ls (lv_sub hl [1, 2, 3, 4, 0] rfl)
        exact loop_20 _ 0 f2 h (Nat.zero_le _) (by rw [md_m_0, List.append_nil]; exact hh) (by rw [md_m_0, List.append_nil]; exact hs) (Nat.lt_succ_self _) H locs hw ls (lv_sub hl [1, 2, 3, 4, 0] rfl)
  exact loop_7 _ 0 f_1 (f 74) (Nat.zero_le _) (by rw [ef_1, md_r_self]; rfl) (ds_is_nil _ _) (Nat.lt_succ_self _) H locs hw ls (lv_sub hl [1, 2, 3, 0] rfl)
