/-! contracts of the reference: tests of its search -/
set_option maxHeartbeats 4000000 in
set_option maxRecDepth 100000 in
theorem m_holdsApart (l : Launch) (D : va_G) (g : Nat → ClassId) (a : Nat → Nat) (f : Nat → Nat → Nat) (rw : Nat → Nat → Nat) (ok : ds_ok (md_v f rw)) (ht : ∀ x, x < f 54 1 → f 66 x ≤ f 54 0) : ds_I l D g a y_Mo_holdsApart b_Mo_holdsApart 4 .boolean 1 22 [.ref (a 54)] f (fun r u => r = nI (dn_b (md_ap (md_v f rw) (f 66) (f 54 1) = true)) ∧ u = f) := by
  refine dw_ofI (by decide) (fun _ _ h => h.1 ▸ dn_nar) (Nat.le_of_ble_eq_true rfl) ?_
  intro p e s m args below meth c ls A Q R H locs hR hA S hN hw hl hret
  have hl : lv_has ls 4 [(0, .ref (a 54))] := hl
  have S : CallFix p m c b_Mo_holdsApart 4 s args ds_T R_Mo := S
  obtain ⟨hV, hn, hex, hst, hve, hrA, hrB, hrl, hwy⟩ := md_facts ok
  refine lv_iconst (v := nI 1) S.1 S.2.1 d_Mo_holdsApart_0 (by decide) ?_
  refine lv_istore_n (lv' := [(1, .int (nI 1)), (0, .ref (a 54))]) S.1 S.2.1 d_Mo_holdsApart_1 rfl hl (by decide) rfl (fun ls hl => ?_)
  refine lv_iconst (v := nI 0) S.1 S.2.1 d_Mo_holdsApart_2 (by decide) ?_
  refine lv_istore_n (lv' := [(2, .int (nI 0)), (1, .int (nI 1)), (0, .ref (a 54))]) S.1 S.2.1 d_Mo_holdsApart_3 rfl hl (by decide) rfl (fun ls hl => ?_)
  have loop_4 : ∀ (n : Nat) (b : Nat) (i : Nat) (hi : i ≤ f 54 1) (eb : b = dn_b (md_ap (md_v f rw) (f 66) i = true)) (_ : f 54 1 - i < n) (H : Heap) (locs : List Loc), dw_W D classes (ds_tys g) A s.heap (dw_l 77 (ds_ce g a) a f) s H locs → ∀ (ls : Array Slot), lv_has ls 4 [(0, .ref (a 54)), (1, .int (nI b)), (2, .int (nI i))] → W p l e R s m args below meth c H locs 0 0 Q (F0 m 4 ls []) := by
    intro n
    induction n with
    | zero => intro b i hi eb h9; exact absurd h9 (Nat.not_lt_zero _)
    | succ n ih_4 =>
      intro b i hi eb hm_4 H locs hw ls hl
      have b1 : b ≤ 1 := by rw [eb]; exact dn_ble
      refine lv_iload_n S.1 S.2.1 d_Mo_holdsApart_4 rfl (lv_at hl 2 rfl) ?_
      refine lv_aload_n S.1 S.2.1 d_Mo_holdsApart_5 rfl (lv_at hl 0 rfl) ?_
      refine dw_getf (fi := 1) (v := .int (nI (f 54 1))) S hw i_Mo ds_ob54 (by decide) rfl wd_363 rfl d_Mo_holdsApart_6 ?_
      refine dn_icmp_ge S.1 S.2.1 108 (by omega) (by omega) d_Mo_holdsApart_9 (by decide) (fun h_9 => ?_) (fun h_9 => ?_)
      · refine lv_iload_n S.1 S.2.1 d_Mo_holdsApart_108 rfl (lv_at hl 1 rfl) ?_
        exact hret H locs _ ls _ _ hw (⟨by rw [eb, show i = f 54 1 by omega], rfl⟩) d_Mo_holdsApart_109
      · have t1 := ht i (by omega)
        have s1 := hst i (by omega)
        have r1 := hrB i (by omega)
        refine lv_aload_n S.1 S.2.1 d_Mo_holdsApart_12 rfl (lv_at hl 0 rfl) ?_
        refine dw_getf (fi := 14) (v := .ref (a 66)) S hw i_Mo ds_ob54 (by decide) rfl wd_376 rfl d_Mo_holdsApart_13 ?_
        refine lv_iload_n S.1 S.2.1 d_Mo_holdsApart_16 rfl (lv_at hl 2 rfl) ?_
        refine dw_iald S.1 S.2.1 hw ds_k66 (by omega) d_Mo_holdsApart_17 ?_
        refine lv_aload_n S.1 S.2.1 d_Mo_holdsApart_18 rfl (lv_at hl 0 rfl) ?_
        refine dw_getf (fi := 0) (v := .int (nI (f 54 0))) S hw i_Mo ds_ob54 (by decide) rfl wd_362 rfl d_Mo_holdsApart_19 ?_
        refine dn_icmp_ne S.1 S.2.1 29 (by omega) (by omega) d_Mo_holdsApart_22 (by decide) (fun h_22 => ?_) (fun h_22 => ?_)
        · refine lv_iconst (v := nI 0) S.1 S.2.1 d_Mo_holdsApart_29 (by decide) ?_
          refine lv_istore_n (lv' := [(3, .int (nI 0)), (0, .ref (a 54)), (1, .int (nI b)), (2, .int (nI i))]) S.1 S.2.1 d_Mo_holdsApart_30 rfl hl (by decide) rfl (fun ls hl => ?_)
          refine lv_iload_n S.1 S.2.1 d_Mo_holdsApart_31 rfl (lv_at hl 2 rfl) ?_
          refine dn_if_eq S.1 S.2.1 63 (by omega) d_Mo_holdsApart_32 (by decide) (fun h_32 => ?_) (fun h_32 => ?_)
          · have hap := dn_bz0 eb h_32
            refine lv_iconst (v := nI 0) S.1 S.2.1 d_Mo_holdsApart_63 (by decide) ?_
            refine lv_istore_n (lv' := [(1, .int (nI 0)), (3, .int (nI 0)), (0, .ref (a 54)), (2, .int (nI i))]) S.1 S.2.1 d_Mo_holdsApart_64 rfl hl (by decide) rfl (fun ls hl => ?_)
            refine lv_iload_n S.1 S.2.1 d_Mo_holdsApart_65 rfl (lv_at hl 0 rfl) ?_
            refine dn_if_eq S.1 S.2.1 100 (by decide) d_Mo_holdsApart_66 (by decide) (fun h_66 => ?_) (fun h_66 => absurd h_66 (by decide))
            refine lv_iconst (v := nI 0) S.1 S.2.1 d_Mo_holdsApart_100 (by decide) ?_
            refine lv_istore_n (lv' := [(1, .int (nI 0)), (3, .int (nI 0)), (0, .ref (a 54)), (2, .int (nI i))]) S.1 S.2.1 d_Mo_holdsApart_101 rfl hl (by decide) rfl (fun ls hl => ?_)
            refine lv_iinc (v := nI (i + 1)) (lv' := [(2, .int (nI (i + 1))), (1, .int (nI 0)), (3, .int (nI 0)), (0, .ref (a 54))]) S.1 S.2.1 d_Mo_holdsApart_102 hl (k := 3) rfl (by rw [show Int32.ofInt 1 = nI 1 from rfl, nI_add]) (by decide) rfl (fun ls hl => ?_)
            refine lv_goto (tgt := 4) S.1 S.2.1 d_Mo_holdsApart_105 (by decide) ?_
            exact ih_4 0 (i + 1) (by omega) (by rw [dn_b0 (by rw [show md_ap (md_v f rw) (f 66) (i + 1) = (md_ap (md_v f rw) (f 66) i && ds_may (md_v f rw) i (f 66 i)) from rfl, md_may]; simp [hap, h_22] <;> omega)]) (by omega) H locs hw ls (lv_sub hl [3, 1, 0] rfl)
          · have hap := dn_bnz eb h_32
            refine lv_aload_n S.1 S.2.1 d_Mo_holdsApart_35 rfl (lv_at hl 1 rfl) ?_
            refine dw_getf (fi := 7) (v := .ref (a 60)) S hw i_Mo ds_ob54 (by decide) rfl wd_369 rfl d_Mo_holdsApart_36 ?_
            refine lv_iload_n S.1 S.2.1 d_Mo_holdsApart_39 rfl (lv_at hl 3 rfl) ?_
            refine dw_zald S.1 S.2.1 hw ds_k60 (by omega) d_Mo_holdsApart_40 ?_
            refine dn_if_eq S.1 S.2.1 59 (by omega) d_Mo_holdsApart_41 (by decide) (fun h_41 => ?_) (fun h_41 => ?_)
            · refine lv_iconst (v := nI 1) S.1 S.2.1 d_Mo_holdsApart_59 (by decide) ?_
              refine lv_goto (tgt := 64) S.1 S.2.1 d_Mo_holdsApart_60 (by decide) ?_
              refine lv_istore_n (lv' := [(1, .int (nI 1)), (3, .int (nI 0)), (0, .ref (a 54)), (2, .int (nI i))]) S.1 S.2.1 d_Mo_holdsApart_64 rfl hl (by decide) rfl (fun ls hl => ?_)
              refine lv_iload_n S.1 S.2.1 d_Mo_holdsApart_65 rfl (lv_at hl 0 rfl) ?_
              refine dn_if_eq S.1 S.2.1 100 (by decide) d_Mo_holdsApart_66 (by decide) (fun h_66 => absurd h_66 (by decide)) (fun h_66 => ?_)
              refine lv_iload_n S.1 S.2.1 d_Mo_holdsApart_69 rfl (lv_at hl 1 rfl) ?_
              refine dn_if_ne S.1 S.2.1 96 (by decide) d_Mo_holdsApart_70 (by decide) (fun h_70 => absurd h_70 (by decide)) (fun h_70 => ?_)
              refine lv_aload_n S.1 S.2.1 d_Mo_holdsApart_73 rfl (lv_at hl 2 rfl) ?_
              refine dw_getf (fi := 8) (v := .ref (a 61)) S hw i_Mo ds_ob54 (by decide) rfl wd_370 rfl d_Mo_holdsApart_74 ?_
              refine lv_iload_n S.1 S.2.1 d_Mo_holdsApart_77 rfl (lv_at hl 3 rfl) ?_
              refine dw_zald S.1 S.2.1 hw ds_k61 (by omega) d_Mo_holdsApart_78 ?_
              refine dn_if_ne S.1 S.2.1 100 (by omega) d_Mo_holdsApart_79 (by decide) (fun h_79 => ?_) (fun h_79 => ?_)
              · refine lv_iconst (v := nI 0) S.1 S.2.1 d_Mo_holdsApart_100 (by decide) ?_
                refine lv_istore_n (lv' := [(1, .int (nI 0)), (3, .int (nI 0)), (0, .ref (a 54)), (2, .int (nI i))]) S.1 S.2.1 d_Mo_holdsApart_101 rfl hl (by decide) rfl (fun ls hl => ?_)
                refine lv_iinc (v := nI (i + 1)) (lv' := [(2, .int (nI (i + 1))), (1, .int (nI 0)), (3, .int (nI 0)), (0, .ref (a 54))]) S.1 S.2.1 d_Mo_holdsApart_102 hl (k := 3) rfl (by rw [show Int32.ofInt 1 = nI 1 from rfl, nI_add]) (by decide) rfl (fun ls hl => ?_)
                refine lv_goto (tgt := 4) S.1 S.2.1 d_Mo_holdsApart_105 (by decide) ?_
                exact ih_4 0 (i + 1) (by omega) (by rw [dn_b0 (by rw [show md_ap (md_v f rw) (f 66) (i + 1) = (md_ap (md_v f rw) (f 66) i && ds_may (md_v f rw) i (f 66 i)) from rfl, md_may]; simp [hap, h_22, h_41, h_79] <;> omega)]) (by omega) H locs hw ls (lv_sub hl [3, 1, 0] rfl)
              · refine lv_aload_n S.1 S.2.1 d_Mo_holdsApart_82 rfl (lv_at hl 2 rfl) ?_
                refine lv_aload_n S.1 S.2.1 d_Mo_holdsApart_83 rfl (lv_at hl 2 rfl) ?_
                refine dw_getf (fi := 14) (v := .ref (a 66)) S hw i_Mo ds_ob54 (by decide) rfl wd_376 rfl d_Mo_holdsApart_84 ?_
                refine lv_iload_n S.1 S.2.1 d_Mo_holdsApart_87 rfl (lv_at hl 3 rfl) ?_
                refine dw_iald S.1 S.2.1 hw ds_k66 (by omega) d_Mo_holdsApart_88 ?_
                refine lv_iload_n S.1 S.2.1 d_Mo_holdsApart_89 rfl (lv_at hl 3 rfl) ?_
                refine dw_afti hw hA (dw_runV (As := [.int (nI (f 66 i)), .int (nI i)]) (rest := []) (ko := 54) hw S ds_good (m_can l D g a f rw (f 66 i) i (ok) (by omega) (by omega) H.size) cw_Mo_can wd_526 wd_528 ws_Mo_can ds_ob54 dw_blind (dw_pre hw hN) rfl hl.1 rfl ⟨Nat.le_trans (Nat.le_of_ble_eq_true rfl) hR.1, Nat.le_trans (Nat.le_of_ble_eq_true rfl) hR.2⟩ (Nat.le_of_ble_eq_true rfl) ⟨Nat.zero_le _, Nat.zero_le _⟩ d_Mo_holdsApart_90) (fun r_90 f_1 H locs hp hw => ?_)
                obtain ⟨er, ef⟩ := hp
                subst er
                rw [ef] at hw
                refine dn_ifb_eq S.1 S.2.1 100 d_Mo_holdsApart_93 (by decide) (fun h_93 => ?_) (fun h_93 => ?_)
                · refine lv_iconst (v := nI 0) S.1 S.2.1 d_Mo_holdsApart_100 (by decide) ?_
                  refine lv_istore_n (lv' := [(1, .int (nI 0)), (3, .int (nI 0)), (0, .ref (a 54)), (2, .int (nI i))]) S.1 S.2.1 d_Mo_holdsApart_101 rfl hl (by decide) rfl (fun ls hl => ?_)
                  refine lv_iinc (v := nI (i + 1)) (lv' := [(2, .int (nI (i + 1))), (1, .int (nI 0)), (3, .int (nI 0)), (0, .ref (a 54))]) S.1 S.2.1 d_Mo_holdsApart_102 hl (k := 3) rfl (by rw [show Int32.ofInt 1 = nI 1 from rfl, nI_add]) (by decide) rfl (fun ls hl => ?_)
                  refine lv_goto (tgt := 4) S.1 S.2.1 d_Mo_holdsApart_105 (by decide) ?_
                  exact ih_4 0 (i + 1) (by omega) (by rw [dn_b0 (by rw [show md_ap (md_v f rw) (f 66) (i + 1) = (md_ap (md_v f rw) (f 66) i && ds_may (md_v f rw) i (f 66 i)) from rfl, md_may]; simp [hap, h_22, h_41, h_79, h_93] <;> omega)]) (by omega) H locs hw ls (lv_sub hl [3, 1, 0] rfl)
                · refine lv_iconst (v := nI 1) S.1 S.2.1 d_Mo_holdsApart_96 (by decide) ?_
                  refine lv_goto (tgt := 101) S.1 S.2.1 d_Mo_holdsApart_97 (by decide) ?_
                  refine lv_istore_n (lv' := [(1, .int (nI 1)), (3, .int (nI 0)), (0, .ref (a 54)), (2, .int (nI i))]) S.1 S.2.1 d_Mo_holdsApart_101 rfl hl (by decide) rfl (fun ls hl => ?_)
                  refine lv_iinc (v := nI (i + 1)) (lv' := [(2, .int (nI (i + 1))), (1, .int (nI 1)), (3, .int (nI 0)), (0, .ref (a 54))]) S.1 S.2.1 d_Mo_holdsApart_102 hl (k := 3) rfl (by rw [show Int32.ofInt 1 = nI 1 from rfl, nI_add]) (by decide) rfl (fun ls hl => ?_)
                  refine lv_goto (tgt := 4) S.1 S.2.1 d_Mo_holdsApart_105 (by decide) ?_
                  exact ih_4 1 (i + 1) (by omega) (by rw [dn_b1 (by rw [show md_ap (md_v f rw) (f 66) (i + 1) = (md_ap (md_v f rw) (f 66) i && ds_may (md_v f rw) i (f 66 i)) from rfl, md_may]; simp [hap, h_22, h_41, h_79, h_93] <;> omega)]) (by omega) H locs hw ls (lv_sub hl [3, 1, 0] rfl)
            · refine lv_aload_n S.1 S.2.1 d_Mo_holdsApart_44 rfl (lv_at hl 1 rfl) ?_
              refine dw_getf (fi := 14) (v := .ref (a 66)) S hw i_Mo ds_ob54 (by decide) rfl wd_376 rfl d_Mo_holdsApart_45 ?_
              refine lv_iload_n S.1 S.2.1 d_Mo_holdsApart_48 rfl (lv_at hl 3 rfl) ?_
              refine dw_iald S.1 S.2.1 hw ds_k66 (by omega) d_Mo_holdsApart_49 ?_
              refine lv_aload_n S.1 S.2.1 d_Mo_holdsApart_50 rfl (lv_at hl 1 rfl) ?_
              refine dw_getf (fi := 4) (v := .ref (a 57)) S hw i_Mo ds_ob54 (by decide) rfl wd_366 rfl d_Mo_holdsApart_51 ?_
              refine lv_iload_n S.1 S.2.1 d_Mo_holdsApart_54 rfl (lv_at hl 3 rfl) ?_
              refine dw_iald S.1 S.2.1 hw ds_k57 (by omega) d_Mo_holdsApart_55 ?_
              refine dn_icmp_ne S.1 S.2.1 63 (by omega) (by omega) d_Mo_holdsApart_56 (by decide) (fun h_56 => ?_) (fun h_56 => ?_)
              · have h_57 : ¬ f 57 i = f 66 i := by omega
                refine lv_iconst (v := nI 0) S.1 S.2.1 d_Mo_holdsApart_63 (by decide) ?_
                refine lv_istore_n (lv' := [(1, .int (nI 0)), (3, .int (nI 0)), (0, .ref (a 54)), (2, .int (nI i))]) S.1 S.2.1 d_Mo_holdsApart_64 rfl hl (by decide) rfl (fun ls hl => ?_)
                refine lv_iload_n S.1 S.2.1 d_Mo_holdsApart_65 rfl (lv_at hl 0 rfl) ?_
                refine dn_if_eq S.1 S.2.1 100 (by decide) d_Mo_holdsApart_66 (by decide) (fun h_66 => ?_) (fun h_66 => absurd h_66 (by decide))
                refine lv_iconst (v := nI 0) S.1 S.2.1 d_Mo_holdsApart_100 (by decide) ?_
                refine lv_istore_n (lv' := [(1, .int (nI 0)), (3, .int (nI 0)), (0, .ref (a 54)), (2, .int (nI i))]) S.1 S.2.1 d_Mo_holdsApart_101 rfl hl (by decide) rfl (fun ls hl => ?_)
                refine lv_iinc (v := nI (i + 1)) (lv' := [(2, .int (nI (i + 1))), (1, .int (nI 0)), (3, .int (nI 0)), (0, .ref (a 54))]) S.1 S.2.1 d_Mo_holdsApart_102 hl (k := 3) rfl (by rw [show Int32.ofInt 1 = nI 1 from rfl, nI_add]) (by decide) rfl (fun ls hl => ?_)
                refine lv_goto (tgt := 4) S.1 S.2.1 d_Mo_holdsApart_105 (by decide) ?_
                exact ih_4 0 (i + 1) (by omega) (by rw [dn_b0 (by rw [show md_ap (md_v f rw) (f 66) (i + 1) = (md_ap (md_v f rw) (f 66) i && ds_may (md_v f rw) i (f 66 i)) from rfl, md_may]; simp [hap, h_22, h_41, h_57] <;> omega)]) (by omega) H locs hw ls (lv_sub hl [3, 1, 0] rfl)
              · have h_57 : f 57 i = f 66 i := by omega
                refine lv_iconst (v := nI 1) S.1 S.2.1 d_Mo_holdsApart_59 (by decide) ?_
                refine lv_goto (tgt := 64) S.1 S.2.1 d_Mo_holdsApart_60 (by decide) ?_
                refine lv_istore_n (lv' := [(1, .int (nI 1)), (3, .int (nI 0)), (0, .ref (a 54)), (2, .int (nI i))]) S.1 S.2.1 d_Mo_holdsApart_64 rfl hl (by decide) rfl (fun ls hl => ?_)
                refine lv_iload_n S.1 S.2.1 d_Mo_holdsApart_65 rfl (lv_at hl 0 rfl) ?_
                refine dn_if_eq S.1 S.2.1 100 (by decide) d_Mo_holdsApart_66 (by decide) (fun h_66 => absurd h_66 (by decide)) (fun h_66 => ?_)
                refine lv_iload_n S.1 S.2.1 d_Mo_holdsApart_69 rfl (lv_at hl 1 rfl) ?_
                refine dn_if_ne S.1 S.2.1 96 (by decide) d_Mo_holdsApart_70 (by decide) (fun h_70 => absurd h_70 (by decide)) (fun h_70 => ?_)
                refine lv_aload_n S.1 S.2.1 d_Mo_holdsApart_73 rfl (lv_at hl 2 rfl) ?_
                refine dw_getf (fi := 8) (v := .ref (a 61)) S hw i_Mo ds_ob54 (by decide) rfl wd_370 rfl d_Mo_holdsApart_74 ?_
                refine lv_iload_n S.1 S.2.1 d_Mo_holdsApart_77 rfl (lv_at hl 3 rfl) ?_
                refine dw_zald S.1 S.2.1 hw ds_k61 (by omega) d_Mo_holdsApart_78 ?_
                refine dn_if_ne S.1 S.2.1 100 (by omega) d_Mo_holdsApart_79 (by decide) (fun h_79 => ?_) (fun h_79 => ?_)
                · refine lv_iconst (v := nI 0) S.1 S.2.1 d_Mo_holdsApart_100 (by decide) ?_
                  refine lv_istore_n (lv' := [(1, .int (nI 0)), (3, .int (nI 0)), (0, .ref (a 54)), (2, .int (nI i))]) S.1 S.2.1 d_Mo_holdsApart_101 rfl hl (by decide) rfl (fun ls hl => ?_)
                  refine lv_iinc (v := nI (i + 1)) (lv' := [(2, .int (nI (i + 1))), (1, .int (nI 0)), (3, .int (nI 0)), (0, .ref (a 54))]) S.1 S.2.1 d_Mo_holdsApart_102 hl (k := 3) rfl (by rw [show Int32.ofInt 1 = nI 1 from rfl, nI_add]) (by decide) rfl (fun ls hl => ?_)
                  refine lv_goto (tgt := 4) S.1 S.2.1 d_Mo_holdsApart_105 (by decide) ?_
                  exact ih_4 0 (i + 1) (by omega) (by rw [dn_b0 (by rw [show md_ap (md_v f rw) (f 66) (i + 1) = (md_ap (md_v f rw) (f 66) i && ds_may (md_v f rw) i (f 66 i)) from rfl, md_may]; simp [hap, h_22, h_41, h_79, h_57] <;> omega)]) (by omega) H locs hw ls (lv_sub hl [3, 1, 0] rfl)
                · refine lv_aload_n S.1 S.2.1 d_Mo_holdsApart_82 rfl (lv_at hl 2 rfl) ?_
                  refine lv_aload_n S.1 S.2.1 d_Mo_holdsApart_83 rfl (lv_at hl 2 rfl) ?_
                  refine dw_getf (fi := 14) (v := .ref (a 66)) S hw i_Mo ds_ob54 (by decide) rfl wd_376 rfl d_Mo_holdsApart_84 ?_
                  refine lv_iload_n S.1 S.2.1 d_Mo_holdsApart_87 rfl (lv_at hl 3 rfl) ?_
                  refine dw_iald S.1 S.2.1 hw ds_k66 (by omega) d_Mo_holdsApart_88 ?_
                  refine lv_iload_n S.1 S.2.1 d_Mo_holdsApart_89 rfl (lv_at hl 3 rfl) ?_
                  refine dw_afti hw hA (dw_runV (As := [.int (nI (f 66 i)), .int (nI i)]) (rest := []) (ko := 54) hw S ds_good (m_can l D g a f rw (f 66 i) i (ok) (by omega) (by omega) H.size) cw_Mo_can wd_526 wd_528 ws_Mo_can ds_ob54 dw_blind (dw_pre hw hN) rfl hl.1 rfl ⟨Nat.le_trans (Nat.le_of_ble_eq_true rfl) hR.1, Nat.le_trans (Nat.le_of_ble_eq_true rfl) hR.2⟩ (Nat.le_of_ble_eq_true rfl) ⟨Nat.zero_le _, Nat.zero_le _⟩ d_Mo_holdsApart_90) (fun r_90 f_2 H locs hp hw => ?_)
                  obtain ⟨er, ef⟩ := hp
                  subst er
                  rw [ef] at hw
                  refine dn_ifb_eq S.1 S.2.1 100 d_Mo_holdsApart_93 (by decide) (fun h_93 => ?_) (fun h_93 => ?_)
                  · refine lv_iconst (v := nI 0) S.1 S.2.1 d_Mo_holdsApart_100 (by decide) ?_
                    refine lv_istore_n (lv' := [(1, .int (nI 0)), (3, .int (nI 0)), (0, .ref (a 54)), (2, .int (nI i))]) S.1 S.2.1 d_Mo_holdsApart_101 rfl hl (by decide) rfl (fun ls hl => ?_)
                    refine lv_iinc (v := nI (i + 1)) (lv' := [(2, .int (nI (i + 1))), (1, .int (nI 0)), (3, .int (nI 0)), (0, .ref (a 54))]) S.1 S.2.1 d_Mo_holdsApart_102 hl (k := 3) rfl (by rw [show Int32.ofInt 1 = nI 1 from rfl, nI_add]) (by decide) rfl (fun ls hl => ?_)
                    refine lv_goto (tgt := 4) S.1 S.2.1 d_Mo_holdsApart_105 (by decide) ?_
                    exact ih_4 0 (i + 1) (by omega) (by rw [dn_b0 (by rw [show md_ap (md_v f rw) (f 66) (i + 1) = (md_ap (md_v f rw) (f 66) i && ds_may (md_v f rw) i (f 66 i)) from rfl, md_may]; simp [hap, h_22, h_41, h_79, h_93, h_57] <;> omega)]) (by omega) H locs hw ls (lv_sub hl [3, 1, 0] rfl)
                  · refine lv_iconst (v := nI 1) S.1 S.2.1 d_Mo_holdsApart_96 (by decide) ?_
                    refine lv_goto (tgt := 101) S.1 S.2.1 d_Mo_holdsApart_97 (by decide) ?_
                    refine lv_istore_n (lv' := [(1, .int (nI 1)), (3, .int (nI 0)), (0, .ref (a 54)), (2, .int (nI i))]) S.1 S.2.1 d_Mo_holdsApart_101 rfl hl (by decide) rfl (fun ls hl => ?_)
                    refine lv_iinc (v := nI (i + 1)) (lv' := [(2, .int (nI (i + 1))), (1, .int (nI 1)), (3, .int (nI 0)), (0, .ref (a 54))]) S.1 S.2.1 d_Mo_holdsApart_102 hl (k := 3) rfl (by rw [show Int32.ofInt 1 = nI 1 from rfl, nI_add]) (by decide) rfl (fun ls hl => ?_)
                    refine lv_goto (tgt := 4) S.1 S.2.1 d_Mo_holdsApart_105 (by decide) ?_
                    exact ih_4 1 (i + 1) (by omega) (by rw [dn_b1 (by rw [show md_ap (md_v f rw) (f 66) (i + 1) = (md_ap (md_v f rw) (f 66) i && ds_may (md_v f rw) i (f 66 i)) from rfl, md_may]; simp [hap, h_22, h_41, h_79, h_93, h_57] <;> omega)]) (by omega) H locs hw ls (lv_sub hl [3, 1, 0] rfl)
        · refine lv_iconst (v := nI 1) S.1 S.2.1 d_Mo_holdsApart_25 (by decide) ?_
          refine lv_goto (tgt := 30) S.1 S.2.1 d_Mo_holdsApart_26 (by decide) ?_
          refine lv_istore_n (lv' := [(3, .int (nI 1)), (0, .ref (a 54)), (1, .int (nI b)), (2, .int (nI i))]) S.1 S.2.1 d_Mo_holdsApart_30 rfl hl (by decide) rfl (fun ls hl => ?_)
          refine lv_iload_n S.1 S.2.1 d_Mo_holdsApart_31 rfl (lv_at hl 2 rfl) ?_
          refine dn_if_eq S.1 S.2.1 63 (by omega) d_Mo_holdsApart_32 (by decide) (fun h_32 => ?_) (fun h_32 => ?_)
          · have hap := dn_bz0 eb h_32
            refine lv_iconst (v := nI 0) S.1 S.2.1 d_Mo_holdsApart_63 (by decide) ?_
            refine lv_istore_n (lv' := [(1, .int (nI 0)), (3, .int (nI 1)), (0, .ref (a 54)), (2, .int (nI i))]) S.1 S.2.1 d_Mo_holdsApart_64 rfl hl (by decide) rfl (fun ls hl => ?_)
            refine lv_iload_n S.1 S.2.1 d_Mo_holdsApart_65 rfl (lv_at hl 0 rfl) ?_
            refine dn_if_eq S.1 S.2.1 100 (by decide) d_Mo_holdsApart_66 (by decide) (fun h_66 => ?_) (fun h_66 => absurd h_66 (by decide))
            refine lv_iconst (v := nI 0) S.1 S.2.1 d_Mo_holdsApart_100 (by decide) ?_
            refine lv_istore_n (lv' := [(1, .int (nI 0)), (3, .int (nI 1)), (0, .ref (a 54)), (2, .int (nI i))]) S.1 S.2.1 d_Mo_holdsApart_101 rfl hl (by decide) rfl (fun ls hl => ?_)
            refine lv_iinc (v := nI (i + 1)) (lv' := [(2, .int (nI (i + 1))), (1, .int (nI 0)), (3, .int (nI 1)), (0, .ref (a 54))]) S.1 S.2.1 d_Mo_holdsApart_102 hl (k := 3) rfl (by rw [show Int32.ofInt 1 = nI 1 from rfl, nI_add]) (by decide) rfl (fun ls hl => ?_)
            refine lv_goto (tgt := 4) S.1 S.2.1 d_Mo_holdsApart_105 (by decide) ?_
            exact ih_4 0 (i + 1) (by omega) (by rw [dn_b0 (by rw [show md_ap (md_v f rw) (f 66) (i + 1) = (md_ap (md_v f rw) (f 66) i && ds_may (md_v f rw) i (f 66 i)) from rfl, md_may]; simp [hap, h_22] <;> omega)]) (by omega) H locs hw ls (lv_sub hl [3, 1, 0] rfl)
          · have hap := dn_bnz eb h_32
            refine lv_aload_n S.1 S.2.1 d_Mo_holdsApart_35 rfl (lv_at hl 1 rfl) ?_
            refine dw_getf (fi := 7) (v := .ref (a 60)) S hw i_Mo ds_ob54 (by decide) rfl wd_369 rfl d_Mo_holdsApart_36 ?_
            refine lv_iload_n S.1 S.2.1 d_Mo_holdsApart_39 rfl (lv_at hl 3 rfl) ?_
            refine dw_zald S.1 S.2.1 hw ds_k60 (by omega) d_Mo_holdsApart_40 ?_
            refine dn_if_eq S.1 S.2.1 59 (by omega) d_Mo_holdsApart_41 (by decide) (fun h_41 => ?_) (fun h_41 => ?_)
            · refine lv_iconst (v := nI 1) S.1 S.2.1 d_Mo_holdsApart_59 (by decide) ?_
              refine lv_goto (tgt := 64) S.1 S.2.1 d_Mo_holdsApart_60 (by decide) ?_
              refine lv_istore_n (lv' := [(1, .int (nI 1)), (3, .int (nI 1)), (0, .ref (a 54)), (2, .int (nI i))]) S.1 S.2.1 d_Mo_holdsApart_64 rfl hl (by decide) rfl (fun ls hl => ?_)
              refine lv_iload_n S.1 S.2.1 d_Mo_holdsApart_65 rfl (lv_at hl 0 rfl) ?_
              refine dn_if_eq S.1 S.2.1 100 (by decide) d_Mo_holdsApart_66 (by decide) (fun h_66 => absurd h_66 (by decide)) (fun h_66 => ?_)
              refine lv_iload_n S.1 S.2.1 d_Mo_holdsApart_69 rfl (lv_at hl 1 rfl) ?_
              refine dn_if_ne S.1 S.2.1 96 (by decide) d_Mo_holdsApart_70 (by decide) (fun h_70 => ?_) (fun h_70 => absurd h_70 (by decide))
              refine lv_iconst (v := nI 1) S.1 S.2.1 d_Mo_holdsApart_96 (by decide) ?_
              refine lv_goto (tgt := 101) S.1 S.2.1 d_Mo_holdsApart_97 (by decide) ?_
              refine lv_istore_n (lv' := [(1, .int (nI 1)), (3, .int (nI 1)), (0, .ref (a 54)), (2, .int (nI i))]) S.1 S.2.1 d_Mo_holdsApart_101 rfl hl (by decide) rfl (fun ls hl => ?_)
              refine lv_iinc (v := nI (i + 1)) (lv' := [(2, .int (nI (i + 1))), (1, .int (nI 1)), (3, .int (nI 1)), (0, .ref (a 54))]) S.1 S.2.1 d_Mo_holdsApart_102 hl (k := 3) rfl (by rw [show Int32.ofInt 1 = nI 1 from rfl, nI_add]) (by decide) rfl (fun ls hl => ?_)
              refine lv_goto (tgt := 4) S.1 S.2.1 d_Mo_holdsApart_105 (by decide) ?_
              exact ih_4 1 (i + 1) (by omega) (by rw [dn_b1 (by rw [show md_ap (md_v f rw) (f 66) (i + 1) = (md_ap (md_v f rw) (f 66) i && ds_may (md_v f rw) i (f 66 i)) from rfl, md_may]; simp [hap, h_22, h_41] <;> omega)]) (by omega) H locs hw ls (lv_sub hl [3, 1, 0] rfl)
            · refine lv_aload_n S.1 S.2.1 d_Mo_holdsApart_44 rfl (lv_at hl 1 rfl) ?_
              refine dw_getf (fi := 14) (v := .ref (a 66)) S hw i_Mo ds_ob54 (by decide) rfl wd_376 rfl d_Mo_holdsApart_45 ?_
              refine lv_iload_n S.1 S.2.1 d_Mo_holdsApart_48 rfl (lv_at hl 3 rfl) ?_
              refine dw_iald S.1 S.2.1 hw ds_k66 (by omega) d_Mo_holdsApart_49 ?_
              refine lv_aload_n S.1 S.2.1 d_Mo_holdsApart_50 rfl (lv_at hl 1 rfl) ?_
              refine dw_getf (fi := 4) (v := .ref (a 57)) S hw i_Mo ds_ob54 (by decide) rfl wd_366 rfl d_Mo_holdsApart_51 ?_
              refine lv_iload_n S.1 S.2.1 d_Mo_holdsApart_54 rfl (lv_at hl 3 rfl) ?_
              refine dw_iald S.1 S.2.1 hw ds_k57 (by omega) d_Mo_holdsApart_55 ?_
              refine dn_icmp_ne S.1 S.2.1 63 (by omega) (by omega) d_Mo_holdsApart_56 (by decide) (fun h_56 => ?_) (fun h_56 => ?_)
              · have h_57 : ¬ f 57 i = f 66 i := by omega
                refine lv_iconst (v := nI 0) S.1 S.2.1 d_Mo_holdsApart_63 (by decide) ?_
                refine lv_istore_n (lv' := [(1, .int (nI 0)), (3, .int (nI 1)), (0, .ref (a 54)), (2, .int (nI i))]) S.1 S.2.1 d_Mo_holdsApart_64 rfl hl (by decide) rfl (fun ls hl => ?_)
                refine lv_iload_n S.1 S.2.1 d_Mo_holdsApart_65 rfl (lv_at hl 0 rfl) ?_
                refine dn_if_eq S.1 S.2.1 100 (by decide) d_Mo_holdsApart_66 (by decide) (fun h_66 => ?_) (fun h_66 => absurd h_66 (by decide))
                refine lv_iconst (v := nI 0) S.1 S.2.1 d_Mo_holdsApart_100 (by decide) ?_
                refine lv_istore_n (lv' := [(1, .int (nI 0)), (3, .int (nI 1)), (0, .ref (a 54)), (2, .int (nI i))]) S.1 S.2.1 d_Mo_holdsApart_101 rfl hl (by decide) rfl (fun ls hl => ?_)
                refine lv_iinc (v := nI (i + 1)) (lv' := [(2, .int (nI (i + 1))), (1, .int (nI 0)), (3, .int (nI 1)), (0, .ref (a 54))]) S.1 S.2.1 d_Mo_holdsApart_102 hl (k := 3) rfl (by rw [show Int32.ofInt 1 = nI 1 from rfl, nI_add]) (by decide) rfl (fun ls hl => ?_)
                refine lv_goto (tgt := 4) S.1 S.2.1 d_Mo_holdsApart_105 (by decide) ?_
                exact ih_4 0 (i + 1) (by omega) (by rw [dn_b0 (by rw [show md_ap (md_v f rw) (f 66) (i + 1) = (md_ap (md_v f rw) (f 66) i && ds_may (md_v f rw) i (f 66 i)) from rfl, md_may]; simp [hap, h_22, h_41, h_57] <;> omega)]) (by omega) H locs hw ls (lv_sub hl [3, 1, 0] rfl)
              · have h_57 : f 57 i = f 66 i := by omega
                refine lv_iconst (v := nI 1) S.1 S.2.1 d_Mo_holdsApart_59 (by decide) ?_
                refine lv_goto (tgt := 64) S.1 S.2.1 d_Mo_holdsApart_60 (by decide) ?_
                refine lv_istore_n (lv' := [(1, .int (nI 1)), (3, .int (nI 1)), (0, .ref (a 54)), (2, .int (nI i))]) S.1 S.2.1 d_Mo_holdsApart_64 rfl hl (by decide) rfl (fun ls hl => ?_)
                refine lv_iload_n S.1 S.2.1 d_Mo_holdsApart_65 rfl (lv_at hl 0 rfl) ?_
                refine dn_if_eq S.1 S.2.1 100 (by decide) d_Mo_holdsApart_66 (by decide) (fun h_66 => absurd h_66 (by decide)) (fun h_66 => ?_)
                refine lv_iload_n S.1 S.2.1 d_Mo_holdsApart_69 rfl (lv_at hl 1 rfl) ?_
                refine dn_if_ne S.1 S.2.1 96 (by decide) d_Mo_holdsApart_70 (by decide) (fun h_70 => ?_) (fun h_70 => absurd h_70 (by decide))
                refine lv_iconst (v := nI 1) S.1 S.2.1 d_Mo_holdsApart_96 (by decide) ?_
                refine lv_goto (tgt := 101) S.1 S.2.1 d_Mo_holdsApart_97 (by decide) ?_
                refine lv_istore_n (lv' := [(1, .int (nI 1)), (3, .int (nI 1)), (0, .ref (a 54)), (2, .int (nI i))]) S.1 S.2.1 d_Mo_holdsApart_101 rfl hl (by decide) rfl (fun ls hl => ?_)
                refine lv_iinc (v := nI (i + 1)) (lv' := [(2, .int (nI (i + 1))), (1, .int (nI 1)), (3, .int (nI 1)), (0, .ref (a 54))]) S.1 S.2.1 d_Mo_holdsApart_102 hl (k := 3) rfl (by rw [show Int32.ofInt 1 = nI 1 from rfl, nI_add]) (by decide) rfl (fun ls hl => ?_)
                refine lv_goto (tgt := 4) S.1 S.2.1 d_Mo_holdsApart_105 (by decide) ?_
                exact ih_4 1 (i + 1) (by omega) (by rw [dn_b1 (by rw [show md_ap (md_v f rw) (f 66) (i + 1) = (md_ap (md_v f rw) (f 66) i && ds_may (md_v f rw) i (f 66 i)) from rfl, md_may]; simp [hap, h_22, h_41, h_57] <;> omega)]) (by omega) H locs hw ls (lv_sub hl [3, 1, 0] rfl)
  exact loop_4 _ 1 0 (Nat.zero_le _) (rfl) (Nat.lt_succ_self _) H locs hw ls (lv_sub hl [2, 1, 0] rfl)
set_option maxHeartbeats 4000000 in
set_option maxRecDepth 100000 in
theorem m_holdsOvertime (l : Launch) (D : va_G) (g : Nat → ClassId) (a : Nat → Nat) (f : Nat → Nat → Nat) (rw : Nat → Nat → Nat) (ok : ds_ok (md_v f rw)) (ht : ∀ x, x < f 54 1 → f 66 x ≤ f 54 0) : ds_I l D g a y_Mo_holdsOvertime b_Mo_holdsOvertime 3 .boolean 3 72 [.ref (a 54)] f (fun r u => r = nI (dn_b (md_ho (md_v f rw) (f 66) (f 54 0) = true)) ∧ ∃ (h : Nat → Nat) (z : Nat), u = md_r f h z) := by
  refine dw_ofI (by decide) (fun _ _ h => h.1 ▸ dn_nar) (Nat.le_of_ble_eq_true rfl) ?_
  intro p e s m args below meth c ls A Q R H locs hR hA S hN hw hl hret
  have hl : lv_has ls 3 [(0, .ref (a 54))] := hl
  have S : CallFix p m c b_Mo_holdsOvertime 3 s args ds_T R_Mo := S
  obtain ⟨hV, hn, hex, hst, hve, hrA, hrB, hrl, hwy⟩ := md_facts ok
  refine lv_iconst (v := nI 1) S.1 S.2.1 d_Mo_holdsOvertime_0 (by decide) ?_
  refine lv_istore_n (lv' := [(1, .int (nI 1)), (0, .ref (a 54))]) S.1 S.2.1 d_Mo_holdsOvertime_1 rfl hl (by decide) rfl (fun ls hl => ?_)
  refine lv_iconst (v := nI 0) S.1 S.2.1 d_Mo_holdsOvertime_2 (by decide) ?_
  refine lv_istore_n (lv' := [(2, .int (nI 0)), (1, .int (nI 1)), (0, .ref (a 54))]) S.1 S.2.1 d_Mo_holdsOvertime_3 rfl hl (by decide) rfl (fun ls hl => ?_)
  have loop_4 : ∀ (n : Nat) (b : Nat) (v : Nat) (f2 : Nat → Nat → Nat) (h : Nat → Nat) (z : Nat) (hv : v ≤ f 54 0) (eb : b = dn_b (md_ho (md_v f rw) (f 66) v = true)) (hh : f2 = md_r f h z) (_ : f 54 0 - v < n) (H : Heap) (locs : List Loc), dw_W D classes (ds_tys g) A s.heap (dw_l 77 (ds_ce g a) a f2) s H locs → ∀ (ls : Array Slot), lv_has ls 3 [(0, .ref (a 54)), (1, .int (nI b)), (2, .int (nI v))] → W p l e R s m args below meth c H locs 0 0 Q (F0 m 4 ls []) := by
    intro n
    induction n with
    | zero => intro b v f2 h z hv eb hh h9; exact absurd h9 (Nat.not_lt_zero _)
    | succ n ih_4 =>
      intro b v f2 h z hv eb hh hm_4 H locs hw ls hl
      have b1 : b ≤ 1 := by rw [eb]; exact dn_ble
      have q0 : f2 54 0 = f 54 0 := by rw [hh, md_r_54 (by decide)]
      refine lv_iload_n S.1 S.2.1 d_Mo_holdsOvertime_4 rfl (lv_at hl 2 rfl) ?_
      refine lv_aload_n S.1 S.2.1 d_Mo_holdsOvertime_5 rfl (lv_at hl 0 rfl) ?_
      refine dw_getf (fi := 0) (v := .int (nI (f2 54 0))) S hw i_Mo ds_ob54 (by decide) rfl wd_362 rfl d_Mo_holdsOvertime_6 ?_
      refine dn_icmp_ge S.1 S.2.1 44 (by omega) (by omega) d_Mo_holdsOvertime_9 (by decide) (fun h_9 => ?_) (fun h_9 => ?_)
      · refine lv_iload_n S.1 S.2.1 d_Mo_holdsOvertime_44 rfl (lv_at hl 1 rfl) ?_
        exact hret H locs _ ls _ _ hw (⟨by rw [eb, show v = f 54 0 by omega], h, z, hh⟩) d_Mo_holdsOvertime_45
      · refine lv_iload_n S.1 S.2.1 d_Mo_holdsOvertime_12 rfl (lv_at hl 1 rfl) ?_
        refine dn_if_eq S.1 S.2.1 36 (by omega) d_Mo_holdsOvertime_13 (by decide) (fun h_13 => ?_) (fun h_13 => ?_)
        · have hap := dn_bz0 eb h_13
          refine lv_iconst (v := nI 0) S.1 S.2.1 d_Mo_holdsOvertime_36 (by decide) ?_
          refine lv_istore_n (lv' := [(1, .int (nI 0)), (0, .ref (a 54)), (2, .int (nI v))]) S.1 S.2.1 d_Mo_holdsOvertime_37 rfl hl (by decide) rfl (fun ls hl => ?_)
          refine lv_iinc (v := nI (v + 1)) (lv' := [(2, .int (nI (v + 1))), (1, .int (nI 0)), (0, .ref (a 54))]) S.1 S.2.1 d_Mo_holdsOvertime_38 hl (k := 2) rfl (by rw [show Int32.ofInt 1 = nI 1 from rfl, nI_add]) (by decide) rfl (fun ls hl => ?_)
          refine lv_goto (tgt := 4) S.1 S.2.1 d_Mo_holdsOvertime_41 (by decide) ?_
          exact ih_4 0 (v + 1) f2 h z (by omega) (by rw [dn_b0 (by rw [show md_ho (md_v f rw) (f 66) (v + 1) = (md_ho (md_v f rw) (f 66) v && decide (ds_tm (md_v f rw) (fun x => f 66 x == v) v - f 63 v ≤ f 54 12)) from rfl]; simp [hap])]) (hh) (by omega) H locs hw ls (lv_sub hl [2, 1, 0] rfl)
        · have hap := dn_bnz eb h_13
          have hv2 : v < f 54 0 := by omega
          have tb := ds_tm_b ok (fun zz => f 66 zz == v) hv2
          have q66 : f2 66 = f 66 := by rw [hh, md_r_ne (by decide) (by decide)]
          refine lv_aload_n S.1 S.2.1 d_Mo_holdsOvertime_16 rfl (lv_at hl 0 rfl) ?_
          refine lv_aload_n S.1 S.2.1 d_Mo_holdsOvertime_17 rfl (lv_at hl 0 rfl) ?_
          refine dw_getf (fi := 14) (v := .ref (a 66)) S hw i_Mo ds_ob54 (by decide) rfl wd_376 rfl d_Mo_holdsOvertime_18 ?_
          refine lv_iload_n S.1 S.2.1 d_Mo_holdsOvertime_21 rfl (lv_at hl 2 rfl) ?_
          refine dw_afti hw hA (dw_runV (As := [.ref (a 66), .int (nI v)]) (rest := []) (ko := 54) hw S ds_good (m_overtimeOf l D g a f2 rw 66 v (by rw [hh, md_v_r]; exact ok) (by rw [q0]; exact hv2) (ds_k66) (Or.inr rfl) (fun x hx => by rw [hh, md_r_54 (by decide)] at hx; rw [q66]; have := ht x hx; omega) H.size) cw_Mo_overtimeOf wd_506 wd_508 ws_Mo_overtimeOf ds_ob54 dw_blind (dw_pre hw hN) rfl hl.1 rfl ⟨Nat.le_trans (Nat.le_of_ble_eq_true rfl) hR.1, Nat.le_trans (Nat.le_of_ble_eq_true rfl) hR.2⟩ (Nat.le_of_ble_eq_true rfl) ⟨Nat.zero_le _, Nat.zero_le _⟩ d_Mo_holdsOvertime_22) (fun r_22 f_1 H locs hp hw => ?_)
          obtain ⟨er, hr2, zr2, ef_1⟩ := hp
          subst er
          refine ds_topi (w := nI (ds_tm (md_v f rw) (fun zz => f 66 zz == v) v - f 63 v)) (by rw [q66, hh, md_v_r, md_r_ne (by decide) (by decide)]) ?_
          have h1s : f_1 = md_r f hr2 zr2 := by rw [ef_1, hh, md_r_r]
          have q12 : f_1 54 12 = f 54 12 := by rw [h1s, md_r_54 (by decide)]
          refine lv_aload_n S.1 S.2.1 d_Mo_holdsOvertime_25 rfl (lv_at hl 0 rfl) ?_
          refine dw_getf (fi := 12) (v := .int (nI (f_1 54 12))) S hw i_Mo ds_ob54 (by decide) rfl wd_374 rfl d_Mo_holdsOvertime_26 ?_
          refine dn_icmp_gt S.1 S.2.1 36 (by omega) (by omega) d_Mo_holdsOvertime_29 (by decide) (fun h_29 => ?_) (fun h_29 => ?_)
          · have h_30 : ¬ ds_tm (md_v f rw) (fun x => f 66 x == v) v - f 63 v ≤ f 54 12 := by omega
            refine lv_iconst (v := nI 0) S.1 S.2.1 d_Mo_holdsOvertime_36 (by decide) ?_
            refine lv_istore_n (lv' := [(1, .int (nI 0)), (0, .ref (a 54)), (2, .int (nI v))]) S.1 S.2.1 d_Mo_holdsOvertime_37 rfl hl (by decide) rfl (fun ls hl => ?_)
            refine lv_iinc (v := nI (v + 1)) (lv' := [(2, .int (nI (v + 1))), (1, .int (nI 0)), (0, .ref (a 54))]) S.1 S.2.1 d_Mo_holdsOvertime_38 hl (k := 2) rfl (by rw [show Int32.ofInt 1 = nI 1 from rfl, nI_add]) (by decide) rfl (fun ls hl => ?_)
            refine lv_goto (tgt := 4) S.1 S.2.1 d_Mo_holdsOvertime_41 (by decide) ?_
            exact ih_4 0 (v + 1) f_1 hr2 zr2 (by omega) (by rw [dn_b0 (by rw [show md_ho (md_v f rw) (f 66) (v + 1) = (md_ho (md_v f rw) (f 66) v && decide (ds_tm (md_v f rw) (fun x => f 66 x == v) v - f 63 v ≤ f 54 12)) from rfl]; simp [hap, h_30])]) (h1s) (by omega) H locs hw ls (lv_sub hl [2, 1, 0] rfl)
          · have h_30 : ds_tm (md_v f rw) (fun x => f 66 x == v) v - f 63 v ≤ f 54 12 := by omega
            refine lv_iconst (v := nI 1) S.1 S.2.1 d_Mo_holdsOvertime_32 (by decide) ?_
            refine lv_goto (tgt := 37) S.1 S.2.1 d_Mo_holdsOvertime_33 (by decide) ?_
            refine lv_istore_n (lv' := [(1, .int (nI 1)), (0, .ref (a 54)), (2, .int (nI v))]) S.1 S.2.1 d_Mo_holdsOvertime_37 rfl hl (by decide) rfl (fun ls hl => ?_)
            refine lv_iinc (v := nI (v + 1)) (lv' := [(2, .int (nI (v + 1))), (1, .int (nI 1)), (0, .ref (a 54))]) S.1 S.2.1 d_Mo_holdsOvertime_38 hl (k := 2) rfl (by rw [show Int32.ofInt 1 = nI 1 from rfl, nI_add]) (by decide) rfl (fun ls hl => ?_)
            refine lv_goto (tgt := 4) S.1 S.2.1 d_Mo_holdsOvertime_41 (by decide) ?_
            exact ih_4 1 (v + 1) f_1 hr2 zr2 (by omega) (by rw [dn_b1 (by rw [show md_ho (md_v f rw) (f 66) (v + 1) = (md_ho (md_v f rw) (f 66) v && decide (ds_tm (md_v f rw) (fun x => f 66 x == v) v - f 63 v ≤ f 54 12)) from rfl]; simp [hap, h_30])]) (h1s) (by omega) H locs hw ls (lv_sub hl [2, 1, 0] rfl)
  exact loop_4 _ 1 0 f (f 74) (f 54 25) (Nat.zero_le _) (rfl) (md_r_id) (Nat.lt_succ_self _) H locs hw ls (lv_sub hl [2, 1, 0] rfl)
set_option maxHeartbeats 4000000 in
set_option maxRecDepth 100000 in
theorem m_why (l : Launch) (D : va_G) (g : Nat → ClassId) (a : Nat → Nat) (f : Nat → Nat → Nat) (rw : Nat → Nat → Nat) (ok : ds_ok (md_v f rw)) : ds_I l D g a y_Mo_why b_Mo_why 4 .int 1 22 [.ref (a 54)] f (fun r u => r = ds_why (md_v f rw) ∧ u = f) := by
  refine dw_ofI (by decide) (fun _ _ _ => rfl) (Nat.le_of_ble_eq_true rfl) ?_
  intro p e s m args below meth c ls A Q R H locs hR hA S hN hw hl hret
  have hl : lv_has ls 4 [(0, .ref (a 54))] := hl
  have S : CallFix p m c b_Mo_why 4 s args ds_T R_Mo := S
  obtain ⟨hV, hn, hex, hst, hve, hrA, hrB, hrl, hwy⟩ := md_facts ok
  have ew : ds_why (md_v f rw) = (if ds_any (fun x => f 60 x != 0 && f 61 x != 0) (f 54 1) = true then (-2) else if ds_any (fun x => f 60 x != 0 && !ds_can (md_v f rw) (f 57 x) x) (f 54 1) = true then (-3) else (-4)) := rfl
  refine lv_iconst (v := nI 0) S.1 S.2.1 d_Mo_why_0 (by decide) ?_
  refine lv_istore_n (lv' := [(1, .int (nI 0)), (0, .ref (a 54))]) S.1 S.2.1 d_Mo_why_1 rfl hl (by decide) rfl (fun ls hl => ?_)
  refine lv_iconst (v := nI 0) S.1 S.2.1 d_Mo_why_2 (by decide) ?_
  refine lv_istore_n (lv' := [(2, .int (nI 0)), (1, .int (nI 0)), (0, .ref (a 54))]) S.1 S.2.1 d_Mo_why_3 rfl hl (by decide) rfl (fun ls hl => ?_)
  refine lv_iconst (v := nI 0) S.1 S.2.1 d_Mo_why_4 (by decide) ?_
  refine lv_istore_n (lv' := [(3, .int (nI 0)), (2, .int (nI 0)), (1, .int (nI 0)), (0, .ref (a 54))]) S.1 S.2.1 d_Mo_why_5 rfl hl (by decide) rfl (fun ls hl => ?_)
  have loop_6 : ∀ (n : Nat) (b : Nat) (d : Nat) (i : Nat) (hi : i ≤ f 54 1) (e1 : b = dn_b (ds_any (fun x => f 60 x != 0 && f 61 x != 0) i = true)) (e2 : d = dn_b (ds_any (fun x => f 60 x != 0 && !ds_can (md_v f rw) (f 57 x) x) i = true)) (_ : f 54 1 - i < n) (H : Heap) (locs : List Loc), dw_W D classes (ds_tys g) A s.heap (dw_l 77 (ds_ce g a) a f) s H locs → ∀ (ls : Array Slot), lv_has ls 4 [(0, .ref (a 54)), (1, .int (nI b)), (2, .int (nI d)), (3, .int (nI i))] → W p l e R s m args below meth c H locs 0 0 Q (F0 m 6 ls []) := by
    intro n
    induction n with
    | zero => intro b d i hi e1 e2 h9; exact absurd h9 (Nat.not_lt_zero _)
    | succ n ih_6 =>
      intro b d i hi e1 e2 hm_6 H locs hw ls hl
      have b1 : b ≤ 1 := by rw [e1]; exact dn_ble
      have b2 : d ≤ 1 := by rw [e2]; exact dn_ble
      refine lv_iload_n S.1 S.2.1 d_Mo_why_6 rfl (lv_at hl 3 rfl) ?_
      refine lv_aload_n S.1 S.2.1 d_Mo_why_7 rfl (lv_at hl 0 rfl) ?_
      refine dw_getf (fi := 1) (v := .int (nI (f 54 1))) S hw i_Mo ds_ob54 (by decide) rfl wd_363 rfl d_Mo_why_8 ?_
      refine dn_icmp_ge S.1 S.2.1 81 (by omega) (by omega) d_Mo_why_11 (by decide) (fun h_11 => ?_) (fun h_11 => ?_)
      · rw [show i = f 54 1 by omega] at e1 e2
        refine lv_iload_n S.1 S.2.1 d_Mo_why_81 rfl (lv_at hl 1 rfl) ?_
        refine dn_if_eq S.1 S.2.1 90 (by omega) d_Mo_why_82 (by decide) (fun h_82 => ?_) (fun h_82 => ?_)
        · refine lv_iload_n S.1 S.2.1 d_Mo_why_90 rfl (lv_at hl 2 rfl) ?_
          refine dn_if_eq S.1 S.2.1 99 (by omega) d_Mo_why_91 (by decide) (fun h_91 => ?_) (fun h_91 => ?_)
          · refine lv_bipush (v := (-4)) S.1 S.2.1 d_Mo_why_99 (by decide) ?_
            exact hret H locs _ ls _ _ hw (⟨by rw [ew, if_neg (dn_bz0 e1 h_82), if_neg (dn_bz0 e2 h_91)], rfl⟩) d_Mo_why_101
          · refine lv_bipush (v := (-3)) S.1 S.2.1 d_Mo_why_94 (by decide) ?_
            refine lv_goto (tgt := 101) S.1 S.2.1 d_Mo_why_96 (by decide) ?_
            exact hret H locs _ ls _ _ hw (⟨by rw [ew, if_neg (dn_bz0 e1 h_82), if_pos (dn_bnz e2 h_91)], rfl⟩) d_Mo_why_101
        · refine lv_bipush (v := (-2)) S.1 S.2.1 d_Mo_why_85 (by decide) ?_
          refine lv_goto (tgt := 101) S.1 S.2.1 d_Mo_why_87 (by decide) ?_
          exact hret H locs _ ls _ _ hw (⟨by rw [ew, if_pos (dn_bnz e1 h_82)], rfl⟩) d_Mo_why_101
      · have s1 := hst i (by omega)
        have r1 := hrB i (by omega)
        refine lv_iload_n S.1 S.2.1 d_Mo_why_14 rfl (lv_at hl 1 rfl) ?_
        refine dn_if_ne S.1 S.2.1 36 (by omega) d_Mo_why_15 (by decide) (fun h_15 => ?_) (fun h_15 => ?_)
        · have g1 := dn_bnz e1 h_15
          refine lv_iconst (v := nI 1) S.1 S.2.1 d_Mo_why_36 (by decide) ?_
          refine lv_goto (tgt := 41) S.1 S.2.1 d_Mo_why_37 (by decide) ?_
          refine lv_istore_n (lv' := [(1, .int (nI 1)), (0, .ref (a 54)), (2, .int (nI d)), (3, .int (nI i))]) S.1 S.2.1 d_Mo_why_41 rfl hl (by decide) rfl (fun ls hl => ?_)
          refine lv_iload_n S.1 S.2.1 d_Mo_why_42 rfl (lv_at hl 2 rfl) ?_
          refine dn_if_ne S.1 S.2.1 69 (by omega) d_Mo_why_43 (by decide) (fun h_43 => ?_) (fun h_43 => ?_)
          · have g2 := dn_bnz e2 h_43
            refine lv_iconst (v := nI 1) S.1 S.2.1 d_Mo_why_69 (by decide) ?_
            refine lv_goto (tgt := 74) S.1 S.2.1 d_Mo_why_70 (by decide) ?_
            refine lv_istore_n (lv' := [(2, .int (nI 1)), (1, .int (nI 1)), (0, .ref (a 54)), (3, .int (nI i))]) S.1 S.2.1 d_Mo_why_74 rfl hl (by decide) rfl (fun ls hl => ?_)
            refine lv_iinc (v := nI (i + 1)) (lv' := [(3, .int (nI (i + 1))), (2, .int (nI 1)), (1, .int (nI 1)), (0, .ref (a 54))]) S.1 S.2.1 d_Mo_why_75 hl (k := 3) rfl (by rw [show Int32.ofInt 1 = nI 1 from rfl, nI_add]) (by decide) rfl (fun ls hl => ?_)
            refine lv_goto (tgt := 6) S.1 S.2.1 d_Mo_why_78 (by decide) ?_
            exact ih_6 1 1 (i + 1) (by omega) (by rw [dn_b1 (by simp [ds_any, g1])]) (by rw [dn_b1 (by simp [ds_any, g2])]) (by omega) H locs hw ls (lv_sub hl [3, 2, 1, 0] rfl)
          · have g2 := dn_bz0 e2 h_43
            refine lv_aload_n S.1 S.2.1 d_Mo_why_46 rfl (lv_at hl 1 rfl) ?_
            refine dw_getf (fi := 7) (v := .ref (a 60)) S hw i_Mo ds_ob54 (by decide) rfl wd_369 rfl d_Mo_why_47 ?_
            refine lv_iload_n S.1 S.2.1 d_Mo_why_50 rfl (lv_at hl 3 rfl) ?_
            refine dw_zald S.1 S.2.1 hw ds_k60 (by omega) d_Mo_why_51 ?_
            refine dn_if_eq S.1 S.2.1 73 (by omega) d_Mo_why_52 (by decide) (fun h_52 => ?_) (fun h_52 => ?_)
            · refine lv_iconst (v := nI 0) S.1 S.2.1 d_Mo_why_73 (by decide) ?_
              refine lv_istore_n (lv' := [(2, .int (nI 0)), (1, .int (nI 1)), (0, .ref (a 54)), (3, .int (nI i))]) S.1 S.2.1 d_Mo_why_74 rfl hl (by decide) rfl (fun ls hl => ?_)
              refine lv_iinc (v := nI (i + 1)) (lv' := [(3, .int (nI (i + 1))), (2, .int (nI 0)), (1, .int (nI 1)), (0, .ref (a 54))]) S.1 S.2.1 d_Mo_why_75 hl (k := 3) rfl (by rw [show Int32.ofInt 1 = nI 1 from rfl, nI_add]) (by decide) rfl (fun ls hl => ?_)
              refine lv_goto (tgt := 6) S.1 S.2.1 d_Mo_why_78 (by decide) ?_
              exact ih_6 1 0 (i + 1) (by omega) (by rw [dn_b1 (by simp [ds_any, g1])]) (by rw [dn_b0 (by simp [ds_any, g2, h_52])]) (by omega) H locs hw ls (lv_sub hl [3, 2, 1, 0] rfl)
            · refine lv_aload_n S.1 S.2.1 d_Mo_why_55 rfl (lv_at hl 1 rfl) ?_
              refine lv_aload_n S.1 S.2.1 d_Mo_why_56 rfl (lv_at hl 1 rfl) ?_
              refine dw_getf (fi := 4) (v := .ref (a 57)) S hw i_Mo ds_ob54 (by decide) rfl wd_366 rfl d_Mo_why_57 ?_
              refine lv_iload_n S.1 S.2.1 d_Mo_why_60 rfl (lv_at hl 3 rfl) ?_
              refine dw_iald S.1 S.2.1 hw ds_k57 (by omega) d_Mo_why_61 ?_
              refine lv_iload_n S.1 S.2.1 d_Mo_why_62 rfl (lv_at hl 3 rfl) ?_
              refine dw_afti hw hA (dw_runV (As := [.int (nI (f 57 i)), .int (nI i)]) (rest := []) (ko := 54) hw S ds_good (m_can l D g a f rw (f 57 i) i (ok) (r1.1) (by omega) H.size) cw_Mo_can wd_526 wd_528 ws_Mo_can ds_ob54 dw_blind (dw_pre hw hN) rfl hl.1 rfl ⟨Nat.le_trans (Nat.le_of_ble_eq_true rfl) hR.1, Nat.le_trans (Nat.le_of_ble_eq_true rfl) hR.2⟩ (Nat.le_of_ble_eq_true rfl) ⟨Nat.zero_le _, Nat.zero_le _⟩ d_Mo_why_63) (fun r_63 f_1 H locs hp hw => ?_)
              obtain ⟨er, ef⟩ := hp
              subst er
              rw [ef] at hw
              refine dn_ifb_ne S.1 S.2.1 73 d_Mo_why_66 (by decide) (fun h_66 => ?_) (fun h_66 => ?_)
              · refine lv_iconst (v := nI 0) S.1 S.2.1 d_Mo_why_73 (by decide) ?_
                refine lv_istore_n (lv' := [(2, .int (nI 0)), (1, .int (nI 1)), (0, .ref (a 54)), (3, .int (nI i))]) S.1 S.2.1 d_Mo_why_74 rfl hl (by decide) rfl (fun ls hl => ?_)
                refine lv_iinc (v := nI (i + 1)) (lv' := [(3, .int (nI (i + 1))), (2, .int (nI 0)), (1, .int (nI 1)), (0, .ref (a 54))]) S.1 S.2.1 d_Mo_why_75 hl (k := 3) rfl (by rw [show Int32.ofInt 1 = nI 1 from rfl, nI_add]) (by decide) rfl (fun ls hl => ?_)
                refine lv_goto (tgt := 6) S.1 S.2.1 d_Mo_why_78 (by decide) ?_
                exact ih_6 1 0 (i + 1) (by omega) (by rw [dn_b1 (by simp [ds_any, g1])]) (by rw [dn_b0 (by simp [ds_any, g2, h_52, h_66])]) (by omega) H locs hw ls (lv_sub hl [3, 2, 1, 0] rfl)
              · refine lv_iconst (v := nI 1) S.1 S.2.1 d_Mo_why_69 (by decide) ?_
                refine lv_goto (tgt := 74) S.1 S.2.1 d_Mo_why_70 (by decide) ?_
                refine lv_istore_n (lv' := [(2, .int (nI 1)), (1, .int (nI 1)), (0, .ref (a 54)), (3, .int (nI i))]) S.1 S.2.1 d_Mo_why_74 rfl hl (by decide) rfl (fun ls hl => ?_)
                refine lv_iinc (v := nI (i + 1)) (lv' := [(3, .int (nI (i + 1))), (2, .int (nI 1)), (1, .int (nI 1)), (0, .ref (a 54))]) S.1 S.2.1 d_Mo_why_75 hl (k := 3) rfl (by rw [show Int32.ofInt 1 = nI 1 from rfl, nI_add]) (by decide) rfl (fun ls hl => ?_)
                refine lv_goto (tgt := 6) S.1 S.2.1 d_Mo_why_78 (by decide) ?_
                exact ih_6 1 1 (i + 1) (by omega) (by rw [dn_b1 (by simp [ds_any, g1])]) (by rw [dn_b1 (by simp [ds_any, g2, h_52, h_66])]) (by omega) H locs hw ls (lv_sub hl [3, 2, 1, 0] rfl)
        · have g1 := dn_bz0 e1 h_15
          refine lv_aload_n S.1 S.2.1 d_Mo_why_18 rfl (lv_at hl 0 rfl) ?_
          refine dw_getf (fi := 7) (v := .ref (a 60)) S hw i_Mo ds_ob54 (by decide) rfl wd_369 rfl d_Mo_why_19 ?_
          refine lv_iload_n S.1 S.2.1 d_Mo_why_22 rfl (lv_at hl 3 rfl) ?_
          refine dw_zald S.1 S.2.1 hw ds_k60 (by omega) d_Mo_why_23 ?_
          refine dn_if_eq S.1 S.2.1 40 (by omega) d_Mo_why_24 (by decide) (fun h_24 => ?_) (fun h_24 => ?_)
          · refine lv_iconst (v := nI 0) S.1 S.2.1 d_Mo_why_40 (by decide) ?_
            refine lv_istore_n (lv' := [(1, .int (nI 0)), (0, .ref (a 54)), (2, .int (nI d)), (3, .int (nI i))]) S.1 S.2.1 d_Mo_why_41 rfl hl (by decide) rfl (fun ls hl => ?_)
            refine lv_iload_n S.1 S.2.1 d_Mo_why_42 rfl (lv_at hl 2 rfl) ?_
            refine dn_if_ne S.1 S.2.1 69 (by omega) d_Mo_why_43 (by decide) (fun h_43 => ?_) (fun h_43 => ?_)
            · have g2 := dn_bnz e2 h_43
              refine lv_iconst (v := nI 1) S.1 S.2.1 d_Mo_why_69 (by decide) ?_
              refine lv_goto (tgt := 74) S.1 S.2.1 d_Mo_why_70 (by decide) ?_
              refine lv_istore_n (lv' := [(2, .int (nI 1)), (1, .int (nI 0)), (0, .ref (a 54)), (3, .int (nI i))]) S.1 S.2.1 d_Mo_why_74 rfl hl (by decide) rfl (fun ls hl => ?_)
              refine lv_iinc (v := nI (i + 1)) (lv' := [(3, .int (nI (i + 1))), (2, .int (nI 1)), (1, .int (nI 0)), (0, .ref (a 54))]) S.1 S.2.1 d_Mo_why_75 hl (k := 3) rfl (by rw [show Int32.ofInt 1 = nI 1 from rfl, nI_add]) (by decide) rfl (fun ls hl => ?_)
              refine lv_goto (tgt := 6) S.1 S.2.1 d_Mo_why_78 (by decide) ?_
              exact ih_6 0 1 (i + 1) (by omega) (by rw [dn_b0 (by simp [ds_any, g1, h_24])]) (by rw [dn_b1 (by simp [ds_any, g2])]) (by omega) H locs hw ls (lv_sub hl [3, 2, 1, 0] rfl)
            · have g2 := dn_bz0 e2 h_43
              refine lv_aload_n S.1 S.2.1 d_Mo_why_46 rfl (lv_at hl 1 rfl) ?_
              refine dw_getf (fi := 7) (v := .ref (a 60)) S hw i_Mo ds_ob54 (by decide) rfl wd_369 rfl d_Mo_why_47 ?_
              refine lv_iload_n S.1 S.2.1 d_Mo_why_50 rfl (lv_at hl 3 rfl) ?_
              refine dw_zald S.1 S.2.1 hw ds_k60 (by omega) d_Mo_why_51 ?_
              refine dn_if_eq S.1 S.2.1 73 (by omega) d_Mo_why_52 (by decide) (fun h_52 => ?_) (fun h_52 => ?_)
              · refine lv_iconst (v := nI 0) S.1 S.2.1 d_Mo_why_73 (by decide) ?_
                refine lv_istore_n (lv' := [(2, .int (nI 0)), (1, .int (nI 0)), (0, .ref (a 54)), (3, .int (nI i))]) S.1 S.2.1 d_Mo_why_74 rfl hl (by decide) rfl (fun ls hl => ?_)
                refine lv_iinc (v := nI (i + 1)) (lv' := [(3, .int (nI (i + 1))), (2, .int (nI 0)), (1, .int (nI 0)), (0, .ref (a 54))]) S.1 S.2.1 d_Mo_why_75 hl (k := 3) rfl (by rw [show Int32.ofInt 1 = nI 1 from rfl, nI_add]) (by decide) rfl (fun ls hl => ?_)
                refine lv_goto (tgt := 6) S.1 S.2.1 d_Mo_why_78 (by decide) ?_
                exact ih_6 0 0 (i + 1) (by omega) (by rw [dn_b0 (by simp [ds_any, g1, h_24])]) (by rw [dn_b0 (by simp [ds_any, g2, h_52])]) (by omega) H locs hw ls (lv_sub hl [3, 2, 1, 0] rfl)
              · refine lv_aload_n S.1 S.2.1 d_Mo_why_55 rfl (lv_at hl 1 rfl) ?_
                refine lv_aload_n S.1 S.2.1 d_Mo_why_56 rfl (lv_at hl 1 rfl) ?_
                refine dw_getf (fi := 4) (v := .ref (a 57)) S hw i_Mo ds_ob54 (by decide) rfl wd_366 rfl d_Mo_why_57 ?_
                refine lv_iload_n S.1 S.2.1 d_Mo_why_60 rfl (lv_at hl 3 rfl) ?_
                refine dw_iald S.1 S.2.1 hw ds_k57 (by omega) d_Mo_why_61 ?_
                refine lv_iload_n S.1 S.2.1 d_Mo_why_62 rfl (lv_at hl 3 rfl) ?_
                refine dw_afti hw hA (dw_runV (As := [.int (nI (f 57 i)), .int (nI i)]) (rest := []) (ko := 54) hw S ds_good (m_can l D g a f rw (f 57 i) i (ok) (r1.1) (by omega) H.size) cw_Mo_can wd_526 wd_528 ws_Mo_can ds_ob54 dw_blind (dw_pre hw hN) rfl hl.1 rfl ⟨Nat.le_trans (Nat.le_of_ble_eq_true rfl) hR.1, Nat.le_trans (Nat.le_of_ble_eq_true rfl) hR.2⟩ (Nat.le_of_ble_eq_true rfl) ⟨Nat.zero_le _, Nat.zero_le _⟩ d_Mo_why_63) (fun r_63 f_2 H locs hp hw => ?_)
                obtain ⟨er, ef⟩ := hp
                subst er
                rw [ef] at hw
                refine dn_ifb_ne S.1 S.2.1 73 d_Mo_why_66 (by decide) (fun h_66 => ?_) (fun h_66 => ?_)
                · refine lv_iconst (v := nI 0) S.1 S.2.1 d_Mo_why_73 (by decide) ?_
                  refine lv_istore_n (lv' := [(2, .int (nI 0)), (1, .int (nI 0)), (0, .ref (a 54)), (3, .int (nI i))]) S.1 S.2.1 d_Mo_why_74 rfl hl (by decide) rfl (fun ls hl => ?_)
                  refine lv_iinc (v := nI (i + 1)) (lv' := [(3, .int (nI (i + 1))), (2, .int (nI 0)), (1, .int (nI 0)), (0, .ref (a 54))]) S.1 S.2.1 d_Mo_why_75 hl (k := 3) rfl (by rw [show Int32.ofInt 1 = nI 1 from rfl, nI_add]) (by decide) rfl (fun ls hl => ?_)
                  refine lv_goto (tgt := 6) S.1 S.2.1 d_Mo_why_78 (by decide) ?_
                  exact ih_6 0 0 (i + 1) (by omega) (by rw [dn_b0 (by simp [ds_any, g1, h_24])]) (by rw [dn_b0 (by simp [ds_any, g2, h_52, h_66])]) (by omega) H locs hw ls (lv_sub hl [3, 2, 1, 0] rfl)
                · refine lv_iconst (v := nI 1) S.1 S.2.1 d_Mo_why_69 (by decide) ?_
                  refine lv_goto (tgt := 74) S.1 S.2.1 d_Mo_why_70 (by decide) ?_
                  refine lv_istore_n (lv' := [(2, .int (nI 1)), (1, .int (nI 0)), (0, .ref (a 54)), (3, .int (nI i))]) S.1 S.2.1 d_Mo_why_74 rfl hl (by decide) rfl (fun ls hl => ?_)
                  refine lv_iinc (v := nI (i + 1)) (lv' := [(3, .int (nI (i + 1))), (2, .int (nI 1)), (1, .int (nI 0)), (0, .ref (a 54))]) S.1 S.2.1 d_Mo_why_75 hl (k := 3) rfl (by rw [show Int32.ofInt 1 = nI 1 from rfl, nI_add]) (by decide) rfl (fun ls hl => ?_)
                  refine lv_goto (tgt := 6) S.1 S.2.1 d_Mo_why_78 (by decide) ?_
                  exact ih_6 0 1 (i + 1) (by omega) (by rw [dn_b0 (by simp [ds_any, g1, h_24])]) (by rw [dn_b1 (by simp [ds_any, g2, h_52, h_66])]) (by omega) H locs hw ls (lv_sub hl [3, 2, 1, 0] rfl)
          · refine lv_aload_n S.1 S.2.1 d_Mo_why_27 rfl (lv_at hl 0 rfl) ?_
            refine dw_getf (fi := 8) (v := .ref (a 61)) S hw i_Mo ds_ob54 (by decide) rfl wd_370 rfl d_Mo_why_28 ?_
            refine lv_iload_n S.1 S.2.1 d_Mo_why_31 rfl (lv_at hl 3 rfl) ?_
            refine dw_zald S.1 S.2.1 hw ds_k61 (by omega) d_Mo_why_32 ?_
            refine dn_if_eq S.1 S.2.1 40 (by omega) d_Mo_why_33 (by decide) (fun h_33 => ?_) (fun h_33 => ?_)
            · refine lv_iconst (v := nI 0) S.1 S.2.1 d_Mo_why_40 (by decide) ?_
              refine lv_istore_n (lv' := [(1, .int (nI 0)), (0, .ref (a 54)), (2, .int (nI d)), (3, .int (nI i))]) S.1 S.2.1 d_Mo_why_41 rfl hl (by decide) rfl (fun ls hl => ?_)
              refine lv_iload_n S.1 S.2.1 d_Mo_why_42 rfl (lv_at hl 2 rfl) ?_
              refine dn_if_ne S.1 S.2.1 69 (by omega) d_Mo_why_43 (by decide) (fun h_43 => ?_) (fun h_43 => ?_)
              · have g2 := dn_bnz e2 h_43
                refine lv_iconst (v := nI 1) S.1 S.2.1 d_Mo_why_69 (by decide) ?_
                refine lv_goto (tgt := 74) S.1 S.2.1 d_Mo_why_70 (by decide) ?_
                refine lv_istore_n (lv' := [(2, .int (nI 1)), (1, .int (nI 0)), (0, .ref (a 54)), (3, .int (nI i))]) S.1 S.2.1 d_Mo_why_74 rfl hl (by decide) rfl (fun ls hl => ?_)
                refine lv_iinc (v := nI (i + 1)) (lv' := [(3, .int (nI (i + 1))), (2, .int (nI 1)), (1, .int (nI 0)), (0, .ref (a 54))]) S.1 S.2.1 d_Mo_why_75 hl (k := 3) rfl (by rw [show Int32.ofInt 1 = nI 1 from rfl, nI_add]) (by decide) rfl (fun ls hl => ?_)
                refine lv_goto (tgt := 6) S.1 S.2.1 d_Mo_why_78 (by decide) ?_
                exact ih_6 0 1 (i + 1) (by omega) (by rw [dn_b0 (by simp [ds_any, g1, h_24, h_33])]) (by rw [dn_b1 (by simp [ds_any, g2])]) (by omega) H locs hw ls (lv_sub hl [3, 2, 1, 0] rfl)
              · have g2 := dn_bz0 e2 h_43
                refine lv_aload_n S.1 S.2.1 d_Mo_why_46 rfl (lv_at hl 1 rfl) ?_
                refine dw_getf (fi := 7) (v := .ref (a 60)) S hw i_Mo ds_ob54 (by decide) rfl wd_369 rfl d_Mo_why_47 ?_
                refine lv_iload_n S.1 S.2.1 d_Mo_why_50 rfl (lv_at hl 3 rfl) ?_
                refine dw_zald S.1 S.2.1 hw ds_k60 (by omega) d_Mo_why_51 ?_
                refine dn_if_eq S.1 S.2.1 73 (by omega) d_Mo_why_52 (by decide) (fun h_52 => ?_) (fun h_52 => ?_)
                · refine lv_iconst (v := nI 0) S.1 S.2.1 d_Mo_why_73 (by decide) ?_
                  refine lv_istore_n (lv' := [(2, .int (nI 0)), (1, .int (nI 0)), (0, .ref (a 54)), (3, .int (nI i))]) S.1 S.2.1 d_Mo_why_74 rfl hl (by decide) rfl (fun ls hl => ?_)
                  refine lv_iinc (v := nI (i + 1)) (lv' := [(3, .int (nI (i + 1))), (2, .int (nI 0)), (1, .int (nI 0)), (0, .ref (a 54))]) S.1 S.2.1 d_Mo_why_75 hl (k := 3) rfl (by rw [show Int32.ofInt 1 = nI 1 from rfl, nI_add]) (by decide) rfl (fun ls hl => ?_)
                  refine lv_goto (tgt := 6) S.1 S.2.1 d_Mo_why_78 (by decide) ?_
                  exact ih_6 0 0 (i + 1) (by omega) (by rw [dn_b0 (by simp [ds_any, g1, h_24, h_33])]) (by rw [dn_b0 (by simp [ds_any, g2, h_52])]) (by omega) H locs hw ls (lv_sub hl [3, 2, 1, 0] rfl)
                · refine lv_aload_n S.1 S.2.1 d_Mo_why_55 rfl (lv_at hl 1 rfl) ?_
                  refine lv_aload_n S.1 S.2.1 d_Mo_why_56 rfl (lv_at hl 1 rfl) ?_
                  refine dw_getf (fi := 4) (v := .ref (a 57)) S hw i_Mo ds_ob54 (by decide) rfl wd_366 rfl d_Mo_why_57 ?_
                  refine lv_iload_n S.1 S.2.1 d_Mo_why_60 rfl (lv_at hl 3 rfl) ?_
                  refine dw_iald S.1 S.2.1 hw ds_k57 (by omega) d_Mo_why_61 ?_
                  refine lv_iload_n S.1 S.2.1 d_Mo_why_62 rfl (lv_at hl 3 rfl) ?_
                  refine dw_afti hw hA (dw_runV (As := [.int (nI (f 57 i)), .int (nI i)]) (rest := []) (ko := 54) hw S ds_good (m_can l D g a f rw (f 57 i) i (ok) (r1.1) (by omega) H.size) cw_Mo_can wd_526 wd_528 ws_Mo_can ds_ob54 dw_blind (dw_pre hw hN) rfl hl.1 rfl ⟨Nat.le_trans (Nat.le_of_ble_eq_true rfl) hR.1, Nat.le_trans (Nat.le_of_ble_eq_true rfl) hR.2⟩ (Nat.le_of_ble_eq_true rfl) ⟨Nat.zero_le _, Nat.zero_le _⟩ d_Mo_why_63) (fun r_63 f_3 H locs hp hw => ?_)
                  obtain ⟨er, ef⟩ := hp
                  subst er
                  rw [ef] at hw
                  refine dn_ifb_ne S.1 S.2.1 73 d_Mo_why_66 (by decide) (fun h_66 => ?_) (fun h_66 => ?_)
                  · refine lv_iconst (v := nI 0) S.1 S.2.1 d_Mo_why_73 (by decide) ?_
                    refine lv_istore_n (lv' := [(2, .int (nI 0)), (1, .int (nI 0)), (0, .ref (a 54)), (3, .int (nI i))]) S.1 S.2.1 d_Mo_why_74 rfl hl (by decide) rfl (fun ls hl => ?_)
                    refine lv_iinc (v := nI (i + 1)) (lv' := [(3, .int (nI (i + 1))), (2, .int (nI 0)), (1, .int (nI 0)), (0, .ref (a 54))]) S.1 S.2.1 d_Mo_why_75 hl (k := 3) rfl (by rw [show Int32.ofInt 1 = nI 1 from rfl, nI_add]) (by decide) rfl (fun ls hl => ?_)
                    refine lv_goto (tgt := 6) S.1 S.2.1 d_Mo_why_78 (by decide) ?_
                    exact ih_6 0 0 (i + 1) (by omega) (by rw [dn_b0 (by simp [ds_any, g1, h_24, h_33])]) (by rw [dn_b0 (by simp [ds_any, g2, h_52, h_66])]) (by omega) H locs hw ls (lv_sub hl [3, 2, 1, 0] rfl)
                  · refine lv_iconst (v := nI 1) S.1 S.2.1 d_Mo_why_69 (by decide) ?_
                    refine lv_goto (tgt := 74) S.1 S.2.1 d_Mo_why_70 (by decide) ?_
                    refine lv_istore_n (lv' := [(2, .int (nI 1)), (1, .int (nI 0)), (0, .ref (a 54)), (3, .int (nI i))]) S.1 S.2.1 d_Mo_why_74 rfl hl (by decide) rfl (fun ls hl => ?_)
                    refine lv_iinc (v := nI (i + 1)) (lv' := [(3, .int (nI (i + 1))), (2, .int (nI 1)), (1, .int (nI 0)), (0, .ref (a 54))]) S.1 S.2.1 d_Mo_why_75 hl (k := 3) rfl (by rw [show Int32.ofInt 1 = nI 1 from rfl, nI_add]) (by decide) rfl (fun ls hl => ?_)
                    refine lv_goto (tgt := 6) S.1 S.2.1 d_Mo_why_78 (by decide) ?_
                    exact ih_6 0 1 (i + 1) (by omega) (by rw [dn_b0 (by simp [ds_any, g1, h_24, h_33])]) (by rw [dn_b1 (by simp [ds_any, g2, h_52, h_66])]) (by omega) H locs hw ls (lv_sub hl [3, 2, 1, 0] rfl)
            · refine lv_iconst (v := nI 1) S.1 S.2.1 d_Mo_why_36 (by decide) ?_
              refine lv_goto (tgt := 41) S.1 S.2.1 d_Mo_why_37 (by decide) ?_
              refine lv_istore_n (lv' := [(1, .int (nI 1)), (0, .ref (a 54)), (2, .int (nI d)), (3, .int (nI i))]) S.1 S.2.1 d_Mo_why_41 rfl hl (by decide) rfl (fun ls hl => ?_)
              refine lv_iload_n S.1 S.2.1 d_Mo_why_42 rfl (lv_at hl 2 rfl) ?_
              refine dn_if_ne S.1 S.2.1 69 (by omega) d_Mo_why_43 (by decide) (fun h_43 => ?_) (fun h_43 => ?_)
              · have g2 := dn_bnz e2 h_43
                refine lv_iconst (v := nI 1) S.1 S.2.1 d_Mo_why_69 (by decide) ?_
                refine lv_goto (tgt := 74) S.1 S.2.1 d_Mo_why_70 (by decide) ?_
                refine lv_istore_n (lv' := [(2, .int (nI 1)), (1, .int (nI 1)), (0, .ref (a 54)), (3, .int (nI i))]) S.1 S.2.1 d_Mo_why_74 rfl hl (by decide) rfl (fun ls hl => ?_)
                refine lv_iinc (v := nI (i + 1)) (lv' := [(3, .int (nI (i + 1))), (2, .int (nI 1)), (1, .int (nI 1)), (0, .ref (a 54))]) S.1 S.2.1 d_Mo_why_75 hl (k := 3) rfl (by rw [show Int32.ofInt 1 = nI 1 from rfl, nI_add]) (by decide) rfl (fun ls hl => ?_)
                refine lv_goto (tgt := 6) S.1 S.2.1 d_Mo_why_78 (by decide) ?_
                exact ih_6 1 1 (i + 1) (by omega) (by rw [dn_b1 (by simp [ds_any, g1, h_24, h_33])]) (by rw [dn_b1 (by simp [ds_any, g2])]) (by omega) H locs hw ls (lv_sub hl [3, 2, 1, 0] rfl)
              · have g2 := dn_bz0 e2 h_43
                refine lv_aload_n S.1 S.2.1 d_Mo_why_46 rfl (lv_at hl 1 rfl) ?_
                refine dw_getf (fi := 7) (v := .ref (a 60)) S hw i_Mo ds_ob54 (by decide) rfl wd_369 rfl d_Mo_why_47 ?_
                refine lv_iload_n S.1 S.2.1 d_Mo_why_50 rfl (lv_at hl 3 rfl) ?_
                refine dw_zald S.1 S.2.1 hw ds_k60 (by omega) d_Mo_why_51 ?_
                refine dn_if_eq S.1 S.2.1 73 (by omega) d_Mo_why_52 (by decide) (fun h_52 => ?_) (fun h_52 => ?_)
                · refine lv_iconst (v := nI 0) S.1 S.2.1 d_Mo_why_73 (by decide) ?_
                  refine lv_istore_n (lv' := [(2, .int (nI 0)), (1, .int (nI 1)), (0, .ref (a 54)), (3, .int (nI i))]) S.1 S.2.1 d_Mo_why_74 rfl hl (by decide) rfl (fun ls hl => ?_)
                  refine lv_iinc (v := nI (i + 1)) (lv' := [(3, .int (nI (i + 1))), (2, .int (nI 0)), (1, .int (nI 1)), (0, .ref (a 54))]) S.1 S.2.1 d_Mo_why_75 hl (k := 3) rfl (by rw [show Int32.ofInt 1 = nI 1 from rfl, nI_add]) (by decide) rfl (fun ls hl => ?_)
                  refine lv_goto (tgt := 6) S.1 S.2.1 d_Mo_why_78 (by decide) ?_
                  exact ih_6 1 0 (i + 1) (by omega) (by rw [dn_b1 (by simp [ds_any, g1, h_24, h_33])]) (by rw [dn_b0 (by simp [ds_any, g2, h_52])]) (by omega) H locs hw ls (lv_sub hl [3, 2, 1, 0] rfl)
                · refine lv_aload_n S.1 S.2.1 d_Mo_why_55 rfl (lv_at hl 1 rfl) ?_
                  refine lv_aload_n S.1 S.2.1 d_Mo_why_56 rfl (lv_at hl 1 rfl) ?_
                  refine dw_getf (fi := 4) (v := .ref (a 57)) S hw i_Mo ds_ob54 (by decide) rfl wd_366 rfl d_Mo_why_57 ?_
                  refine lv_iload_n S.1 S.2.1 d_Mo_why_60 rfl (lv_at hl 3 rfl) ?_
                  refine dw_iald S.1 S.2.1 hw ds_k57 (by omega) d_Mo_why_61 ?_
                  refine lv_iload_n S.1 S.2.1 d_Mo_why_62 rfl (lv_at hl 3 rfl) ?_
                  refine dw_afti hw hA (dw_runV (As := [.int (nI (f 57 i)), .int (nI i)]) (rest := []) (ko := 54) hw S ds_good (m_can l D g a f rw (f 57 i) i (ok) (r1.1) (by omega) H.size) cw_Mo_can wd_526 wd_528 ws_Mo_can ds_ob54 dw_blind (dw_pre hw hN) rfl hl.1 rfl ⟨Nat.le_trans (Nat.le_of_ble_eq_true rfl) hR.1, Nat.le_trans (Nat.le_of_ble_eq_true rfl) hR.2⟩ (Nat.le_of_ble_eq_true rfl) ⟨Nat.zero_le _, Nat.zero_le _⟩ d_Mo_why_63) (fun r_63 f_4 H locs hp hw => ?_)
                  obtain ⟨er, ef⟩ := hp
                  subst er
                  rw [ef] at hw
                  refine dn_ifb_ne S.1 S.2.1 73 d_Mo_why_66 (by decide) (fun h_66 => ?_) (fun h_66 => ?_)
                  · refine lv_iconst (v := nI 0) S.1 S.2.1 d_Mo_why_73 (by decide) ?_
                    refine lv_istore_n (lv' := [(2, .int (nI 0)), (1, .int (nI 1)), (0, .ref (a 54)), (3, .int (nI i))]) S.1 S.2.1 d_Mo_why_74 rfl hl (by decide) rfl (fun ls hl => ?_)
                    refine lv_iinc (v := nI (i + 1)) (lv' := [(3, .int (nI (i + 1))), (2, .int (nI 0)), (1, .int (nI 1)), (0, .ref (a 54))]) S.1 S.2.1 d_Mo_why_75 hl (k := 3) rfl (by rw [show Int32.ofInt 1 = nI 1 from rfl, nI_add]) (by decide) rfl (fun ls hl => ?_)
                    refine lv_goto (tgt := 6) S.1 S.2.1 d_Mo_why_78 (by decide) ?_
                    exact ih_6 1 0 (i + 1) (by omega) (by rw [dn_b1 (by simp [ds_any, g1, h_24, h_33])]) (by rw [dn_b0 (by simp [ds_any, g2, h_52, h_66])]) (by omega) H locs hw ls (lv_sub hl [3, 2, 1, 0] rfl)
                  · refine lv_iconst (v := nI 1) S.1 S.2.1 d_Mo_why_69 (by decide) ?_
                    refine lv_goto (tgt := 74) S.1 S.2.1 d_Mo_why_70 (by decide) ?_
                    refine lv_istore_n (lv' := [(2, .int (nI 1)), (1, .int (nI 1)), (0, .ref (a 54)), (3, .int (nI i))]) S.1 S.2.1 d_Mo_why_74 rfl hl (by decide) rfl (fun ls hl => ?_)
                    refine lv_iinc (v := nI (i + 1)) (lv' := [(3, .int (nI (i + 1))), (2, .int (nI 1)), (1, .int (nI 1)), (0, .ref (a 54))]) S.1 S.2.1 d_Mo_why_75 hl (k := 3) rfl (by rw [show Int32.ofInt 1 = nI 1 from rfl, nI_add]) (by decide) rfl (fun ls hl => ?_)
                    refine lv_goto (tgt := 6) S.1 S.2.1 d_Mo_why_78 (by decide) ?_
                    exact ih_6 1 1 (i + 1) (by omega) (by rw [dn_b1 (by simp [ds_any, g1, h_24, h_33])]) (by rw [dn_b1 (by simp [ds_any, g2, h_52, h_66])]) (by omega) H locs hw ls (lv_sub hl [3, 2, 1, 0] rfl)
  exact loop_6 _ 0 0 0 (Nat.zero_le _) (rfl) (rfl) (Nat.lt_succ_self _) H locs hw ls (lv_sub hl [3, 2, 1, 0] rfl)
set_option maxHeartbeats 4000000 in
set_option maxRecDepth 100000 in
theorem m_turn (l : Launch) (D : va_G) (g : Nat → ClassId) (a : Nat → Nat) (f : Nat → Nat → Nat)  (hn : f 54 1 ≤ 8) (hV : f 54 0 ≤ 3) (ht : ∀ x, x < f 54 1 → f 66 x ≤ f 54 0) : ds_I l D g a y_Mo_turn b_Mo_turn 2 .boolean 0 0 [.ref (a 54)] f (fun r u => ((∃ j, j < f 54 1 ∧ (∀ x, j < x → x < f 54 1 → f 66 x = f 54 0 ∧ u 66 x = 0) ∧ f 66 j ≠ f 54 0 ∧ u 66 j = f 66 j + 1 ∧ (∀ x, x < j → u 66 x = f 66 x) ∧ r = nI (dn_b True)) ∨ ((∀ x, x < f 54 1 → f 66 x = f 54 0) ∧ (∀ x, x < f 54 1 → u 66 x = 0) ∧ r = nI (dn_b False))) ∧ ∀ k, k ≠ 66 → u k = f k) := by
  refine dw_ofI (by decide) (fun v u h => by rcases h.1 with ⟨j, _, _, _, _, _, q⟩ | ⟨_, _, q⟩ <;> (rw [q]; exact dn_nar)) (Nat.le_of_ble_eq_true rfl) ?_
  intro p e s m args below meth c ls A Q R H locs hR hA S hN hw hl hret
  have hl : lv_has ls 2 [(0, .ref (a 54))] := hl
  have S : CallFix p m c b_Mo_turn 2 s args ds_T R_Mo := S
  refine lv_aload_n S.1 S.2.1 d_Mo_turn_0 rfl (lv_at hl 0 rfl) ?_
  refine dw_getf (fi := 1) (v := .int (nI (f 54 1))) S hw i_Mo ds_ob54 (by decide) rfl wd_363 rfl d_Mo_turn_1 ?_
  refine lv_iconst (v := nI 1) S.1 S.2.1 d_Mo_turn_4 (by decide) ?_
  refine lv_isub S.1 S.2.1 d_Mo_turn_5 ?_
  refine lv_istore_n (lv' := [(1, .int ((nI (f 54 1)) - (nI 1))), (0, .ref (a 54))]) S.1 S.2.1 d_Mo_turn_6 rfl hl (by decide) rfl (fun ls hl => ?_)
  have loop_7 : ∀ (n : Nat) (w : Int32) (j : Nat) (f2 : Nat → Nat → Nat) (hj : j ≤ f 54 1) (ew : w = nI j - nI 1) (hz : ∀ x, j ≤ x → x < f 54 1 → f 66 x = f 54 0 ∧ f2 66 x = 0) (hk : ∀ x, x < j → f2 66 x = f 66 x) (hg : ∀ k, k ≠ 66 → f2 k = f k) (_ : j < n) (H : Heap) (locs : List Loc), dw_W D classes (ds_tys g) A s.heap (dw_l 77 (ds_ce g a) a f2) s H locs → ∀ (ls : Array Slot), lv_has ls 2 [(0, .ref (a 54)), (1, .int w)] → W p l e R s m args below meth c H locs 0 0 Q (F0 m 7 ls []) := by
    intro n
    induction n with
    | zero => intro w j f2 hj ew hz hk hg h9; exact absurd h9 (Nat.not_lt_zero _)
    | succ n ih_7 =>
      intro w j f2 hj ew hz hk hg hm_7 H locs hw ls hl
      refine lv_iload_n S.1 S.2.1 d_Mo_turn_7 rfl (lv_at hl 1 rfl) ?_
      refine lv_if_lt (tgt := 37) S.1 S.2.1 d_Mo_turn_8 (by decide) (fun h_8 => ?_) (fun h_8 => ?_)
      · refine lv_iload_n S.1 S.2.1 d_Mo_turn_37 rfl (lv_at hl 1 rfl) ?_
        refine lv_if_lt (tgt := 51) S.1 S.2.1 d_Mo_turn_38 (by decide) (fun h_38 => ?_) (fun h_38 => ?_)
        · refine lv_iload_n S.1 S.2.1 d_Mo_turn_51 rfl (lv_at hl 1 rfl) ?_
          refine lv_if_lt (tgt := 59) S.1 S.2.1 d_Mo_turn_52 (by decide) (fun h_52 => ?_) (fun h_52 => ?_)
          · refine lv_iconst (v := nI 0) S.1 S.2.1 d_Mo_turn_59 (by decide) ?_
            exact hret H locs _ ls _ _ hw (by
    have j0 : j = 0 := (ds_neg1 (by omega)).mp (by rw [← ew]; exact h_8)
    refine ⟨Or.inr ⟨fun x hx => (hz x (by omega) hx).1, fun x hx => (hz x (by omega) hx).2, rfl⟩, hg⟩) d_Mo_turn_60
          · exact absurd h_8 h_52
        · exact absurd h_8 h_38
      · have j1 : 1 ≤ j := by have q : ¬ j = 0 := fun q => h_8 (by rw [ew]; exact (ds_neg1 (by omega)).mpr q); omega
        have ew2 : w = nI (j - 1) := by rw [ew]; exact pk_sub j1
        have q66 := hk (j - 1) (by omega)
        have q0 : f2 54 0 = f 54 0 := by rw [hg 54 (by decide)]
        have t1 := ht (j - 1) (by omega)
        have hl : lv_has ls 2 [(0, .ref (a 54)), (1, .int (nI (j - 1)))] := by have hl2 := hl; rw [ew2] at hl2; exact hl2
        refine lv_aload_n S.1 S.2.1 d_Mo_turn_11 rfl (lv_at hl 0 rfl) ?_
        refine dw_getf (fi := 14) (v := .ref (a 66)) S hw i_Mo ds_ob54 (by decide) rfl wd_376 rfl d_Mo_turn_12 ?_
        refine lv_iload_n S.1 S.2.1 d_Mo_turn_15 rfl (lv_at hl 1 rfl) ?_
        refine dw_iald S.1 S.2.1 hw ds_k66 (by omega) d_Mo_turn_16 ?_
        refine lv_aload_n S.1 S.2.1 d_Mo_turn_17 rfl (lv_at hl 0 rfl) ?_
        refine dw_getf (fi := 0) (v := .int (nI (f2 54 0))) S hw i_Mo ds_ob54 (by decide) rfl wd_362 rfl d_Mo_turn_18 ?_
        refine dn_icmp_ne S.1 S.2.1 37 (by omega) (by omega) d_Mo_turn_21 (by decide) (fun h_21 => ?_) (fun h_21 => ?_)
        · refine lv_iload_n S.1 S.2.1 d_Mo_turn_37 rfl (lv_at hl 1 rfl) ?_
          refine dn_if_lt S.1 S.2.1 51 (by omega) d_Mo_turn_38 (by decide) ?_
          refine lv_aload_n S.1 S.2.1 d_Mo_turn_41 rfl (lv_at hl 0 rfl) ?_
          refine dw_getf (fi := 14) (v := .ref (a 66)) S hw i_Mo ds_ob54 (by decide) rfl wd_376 rfl d_Mo_turn_42 ?_
          refine lv_iload_n S.1 S.2.1 d_Mo_turn_45 rfl (lv_at hl 1 rfl) ?_
          refine lv_dup2_11 S.1 S.2.1 d_Mo_turn_46 rfl rfl ?_
          refine dw_iald S.1 S.2.1 hw ds_k66 (by omega) d_Mo_turn_47 ?_
          refine lv_iconst (v := nI 1) S.1 S.2.1 d_Mo_turn_48 (by decide) ?_
          refine dn_iadd S.1 S.2.1 d_Mo_turn_49 ?_
          refine dw_iast S.1 S.2.1 hw ds_k66 (by omega) d_Mo_turn_50 (fun f_1 H locs ef_1 hw => ?_)
          refine lv_iload_n S.1 S.2.1 d_Mo_turn_51 rfl (lv_at hl 1 rfl) ?_
          refine dn_if_lt S.1 S.2.1 59 (by omega) d_Mo_turn_52 (by decide) ?_
          refine lv_iconst (v := nI 1) S.1 S.2.1 d_Mo_turn_55 (by decide) ?_
          refine lv_goto (tgt := 60) S.1 S.2.1 d_Mo_turn_56 (by decide) ?_
          exact hret H locs _ ls _ _ hw (by
    refine ⟨Or.inl ⟨j - 1, by omega, fun x h1 h2 => ?_, by omega, ?_, fun x hx => ?_, rfl⟩, fun k k1 => by rw [ef_1, dw_w_ne k1]; exact hg k k1⟩
    · rw [ef_1, dw_w_eq, dw_up_ne (by omega)]; exact hz x (by omega) h2
    · rw [ef_1, dw_w_eq, dw_up_eq, q66]
    · rw [ef_1, dw_w_eq, dw_up_ne (by omega)]; exact hk x (by omega)) d_Mo_turn_60
        · refine lv_aload_n S.1 S.2.1 d_Mo_turn_24 rfl (lv_at hl 0 rfl) ?_
          refine dw_getf (fi := 14) (v := .ref (a 66)) S hw i_Mo ds_ob54 (by decide) rfl wd_376 rfl d_Mo_turn_25 ?_
          refine lv_iload_n S.1 S.2.1 d_Mo_turn_28 rfl (lv_at hl 1 rfl) ?_
          refine lv_iconst (v := nI 0) S.1 S.2.1 d_Mo_turn_29 (by decide) ?_
          refine dw_iast S.1 S.2.1 hw ds_k66 (by omega) d_Mo_turn_30 (fun f_2 H locs ef_2 hw => ?_)
          refine lv_iinc (v := (nI (j - 1)) - (nI 1)) (lv' := [(1, .int ((nI (j - 1)) - (nI 1))), (0, .ref (a 54))]) S.1 S.2.1 d_Mo_turn_31 hl (k := 1) rfl (ds_dec1 _) (by decide) rfl (fun ls hl => ?_)
          refine lv_goto (tgt := 7) S.1 S.2.1 d_Mo_turn_34 (by decide) ?_
          exact ih_7 ((nI (j - 1)) - (nI 1)) (j - 1) f_2 (by omega) (rfl) (fun x h1 h2 => by
    rw [ef_2, dw_w_eq]
    by_cases ex : x = j - 1
    · rw [ex, dw_up_eq]; exact ⟨by omega, rfl⟩
    · rw [dw_up_ne ex]; exact hz x (by omega) h2) (fun x h1 => by rw [ef_2, dw_w_eq, dw_up_ne (by omega)]; exact hk x (by omega)) (fun k k1 => by rw [ef_2, dw_w_ne k1]; exact hg k k1) (by omega) H locs hw ls (lv_sub hl [1, 0] rfl)
  exact loop_7 _ ((nI (f 54 1)) - (nI 1)) (f 54 1) f (Nat.le_refl _) (rfl) (fun x h1 h2 => by omega) (fun _ _ => rfl) (fun _ _ => rfl) (Nat.lt_succ_self _) H locs hw ls (lv_sub hl [1, 0] rfl)
