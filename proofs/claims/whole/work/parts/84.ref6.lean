/-! the reference's run -/
set_option maxHeartbeats 4000000 in
set_option maxRecDepth 100000 in
theorem m_run (l : Launch) (D : va_G) (g : Nat → ClassId) (a : Nat → Nat) (f : Nat → Nat → Nat) (rw : Nat → Nat → Nat) (ok : ds_ok (md_v f rw)) (hk : f 54 16 ≤ 6) : ds_I l D g a y_Mo_run b_Mo_run 9 .int 4 96 [.ref (a 54)] f (fun r u => ((∀ q, md_val (md_v f rw) q → ¬ md_hold (md_v f rw) q = true) ∧ r = ds_why (md_v f rw) ∧ md_ag f u) ∨ (∃ s0 : Nat → Nat, md_val (md_v f rw) s0 ∧ md_hold (md_v f rw) s0 = true ∧ (∀ q, md_val (md_v f rw) q → md_hold (md_v f rw) q = true → md_le (md_v f rw) s0 q) ∧ r = nI (md_mv (md_v f rw) s0) ∧ (∀ x, x < f 54 1 → u 65 x = s0 x) ∧ (∃ kk dd : Nat, ((f 54 16 < 6 ∧ kk = f 54 16 ∧ dd = 0) ∨ (f 54 16 = 6 ∧ kk = 5 ∧ dd = 1)) ∧ u 54 16 = kk + 1 ∧ (∀ j, j < kk → (∀ t, t < 8 → u 68 (8 * j + t) = f 68 (8 * (j + dd) + t)) ∧ u 69 j = f 69 (j + dd)) ∧ (∀ t, t < f 54 1 → u 68 (8 * kk + t) = f 65 t) ∧ u 69 kk = f 54 1) ∧ (∀ j, j ≠ 16 → j ≠ 25 → u 54 j = f 54 j) ∧ ∀ k, k ≠ 54 → k ≠ 65 → k ≠ 66 → k ≠ 67 → k ≠ 68 → k ≠ 69 → k ≠ 74 → u k = f k)) := by
  refine dw_ofI (by decide) (fun _ _ _ => rfl) (Nat.le_of_ble_eq_true rfl) ?_
  intro p e s m args below meth c ls A Q R H locs hR hA S hN hw hl hret
  have hl : lv_has ls 9 [(0, .ref (a 54))] := hl
  have S : CallFix p m c b_Mo_run 9 s args ds_T R_Mo := S
  obtain ⟨hV, hn, hex, hst, hve, hrA, hrB, hrl, hwy⟩ := md_facts ok
  have e10 : (md_v f rw) 1 0 = f 54 0 := rfl
  have e11 : (md_v f rw) 1 1 = f 54 1 := rfl
  refine lv_iconst (v := nI 0) S.1 S.2.1 d_Mo_run_0 (by decide) ?_
  refine lv_istore_n (lv' := [(1, .int (nI 0)), (0, .ref (a 54))]) S.1 S.2.1 d_Mo_run_1 rfl hl (by decide) rfl (fun ls hl => ?_)
  have loop_2 : ∀ (n : Nat) (i : Nat) (f2 : Nat → Nat → Nat) (hi : i ≤ f 54 1) (hag : md_ag f f2) (hz : ∀ x, x < i → f2 66 x = 0) (_ : f 54 1 - i < n) (H : Heap) (locs : List Loc), dw_W D classes (ds_tys g) A s.heap (dw_l 77 (ds_ce g a) a f2) s H locs → ∀ (ls : Array Slot), lv_has ls 9 [(0, .ref (a 54)), (1, .int (nI i))] → W p l e R s m args below meth c H locs 0 0 Q (F0 m 2 ls []) := by
    intro n
    induction n with
    | zero => intro i f2 hi hag hz h9; exact absurd h9 (Nat.not_lt_zero _)
    | succ n ih_2 =>
      intro i f2 hi hag hz hm_2 H locs hw ls hl
      have q1 : f2 54 1 = f 54 1 := hag.2 1 (by decide)
      refine lv_iload_n S.1 S.2.1 d_Mo_run_2 rfl (lv_at hl 1 rfl) ?_
      refine lv_aload_n S.1 S.2.1 d_Mo_run_3 rfl (lv_at hl 0 rfl) ?_
      refine dw_getf (fi := 1) (v := .int (nI (f2 54 1))) S hw i_Mo ds_ob54 (by decide) rfl wd_363 rfl d_Mo_run_4 ?_
      refine dn_icmp_ge S.1 S.2.1 23 (by omega) (by omega) d_Mo_run_7 (by decide) (fun h_7 => ?_) (fun h_7 => ?_)
      · refine lv_iconst (v := (-1)) S.1 S.2.1 d_Mo_run_23 (by decide) ?_
        refine lv_istore_n (lv' := [(1, .int (-1)), (0, .ref (a 54))]) S.1 S.2.1 d_Mo_run_24 rfl hl (by decide) rfl (fun ls hl => ?_)
        refine lv_lconst (v := lN 0) S.1 S.2.1 d_Mo_run_25 rfl ?_
        refine lv_lstore_n (lv' := [(2, .long (lN 0)), (1, .int (-1)), (0, .ref (a 54))]) S.1 S.2.1 d_Mo_run_26 rfl hl (by decide) rfl (fun ls hl => ?_)
        refine lv_iconst (v := nI 1) S.1 S.2.1 d_Mo_run_27 (by decide) ?_
        refine lv_istore (lv' := [(4, .int (nI 1)), (2, .long (lN 0)), (1, .int (-1)), (0, .ref (a 54))]) S.1 S.2.1 d_Mo_run_28 hl (by decide) rfl (fun ls hl => ?_)
        have loop_30 : ∀ (n : Nat) (w : Int32) (y : Nat) (b : Nat) (f2 : Nat → Nat → Nat) (hag : md_ag f f2) (hval : md_val (md_v f rw) (f2 66)) (hb1 : b ≤ 1) (hy : y ≤ 1020000) (hB : ∃ s0 : Nat → Nat, md_bst (md_v f rw) (fun q => b = 0 ∨ md_cd (md_v f rw) q < md_cd (md_v f rw) (f2 66)) w y s0 ∧ (w = -1 ∨ ∀ x, x < f 54 1 → f2 67 x = s0 x)) (_ : (if b = 0 then 0 else (f 54 0 + 1) ^ f 54 1 - md_cd (md_v f rw) (f2 66)) < n) (H : Heap) (locs : List Loc), dw_W D classes (ds_tys g) A s.heap (dw_l 77 (ds_ce g a) a f2) s H locs → ∀ (ls : Array Slot), lv_has ls 9 [(0, .ref (a 54)), (1, .int w), (2, .long (lN y)), (4, .int (nI b))] → W p l e R s m args below meth c H locs 0 0 Q (F0 m 30 ls []) := by
          intro n
          induction n with
          | zero => intro w y b f2 hag hval hb1 hy hB h9; exact absurd h9 (Nat.not_lt_zero _)
          | succ n ih_30 =>
            intro w y b f2 hag hval hb1 hy hB hm_30 H locs hw ls hl
            have q1 : f2 54 1 = f 54 1 := hag.2 1 (by decide)
            have q0 : f2 54 0 = f 54 0 := hag.2 0 (by decide)
            obtain ⟨s0, hB1, hB2⟩ := hB
            have hval2 : ∀ x, x < f 54 1 → f2 66 x ≤ f 54 0 := hval
            have okv : ds_ok (md_v f2 rw) := by rw [md_ag_v hag]; exact ok
            have mvb : md_mv (md_v f rw) (f2 66) ≤ 8 := Nat.le_trans (md_mv_b _ _) hn
            refine lv_iload S.1 S.2.1 d_Mo_run_30 (lv_at hl 3 rfl) ?_
            refine dn_if_eq S.1 S.2.1 143 (by omega) d_Mo_run_32 (by decide) (fun h_32 => ?_) (fun h_32 => ?_)
            · have hBz : md_bst (md_v f rw) (fun _ => True) w y s0 := md_bst_c (fun q _ => ⟨fun _ => trivial, fun _ => Or.inl h_32⟩) hB1
              have hw1 := md_bst_w hBz hn
              refine lv_iload_n S.1 S.2.1 d_Mo_run_143 rfl (lv_at hl 1 rfl) ?_
              refine lv_if_ge (tgt := 152) S.1 S.2.1 d_Mo_run_144 (by decide) (fun h_144 => ?_) (fun h_144 => ?_)
              · have hw2 : ¬ w = -1 := fun q => absurd (hw1.mpr q) (Int32.not_lt.mpr h_144)
                have hS67 : ∀ x, x < f 54 1 → f2 67 x = s0 x := hB2.resolve_left hw2
                obtain ⟨c1, c2, c3, c4, c5, c6⟩ := hBz.resolve_left (fun q => hw2 q.1)
                refine lv_aload_n S.1 S.2.1 d_Mo_run_152 rfl (lv_at hl 0 rfl) ?_
                refine dw_aftv hw hA (dw_runV (As := []) (rest := []) (ko := 54) hw S ds_good (m_keep l D g a f2 (by omega) (by rw [hag.2 16 (by decide)]; exact hk) H.size) cw_Mo_keep wd_542 wd_544 ws_Mo_keep ds_ob54 dw_blind (dw_pre hw hN) rfl hl.1 rfl ⟨Nat.le_trans (Nat.le_of_ble_eq_true rfl) hR.1, Nat.le_trans (Nat.le_of_ble_eq_true rfl) hR.2⟩ (Nat.le_of_ble_eq_true rfl) ⟨Nat.zero_le _, Nat.zero_le _⟩ d_Mo_run_153) (fun f_1 H locs hp hw => ?_)
                obtain ⟨kk, dd, hkd, hsz, hsh, hnew, hnst, h54, hoth⟩ := hp
                obtain ⟨f_k, efk⟩ : ∃ z, z = f_1 := ⟨_, rfl⟩
                rw [← efk] at hw hsz hsh hnew hnst h54 hoth
                refine lv_iconst (v := nI 0) S.1 S.2.1 d_Mo_run_156 (by decide) ?_
                refine lv_istore (lv' := [(5, .int (nI 0)), (0, .ref (a 54)), (1, .int w), (2, .long (lN y)), (4, .int (nI b))]) S.1 S.2.1 d_Mo_run_157 hl (by decide) rfl (fun ls hl => ?_)
                have loop_159 : ∀ (n : Nat) (i : Nat) (f3 : Nat → Nat → Nat) (hi : i ≤ f 54 1) (hU : ∀ x, x < i → f3 65 x = s0 x) (hg : ∀ k, k ≠ 65 → f3 k = f_k k) (_ : f 54 1 - i < n) (H : Heap) (locs : List Loc), dw_W D classes (ds_tys g) A s.heap (dw_l 77 (ds_ce g a) a f3) s H locs → ∀ (ls : Array Slot), lv_has ls 9 [(0, .ref (a 54)), (1, .int w), (5, .int (nI i))] → W p l e R s m args below meth c H locs 0 0 Q (F0 m 159 ls []) := by
                  intro n
                  induction n with
                  | zero => intro i f3 hi hU hg h9; exact absurd h9 (Nat.not_lt_zero _)
                  | succ n ih_159 =>
                    intro i f3 hi hU hg hm_159 H locs hw ls hl
                    have n3 : f3 54 1 = f 54 1 := by rw [hg 54 (by decide), h54 1 (by decide)]; exact q1
                    have b3 : f3 67 = f2 67 := by rw [hg 67 (by decide), hoth 67 (by decide) (by decide) (by decide)]
                    refine lv_iload S.1 S.2.1 d_Mo_run_159 (lv_at hl 2 rfl) ?_
                    refine lv_aload_n S.1 S.2.1 d_Mo_run_161 rfl (lv_at hl 0 rfl) ?_
                    refine dw_getf (fi := 1) (v := .int (nI (f3 54 1))) S hw i_Mo ds_ob54 (by decide) rfl wd_363 rfl d_Mo_run_162 ?_
                    refine dn_icmp_ge S.1 S.2.1 188 (by omega) (by omega) d_Mo_run_165 (by decide) (fun h_165 => ?_) (fun h_165 => ?_)
                    · refine lv_iload_n S.1 S.2.1 d_Mo_run_188 rfl (lv_at hl 1 rfl) ?_
                      exact hret H locs _ ls _ _ hw (by
    refine Or.inr ⟨s0, c3, c5, fun q hq hh => c6 q hq trivial hh, c1, fun x hx => hU x (by omega), ⟨kk, dd, by rw [hag.2 16 (by decide)] at hkd; exact hkd, by rw [hg 54 (by decide)]; exact hsz, fun j hj => ⟨fun t ht => ?_, ?_⟩, fun t ht => ?_, ?_⟩, fun j j1 j2 => ?_, fun k k1 k2 k3 k4 k5 k6 k7 => ?_⟩
    · rw [hg 68 (by decide), (hsh j hj).1 t ht, hag.1 68 (by decide) (by decide) (by decide) (by decide)]
    · rw [hg 69 (by decide), (hsh j hj).2, hag.1 69 (by decide) (by decide) (by decide) (by decide)]
    · rw [hg 68 (by decide), hnew t (by omega), hag.1 65 (by decide) (by decide) (by decide) (by decide)]
    · rw [hg 69 (by decide), hnst, q1]
    · rw [hg 54 (by decide), h54 j j1]; exact hag.2 j j2
    · rw [hg k k2, hoth k k1 k5 k6]; exact hag.1 k k1 k3 k4 k7) d_Mo_run_189
                    · refine lv_aload_n S.1 S.2.1 d_Mo_run_168 rfl (lv_at hl 0 rfl) ?_
                      refine dw_getf (fi := 13) (v := .ref (a 65)) S hw i_Mo ds_ob54 (by decide) rfl wd_375 rfl d_Mo_run_169 ?_
                      refine lv_iload S.1 S.2.1 d_Mo_run_172 (lv_at hl 2 rfl) ?_
                      refine lv_aload_n S.1 S.2.1 d_Mo_run_174 rfl (lv_at hl 0 rfl) ?_
                      refine dw_getf (fi := 15) (v := .ref (a 67)) S hw i_Mo ds_ob54 (by decide) rfl wd_377 rfl d_Mo_run_175 ?_
                      refine lv_iload S.1 S.2.1 d_Mo_run_178 (lv_at hl 2 rfl) ?_
                      refine dw_iald S.1 S.2.1 hw ds_k67 (by omega) d_Mo_run_180 ?_
                      refine dw_iast S.1 S.2.1 hw ds_k65 (by omega) d_Mo_run_181 (fun f_2 H locs ef_2 hw => ?_)
                      refine lv_iinc (v := nI (i + 1)) (lv' := [(5, .int (nI (i + 1))), (0, .ref (a 54)), (1, .int w)]) S.1 S.2.1 d_Mo_run_182 hl (k := 2) rfl (by rw [show Int32.ofInt 1 = nI 1 from rfl, nI_add]) (by decide) rfl (fun ls hl => ?_)
                      refine lv_goto (tgt := 159) S.1 S.2.1 d_Mo_run_185 (by decide) ?_
                      exact ih_159 (i + 1) f_2 (by omega) (fun x hx => by
    rw [ef_2, dw_w_eq]
    by_cases ex : x = i
    · rw [ex, dw_up_eq, hg 67 (by decide), hoth 67 (by decide) (by decide) (by decide)]; exact hS67 i (by omega)
    · rw [dw_up_ne ex]; exact hU x (by omega)) (fun k k1 => by rw [ef_2, dw_w_ne k1]; exact hg k k1) (by omega) H locs hw ls (lv_sub hl [1, 2, 0] rfl)
                exact loop_159 _ 0 f_k (Nat.zero_le _) (fun x hx => absurd hx (Nat.not_lt_zero _)) (fun _ _ => rfl) (Nat.lt_succ_self _) H locs hw ls (lv_sub hl [1, 2, 0] rfl)
              · refine lv_aload_n S.1 S.2.1 d_Mo_run_147 rfl (lv_at hl 0 rfl) ?_
                refine dw_afti hw hA (dw_runV (As := []) (rest := []) (ko := 54) hw S ds_good (m_why l D g a f2 rw (okv) H.size) cw_Mo_why wd_538 wd_540 ws_Mo_why ds_ob54 dw_blind (dw_pre hw hN) rfl hl.1 rfl ⟨Nat.le_trans (Nat.le_of_ble_eq_true rfl) hR.1, Nat.le_trans (Nat.le_of_ble_eq_true rfl) hR.2⟩ (Nat.le_of_ble_eq_true rfl) ⟨Nat.zero_le _, Nat.zero_le _⟩ d_Mo_run_148) (fun r_148 f_3 H locs hp hw => ?_)
                obtain ⟨er, ef⟩ := hp
                subst er
                rw [ef] at hw
                refine ds_topi (w := ds_why (md_v f rw)) (by rw [md_ag_v hag]) ?_
                exact hret H locs _ ls _ _ hw (Or.inl ⟨fun q hq => (by rcases hBz with z | z; exact z.2 q hq trivial; exact absurd (by rw [z.1]; exact nI_pos' (by have := md_mv_b (md_v f rw) s0; omega)) h_144), rfl, hag⟩) d_Mo_run_151
            · have b1 : b ≠ 0 := h_32
              have hBc : md_bst (md_v f rw) (fun q => md_cd (md_v f rw) q < md_cd (md_v f rw) (f2 66)) w y s0 := md_bst_c (fun q _ => ⟨fun z => z.resolve_left b1, Or.inr⟩) hB1
              have q57 : f2 57 = f 57 := hag.1 57 (by decide) (by decide) (by decide) (by decide)
              refine lv_aload_n S.1 S.2.1 d_Mo_run_35 rfl (lv_at hl 0 rfl) ?_
              refine lv_aload_n S.1 S.2.1 d_Mo_run_36 rfl (lv_at hl 0 rfl) ?_
              refine dw_getf (fi := 14) (v := .ref (a 66)) S hw i_Mo ds_ob54 (by decide) rfl wd_376 rfl d_Mo_run_37 ?_
              refine dw_afti hw hA (dw_runV (As := [.ref (a 66)]) (rest := []) (ko := 54) hw S ds_good (m_movedBy l D g a f2 66 (by omega) (ds_k66) (Or.inr rfl) (fun x hx => by have := hval2 x (by omega); omega) (fun x hx => by rw [q57]; have := hrB x (by omega); omega) H.size) cw_Mo_movedBy wd_518 wd_520 ws_Mo_movedBy ds_ob54 dw_blind (dw_pre hw hN) rfl hl.1 rfl ⟨Nat.le_trans (Nat.le_of_ble_eq_true rfl) hR.1, Nat.le_trans (Nat.le_of_ble_eq_true rfl) hR.2⟩ (Nat.le_of_ble_eq_true rfl) ⟨Nat.zero_le _, Nat.zero_le _⟩ d_Mo_run_40) (fun r_40 f_4 H locs hp hw => ?_)
              obtain ⟨er, ef⟩ := hp
              subst er
              rw [ef] at hw
              refine ds_topi (w := nI (md_mv (md_v f rw) (f2 66))) (by rw [q57, q1]; rfl) ?_
              refine lv_istore (lv' := [(5, .int (nI (md_mv (md_v f rw) (f2 66)))), (0, .ref (a 54)), (1, .int w), (2, .long (lN y)), (4, .int (nI b))]) S.1 S.2.1 d_Mo_run_43 hl (by decide) rfl (fun ls hl => ?_)
              refine lv_iload_n S.1 S.2.1 d_Mo_run_45 rfl (lv_at hl 2 rfl) ?_
              refine lv_if_lt (tgt := 55) S.1 S.2.1 d_Mo_run_46 (by decide) (fun h_46 => ?_) (fun h_46 => ?_)
              · refine lv_aload_n S.1 S.2.1 d_Mo_run_55 rfl (lv_at hl 1 rfl) ?_
                refine dw_afti hw hA (dw_runV (As := []) (rest := []) (ko := 54) hw S ds_good (m_holdsApart l D g a f2 rw (okv) (fun x hx => by rw [q0]; exact hval2 x (by omega)) H.size) cw_Mo_holdsApart wd_522 wd_524 ws_Mo_holdsApart ds_ob54 dw_blind (dw_pre hw hN) rfl hl.1 rfl ⟨Nat.le_trans (Nat.le_of_ble_eq_true rfl) hR.1, Nat.le_trans (Nat.le_of_ble_eq_true rfl) hR.2⟩ (Nat.le_of_ble_eq_true rfl) ⟨Nat.zero_le _, Nat.zero_le _⟩ d_Mo_run_56) (fun r_56 f_5 H locs hp hw => ?_)
                obtain ⟨er, ef⟩ := hp
                subst er
                rw [ef] at hw
                refine ds_topi (w := nI (dn_b (md_ap (md_v f rw) (f2 66) (f 54 1) = true))) (by rw [md_ag_v hag, q1]) ?_
                refine dn_ifb_eq S.1 S.2.1 134 d_Mo_run_59 (by decide) (fun h_59 => ?_) (fun h_59 => ?_)
                · have hagC : md_ag f f2 := hag
                  have h66C : f2 66 = f2 66 := rfl
                  have h67C : f2 67 = f2 67 := rfl
                  have hB3 : ∃ s0 : Nat → Nat, md_bst (md_v f rw) (fun q => md_cd (md_v f rw) q ≤ md_cd (md_v f rw) (f2 66)) w y s0 ∧ (w = -1 ∨ ∀ x, x < f 54 1 → f2 67 x = s0 x) := ⟨s0, md_skip ok hBc hval (Or.inl (fun q => by unfold md_hold at q; rw [Bool.and_eq_true] at q; exact h_59 q.1)), by rcases hB2 with q | q; exact Or.inl q; exact Or.inr (fun x hx => by rw [h67C]; exact q x hx)⟩
                  refine lv_aload_n S.1 S.2.1 d_Mo_run_134 rfl (lv_at hl 1 rfl) ?_
                  refine dw_afti hw hA (dw_runV (As := []) (rest := []) (ko := 54) hw S ds_good (m_turn l D g a f2 (by rw [hagC.2 1 (by decide)]; exact hn) (by rw [hagC.2 0 (by decide)]; omega) (fun x hx => by rw [h66C, hagC.2 0 (by decide)]; rw [hagC.2 1 (by decide)] at hx; exact hval2 x hx) H.size) cw_Mo_turn wd_534 wd_536 ws_Mo_turn ds_ob54 dw_blind (dw_pre hw hN) rfl hl.1 rfl ⟨Nat.le_trans (Nat.le_of_ble_eq_true rfl) hR.1, Nat.le_trans (Nat.le_of_ble_eq_true rfl) hR.2⟩ (Nat.le_of_ble_eq_true rfl) ⟨Nat.zero_le _, Nat.zero_le _⟩ d_Mo_run_135) (fun r_135 f_6 H locs hp hw => ?_)
                  obtain ⟨hp1, hpo⟩ := hp
                  obtain ⟨bt, er, hbt, hT1, hT0⟩ := md_turn_b hp1
                  subst er
                  have q1C : f2 54 1 = f 54 1 := hagC.2 1 (by decide)
                  have q0C : f2 54 0 = f 54 0 := hagC.2 0 (by decide)
                  rw [h66C, q1C, q0C] at hT1 hT0
                  obtain ⟨hS1, hS2, hS3⟩ := md_step (F := (md_v f rw)) hval hT1 hT0
                  refine lv_istore (lv' := [(4, .int (nI bt)), (5, .int (nI (md_mv (md_v f rw) (f2 66)))), (0, .ref (a 54)), (1, .int w), (2, .long (lN y))]) S.1 S.2.1 d_Mo_run_138 hl (by decide) rfl (fun ls hl => ?_)
                  refine lv_goto (tgt := 30) S.1 S.2.1 d_Mo_run_140 (by decide) ?_
                  exact ih_30 w y bt f_6 (md_ag_66 hagC hpo) (hS1) (hbt) (hy) (by obtain ⟨s2, z1, z2⟩ := hB3; exact ⟨s2, md_bst_c hS2 z1, by rw [hpo 67 (by decide)]; exact z2⟩) (by rw [if_neg (by omega)] at hm_30; exact Nat.lt_of_lt_of_le hS3 (Nat.le_of_lt_succ hm_30)) H locs hw ls (lv_sub hl [2, 3, 4, 0] rfl)
                · refine lv_aload_n S.1 S.2.1 d_Mo_run_62 rfl (lv_at hl 1 rfl) ?_
                  refine dw_afti hw hA (dw_runV (As := []) (rest := []) (ko := 54) hw S ds_good (m_holdsOvertime l D g a f2 rw (okv) (fun x hx => by rw [q0]; exact hval2 x (by omega)) H.size) cw_Mo_holdsOvertime wd_530 wd_532 ws_Mo_holdsOvertime ds_ob54 dw_blind (dw_pre hw hN) rfl hl.1 rfl ⟨Nat.le_trans (Nat.le_of_ble_eq_true rfl) hR.1, Nat.le_trans (Nat.le_of_ble_eq_true rfl) hR.2⟩ (Nat.le_of_ble_eq_true rfl) ⟨Nat.zero_le _, Nat.zero_le _⟩ d_Mo_run_63) (fun r_63 f_7 H locs hp hw => ?_)
                  obtain ⟨er, hr4, zr4, ef_7⟩ := hp
                  subst er
                  refine ds_topi (w := nI (dn_b (md_ho (md_v f rw) (f2 66) (f 54 0) = true))) (by rw [md_ag_v hag, q0]) ?_
                  have hagX : md_ag f f_7 := by rw [ef_7]; exact md_ag_r hag _ _
                  have h66X : f_7 66 = f2 66 := by rw [ef_7, md_r_ne (by decide) (by decide)]
                  have h67X : f_7 67 = f2 67 := by rw [ef_7, md_r_ne (by decide) (by decide)]
                  have q0X : f_7 54 0 = f 54 0 := hagX.2 0 (by decide)
                  refine dn_ifb_eq S.1 S.2.1 134 d_Mo_run_66 (by decide) (fun h_66 => ?_) (fun h_66 => ?_)
                  · have hagC : md_ag f f_7 := hagX
                    have h66C : f_7 66 = f2 66 := h66X
                    have h67C : f_7 67 = f2 67 := h67X
                    have hB3 : ∃ s0 : Nat → Nat, md_bst (md_v f rw) (fun q => md_cd (md_v f rw) q ≤ md_cd (md_v f rw) (f2 66)) w y s0 ∧ (w = -1 ∨ ∀ x, x < f 54 1 → f_7 67 x = s0 x) := ⟨s0, md_skip ok hBc hval (Or.inl (fun q => by unfold md_hold at q; rw [Bool.and_eq_true] at q; exact h_66 q.2)), by rcases hB2 with q | q; exact Or.inl q; exact Or.inr (fun x hx => by rw [h67C]; exact q x hx)⟩
                    refine lv_aload_n S.1 S.2.1 d_Mo_run_134 rfl (lv_at hl 1 rfl) ?_
                    refine dw_afti hw hA (dw_runV (As := []) (rest := []) (ko := 54) hw S ds_good (m_turn l D g a f_7 (by rw [hagC.2 1 (by decide)]; exact hn) (by rw [hagC.2 0 (by decide)]; omega) (fun x hx => by rw [h66C, hagC.2 0 (by decide)]; rw [hagC.2 1 (by decide)] at hx; exact hval2 x hx) H.size) cw_Mo_turn wd_534 wd_536 ws_Mo_turn ds_ob54 dw_blind (dw_pre hw hN) rfl hl.1 rfl ⟨Nat.le_trans (Nat.le_of_ble_eq_true rfl) hR.1, Nat.le_trans (Nat.le_of_ble_eq_true rfl) hR.2⟩ (Nat.le_of_ble_eq_true rfl) ⟨Nat.zero_le _, Nat.zero_le _⟩ d_Mo_run_135) (fun r_135 f_8 H locs hp hw => ?_)
                    obtain ⟨hp1, hpo⟩ := hp
                    obtain ⟨bt, er, hbt, hT1, hT0⟩ := md_turn_b hp1
                    subst er
                    have q1C : f_7 54 1 = f 54 1 := hagC.2 1 (by decide)
                    have q0C : f_7 54 0 = f 54 0 := hagC.2 0 (by decide)
                    rw [h66C, q1C, q0C] at hT1 hT0
                    obtain ⟨hS1, hS2, hS3⟩ := md_step (F := (md_v f rw)) hval hT1 hT0
                    refine lv_istore (lv' := [(4, .int (nI bt)), (5, .int (nI (md_mv (md_v f rw) (f2 66)))), (0, .ref (a 54)), (1, .int w), (2, .long (lN y))]) S.1 S.2.1 d_Mo_run_138 hl (by decide) rfl (fun ls hl => ?_)
                    refine lv_goto (tgt := 30) S.1 S.2.1 d_Mo_run_140 (by decide) ?_
                    exact ih_30 w y bt f_8 (md_ag_66 hagC hpo) (hS1) (hbt) (hy) (by obtain ⟨s2, z1, z2⟩ := hB3; exact ⟨s2, md_bst_c hS2 z1, by rw [hpo 67 (by decide)]; exact z2⟩) (by rw [if_neg (by omega)] at hm_30; exact Nat.lt_of_lt_of_le hS3 (Nat.le_of_lt_succ hm_30)) H locs hw ls (lv_sub hl [2, 3, 4, 0] rfl)
                  · refine lv_aload_n S.1 S.2.1 d_Mo_run_69 rfl (lv_at hl 1 rfl) ?_
                    refine lv_aload_n S.1 S.2.1 d_Mo_run_70 rfl (lv_at hl 1 rfl) ?_
                    refine dw_getf (fi := 14) (v := .ref (a 66)) S hw i_Mo ds_ob54 (by decide) rfl wd_376 rfl d_Mo_run_71 ?_
                    refine dw_aftl hw hA (dw_runV (As := [.ref (a 66)]) (rest := []) (ko := 54) hw S ds_good (m_costOf l D g a f_7 rw 66 (by rw [md_ag_v hagX]; exact ok) (ds_k66) (Or.inr rfl) (fun x hx => by rw [h66X]; rw [hagX.2 1 (by decide)] at hx; have := hval2 x hx; omega) H.size) cw_Mo_costOf wd_494 wd_496 ws_Mo_costOf ds_ob54 dw_blind (dw_pre hw hN) rfl hl.1 rfl ⟨Nat.le_trans (Nat.le_of_ble_eq_true rfl) hR.1, Nat.le_trans (Nat.le_of_ble_eq_true rfl) hR.2⟩ (Nat.le_of_ble_eq_true rfl) ⟨Nat.zero_le _, Nat.zero_le _⟩ d_Mo_run_74) (fun r_74 f_9 H locs hp hw => ?_)
                    obtain ⟨er, hr3, zr3, ef_9⟩ := hp
                    subst er
                    refine ds_topl (w := lN (md_cs (md_v f rw) (f2 66))) (by rw [h66X, q0X, md_ag_v hagX]; rfl) ?_
                    have hagX : md_ag f f_9 := by rw [ef_9]; exact md_ag_r hagX _ _
                    have h66X : f_9 66 = f2 66 := by rw [ef_9, md_r_ne (by decide) (by decide)]; exact h66X
                    have h67X : f_9 67 = f2 67 := by rw [ef_9, md_r_ne (by decide) (by decide)]; exact h67X
                    have q0X : f_9 54 0 = f 54 0 := hagX.2 0 (by decide)
                    have csb : md_cs (md_v f rw) (f2 66) ≤ 1020000 := Nat.le_trans (ds_cst_b ok (f2 66) _ (Nat.le_refl _)) (by rw [e10]; omega)
                    have hhold : md_hold (md_v f rw) (f2 66) = true := by show (md_ap (md_v f rw) (f2 66) (f 54 1) && md_ho (md_v f rw) (f2 66) (f 54 0)) = true; rw [h_59, h_66]; rfl
                    refine lv_lstore (lv' := [(6, .long (lN (md_cs (md_v f rw) (f2 66)))), (5, .int (nI (md_mv (md_v f rw) (f2 66)))), (0, .ref (a 54)), (1, .int w), (2, .long (lN y)), (4, .int (nI b))]) S.1 S.2.1 d_Mo_run_77 hl (by decide) rfl (fun ls hl => ?_)
                    refine lv_iload_n S.1 S.2.1 d_Mo_run_79 rfl (lv_at hl 3 rfl) ?_
                    refine lv_if_lt (tgt := 96) S.1 S.2.1 d_Mo_run_80 (by decide) (fun h_80 => ?_) (fun h_80 => ?_)
                    · have hTk : md_bst (md_v f rw) (fun q => md_cd (md_v f rw) q ≤ md_cd (md_v f rw) (f2 66)) (nI (md_mv (md_v f rw) (f2 66))) (md_cs (md_v f rw) (f2 66)) (f2 66) := md_take ok hBc hval hhold (Or.inl h_80)
                      have hyT : md_cs (md_v f rw) (f2 66) ≤ 1020000 := csb
                      refine lv_iload S.1 S.2.1 d_Mo_run_96 (lv_at hl 1 rfl) ?_
                      refine lv_istore_n (lv' := [(1, .int (nI (md_mv (md_v f rw) (f2 66)))), (6, .long (lN (md_cs (md_v f rw) (f2 66)))), (5, .int (nI (md_mv (md_v f rw) (f2 66)))), (0, .ref (a 54)), (2, .long (lN y)), (4, .int (nI b))]) S.1 S.2.1 d_Mo_run_98 rfl hl (by decide) rfl (fun ls hl => ?_)
                      refine lv_lload S.1 S.2.1 d_Mo_run_99 (lv_at hl 1 rfl) ?_
                      refine lv_lstore_n (lv' := [(2, .long (lN (md_cs (md_v f rw) (f2 66)))), (1, .int (nI (md_mv (md_v f rw) (f2 66)))), (6, .long (lN (md_cs (md_v f rw) (f2 66)))), (5, .int (nI (md_mv (md_v f rw) (f2 66)))), (0, .ref (a 54)), (4, .int (nI b))]) S.1 S.2.1 d_Mo_run_101 rfl hl (by decide) rfl (fun ls hl => ?_)
                      refine lv_iconst (v := nI 0) S.1 S.2.1 d_Mo_run_102 (by decide) ?_
                      refine lv_istore (lv' := [(8, .int (nI 0)), (2, .long (lN (md_cs (md_v f rw) (f2 66)))), (1, .int (nI (md_mv (md_v f rw) (f2 66)))), (6, .long (lN (md_cs (md_v f rw) (f2 66)))), (5, .int (nI (md_mv (md_v f rw) (f2 66)))), (0, .ref (a 54)), (4, .int (nI b))]) S.1 S.2.1 d_Mo_run_103 hl (by decide) rfl (fun ls hl => ?_)
                      have loop_105 : ∀ (n : Nat) (i : Nat) (f3 : Nat → Nat → Nat) (hi : i ≤ f 54 1) (hag3 : md_ag f f3) (h66 : f3 66 = f2 66) (hcp : ∀ x, x < i → f3 67 x = f2 66 x) (_ : f 54 1 - i < n) (H : Heap) (locs : List Loc), dw_W D classes (ds_tys g) A s.heap (dw_l 77 (ds_ce g a) a f3) s H locs → ∀ (ls : Array Slot), lv_has ls 9 [(0, .ref (a 54)), (1, .int (nI (md_mv (md_v f rw) (f2 66)))), (2, .long (lN (md_cs (md_v f rw) (f2 66)))), (8, .int (nI i))] → W p l e R s m args below meth c H locs 0 0 Q (F0 m 105 ls []) := by
                        intro n
                        induction n with
                        | zero => intro i f3 hi hag3 h66 hcp h9; exact absurd h9 (Nat.not_lt_zero _)
                        | succ n ih_105 =>
                          intro i f3 hi hag3 h66 hcp hm_105 H locs hw ls hl
                          have q13 : f3 54 1 = f 54 1 := hag3.2 1 (by decide)
                          refine lv_iload S.1 S.2.1 d_Mo_run_105 (lv_at hl 3 rfl) ?_
                          refine lv_aload_n S.1 S.2.1 d_Mo_run_107 rfl (lv_at hl 0 rfl) ?_
                          refine dw_getf (fi := 1) (v := .int (nI (f3 54 1))) S hw i_Mo ds_ob54 (by decide) rfl wd_363 rfl d_Mo_run_108 ?_
                          refine dn_icmp_ge S.1 S.2.1 134 (by omega) (by omega) d_Mo_run_111 (by decide) (fun h_111 => ?_) (fun h_111 => ?_)
                          · have hagC : md_ag f f3 := hag3
                            have h66C : f3 66 = f2 66 := h66
                            have hB3 : ∃ s0 : Nat → Nat, md_bst (md_v f rw) (fun q => md_cd (md_v f rw) q ≤ md_cd (md_v f rw) (f2 66)) (nI (md_mv (md_v f rw) (f2 66))) (md_cs (md_v f rw) (f2 66)) s0 ∧ (nI (md_mv (md_v f rw) (f2 66)) = -1 ∨ ∀ x, x < f 54 1 → f3 67 x = s0 x) := ⟨f2 66, hTk, Or.inr (fun x hx => hcp x (by omega))⟩
                            refine lv_aload_n S.1 S.2.1 d_Mo_run_134 rfl (lv_at hl 0 rfl) ?_
                            refine dw_afti hw hA (dw_runV (As := []) (rest := []) (ko := 54) hw S ds_good (m_turn l D g a f3 (by rw [hagC.2 1 (by decide)]; exact hn) (by rw [hagC.2 0 (by decide)]; omega) (fun x hx => by rw [h66C, hagC.2 0 (by decide)]; rw [hagC.2 1 (by decide)] at hx; exact hval2 x hx) H.size) cw_Mo_turn wd_534 wd_536 ws_Mo_turn ds_ob54 dw_blind (dw_pre hw hN) rfl hl.1 rfl ⟨Nat.le_trans (Nat.le_of_ble_eq_true rfl) hR.1, Nat.le_trans (Nat.le_of_ble_eq_true rfl) hR.2⟩ (Nat.le_of_ble_eq_true rfl) ⟨Nat.zero_le _, Nat.zero_le _⟩ d_Mo_run_135) (fun r_135 f_10 H locs hp hw => ?_)
                            obtain ⟨hp1, hpo⟩ := hp
                            obtain ⟨bt, er, hbt, hT1, hT0⟩ := md_turn_b hp1
                            subst er
                            have q1C : f3 54 1 = f 54 1 := hagC.2 1 (by decide)
                            have q0C : f3 54 0 = f 54 0 := hagC.2 0 (by decide)
                            rw [h66C, q1C, q0C] at hT1 hT0
                            obtain ⟨hS1, hS2, hS3⟩ := md_step (F := (md_v f rw)) hval hT1 hT0
                            refine lv_istore (lv' := [(4, .int (nI bt)), (0, .ref (a 54)), (1, .int (nI (md_mv (md_v f rw) (f2 66)))), (2, .long (lN (md_cs (md_v f rw) (f2 66)))), (8, .int (nI i))]) S.1 S.2.1 d_Mo_run_138 hl (by decide) rfl (fun ls hl => ?_)
                            refine lv_goto (tgt := 30) S.1 S.2.1 d_Mo_run_140 (by decide) ?_
                            exact ih_30 (nI (md_mv (md_v f rw) (f2 66))) (md_cs (md_v f rw) (f2 66)) bt f_10 (md_ag_66 hagC hpo) (hS1) (hbt) (hyT) (by obtain ⟨s2, z1, z2⟩ := hB3; exact ⟨s2, md_bst_c hS2 z1, by rw [hpo 67 (by decide)]; exact z2⟩) (by rw [if_neg (by omega)] at hm_30; exact Nat.lt_of_lt_of_le hS3 (Nat.le_of_lt_succ hm_30)) H locs hw ls (lv_sub hl [1, 2, 3, 0] rfl)
                          · have v3 : f3 66 i ≤ 3 := by rw [h66]; have := hval2 i (by omega); omega
                            refine lv_aload_n S.1 S.2.1 d_Mo_run_114 rfl (lv_at hl 0 rfl) ?_
                            refine dw_getf (fi := 15) (v := .ref (a 67)) S hw i_Mo ds_ob54 (by decide) rfl wd_377 rfl d_Mo_run_115 ?_
                            refine lv_iload S.1 S.2.1 d_Mo_run_118 (lv_at hl 3 rfl) ?_
                            refine lv_aload_n S.1 S.2.1 d_Mo_run_120 rfl (lv_at hl 0 rfl) ?_
                            refine dw_getf (fi := 14) (v := .ref (a 66)) S hw i_Mo ds_ob54 (by decide) rfl wd_376 rfl d_Mo_run_121 ?_
                            refine lv_iload S.1 S.2.1 d_Mo_run_124 (lv_at hl 3 rfl) ?_
                            refine dw_iald S.1 S.2.1 hw ds_k66 (by omega) d_Mo_run_126 ?_
                            refine dw_iast S.1 S.2.1 hw ds_k67 (by omega) d_Mo_run_127 (fun f_11 H locs ef_11 hw => ?_)
                            refine lv_iinc (v := nI (i + 1)) (lv' := [(8, .int (nI (i + 1))), (0, .ref (a 54)), (1, .int (nI (md_mv (md_v f rw) (f2 66)))), (2, .long (lN (md_cs (md_v f rw) (f2 66))))]) S.1 S.2.1 d_Mo_run_128 hl (k := 3) rfl (by rw [show Int32.ofInt 1 = nI 1 from rfl, nI_add]) (by decide) rfl (fun ls hl => ?_)
                            refine lv_goto (tgt := 105) S.1 S.2.1 d_Mo_run_131 (by decide) ?_
                            exact ih_105 (i + 1) f_11 (by omega) (by rw [ef_11]; exact md_ag_w hag3 (Or.inr rfl) _ _) (by rw [ef_11, dw_w_ne (by decide)]; exact h66) (fun x hx => by
    rw [ef_11, dw_w_eq]
    by_cases ex : x = i
    · rw [ex, dw_up_eq, h66]
    · rw [dw_up_ne ex]; exact hcp x (by omega)) (by omega) H locs hw ls (lv_sub hl [1, 2, 3, 0] rfl)
                      exact loop_105 _ 0 f_9 (Nat.zero_le _) (hagX) (h66X) (fun x hx => absurd hx (Nat.not_lt_zero _)) (Nat.lt_succ_self _) H locs hw ls (lv_sub hl [5, 2, 1, 0] rfl)
                    · exact absurd h_46 h_80
              · refine lv_iload S.1 S.2.1 d_Mo_run_49 (lv_at hl 0 rfl) ?_
                refine lv_iload_n S.1 S.2.1 d_Mo_run_51 rfl (lv_at hl 2 rfl) ?_
                refine lv_icmp_gt (tgt := 134) S.1 S.2.1 d_Mo_run_52 (by decide) (fun h_52 => ?_) (fun h_52 => ?_)
                · have hagC : md_ag f f2 := hag
                  have h66C : f2 66 = f2 66 := rfl
                  have h67C : f2 67 = f2 67 := rfl
                  have hB3 : ∃ s0 : Nat → Nat, md_bst (md_v f rw) (fun q => md_cd (md_v f rw) q ≤ md_cd (md_v f rw) (f2 66)) w y s0 ∧ (w = -1 ∨ ∀ x, x < f 54 1 → f2 67 x = s0 x) := ⟨s0, md_skip ok hBc hval (Or.inr ⟨h_46, Or.inl h_52⟩), by rcases hB2 with q | q; exact Or.inl q; exact Or.inr (fun x hx => by rw [h67C]; exact q x hx)⟩
                  refine lv_aload_n S.1 S.2.1 d_Mo_run_134 rfl (lv_at hl 1 rfl) ?_
                  refine dw_afti hw hA (dw_runV (As := []) (rest := []) (ko := 54) hw S ds_good (m_turn l D g a f2 (by rw [hagC.2 1 (by decide)]; exact hn) (by rw [hagC.2 0 (by decide)]; omega) (fun x hx => by rw [h66C, hagC.2 0 (by decide)]; rw [hagC.2 1 (by decide)] at hx; exact hval2 x hx) H.size) cw_Mo_turn wd_534 wd_536 ws_Mo_turn ds_ob54 dw_blind (dw_pre hw hN) rfl hl.1 rfl ⟨Nat.le_trans (Nat.le_of_ble_eq_true rfl) hR.1, Nat.le_trans (Nat.le_of_ble_eq_true rfl) hR.2⟩ (Nat.le_of_ble_eq_true rfl) ⟨Nat.zero_le _, Nat.zero_le _⟩ d_Mo_run_135) (fun r_135 f_12 H locs hp hw => ?_)
                  obtain ⟨hp1, hpo⟩ := hp
                  obtain ⟨bt, er, hbt, hT1, hT0⟩ := md_turn_b hp1
                  subst er
                  have q1C : f2 54 1 = f 54 1 := hagC.2 1 (by decide)
                  have q0C : f2 54 0 = f 54 0 := hagC.2 0 (by decide)
                  rw [h66C, q1C, q0C] at hT1 hT0
                  obtain ⟨hS1, hS2, hS3⟩ := md_step (F := (md_v f rw)) hval hT1 hT0
                  refine lv_istore (lv' := [(4, .int (nI bt)), (5, .int (nI (md_mv (md_v f rw) (f2 66)))), (0, .ref (a 54)), (1, .int w), (2, .long (lN y))]) S.1 S.2.1 d_Mo_run_138 hl (by decide) rfl (fun ls hl => ?_)
                  refine lv_goto (tgt := 30) S.1 S.2.1 d_Mo_run_140 (by decide) ?_
                  exact ih_30 w y bt f_12 (md_ag_66 hagC hpo) (hS1) (hbt) (hy) (by obtain ⟨s2, z1, z2⟩ := hB3; exact ⟨s2, md_bst_c hS2 z1, by rw [hpo 67 (by decide)]; exact z2⟩) (by rw [if_neg (by omega)] at hm_30; exact Nat.lt_of_lt_of_le hS3 (Nat.le_of_lt_succ hm_30)) H locs hw ls (lv_sub hl [2, 3, 4, 0] rfl)
                · refine lv_aload_n S.1 S.2.1 d_Mo_run_55 rfl (lv_at hl 1 rfl) ?_
                  refine dw_afti hw hA (dw_runV (As := []) (rest := []) (ko := 54) hw S ds_good (m_holdsApart l D g a f2 rw (okv) (fun x hx => by rw [q0]; exact hval2 x (by omega)) H.size) cw_Mo_holdsApart wd_522 wd_524 ws_Mo_holdsApart ds_ob54 dw_blind (dw_pre hw hN) rfl hl.1 rfl ⟨Nat.le_trans (Nat.le_of_ble_eq_true rfl) hR.1, Nat.le_trans (Nat.le_of_ble_eq_true rfl) hR.2⟩ (Nat.le_of_ble_eq_true rfl) ⟨Nat.zero_le _, Nat.zero_le _⟩ d_Mo_run_56) (fun r_56 f_13 H locs hp hw => ?_)
                  obtain ⟨er, ef⟩ := hp
                  subst er
                  rw [ef] at hw
                  refine ds_topi (w := nI (dn_b (md_ap (md_v f rw) (f2 66) (f 54 1) = true))) (by rw [md_ag_v hag, q1]) ?_
                  refine dn_ifb_eq S.1 S.2.1 134 d_Mo_run_59 (by decide) (fun h_59 => ?_) (fun h_59 => ?_)
                  · have hagC : md_ag f f2 := hag
                    have h66C : f2 66 = f2 66 := rfl
                    have h67C : f2 67 = f2 67 := rfl
                    have hB3 : ∃ s0 : Nat → Nat, md_bst (md_v f rw) (fun q => md_cd (md_v f rw) q ≤ md_cd (md_v f rw) (f2 66)) w y s0 ∧ (w = -1 ∨ ∀ x, x < f 54 1 → f2 67 x = s0 x) := ⟨s0, md_skip ok hBc hval (Or.inl (fun q => by unfold md_hold at q; rw [Bool.and_eq_true] at q; exact h_59 q.1)), by rcases hB2 with q | q; exact Or.inl q; exact Or.inr (fun x hx => by rw [h67C]; exact q x hx)⟩
                    refine lv_aload_n S.1 S.2.1 d_Mo_run_134 rfl (lv_at hl 1 rfl) ?_
                    refine dw_afti hw hA (dw_runV (As := []) (rest := []) (ko := 54) hw S ds_good (m_turn l D g a f2 (by rw [hagC.2 1 (by decide)]; exact hn) (by rw [hagC.2 0 (by decide)]; omega) (fun x hx => by rw [h66C, hagC.2 0 (by decide)]; rw [hagC.2 1 (by decide)] at hx; exact hval2 x hx) H.size) cw_Mo_turn wd_534 wd_536 ws_Mo_turn ds_ob54 dw_blind (dw_pre hw hN) rfl hl.1 rfl ⟨Nat.le_trans (Nat.le_of_ble_eq_true rfl) hR.1, Nat.le_trans (Nat.le_of_ble_eq_true rfl) hR.2⟩ (Nat.le_of_ble_eq_true rfl) ⟨Nat.zero_le _, Nat.zero_le _⟩ d_Mo_run_135) (fun r_135 f_14 H locs hp hw => ?_)
                    obtain ⟨hp1, hpo⟩ := hp
                    obtain ⟨bt, er, hbt, hT1, hT0⟩ := md_turn_b hp1
                    subst er
                    have q1C : f2 54 1 = f 54 1 := hagC.2 1 (by decide)
                    have q0C : f2 54 0 = f 54 0 := hagC.2 0 (by decide)
                    rw [h66C, q1C, q0C] at hT1 hT0
                    obtain ⟨hS1, hS2, hS3⟩ := md_step (F := (md_v f rw)) hval hT1 hT0
                    refine lv_istore (lv' := [(4, .int (nI bt)), (5, .int (nI (md_mv (md_v f rw) (f2 66)))), (0, .ref (a 54)), (1, .int w), (2, .long (lN y))]) S.1 S.2.1 d_Mo_run_138 hl (by decide) rfl (fun ls hl => ?_)
                    refine lv_goto (tgt := 30) S.1 S.2.1 d_Mo_run_140 (by decide) ?_
                    exact ih_30 w y bt f_14 (md_ag_66 hagC hpo) (hS1) (hbt) (hy) (by obtain ⟨s2, z1, z2⟩ := hB3; exact ⟨s2, md_bst_c hS2 z1, by rw [hpo 67 (by decide)]; exact z2⟩) (by rw [if_neg (by omega)] at hm_30; exact Nat.lt_of_lt_of_le hS3 (Nat.le_of_lt_succ hm_30)) H locs hw ls (lv_sub hl [2, 3, 4, 0] rfl)
                  · refine lv_aload_n S.1 S.2.1 d_Mo_run_62 rfl (lv_at hl 1 rfl) ?_
                    refine dw_afti hw hA (dw_runV (As := []) (rest := []) (ko := 54) hw S ds_good (m_holdsOvertime l D g a f2 rw (okv) (fun x hx => by rw [q0]; exact hval2 x (by omega)) H.size) cw_Mo_holdsOvertime wd_530 wd_532 ws_Mo_holdsOvertime ds_ob54 dw_blind (dw_pre hw hN) rfl hl.1 rfl ⟨Nat.le_trans (Nat.le_of_ble_eq_true rfl) hR.1, Nat.le_trans (Nat.le_of_ble_eq_true rfl) hR.2⟩ (Nat.le_of_ble_eq_true rfl) ⟨Nat.zero_le _, Nat.zero_le _⟩ d_Mo_run_63) (fun r_63 f_15 H locs hp hw => ?_)
                    obtain ⟨er, hr4, zr4, ef_15⟩ := hp
                    subst er
                    refine ds_topi (w := nI (dn_b (md_ho (md_v f rw) (f2 66) (f 54 0) = true))) (by rw [md_ag_v hag, q0]) ?_
                    have hagX : md_ag f f_15 := by rw [ef_15]; exact md_ag_r hag _ _
                    have h66X : f_15 66 = f2 66 := by rw [ef_15, md_r_ne (by decide) (by decide)]
                    have h67X : f_15 67 = f2 67 := by rw [ef_15, md_r_ne (by decide) (by decide)]
                    have q0X : f_15 54 0 = f 54 0 := hagX.2 0 (by decide)
                    refine dn_ifb_eq S.1 S.2.1 134 d_Mo_run_66 (by decide) (fun h_66 => ?_) (fun h_66 => ?_)
                    · have hagC : md_ag f f_15 := hagX
                      have h66C : f_15 66 = f2 66 := h66X
                      have h67C : f_15 67 = f2 67 := h67X
                      have hB3 : ∃ s0 : Nat → Nat, md_bst (md_v f rw) (fun q => md_cd (md_v f rw) q ≤ md_cd (md_v f rw) (f2 66)) w y s0 ∧ (w = -1 ∨ ∀ x, x < f 54 1 → f_15 67 x = s0 x) := ⟨s0, md_skip ok hBc hval (Or.inl (fun q => by unfold md_hold at q; rw [Bool.and_eq_true] at q; exact h_66 q.2)), by rcases hB2 with q | q; exact Or.inl q; exact Or.inr (fun x hx => by rw [h67C]; exact q x hx)⟩
                      refine lv_aload_n S.1 S.2.1 d_Mo_run_134 rfl (lv_at hl 1 rfl) ?_
                      refine dw_afti hw hA (dw_runV (As := []) (rest := []) (ko := 54) hw S ds_good (m_turn l D g a f_15 (by rw [hagC.2 1 (by decide)]; exact hn) (by rw [hagC.2 0 (by decide)]; omega) (fun x hx => by rw [h66C, hagC.2 0 (by decide)]; rw [hagC.2 1 (by decide)] at hx; exact hval2 x hx) H.size) cw_Mo_turn wd_534 wd_536 ws_Mo_turn ds_ob54 dw_blind (dw_pre hw hN) rfl hl.1 rfl ⟨Nat.le_trans (Nat.le_of_ble_eq_true rfl) hR.1, Nat.le_trans (Nat.le_of_ble_eq_true rfl) hR.2⟩ (Nat.le_of_ble_eq_true rfl) ⟨Nat.zero_le _, Nat.zero_le _⟩ d_Mo_run_135) (fun r_135 f_16 H locs hp hw => ?_)
                      obtain ⟨hp1, hpo⟩ := hp
                      obtain ⟨bt, er, hbt, hT1, hT0⟩ := md_turn_b hp1
                      subst er
                      have q1C : f_15 54 1 = f 54 1 := hagC.2 1 (by decide)
                      have q0C : f_15 54 0 = f 54 0 := hagC.2 0 (by decide)
                      rw [h66C, q1C, q0C] at hT1 hT0
                      obtain ⟨hS1, hS2, hS3⟩ := md_step (F := (md_v f rw)) hval hT1 hT0
                      refine lv_istore (lv' := [(4, .int (nI bt)), (5, .int (nI (md_mv (md_v f rw) (f2 66)))), (0, .ref (a 54)), (1, .int w), (2, .long (lN y))]) S.1 S.2.1 d_Mo_run_138 hl (by decide) rfl (fun ls hl => ?_)
                      refine lv_goto (tgt := 30) S.1 S.2.1 d_Mo_run_140 (by decide) ?_
                      exact ih_30 w y bt f_16 (md_ag_66 hagC hpo) (hS1) (hbt) (hy) (by obtain ⟨s2, z1, z2⟩ := hB3; exact ⟨s2, md_bst_c hS2 z1, by rw [hpo 67 (by decide)]; exact z2⟩) (by rw [if_neg (by omega)] at hm_30; exact Nat.lt_of_lt_of_le hS3 (Nat.le_of_lt_succ hm_30)) H locs hw ls (lv_sub hl [2, 3, 4, 0] rfl)
                    · refine lv_aload_n S.1 S.2.1 d_Mo_run_69 rfl (lv_at hl 1 rfl) ?_
                      refine lv_aload_n S.1 S.2.1 d_Mo_run_70 rfl (lv_at hl 1 rfl) ?_
                      refine dw_getf (fi := 14) (v := .ref (a 66)) S hw i_Mo ds_ob54 (by decide) rfl wd_376 rfl d_Mo_run_71 ?_
                      refine dw_aftl hw hA (dw_runV (As := [.ref (a 66)]) (rest := []) (ko := 54) hw S ds_good (m_costOf l D g a f_15 rw 66 (by rw [md_ag_v hagX]; exact ok) (ds_k66) (Or.inr rfl) (fun x hx => by rw [h66X]; rw [hagX.2 1 (by decide)] at hx; have := hval2 x hx; omega) H.size) cw_Mo_costOf wd_494 wd_496 ws_Mo_costOf ds_ob54 dw_blind (dw_pre hw hN) rfl hl.1 rfl ⟨Nat.le_trans (Nat.le_of_ble_eq_true rfl) hR.1, Nat.le_trans (Nat.le_of_ble_eq_true rfl) hR.2⟩ (Nat.le_of_ble_eq_true rfl) ⟨Nat.zero_le _, Nat.zero_le _⟩ d_Mo_run_74) (fun r_74 f_17 H locs hp hw => ?_)
                      obtain ⟨er, hr3, zr3, ef_17⟩ := hp
                      subst er
                      refine ds_topl (w := lN (md_cs (md_v f rw) (f2 66))) (by rw [h66X, q0X, md_ag_v hagX]; rfl) ?_
                      have hagX : md_ag f f_17 := by rw [ef_17]; exact md_ag_r hagX _ _
                      have h66X : f_17 66 = f2 66 := by rw [ef_17, md_r_ne (by decide) (by decide)]; exact h66X
                      have h67X : f_17 67 = f2 67 := by rw [ef_17, md_r_ne (by decide) (by decide)]; exact h67X
                      have q0X : f_17 54 0 = f 54 0 := hagX.2 0 (by decide)
                      have csb : md_cs (md_v f rw) (f2 66) ≤ 1020000 := Nat.le_trans (ds_cst_b ok (f2 66) _ (Nat.le_refl _)) (by rw [e10]; omega)
                      have hhold : md_hold (md_v f rw) (f2 66) = true := by show (md_ap (md_v f rw) (f2 66) (f 54 1) && md_ho (md_v f rw) (f2 66) (f 54 0)) = true; rw [h_59, h_66]; rfl
                      refine lv_lstore (lv' := [(6, .long (lN (md_cs (md_v f rw) (f2 66)))), (5, .int (nI (md_mv (md_v f rw) (f2 66)))), (0, .ref (a 54)), (1, .int w), (2, .long (lN y)), (4, .int (nI b))]) S.1 S.2.1 d_Mo_run_77 hl (by decide) rfl (fun ls hl => ?_)
                      refine lv_iload_n S.1 S.2.1 d_Mo_run_79 rfl (lv_at hl 3 rfl) ?_
                      refine lv_if_lt (tgt := 96) S.1 S.2.1 d_Mo_run_80 (by decide) (fun h_80 => ?_) (fun h_80 => ?_)
                      · exact absurd h_80 h_46
                      · refine lv_iload S.1 S.2.1 d_Mo_run_83 (lv_at hl 1 rfl) ?_
                        refine lv_iload_n S.1 S.2.1 d_Mo_run_85 rfl (lv_at hl 3 rfl) ?_
                        refine lv_icmp_lt (tgt := 96) S.1 S.2.1 d_Mo_run_86 (by decide) (fun h_86 => ?_) (fun h_86 => ?_)
                        · have hTk : md_bst (md_v f rw) (fun q => md_cd (md_v f rw) q ≤ md_cd (md_v f rw) (f2 66)) (nI (md_mv (md_v f rw) (f2 66))) (md_cs (md_v f rw) (f2 66)) (f2 66) := md_take ok hBc hval hhold (Or.inr (Or.inl h_86))
                          have hyT : md_cs (md_v f rw) (f2 66) ≤ 1020000 := csb
                          refine lv_iload S.1 S.2.1 d_Mo_run_96 (lv_at hl 1 rfl) ?_
                          refine lv_istore_n (lv' := [(1, .int (nI (md_mv (md_v f rw) (f2 66)))), (6, .long (lN (md_cs (md_v f rw) (f2 66)))), (5, .int (nI (md_mv (md_v f rw) (f2 66)))), (0, .ref (a 54)), (2, .long (lN y)), (4, .int (nI b))]) S.1 S.2.1 d_Mo_run_98 rfl hl (by decide) rfl (fun ls hl => ?_)
                          refine lv_lload S.1 S.2.1 d_Mo_run_99 (lv_at hl 1 rfl) ?_
                          refine lv_lstore_n (lv' := [(2, .long (lN (md_cs (md_v f rw) (f2 66)))), (1, .int (nI (md_mv (md_v f rw) (f2 66)))), (6, .long (lN (md_cs (md_v f rw) (f2 66)))), (5, .int (nI (md_mv (md_v f rw) (f2 66)))), (0, .ref (a 54)), (4, .int (nI b))]) S.1 S.2.1 d_Mo_run_101 rfl hl (by decide) rfl (fun ls hl => ?_)
                          refine lv_iconst (v := nI 0) S.1 S.2.1 d_Mo_run_102 (by decide) ?_
                          refine lv_istore (lv' := [(8, .int (nI 0)), (2, .long (lN (md_cs (md_v f rw) (f2 66)))), (1, .int (nI (md_mv (md_v f rw) (f2 66)))), (6, .long (lN (md_cs (md_v f rw) (f2 66)))), (5, .int (nI (md_mv (md_v f rw) (f2 66)))), (0, .ref (a 54)), (4, .int (nI b))]) S.1 S.2.1 d_Mo_run_103 hl (by decide) rfl (fun ls hl => ?_)
                          have loop_105 : ∀ (n : Nat) (i : Nat) (f3 : Nat → Nat → Nat) (hi : i ≤ f 54 1) (hag3 : md_ag f f3) (h66 : f3 66 = f2 66) (hcp : ∀ x, x < i → f3 67 x = f2 66 x) (_ : f 54 1 - i < n) (H : Heap) (locs : List Loc), dw_W D classes (ds_tys g) A s.heap (dw_l 77 (ds_ce g a) a f3) s H locs → ∀ (ls : Array Slot), lv_has ls 9 [(0, .ref (a 54)), (1, .int (nI (md_mv (md_v f rw) (f2 66)))), (2, .long (lN (md_cs (md_v f rw) (f2 66)))), (8, .int (nI i))] → W p l e R s m args below meth c H locs 0 0 Q (F0 m 105 ls []) := by
                            intro n
                            induction n with
                            | zero => intro i f3 hi hag3 h66 hcp h9; exact absurd h9 (Nat.not_lt_zero _)
                            | succ n ih_105 =>
                              intro i f3 hi hag3 h66 hcp hm_105 H locs hw ls hl
                              have q13 : f3 54 1 = f 54 1 := hag3.2 1 (by decide)
                              refine lv_iload S.1 S.2.1 d_Mo_run_105 (lv_at hl 3 rfl) ?_
                              refine lv_aload_n S.1 S.2.1 d_Mo_run_107 rfl (lv_at hl 0 rfl) ?_
                              refine dw_getf (fi := 1) (v := .int (nI (f3 54 1))) S hw i_Mo ds_ob54 (by decide) rfl wd_363 rfl d_Mo_run_108 ?_
                              refine dn_icmp_ge S.1 S.2.1 134 (by omega) (by omega) d_Mo_run_111 (by decide) (fun h_111 => ?_) (fun h_111 => ?_)
                              · have hagC : md_ag f f3 := hag3
                                have h66C : f3 66 = f2 66 := h66
                                have hB3 : ∃ s0 : Nat → Nat, md_bst (md_v f rw) (fun q => md_cd (md_v f rw) q ≤ md_cd (md_v f rw) (f2 66)) (nI (md_mv (md_v f rw) (f2 66))) (md_cs (md_v f rw) (f2 66)) s0 ∧ (nI (md_mv (md_v f rw) (f2 66)) = -1 ∨ ∀ x, x < f 54 1 → f3 67 x = s0 x) := ⟨f2 66, hTk, Or.inr (fun x hx => hcp x (by omega))⟩
                                refine lv_aload_n S.1 S.2.1 d_Mo_run_134 rfl (lv_at hl 0 rfl) ?_
                                refine dw_afti hw hA (dw_runV (As := []) (rest := []) (ko := 54) hw S ds_good (m_turn l D g a f3 (by rw [hagC.2 1 (by decide)]; exact hn) (by rw [hagC.2 0 (by decide)]; omega) (fun x hx => by rw [h66C, hagC.2 0 (by decide)]; rw [hagC.2 1 (by decide)] at hx; exact hval2 x hx) H.size) cw_Mo_turn wd_534 wd_536 ws_Mo_turn ds_ob54 dw_blind (dw_pre hw hN) rfl hl.1 rfl ⟨Nat.le_trans (Nat.le_of_ble_eq_true rfl) hR.1, Nat.le_trans (Nat.le_of_ble_eq_true rfl) hR.2⟩ (Nat.le_of_ble_eq_true rfl) ⟨Nat.zero_le _, Nat.zero_le _⟩ d_Mo_run_135) (fun r_135 f_18 H locs hp hw => ?_)
                                obtain ⟨hp1, hpo⟩ := hp
                                obtain ⟨bt, er, hbt, hT1, hT0⟩ := md_turn_b hp1
                                subst er
                                have q1C : f3 54 1 = f 54 1 := hagC.2 1 (by decide)
                                have q0C : f3 54 0 = f 54 0 := hagC.2 0 (by decide)
                                rw [h66C, q1C, q0C] at hT1 hT0
                                obtain ⟨hS1, hS2, hS3⟩ := md_step (F := (md_v f rw)) hval hT1 hT0
                                refine lv_istore (lv' := [(4, .int (nI bt)), (0, .ref (a 54)), (1, .int (nI (md_mv (md_v f rw) (f2 66)))), (2, .long (lN (md_cs (md_v f rw) (f2 66)))), (8, .int (nI i))]) S.1 S.2.1 d_Mo_run_138 hl (by decide) rfl (fun ls hl => ?_)
                                refine lv_goto (tgt := 30) S.1 S.2.1 d_Mo_run_140 (by decide) ?_
                                exact ih_30 (nI (md_mv (md_v f rw) (f2 66))) (md_cs (md_v f rw) (f2 66)) bt f_18 (md_ag_66 hagC hpo) (hS1) (hbt) (hyT) (by obtain ⟨s2, z1, z2⟩ := hB3; exact ⟨s2, md_bst_c hS2 z1, by rw [hpo 67 (by decide)]; exact z2⟩) (by rw [if_neg (by omega)] at hm_30; exact Nat.lt_of_lt_of_le hS3 (Nat.le_of_lt_succ hm_30)) H locs hw ls (lv_sub hl [1, 2, 3, 0] rfl)
                              · have v3 : f3 66 i ≤ 3 := by rw [h66]; have := hval2 i (by omega); omega
                                refine lv_aload_n S.1 S.2.1 d_Mo_run_114 rfl (lv_at hl 0 rfl) ?_
                                refine dw_getf (fi := 15) (v := .ref (a 67)) S hw i_Mo ds_ob54 (by decide) rfl wd_377 rfl d_Mo_run_115 ?_
                                refine lv_iload S.1 S.2.1 d_Mo_run_118 (lv_at hl 3 rfl) ?_
                                refine lv_aload_n S.1 S.2.1 d_Mo_run_120 rfl (lv_at hl 0 rfl) ?_
                                refine dw_getf (fi := 14) (v := .ref (a 66)) S hw i_Mo ds_ob54 (by decide) rfl wd_376 rfl d_Mo_run_121 ?_
                                refine lv_iload S.1 S.2.1 d_Mo_run_124 (lv_at hl 3 rfl) ?_
                                refine dw_iald S.1 S.2.1 hw ds_k66 (by omega) d_Mo_run_126 ?_
                                refine dw_iast S.1 S.2.1 hw ds_k67 (by omega) d_Mo_run_127 (fun f_19 H locs ef_19 hw => ?_)
                                refine lv_iinc (v := nI (i + 1)) (lv' := [(8, .int (nI (i + 1))), (0, .ref (a 54)), (1, .int (nI (md_mv (md_v f rw) (f2 66)))), (2, .long (lN (md_cs (md_v f rw) (f2 66))))]) S.1 S.2.1 d_Mo_run_128 hl (k := 3) rfl (by rw [show Int32.ofInt 1 = nI 1 from rfl, nI_add]) (by decide) rfl (fun ls hl => ?_)
                                refine lv_goto (tgt := 105) S.1 S.2.1 d_Mo_run_131 (by decide) ?_
                                exact ih_105 (i + 1) f_19 (by omega) (by rw [ef_19]; exact md_ag_w hag3 (Or.inr rfl) _ _) (by rw [ef_19, dw_w_ne (by decide)]; exact h66) (fun x hx => by
    rw [ef_19, dw_w_eq]
    by_cases ex : x = i
    · rw [ex, dw_up_eq, h66]
    · rw [dw_up_ne ex]; exact hcp x (by omega)) (by omega) H locs hw ls (lv_sub hl [1, 2, 3, 0] rfl)
                          exact loop_105 _ 0 f_17 (Nat.zero_le _) (hagX) (h66X) (fun x hx => absurd hx (Nat.not_lt_zero _)) (Nat.lt_succ_self _) H locs hw ls (lv_sub hl [5, 2, 1, 0] rfl)
                        · refine lv_lload S.1 S.2.1 d_Mo_run_89 (lv_at hl 0 rfl) ?_
                          refine lv_lload_n S.1 S.2.1 d_Mo_run_91 rfl (lv_at hl 4 rfl) ?_
                          refine dn_lcmp_ge S.1 S.2.1 134 (by omega) (by omega) d_Mo_run_92 d_Mo_run_93 (by decide) (fun h_92 => ?_) (fun h_92 => ?_)
                          · have hagC : md_ag f f_17 := hagX
                            have h66C : f_17 66 = f2 66 := h66X
                            have h67C : f_17 67 = f2 67 := h67X
                            have hB3 : ∃ s0 : Nat → Nat, md_bst (md_v f rw) (fun q => md_cd (md_v f rw) q ≤ md_cd (md_v f rw) (f2 66)) w y s0 ∧ (w = -1 ∨ ∀ x, x < f 54 1 → f_17 67 x = s0 x) := ⟨s0, md_skip ok hBc hval (Or.inr ⟨h_80, Or.inr ⟨h_86, h_92⟩⟩), by rcases hB2 with q | q; exact Or.inl q; exact Or.inr (fun x hx => by rw [h67C]; exact q x hx)⟩
                            refine lv_aload_n S.1 S.2.1 d_Mo_run_134 rfl (lv_at hl 2 rfl) ?_
                            refine dw_afti hw hA (dw_runV (As := []) (rest := []) (ko := 54) hw S ds_good (m_turn l D g a f_17 (by rw [hagC.2 1 (by decide)]; exact hn) (by rw [hagC.2 0 (by decide)]; omega) (fun x hx => by rw [h66C, hagC.2 0 (by decide)]; rw [hagC.2 1 (by decide)] at hx; exact hval2 x hx) H.size) cw_Mo_turn wd_534 wd_536 ws_Mo_turn ds_ob54 dw_blind (dw_pre hw hN) rfl hl.1 rfl ⟨Nat.le_trans (Nat.le_of_ble_eq_true rfl) hR.1, Nat.le_trans (Nat.le_of_ble_eq_true rfl) hR.2⟩ (Nat.le_of_ble_eq_true rfl) ⟨Nat.zero_le _, Nat.zero_le _⟩ d_Mo_run_135) (fun r_135 f_20 H locs hp hw => ?_)
                            obtain ⟨hp1, hpo⟩ := hp
                            obtain ⟨bt, er, hbt, hT1, hT0⟩ := md_turn_b hp1
                            subst er
                            have q1C : f_17 54 1 = f 54 1 := hagC.2 1 (by decide)
                            have q0C : f_17 54 0 = f 54 0 := hagC.2 0 (by decide)
                            rw [h66C, q1C, q0C] at hT1 hT0
                            obtain ⟨hS1, hS2, hS3⟩ := md_step (F := (md_v f rw)) hval hT1 hT0
                            refine lv_istore (lv' := [(4, .int (nI bt)), (6, .long (lN (md_cs (md_v f rw) (f2 66)))), (5, .int (nI (md_mv (md_v f rw) (f2 66)))), (0, .ref (a 54)), (1, .int w), (2, .long (lN y))]) S.1 S.2.1 d_Mo_run_138 hl (by decide) rfl (fun ls hl => ?_)
                            refine lv_goto (tgt := 30) S.1 S.2.1 d_Mo_run_140 (by decide) ?_
                            exact ih_30 w y bt f_20 (md_ag_66 hagC hpo) (hS1) (hbt) (hy) (by obtain ⟨s2, z1, z2⟩ := hB3; exact ⟨s2, md_bst_c hS2 z1, by rw [hpo 67 (by decide)]; exact z2⟩) (by rw [if_neg (by omega)] at hm_30; exact Nat.lt_of_lt_of_le hS3 (Nat.le_of_lt_succ hm_30)) H locs hw ls (lv_sub hl [3, 4, 5, 0] rfl)
                          · have hTk : md_bst (md_v f rw) (fun q => md_cd (md_v f rw) q ≤ md_cd (md_v f rw) (f2 66)) (nI (md_mv (md_v f rw) (f2 66))) (md_cs (md_v f rw) (f2 66)) (f2 66) := md_take ok hBc hval hhold (Or.inr (Or.inr ⟨h_52, h_92⟩))
                            have hyT : md_cs (md_v f rw) (f2 66) ≤ 1020000 := csb
                            refine lv_iload S.1 S.2.1 d_Mo_run_96 (lv_at hl 1 rfl) ?_
                            refine lv_istore_n (lv' := [(1, .int (nI (md_mv (md_v f rw) (f2 66)))), (6, .long (lN (md_cs (md_v f rw) (f2 66)))), (5, .int (nI (md_mv (md_v f rw) (f2 66)))), (0, .ref (a 54)), (2, .long (lN y)), (4, .int (nI b))]) S.1 S.2.1 d_Mo_run_98 rfl hl (by decide) rfl (fun ls hl => ?_)
                            refine lv_lload S.1 S.2.1 d_Mo_run_99 (lv_at hl 1 rfl) ?_
                            refine lv_lstore_n (lv' := [(2, .long (lN (md_cs (md_v f rw) (f2 66)))), (1, .int (nI (md_mv (md_v f rw) (f2 66)))), (6, .long (lN (md_cs (md_v f rw) (f2 66)))), (5, .int (nI (md_mv (md_v f rw) (f2 66)))), (0, .ref (a 54)), (4, .int (nI b))]) S.1 S.2.1 d_Mo_run_101 rfl hl (by decide) rfl (fun ls hl => ?_)
                            refine lv_iconst (v := nI 0) S.1 S.2.1 d_Mo_run_102 (by decide) ?_
                            refine lv_istore (lv' := [(8, .int (nI 0)), (2, .long (lN (md_cs (md_v f rw) (f2 66)))), (1, .int (nI (md_mv (md_v f rw) (f2 66)))), (6, .long (lN (md_cs (md_v f rw) (f2 66)))), (5, .int (nI (md_mv (md_v f rw) (f2 66)))), (0, .ref (a 54)), (4, .int (nI b))]) S.1 S.2.1 d_Mo_run_103 hl (by decide) rfl (fun ls hl => ?_)
                            have loop_105 : ∀ (n : Nat) (i : Nat) (f3 : Nat → Nat → Nat) (hi : i ≤ f 54 1) (hag3 : md_ag f f3) (h66 : f3 66 = f2 66) (hcp : ∀ x, x < i → f3 67 x = f2 66 x) (_ : f 54 1 - i < n) (H : Heap) (locs : List Loc), dw_W D classes (ds_tys g) A s.heap (dw_l 77 (ds_ce g a) a f3) s H locs → ∀ (ls : Array Slot), lv_has ls 9 [(0, .ref (a 54)), (1, .int (nI (md_mv (md_v f rw) (f2 66)))), (2, .long (lN (md_cs (md_v f rw) (f2 66)))), (8, .int (nI i))] → W p l e R s m args below meth c H locs 0 0 Q (F0 m 105 ls []) := by
                              intro n
                              induction n with
                              | zero => intro i f3 hi hag3 h66 hcp h9; exact absurd h9 (Nat.not_lt_zero _)
                              | succ n ih_105 =>
                                intro i f3 hi hag3 h66 hcp hm_105 H locs hw ls hl
                                have q13 : f3 54 1 = f 54 1 := hag3.2 1 (by decide)
                                refine lv_iload S.1 S.2.1 d_Mo_run_105 (lv_at hl 3 rfl) ?_
                                refine lv_aload_n S.1 S.2.1 d_Mo_run_107 rfl (lv_at hl 0 rfl) ?_
                                refine dw_getf (fi := 1) (v := .int (nI (f3 54 1))) S hw i_Mo ds_ob54 (by decide) rfl wd_363 rfl d_Mo_run_108 ?_
                                refine dn_icmp_ge S.1 S.2.1 134 (by omega) (by omega) d_Mo_run_111 (by decide) (fun h_111 => ?_) (fun h_111 => ?_)
                                · have hagC : md_ag f f3 := hag3
                                  have h66C : f3 66 = f2 66 := h66
                                  have hB3 : ∃ s0 : Nat → Nat, md_bst (md_v f rw) (fun q => md_cd (md_v f rw) q ≤ md_cd (md_v f rw) (f2 66)) (nI (md_mv (md_v f rw) (f2 66))) (md_cs (md_v f rw) (f2 66)) s0 ∧ (nI (md_mv (md_v f rw) (f2 66)) = -1 ∨ ∀ x, x < f 54 1 → f3 67 x = s0 x) := ⟨f2 66, hTk, Or.inr (fun x hx => hcp x (by omega))⟩
                                  refine lv_aload_n S.1 S.2.1 d_Mo_run_134 rfl (lv_at hl 0 rfl) ?_
                                  refine dw_afti hw hA (dw_runV (As := []) (rest := []) (ko := 54) hw S ds_good (m_turn l D g a f3 (by rw [hagC.2 1 (by decide)]; exact hn) (by rw [hagC.2 0 (by decide)]; omega) (fun x hx => by rw [h66C, hagC.2 0 (by decide)]; rw [hagC.2 1 (by decide)] at hx; exact hval2 x hx) H.size) cw_Mo_turn wd_534 wd_536 ws_Mo_turn ds_ob54 dw_blind (dw_pre hw hN) rfl hl.1 rfl ⟨Nat.le_trans (Nat.le_of_ble_eq_true rfl) hR.1, Nat.le_trans (Nat.le_of_ble_eq_true rfl) hR.2⟩ (Nat.le_of_ble_eq_true rfl) ⟨Nat.zero_le _, Nat.zero_le _⟩ d_Mo_run_135) (fun r_135 f_21 H locs hp hw => ?_)
                                  obtain ⟨hp1, hpo⟩ := hp
                                  obtain ⟨bt, er, hbt, hT1, hT0⟩ := md_turn_b hp1
                                  subst er
                                  have q1C : f3 54 1 = f 54 1 := hagC.2 1 (by decide)
                                  have q0C : f3 54 0 = f 54 0 := hagC.2 0 (by decide)
                                  rw [h66C, q1C, q0C] at hT1 hT0
                                  obtain ⟨hS1, hS2, hS3⟩ := md_step (F := (md_v f rw)) hval hT1 hT0
                                  refine lv_istore (lv' := [(4, .int (nI bt)), (0, .ref (a 54)), (1, .int (nI (md_mv (md_v f rw) (f2 66)))), (2, .long (lN (md_cs (md_v f rw) (f2 66)))), (8, .int (nI i))]) S.1 S.2.1 d_Mo_run_138 hl (by decide) rfl (fun ls hl => ?_)
                                  refine lv_goto (tgt := 30) S.1 S.2.1 d_Mo_run_140 (by decide) ?_
                                  exact ih_30 (nI (md_mv (md_v f rw) (f2 66))) (md_cs (md_v f rw) (f2 66)) bt f_21 (md_ag_66 hagC hpo) (hS1) (hbt) (hyT) (by obtain ⟨s2, z1, z2⟩ := hB3; exact ⟨s2, md_bst_c hS2 z1, by rw [hpo 67 (by decide)]; exact z2⟩) (by rw [if_neg (by omega)] at hm_30; exact Nat.lt_of_lt_of_le hS3 (Nat.le_of_lt_succ hm_30)) H locs hw ls (lv_sub hl [1, 2, 3, 0] rfl)
                                · have v3 : f3 66 i ≤ 3 := by rw [h66]; have := hval2 i (by omega); omega
                                  refine lv_aload_n S.1 S.2.1 d_Mo_run_114 rfl (lv_at hl 0 rfl) ?_
                                  refine dw_getf (fi := 15) (v := .ref (a 67)) S hw i_Mo ds_ob54 (by decide) rfl wd_377 rfl d_Mo_run_115 ?_
                                  refine lv_iload S.1 S.2.1 d_Mo_run_118 (lv_at hl 3 rfl) ?_
                                  refine lv_aload_n S.1 S.2.1 d_Mo_run_120 rfl (lv_at hl 0 rfl) ?_
                                  refine dw_getf (fi := 14) (v := .ref (a 66)) S hw i_Mo ds_ob54 (by decide) rfl wd_376 rfl d_Mo_run_121 ?_
                                  refine lv_iload S.1 S.2.1 d_Mo_run_124 (lv_at hl 3 rfl) ?_
                                  refine dw_iald S.1 S.2.1 hw ds_k66 (by omega) d_Mo_run_126 ?_
                                  refine dw_iast S.1 S.2.1 hw ds_k67 (by omega) d_Mo_run_127 (fun f_22 H locs ef_22 hw => ?_)
                                  refine lv_iinc (v := nI (i + 1)) (lv' := [(8, .int (nI (i + 1))), (0, .ref (a 54)), (1, .int (nI (md_mv (md_v f rw) (f2 66)))), (2, .long (lN (md_cs (md_v f rw) (f2 66))))]) S.1 S.2.1 d_Mo_run_128 hl (k := 3) rfl (by rw [show Int32.ofInt 1 = nI 1 from rfl, nI_add]) (by decide) rfl (fun ls hl => ?_)
                                  refine lv_goto (tgt := 105) S.1 S.2.1 d_Mo_run_131 (by decide) ?_
                                  exact ih_105 (i + 1) f_22 (by omega) (by rw [ef_22]; exact md_ag_w hag3 (Or.inr rfl) _ _) (by rw [ef_22, dw_w_ne (by decide)]; exact h66) (fun x hx => by
    rw [ef_22, dw_w_eq]
    by_cases ex : x = i
    · rw [ex, dw_up_eq, h66]
    · rw [dw_up_ne ex]; exact hcp x (by omega)) (by omega) H locs hw ls (lv_sub hl [1, 2, 3, 0] rfl)
                            exact loop_105 _ 0 f_17 (Nat.zero_le _) (hagX) (h66X) (fun x hx => absurd hx (Nat.not_lt_zero _)) (Nat.lt_succ_self _) H locs hw ls (lv_sub hl [5, 2, 1, 0] rfl)
        exact loop_30 _ (-1) 0 1 f2 (hag) (fun x hx => by rw [hz x (by rw [e11] at hx; omega)]; exact Nat.zero_le _) (by decide) (by decide) (⟨fun _ => 0, Or.inl ⟨rfl, fun q _ hC => by rw [md_cd0 (F := (md_v f rw)) (p := f2 66) (fun x hx => hz x (by rw [e11] at hx; omega))] at hC; omega⟩, Or.inl rfl⟩) (Nat.lt_succ_self _) H locs hw ls (lv_sub hl [3, 2, 1, 0] rfl)
      · refine lv_aload_n S.1 S.2.1 d_Mo_run_10 rfl (lv_at hl 0 rfl) ?_
        refine dw_getf (fi := 14) (v := .ref (a 66)) S hw i_Mo ds_ob54 (by decide) rfl wd_376 rfl d_Mo_run_11 ?_
        refine lv_iload_n S.1 S.2.1 d_Mo_run_14 rfl (lv_at hl 1 rfl) ?_
        refine lv_iconst (v := nI 0) S.1 S.2.1 d_Mo_run_15 (by decide) ?_
        refine dw_iast S.1 S.2.1 hw ds_k66 (by omega) d_Mo_run_16 (fun f_23 H locs ef_23 hw => ?_)
        refine lv_iinc (v := nI (i + 1)) (lv' := [(1, .int (nI (i + 1))), (0, .ref (a 54))]) S.1 S.2.1 d_Mo_run_17 hl (k := 1) rfl (by rw [show Int32.ofInt 1 = nI 1 from rfl, nI_add]) (by decide) rfl (fun ls hl => ?_)
        refine lv_goto (tgt := 2) S.1 S.2.1 d_Mo_run_20 (by decide) ?_
        exact ih_2 (i + 1) f_23 (by omega) (by rw [ef_23]; exact md_ag_w hag (Or.inl rfl) _ _) (fun x hx => by
    rw [ef_23, dw_w_eq]
    by_cases ex : x = i
    · rw [ex, dw_up_eq]
    · rw [dw_up_ne ex]; exact hz x (by omega)) (by omega) H locs hw ls (lv_sub hl [1, 0] rfl)
  exact loop_2 _ 0 f (Nat.zero_le _) (md_ag_0) (fun x hx => absurd hx (Nat.not_lt_zero _)) (Nat.lt_succ_self _) H locs hw ls (lv_sub hl [1, 0] rfl)
