/-! run and next -/
set_option maxHeartbeats 4000000 in
set_option maxRecDepth 100000 in
theorem c_run (l : Launch) (D : va_G) (g : Nat → ClassId) (a : Nat → Nat) (f : Nat → Nat → Nat)  (ok : ds_ok f) (hk : f 3 2 ≤ 6) : ds_I l D g a y_DS_run b_DS_run 4 .int 5 123 [.ref (a 0)] f (fun r u => if ds_best f < 1152921504606846976 then r = nI (ds_cnt (fun x => u 5 x != f 10 x) (f 1 1)) ∧ (∀ x, x < f 1 1 → u 5 x = ds_best f / 2 ^ (2 * (7 - x)) &&& 3) ∧ (∃ kk dd : Nat, ((f 3 2 < 6 ∧ kk = f 3 2 ∧ dd = 0) ∨ (f 3 2 = 6 ∧ kk = 5 ∧ dd = 1)) ∧ u 3 2 = kk + 1 ∧ (∀ j, j < kk → (∀ t, t < 8 → u (39 + j) t = f (39 + (j + dd)) t) ∧ u 45 j = f 45 (j + dd)) ∧ (∀ t, t < 8 → u (39 + kk) t = f 5 t) ∧ u 45 kk = f 1 1) ∧ (∀ k, k ≠ 3 → k ≠ 5 → k ≠ 21 → k ≠ 45 → k ≠ 52 → k ≠ 53 → ¬ (39 ≤ k ∧ k < 45) → u k = f k) else r = ds_why f ∧ ∀ k, k ≠ 21 → k ≠ 52 → k ≠ 53 → u k = f k) := by
  refine dw_ofI (by decide) (fun _ _ _ => rfl) (Nat.le_of_ble_eq_true rfl) ?_
  intro p e s m args below meth c ls A Q R H locs hR hA S hN hw hl hret
  have hl : lv_has ls 4 [(0, .ref (a 0))] := hl
  have S : CallFix p m c b_DS_run 4 s args ds_T R_DS := S
  obtain ⟨hV, hn, hex, hst, hve, hwy, hw0, hrw⟩ := id ok
  have bb := ds_best_b ok
  refine lv_aload_n S.1 S.2.1 d_DS_run_0 rfl (lv_at hl 0 rfl) ?_
  refine dw_getf (fi := 1) (v := .ref (a 2)) S hw i_DS ds_ob0 (by decide) rfl wd_136 rfl d_DS_run_1 ?_
  refine dw_aftl hw hA (dw_runVN (As := []) (rest := []) (ko := 2) hw S ds_good (c_least l D g a f (ok) H.size) cw_Se_least hN wd_210 wd_212 ws_Se_least ds_ob2 dw_blind (dw_pre hw hN) rfl hl.1 rfl ⟨Nat.le_trans (Nat.le_of_ble_eq_true rfl) hR.1, Nat.le_trans (Nat.le_of_ble_eq_true rfl) hR.2⟩ (Nat.le_of_ble_eq_true rfl) ⟨Nat.zero_le _, Nat.zero_le _⟩ d_DS_run_4) (fun r_4 f_1 H locs hp hw => ?_)
  obtain ⟨er, ef_1⟩ := hp
  subst er
  refine ds_topl (w := lN (ds_best f)) (rfl) ?_
  have ag : ∀ k, ¬ ds_scr k → f_1 k = f k := fun k hk => ef_1 k (fun e => hk (by rw [e]; unfold ds_scr; omega)) (fun e => hk (by rw [e]; unfold ds_scr; omega)) (fun e => hk (by rw [e]; unfold ds_scr; omega))
  have ok1 := ds_ok_congr ag ok
  have g1 : f_1 1 = f 1 := ef_1 1 (by decide) (by decide) (by decide)
  have g3 : f_1 3 = f 3 := ef_1 3 (by decide) (by decide) (by decide)
  refine lv_lstore_n (lv' := [(1, .long (lN (ds_best f))), (0, .ref (a 0))]) S.1 S.2.1 d_DS_run_7 rfl hl (by decide) rfl (fun ls hl => ?_)
  refine lv_lload_n S.1 S.2.1 d_DS_run_8 rfl (lv_at hl 0 rfl) ?_
  refine lv_ldc2 (v := lN 1152921504606846976) S.1 S.2.1 S.2.2.2.1 (S.2.2.2.2 _ wd_257) d_DS_run_9 ?_
  refine dn_lcmp_lt S.1 S.2.1 21 (by omega) (by decide) d_DS_run_12 d_DS_run_13 (by decide) (fun h_12 => ?_) (fun h_12 => ?_)
  · refine lv_aload_n S.1 S.2.1 d_DS_run_21 rfl (lv_at hl 1 rfl) ?_
    refine dw_getf (fi := 2) (v := .ref (a 3)) S hw i_DS ds_ob0 (by decide) rfl wd_137 rfl d_DS_run_22 ?_
    refine lv_aload_n S.1 S.2.1 d_DS_run_25 rfl (lv_at hl 1 rfl) ?_
    refine dw_getf (fi := 4) (v := .ref (a 5)) S hw i_DS ds_ob0 (by decide) rfl wd_139 rfl d_DS_run_26 ?_
    refine lv_aload_n S.1 S.2.1 d_DS_run_29 rfl (lv_at hl 1 rfl) ?_
    refine dw_getf (fi := 0) (v := .ref (a 1)) S hw i_DS ds_ob0 (by decide) rfl wd_135 rfl d_DS_run_30 ?_
    refine dw_getN (fi := 1) (v := .int (nI (f_1 1 1))) S hw i_Day ds_ob1 (by decide) rfl hN wd_35 rfl d_DS_run_33 ?_
    refine dw_aftv hw hA (dw_runVN (As := [.ref (a 5), .int (nI (f_1 1 1))]) (rest := []) (ko := 3) hw S ds_good (c_putLatest3 l D g a f_1 (f_1 1 1) (by rw [g3]; exact hk) H.size) cw_Sh_putLatest hN wd_263 wd_265 ws_Sh_putLatest ds_ob3 dw_blind (dw_pre hw hN) rfl hl.1 rfl ⟨Nat.le_trans (Nat.le_of_ble_eq_true rfl) hR.1, Nat.le_trans (Nat.le_of_ble_eq_true rfl) hR.2⟩ (Nat.le_of_ble_eq_true rfl) ⟨Nat.zero_le _, Nat.zero_le _⟩ d_DS_run_36) (fun f_2 H locs hp hw => ?_)
    obtain ⟨kk, dd, hkd, hsz, hsh, hnew, hnst, hoth⟩ := hp
    refine lv_iconst (v := nI 0) S.1 S.2.1 d_DS_run_39 (by decide) ?_
    refine lv_istore_n (lv' := [(3, .int (nI 0)), (1, .long (lN (ds_best f))), (0, .ref (a 0))]) S.1 S.2.1 d_DS_run_40 rfl hl (by decide) rfl (fun ls hl => ?_)
    have loop_41 : ∀ (n : Nat) (i : Nat) (f2 : Nat → Nat → Nat) (hi : i ≤ f 1 1) (hU : ∀ x, x < i → f2 5 x = ds_best f / 2 ^ (2 * (7 - x)) &&& 3) (hg : ∀ k, k ≠ 5 → f2 k = f_2 k) (_ : f 1 1 - i < n) (H : Heap) (locs : List Loc), dw_W D classes (ds_tys g) A s.heap (dw_l 77 (ds_ce g a) a f2) s H locs → ∀ (ls : Array Slot), lv_has ls 4 [(0, .ref (a 0)), (1, .long (lN (ds_best f))), (3, .int (nI i))] → W p l e R s m args below meth c H locs 0 0 Q (F0 m 41 ls []) := by
      intro n
      induction n with
      | zero => intro i f2 hi hU hg h9; exact absurd h9 (Nat.not_lt_zero _)
      | succ n ih_41 =>
        intro i f2 hi hU hg hm_41 H locs hw ls hl
        have q11 : f2 1 1 = f 1 1 := by rw [hg 1 (by decide), hoth 1 (by decide) (by decide) (by decide), g1]
        have q10 : f2 10 = f 10 := by rw [hg 10 (by decide), hoth 10 (by decide) (by decide) (by decide), ef_1 10 (by decide) (by decide) (by decide)]
        refine lv_iload_n S.1 S.2.1 d_DS_run_41 rfl (lv_at hl 2 rfl) ?_
        refine lv_aload_n S.1 S.2.1 d_DS_run_42 rfl (lv_at hl 0 rfl) ?_
        refine dw_getf (fi := 0) (v := .ref (a 1)) S hw i_DS ds_ob0 (by decide) rfl wd_135 rfl d_DS_run_43 ?_
        refine dw_getN (fi := 1) (v := .int (nI (f2 1 1))) S hw i_Day ds_ob1 (by decide) rfl hN wd_35 rfl d_DS_run_46 ?_
        refine dn_icmp_ge S.1 S.2.1 69 (by omega) (by omega) d_DS_run_49 (by decide) (fun h_49 => ?_) (fun h_49 => ?_)
        · refine lv_aload_n S.1 S.2.1 d_DS_run_69 rfl (lv_at hl 0 rfl) ?_
          refine dw_afti hw hA (dw_runV (As := []) (rest := []) (ko := 0) hw S ds_good (c_movedSet l D g a f2 (by omega) (fun x hx => by rw [hU x (by omega), q10]; exact ⟨Nat.lt_of_le_of_lt Nat.and_le_right (by decide), by have := hrw.2 x (by omega); omega⟩) H.size) cw_DS_movedSet wd_273 wd_275 ws_DS_movedSet ds_ob0 dw_blind (dw_pre hw hN) rfl hl.1 rfl ⟨Nat.le_trans (Nat.le_of_ble_eq_true rfl) hR.1, Nat.le_trans (Nat.le_of_ble_eq_true rfl) hR.2⟩ (Nat.le_of_ble_eq_true rfl) ⟨Nat.zero_le _, Nat.zero_le _⟩ d_DS_run_70) (fun r_70 f_3 H locs hp hw => ?_)
          obtain ⟨er, ef⟩ := hp
          subst er
          rw [ef] at hw
          refine dw_afti hw hA (dw_runS (As := [.int (nI (ds_bits (fun s => f2 5 s != f2 10 s) (f2 1 1)))]) (rest := []) S ds_good (c_bitCount l D g a f2 (ds_bits (fun s => f2 5 s != f2 10 s) (f2 1 1)) (ds_bits_256 _ (by omega)) H.size) cw_In_bitCount wd_277 wd_278 dw_blind (dw_pre hw hN) rfl hl.1 rfl ⟨Nat.le_trans (Nat.le_of_ble_eq_true rfl) hR.1, Nat.le_trans (Nat.le_of_ble_eq_true rfl) hR.2⟩ (Nat.le_of_ble_eq_true rfl) ⟨Nat.zero_le _, Nat.zero_le _⟩ d_DS_run_73) (fun r_73 f_4 H locs hp hw => ?_)
          obtain ⟨er, ef⟩ := hp
          subst er
          rw [ef] at hw
          exact hret H locs _ ls _ _ hw (by
    rw [if_pos h_12]
    refine ⟨?_, fun x hx => hU x (by omega), ⟨kk, dd, by rw [g3] at hkd; exact hkd, by rw [hg 3 (by decide)]; exact hsz, fun j hj => ⟨fun t ht => ?_, ?_⟩, fun t ht => ?_, ?_⟩, fun k k1 k2 k3 k4 k5 k6 k7 => ?_⟩
    · rw [ds_cnt_bits _ (by omega), q10, q11]
    · rw [hg (39 + j) (by omega), (hsh j hj).1 t ht, ef_1 (39 + (j + dd)) (by omega) (by omega) (by omega)]
    · rw [hg 45 (by decide), (hsh j hj).2, ef_1 45 (by decide) (by decide) (by decide)]
    · rw [hg (39 + kk) (by omega), hnew t ht, ef_1 5 (by decide) (by decide) (by decide)]
    · rw [hg 45 (by decide), hnst, g1]
    · rw [hg k k2, hoth k k1 k4 k7, ef_1 k k3 k5 k6]) d_DS_run_76
        · refine lv_aload_n S.1 S.2.1 d_DS_run_52 rfl (lv_at hl 0 rfl) ?_
          refine dw_getf (fi := 4) (v := .ref (a 5)) S hw i_DS ds_ob0 (by decide) rfl wd_139 rfl d_DS_run_53 ?_
          refine lv_iload_n S.1 S.2.1 d_DS_run_56 rfl (lv_at hl 2 rfl) ?_
          refine lv_lload_n S.1 S.2.1 d_DS_run_57 rfl (lv_at hl 1 rfl) ?_
          refine lv_iload_n S.1 S.2.1 d_DS_run_58 rfl (lv_at hl 2 rfl) ?_
          refine dw_afti hw hA (dw_runSN (As := [.long (lN (ds_best f)), .int (nI i)]) (rest := [.int (nI i), .ref (a 5)]) S ds_good (c_vehicleIn l D g a f2 (ds_best f) i (by omega) (by omega) H.size) cw_Se_vehicleIn hN wd_270 wd_271 dw_blind (dw_pre hw hN) rfl hl.1 rfl ⟨Nat.le_trans (Nat.le_of_ble_eq_true rfl) hR.1, Nat.le_trans (Nat.le_of_ble_eq_true rfl) hR.2⟩ (Nat.le_of_ble_eq_true rfl) ⟨Nat.zero_le _, Nat.zero_le _⟩ d_DS_run_59) (fun r_59 f_5 H locs hp hw => ?_)
          obtain ⟨er, ef⟩ := hp
          subst er
          rw [ef] at hw
          refine dw_iast S.1 S.2.1 hw ds_k5 (by omega) d_DS_run_62 (fun f_6 H locs ef_6 hw => ?_)
          refine lv_iinc (v := nI (i + 1)) (lv' := [(3, .int (nI (i + 1))), (0, .ref (a 0)), (1, .long (lN (ds_best f)))]) S.1 S.2.1 d_DS_run_63 hl (k := 2) rfl (by rw [show Int32.ofInt 1 = nI 1 from rfl, nI_add]) (by decide) rfl (fun ls hl => ?_)
          refine lv_goto (tgt := 41) S.1 S.2.1 d_DS_run_66 (by decide) ?_
          exact ih_41 (i + 1) f_6 (by omega) (fun x hx => by
    rw [ef_6, dw_w_eq]
    by_cases ex : x = i
    · rw [ex, dw_up_eq]
    · rw [dw_up_ne ex]; exact hU x (by omega)) (fun k k1 => by rw [ef_6, dw_w_ne k1]; exact hg k k1) (by omega) H locs hw ls (lv_sub hl [1, 2, 0] rfl)
    exact loop_41 _ 0 f_2 (Nat.zero_le _) (fun x hx => absurd hx (Nat.not_lt_zero _)) (fun _ _ => rfl) (Nat.lt_succ_self _) H locs hw ls (lv_sub hl [2, 1, 0] rfl)
  · refine lv_aload_n S.1 S.2.1 d_DS_run_16 rfl (lv_at hl 1 rfl) ?_
    refine dw_afti hw hA (dw_runV (As := []) (rest := []) (ko := 0) hw S ds_good (c_whyNoPlan l D g a f_1 (ok1) H.size) cw_DS_whyNoPlan wd_258 wd_260 ws_DS_whyNoPlan ds_ob0 dw_blind (dw_pre hw hN) rfl hl.1 rfl ⟨Nat.le_trans (Nat.le_of_ble_eq_true rfl) hR.1, Nat.le_trans (Nat.le_of_ble_eq_true rfl) hR.2⟩ (Nat.le_of_ble_eq_true rfl) ⟨Nat.zero_le _, Nat.zero_le _⟩ d_DS_run_17) (fun r_17 f_7 H locs hp hw => ?_)
    obtain ⟨er, ef⟩ := hp
    subst er
    rw [ef] at hw
    refine ds_topi (w := ds_why f) (show ds_why f_1 = ds_why f from ds_why_congr ag) ?_
    exact hret H locs _ ls _ _ hw (by rw [if_neg (by omega)]; exact ⟨rfl, ef_1⟩) d_DS_run_20
set_option maxHeartbeats 4000000 in
set_option maxRecDepth 100000 in
theorem c_next (l : Launch) (D : va_G) (g : Nat → ClassId) (a : Nat → Nat) (f : Nat → Nat → Nat)  (ok : ds_ok f) : ds_I l D g a y_DS_next b_DS_next 3 .int 3 72 [.ref (a 0)] f (fun r u => r = nI (ds_cnt (fun x => f 5 x == f 1 0) (f 1 1)) ∧ (∀ v, v < f 1 0 → u 15 v = (ds_nl f v).length ∧ u 18 v = 8 ∧ ∀ r, r < (ds_nl f v).length → u (22 + v) r = (ds_nl f v).getD r 0 ∧ u 10 ((ds_nl f v).getD r 0) = v ∧ u 11 ((ds_nl f v).getD r 0) = r) ∧ (∀ x, x < f 1 1 → u 12 x = 0 ∧ u 13 x = 0 ∧ u 5 x = u 10 x) ∧ (∀ x, f 1 1 ≤ x → u 12 x = f 12 x ∧ u 13 x = f 13 x) ∧ u 3 2 = 0 ∧ u 4 2 = 0 ∧ ∀ k, k ≠ 3 → k ≠ 4 → k ≠ 5 → k ≠ 10 → k ≠ 11 → k ≠ 12 → k ≠ 13 → k ≠ 15 → k ≠ 17 → k ≠ 18 → ¬ (22 ≤ k ∧ k < 28) → u k = f k) := by
  refine dw_ofI (by decide) (fun _ _ _ => rfl) (Nat.le_of_ble_eq_true rfl) ?_
  intro p e s m args below meth c ls A Q R H locs hR hA S hN hw hl hret
  have hl : lv_has ls 3 [(0, .ref (a 0))] := hl
  have S : CallFix p m c b_DS_next 3 s args ds_T R_DS := S
  obtain ⟨hV, hn, hex, hst, hve, hwy, hw0, hrw⟩ := id ok
  refine lv_aload_n S.1 S.2.1 d_DS_next_0 rfl (lv_at hl 0 rfl) ?_
  refine lv_aload_n S.1 S.2.1 d_DS_next_1 rfl (lv_at hl 0 rfl) ?_
  refine dw_getf (fi := 0) (v := .ref (a 1)) S hw i_DS ds_ob0 (by decide) rfl wd_135 rfl d_DS_next_2 ?_
  refine dw_getN (fi := 0) (v := .int (nI (f 1 0))) S hw i_Day ds_ob1 (by decide) rfl hN wd_34 rfl d_DS_next_5 ?_
  refine dw_afti hw hA (dw_runV (As := [.int (nI (f 1 0))]) (rest := []) (ko := 0) hw S ds_good (c_setOf l D g a f (f 1 0) (hn) (by omega) (fun x hx => by have := hst x hx; omega) H.size) cw_DS_setOf wd_291 wd_293 ws_DS_setOf ds_ob0 dw_blind (dw_pre hw hN) rfl hl.1 rfl ⟨Nat.le_trans (Nat.le_of_ble_eq_true rfl) hR.1, Nat.le_trans (Nat.le_of_ble_eq_true rfl) hR.2⟩ (Nat.le_of_ble_eq_true rfl) ⟨Nat.zero_le _, Nat.zero_le _⟩ d_DS_next_8) (fun r_8 f_1 H locs hp hw => ?_)
  obtain ⟨er, ef⟩ := hp
  subst er
  rw [ef] at hw
  refine dw_afti hw hA (dw_runS (As := [.int (nI (ds_bits (fun s => f 5 s == (f 1 0)) (f 1 1)))]) (rest := []) S ds_good (c_bitCount l D g a f (ds_bits (fun s => f 5 s == (f 1 0)) (f 1 1)) (ds_bits_256 _ hn) H.size) cw_In_bitCount wd_277 wd_278 dw_blind (dw_pre hw hN) rfl hl.1 rfl ⟨Nat.le_trans (Nat.le_of_ble_eq_true rfl) hR.1, Nat.le_trans (Nat.le_of_ble_eq_true rfl) hR.2⟩ (Nat.le_of_ble_eq_true rfl) ⟨Nat.zero_le _, Nat.zero_le _⟩ d_DS_next_11) (fun r_11 f_2 H locs hp hw => ?_)
  obtain ⟨er, ef⟩ := hp
  subst er
  rw [ef] at hw
  refine ds_topi (w := nI (ds_cnt (fun x => f 5 x == f 1 0) (f 1 1))) (by rw [ds_cnt_bits _ hn]) ?_
  refine lv_istore_n (lv' := [(1, .int (nI (ds_cnt (fun x => f 5 x == f 1 0) (f 1 1)))), (0, .ref (a 0))]) S.1 S.2.1 d_DS_next_14 rfl hl (by decide) rfl (fun ls hl => ?_)
  refine lv_iconst (v := nI 0) S.1 S.2.1 d_DS_next_15 (by decide) ?_
  refine lv_istore_n (lv' := [(2, .int (nI 0)), (1, .int (nI (ds_cnt (fun x => f 5 x == f 1 0) (f 1 1)))), (0, .ref (a 0))]) S.1 S.2.1 d_DS_next_16 rfl hl (by decide) rfl (fun ls hl => ?_)
  have loop_17 : ∀ (n : Nat) (v : Nat) (f2 : Nat → Nat → Nat) (hv : v ≤ f 1 0) (hPr : ds_prep f f2 v) (_ : f 1 0 - v < n) (H : Heap) (locs : List Loc), dw_W D classes (ds_tys g) A s.heap (dw_l 77 (ds_ce g a) a f2) s H locs → ∀ (ls : Array Slot), lv_has ls 3 [(0, .ref (a 0)), (1, .int (nI (ds_cnt (fun x => f 5 x == f 1 0) (f 1 1)))), (2, .int (nI v))] → W p l e R s m args below meth c H locs 0 0 Q (F0 m 17 ls []) := by
    intro n
    induction n with
    | zero => intro v f2 hv hPr h9; exact absurd h9 (Nat.not_lt_zero _)
    | succ n ih_17 =>
      intro v f2 hv hPr hm_17 H locs hw ls hl
      have q1 : f2 1 = f 1 := hPr.2 1 (by decide) (by decide)
      have q5 : f2 5 = f 5 := hPr.2 5 (by decide) (by decide)
      have q10 : f2 1 0 = f 1 0 := by rw [q1]
      have ag : ∀ k, ¬ ds_scr k → f2 k = f k := fun k hk => hPr.2 k (fun e => hk (by rw [e]; unfold ds_scr; omega)) (fun e => hk (by unfold ds_scr; omega))
      have ok2 := ds_ok_congr ag ok
      refine lv_iload_n S.1 S.2.1 d_DS_next_17 rfl (lv_at hl 2 rfl) ?_
      refine lv_aload_n S.1 S.2.1 d_DS_next_18 rfl (lv_at hl 0 rfl) ?_
      refine dw_getf (fi := 0) (v := .ref (a 1)) S hw i_DS ds_ob0 (by decide) rfl wd_135 rfl d_DS_next_19 ?_
      refine dw_getN (fi := 0) (v := .int (nI (f2 1 0))) S hw i_Day ds_ob1 (by decide) rfl hN wd_34 rfl d_DS_next_22 ?_
      refine dn_icmp_ge S.1 S.2.1 58 (by omega) (by omega) d_DS_next_25 (by decide) (fun h_25 => ?_) (fun h_25 => ?_)
      · have hPr2 : ds_prep f f2 (f 1 0) := by rw [← show v = f 1 0 by omega]; exact hPr
        refine lv_aload_n S.1 S.2.1 d_DS_next_58 rfl (lv_at hl 0 rfl) ?_
        refine dw_getf (fi := 0) (v := .ref (a 1)) S hw i_DS ds_ob0 (by decide) rfl wd_135 rfl d_DS_next_59 ?_
        refine dw_aftv hw hA (dw_runVN (As := []) (rest := []) (ko := 1) hw S ds_good (c_turn l D g a f2 (by rw [q1]; omega) (by rw [q1]; exact hn) (fun v2 r h1 h2 => by rw [q1] at h1; obtain ⟨z1, z2⟩ := ds_prep_at hPr2 h1 h2; have z3 := ds_nl_len hrw h1; have z4 := (ds_nl_in hrw h1 (ds_getD_mem z1)).1; rw [z2]; omega) (fun v1 r v2 r2 h1 h2 h3 h4 h5 => ds_prep_inj ok hPr2 (by rw [q1] at h1; exact h1) (by rw [q1] at h2; exact h2) h3 h4 h5) (fun v2 h1 => by rw [q1] at h1; rw [(hPr2.1 v2 h1).1]; exact Nat.le_trans (ds_nl_len hrw h1) hn) H.size) cw_Day_turn hN wd_349 wd_351 ws_Day_turn ds_ob1 dw_blind (dw_pre hw hN) rfl hl.1 rfl ⟨Nat.le_trans (Nat.le_of_ble_eq_true rfl) hR.1, Nat.le_trans (Nat.le_of_ble_eq_true rfl) hR.2⟩ (Nat.le_of_ble_eq_true rfl) ⟨Nat.zero_le _, Nat.zero_le _⟩ d_DS_next_62) (fun f_3 H locs hp hw => ?_)
        obtain ⟨ht1, ht2, htY, ht3⟩ := hp
        obtain ⟨f_t, eft⟩ : ∃ z, z = f_3 := ⟨_, rfl⟩
        rw [← eft] at hw ht1 ht2 htY ht3
        refine lv_iconst (v := nI 0) S.1 S.2.1 d_DS_next_65 (by decide) ?_
        refine lv_istore_n (lv' := [(2, .int (nI 0)), (0, .ref (a 0)), (1, .int (nI (ds_cnt (fun x => f 5 x == f 1 0) (f 1 1))))]) S.1 S.2.1 d_DS_next_66 rfl hl (by decide) rfl (fun ls hl => ?_)
        have loop_67 : ∀ (n : Nat) (i : Nat) (f4 : Nat → Nat → Nat) (hi : i ≤ f 1 1) (hU : ∀ x, x < i → f4 5 x = f_t 10 x) (hg : ∀ k, k ≠ 5 → f4 k = f_t k) (_ : f 1 1 - i < n) (H : Heap) (locs : List Loc), dw_W D classes (ds_tys g) A s.heap (dw_l 77 (ds_ce g a) a f4) s H locs → ∀ (ls : Array Slot), lv_has ls 3 [(0, .ref (a 0)), (1, .int (nI (ds_cnt (fun x => f 5 x == f 1 0) (f 1 1)))), (2, .int (nI i))] → W p l e R s m args below meth c H locs 0 0 Q (F0 m 67 ls []) := by
          intro n
          induction n with
          | zero => intro i f4 hi hU hg h9; exact absurd h9 (Nat.not_lt_zero _)
          | succ n ih_67 =>
            intro i f4 hi hU hg hm_67 H locs hw ls hl
            have w11 : f4 1 1 = f 1 1 := by rw [hg 1 (by decide), ht3 1 (by decide) (by decide) (by decide) (by decide) (by decide) (by decide) (by decide), q1]
            have w10 : f4 10 = f_t 10 := by rw [hg 10 (by decide)]
            refine lv_iload_n S.1 S.2.1 d_DS_next_67 rfl (lv_at hl 2 rfl) ?_
            refine lv_aload_n S.1 S.2.1 d_DS_next_68 rfl (lv_at hl 0 rfl) ?_
            refine dw_getf (fi := 0) (v := .ref (a 1)) S hw i_DS ds_ob0 (by decide) rfl wd_135 rfl d_DS_next_69 ?_
            refine dw_getN (fi := 1) (v := .int (nI (f4 1 1))) S hw i_Day ds_ob1 (by decide) rfl hN wd_35 rfl d_DS_next_72 ?_
            refine dn_icmp_ge S.1 S.2.1 99 (by omega) (by omega) d_DS_next_75 (by decide) (fun h_75 => ?_) (fun h_75 => ?_)
            · refine lv_aload_n S.1 S.2.1 d_DS_next_99 rfl (lv_at hl 0 rfl) ?_
              refine dw_getf (fi := 2) (v := .ref (a 3)) S hw i_DS ds_ob0 (by decide) rfl wd_137 rfl d_DS_next_100 ?_
              refine lv_iconst (v := nI 0) S.1 S.2.1 d_DS_next_103 (by decide) ?_
              refine dw_putN (fi := 2) S hw i_Sh t_Sh t_Sh_ok n_Sh ds_ob3 (by decide) rfl hN wd_127 rfl (by decide +kernel) (Nat.le_of_ble_eq_true rfl) rfl d_DS_next_104 (fun f_4 H locs ef_4 hw => ?_)
              refine lv_aload_n S.1 S.2.1 d_DS_next_107 rfl (lv_at hl 0 rfl) ?_
              refine dw_getf (fi := 3) (v := .ref (a 4)) S hw i_DS ds_ob0 (by decide) rfl wd_138 rfl d_DS_next_108 ?_
              refine lv_iconst (v := nI 0) S.1 S.2.1 d_DS_next_111 (by decide) ?_
              refine dw_putN (fi := 2) S hw i_Sh t_Sh t_Sh_ok n_Sh ds_ob4 (by decide) rfl hN wd_127 rfl (by decide +kernel) (Nat.le_of_ble_eq_true rfl) rfl d_DS_next_112 (fun f_5 H locs ef_5 hw => ?_)
              refine lv_iload_n S.1 S.2.1 d_DS_next_115 rfl (lv_at hl 1 rfl) ?_
              exact hret H locs _ ls _ _ hw (by
    have eY := ef_5
    have eX := ef_4
    refine ⟨rfl, fun v2 h2 => ?_, fun x hx => ?_, fun x hx => ?_, by rw [eY, dw_w_ne (by decide), eX, dw_w_eq, dw_up_eq], by rw [eY, dw_w_eq, dw_up_eq], fun k k1 k2 k3 k4 k5 k6 k7 k8 k9 k10 k11 => ?_⟩
    · have q := ht1 v2 (by rw [q1]; exact h2)
      have q17 := hPr2.1 v2 h2
      rw [q17.1] at q
      rw [eY, eX, dw_w_ne (by decide), dw_w_ne (by decide), dw_w_ne (by decide), dw_w_ne (by decide), hg 15 (by decide), hg 18 (by decide)]
      refine ⟨q.1, q.2.1, fun r hr => ?_⟩
      have z2 := (ds_prep_at hPr2 h2 (by rw [q17.1]; exact hr)).2
      have q3 := q.2.2 r hr
      rw [z2] at q3
      rw [dw_w_ne (by omega), dw_w_ne (by omega), hg (22 + v2) (by omega), dw_w_ne (by decide), dw_w_ne (by decide), hg 10 (by decide), dw_w_ne (by decide), dw_w_ne (by decide), hg 11 (by decide)]
      exact q3
    · have q := ht2 x (by rw [q1]; exact hx)
      rw [eY, eX, dw_w_ne (by decide), dw_w_ne (by decide), dw_w_ne (by decide), dw_w_ne (by decide), dw_w_ne (by decide), dw_w_ne (by decide), dw_w_ne (by decide), dw_w_ne (by decide), hg 12 (by decide), hg 13 (by decide), hg 10 (by decide)]
      exact ⟨q.1, q.2, hU x (by omega)⟩
    · have q := htY x (by rw [q1]; exact hx)
      rw [hPr2.2 12 (by decide) (by decide), hPr2.2 13 (by decide) (by decide)] at q
      rw [eY, eX, dw_w_ne (by decide), dw_w_ne (by decide), dw_w_ne (by decide), dw_w_ne (by decide), hg 12 (by decide), hg 13 (by decide)]
      exact q
    · rw [eY, dw_w_ne k2, eX, dw_w_ne k1, hg k k3, ht3 k k4 k5 k6 k7 k8 k10 (by omega)]
      exact hPr2.2 k k9 (by omega)) d_DS_next_116
            · refine lv_aload_n S.1 S.2.1 d_DS_next_78 rfl (lv_at hl 0 rfl) ?_
              refine dw_getf (fi := 4) (v := .ref (a 5)) S hw i_DS ds_ob0 (by decide) rfl wd_139 rfl d_DS_next_79 ?_
              refine lv_iload_n S.1 S.2.1 d_DS_next_82 rfl (lv_at hl 2 rfl) ?_
              refine lv_aload_n S.1 S.2.1 d_DS_next_83 rfl (lv_at hl 0 rfl) ?_
              refine dw_getf (fi := 0) (v := .ref (a 1)) S hw i_DS ds_ob0 (by decide) rfl wd_135 rfl d_DS_next_84 ?_
              refine dw_getN (fi := 4) (v := .ref (a 10)) S hw i_Day ds_ob1 (by decide) rfl hN wd_42 rfl d_DS_next_87 ?_
              refine lv_iload_n S.1 S.2.1 d_DS_next_90 rfl (lv_at hl 2 rfl) ?_
              refine dw_iald S.1 S.2.1 hw ds_k10 (by omega) d_DS_next_91 ?_
              refine dw_iast S.1 S.2.1 hw ds_k5 (by omega) d_DS_next_92 (fun f_6 H locs ef_6 hw => ?_)
              refine lv_iinc (v := nI (i + 1)) (lv' := [(2, .int (nI (i + 1))), (0, .ref (a 0)), (1, .int (nI (ds_cnt (fun x => f 5 x == f 1 0) (f 1 1))))]) S.1 S.2.1 d_DS_next_93 hl (k := 2) rfl (by rw [show Int32.ofInt 1 = nI 1 from rfl, nI_add]) (by decide) rfl (fun ls hl => ?_)
              refine lv_goto (tgt := 67) S.1 S.2.1 d_DS_next_96 (by decide) ?_
              exact ih_67 (i + 1) f_6 (by omega) (fun x hx => by
    rw [ef_6, dw_w_eq]
    by_cases ex : x = i
    · rw [ex, dw_up_eq, w10]
    · rw [dw_up_ne ex]; exact hU x (by omega)) (fun k k1 => by rw [ef_6, dw_w_ne k1]; exact hg k k1) (by omega) H locs hw ls (lv_sub hl [1, 2, 0] rfl)
        exact loop_67 _ 0 f_t (Nat.zero_le _) (fun x hx => absurd hx (Nat.not_lt_zero _)) (fun _ _ => rfl) (Nat.lt_succ_self _) H locs hw ls (lv_sub hl [1, 2, 0] rfl)
      · have hv2 : v < f 1 0 := by omega
        have eN1 : ds_own f2 (ds_pb f (f 1 0)) v (f2 1 1) = ds_own f (ds_pb f (f 1 0)) v (f 1 1) := by unfold ds_own; rw [hPr.2 10 (by decide) (by decide), q1]
        have eN2 : ds_rd f2 (ds_pb f v) v = ds_rd f (ds_pb f v) v := ds_rd_congr ag _ (by omega)
        refine lv_aload_n S.1 S.2.1 d_DS_next_28 rfl (lv_at hl 0 rfl) ?_
        refine dw_getf (fi := 0) (v := .ref (a 1)) S hw i_DS ds_ob0 (by decide) rfl wd_135 rfl d_DS_next_29 ?_
        refine lv_iload_n S.1 S.2.1 d_DS_next_32 rfl (lv_at hl 2 rfl) ?_
        refine lv_aload_n S.1 S.2.1 d_DS_next_33 rfl (lv_at hl 0 rfl) ?_
        refine lv_aload_n S.1 S.2.1 d_DS_next_34 rfl (lv_at hl 0 rfl) ?_
        refine dw_getf (fi := 0) (v := .ref (a 1)) S hw i_DS ds_ob0 (by decide) rfl wd_135 rfl d_DS_next_35 ?_
        refine dw_getN (fi := 0) (v := .int (nI (f2 1 0))) S hw i_Day ds_ob1 (by decide) rfl hN wd_34 rfl d_DS_next_38 ?_
        refine dw_afti hw hA (dw_runV (As := [.int (nI (f2 1 0))]) (rest := [.int (nI v), .ref (a 1)]) (ko := 0) hw S ds_good (c_setOf l D g a f2 (f2 1 0) (by rw [q1]; exact hn) (by rw [q1]; omega) (fun x hx => by rw [q1] at hx; rw [q5]; have := hst x hx; omega) H.size) cw_DS_setOf wd_291 wd_293 ws_DS_setOf ds_ob0 dw_blind (dw_pre hw hN) rfl hl.1 rfl ⟨Nat.le_trans (Nat.le_of_ble_eq_true rfl) hR.1, Nat.le_trans (Nat.le_of_ble_eq_true rfl) hR.2⟩ (Nat.le_of_ble_eq_true rfl) ⟨Nat.zero_le _, Nat.zero_le _⟩ d_DS_next_41) (fun r_41 f_7 H locs hp hw => ?_)
        obtain ⟨er, ef⟩ := hp
        subst er
        rw [ef] at hw
        refine ds_topi (w := nI (ds_bits (fun s => f 5 s == f 1 0) (f 1 1))) (by rw [q5, q1]) ?_
        refine lv_aload_n S.1 S.2.1 d_DS_next_44 rfl (lv_at hl 0 rfl) ?_
        refine lv_iload_n S.1 S.2.1 d_DS_next_45 rfl (lv_at hl 2 rfl) ?_
        refine dw_afti hw hA (dw_runV (As := [.int (nI v)]) (rest := [.int (nI (ds_bits (fun s => f 5 s == f 1 0) (f 1 1))), .int (nI v), .ref (a 1)]) (ko := 0) hw S ds_good (c_setOf l D g a f2 v (by rw [q1]; exact hn) (by omega) (fun x hx => by rw [q1] at hx; rw [q5]; have := hst x hx; omega) H.size) cw_DS_setOf wd_291 wd_293 ws_DS_setOf ds_ob0 dw_blind (dw_pre hw hN) rfl hl.1 rfl ⟨Nat.le_trans (Nat.le_of_ble_eq_true rfl) hR.1, Nat.le_trans (Nat.le_of_ble_eq_true rfl) hR.2⟩ (Nat.le_of_ble_eq_true rfl) ⟨Nat.zero_le _, Nat.zero_le _⟩ d_DS_next_46) (fun r_46 f_8 H locs hp hw => ?_)
        obtain ⟨er, ef⟩ := hp
        subst er
        rw [ef] at hw
        refine ds_topi (w := nI (ds_bits (fun s => f 5 s == v) (f 1 1))) (by rw [q5, q1]) ?_
        refine dw_aftv hw hA (dw_runVN (As := [.int (nI v), .int (nI (ds_bits (fun s => f 5 s == f 1 0) (f 1 1))), .int (nI (ds_bits (fun s => f 5 s == v) (f 1 1)))]) (rest := []) (ko := 1) hw S ds_good (c_prepareRow l D g a f2 v (ds_bits (fun s => f 5 s == f 1 0) (f 1 1)) (ds_bits (fun s => f 5 s == v) (f 1 1)) (ok2) (by omega) (Nat.lt_trans (ds_bits_256 _ hn) (by decide)) (Nat.lt_trans (ds_bits_256 _ hn) (by decide)) (by rw [eN1, eN2, ← List.length_append]; exact Nat.le_trans (ds_nl_len hrw hv2) hn) H.size) cw_Day_prepareRow hN wd_345 wd_347 ws_Day_prepareRow ds_ob1 dw_blind (dw_pre hw hN) rfl hl.1 rfl ⟨Nat.le_trans (Nat.le_of_ble_eq_true rfl) hR.1, Nat.le_trans (Nat.le_of_ble_eq_true rfl) hR.2⟩ (Nat.le_of_ble_eq_true rfl) ⟨Nat.zero_le _, Nat.zero_le _⟩ d_DS_next_49) (fun f_9 H locs hp hw => ?_)
        obtain ⟨hj, ef_9, hjs⟩ := hp
        refine lv_iinc (v := nI (v + 1)) (lv' := [(2, .int (nI (v + 1))), (0, .ref (a 0)), (1, .int (nI (ds_cnt (fun x => f 5 x == f 1 0) (f 1 1))))]) S.1 S.2.1 d_DS_next_52 hl (k := 2) rfl (by rw [show Int32.ofInt 1 = nI 1 from rfl, nI_add]) (by decide) rfl (fun ls hl => ?_)
        refine lv_goto (tgt := 17) S.1 S.2.1 d_DS_next_55 (by decide) ?_
        exact ih_17 (v + 1) f_9 (by omega) (by
    refine ⟨fun w hw2 => ?_, fun k k1 k2 => by rw [ef_9, dw_w_ne k1, dw_su_ne (by omega)]; exact hPr.2 k k1 k2⟩
    by_cases ew : w = v
    · subst ew
      rw [ef_9, dw_w_eq, dw_up_eq, dw_w_ne (by omega), dw_su_eq]
      rw [eN1, eN2] at hjs
      exact ⟨by rw [eN1, eN2]; unfold ds_nl; rw [List.length_append], hjs⟩
    · have q := hPr.1 w (by omega)
      rw [ef_9, dw_w_eq, dw_up_ne ew, dw_su_ne (by omega), dw_w_ne (by omega), dw_su_ne (by omega)]
      exact q) (by omega) H locs hw ls (lv_sub hl [1, 2, 0] rfl)
  exact loop_17 _ 0 f (Nat.zero_le _) (⟨fun w hw => absurd hw (Nat.not_lt_zero _), fun _ _ _ => rfl⟩) (Nat.lt_succ_self _) H locs hw ls (lv_sub hl [2, 1, 0] rfl)
