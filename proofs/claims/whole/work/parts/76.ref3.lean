/-! contracts of the reference: times and costs -/
set_option maxHeartbeats 4000000 in
set_option maxRecDepth 100000 in
theorem m_timeOf (l : Launch) (D : va_G) (g : Nat → ClassId) (a : Nat → Nat) (f : Nat → Nat → Nat) (rw : Nat → Nat → Nat) (K : Nat) (v : Nat) (ok : ds_ok (md_v f rw)) (hv : v < f 54 0) (hK : dw_Ci (ds_tys g) 77 (ds_ce g a) .int K 8) (hK2 : K = 65 ∨ K = 66) (hb : ∀ x, x < f 54 1 → f K x < 2 ^ 31) : ds_I l D g a y_Mo_timeOf b_Mo_timeOf 6 .int 1 24 [.ref (a 54), .ref (a K), .int (nI v)] f (fun r u => r = nI (ds_tm (md_v f rw) (fun x => f K x == v) v) ∧ ∃ (h : Nat → Nat) (z : Nat), u = md_r f h z) := by
  refine dw_ofI (by decide) (fun _ _ _ => rfl) (Nat.le_of_ble_eq_true rfl) ?_
  intro p e s m args below meth c ls A Q R H locs hR hA S hN hw hl hret
  have hl : lv_has ls 6 [(0, .ref (a 54)), (1, .ref (a K)), (2, .int (nI v))] := hl
  have S : CallFix p m c b_Mo_timeOf 6 s args ds_T R_Mo := S
  obtain ⟨hV, hn, hex, hst, hve, hrA, hrB, hrl, hwy⟩ := md_facts ok
  have hrw := ok.2.2.2.2.2.2.2
  refine lv_aload_n S.1 S.2.1 d_Mo_timeOf_0 rfl (lv_at hl 0 rfl) ?_
  refine lv_aload_n S.1 S.2.1 d_Mo_timeOf_1 rfl (lv_at hl 1 rfl) ?_
  refine lv_iload_n S.1 S.2.1 d_Mo_timeOf_2 rfl (lv_at hl 2 rfl) ?_
  refine dw_aftv hw hA (dw_runV (As := [.ref (a K), .int (nI v)]) (rest := []) (ko := 54) hw S ds_good (m_go l D g a f rw K v (ok) (hv) (hK) (hK2) (hb) H.size) cw_Mo_go wd_502 wd_504 ws_Mo_go ds_ob54 dw_blind (dw_pre hw hN) rfl hl.1 rfl ⟨Nat.le_trans (Nat.le_of_ble_eq_true rfl) hR.1, Nat.le_trans (Nat.le_of_ble_eq_true rfl) hR.2⟩ (Nat.le_of_ble_eq_true rfl) ⟨Nat.zero_le _, Nat.zero_le _⟩ d_Mo_timeOf_3) (fun f_1 H locs hp hw => ?_)
  obtain ⟨hgo, ef_1, hgs⟩ := hp
  obtain ⟨L, eL⟩ : ∃ z, z = (ds_rd (md_v f rw) (fun x => f K x == v) v) := ⟨_, rfl⟩
  rw [← eL] at ef_1 hgs
  have hLn : L.length ≤ f 54 1 := by rw [eL]; exact dr_rd_len hrw _ hv
  have hLm : ∀ x ∈ L, x < f 54 1 := fun x hx => (dr_rd_in hrw _ hv (by rw [eL] at hx; exact hx)).1
  have qz : f_1 54 25 = L.length := by rw [ef_1, md_r_z]
  have q64 : f_1 64 = f 64 := by rw [ef_1, md_r_ne (by decide) (by decide)]
  refine lv_iconst (v := nI 0) S.1 S.2.1 d_Mo_timeOf_6 (by decide) ?_
  refine lv_istore_n (lv' := [(3, .int (nI 0)), (0, .ref (a 54)), (1, .ref (a K)), (2, .int (nI v))]) S.1 S.2.1 d_Mo_timeOf_7 rfl hl (by decide) rfl (fun ls hl => ?_)
  refine lv_iconst (v := nI 0) S.1 S.2.1 d_Mo_timeOf_8 (by decide) ?_
  refine lv_istore (lv' := [(4, .int (nI 0)), (3, .int (nI 0)), (0, .ref (a 54)), (1, .ref (a K)), (2, .int (nI v))]) S.1 S.2.1 d_Mo_timeOf_9 hl (by decide) rfl (fun ls hl => ?_)
  refine lv_iconst (v := nI 0) S.1 S.2.1 d_Mo_timeOf_11 (by decide) ?_
  refine lv_istore (lv' := [(5, .int (nI 0)), (4, .int (nI 0)), (3, .int (nI 0)), (0, .ref (a 54)), (1, .ref (a K)), (2, .int (nI v))]) S.1 S.2.1 d_Mo_timeOf_12 hl (by decide) rfl (fun ls hl => ?_)
  have loop_14 : ∀ (n : Nat) (y : Nat) (w : Nat) (i : Nat) (hi : i ≤ L.length) (ey : y = (ds_fo (md_v f rw) (L.take i)).1) (ew : w = (ds_fo (md_v f rw) (L.take i)).2) (_ : L.length - i < n) (H : Heap) (locs : List Loc), dw_W D classes (ds_tys g) A s.heap (dw_l 77 (ds_ce g a) a f_1) s H locs → ∀ (ls : Array Slot), lv_has ls 6 [(0, .ref (a 54)), (1, .ref (a K)), (2, .int (nI v)), (3, .int (nI y)), (4, .int (nI w)), (5, .int (nI i))] → W p l e R s m args below meth c H locs 0 0 Q (F0 m 14 ls []) := by
    intro n
    induction n with
    | zero => intro y w i hi ey ew h9; exact absurd h9 (Nat.not_lt_zero _)
    | succ n ih_14 =>
      intro y w i hi ey ew hm_14 H locs hw ls hl
      have fb := ds_fo_b ok hLm i
      rw [← ey, ← ew] at fb
      refine lv_iload S.1 S.2.1 d_Mo_timeOf_14 (lv_at hl 5 rfl) ?_
      refine lv_aload_n S.1 S.2.1 d_Mo_timeOf_16 rfl (lv_at hl 0 rfl) ?_
      refine dw_getf (fi := 25) (v := .int (nI (f_1 54 25))) S hw i_Mo ds_ob54 (by decide) rfl wd_387 rfl d_Mo_timeOf_17 ?_
      refine dn_icmp_ge S.1 S.2.1 82 (by omega) (by omega) d_Mo_timeOf_20 (by decide) (fun h_20 => ?_) (fun h_20 => ?_)
      · have e82 : f_1 64 (10 * w) = f 64 (10 * w + 0) := by rw [q64]; rfl
        refine lv_iload_n S.1 S.2.1 d_Mo_timeOf_82 rfl (lv_at hl 3 rfl) ?_
        refine lv_aload_n S.1 S.2.1 d_Mo_timeOf_83 rfl (lv_at hl 0 rfl) ?_
        refine dw_getf (fi := 11) (v := .ref (a 64)) S hw i_Mo ds_ob54 (by decide) rfl wd_373 rfl d_Mo_timeOf_84 ?_
        refine lv_bipush (v := nI 10) S.1 S.2.1 d_Mo_timeOf_87 (by decide) ?_
        refine lv_iload S.1 S.2.1 d_Mo_timeOf_89 (lv_at hl 4 rfl) ?_
        refine dn_imul S.1 S.2.1 d_Mo_timeOf_91 ?_
        refine dw_iald S.1 S.2.1 hw ds_k64 (by omega) d_Mo_timeOf_92 ?_
        refine dn_iadd S.1 S.2.1 d_Mo_timeOf_93 ?_
        exact hret H locs _ ls _ _ hw (⟨by rw [e82, ds_fo_e, ← eL, ey, ew, show i = L.length by omega, List.take_length, md_28 (by have q := (ds_fo_b ok hLm L.length).2; rw [List.take_length] at q; exact q)], hgo, L.length, ef_1⟩) d_Mo_timeOf_94
      · have h_21 : i < L.length := by omega
        obtain ⟨x, ex⟩ : ∃ z, z = L.getD i 0 := ⟨_, rfl⟩
        have q74 : f_1 74 i = x := by rw [ef_1, md_r_74, ex]; have q := hgs i h_21; rwa [Nat.zero_add] at q
        have hx : x < f 54 1 := by rw [ex]; exact hLm _ (ds_getD_mem h_21)
        have s1 := hst x hx
        have e55 : f_1 55 (f_1 74 i) = f 55 x := by rw [q74, ef_1, md_r_ne (by decide) (by decide)]
        have e56 : f_1 56 (f_1 74 i) = f 56 x := by rw [q74, ef_1, md_r_ne (by decide) (by decide)]
        have e64 : f_1 64 ((10 * w) + (f_1 55 (f_1 74 i))) = f 64 (10 * w + f 55 x) := by rw [e55, q64]
        refine lv_iload_n S.1 S.2.1 d_Mo_timeOf_23 rfl (lv_at hl 3 rfl) ?_
        refine lv_aload_n S.1 S.2.1 d_Mo_timeOf_24 rfl (lv_at hl 0 rfl) ?_
        refine dw_getf (fi := 11) (v := .ref (a 64)) S hw i_Mo ds_ob54 (by decide) rfl wd_373 rfl d_Mo_timeOf_25 ?_
        refine lv_bipush (v := nI 10) S.1 S.2.1 d_Mo_timeOf_28 (by decide) ?_
        refine lv_iload S.1 S.2.1 d_Mo_timeOf_30 (lv_at hl 4 rfl) ?_
        refine dn_imul S.1 S.2.1 d_Mo_timeOf_32 ?_
        refine lv_aload_n S.1 S.2.1 d_Mo_timeOf_33 rfl (lv_at hl 0 rfl) ?_
        refine dw_getf (fi := 2) (v := .ref (a 55)) S hw i_Mo ds_ob54 (by decide) rfl wd_364 rfl d_Mo_timeOf_34 ?_
        refine lv_aload_n S.1 S.2.1 d_Mo_timeOf_37 rfl (lv_at hl 0 rfl) ?_
        refine dw_getf (fi := 24) (v := .ref (a 74)) S hw i_Mo ds_ob54 (by decide) rfl wd_386 rfl d_Mo_timeOf_38 ?_
        refine lv_iload S.1 S.2.1 d_Mo_timeOf_41 (lv_at hl 5 rfl) ?_
        refine dw_iald S.1 S.2.1 hw ds_k74 (by omega) d_Mo_timeOf_43 ?_
        refine dw_iald S.1 S.2.1 hw ds_k55 (by omega) d_Mo_timeOf_44 ?_
        refine dn_iadd S.1 S.2.1 d_Mo_timeOf_45 ?_
        refine dw_iald S.1 S.2.1 hw ds_k64 (by omega) d_Mo_timeOf_46 ?_
        refine lv_aload_n S.1 S.2.1 d_Mo_timeOf_47 rfl (lv_at hl 0 rfl) ?_
        refine dw_getf (fi := 3) (v := .ref (a 56)) S hw i_Mo ds_ob54 (by decide) rfl wd_365 rfl d_Mo_timeOf_48 ?_
        refine lv_aload_n S.1 S.2.1 d_Mo_timeOf_51 rfl (lv_at hl 0 rfl) ?_
        refine dw_getf (fi := 24) (v := .ref (a 74)) S hw i_Mo ds_ob54 (by decide) rfl wd_386 rfl d_Mo_timeOf_52 ?_
        refine lv_iload S.1 S.2.1 d_Mo_timeOf_55 (lv_at hl 5 rfl) ?_
        refine dw_iald S.1 S.2.1 hw ds_k74 (by omega) d_Mo_timeOf_57 ?_
        refine dw_iald S.1 S.2.1 hw ds_k56 (by omega) d_Mo_timeOf_58 ?_
        refine dn_iadd S.1 S.2.1 d_Mo_timeOf_59 ?_
        refine dn_iadd S.1 S.2.1 d_Mo_timeOf_60 ?_
        refine lv_istore_n (lv' := [(3, .int (nI (y + ((f_1 64 ((10 * w) + (f_1 55 (f_1 74 i)))) + (f_1 56 (f_1 74 i)))))), (0, .ref (a 54)), (1, .ref (a K)), (2, .int (nI v)), (4, .int (nI w)), (5, .int (nI i))]) S.1 S.2.1 d_Mo_timeOf_61 rfl hl (by decide) rfl (fun ls hl => ?_)
        refine lv_aload_n S.1 S.2.1 d_Mo_timeOf_62 rfl (lv_at hl 1 rfl) ?_
        refine dw_getf (fi := 2) (v := .ref (a 55)) S hw i_Mo ds_ob54 (by decide) rfl wd_364 rfl d_Mo_timeOf_63 ?_
        refine lv_aload_n S.1 S.2.1 d_Mo_timeOf_66 rfl (lv_at hl 1 rfl) ?_
        refine dw_getf (fi := 24) (v := .ref (a 74)) S hw i_Mo ds_ob54 (by decide) rfl wd_386 rfl d_Mo_timeOf_67 ?_
        refine lv_iload S.1 S.2.1 d_Mo_timeOf_70 (lv_at hl 5 rfl) ?_
        refine dw_iald S.1 S.2.1 hw ds_k74 (by omega) d_Mo_timeOf_72 ?_
        refine dw_iald S.1 S.2.1 hw ds_k55 (by omega) d_Mo_timeOf_73 ?_
        refine lv_istore (lv' := [(4, .int (nI (f_1 55 (f_1 74 i)))), (3, .int (nI (y + ((f_1 64 ((10 * w) + (f_1 55 (f_1 74 i)))) + (f_1 56 (f_1 74 i)))))), (0, .ref (a 54)), (1, .ref (a K)), (2, .int (nI v)), (5, .int (nI i))]) S.1 S.2.1 d_Mo_timeOf_74 hl (by decide) rfl (fun ls hl => ?_)
        refine lv_iinc (v := nI (i + 1)) (lv' := [(5, .int (nI (i + 1))), (4, .int (nI (f_1 55 (f_1 74 i)))), (3, .int (nI (y + ((f_1 64 ((10 * w) + (f_1 55 (f_1 74 i)))) + (f_1 56 (f_1 74 i)))))), (0, .ref (a 54)), (1, .ref (a K)), (2, .int (nI v))]) S.1 S.2.1 d_Mo_timeOf_76 hl (k := 5) rfl (by rw [show Int32.ofInt 1 = nI 1 from rfl, nI_add]) (by decide) rfl (fun ls hl => ?_)
        refine lv_goto (tgt := 14) S.1 S.2.1 d_Mo_timeOf_79 (by decide) ?_
        exact ih_14 (y + ((f_1 64 ((10 * w) + (f_1 55 (f_1 74 i)))) + (f_1 56 (f_1 74 i)))) (f_1 55 (f_1 74 i)) (i + 1) (by omega) (by rw [(ds_fo_s h_21).1, ← ey, ← ew, ← ex, md_28 (by omega), e64, e56]; rfl) (by rw [(ds_fo_s h_21).2, ← ex, e55]; rfl) (by omega) H locs hw ls (lv_sub hl [3, 4, 5, 2, 1, 0] rfl)
  exact loop_14 _ 0 0 0 (Nat.zero_le _) (rfl) (rfl) (Nat.lt_succ_self _) H locs hw ls (lv_sub hl [3, 4, 5, 2, 1, 0] rfl)
set_option maxHeartbeats 4000000 in
set_option maxRecDepth 100000 in
theorem m_overtimeOf (l : Launch) (D : va_G) (g : Nat → ClassId) (a : Nat → Nat) (f : Nat → Nat → Nat) (rw : Nat → Nat → Nat) (K : Nat) (v : Nat) (ok : ds_ok (md_v f rw)) (hv : v < f 54 0) (hK : dw_Ci (ds_tys g) 77 (ds_ce g a) .int K 8) (hK2 : K = 65 ∨ K = 66) (hb : ∀ x, x < f 54 1 → f K x < 2 ^ 31) : ds_I l D g a y_Mo_overtimeOf b_Mo_overtimeOf 4 .int 2 49 [.ref (a 54), .ref (a K), .int (nI v)] f (fun r u => r = nI (ds_tm (md_v f rw) (fun x => f K x == v) v - f 63 v) ∧ ∃ (h : Nat → Nat) (z : Nat), u = md_r f h z) := by
  refine dw_ofI (by decide) (fun _ _ _ => rfl) (Nat.le_of_ble_eq_true rfl) ?_
  intro p e s m args below meth c ls A Q R H locs hR hA S hN hw hl hret
  have hl : lv_has ls 4 [(0, .ref (a 54)), (1, .ref (a K)), (2, .int (nI v))] := hl
  have S : CallFix p m c b_Mo_overtimeOf 4 s args ds_T R_Mo := S
  obtain ⟨hV, hn, hex, hst, hve, hrA, hrB, hrl, hwy⟩ := md_facts ok
  have tb := ds_tm_b ok (fun x => f K x == v) hv
  have v1 := hve v hv
  refine lv_aload_n S.1 S.2.1 d_Mo_overtimeOf_0 rfl (lv_at hl 0 rfl) ?_
  refine lv_aload_n S.1 S.2.1 d_Mo_overtimeOf_1 rfl (lv_at hl 1 rfl) ?_
  refine lv_iload_n S.1 S.2.1 d_Mo_overtimeOf_2 rfl (lv_at hl 2 rfl) ?_
  refine dw_afti hw hA (dw_runV (As := [.ref (a K), .int (nI v)]) (rest := []) (ko := 54) hw S ds_good (m_timeOf l D g a f rw K v (ok) (hv) (hK) (hK2) (hb) H.size) cw_Mo_timeOf wd_498 wd_500 ws_Mo_timeOf ds_ob54 dw_blind (dw_pre hw hN) rfl hl.1 rfl ⟨Nat.le_trans (Nat.le_of_ble_eq_true rfl) hR.1, Nat.le_trans (Nat.le_of_ble_eq_true rfl) hR.2⟩ (Nat.le_of_ble_eq_true rfl) ⟨Nat.zero_le _, Nat.zero_le _⟩ d_Mo_overtimeOf_3) (fun r_3 f_1 H locs hp hw => ?_)
  obtain ⟨er, hr1, zr1, ef_1⟩ := hp
  subst er
  have q63 : f_1 63 v = f 63 v := by rw [ef_1, md_r_ne (by decide) (by decide)]
  rw [← q63] at v1
  refine lv_aload_n S.1 S.2.1 d_Mo_overtimeOf_6 rfl (lv_at hl 0 rfl) ?_
  refine dw_getf (fi := 10) (v := .ref (a 63)) S hw i_Mo ds_ob54 (by decide) rfl wd_372 rfl d_Mo_overtimeOf_7 ?_
  refine lv_iload_n S.1 S.2.1 d_Mo_overtimeOf_10 rfl (lv_at hl 2 rfl) ?_
  refine dw_iald S.1 S.2.1 hw ds_k63 (by omega) d_Mo_overtimeOf_11 ?_
  refine lv_isub S.1 S.2.1 d_Mo_overtimeOf_12 ?_
  refine lv_istore_n (lv' := [(3, .int ((nI (ds_tm (md_v f rw) (fun zz => f K zz == v) v)) - (nI (f_1 63 v)))), (0, .ref (a 54)), (1, .ref (a K)), (2, .int (nI v))]) S.1 S.2.1 d_Mo_overtimeOf_13 rfl hl (by decide) rfl (fun ls hl => ?_)
  refine lv_iload_n S.1 S.2.1 d_Mo_overtimeOf_14 rfl (lv_at hl 0 rfl) ?_
  refine lv_if_le (tgt := 22) S.1 S.2.1 d_Mo_overtimeOf_15 (by decide) (fun h_15 => ?_) (fun h_15 => ?_)
  · refine lv_iconst (v := nI 0) S.1 S.2.1 d_Mo_overtimeOf_22 (by decide) ?_
    exact hret H locs _ ls _ _ hw (⟨by rw [← q63]; rw [show ds_tm (md_v f rw) (fun x => f K x == v) v - f_1 63 v = 0 by have := (ds_ov (by omega) (by omega)).mp h_15; omega], hr1, zr1, ef_1⟩) d_Mo_overtimeOf_23
  · refine lv_iload_n S.1 S.2.1 d_Mo_overtimeOf_18 rfl (lv_at hl 0 rfl) ?_
    refine lv_goto (tgt := 23) S.1 S.2.1 d_Mo_overtimeOf_19 (by decide) ?_
    exact hret H locs _ ls _ _ hw (⟨by rw [← q63]; exact pk_sub (by have q : ¬ _ ≤ _ := fun z => h_15 ((ds_ov (by omega) (by omega)).mpr z); omega), hr1, zr1, ef_1⟩) d_Mo_overtimeOf_23
set_option maxHeartbeats 4000000 in
set_option maxRecDepth 100000 in
theorem m_costOf (l : Launch) (D : va_G) (g : Nat → ClassId) (a : Nat → Nat) (f : Nat → Nat → Nat) (rw : Nat → Nat → Nat) (K : Nat) (ok : ds_ok (md_v f rw)) (hK : dw_Ci (ds_tys g) 77 (ds_ce g a) .int K 8) (hK2 : K = 65 ∨ K = 66) (hb : ∀ x, x < f 54 1 → f K x < 2 ^ 31) : ds_L l D g a y_Mo_costOf b_Mo_costOf 5 3 72 [.ref (a 54), .ref (a K)] f (fun r u => r = lN (ds_cst (md_v f rw) (f K) (f 54 0)) ∧ ∃ (h : Nat → Nat) (z : Nat), u = md_r f h z) := by
  refine dw_ofL (by decide) (Nat.le_of_ble_eq_true rfl) ?_
  intro p e s m args below meth c ls A Q R H locs hR hA S hN hw hl hret
  have hl : lv_has ls 5 [(0, .ref (a 54)), (1, .ref (a K))] := hl
  have S : CallFix p m c b_Mo_costOf 5 s args ds_T R_Mo := S
  obtain ⟨hV, hn, hex, hst, hve, hrA, hrB, hrl, hwy⟩ := md_facts ok
  refine lv_lconst (v := lN 0) S.1 S.2.1 d_Mo_costOf_0 rfl ?_
  refine lv_lstore_n (lv' := [(2, .long (lN 0)), (0, .ref (a 54)), (1, .ref (a K))]) S.1 S.2.1 d_Mo_costOf_1 rfl hl (by decide) rfl (fun ls hl => ?_)
  refine lv_iconst (v := nI 0) S.1 S.2.1 d_Mo_costOf_2 (by decide) ?_
  refine lv_istore (lv' := [(4, .int (nI 0)), (2, .long (lN 0)), (0, .ref (a 54)), (1, .ref (a K))]) S.1 S.2.1 d_Mo_costOf_3 hl (by decide) rfl (fun ls hl => ?_)
  have loop_5 : ∀ (n : Nat) (y : Nat) (v : Nat) (f2 : Nat → Nat → Nat) (h : Nat → Nat) (z : Nat) (hv : v ≤ f 54 0) (ey : y = ds_cst (md_v f rw) (f K) v) (hh : f2 = md_r f h z) (_ : f 54 0 - v < n) (H : Heap) (locs : List Loc), dw_W D classes (ds_tys g) A s.heap (dw_l 77 (ds_ce g a) a f2) s H locs → ∀ (ls : Array Slot), lv_has ls 5 [(0, .ref (a 54)), (1, .ref (a K)), (2, .long (lN y)), (4, .int (nI v))] → W p l e R s m args below meth c H locs 0 0 Q (F0 m 5 ls []) := by
    intro n
    induction n with
    | zero => intro y v f2 h z hv ey hh h9; exact absurd h9 (Nat.not_lt_zero _)
    | succ n ih_5 =>
      intro y v f2 h z hv ey hh hm_5 H locs hw ls hl
      have q0 : f2 54 0 = f 54 0 := by rw [hh, md_r_54 (by decide)]
      refine lv_iload S.1 S.2.1 d_Mo_costOf_5 (lv_at hl 3 rfl) ?_
      refine lv_aload_n S.1 S.2.1 d_Mo_costOf_7 rfl (lv_at hl 0 rfl) ?_
      refine dw_getf (fi := 0) (v := .int (nI (f2 54 0))) S hw i_Mo ds_ob54 (by decide) rfl wd_362 rfl d_Mo_costOf_8 ?_
      refine dn_icmp_ge S.1 S.2.1 39 (by omega) (by omega) d_Mo_costOf_11 (by decide) (fun h_11 => ?_) (fun h_11 => ?_)
      · refine lv_lload_n S.1 S.2.1 d_Mo_costOf_39 rfl (lv_at hl 2 rfl) ?_
        exact hret H locs _ ls _ _ hw (⟨by rw [ey, show v = f 54 0 by omega], h, z, hh⟩) d_Mo_costOf_40
      · have hv2 : v < f 54 0 := by omega
        have qK : f2 K = f K := by rw [hh, md_r_ne (by omega) (by omega)]
        have tb := ds_tm_b ok (fun zz => f K zz == v) hv2
        refine lv_lload_n S.1 S.2.1 d_Mo_costOf_14 rfl (lv_at hl 2 rfl) ?_
        refine lv_aload_n S.1 S.2.1 d_Mo_costOf_15 rfl (lv_at hl 0 rfl) ?_
        refine lv_aload_n S.1 S.2.1 d_Mo_costOf_16 rfl (lv_at hl 1 rfl) ?_
        refine lv_iload S.1 S.2.1 d_Mo_costOf_17 (lv_at hl 3 rfl) ?_
        refine dw_afti hw hA (dw_runV (As := [.ref (a K), .int (nI v)]) (rest := [.long (lN y)]) (ko := 54) hw S ds_good (m_timeOf l D g a f2 rw K v (by rw [hh, md_v_r]; exact ok) (by rw [hh, md_r_54 (by decide)]; exact hv2) (hK) (hK2) (fun x hx => by rw [hh] at hx ⊢; rw [md_r_54 (by decide)] at hx; rw [md_r_ne (by omega) (by omega)]; exact hb x hx) H.size) cw_Mo_timeOf wd_498 wd_500 ws_Mo_timeOf ds_ob54 dw_blind (dw_pre hw hN) rfl hl.1 rfl ⟨Nat.le_trans (Nat.le_of_ble_eq_true rfl) hR.1, Nat.le_trans (Nat.le_of_ble_eq_true rfl) hR.2⟩ (Nat.le_of_ble_eq_true rfl) ⟨Nat.zero_le _, Nat.zero_le _⟩ d_Mo_costOf_19) (fun r_19 f_1 H locs hp hw => ?_)
        obtain ⟨er, hr1, zr1, ef_1⟩ := hp
        subst er
        refine ds_topi (w := nI (ds_tm (md_v f rw) (fun zz => f K zz == v) v)) (by rw [qK, hh, md_v_r]) ?_
        have h1s : f_1 = md_r f hr1 zr1 := by rw [ef_1, hh, md_r_r]
        have qK2 : f_1 K = f K := by rw [h1s, md_r_ne (by omega) (by omega)]
        refine lv_aload_n S.1 S.2.1 d_Mo_costOf_22 rfl (lv_at hl 0 rfl) ?_
        refine lv_aload_n S.1 S.2.1 d_Mo_costOf_23 rfl (lv_at hl 1 rfl) ?_
        refine lv_iload S.1 S.2.1 d_Mo_costOf_24 (lv_at hl 3 rfl) ?_
        refine dw_afti hw hA (dw_runV (As := [.ref (a K), .int (nI v)]) (rest := [.int (nI (ds_tm (md_v f rw) (fun zz => f K zz == v) v)), .long (lN y)]) (ko := 54) hw S ds_good (m_overtimeOf l D g a f_1 rw K v (by rw [h1s, md_v_r]; exact ok) (by rw [h1s, md_r_54 (by decide)]; exact hv2) (hK) (hK2) (fun x hx => by rw [h1s] at hx ⊢; rw [md_r_54 (by decide)] at hx; rw [md_r_ne (by omega) (by omega)]; exact hb x hx) H.size) cw_Mo_overtimeOf wd_506 wd_508 ws_Mo_overtimeOf ds_ob54 dw_blind (dw_pre hw hN) rfl hl.1 rfl ⟨Nat.le_trans (Nat.le_of_ble_eq_true rfl) hR.1, Nat.le_trans (Nat.le_of_ble_eq_true rfl) hR.2⟩ (Nat.le_of_ble_eq_true rfl) ⟨Nat.zero_le _, Nat.zero_le _⟩ d_Mo_costOf_26) (fun r_26 f_2 H locs hp hw => ?_)
        obtain ⟨er, hr2, zr2, ef_2⟩ := hp
        subst er
        refine ds_topi (w := nI (ds_tm (md_v f rw) (fun zz => f K zz == v) v - f 63 v)) (by rw [qK2, h1s, md_v_r, md_r_ne (by decide) (by decide)]) ?_
        refine dn_iadd S.1 S.2.1 d_Mo_costOf_29 ?_
        refine dn_i2l S.1 S.2.1 (by omega) d_Mo_costOf_30 ?_
        refine dn_ladd S.1 S.2.1 d_Mo_costOf_31 ?_
        refine lv_lstore_n (lv' := [(2, .long (lN (y + ((ds_tm (md_v f rw) (fun zz => f K zz == v) v) + (ds_tm (md_v f rw) (fun zz => f K zz == v) v - f 63 v))))), (0, .ref (a 54)), (1, .ref (a K)), (4, .int (nI v))]) S.1 S.2.1 d_Mo_costOf_32 rfl hl (by decide) rfl (fun ls hl => ?_)
        refine lv_iinc (v := nI (v + 1)) (lv' := [(4, .int (nI (v + 1))), (2, .long (lN (y + ((ds_tm (md_v f rw) (fun zz => f K zz == v) v) + (ds_tm (md_v f rw) (fun zz => f K zz == v) v - f 63 v))))), (0, .ref (a 54)), (1, .ref (a K))]) S.1 S.2.1 d_Mo_costOf_33 hl (k := 3) rfl (by rw [show Int32.ofInt 1 = nI 1 from rfl, nI_add]) (by decide) rfl (fun ls hl => ?_)
        refine lv_goto (tgt := 5) S.1 S.2.1 d_Mo_costOf_36 (by decide) ?_
        exact ih_5 (y + ((ds_tm (md_v f rw) (fun zz => f K zz == v) v) + (ds_tm (md_v f rw) (fun zz => f K zz == v) v - f 63 v))) (v + 1) f_2 hr2 zr2 (by omega) (by rw [ey]; rfl) (by rw [ef_2, h1s, md_r_r]) (by omega) H locs hw ls (lv_sub hl [2, 3, 1, 0] rfl)
  exact loop_5 _ 0 0 f (f 74) (f 54 25) (Nat.zero_le _) (rfl) (md_r_id) (Nat.lt_succ_self _) H locs hw ls (lv_sub hl [2, 3, 1, 0] rfl)
set_option maxHeartbeats 4000000 in
set_option maxRecDepth 100000 in
theorem m_cost (l : Launch) (D : va_G) (g : Nat → ClassId) (a : Nat → Nat) (f : Nat → Nat → Nat) (rw : Nat → Nat → Nat) (ok : ds_ok (md_v f rw)) : ds_L l D g a y_Mo_cost b_Mo_cost 1 4 96 [.ref (a 54)] f (fun r u => r = lN (ds_cst (md_v f rw) (f 65) (f 54 0)) ∧ ∃ (h : Nat → Nat) (z : Nat), u = md_r f h z) := by
  refine dw_ofL (by decide) (Nat.le_of_ble_eq_true rfl) ?_
  intro p e s m args below meth c ls A Q R H locs hR hA S hN hw hl hret
  have hl : lv_has ls 1 [(0, .ref (a 54))] := hl
  have S : CallFix p m c b_Mo_cost 1 s args ds_T R_Mo := S
  obtain ⟨hV, hn, hex, hst, hve, hrA, hrB, hrl, hwy⟩ := md_facts ok
  refine lv_aload_n S.1 S.2.1 d_Mo_cost_0 rfl (lv_at hl 0 rfl) ?_
  refine lv_aload_n S.1 S.2.1 d_Mo_cost_1 rfl (lv_at hl 0 rfl) ?_
  refine dw_getf (fi := 13) (v := .ref (a 65)) S hw i_Mo ds_ob54 (by decide) rfl wd_375 rfl d_Mo_cost_2 ?_
  refine dw_aftl hw hA (dw_runV (As := [.ref (a 65)]) (rest := []) (ko := 54) hw S ds_good (m_costOf l D g a f rw 65 (ok) (ds_k65) (Or.inl rfl) (fun x hx => by have := hst x hx; omega) H.size) cw_Mo_costOf wd_494 wd_496 ws_Mo_costOf ds_ob54 dw_blind (dw_pre hw hN) rfl hl.1 rfl ⟨Nat.le_trans (Nat.le_of_ble_eq_true rfl) hR.1, Nat.le_trans (Nat.le_of_ble_eq_true rfl) hR.2⟩ (Nat.le_of_ble_eq_true rfl) ⟨Nat.zero_le _, Nat.zero_le _⟩ d_Mo_cost_5) (fun r_5 f_1 H locs hp hw => ?_)
  obtain ⟨er, hr3, zr3, ef_1⟩ := hp
  subst er
  exact hret H locs _ ls _ _ hw (⟨rfl, hr3, zr3, ef_1⟩) d_Mo_cost_8
set_option maxHeartbeats 4000000 in
set_option maxRecDepth 100000 in
theorem m_overtime (l : Launch) (D : va_G) (g : Nat → ClassId) (a : Nat → Nat) (f : Nat → Nat → Nat) (rw : Nat → Nat → Nat) (x : Int32) (ok : ds_ok (md_v f rw)) : ds_I l D g a y_Mo_overtime b_Mo_overtime 2 .int 3 72 [.ref (a 54), .int x] f (fun r u => (if ds_in x (f 54 0) then r = nI (ds_tm (md_v f rw) (fun zz => f 65 zz == x.toNatClampNeg) x.toNatClampNeg - f 63 x.toNatClampNeg) else r = (-1)) ∧ ∃ (h : Nat → Nat) (z : Nat), u = md_r f h z) := by
  refine dw_ofI (by decide) (fun _ _ _ => rfl) (Nat.le_of_ble_eq_true rfl) ?_
  intro p e s m args below meth c ls A Q R H locs hR hA S hN hw hl hret
  have hl : lv_has ls 2 [(0, .ref (a 54)), (1, .int x)] := hl
  have S : CallFix p m c b_Mo_overtime 2 s args ds_T R_Mo := S
  obtain ⟨hV, hn, hex, hst, hve, hrA, hrB, hrl, hwy⟩ := md_facts ok
  refine lv_aload_n S.1 S.2.1 d_Mo_overtime_0 rfl (lv_at hl 0 rfl) ?_
  refine lv_iload_n S.1 S.2.1 d_Mo_overtime_1 rfl (lv_at hl 1 rfl) ?_
  refine dw_afti hw hA (dw_runV (As := [.int x]) (rest := []) (ko := 54) hw S ds_good (m_isVehicle l D g a f x (by omega) H.size) cw_Mo_isVehicle wd_451 wd_453 ws_Mo_isVehicle ds_ob54 dw_blind (dw_pre hw hN) rfl hl.1 rfl ⟨Nat.le_trans (Nat.le_of_ble_eq_true rfl) hR.1, Nat.le_trans (Nat.le_of_ble_eq_true rfl) hR.2⟩ (Nat.le_of_ble_eq_true rfl) ⟨Nat.zero_le _, Nat.zero_le _⟩ d_Mo_overtime_2) (fun r_2 f_1 H locs hp hw => ?_)
  obtain ⟨er, ef⟩ := hp
  subst er
  rw [ef] at hw
  refine dn_ifb_eq S.1 S.2.1 20 d_Mo_overtime_5 (by decide) (fun h_5 => ?_) (fun h_5 => ?_)
  · refine lv_iconst (v := (-1)) S.1 S.2.1 d_Mo_overtime_20 (by decide) ?_
    exact hret H locs _ ls _ _ hw (⟨by rw [if_neg h_5], f 74, f 54 25, md_r_id⟩) d_Mo_overtime_21
  · obtain ⟨ex1, hx1⟩ := ds_in_nI h_5
    have hl : lv_has ls 2 [(0, .ref (a 54)), (1, .int (nI (x.toNatClampNeg)))] := by have hl2 := hl; rw [ex1] at hl2; exact hl2
    refine lv_aload_n S.1 S.2.1 d_Mo_overtime_8 rfl (lv_at hl 0 rfl) ?_
    refine lv_aload_n S.1 S.2.1 d_Mo_overtime_9 rfl (lv_at hl 0 rfl) ?_
    refine dw_getf (fi := 13) (v := .ref (a 65)) S hw i_Mo ds_ob54 (by decide) rfl wd_375 rfl d_Mo_overtime_10 ?_
    refine lv_iload_n S.1 S.2.1 d_Mo_overtime_13 rfl (lv_at hl 1 rfl) ?_
    refine dw_afti hw hA (dw_runV (As := [.ref (a 65), .int (nI (x.toNatClampNeg))]) (rest := []) (ko := 54) hw S ds_good (m_overtimeOf l D g a f rw 65 (x.toNatClampNeg) (ok) (hx1) (ds_k65) (Or.inl rfl) (fun x hx => by have := hst x hx; omega) H.size) cw_Mo_overtimeOf wd_506 wd_508 ws_Mo_overtimeOf ds_ob54 dw_blind (dw_pre hw hN) rfl hl.1 rfl ⟨Nat.le_trans (Nat.le_of_ble_eq_true rfl) hR.1, Nat.le_trans (Nat.le_of_ble_eq_true rfl) hR.2⟩ (Nat.le_of_ble_eq_true rfl) ⟨Nat.zero_le _, Nat.zero_le _⟩ d_Mo_overtime_14) (fun r_14 f_2 H locs hp hw => ?_)
    obtain ⟨er, hr2, zr2, ef_2⟩ := hp
    subst er
    refine lv_goto (tgt := 21) S.1 S.2.1 d_Mo_overtime_17 (by decide) ?_
    exact hret H locs _ ls _ _ hw (⟨by rw [if_pos h_5], hr2, zr2, ef_2⟩) d_Mo_overtime_21
set_option maxHeartbeats 4000000 in
set_option maxRecDepth 100000 in
theorem m_movedBy (l : Launch) (D : va_G) (g : Nat → ClassId) (a : Nat → Nat) (f : Nat → Nat → Nat) (K : Nat) (hn : f 54 1 ≤ 8) (hK : dw_Ci (ds_tys g) 77 (ds_ce g a) .int K 8) (hK2 : K = 65 ∨ K = 66) (hb : ∀ x, x < f 54 1 → f K x < 2 ^ 31) (hb2 : ∀ x, x < f 54 1 → f 57 x < 2 ^ 31) : ds_I l D g a y_Mo_movedBy b_Mo_movedBy 4 .int 0 0 [.ref (a 54), .ref (a K)] f (fun r u => r = nI (ds_cnt (fun x => f K x != f 57 x) (f 54 1)) ∧ u = f) := by
  refine dw_ofI (by decide) (fun _ _ _ => rfl) (Nat.le_of_ble_eq_true rfl) ?_
  intro p e s m args below meth c ls A Q R H locs hR hA S hN hw hl hret
  have hl : lv_has ls 4 [(0, .ref (a 54)), (1, .ref (a K))] := hl
  have S : CallFix p m c b_Mo_movedBy 4 s args ds_T R_Mo := S
  refine lv_iconst (v := nI 0) S.1 S.2.1 d_Mo_movedBy_0 (by decide) ?_
  refine lv_istore_n (lv' := [(2, .int (nI 0)), (0, .ref (a 54)), (1, .ref (a K))]) S.1 S.2.1 d_Mo_movedBy_1 rfl hl (by decide) rfl (fun ls hl => ?_)
  refine lv_iconst (v := nI 0) S.1 S.2.1 d_Mo_movedBy_2 (by decide) ?_
  refine lv_istore_n (lv' := [(3, .int (nI 0)), (2, .int (nI 0)), (0, .ref (a 54)), (1, .ref (a K))]) S.1 S.2.1 d_Mo_movedBy_3 rfl hl (by decide) rfl (fun ls hl => ?_)
  have loop_4 : ∀ (n : Nat) (z : Nat) (i : Nat) (hi : i ≤ f 54 1) (ez : z = ds_cnt (fun x => f K x != f 57 x) i) (_ : f 54 1 - i < n) (H : Heap) (locs : List Loc), dw_W D classes (ds_tys g) A s.heap (dw_l 77 (ds_ce g a) a f) s H locs → ∀ (ls : Array Slot), lv_has ls 4 [(0, .ref (a 54)), (1, .ref (a K)), (2, .int (nI z)), (3, .int (nI i))] → W p l e R s m args below meth c H locs 0 0 Q (F0 m 4 ls []) := by
    intro n
    induction n with
    | zero => intro z i hi ez h9; exact absurd h9 (Nat.not_lt_zero _)
    | succ n ih_4 =>
      intro z i hi ez hm_4 H locs hw ls hl
      refine lv_iload_n S.1 S.2.1 d_Mo_movedBy_4 rfl (lv_at hl 3 rfl) ?_
      refine lv_aload_n S.1 S.2.1 d_Mo_movedBy_5 rfl (lv_at hl 0 rfl) ?_
      refine dw_getf (fi := 1) (v := .int (nI (f 54 1))) S hw i_Mo ds_ob54 (by decide) rfl wd_363 rfl d_Mo_movedBy_6 ?_
      refine dn_icmp_ge S.1 S.2.1 38 (by omega) (by omega) d_Mo_movedBy_9 (by decide) (fun h_9 => ?_) (fun h_9 => ?_)
      · refine lv_iload_n S.1 S.2.1 d_Mo_movedBy_38 rfl (lv_at hl 2 rfl) ?_
        exact hret H locs _ ls _ _ hw (⟨by rw [ez, show i = f 54 1 by omega], rfl⟩) d_Mo_movedBy_39
      · have b1 := hb i (by omega)
        have b2 := hb2 i (by omega)
        refine lv_iload_n S.1 S.2.1 d_Mo_movedBy_12 rfl (lv_at hl 2 rfl) ?_
        refine lv_aload_n S.1 S.2.1 d_Mo_movedBy_13 rfl (lv_at hl 1 rfl) ?_
        refine lv_iload_n S.1 S.2.1 d_Mo_movedBy_14 rfl (lv_at hl 3 rfl) ?_
        refine dw_iald S.1 S.2.1 hw hK (by omega) d_Mo_movedBy_15 ?_
        refine lv_aload_n S.1 S.2.1 d_Mo_movedBy_16 rfl (lv_at hl 0 rfl) ?_
        refine dw_getf (fi := 4) (v := .ref (a 57)) S hw i_Mo ds_ob54 (by decide) rfl wd_366 rfl d_Mo_movedBy_17 ?_
        refine lv_iload_n S.1 S.2.1 d_Mo_movedBy_20 rfl (lv_at hl 3 rfl) ?_
        refine dw_iald S.1 S.2.1 hw ds_k57 (by omega) d_Mo_movedBy_21 ?_
        refine dn_icmp_eq S.1 S.2.1 29 (by omega) (by omega) d_Mo_movedBy_22 (by decide) (fun h_22 => ?_) (fun h_22 => ?_)
        · refine lv_iconst (v := nI 0) S.1 S.2.1 d_Mo_movedBy_29 (by decide) ?_
          refine dn_iadd S.1 S.2.1 d_Mo_movedBy_30 ?_
          refine lv_istore_n (lv' := [(2, .int (nI (z + 0))), (0, .ref (a 54)), (1, .ref (a K)), (3, .int (nI i))]) S.1 S.2.1 d_Mo_movedBy_31 rfl hl (by decide) rfl (fun ls hl => ?_)
          refine lv_iinc (v := nI (i + 1)) (lv' := [(3, .int (nI (i + 1))), (2, .int (nI (z + 0))), (0, .ref (a 54)), (1, .ref (a K))]) S.1 S.2.1 d_Mo_movedBy_32 hl (k := 3) rfl (by rw [show Int32.ofInt 1 = nI 1 from rfl, nI_add]) (by decide) rfl (fun ls hl => ?_)
          refine lv_goto (tgt := 4) S.1 S.2.1 d_Mo_movedBy_35 (by decide) ?_
          exact ih_4 (z + 0) (i + 1) (by omega) (by rw [ez]; simp [ds_cnt, h_22]) (by omega) H locs hw ls (lv_sub hl [2, 3, 1, 0] rfl)
        · refine lv_iconst (v := nI 1) S.1 S.2.1 d_Mo_movedBy_25 (by decide) ?_
          refine lv_goto (tgt := 30) S.1 S.2.1 d_Mo_movedBy_26 (by decide) ?_
          refine dn_iadd S.1 S.2.1 d_Mo_movedBy_30 ?_
          refine lv_istore_n (lv' := [(2, .int (nI (z + 1))), (0, .ref (a 54)), (1, .ref (a K)), (3, .int (nI i))]) S.1 S.2.1 d_Mo_movedBy_31 rfl hl (by decide) rfl (fun ls hl => ?_)
          refine lv_iinc (v := nI (i + 1)) (lv' := [(3, .int (nI (i + 1))), (2, .int (nI (z + 1))), (0, .ref (a 54)), (1, .ref (a K))]) S.1 S.2.1 d_Mo_movedBy_32 hl (k := 3) rfl (by rw [show Int32.ofInt 1 = nI 1 from rfl, nI_add]) (by decide) rfl (fun ls hl => ?_)
          refine lv_goto (tgt := 4) S.1 S.2.1 d_Mo_movedBy_35 (by decide) ?_
          exact ih_4 (z + 1) (i + 1) (by omega) (by rw [ez]; simp [ds_cnt, h_22]) (by omega) H locs hw ls (lv_sub hl [2, 3, 1, 0] rfl)
  exact loop_4 _ 0 0 (Nat.zero_le _) (rfl) (Nat.lt_succ_self _) H locs hw ls (lv_sub hl [2, 3, 1, 0] rfl)
