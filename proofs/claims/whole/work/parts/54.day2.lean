/-! contracts of Day: rounds and times -/
set_option maxHeartbeats 4000000 in
set_option maxRecDepth 100000 in
theorem c_timeOf (l : Launch) (D : va_G) (g : Nat → ClassId) (a : Nat → Nat) (f : Nat → Nat → Nat) (v : Nat) (t : Nat) (ok : ds_ok f) (hv : v < f 1 0) (ht : t < 2 ^ 31) : ds_I l D g a y_Day_timeOf b_Day_timeOf 8 .int 2 47 [.ref (a 1), .int (nI v), .int (nI t)] f (fun r u => r = nI (ds_tm f (fun x => t.testBit x) v) ∧ ∃ h : Nat → Nat, u = dw_su f 21 h) := by
  refine dw_ofI (by decide) (fun _ _ _ => rfl) (Nat.le_of_ble_eq_true rfl) ?_
  intro p e s m args below meth c ls A Q R H locs hR hA S hN hw hl hret
  have hl : lv_has ls 8 [(0, .ref (a 1)), (1, .int (nI v)), (2, .int (nI t))] := hl
  have S : CallFix p m c b_Day_timeOf 8 s args ds_T R_Day := S
  obtain ⟨hV, hn, hex, hst, hve, hwy, hw0, hrw⟩ := id ok
  refine lv_aload_n S.1 S.2.1 d_Day_timeOf_0 rfl (lv_at hl 0 rfl) ?_
  refine lv_iload_n S.1 S.2.1 d_Day_timeOf_1 rfl (lv_at hl 1 rfl) ?_
  refine lv_iload_n S.1 S.2.1 d_Day_timeOf_2 rfl (lv_at hl 2 rfl) ?_
  refine lv_aload_n S.1 S.2.1 d_Day_timeOf_3 rfl (lv_at hl 0 rfl) ?_
  refine dw_getf (fi := 15) (v := .ref (a 21)) S hw i_Day ds_ob1 (by decide) rfl wd_58 rfl d_Day_timeOf_4 ?_
  refine lv_iconst (v := nI 0) S.1 S.2.1 d_Day_timeOf_7 (by decide) ?_
  refine dw_afti hw hA (dw_runV (As := [.int (nI v), .int (nI t), .ref (a 21), .int (nI 0)]) (rest := []) (ko := 1) hw S ds_good (c_addRound l D g a f v t 21 0 (ok) (hv) (ht) (ds_k21) (Or.inl rfl) (by have := dr_rd_len hrw (fun x => Nat.testBit t x) hv; omega) H.size) cw_Day_addRound wd_238 wd_240 ws_Day_addRound ds_ob1 dw_blind (dw_pre hw hN) rfl hl.1 rfl ⟨Nat.le_trans (Nat.le_of_ble_eq_true rfl) hR.1, Nat.le_trans (Nat.le_of_ble_eq_true rfl) hR.2⟩ (Nat.le_of_ble_eq_true rfl) ⟨Nat.zero_le _, Nat.zero_le _⟩ d_Day_timeOf_8) (fun r_8 f_1 H locs hp hw => ?_)
  obtain ⟨er, h, eh, hk, hs⟩ := hp
  subst er
  obtain ⟨L, eL⟩ : ∃ z, z = ds_rd f (fun x => t.testBit x) v := ⟨_, rfl⟩
  rw [← eL] at hs
  rw [← eL]
  have hLn : L.length ≤ f 1 1 := by rw [eL]; exact dr_rd_len hrw _ hv
  have hLm : ∀ x ∈ L, x < f 1 1 := fun x hx => (dr_rd_in hrw _ hv (by rw [eL] at hx; exact hx)).1
  refine ds_topi (w := nI L.length) (by rw [Nat.zero_add]) ?_
  refine lv_istore_n (lv' := [(3, .int (nI (L.length))), (0, .ref (a 1)), (1, .int (nI v)), (2, .int (nI t))]) S.1 S.2.1 d_Day_timeOf_11 rfl hl (by decide) rfl (fun ls hl => ?_)
  refine lv_iconst (v := nI 0) S.1 S.2.1 d_Day_timeOf_12 (by decide) ?_
  refine lv_istore (lv' := [(4, .int (nI 0)), (3, .int (nI (L.length))), (0, .ref (a 1)), (1, .int (nI v)), (2, .int (nI t))]) S.1 S.2.1 d_Day_timeOf_13 hl (by decide) rfl (fun ls hl => ?_)
  refine lv_iconst (v := nI 0) S.1 S.2.1 d_Day_timeOf_15 (by decide) ?_
  refine lv_istore (lv' := [(5, .int (nI 0)), (4, .int (nI 0)), (3, .int (nI (L.length))), (0, .ref (a 1)), (1, .int (nI v)), (2, .int (nI t))]) S.1 S.2.1 d_Day_timeOf_16 hl (by decide) rfl (fun ls hl => ?_)
  refine lv_iconst (v := nI 0) S.1 S.2.1 d_Day_timeOf_18 (by decide) ?_
  refine lv_istore (lv' := [(6, .int (nI 0)), (5, .int (nI 0)), (4, .int (nI 0)), (3, .int (nI (L.length))), (0, .ref (a 1)), (1, .int (nI v)), (2, .int (nI t))]) S.1 S.2.1 d_Day_timeOf_19 hl (by decide) rfl (fun ls hl => ?_)
  have loop_21 : ∀ (n : Nat) (y : Nat) (w : Nat) (i : Nat) (hi : i ≤ L.length) (ey : y = (ds_fo f (L.take i)).1) (ew : w = (ds_fo f (L.take i)).2) (_ : L.length - i < n) (H : Heap) (locs : List Loc), dw_W D classes (ds_tys g) A s.heap (dw_l 77 (ds_ce g a) a f_1) s H locs → ∀ (ls : Array Slot), lv_has ls 8 [(0, .ref (a 1)), (1, .int (nI v)), (2, .int (nI t)), (3, .int (nI (L.length))), (4, .int (nI y)), (5, .int (nI w)), (6, .int (nI i))] → W p l e R s m args below meth c H locs 0 0 Q (F0 m 21 ls []) := by
    intro n
    induction n with
    | zero => intro y w i hi ey ew h9; exact absurd h9 (Nat.not_lt_zero _)
    | succ n ih_21 =>
      intro y w i hi ey ew hm_21 H locs hw ls hl
      have fb := ds_fo_b ok hLm i
      rw [← ey, ← ew] at fb
      refine lv_iload S.1 S.2.1 d_Day_timeOf_21 (lv_at hl 6 rfl) ?_
      refine lv_iload_n S.1 S.2.1 d_Day_timeOf_23 rfl (lv_at hl 3 rfl) ?_
      refine dn_icmp_ge S.1 S.2.1 79 (by omega) (by omega) d_Day_timeOf_24 (by decide) (fun h_24 => ?_) (fun h_24 => ?_)
      · have e30 : f_1 (28 + w) 0 = f (28 + w) 0 := by rw [eh, dw_su_ne (by omega)]
        refine lv_iload S.1 S.2.1 d_Day_timeOf_79 (lv_at hl 4 rfl) ?_
        refine lv_aload_n S.1 S.2.1 d_Day_timeOf_81 rfl (lv_at hl 0 rfl) ?_
        refine dw_getf (fi := 14) (v := .ref (a 20)) S hw i_Day ds_ob1 (by decide) rfl wd_56 rfl d_Day_timeOf_82 ?_
        refine lv_iload S.1 S.2.1 d_Day_timeOf_85 (lv_at hl 5 rfl) ?_
        refine dw_aald S.1 S.2.1 hw ds_k20 (by omega) d_Day_timeOf_87 ?_
        refine lv_iconst (v := nI 0) S.1 S.2.1 d_Day_timeOf_88 (by decide) ?_
        refine dw_iald S.1 S.2.1 hw (ds_k28 (by omega)) (by omega) d_Day_timeOf_89 ?_
        refine dn_iadd S.1 S.2.1 d_Day_timeOf_90 ?_
        exact hret H locs _ ls _ _ hw (⟨by rw [e30, ds_fo_e, ← eL, ey, ew, show i = L.length by omega, List.take_length], h, eh⟩) d_Day_timeOf_91
      · obtain ⟨x, ex⟩ : ∃ z, z = L.getD i 0 := ⟨_, rfl⟩
        have q21 : f_1 21 i = x := by rw [eh, dw_su_eq, ex]; have q := hs i h_24; rwa [Nat.zero_add] at q
        have hx : x < f 1 1 := by rw [ex]; exact hLm _ (ds_getD_mem h_24)
        have s1 := hst x hx
        have e8 : f_1 8 (f_1 21 i) = f 8 x := by rw [q21, eh, dw_su_ne (by decide)]
        have e9 : f_1 9 (f_1 21 i) = f 9 x := by rw [q21, eh, dw_su_ne (by decide)]
        have e28 : f_1 (28 + w) (f_1 8 (f_1 21 i)) = f (28 + w) (f 8 x) := by rw [e8, eh, dw_su_ne (by omega)]
        refine lv_aload_n S.1 S.2.1 d_Day_timeOf_27 rfl (lv_at hl 0 rfl) ?_
        refine dw_getf (fi := 2) (v := .ref (a 8)) S hw i_Day ds_ob1 (by decide) rfl wd_38 rfl d_Day_timeOf_28 ?_
        refine lv_aload_n S.1 S.2.1 d_Day_timeOf_31 rfl (lv_at hl 0 rfl) ?_
        refine dw_getf (fi := 15) (v := .ref (a 21)) S hw i_Day ds_ob1 (by decide) rfl wd_58 rfl d_Day_timeOf_32 ?_
        refine lv_iload S.1 S.2.1 d_Day_timeOf_35 (lv_at hl 6 rfl) ?_
        refine dw_iald S.1 S.2.1 hw ds_k21 (by omega) d_Day_timeOf_37 ?_
        refine dw_iald S.1 S.2.1 hw ds_k8 (by omega) d_Day_timeOf_38 ?_
        refine lv_istore (lv' := [(7, .int (nI (f_1 8 (f_1 21 i)))), (0, .ref (a 1)), (1, .int (nI v)), (2, .int (nI t)), (3, .int (nI (L.length))), (4, .int (nI y)), (5, .int (nI w)), (6, .int (nI i))]) S.1 S.2.1 d_Day_timeOf_39 hl (by decide) rfl (fun ls hl => ?_)
        refine lv_iload S.1 S.2.1 d_Day_timeOf_41 (lv_at hl 5 rfl) ?_
        refine lv_aload_n S.1 S.2.1 d_Day_timeOf_43 rfl (lv_at hl 1 rfl) ?_
        refine dw_getf (fi := 14) (v := .ref (a 20)) S hw i_Day ds_ob1 (by decide) rfl wd_56 rfl d_Day_timeOf_44 ?_
        refine lv_iload S.1 S.2.1 d_Day_timeOf_47 (lv_at hl 6 rfl) ?_
        refine dw_aald S.1 S.2.1 hw ds_k20 (by omega) d_Day_timeOf_49 ?_
        refine lv_iload S.1 S.2.1 d_Day_timeOf_50 (lv_at hl 0 rfl) ?_
        refine dw_iald S.1 S.2.1 hw (ds_k28 (by omega)) (by omega) d_Day_timeOf_52 ?_
        refine lv_aload_n S.1 S.2.1 d_Day_timeOf_53 rfl (lv_at hl 1 rfl) ?_
        refine dw_getf (fi := 3) (v := .ref (a 9)) S hw i_Day ds_ob1 (by decide) rfl wd_39 rfl d_Day_timeOf_54 ?_
        refine lv_aload_n S.1 S.2.1 d_Day_timeOf_57 rfl (lv_at hl 1 rfl) ?_
        refine dw_getf (fi := 15) (v := .ref (a 21)) S hw i_Day ds_ob1 (by decide) rfl wd_58 rfl d_Day_timeOf_58 ?_
        refine lv_iload S.1 S.2.1 d_Day_timeOf_61 (lv_at hl 7 rfl) ?_
        refine dw_iald S.1 S.2.1 hw ds_k21 (by omega) d_Day_timeOf_63 ?_
        refine dw_iald S.1 S.2.1 hw ds_k9 (by omega) d_Day_timeOf_64 ?_
        refine dn_iadd S.1 S.2.1 d_Day_timeOf_65 ?_
        refine dn_iadd S.1 S.2.1 d_Day_timeOf_66 ?_
        refine lv_istore (lv' := [(4, .int (nI (y + ((f_1 (28 + w) (f_1 8 (f_1 21 i))) + (f_1 9 (f_1 21 i)))))), (7, .int (nI (f_1 8 (f_1 21 i)))), (0, .ref (a 1)), (1, .int (nI v)), (2, .int (nI t)), (3, .int (nI (L.length))), (5, .int (nI w)), (6, .int (nI i))]) S.1 S.2.1 d_Day_timeOf_67 hl (by decide) rfl (fun ls hl => ?_)
        refine lv_iload S.1 S.2.1 d_Day_timeOf_69 (lv_at hl 1 rfl) ?_
        refine lv_istore (lv' := [(5, .int (nI (f_1 8 (f_1 21 i)))), (4, .int (nI (y + ((f_1 (28 + w) (f_1 8 (f_1 21 i))) + (f_1 9 (f_1 21 i)))))), (7, .int (nI (f_1 8 (f_1 21 i)))), (0, .ref (a 1)), (1, .int (nI v)), (2, .int (nI t)), (3, .int (nI (L.length))), (6, .int (nI i))]) S.1 S.2.1 d_Day_timeOf_71 hl (by decide) rfl (fun ls hl => ?_)
        refine lv_iinc (v := nI (i + 1)) (lv' := [(6, .int (nI (i + 1))), (5, .int (nI (f_1 8 (f_1 21 i)))), (4, .int (nI (y + ((f_1 (28 + w) (f_1 8 (f_1 21 i))) + (f_1 9 (f_1 21 i)))))), (7, .int (nI (f_1 8 (f_1 21 i)))), (0, .ref (a 1)), (1, .int (nI v)), (2, .int (nI t)), (3, .int (nI (L.length)))]) S.1 S.2.1 d_Day_timeOf_73 hl (k := 7) rfl (by rw [show Int32.ofInt 1 = nI 1 from rfl, nI_add]) (by decide) rfl (fun ls hl => ?_)
        refine lv_goto (tgt := 21) S.1 S.2.1 d_Day_timeOf_76 (by decide) ?_
        exact ih_21 (y + ((f_1 (28 + w) (f_1 8 (f_1 21 i))) + (f_1 9 (f_1 21 i)))) (f_1 8 (f_1 21 i)) (i + 1) (by omega) (by rw [(ds_fo_s h_24).1, ← ey, ← ew, ← ex, e28, e9]) (by rw [(ds_fo_s h_24).2, ← ex, e8]) (by omega) H locs hw ls (lv_sub hl [4, 5, 6, 7, 2, 1, 0] rfl)
  exact loop_21 _ 0 0 0 (Nat.zero_le _) (rfl) (rfl) (Nat.lt_succ_self _) H locs hw ls (lv_sub hl [4, 5, 6, 3, 2, 1, 0] rfl)
set_option maxHeartbeats 4000000 in
set_option maxRecDepth 100000 in
theorem c_placeInRound (l : Launch) (D : va_G) (g : Nat → ClassId) (a : Nat → Nat) (f : Nat → Nat → Nat) (x : Nat) (v : Nat) (t : Nat) (ok : ds_ok f) (hv : v < f 1 0) (ht : t < 2 ^ 31) (hx : x < 2 ^ 31) : ds_I l D g a y_Day_placeInRound b_Day_placeInRound 6 .int 2 47 [.ref (a 1), .int (nI x), .int (nI v), .int (nI t)] f (fun r u => r = ds_pos x (ds_rd f (fun x => t.testBit x) v) 0 ∧ ∃ h : Nat → Nat, u = dw_su f 21 h) := by
  refine dw_ofI (by decide) (fun _ _ _ => rfl) (Nat.le_of_ble_eq_true rfl) ?_
  intro p e s m args below meth c ls A Q R H locs hR hA S hN hw hl hret
  have hl : lv_has ls 6 [(0, .ref (a 1)), (1, .int (nI x)), (2, .int (nI v)), (3, .int (nI t))] := hl
  have S : CallFix p m c b_Day_placeInRound 6 s args ds_T R_Day := S
  obtain ⟨hV, hn, hex, hst, hve, hwy, hw0, hrw⟩ := id ok
  refine lv_aload_n S.1 S.2.1 d_Day_placeInRound_0 rfl (lv_at hl 0 rfl) ?_
  refine lv_iload_n S.1 S.2.1 d_Day_placeInRound_1 rfl (lv_at hl 2 rfl) ?_
  refine lv_iload_n S.1 S.2.1 d_Day_placeInRound_2 rfl (lv_at hl 3 rfl) ?_
  refine lv_aload_n S.1 S.2.1 d_Day_placeInRound_3 rfl (lv_at hl 0 rfl) ?_
  refine dw_getf (fi := 15) (v := .ref (a 21)) S hw i_Day ds_ob1 (by decide) rfl wd_58 rfl d_Day_placeInRound_4 ?_
  refine lv_iconst (v := nI 0) S.1 S.2.1 d_Day_placeInRound_7 (by decide) ?_
  refine dw_afti hw hA (dw_runV (As := [.int (nI v), .int (nI t), .ref (a 21), .int (nI 0)]) (rest := []) (ko := 1) hw S ds_good (c_addRound l D g a f v t 21 0 (ok) (hv) (ht) (ds_k21) (Or.inl rfl) (by have := dr_rd_len hrw (fun x => Nat.testBit t x) hv; omega) H.size) cw_Day_addRound wd_238 wd_240 ws_Day_addRound ds_ob1 dw_blind (dw_pre hw hN) rfl hl.1 rfl ⟨Nat.le_trans (Nat.le_of_ble_eq_true rfl) hR.1, Nat.le_trans (Nat.le_of_ble_eq_true rfl) hR.2⟩ (Nat.le_of_ble_eq_true rfl) ⟨Nat.zero_le _, Nat.zero_le _⟩ d_Day_placeInRound_8) (fun r_8 f_1 H locs hp hw => ?_)
  obtain ⟨er, h, eh, hk, hs⟩ := hp
  subst er
  obtain ⟨L, eL⟩ : ∃ z, z = ds_rd f (fun x => t.testBit x) v := ⟨_, rfl⟩
  rw [← eL] at hs
  rw [← eL]
  have hLn : L.length ≤ f 1 1 := by rw [eL]; exact dr_rd_len hrw _ hv
  have hLm : ∀ x ∈ L, x < f 1 1 := fun x hx => (dr_rd_in hrw _ hv (by rw [eL] at hx; exact hx)).1
  refine ds_topi (w := nI L.length) (by rw [Nat.zero_add]) ?_
  refine lv_istore (lv' := [(4, .int (nI (L.length))), (0, .ref (a 1)), (1, .int (nI x)), (2, .int (nI v)), (3, .int (nI t))]) S.1 S.2.1 d_Day_placeInRound_11 hl (by decide) rfl (fun ls hl => ?_)
  refine lv_iconst (v := nI 0) S.1 S.2.1 d_Day_placeInRound_13 (by decide) ?_
  refine lv_istore (lv' := [(5, .int (nI 0)), (4, .int (nI (L.length))), (0, .ref (a 1)), (1, .int (nI x)), (2, .int (nI v)), (3, .int (nI t))]) S.1 S.2.1 d_Day_placeInRound_14 hl (by decide) rfl (fun ls hl => ?_)
  have loop_16 : ∀ (n : Nat) (i : Nat) (hi : i ≤ L.length) (hE : ds_pos x L 0 = ds_pos x (L.drop i) i) (_ : L.length - i < n) (H : Heap) (locs : List Loc), dw_W D classes (ds_tys g) A s.heap (dw_l 77 (ds_ce g a) a f_1) s H locs → ∀ (ls : Array Slot), lv_has ls 6 [(0, .ref (a 1)), (1, .int (nI x)), (2, .int (nI v)), (3, .int (nI t)), (4, .int (nI (L.length))), (5, .int (nI i))] → W p l e R s m args below meth c H locs 0 0 Q (F0 m 16 ls []) := by
    intro n
    induction n with
    | zero => intro i hi hE h9; exact absurd h9 (Nat.not_lt_zero _)
    | succ n ih_16 =>
      intro i hi hE hm_16 H locs hw ls hl
      refine lv_iload S.1 S.2.1 d_Day_placeInRound_16 (lv_at hl 5 rfl) ?_
      refine lv_iload S.1 S.2.1 d_Day_placeInRound_18 (lv_at hl 4 rfl) ?_
      refine dn_icmp_ge S.1 S.2.1 43 (by omega) (by omega) d_Day_placeInRound_20 (by decide) (fun h_20 => ?_) (fun h_20 => ?_)
      · refine lv_iconst (v := (-1)) S.1 S.2.1 d_Day_placeInRound_43 (by decide) ?_
        exact hret H locs _ ls _ _ hw (⟨by rw [← eL, hE, show i = L.length by omega, List.drop_length]; rfl, h, eh⟩) d_Day_placeInRound_44
      · have q21 : f_1 21 i = L.getD i 0 := by rw [eh, dw_su_eq]; have q := hs i h_20; rwa [Nat.zero_add] at q
        have hy := hLm _ (ds_getD_mem h_20)
        refine lv_aload_n S.1 S.2.1 d_Day_placeInRound_23 rfl (lv_at hl 0 rfl) ?_
        refine dw_getf (fi := 15) (v := .ref (a 21)) S hw i_Day ds_ob1 (by decide) rfl wd_58 rfl d_Day_placeInRound_24 ?_
        refine lv_iload S.1 S.2.1 d_Day_placeInRound_27 (lv_at hl 5 rfl) ?_
        refine dw_iald S.1 S.2.1 hw ds_k21 (by omega) d_Day_placeInRound_29 ?_
        refine lv_iload_n S.1 S.2.1 d_Day_placeInRound_30 rfl (lv_at hl 1 rfl) ?_
        refine dn_icmp_ne S.1 S.2.1 37 (by omega) (by omega) d_Day_placeInRound_31 (by decide) (fun h_31 => ?_) (fun h_31 => ?_)
        · refine lv_iinc (v := nI (i + 1)) (lv' := [(5, .int (nI (i + 1))), (0, .ref (a 1)), (1, .int (nI x)), (2, .int (nI v)), (3, .int (nI t)), (4, .int (nI (L.length)))]) S.1 S.2.1 d_Day_placeInRound_37 hl (k := 5) rfl (by rw [show Int32.ofInt 1 = nI 1 from rfl, nI_add]) (by decide) rfl (fun ls hl => ?_)
          refine lv_goto (tgt := 16) S.1 S.2.1 d_Day_placeInRound_40 (by decide) ?_
          exact ih_16 (i + 1) (by omega) (by rw [hE, ds_pos_s h_20, if_neg (by rw [← q21]; exact h_31)]) (by omega) H locs hw ls (lv_sub hl [1, 2, 3, 4, 5, 0] rfl)
        · refine lv_iload S.1 S.2.1 d_Day_placeInRound_34 (lv_at hl 5 rfl) ?_
          exact hret H locs _ ls _ _ hw (⟨by rw [← eL, hE, ds_pos_s h_20, if_pos (by rw [← q21]; exact h_31)], h, eh⟩) d_Day_placeInRound_36
  exact loop_16 _ 0 (Nat.zero_le _) (rfl) (Nat.lt_succ_self _) H locs hw ls (lv_sub hl [2, 3, 4, 5, 1, 0] rfl)
set_option maxHeartbeats 4000000 in
set_option maxRecDepth 100000 in
theorem c_vehicleIn (l : Launch) (D : va_G) (g : Nat → ClassId) (a : Nat → Nat) (f : Nat → Nat → Nat) (w : Nat) (i : Nat) (hw3 : w < 2 ^ 63) (hi : i < 8) : ds_I l D g a y_Se_vehicleIn b_Se_vehicleIn 3 .int 1 20 [.long (lN w), .int (nI i)] f (fun r u => r = nI (w / 2 ^ (2 * (7 - i)) &&& 3) ∧ u = f) := by
  refine dw_ofI (by decide) (fun _ _ _ => rfl) (Nat.le_of_ble_eq_true rfl) ?_
  intro p e s m args below meth c ls A Q R H locs hR hA S hN hw hl hret
  have hl : lv_has ls 3 [(0, .long (lN w)), (2, .int (nI i))] := hl
  have S : CallFix p m c b_Se_vehicleIn 3 s args ds_T R_Se := S
  refine lv_lload_n S.1 S.2.1 d_Se_vehicleIn_0 rfl (lv_at hl 0 rfl) ?_
  refine lv_iload_n S.1 S.2.1 d_Se_vehicleIn_1 rfl (lv_at hl 1 rfl) ?_
  refine dw_afti hw hA (dw_runS (As := [.int (nI i)]) (rest := [.long (lN w)]) S ds_good (c_digitShift l D g a f i (by omega) H.size) cw_Se_digitShift wd_230 wd_231 dw_blind (dw_pre hw hN) rfl hl.1 rfl ⟨Nat.le_trans (Nat.le_of_ble_eq_true rfl) hR.1, Nat.le_trans (Nat.le_of_ble_eq_true rfl) hR.2⟩ (Nat.le_of_ble_eq_true rfl) ⟨Nat.zero_le _, Nat.zero_le _⟩ d_Se_vehicleIn_2) (fun r_2 f_1 H locs hp hw => ?_)
  obtain ⟨er, ef⟩ := hp
  subst er
  rw [ef] at hw
  refine dn_lshrR S.1 S.2.1 (by omega) hw3 d_Se_vehicleIn_5 ?_
  refine dn_l2i S.1 S.2.1 d_Se_vehicleIn_6 ?_
  refine lv_iconst (v := nI 3) S.1 S.2.1 d_Se_vehicleIn_7 (by decide) ?_
  refine dn_iand S.1 S.2.1 d_Se_vehicleIn_8 ?_
  exact hret H locs _ ls _ _ hw (⟨rfl, rfl⟩) d_Se_vehicleIn_9
