/-! contracts of the public methods -/
set_option maxHeartbeats 4000000 in
set_option maxRecDepth 100000 in
theorem c_send (l : Launch) (D : va_G) (g : Nat → ClassId) (a : Nat → Nat) (f : Nat → Nat → Nat)  (ok : ds_ok f) : ds_I l D g a y_DS_send b_DS_send 3 .int 0 0 [.ref (a 0)] f (fun r u => r = nI (ds_cnt (fun x => f 5 x != f 6 x) (f 1 1)) ∧ (∀ x, u 6 x = (if x < f 1 1 then f 5 x else f 6 x) ∧ u 7 x = (if x < f 1 1 ∧ f 5 x ≠ f 6 x then f 7 x + 1 else f 7 x)) ∧ ∀ k, k ≠ 6 → k ≠ 7 → u k = f k) := by
  refine dw_ofI (by decide) (fun _ _ _ => rfl) (Nat.le_of_ble_eq_true rfl) ?_
  intro p e s m args below meth c ls A Q R H locs hR hA S hN hw hl hret
  have hl : lv_has ls 3 [(0, .ref (a 0))] := hl
  have S : CallFix p m c b_DS_send 3 s args ds_T R_DS := S
  obtain ⟨hV, hn, hex, hst, hve, hwy, hw0, hrw⟩ := id ok
  refine lv_iconst (v := nI 0) S.1 S.2.1 d_DS_send_0 (by decide) ?_
  refine lv_istore_n (lv' := [(1, .int (nI 0)), (0, .ref (a 0))]) S.1 S.2.1 d_DS_send_1 rfl hl (by decide) rfl (fun ls hl => ?_)
  refine lv_iconst (v := nI 0) S.1 S.2.1 d_DS_send_2 (by decide) ?_
  refine lv_istore_n (lv' := [(2, .int (nI 0)), (1, .int (nI 0)), (0, .ref (a 0))]) S.1 S.2.1 d_DS_send_3 rfl hl (by decide) rfl (fun ls hl => ?_)
  have loop_4 : ∀ (n : Nat) (z : Nat) (i : Nat) (f2 : Nat → Nat → Nat) (hi : i ≤ f 1 1) (ez : z = ds_cnt (fun x => f 5 x != f 6 x) i) (hU : ∀ x, f2 6 x = (if x < i then f 5 x else f 6 x) ∧ f2 7 x = (if x < i ∧ f 5 x ≠ f 6 x then f 7 x + 1 else f 7 x)) (hg : ∀ k, k ≠ 6 → k ≠ 7 → f2 k = f k) (_ : f 1 1 - i < n) (H : Heap) (locs : List Loc), dw_W D classes (ds_tys g) A s.heap (dw_l 77 (ds_ce g a) a f2) s H locs → ∀ (ls : Array Slot), lv_has ls 3 [(0, .ref (a 0)), (1, .int (nI z)), (2, .int (nI i))] → W p l e R s m args below meth c H locs 0 0 Q (F0 m 4 ls []) := by
    intro n
    induction n with
    | zero => intro z i f2 hi ez hU hg h9; exact absurd h9 (Nat.not_lt_zero _)
    | succ n ih_4 =>
      intro z i f2 hi ez hU hg hm_4 H locs hw ls hl
      have q11 : f2 1 1 = f 1 1 := by rw [hg 1 (by decide) (by decide)]
      have q5 : f2 5 i = f 5 i := by rw [hg 5 (by decide) (by decide)]
      have q6 : f2 6 i = f 6 i := by rw [(hU i).1, if_neg (by omega)]
      refine lv_iload_n S.1 S.2.1 d_DS_send_4 rfl (lv_at hl 2 rfl) ?_
      refine lv_aload_n S.1 S.2.1 d_DS_send_5 rfl (lv_at hl 0 rfl) ?_
      refine dw_getf (fi := 0) (v := .ref (a 1)) S hw i_DS ds_ob0 (by decide) rfl wd_135 rfl d_DS_send_6 ?_
      refine dw_getN (fi := 1) (v := .int (nI (f2 1 1))) S hw i_Day ds_ob1 (by decide) rfl hN wd_35 rfl d_DS_send_9 ?_
      refine dn_icmp_ge S.1 S.2.1 61 (by omega) (by omega) d_DS_send_12 (by decide) (fun h_12 => ?_) (fun h_12 => ?_)
      · refine lv_iload_n S.1 S.2.1 d_DS_send_61 rfl (lv_at hl 1 rfl) ?_
        exact hret H locs _ ls _ _ hw (⟨by rw [ez, show i = f 1 1 by omega], by rw [show f 1 1 = i by omega]; exact hU, hg⟩) d_DS_send_62
      · have s1 := hst i (by omega)
        refine lv_aload_n S.1 S.2.1 d_DS_send_15 rfl (lv_at hl 0 rfl) ?_
        refine dw_getf (fi := 4) (v := .ref (a 5)) S hw i_DS ds_ob0 (by decide) rfl wd_139 rfl d_DS_send_16 ?_
        refine lv_iload_n S.1 S.2.1 d_DS_send_19 rfl (lv_at hl 2 rfl) ?_
        refine dw_iald S.1 S.2.1 hw ds_k5 (by omega) d_DS_send_20 ?_
        refine lv_aload_n S.1 S.2.1 d_DS_send_21 rfl (lv_at hl 0 rfl) ?_
        refine dw_getf (fi := 5) (v := .ref (a 6)) S hw i_DS ds_ob0 (by decide) rfl wd_140 rfl d_DS_send_22 ?_
        refine lv_iload_n S.1 S.2.1 d_DS_send_25 rfl (lv_at hl 2 rfl) ?_
        refine dw_iald S.1 S.2.1 hw ds_k6 (by omega) d_DS_send_26 ?_
        refine dn_icmp_eq S.1 S.2.1 55 (by omega) (by omega) d_DS_send_27 (by decide) (fun h_27 => ?_) (fun h_27 => ?_)
        · have heq : f 5 i = f 6 i := by omega
          refine lv_iinc (v := nI (i + 1)) (lv' := [(2, .int (nI (i + 1))), (0, .ref (a 0)), (1, .int (nI z))]) S.1 S.2.1 d_DS_send_55 hl (k := 2) rfl (by rw [show Int32.ofInt 1 = nI 1 from rfl, nI_add]) (by decide) rfl (fun ls hl => ?_)
          refine lv_goto (tgt := 4) S.1 S.2.1 d_DS_send_58 (by decide) ?_
          exact ih_4 z (i + 1) f2 (by omega) (by rw [ez]; simp [ds_cnt, heq]) (fun x => by
    have q := hU x
    by_cases ex : x = i
    · subst ex
      simp [heq] at q ⊢
      exact q
    · have e1 : (x < i + 1) = (x < i) := propext (by omega)
      simp only [e1]
      exact q) (hg) (by omega) H locs hw ls (lv_sub hl [1, 2, 0] rfl)
        · have hne : ¬ f 5 i = f 6 i := by omega
          refine lv_aload_n S.1 S.2.1 d_DS_send_30 rfl (lv_at hl 0 rfl) ?_
          refine dw_getf (fi := 5) (v := .ref (a 6)) S hw i_DS ds_ob0 (by decide) rfl wd_140 rfl d_DS_send_31 ?_
          refine lv_iload_n S.1 S.2.1 d_DS_send_34 rfl (lv_at hl 2 rfl) ?_
          refine lv_aload_n S.1 S.2.1 d_DS_send_35 rfl (lv_at hl 0 rfl) ?_
          refine dw_getf (fi := 4) (v := .ref (a 5)) S hw i_DS ds_ob0 (by decide) rfl wd_139 rfl d_DS_send_36 ?_
          refine lv_iload_n S.1 S.2.1 d_DS_send_39 rfl (lv_at hl 2 rfl) ?_
          refine dw_iald S.1 S.2.1 hw ds_k5 (by omega) d_DS_send_40 ?_
          refine dw_iast S.1 S.2.1 hw ds_k6 (by omega) d_DS_send_41 (fun f_1 H locs ef_1 hw => ?_)
          have eA := ef_1
          refine lv_aload_n S.1 S.2.1 d_DS_send_42 rfl (lv_at hl 0 rfl) ?_
          refine dw_getf (fi := 6) (v := .ref (a 7)) S hw i_DS ds_ob0 (by decide) rfl wd_141 rfl d_DS_send_43 ?_
          refine lv_iload_n S.1 S.2.1 d_DS_send_46 rfl (lv_at hl 2 rfl) ?_
          refine lv_dup2_11 S.1 S.2.1 d_DS_send_47 rfl rfl ?_
          refine dw_iald S.1 S.2.1 hw ds_k7 (by omega) d_DS_send_48 ?_
          refine lv_iconst (v := nI 1) S.1 S.2.1 d_DS_send_49 (by decide) ?_
          refine dn_iadd S.1 S.2.1 d_DS_send_50 ?_
          refine dw_iast S.1 S.2.1 hw ds_k7 (by omega) d_DS_send_51 (fun f_2 H locs ef_2 hw => ?_)
          have eB := ef_2
          refine lv_iinc (v := nI (z + 1)) (lv' := [(1, .int (nI (z + 1))), (0, .ref (a 0)), (2, .int (nI i))]) S.1 S.2.1 d_DS_send_52 hl (k := 1) rfl (by rw [show Int32.ofInt 1 = nI 1 from rfl, nI_add]) (by decide) rfl (fun ls hl => ?_)
          refine lv_iinc (v := nI (i + 1)) (lv' := [(2, .int (nI (i + 1))), (1, .int (nI (z + 1))), (0, .ref (a 0))]) S.1 S.2.1 d_DS_send_55 hl (k := 2) rfl (by rw [show Int32.ofInt 1 = nI 1 from rfl, nI_add]) (by decide) rfl (fun ls hl => ?_)
          refine lv_goto (tgt := 4) S.1 S.2.1 d_DS_send_58 (by decide) ?_
          exact ih_4 (z + 1) (i + 1) f_2 (by omega) (by rw [ez]; simp [ds_cnt, hne]) (fun x => by
    have q := hU x
    have q2 := hU i
    rw [eB, eA]
    by_cases ex : x = i
    · subst ex
      rw [dw_w_ne (by decide), dw_w_eq, dw_up_eq, dw_w_eq, dw_up_eq, dw_w_ne (by decide), q5]
      simp [hne] at q2 ⊢
      exact q2.2
    · rw [dw_w_ne (by decide), dw_w_eq, dw_up_ne ex, dw_w_eq, dw_up_ne ex, dw_w_ne (by decide)]
      have e1 : (x < i + 1) = (x < i) := propext (by omega)
      simp only [e1]
      exact q) (fun k k1 k2 => by rw [eB, eA, dw_w_ne k2, dw_w_ne k1]; exact hg k k1 k2) (by omega) H locs hw ls (lv_sub hl [2, 1, 0] rfl)
  exact loop_4 _ 0 0 f (Nat.zero_le _) (rfl) (fun x => by simp) (fun _ _ _ => rfl) (Nat.lt_succ_self _) H locs hw ls (lv_sub hl [2, 1, 0] rfl)
set_option maxHeartbeats 4000000 in
set_option maxRecDepth 100000 in
theorem c_undo (l : Launch) (D : va_G) (g : Nat → ClassId) (a : Nat → Nat) (f : Nat → Nat → Nat)  (ok : ds_ok f) (hk : f 3 2 ≤ 6) (hks : ∀ k, k < f 3 2 → f 45 k ≤ 8) : ds_I l D g a y_DS_undo b_DS_undo 4 .boolean 0 0 [.ref (a 0)] f (fun r u => if f 3 2 = 0 then r = nI 0 ∧ u = f else r = nI 1 ∧ u 3 2 = f 3 2 - 1 ∧ (∀ x, x < f 1 1 → u 5 x = if x < f 45 (f 3 2 - 1) then f (39 + (f 3 2 - 1)) x else f 10 x) ∧ ∀ k, k ≠ 3 → k ≠ 5 → u k = f k) := by
  refine dw_ofI (by decide) (fun v u h => by split at h <;> (rw [h.1]; rfl)) (Nat.le_of_ble_eq_true rfl) ?_
  intro p e s m args below meth c ls A Q R H locs hR hA S hN hw hl hret
  have hl : lv_has ls 4 [(0, .ref (a 0))] := hl
  have S : CallFix p m c b_DS_undo 4 s args ds_T R_DS := S
  obtain ⟨hV, hn, hex, hst, hve, hwy, hw0, hrw⟩ := id ok
  refine lv_aload_n S.1 S.2.1 d_DS_undo_0 rfl (lv_at hl 0 rfl) ?_
  refine dw_getf (fi := 2) (v := .ref (a 3)) S hw i_DS ds_ob0 (by decide) rfl wd_137 rfl d_DS_undo_1 ?_
  refine dw_getN (fi := 2) (v := .int (nI (f 3 2))) S hw i_Sh ds_ob3 (by decide) rfl hN wd_127 rfl d_DS_undo_4 ?_
  refine dn_if_ne S.1 S.2.1 12 (by omega) d_DS_undo_7 (by decide) (fun h_7 => ?_) (fun h_7 => ?_)
  · refine lv_aload_n S.1 S.2.1 d_DS_undo_12 rfl (lv_at hl 0 rfl) ?_
    refine dw_getf (fi := 2) (v := .ref (a 3)) S hw i_DS ds_ob0 (by decide) rfl wd_137 rfl d_DS_undo_13 ?_
    refine dw_getN (fi := 2) (v := .int (nI (f 3 2))) S hw i_Sh ds_ob3 (by decide) rfl hN wd_127 rfl d_DS_undo_16 ?_
    refine lv_iconst (v := nI 1) S.1 S.2.1 d_DS_undo_19 (by decide) ?_
    refine dn_isub S.1 S.2.1 (by omega) d_DS_undo_20 ?_
    refine lv_istore_n (lv' := [(1, .int (nI ((f 3 2) - 1))), (0, .ref (a 0))]) S.1 S.2.1 d_DS_undo_21 rfl hl (by decide) rfl (fun ls hl => ?_)
    refine lv_iconst (v := nI 0) S.1 S.2.1 d_DS_undo_22 (by decide) ?_
    refine lv_istore_n (lv' := [(2, .int (nI 0)), (1, .int (nI ((f 3 2) - 1))), (0, .ref (a 0))]) S.1 S.2.1 d_DS_undo_23 rfl hl (by decide) rfl (fun ls hl => ?_)
    have loop_24 : ∀ (n : Nat) (i : Nat) (f2 : Nat → Nat → Nat) (b : Nat) (hi : i ≤ f 1 1) (eb : b = f 3 2 - 1) (hU : ∀ x, x < i → f2 5 x = if x < f 45 (f 3 2 - 1) then f (39 + (f 3 2 - 1)) x else f 10 x) (hg : ∀ k, k ≠ 5 → f2 k = f k) (_ : f 1 1 - i < n) (H : Heap) (locs : List Loc), dw_W D classes (ds_tys g) A s.heap (dw_l 77 (ds_ce g a) a f2) s H locs → ∀ (ls : Array Slot), lv_has ls 4 [(0, .ref (a 0)), (1, .int (nI b)), (2, .int (nI i))] → W p l e R s m args below meth c H locs 0 0 Q (F0 m 24 ls []) := by
      intro n
      induction n with
      | zero => intro i f2 b hi eb hU hg h9; exact absurd h9 (Nat.not_lt_zero _)
      | succ n ih_24 =>
        intro i f2 b hi eb hU hg hm_24 H locs hw ls hl
        have q11 : f2 1 1 = f 1 1 := by rw [hg 1 (by decide)]
        have q45 : f2 45 b = f 45 b := by rw [hg 45 (by decide)]
        have kb := hks b (by omega)
        refine lv_iload_n S.1 S.2.1 d_DS_undo_24 rfl (lv_at hl 2 rfl) ?_
        refine lv_aload_n S.1 S.2.1 d_DS_undo_25 rfl (lv_at hl 0 rfl) ?_
        refine dw_getf (fi := 0) (v := .ref (a 1)) S hw i_DS ds_ob0 (by decide) rfl wd_135 rfl d_DS_undo_26 ?_
        refine dw_getN (fi := 1) (v := .int (nI (f2 1 1))) S hw i_Day ds_ob1 (by decide) rfl hN wd_35 rfl d_DS_undo_29 ?_
        refine dn_icmp_ge S.1 S.2.1 93 (by omega) (by omega) d_DS_undo_32 (by decide) (fun h_32 => ?_) (fun h_32 => ?_)
        · refine lv_aload_n S.1 S.2.1 d_DS_undo_93 rfl (lv_at hl 0 rfl) ?_
          refine dw_getf (fi := 2) (v := .ref (a 3)) S hw i_DS ds_ob0 (by decide) rfl wd_137 rfl d_DS_undo_94 ?_
          refine lv_iload_n S.1 S.2.1 d_DS_undo_97 rfl (lv_at hl 1 rfl) ?_
          refine dw_putN (fi := 2) S hw i_Sh t_Sh t_Sh_ok n_Sh ds_ob3 (by decide) rfl hN wd_127 rfl (by decide +kernel) (Nat.le_of_ble_eq_true rfl) rfl d_DS_undo_98 (fun f_1 H locs ef_1 hw => ?_)
          refine lv_iconst (v := nI 1) S.1 S.2.1 d_DS_undo_101 (by decide) ?_
          exact hret H locs _ ls _ _ hw (by
    rw [if_neg h_7]
    refine ⟨rfl, by rw [ef_1, dw_w_eq, dw_up_eq, eb], fun x hx => by rw [ef_1, dw_w_ne (by decide)]; exact hU x (by omega), fun k k1 k2 => by rw [ef_1, dw_w_ne k1]; exact hg k k2⟩) d_DS_undo_102
        · refine lv_iload_n S.1 S.2.1 d_DS_undo_35 rfl (lv_at hl 2 rfl) ?_
          refine lv_aload_n S.1 S.2.1 d_DS_undo_36 rfl (lv_at hl 0 rfl) ?_
          refine dw_getf (fi := 2) (v := .ref (a 3)) S hw i_DS ds_ob0 (by decide) rfl wd_137 rfl d_DS_undo_37 ?_
          refine dw_getN (fi := 1) (v := .ref (a 45)) S hw i_Sh ds_ob3 (by decide) rfl hN wd_125 rfl d_DS_undo_40 ?_
          refine lv_iload_n S.1 S.2.1 d_DS_undo_43 rfl (lv_at hl 1 rfl) ?_
          refine dw_iald S.1 S.2.1 hw ds_k45 (by omega) d_DS_undo_44 ?_
          refine dn_icmp_ge S.1 S.2.1 52 (by omega) (by omega) d_DS_undo_45 (by decide) (fun h_45 => ?_) (fun h_45 => ?_)
          · refine lv_iconst (v := nI 0) S.1 S.2.1 d_DS_undo_52 (by decide) ?_
            refine lv_istore_n (lv' := [(3, .int (nI 0)), (0, .ref (a 0)), (1, .int (nI b)), (2, .int (nI i))]) S.1 S.2.1 d_DS_undo_53 rfl hl (by decide) rfl (fun ls hl => ?_)
            refine lv_aload_n S.1 S.2.1 d_DS_undo_54 rfl (lv_at hl 1 rfl) ?_
            refine dw_getf (fi := 4) (v := .ref (a 5)) S hw i_DS ds_ob0 (by decide) rfl wd_139 rfl d_DS_undo_55 ?_
            refine lv_iload_n S.1 S.2.1 d_DS_undo_58 rfl (lv_at hl 3 rfl) ?_
            refine lv_iload_n S.1 S.2.1 d_DS_undo_59 rfl (lv_at hl 0 rfl) ?_
            refine dn_if_eq S.1 S.2.1 77 (by decide) d_DS_undo_60 (by decide) (fun h_60 => ?_) (fun h_60 => absurd h_60 (by decide))
            refine lv_aload_n S.1 S.2.1 d_DS_undo_77 rfl (lv_at hl 1 rfl) ?_
            refine dw_getf (fi := 0) (v := .ref (a 1)) S hw i_DS ds_ob0 (by decide) rfl wd_135 rfl d_DS_undo_78 ?_
            refine dw_getN (fi := 4) (v := .ref (a 10)) S hw i_Day ds_ob1 (by decide) rfl hN wd_42 rfl d_DS_undo_81 ?_
            refine lv_iload_n S.1 S.2.1 d_DS_undo_84 rfl (lv_at hl 3 rfl) ?_
            refine dw_iald S.1 S.2.1 hw ds_k10 (by omega) d_DS_undo_85 ?_
            refine dw_iast S.1 S.2.1 hw ds_k5 (by omega) d_DS_undo_86 (fun f_2 H locs ef_2 hw => ?_)
            refine lv_iinc (v := nI (i + 1)) (lv' := [(2, .int (nI (i + 1))), (3, .int (nI 0)), (0, .ref (a 0)), (1, .int (nI b))]) S.1 S.2.1 d_DS_undo_87 hl (k := 3) rfl (by rw [show Int32.ofInt 1 = nI 1 from rfl, nI_add]) (by decide) rfl (fun ls hl => ?_)
            refine lv_goto (tgt := 24) S.1 S.2.1 d_DS_undo_90 (by decide) ?_
            exact ih_24 (i + 1) f_2 b (by omega) (eb) (fun x hx => by
    rw [ef_2, dw_w_eq]
    by_cases ex : x = i
    · rw [ex, dw_up_eq, ← eb, if_neg (by omega), hg 10 (by decide)]
    · rw [dw_up_ne ex]; exact hU x (by omega)) (fun k k1 => by rw [ef_2, dw_w_ne k1]; exact hg k k1) (by omega) H locs hw ls (lv_sub hl [2, 3, 0] rfl)
          · refine lv_iconst (v := nI 1) S.1 S.2.1 d_DS_undo_48 (by decide) ?_
            refine lv_goto (tgt := 53) S.1 S.2.1 d_DS_undo_49 (by decide) ?_
            refine lv_istore_n (lv' := [(3, .int (nI 1)), (0, .ref (a 0)), (1, .int (nI b)), (2, .int (nI i))]) S.1 S.2.1 d_DS_undo_53 rfl hl (by decide) rfl (fun ls hl => ?_)
            refine lv_aload_n S.1 S.2.1 d_DS_undo_54 rfl (lv_at hl 1 rfl) ?_
            refine dw_getf (fi := 4) (v := .ref (a 5)) S hw i_DS ds_ob0 (by decide) rfl wd_139 rfl d_DS_undo_55 ?_
            refine lv_iload_n S.1 S.2.1 d_DS_undo_58 rfl (lv_at hl 3 rfl) ?_
            refine lv_iload_n S.1 S.2.1 d_DS_undo_59 rfl (lv_at hl 0 rfl) ?_
            refine dn_if_eq S.1 S.2.1 77 (by decide) d_DS_undo_60 (by decide) (fun h_60 => absurd h_60 (by decide)) (fun h_60 => ?_)
            refine lv_aload_n S.1 S.2.1 d_DS_undo_63 rfl (lv_at hl 1 rfl) ?_
            refine dw_getf (fi := 2) (v := .ref (a 3)) S hw i_DS ds_ob0 (by decide) rfl wd_137 rfl d_DS_undo_64 ?_
            refine dw_getN (fi := 0) (v := .ref (a 38)) S hw i_Sh ds_ob3 (by decide) rfl hN wd_123 rfl d_DS_undo_67 ?_
            refine lv_iload_n S.1 S.2.1 d_DS_undo_70 rfl (lv_at hl 2 rfl) ?_
            refine dw_aald S.1 S.2.1 hw ds_k38 (by omega) d_DS_undo_71 ?_
            refine lv_iload_n S.1 S.2.1 d_DS_undo_72 rfl (lv_at hl 3 rfl) ?_
            refine dw_iald S.1 S.2.1 hw (ds_k39 (by omega)) (by omega) d_DS_undo_73 ?_
            refine lv_goto (tgt := 86) S.1 S.2.1 d_DS_undo_74 (by decide) ?_
            refine dw_iast S.1 S.2.1 hw ds_k5 (by omega) d_DS_undo_86 (fun f_3 H locs ef_3 hw => ?_)
            refine lv_iinc (v := nI (i + 1)) (lv' := [(2, .int (nI (i + 1))), (3, .int (nI 1)), (0, .ref (a 0)), (1, .int (nI b))]) S.1 S.2.1 d_DS_undo_87 hl (k := 3) rfl (by rw [show Int32.ofInt 1 = nI 1 from rfl, nI_add]) (by decide) rfl (fun ls hl => ?_)
            refine lv_goto (tgt := 24) S.1 S.2.1 d_DS_undo_90 (by decide) ?_
            exact ih_24 (i + 1) f_3 b (by omega) (eb) (fun x hx => by
    rw [ef_3, dw_w_eq]
    by_cases ex : x = i
    · rw [ex, dw_up_eq, ← eb, if_pos (by omega), hg (39 + b) (by omega)]
    · rw [dw_up_ne ex]; exact hU x (by omega)) (fun k k1 => by rw [ef_3, dw_w_ne k1]; exact hg k k1) (by omega) H locs hw ls (lv_sub hl [2, 3, 0] rfl)
    exact loop_24 _ 0 f ((f 3 2) - 1) (Nat.zero_le _) (rfl) (fun x hx => absurd hx (Nat.not_lt_zero _)) (fun _ _ => rfl) (Nat.lt_succ_self _) H locs hw ls (lv_sub hl [2, 1, 0] rfl)
  · refine lv_iconst (v := nI 0) S.1 S.2.1 d_DS_undo_10 (by decide) ?_
    exact hret H locs _ ls _ _ hw (by rw [if_pos h_7]; exact ⟨rfl, rfl⟩) d_DS_undo_11
set_option maxHeartbeats 4000000 in
set_option maxRecDepth 100000 in
theorem c_copy (l : Launch) (D : va_G) (g : Nat → ClassId) (a : Nat → Nat) (f : Nat → Nat → Nat)  (hk : f 4 2 ≤ 4) : ds_I l D g a y_DS_copy b_DS_copy 1 .int 2 63 [.ref (a 0)] f (fun r u => if f 4 2 < 4 then r = nI (f 4 2) ∧ u 4 2 = f 4 2 + 1 ∧ (∀ j, j < f 4 2 → (∀ t, t < 8 → u (47 + j) t = f (47 + j) t) ∧ u 51 j = f 51 j) ∧ (∀ t, t < 8 → u (47 + f 4 2) t = f 5 t) ∧ u 51 (f 4 2) = f 1 1 ∧ (∀ k, k ≠ 4 → k ≠ 51 → ¬ (47 ≤ k ∧ k < 51) → u k = f k) else r = (-1) ∧ u = f) := by
  refine dw_ofI (by decide) (fun _ _ _ => rfl) (Nat.le_of_ble_eq_true rfl) ?_
  intro p e s m args below meth c ls A Q R H locs hR hA S hN hw hl hret
  have hl : lv_has ls 1 [(0, .ref (a 0))] := hl
  have S : CallFix p m c b_DS_copy 1 s args ds_T R_DS := S
  refine lv_aload_n S.1 S.2.1 d_DS_copy_0 rfl (lv_at hl 0 rfl) ?_
  refine dw_getf (fi := 3) (v := .ref (a 4)) S hw i_DS ds_ob0 (by decide) rfl wd_138 rfl d_DS_copy_1 ?_
  refine dw_getN (fi := 2) (v := .int (nI (f 4 2))) S hw i_Sh ds_ob4 (by decide) rfl hN wd_127 rfl d_DS_copy_4 ?_
  refine lv_iconst (v := nI 4) S.1 S.2.1 d_DS_copy_7 (by decide) ?_
  refine dn_icmp_lt S.1 S.2.1 13 (by omega) (by decide) d_DS_copy_8 (by decide) (fun h_8 => ?_) (fun h_8 => ?_)
  · refine lv_aload_n S.1 S.2.1 d_DS_copy_13 rfl (lv_at hl 0 rfl) ?_
    refine dw_getf (fi := 3) (v := .ref (a 4)) S hw i_DS ds_ob0 (by decide) rfl wd_138 rfl d_DS_copy_14 ?_
    refine lv_aload_n S.1 S.2.1 d_DS_copy_17 rfl (lv_at hl 0 rfl) ?_
    refine dw_getf (fi := 4) (v := .ref (a 5)) S hw i_DS ds_ob0 (by decide) rfl wd_139 rfl d_DS_copy_18 ?_
    refine lv_aload_n S.1 S.2.1 d_DS_copy_21 rfl (lv_at hl 0 rfl) ?_
    refine dw_getf (fi := 0) (v := .ref (a 1)) S hw i_DS ds_ob0 (by decide) rfl wd_135 rfl d_DS_copy_22 ?_
    refine dw_getN (fi := 1) (v := .int (nI (f 1 1))) S hw i_Day ds_ob1 (by decide) rfl hN wd_35 rfl d_DS_copy_25 ?_
    refine dw_aftv hw hA (dw_runVN (As := [.ref (a 5), .int (nI (f 1 1))]) (rest := []) (ko := 4) hw S ds_good (c_putLatest4 l D g a f (f 1 1) (hk) H.size) cw_Sh_putLatest hN wd_263 wd_265 ws_Sh_putLatest ds_ob4 dw_blind (dw_pre hw hN) rfl hl.1 rfl ⟨Nat.le_trans (Nat.le_of_ble_eq_true rfl) hR.1, Nat.le_trans (Nat.le_of_ble_eq_true rfl) hR.2⟩ (Nat.le_of_ble_eq_true rfl) ⟨Nat.zero_le _, Nat.zero_le _⟩ d_DS_copy_28) (fun f_1 H locs hp hw => ?_)
    obtain ⟨kk, dd, hkd, hsz, hsh, hnew, hnst, hoth⟩ := hp
    obtain ⟨e1, e2, e3⟩ : f 4 2 < 4 ∧ kk = f 4 2 ∧ dd = 0 := by rcases hkd with q | q; exact q; omega
    rw [e2, e3] at hsh
    rw [e2] at hsz hnew hnst
    refine lv_aload_n S.1 S.2.1 d_DS_copy_31 rfl (lv_at hl 0 rfl) ?_
    refine dw_getf (fi := 3) (v := .ref (a 4)) S hw i_DS ds_ob0 (by decide) rfl wd_138 rfl d_DS_copy_32 ?_
    refine dw_getN (fi := 2) (v := .int (nI (f_1 4 2))) S hw i_Sh ds_ob4 (by decide) rfl hN wd_127 rfl d_DS_copy_35 ?_
    refine lv_iconst (v := nI 1) S.1 S.2.1 d_DS_copy_38 (by decide) ?_
    refine dn_isub S.1 S.2.1 (by omega) d_DS_copy_39 ?_
    exact hret H locs _ ls _ _ hw (by rw [if_pos h_8]; exact ⟨by rw [hsz]; rfl, hsz, hsh, hnew, hnst, hoth⟩) d_DS_copy_40
  · refine lv_iconst (v := (-1)) S.1 S.2.1 d_DS_copy_11 (by decide) ?_
    exact hret H locs _ ls _ _ hw (by rw [if_neg (by omega)]; exact ⟨rfl, rfl⟩) d_DS_copy_12
set_option maxHeartbeats 4000000 in
set_option maxRecDepth 100000 in
theorem c_compare (l : Launch) (D : va_G) (g : Nat → ClassId) (a : Nat → Nat) (f : Nat → Nat → Nat) (x : Int32) (k : Int32) (hk : f 4 2 ≤ 4) (hks : ∀ j, j < f 4 2 → f 51 j ≤ 8 ∧ ∀ t, t < f 51 j → f (47 + j) t < 2 ^ 31 ∧ f 5 t < 2 ^ 31) : ds_I l D g a y_DS_compare b_DS_compare 5 .int 2 44 [.ref (a 0), .int x, .int k] f (fun r u => (if ds_in x (f 4 2) then r = ds_find (fun s => (ds_bits (fun s => f (47 + x.toNatClampNeg) s != f 5 s) (f 51 x.toNatClampNeg)).testBit s) k 8 0 0 else r = (-1)) ∧ u = f) := by
  refine dw_ofI (by decide) (fun _ _ _ => rfl) (Nat.le_of_ble_eq_true rfl) ?_
  intro p e s m args below meth c ls A Q R H locs hR hA S hN hw hl hret
  have hl : lv_has ls 5 [(0, .ref (a 0)), (1, .int x), (2, .int k)] := hl
  have S : CallFix p m c b_DS_compare 5 s args ds_T R_DS := S
  refine lv_iload_n S.1 S.2.1 d_DS_compare_0 rfl (lv_at hl 1 rfl) ?_
  refine lv_iconst (v := nI 0) S.1 S.2.1 d_DS_compare_1 (by decide) ?_
  refine lv_aload_n S.1 S.2.1 d_DS_compare_2 rfl (lv_at hl 0 rfl) ?_
  refine dw_getf (fi := 3) (v := .ref (a 4)) S hw i_DS ds_ob0 (by decide) rfl wd_138 rfl d_DS_compare_3 ?_
  refine dw_getN (fi := 2) (v := .int (nI (f 4 2))) S hw i_Sh ds_ob4 (by decide) rfl hN wd_127 rfl d_DS_compare_6 ?_
  refine lv_iconst (v := nI 1) S.1 S.2.1 d_DS_compare_9 (by decide) ?_
  refine lv_isub S.1 S.2.1 d_DS_compare_10 ?_
  refine dw_afti hw hA (dw_runS (As := [.int x, .int (nI 0), .int ((nI (f 4 2)) - (nI 1))]) (rest := []) S ds_good (c_isWithin l D g a f x (nI 0) ((nI (f 4 2)) - (nI 1)) H.size) cw_DS_isWithin wd_20 wd_21 dw_blind (dw_pre hw hN) rfl hl.1 rfl ⟨Nat.le_trans (Nat.le_of_ble_eq_true rfl) hR.1, Nat.le_trans (Nat.le_of_ble_eq_true rfl) hR.2⟩ (Nat.le_of_ble_eq_true rfl) ⟨Nat.zero_le _, Nat.zero_le _⟩ d_DS_compare_11) (fun r_11 f_1 H locs hp hw => ?_)
  obtain ⟨er, ef⟩ := hp
  subst er
  rw [ef] at hw
  refine dn_ifb_ne S.1 S.2.1 19 d_DS_compare_14 (by decide) (fun h_14 => ?_) (fun h_14 => ?_)
  · have h_15 := (ds_le_in3 (x := x) (n := f 4 2) (by omega)).mp h_14
    obtain ⟨ex1, hx1⟩ := ds_in_nI h_15
    have kb := hks _ hx1
    have hl : lv_has ls 5 [(0, .ref (a 0)), (1, .int (nI (x.toNatClampNeg))), (2, .int k)] := by have hl2 := hl; rw [ex1] at hl2; exact hl2
    refine lv_iconst (v := nI 0) S.1 S.2.1 d_DS_compare_19 (by decide) ?_
    refine lv_istore_n (lv' := [(3, .int (nI 0)), (0, .ref (a 0)), (1, .int (nI (x.toNatClampNeg))), (2, .int k)]) S.1 S.2.1 d_DS_compare_20 rfl hl (by decide) rfl (fun ls hl => ?_)
    refine lv_iconst (v := nI 0) S.1 S.2.1 d_DS_compare_21 (by decide) ?_
    refine lv_istore (lv' := [(4, .int (nI 0)), (3, .int (nI 0)), (0, .ref (a 0)), (1, .int (nI (x.toNatClampNeg))), (2, .int k)]) S.1 S.2.1 d_DS_compare_22 hl (by decide) rfl (fun ls hl => ?_)
    have loop_24 : ∀ (n : Nat) (t : Nat) (i : Nat) (hi : i ≤ f 51 x.toNatClampNeg) (et : t = ds_bits (fun s => f (47 + x.toNatClampNeg) s != f 5 s) i) (_ : f 51 x.toNatClampNeg - i < n) (H : Heap) (locs : List Loc), dw_W D classes (ds_tys g) A s.heap (dw_l 77 (ds_ce g a) a f) s H locs → ∀ (ls : Array Slot), lv_has ls 5 [(0, .ref (a 0)), (1, .int (nI (x.toNatClampNeg))), (2, .int k), (3, .int (nI t)), (4, .int (nI i))] → W p l e R s m args below meth c H locs 0 0 Q (F0 m 24 ls []) := by
      intro n
      induction n with
      | zero => intro t i hi et h9; exact absurd h9 (Nat.not_lt_zero _)
      | succ n ih_24 =>
        intro t i hi et hm_24 H locs hw ls hl
        refine lv_iload S.1 S.2.1 d_DS_compare_24 (lv_at hl 4 rfl) ?_
        refine lv_aload_n S.1 S.2.1 d_DS_compare_26 rfl (lv_at hl 0 rfl) ?_
        refine dw_getf (fi := 3) (v := .ref (a 4)) S hw i_DS ds_ob0 (by decide) rfl wd_138 rfl d_DS_compare_27 ?_
        refine dw_getN (fi := 1) (v := .ref (a 51)) S hw i_Sh ds_ob4 (by decide) rfl hN wd_125 rfl d_DS_compare_30 ?_
        refine lv_iload_n S.1 S.2.1 d_DS_compare_33 rfl (lv_at hl 1 rfl) ?_
        refine dw_iald S.1 S.2.1 hw ds_k51 (by omega) d_DS_compare_34 ?_
        refine dn_icmp_ge S.1 S.2.1 73 (by omega) (by omega) d_DS_compare_35 (by decide) (fun h_35 => ?_) (fun h_35 => ?_)
        · refine lv_iload_n S.1 S.2.1 d_DS_compare_73 rfl (lv_at hl 3 rfl) ?_
          refine lv_iload_n S.1 S.2.1 d_DS_compare_74 rfl (lv_at hl 2 rfl) ?_
          refine dw_afti hw hA (dw_runS (As := [.int (nI t), .int k]) (rest := []) S ds_good (c_stopAt l D g a f t k (by rw [et]; exact Nat.lt_trans (ds_bits_256 _ (by omega)) (by decide)) H.size) cw_DS_stopAt wd_303 wd_304 dw_blind (dw_pre hw hN) rfl hl.1 rfl ⟨Nat.le_trans (Nat.le_of_ble_eq_true rfl) hR.1, Nat.le_trans (Nat.le_of_ble_eq_true rfl) hR.2⟩ (Nat.le_of_ble_eq_true rfl) ⟨Nat.zero_le _, Nat.zero_le _⟩ d_DS_compare_75) (fun r_75 f_2 H locs hp hw => ?_)
          obtain ⟨er, ef⟩ := hp
          subst er
          rw [ef] at hw
          exact hret H locs _ ls _ _ hw (⟨by rw [if_pos h_15, et, show i = f 51 x.toNatClampNeg by omega], rfl⟩) d_DS_compare_78
        · have kt := kb.2 i h_35
          refine lv_aload_n S.1 S.2.1 d_DS_compare_38 rfl (lv_at hl 0 rfl) ?_
          refine dw_getf (fi := 3) (v := .ref (a 4)) S hw i_DS ds_ob0 (by decide) rfl wd_138 rfl d_DS_compare_39 ?_
          refine dw_getN (fi := 0) (v := .ref (a 46)) S hw i_Sh ds_ob4 (by decide) rfl hN wd_123 rfl d_DS_compare_42 ?_
          refine lv_iload_n S.1 S.2.1 d_DS_compare_45 rfl (lv_at hl 1 rfl) ?_
          refine dw_aald S.1 S.2.1 hw ds_k46 (by omega) d_DS_compare_46 ?_
          refine lv_iload S.1 S.2.1 d_DS_compare_47 (lv_at hl 4 rfl) ?_
          refine dw_iald S.1 S.2.1 hw (ds_k47 (by omega)) (by omega) d_DS_compare_49 ?_
          refine lv_aload_n S.1 S.2.1 d_DS_compare_50 rfl (lv_at hl 0 rfl) ?_
          refine dw_getf (fi := 4) (v := .ref (a 5)) S hw i_DS ds_ob0 (by decide) rfl wd_139 rfl d_DS_compare_51 ?_
          refine lv_iload S.1 S.2.1 d_DS_compare_54 (lv_at hl 4 rfl) ?_
          refine dw_iald S.1 S.2.1 hw ds_k5 (by omega) d_DS_compare_56 ?_
          refine dn_icmp_eq S.1 S.2.1 67 (by omega) (by omega) d_DS_compare_57 (by decide) (fun h_57 => ?_) (fun h_57 => ?_)
          · refine lv_iinc (v := nI (i + 1)) (lv' := [(4, .int (nI (i + 1))), (0, .ref (a 0)), (1, .int (nI (x.toNatClampNeg))), (2, .int k), (3, .int (nI t))]) S.1 S.2.1 d_DS_compare_67 hl (k := 4) rfl (by rw [show Int32.ofInt 1 = nI 1 from rfl, nI_add]) (by decide) rfl (fun ls hl => ?_)
            refine lv_goto (tgt := 24) S.1 S.2.1 d_DS_compare_70 (by decide) ?_
            exact ih_24 t (i + 1) (by omega) (by rw [et]; simp [ds_bits, h_57]) (by omega) H locs hw ls (lv_sub hl [1, 2, 3, 4, 0] rfl)
          · refine lv_iload_n S.1 S.2.1 d_DS_compare_60 rfl (lv_at hl 3 rfl) ?_
            refine lv_iconst (v := nI 1) S.1 S.2.1 d_DS_compare_61 (by decide) ?_
            refine lv_iload S.1 S.2.1 d_DS_compare_62 (lv_at hl 4 rfl) ?_
            refine dn_ishl S.1 S.2.1 (by omega) (ds_sh (by omega)) d_DS_compare_64 ?_
            refine dn_ior S.1 S.2.1 d_DS_compare_65 ?_
            refine lv_istore_n (lv' := [(3, .int (nI (t ||| (1 * 2 ^ i)))), (0, .ref (a 0)), (1, .int (nI (x.toNatClampNeg))), (2, .int k), (4, .int (nI i))]) S.1 S.2.1 d_DS_compare_66 rfl hl (by decide) rfl (fun ls hl => ?_)
            refine lv_iinc (v := nI (i + 1)) (lv' := [(4, .int (nI (i + 1))), (3, .int (nI (t ||| (1 * 2 ^ i)))), (0, .ref (a 0)), (1, .int (nI (x.toNatClampNeg))), (2, .int k)]) S.1 S.2.1 d_DS_compare_67 hl (k := 4) rfl (by rw [show Int32.ofInt 1 = nI 1 from rfl, nI_add]) (by decide) rfl (fun ls hl => ?_)
            refine lv_goto (tgt := 24) S.1 S.2.1 d_DS_compare_70 (by decide) ?_
            exact ih_24 (t ||| (1 * 2 ^ i)) (i + 1) (by omega) (by rw [et]; simp [ds_bits, h_57]) (by omega) H locs hw ls (lv_sub hl [2, 3, 4, 1, 0] rfl)
    exact loop_24 _ 0 0 (Nat.zero_le _) (rfl) (Nat.lt_succ_self _) H locs hw ls (lv_sub hl [2, 3, 4, 1, 0] rfl)
  · refine lv_iconst (v := (-1)) S.1 S.2.1 d_DS_compare_17 (by decide) ?_
    exact hret H locs _ ls _ _ hw (⟨by rw [if_neg (fun q => h_14 ((ds_le_in3 (by omega)).mpr q))], rfl⟩) d_DS_compare_18
set_option maxHeartbeats 4000000 in
set_option maxRecDepth 100000 in
theorem c_overtime (l : Launch) (D : va_G) (g : Nat → ClassId) (a : Nat → Nat) (f : Nat → Nat → Nat) (x : Int32) (ok : ds_ok f) : ds_I l D g a y_DS_overtime b_DS_overtime 2 .int 3 74 [.ref (a 0), .int x] f (fun r u => (if ds_in x (f 1 0) then r = nI (ds_tm f (fun z => Nat.testBit (ds_bits (fun s => f 5 s == x.toNatClampNeg) (f 1 1)) z) x.toNatClampNeg - f 19 x.toNatClampNeg) else r = (-1)) ∧ ∃ h : Nat → Nat, u = dw_su f 21 h) := by
  refine dw_ofI (by decide) (fun _ _ _ => rfl) (Nat.le_of_ble_eq_true rfl) ?_
  intro p e s m args below meth c ls A Q R H locs hR hA S hN hw hl hret
  have hl : lv_has ls 2 [(0, .ref (a 0)), (1, .int x)] := hl
  have S : CallFix p m c b_DS_overtime 2 s args ds_T R_DS := S
  obtain ⟨hV, hn, hex, hst, hve, hwy, hw0, hrw⟩ := id ok
  refine lv_aload_n S.1 S.2.1 d_DS_overtime_0 rfl (lv_at hl 0 rfl) ?_
  refine dw_getf (fi := 0) (v := .ref (a 1)) S hw i_DS ds_ob0 (by decide) rfl wd_135 rfl d_DS_overtime_1 ?_
  refine lv_iload_n S.1 S.2.1 d_DS_overtime_4 rfl (lv_at hl 1 rfl) ?_
  refine dw_afti hw hA (dw_runVN (As := [.int x]) (rest := []) (ko := 1) hw S ds_good (c_isVehicle l D g a f x (hV) H.size) cw_Day_isVehicle hN wd_161 wd_163 ws_Day_isVehicle ds_ob1 dw_blind (dw_pre hw hN) rfl hl.1 rfl ⟨Nat.le_trans (Nat.le_of_ble_eq_true rfl) hR.1, Nat.le_trans (Nat.le_of_ble_eq_true rfl) hR.2⟩ (Nat.le_of_ble_eq_true rfl) ⟨Nat.zero_le _, Nat.zero_le _⟩ d_DS_overtime_5) (fun r_5 f_1 H locs hp hw => ?_)
  obtain ⟨er, ef⟩ := hp
  subst er
  rw [ef] at hw
  refine dn_ifb_ne S.1 S.2.1 13 d_DS_overtime_8 (by decide) (fun h_8 => ?_) (fun h_8 => ?_)
  · obtain ⟨ex1, hx1⟩ := ds_in_nI h_8
    have hl : lv_has ls 2 [(0, .ref (a 0)), (1, .int (nI (x.toNatClampNeg)))] := by have hl2 := hl; rw [ex1] at hl2; exact hl2
    refine lv_aload_n S.1 S.2.1 d_DS_overtime_13 rfl (lv_at hl 0 rfl) ?_
    refine dw_getf (fi := 0) (v := .ref (a 1)) S hw i_DS ds_ob0 (by decide) rfl wd_135 rfl d_DS_overtime_14 ?_
    refine lv_iload_n S.1 S.2.1 d_DS_overtime_17 rfl (lv_at hl 1 rfl) ?_
    refine lv_aload_n S.1 S.2.1 d_DS_overtime_18 rfl (lv_at hl 0 rfl) ?_
    refine dw_getf (fi := 0) (v := .ref (a 1)) S hw i_DS ds_ob0 (by decide) rfl wd_135 rfl d_DS_overtime_19 ?_
    refine lv_iload_n S.1 S.2.1 d_DS_overtime_22 rfl (lv_at hl 1 rfl) ?_
    refine lv_aload_n S.1 S.2.1 d_DS_overtime_23 rfl (lv_at hl 0 rfl) ?_
    refine lv_iload_n S.1 S.2.1 d_DS_overtime_24 rfl (lv_at hl 1 rfl) ?_
    refine dw_afti hw hA (dw_runV (As := [.int (nI (x.toNatClampNeg))]) (rest := [.int (nI (x.toNatClampNeg)), .ref (a 1), .int (nI (x.toNatClampNeg)), .ref (a 1)]) (ko := 0) hw S ds_good (c_setOf l D g a f (x.toNatClampNeg) (hn) (by omega) (fun x hx => by have := hst x hx; omega) H.size) cw_DS_setOf wd_291 wd_293 ws_DS_setOf ds_ob0 dw_blind (dw_pre hw hN) rfl hl.1 rfl ⟨Nat.le_trans (Nat.le_of_ble_eq_true rfl) hR.1, Nat.le_trans (Nat.le_of_ble_eq_true rfl) hR.2⟩ (Nat.le_of_ble_eq_true rfl) ⟨Nat.zero_le _, Nat.zero_le _⟩ d_DS_overtime_25) (fun r_25 f_2 H locs hp hw => ?_)
    obtain ⟨er, ef⟩ := hp
    subst er
    rw [ef] at hw
    refine dw_afti hw hA (dw_runVN (As := [.int (nI (x.toNatClampNeg)), .int (nI (ds_bits (fun s => f 5 s == (x.toNatClampNeg)) (f 1 1)))]) (rest := [.int (nI (x.toNatClampNeg)), .ref (a 1)]) (ko := 1) hw S ds_good (c_timeOf l D g a f (x.toNatClampNeg) (ds_bits (fun s => f 5 s == (x.toNatClampNeg)) (f 1 1)) (ok) (hx1) (Nat.lt_trans (ds_bits_256 _ hn) (by decide)) H.size) cw_Day_timeOf hN wd_335 wd_236 ws_Day_timeOf ds_ob1 dw_blind (dw_pre hw hN) rfl hl.1 rfl ⟨Nat.le_trans (Nat.le_of_ble_eq_true rfl) hR.1, Nat.le_trans (Nat.le_of_ble_eq_true rfl) hR.2⟩ (Nat.le_of_ble_eq_true rfl) ⟨Nat.zero_le _, Nat.zero_le _⟩ d_DS_overtime_28) (fun r_28 f_3 H locs hp hw => ?_)
    obtain ⟨er, h, ef_3⟩ := hp
    subst er
    have ag : ∀ k, ¬ ds_scr k → f_3 k = f k := by rw [ef_3]; exact ds_su_agree (by unfold ds_scr; omega)
    have ok2 := ds_ok_congr ag ok
    have q1 : f_3 1 = f 1 := by rw [ef_3, dw_su_ne (by decide)]
    have q19 : f_3 19 = f 19 := by rw [ef_3, dw_su_ne (by decide)]
    have tb := ds_tm_b ok (fun z => Nat.testBit (ds_bits (fun s => f 5 s == x.toNatClampNeg) (f 1 1)) z) hx1
    have eF := ef_3
    refine dw_afti hw hA (dw_runVN (As := [.int (nI (x.toNatClampNeg)), .int (nI (ds_tm f (fun zz => Nat.testBit (ds_bits (fun s => f 5 s == (x.toNatClampNeg)) (f 1 1)) zz) (x.toNatClampNeg)))]) (rest := []) (ko := 1) hw S ds_good (c_overHours l D g a f_3 (x.toNatClampNeg) (ds_tm f (fun zz => Nat.testBit (ds_bits (fun s => f 5 s == (x.toNatClampNeg)) (f 1 1)) zz) (x.toNatClampNeg)) (ok2) (by rw [q1]; exact hx1) (by omega) H.size) cw_Day_overHours hN wd_336 wd_245 ws_Day_overHours ds_ob1 dw_blind (dw_pre hw hN) rfl hl.1 rfl ⟨Nat.le_trans (Nat.le_of_ble_eq_true rfl) hR.1, Nat.le_trans (Nat.le_of_ble_eq_true rfl) hR.2⟩ (Nat.le_of_ble_eq_true rfl) ⟨Nat.zero_le _, Nat.zero_le _⟩ d_DS_overtime_31) (fun r_31 f_4 H locs hp hw => ?_)
    obtain ⟨er, ef⟩ := hp
    subst er
    rw [ef] at hw
    exact hret H locs _ ls _ _ hw (⟨by rw [if_pos h_8, q19], h, eF⟩) d_DS_overtime_34
  · refine lv_iconst (v := (-1)) S.1 S.2.1 d_DS_overtime_11 (by decide) ?_
    exact hret H locs _ ls _ _ hw (⟨by rw [if_neg h_8], f 21, dw_su_self.symm⟩) d_DS_overtime_12
set_option maxHeartbeats 4000000 in
set_option maxRecDepth 100000 in
theorem c_cost (l : Launch) (D : va_G) (g : Nat → ClassId) (a : Nat → Nat) (f : Nat → Nat → Nat)  (ok : ds_ok f) : ds_L l D g a y_DS_cost b_DS_cost 5 3 74 [.ref (a 0)] f (fun r u => r = lN (ds_cost f (f 1 0)) ∧ ∃ h : Nat → Nat, u = dw_su f 21 h) := by
  refine dw_ofL (by decide) (Nat.le_of_ble_eq_true rfl) ?_
  intro p e s m args below meth c ls A Q R H locs hR hA S hN hw hl hret
  have hl : lv_has ls 5 [(0, .ref (a 0))] := hl
  have S : CallFix p m c b_DS_cost 5 s args ds_T R_DS := S
  obtain ⟨hV, hn, hex, hst, hve, hwy, hw0, hrw⟩ := id ok
  refine lv_lconst (v := lN 0) S.1 S.2.1 d_DS_cost_0 rfl ?_
  refine lv_lstore_n (lv' := [(1, .long (lN 0)), (0, .ref (a 0))]) S.1 S.2.1 d_DS_cost_1 rfl hl (by decide) rfl (fun ls hl => ?_)
  refine lv_iconst (v := nI 0) S.1 S.2.1 d_DS_cost_2 (by decide) ?_
  refine lv_istore_n (lv' := [(3, .int (nI 0)), (1, .long (lN 0)), (0, .ref (a 0))]) S.1 S.2.1 d_DS_cost_3 rfl hl (by decide) rfl (fun ls hl => ?_)
  have loop_4 : ∀ (n : Nat) (y : Nat) (v : Nat) (f2 : Nat → Nat → Nat) (h : Nat → Nat) (hv : v ≤ f 1 0) (ey : y = ds_cost f v) (hh : f2 = dw_su f 21 h) (_ : f 1 0 - v < n) (H : Heap) (locs : List Loc), dw_W D classes (ds_tys g) A s.heap (dw_l 77 (ds_ce g a) a f2) s H locs → ∀ (ls : Array Slot), lv_has ls 5 [(0, .ref (a 0)), (1, .long (lN y)), (3, .int (nI v))] → W p l e R s m args below meth c H locs 0 0 Q (F0 m 4 ls []) := by
    intro n
    induction n with
    | zero => intro y v f2 h hv ey hh h9; exact absurd h9 (Nat.not_lt_zero _)
    | succ n ih_4 =>
      intro y v f2 h hv ey hh hm_4 H locs hw ls hl
      have ag : ∀ k, ¬ ds_scr k → f2 k = f k := by rw [hh]; exact ds_su_agree (by unfold ds_scr; omega)
      have ok2 := ds_ok_congr ag ok
      have q1 : f2 1 = f 1 := by rw [hh, dw_su_ne (by decide)]
      have q5 : f2 5 = f 5 := by rw [hh, dw_su_ne (by decide)]
      have q10 : f2 1 0 = f 1 0 := by rw [q1]
      refine lv_iload_n S.1 S.2.1 d_DS_cost_4 rfl (lv_at hl 2 rfl) ?_
      refine lv_aload_n S.1 S.2.1 d_DS_cost_5 rfl (lv_at hl 0 rfl) ?_
      refine dw_getf (fi := 0) (v := .ref (a 1)) S hw i_DS ds_ob0 (by decide) rfl wd_135 rfl d_DS_cost_6 ?_
      refine dw_getN (fi := 0) (v := .int (nI (f2 1 0))) S hw i_Day ds_ob1 (by decide) rfl hN wd_34 rfl d_DS_cost_9 ?_
      refine dn_icmp_ge S.1 S.2.1 53 (by omega) (by omega) d_DS_cost_12 (by decide) (fun h_12 => ?_) (fun h_12 => ?_)
      · refine lv_lload_n S.1 S.2.1 d_DS_cost_53 rfl (lv_at hl 1 rfl) ?_
        exact hret H locs _ ls _ _ hw (⟨by rw [ey, show v = f 1 0 by omega], h, hh⟩) d_DS_cost_54
      · have hv2 : v < f 1 0 := by omega
        refine lv_aload_n S.1 S.2.1 d_DS_cost_15 rfl (lv_at hl 0 rfl) ?_
        refine dw_getf (fi := 0) (v := .ref (a 1)) S hw i_DS ds_ob0 (by decide) rfl wd_135 rfl d_DS_cost_16 ?_
        refine lv_iload_n S.1 S.2.1 d_DS_cost_19 rfl (lv_at hl 2 rfl) ?_
        refine lv_aload_n S.1 S.2.1 d_DS_cost_20 rfl (lv_at hl 0 rfl) ?_
        refine lv_iload_n S.1 S.2.1 d_DS_cost_21 rfl (lv_at hl 2 rfl) ?_
        refine dw_afti hw hA (dw_runV (As := [.int (nI v)]) (rest := [.int (nI v), .ref (a 1)]) (ko := 0) hw S ds_good (c_setOf l D g a f2 v (by rw [q1]; exact hn) (by omega) (fun x hx => by rw [q1] at hx; rw [q5]; have := hst x hx; omega) H.size) cw_DS_setOf wd_291 wd_293 ws_DS_setOf ds_ob0 dw_blind (dw_pre hw hN) rfl hl.1 rfl ⟨Nat.le_trans (Nat.le_of_ble_eq_true rfl) hR.1, Nat.le_trans (Nat.le_of_ble_eq_true rfl) hR.2⟩ (Nat.le_of_ble_eq_true rfl) ⟨Nat.zero_le _, Nat.zero_le _⟩ d_DS_cost_22) (fun r_22 f_1 H locs hp hw => ?_)
        obtain ⟨er, ef⟩ := hp
        subst er
        rw [ef] at hw
        refine dw_afti hw hA (dw_runVN (As := [.int (nI v), .int (nI (ds_bits (fun s => f2 5 s == v) (f2 1 1)))]) (rest := []) (ko := 1) hw S ds_good (c_timeOf l D g a f2 v (ds_bits (fun s => f2 5 s == v) (f2 1 1)) (ok2) (by rw [q1]; exact hv2) (Nat.lt_trans (ds_bits_256 _ (by rw [q1]; exact hn)) (by decide)) H.size) cw_Day_timeOf hN wd_335 wd_236 ws_Day_timeOf ds_ob1 dw_blind (dw_pre hw hN) rfl hl.1 rfl ⟨Nat.le_trans (Nat.le_of_ble_eq_true rfl) hR.1, Nat.le_trans (Nat.le_of_ble_eq_true rfl) hR.2⟩ (Nat.le_of_ble_eq_true rfl) ⟨Nat.zero_le _, Nat.zero_le _⟩ d_DS_cost_25) (fun r_25 f_2 H locs hp hw => ?_)
        obtain ⟨er, h, ef_2⟩ := hp
        subst er
        refine ds_topi (w := nI (ds_tm f (fun z => Nat.testBit (ds_bits (fun s => f 5 s == v) (f 1 1)) z) v)) (by rw [q5, q1, ds_tm_congr ag ok _ hv2]) ?_
        have h3 := h
        obtain ⟨h3, e3⟩ : ∃ z, z = h := ⟨_, rfl⟩
        have eG : f_2 = dw_su f 21 h3 := by rw [e3, ef_2, hh]; funext k; by_cases ek : k = 21; rw [ek, dw_su_eq, dw_su_eq]; rw [dw_su_ne ek, dw_su_ne ek, dw_su_ne ek]
        have ag2 : ∀ k, ¬ ds_scr k → f_2 k = f k := by rw [eG]; exact ds_su_agree (by unfold ds_scr; omega)
        have ok3 := ds_ok_congr ag2 ok
        have w1 : f_2 1 = f 1 := by rw [eG, dw_su_ne (by decide)]
        have w19 : f_2 19 = f 19 := by rw [eG, dw_su_ne (by decide)]
        have tb := ds_tm_b ok (fun z => Nat.testBit (ds_bits (fun s => f 5 s == v) (f 1 1)) z) hv2
        refine lv_istore (lv' := [(4, .int (nI (ds_tm f (fun z => Nat.testBit (ds_bits (fun s => f 5 s == v) (f 1 1)) z) v))), (0, .ref (a 0)), (1, .long (lN y)), (3, .int (nI v))]) S.1 S.2.1 d_DS_cost_28 hl (by decide) rfl (fun ls hl => ?_)
        refine lv_lload_n S.1 S.2.1 d_DS_cost_30 rfl (lv_at hl 2 rfl) ?_
        refine lv_iload S.1 S.2.1 d_DS_cost_31 (lv_at hl 0 rfl) ?_
        refine lv_aload_n S.1 S.2.1 d_DS_cost_33 rfl (lv_at hl 1 rfl) ?_
        refine dw_getf (fi := 0) (v := .ref (a 1)) S hw i_DS ds_ob0 (by decide) rfl wd_135 rfl d_DS_cost_34 ?_
        refine lv_iload_n S.1 S.2.1 d_DS_cost_37 rfl (lv_at hl 3 rfl) ?_
        refine lv_iload S.1 S.2.1 d_DS_cost_38 (lv_at hl 0 rfl) ?_
        refine dw_afti hw hA (dw_runVN (As := [.int (nI v), .int (nI (ds_tm f (fun z => Nat.testBit (ds_bits (fun s => f 5 s == v) (f 1 1)) z) v))]) (rest := [.int (nI (ds_tm f (fun z => Nat.testBit (ds_bits (fun s => f 5 s == v) (f 1 1)) z) v)), .long (lN y)]) (ko := 1) hw S ds_good (c_overHours l D g a f_2 v (ds_tm f (fun z => Nat.testBit (ds_bits (fun s => f 5 s == v) (f 1 1)) z) v) (ok3) (by rw [w1]; exact hv2) (by omega) H.size) cw_Day_overHours hN wd_336 wd_245 ws_Day_overHours ds_ob1 dw_blind (dw_pre hw hN) rfl hl.1 rfl ⟨Nat.le_trans (Nat.le_of_ble_eq_true rfl) hR.1, Nat.le_trans (Nat.le_of_ble_eq_true rfl) hR.2⟩ (Nat.le_of_ble_eq_true rfl) ⟨Nat.zero_le _, Nat.zero_le _⟩ d_DS_cost_40) (fun r_40 f_3 H locs hp hw => ?_)
        obtain ⟨er, ef⟩ := hp
        subst er
        rw [ef] at hw
        refine ds_topi (w := nI (ds_tm f (fun z => Nat.testBit (ds_bits (fun s => f 5 s == v) (f 1 1)) z) v - f 19 v)) (by rw [w19]) ?_
        refine dn_iadd S.1 S.2.1 d_DS_cost_43 ?_
        refine dn_i2l S.1 S.2.1 (by omega) d_DS_cost_44 ?_
        refine dn_ladd S.1 S.2.1 d_DS_cost_45 ?_
        refine lv_lstore_n (lv' := [(1, .long (lN (y + ((ds_tm f (fun z => Nat.testBit (ds_bits (fun s => f 5 s == v) (f 1 1)) z) v) + (ds_tm f (fun z => Nat.testBit (ds_bits (fun s => f 5 s == v) (f 1 1)) z) v - f 19 v))))), (4, .int (nI (ds_tm f (fun z => Nat.testBit (ds_bits (fun s => f 5 s == v) (f 1 1)) z) v))), (0, .ref (a 0)), (3, .int (nI v))]) S.1 S.2.1 d_DS_cost_46 rfl hl (by decide) rfl (fun ls hl => ?_)
        refine lv_iinc (v := nI (v + 1)) (lv' := [(3, .int (nI (v + 1))), (1, .long (lN (y + ((ds_tm f (fun z => Nat.testBit (ds_bits (fun s => f 5 s == v) (f 1 1)) z) v) + (ds_tm f (fun z => Nat.testBit (ds_bits (fun s => f 5 s == v) (f 1 1)) z) v - f 19 v))))), (4, .int (nI (ds_tm f (fun z => Nat.testBit (ds_bits (fun s => f 5 s == v) (f 1 1)) z) v))), (0, .ref (a 0))]) S.1 S.2.1 d_DS_cost_47 hl (k := 3) rfl (by rw [show Int32.ofInt 1 = nI 1 from rfl, nI_add]) (by decide) rfl (fun ls hl => ?_)
        refine lv_goto (tgt := 4) S.1 S.2.1 d_DS_cost_50 (by decide) ?_
        exact ih_4 (y + ((ds_tm f (fun z => Nat.testBit (ds_bits (fun s => f 5 s == v) (f 1 1)) z) v) + (ds_tm f (fun z => Nat.testBit (ds_bits (fun s => f 5 s == v) (f 1 1)) z) v - f 19 v))) (v + 1) f_2 h3 (by omega) (by rw [ey]; rfl) (eG) (by omega) H locs hw ls (lv_sub hl [3, 1, 0] rfl)
  exact loop_4 _ 0 0 f (f 21) (Nat.zero_le _) (rfl) (dw_su_self.symm) (Nat.lt_succ_self _) H locs hw ls (lv_sub hl [2, 1, 0] rfl)
