/-! contracts of the search -/
set_option maxHeartbeats 4000000 in
set_option maxRecDepth 100000 in
theorem c_weightOf (l : Launch) (D : va_G) (g : Nat → ClassId) (a : Nat → Nat) (f : Nat → Nat → Nat) (v : Nat) (t : Nat) (ok : ds_ok f) (hv : v ≤ f 1 0) (ht : t < 2 ^ 31) : ds_L l D g a y_Se_weightOf b_Se_weightOf 7 3 74 [.ref (a 2), .int (nI v), .int (nI t)] f (fun r u => r = lN (ds_wt f v t) ∧ ∃ h : Nat → Nat, u = dw_su f 21 h) := by
  refine dw_ofL (by decide) (Nat.le_of_ble_eq_true rfl) ?_
  intro p e s m args below meth c ls A Q R H locs hR hA S hN hw hl hret
  have hl : lv_has ls 7 [(0, .ref (a 2)), (1, .int (nI v)), (2, .int (nI t))] := hl
  have S : CallFix p m c b_Se_weightOf 7 s args ds_T R_Se := S
  obtain ⟨hV, hn, hex, hst, hve, hwy, hw0, hrw⟩ := id ok
  refine lv_lconst (v := lN 0) S.1 S.2.1 d_Se_weightOf_0 rfl ?_
  refine lv_lstore_n (lv' := [(3, .long (lN 0)), (0, .ref (a 2)), (1, .int (nI v)), (2, .int (nI t))]) S.1 S.2.1 d_Se_weightOf_1 rfl hl (by decide) rfl (fun ls hl => ?_)
  refine lv_iconst (v := nI 0) S.1 S.2.1 d_Se_weightOf_2 (by decide) ?_
  refine lv_istore (lv' := [(5, .int (nI 0)), (3, .long (lN 0)), (0, .ref (a 2)), (1, .int (nI v)), (2, .int (nI t))]) S.1 S.2.1 d_Se_weightOf_3 hl (by decide) rfl (fun ls hl => ?_)
  have loop_5 : ∀ (n : Nat) (y : Nat) (i : Nat) (hi : i ≤ f 1 1) (ey : y = ds_acc f v t i) (hb : ds_bad f v t i = false) (_ : f 1 1 - i < n) (H : Heap) (locs : List Loc), dw_W D classes (ds_tys g) A s.heap (dw_l 77 (ds_ce g a) a f) s H locs → ∀ (ls : Array Slot), lv_has ls 7 [(0, .ref (a 2)), (1, .int (nI v)), (2, .int (nI t)), (3, .long (lN y)), (5, .int (nI i))] → W p l e R s m args below meth c H locs 0 0 Q (F0 m 5 ls []) := by
    intro n
    induction n with
    | zero => intro y i hi ey hb h9; exact absurd h9 (Nat.not_lt_zero _)
    | succ n ih_5 =>
      intro y i hi ey hb hm_5 H locs hw ls hl
      refine lv_iload S.1 S.2.1 d_Se_weightOf_5 (lv_at hl 4 rfl) ?_
      refine lv_aload_n S.1 S.2.1 d_Se_weightOf_7 rfl (lv_at hl 0 rfl) ?_
      refine dw_getf (fi := 0) (v := .ref (a 1)) S hw i_Se ds_ob2 (by decide) rfl wd_104 rfl d_Se_weightOf_8 ?_
      refine dw_getN (fi := 1) (v := .int (nI (f 1 1))) S hw i_Day ds_ob1 (by decide) rfl hN wd_36 rfl d_Se_weightOf_11 ?_
      refine dn_icmp_ge S.1 S.2.1 84 (by omega) (by omega) d_Se_weightOf_14 (by decide) (fun h_14 => ?_) (fun h_14 => ?_)
      · refine lv_iload_n S.1 S.2.1 d_Se_weightOf_84 rfl (lv_at hl 1 rfl) ?_
        refine lv_aload_n S.1 S.2.1 d_Se_weightOf_85 rfl (lv_at hl 0 rfl) ?_
        refine dw_getf (fi := 0) (v := .ref (a 1)) S hw i_Se ds_ob2 (by decide) rfl wd_104 rfl d_Se_weightOf_86 ?_
        refine dw_getN (fi := 0) (v := .int (nI (f 1 0))) S hw i_Day ds_ob1 (by decide) rfl hN wd_33 rfl d_Se_weightOf_89 ?_
        refine dn_icmp_ne S.1 S.2.1 97 (by omega) (by omega) d_Se_weightOf_92 (by decide) (fun h_92 => ?_) (fun h_92 => ?_)
        · have hv2 : v < f 1 0 := by omega
          have tb := ds_tm_b ok (fun x => t.testBit x) hv2
          refine lv_aload_n S.1 S.2.1 d_Se_weightOf_97 rfl (lv_at hl 0 rfl) ?_
          refine dw_getf (fi := 0) (v := .ref (a 1)) S hw i_Se ds_ob2 (by decide) rfl wd_104 rfl d_Se_weightOf_98 ?_
          refine lv_iload_n S.1 S.2.1 d_Se_weightOf_101 rfl (lv_at hl 1 rfl) ?_
          refine lv_iload_n S.1 S.2.1 d_Se_weightOf_102 rfl (lv_at hl 2 rfl) ?_
          refine dw_afti hw hA (dw_runVN (As := [.int (nI v), .int (nI t)]) (rest := []) (ko := 1) hw S ds_good (c_timeOf l D g a f v t (ok) (hv2) (ht) H.size) cw_Day_timeOf hN wd_234 wd_236 ws_Day_timeOf ds_ob1 dw_blind (dw_pre hw hN) rfl hl.1 rfl ⟨Nat.le_trans (Nat.le_of_ble_eq_true rfl) hR.1, Nat.le_trans (Nat.le_of_ble_eq_true rfl) hR.2⟩ (Nat.le_of_ble_eq_true rfl) ⟨Nat.zero_le _, Nat.zero_le _⟩ d_Se_weightOf_103) (fun r_103 f_1 H locs hp hw => ?_)
          obtain ⟨er, h, ef_1⟩ := hp
          subst er
          refine lv_istore (lv' := [(5, .int (nI (ds_tm f (fun zz => Nat.testBit t zz) v))), (0, .ref (a 2)), (1, .int (nI v)), (2, .int (nI t)), (3, .long (lN y))]) S.1 S.2.1 d_Se_weightOf_106 hl (by decide) rfl (fun ls hl => ?_)
          have ok2 : ds_ok f_1 := by rw [ef_1]; exact ds_ok_congr (ds_su_agree (Or.inr (Or.inr (Or.inl rfl)))) ok
          have q1 : f_1 1 = f 1 := by rw [ef_1]; exact dw_su_ne (by decide)
          have q19 : f_1 19 = f 19 := by rw [ef_1]; exact dw_su_ne (by decide)
          refine lv_aload_n S.1 S.2.1 d_Se_weightOf_108 rfl (lv_at hl 1 rfl) ?_
          refine dw_getf (fi := 0) (v := .ref (a 1)) S hw i_Se ds_ob2 (by decide) rfl wd_104 rfl d_Se_weightOf_109 ?_
          refine lv_iload_n S.1 S.2.1 d_Se_weightOf_112 rfl (lv_at hl 2 rfl) ?_
          refine lv_iload S.1 S.2.1 d_Se_weightOf_113 (lv_at hl 0 rfl) ?_
          refine dw_afti hw hA (dw_runVN (As := [.int (nI v), .int (nI (ds_tm f (fun zz => Nat.testBit t zz) v))]) (rest := []) (ko := 1) hw S ds_good (c_overHours l D g a f_1 v (ds_tm f (fun zz => Nat.testBit t zz) v) (ok2) (by rw [q1]; exact hv2) (by omega) H.size) cw_Day_overHours hN wd_243 wd_245 ws_Day_overHours ds_ob1 dw_blind (dw_pre hw hN) rfl hl.1 rfl ⟨Nat.le_trans (Nat.le_of_ble_eq_true rfl) hR.1, Nat.le_trans (Nat.le_of_ble_eq_true rfl) hR.2⟩ (Nat.le_of_ble_eq_true rfl) ⟨Nat.zero_le _, Nat.zero_le _⟩ d_Se_weightOf_115) (fun r_115 f_2 H locs hp hw => ?_)
          obtain ⟨er, ef⟩ := hp
          subst er
          rw [ef] at hw
          refine ds_topi (w := nI (ds_tm f (fun x => t.testBit x) v - f 19 v)) (by rw [q19]) ?_
          refine lv_istore (lv' := [(6, .int (nI (ds_tm f (fun x => t.testBit x) v - f 19 v))), (5, .int (nI (ds_tm f (fun zz => Nat.testBit t zz) v))), (0, .ref (a 2)), (1, .int (nI v)), (2, .int (nI t)), (3, .long (lN y))]) S.1 S.2.1 d_Se_weightOf_118 hl (by decide) rfl (fun ls hl => ?_)
          refine lv_iload S.1 S.2.1 d_Se_weightOf_120 (lv_at hl 0 rfl) ?_
          refine lv_aload_n S.1 S.2.1 d_Se_weightOf_122 rfl (lv_at hl 2 rfl) ?_
          refine dw_getf (fi := 0) (v := .ref (a 1)) S hw i_Se ds_ob2 (by decide) rfl wd_104 rfl d_Se_weightOf_123 ?_
          refine dw_getN (fi := 16) (v := .int (nI (f_1 1 16))) S hw i_Day ds_ob1 (by decide) rfl hN wd_59 rfl d_Se_weightOf_126 ?_
          refine dn_icmp_le S.1 S.2.1 138 (by omega) (by rw [q1]; omega) d_Se_weightOf_129 (by decide) (fun h_129 => ?_) (fun h_129 => ?_)
          · refine lv_lload_n S.1 S.2.1 d_Se_weightOf_138 rfl (lv_at hl 5 rfl) ?_
            refine lv_iload S.1 S.2.1 d_Se_weightOf_139 (lv_at hl 1 rfl) ?_
            refine lv_iload S.1 S.2.1 d_Se_weightOf_141 (lv_at hl 0 rfl) ?_
            refine dn_iadd S.1 S.2.1 d_Se_weightOf_143 ?_
            refine dn_i2l S.1 S.2.1 (by omega) d_Se_weightOf_144 ?_
            refine lv_bipush (v := nI 16) S.1 S.2.1 d_Se_weightOf_145 (by decide) ?_
            refine dn_lshlR S.1 S.2.1 (by omega) d_Se_weightOf_147 ?_
            refine dn_ladd S.1 S.2.1 d_Se_weightOf_148 ?_
            exact hret H locs _ ls _ _ hw (⟨by rw [q1] at h_129; rw [ey, show i = f 1 1 by omega]; unfold ds_wt; rw [show i = f 1 1 by omega] at hb; rw [if_neg (by rw [hb]; decide), if_neg h_92, if_neg (by omega)], h, ef_1⟩) d_Se_weightOf_149
          · refine lv_ldc2 (v := lN 1152921504606846976) S.1 S.2.1 S.2.2.2.1 (S.2.2.2.2 _ wd_229) d_Se_weightOf_132 ?_
            refine lv_goto (tgt := 149) S.1 S.2.1 d_Se_weightOf_135 (by decide) ?_
            exact hret H locs _ ls _ _ hw (⟨by rw [q1] at h_129; unfold ds_wt; rw [show i = f 1 1 by omega] at hb; rw [if_neg (by rw [hb]; decide), if_neg h_92, if_pos (by omega)], h, ef_1⟩) d_Se_weightOf_149
        · refine lv_lload_n S.1 S.2.1 d_Se_weightOf_95 rfl (lv_at hl 3 rfl) ?_
          exact hret H locs _ ls _ _ hw (⟨by rw [ey, show i = f 1 1 by omega]; unfold ds_wt; rw [show i = f 1 1 by omega] at hb; rw [if_neg (by rw [hb]; decide), if_pos h_92], f 21, dw_su_self.symm⟩) d_Se_weightOf_96
      · have r4 := hrw.2 i (by omega)
        refine lv_iload_n S.1 S.2.1 d_Se_weightOf_17 rfl (lv_at hl 2 rfl) ?_
        refine lv_iload S.1 S.2.1 d_Se_weightOf_18 (lv_at hl 4 rfl) ?_
        refine dw_afti hw hA (dw_runSN (As := [.int (nI t), .int (nI i)]) (rest := []) S ds_good (c_isIn l D g a f t i (ht) (by omega) H.size) cw_DS_isIn hN wd_218 wd_219 dw_blind (dw_pre hw hN) rfl hl.1 rfl ⟨Nat.le_trans (Nat.le_of_ble_eq_true rfl) hR.1, Nat.le_trans (Nat.le_of_ble_eq_true rfl) hR.2⟩ (Nat.le_of_ble_eq_true rfl) ⟨Nat.zero_le _, Nat.zero_le _⟩ d_Se_weightOf_20) (fun r_20 f_3 H locs hp hw => ?_)
        obtain ⟨er, ef⟩ := hp
        subst er
        rw [ef] at hw
        refine dn_ifb_eq S.1 S.2.1 78 d_Se_weightOf_23 (by decide) (fun h_23 => ?_) (fun h_23 => ?_)
        · refine lv_iinc (v := nI (i + 1)) (lv' := [(5, .int (nI (i + 1))), (0, .ref (a 2)), (1, .int (nI v)), (2, .int (nI t)), (3, .long (lN y))]) S.1 S.2.1 d_Se_weightOf_78 hl (k := 4) rfl (by rw [show Int32.ofInt 1 = nI 1 from rfl, nI_add]) (by decide) rfl (fun ls hl => ?_)
          refine lv_goto (tgt := 5) S.1 S.2.1 d_Se_weightOf_81 (by decide) ?_
          exact ih_5 y (i + 1) (by omega) (by rw [ey]; simp [ds_acc, h_23]) (by simp [ds_bad, hb, h_23]) (by omega) H locs hw ls (lv_sub hl [1, 2, 3, 4, 0] rfl)
        · refine lv_aload_n S.1 S.2.1 d_Se_weightOf_26 rfl (lv_at hl 0 rfl) ?_
          refine dw_getf (fi := 0) (v := .ref (a 1)) S hw i_Se ds_ob2 (by decide) rfl wd_104 rfl d_Se_weightOf_27 ?_
          refine lv_iload S.1 S.2.1 d_Se_weightOf_30 (lv_at hl 4 rfl) ?_
          refine lv_iload_n S.1 S.2.1 d_Se_weightOf_32 rfl (lv_at hl 1 rfl) ?_
          refine dw_afti hw hA (dw_runVN (As := [.int (nI i), .int (nI v)]) (rest := []) (ko := 1) hw S ds_good (c_mayHave l D g a f i v (ok) (by omega) (hv) H.size) cw_Day_mayHave hN wd_221 wd_223 ws_Day_mayHave ds_ob1 dw_blind (dw_pre hw hN) rfl hl.1 rfl ⟨Nat.le_trans (Nat.le_of_ble_eq_true rfl) hR.1, Nat.le_trans (Nat.le_of_ble_eq_true rfl) hR.2⟩ (Nat.le_of_ble_eq_true rfl) ⟨Nat.zero_le _, Nat.zero_le _⟩ d_Se_weightOf_33) (fun r_33 f_4 H locs hp hw => ?_)
          obtain ⟨er, ef⟩ := hp
          subst er
          rw [ef] at hw
          refine dn_ifb_ne S.1 S.2.1 43 d_Se_weightOf_36 (by decide) (fun h_36 => ?_) (fun h_36 => ?_)
          · refine lv_lload_n S.1 S.2.1 d_Se_weightOf_43 rfl (lv_at hl 3 rfl) ?_
            refine lv_iload_n S.1 S.2.1 d_Se_weightOf_44 rfl (lv_at hl 1 rfl) ?_
            refine dn_i2l S.1 S.2.1 (by omega) d_Se_weightOf_45 ?_
            refine lv_iload S.1 S.2.1 d_Se_weightOf_46 (lv_at hl 4 rfl) ?_
            refine dw_afti hw hA (dw_runS (As := [.int (nI i)]) (rest := [.long (lN v), .long (lN y)]) S ds_good (c_digitShift l D g a f i (by omega) H.size) cw_Se_digitShift wd_230 wd_231 dw_blind (dw_pre hw hN) rfl hl.1 rfl ⟨Nat.le_trans (Nat.le_of_ble_eq_true rfl) hR.1, Nat.le_trans (Nat.le_of_ble_eq_true rfl) hR.2⟩ (Nat.le_of_ble_eq_true rfl) ⟨Nat.zero_le _, Nat.zero_le _⟩ d_Se_weightOf_48) (fun r_48 f_5 H locs hp hw => ?_)
            obtain ⟨er, ef⟩ := hp
            subst er
            rw [ef] at hw
            refine dn_lshlR S.1 S.2.1 (by omega) d_Se_weightOf_51 ?_
            refine dn_ladd S.1 S.2.1 d_Se_weightOf_52 ?_
            refine lv_lstore_n (lv' := [(3, .long (lN (y + (v * 2 ^ (2 * (7 - i)))))), (0, .ref (a 2)), (1, .int (nI v)), (2, .int (nI t)), (5, .int (nI i))]) S.1 S.2.1 d_Se_weightOf_53 rfl hl (by decide) rfl (fun ls hl => ?_)
            refine lv_lload_n S.1 S.2.1 d_Se_weightOf_54 rfl (lv_at hl 0 rfl) ?_
            refine lv_aload_n S.1 S.2.1 d_Se_weightOf_55 rfl (lv_at hl 1 rfl) ?_
            refine dw_getf (fi := 0) (v := .ref (a 1)) S hw i_Se ds_ob2 (by decide) rfl wd_104 rfl d_Se_weightOf_56 ?_
            refine dw_getN (fi := 4) (v := .ref (a 10)) S hw i_Day ds_ob1 (by decide) rfl hN wd_41 rfl d_Se_weightOf_59 ?_
            refine lv_iload S.1 S.2.1 d_Se_weightOf_62 (lv_at hl 4 rfl) ?_
            refine dw_iald S.1 S.2.1 hw ds_k10 (by omega) d_Se_weightOf_64 ?_
            refine lv_iload_n S.1 S.2.1 d_Se_weightOf_65 rfl (lv_at hl 2 rfl) ?_
            refine dn_icmp_ne S.1 S.2.1 73 (by omega) (by omega) d_Se_weightOf_66 (by decide) (fun h_66 => ?_) (fun h_66 => ?_)
            · refine lv_ldc2 (v := lN 1099511627776) S.1 S.2.1 S.2.2.2.1 (S.2.2.2.2 _ wd_233) d_Se_weightOf_73 ?_
              refine dn_ladd S.1 S.2.1 d_Se_weightOf_76 ?_
              refine lv_lstore_n (lv' := [(3, .long (lN ((y + (v * 2 ^ (2 * (7 - i)))) + 1099511627776))), (0, .ref (a 2)), (1, .int (nI v)), (2, .int (nI t)), (5, .int (nI i))]) S.1 S.2.1 d_Se_weightOf_77 rfl hl (by decide) rfl (fun ls hl => ?_)
              refine lv_iinc (v := nI (i + 1)) (lv' := [(5, .int (nI (i + 1))), (3, .long (lN ((y + (v * 2 ^ (2 * (7 - i)))) + 1099511627776))), (0, .ref (a 2)), (1, .int (nI v)), (2, .int (nI t))]) S.1 S.2.1 d_Se_weightOf_78 hl (k := 4) rfl (by rw [show Int32.ofInt 1 = nI 1 from rfl, nI_add]) (by decide) rfl (fun ls hl => ?_)
              refine lv_goto (tgt := 5) S.1 S.2.1 d_Se_weightOf_81 (by decide) ?_
              exact ih_5 ((y + (v * 2 ^ (2 * (7 - i)))) + 1099511627776) (i + 1) (by omega) (by rw [ey]; simp [ds_acc, h_23, h_66]) (by simp [ds_bad, hb, h_23, h_36]) (by omega) H locs hw ls (lv_sub hl [2, 3, 4, 1, 0] rfl)
            · refine lv_lconst (v := lN 0) S.1 S.2.1 d_Se_weightOf_69 rfl ?_
              refine lv_goto (tgt := 76) S.1 S.2.1 d_Se_weightOf_70 (by decide) ?_
              refine dn_ladd S.1 S.2.1 d_Se_weightOf_76 ?_
              refine lv_lstore_n (lv' := [(3, .long (lN ((y + (v * 2 ^ (2 * (7 - i)))) + 0))), (0, .ref (a 2)), (1, .int (nI v)), (2, .int (nI t)), (5, .int (nI i))]) S.1 S.2.1 d_Se_weightOf_77 rfl hl (by decide) rfl (fun ls hl => ?_)
              refine lv_iinc (v := nI (i + 1)) (lv' := [(5, .int (nI (i + 1))), (3, .long (lN ((y + (v * 2 ^ (2 * (7 - i)))) + 0))), (0, .ref (a 2)), (1, .int (nI v)), (2, .int (nI t))]) S.1 S.2.1 d_Se_weightOf_78 hl (k := 4) rfl (by rw [show Int32.ofInt 1 = nI 1 from rfl, nI_add]) (by decide) rfl (fun ls hl => ?_)
              refine lv_goto (tgt := 5) S.1 S.2.1 d_Se_weightOf_81 (by decide) ?_
              exact ih_5 ((y + (v * 2 ^ (2 * (7 - i)))) + 0) (i + 1) (by omega) (by rw [ey]; simp [ds_acc, h_23, h_66]) (by simp [ds_bad, hb, h_23, h_36]) (by omega) H locs hw ls (lv_sub hl [2, 3, 4, 1, 0] rfl)
          · refine lv_ldc2 (v := lN 1152921504606846976) S.1 S.2.1 S.2.2.2.1 (S.2.2.2.2 _ wd_229) d_Se_weightOf_39 ?_
            exact hret H locs _ ls _ _ hw (⟨by rw [show ds_wt f v t = 1152921504606846976 by unfold ds_wt; rw [if_pos (ds_bad_mono (i := i + 1) (by simp [ds_bad, h_23, h_36]) (by omega))]], f 21, dw_su_self.symm⟩) d_Se_weightOf_42
  exact loop_5 _ 0 0 (Nat.zero_le _) (rfl) (rfl) (Nat.lt_succ_self _) H locs hw ls (lv_sub hl [2, 3, 4, 1, 0] rfl)
set_option maxHeartbeats 4000000 in
set_option maxRecDepth 100000 in
theorem c_join (l : Launch) (D : va_G) (g : Nat → ClassId) (a : Nat → Nat) (f : Nat → Nat → Nat) (q : Nat) (hq : 1 ≤ q ∧ q ≤ 256) (hB : ∀ z, z < q → f 53 z ≤ 1152921504606846976 ∧ f 52 z ≤ 1152921504606846976) : ds_V l D g a y_Se_join b_Se_join 6 1 24 [.ref (a 2), .int (nI q)] f (fun u => ∃ h : Nat → Nat, u = dw_su f 53 h ∧ ∀ z, z < q → h z = dp_join (f 53) (f 52) z) := by
  refine dw_ofV (by decide) (Nat.le_of_ble_eq_true rfl) ?_
  intro p e s m args below meth c ls A Q R H locs hR hA S hN hw hl hret
  have hl : lv_has ls 6 [(0, .ref (a 2)), (1, .int (nI q))] := hl
  have S : CallFix p m c b_Se_join 6 s args ds_T R_Se := S
  refine lv_iload_n S.1 S.2.1 d_Se_join_0 rfl (lv_at hl 1 rfl) ?_
  refine lv_iconst (v := nI 1) S.1 S.2.1 d_Se_join_1 (by decide) ?_
  refine dn_isub S.1 S.2.1 (by omega) d_Se_join_2 ?_
  refine lv_istore_n (lv' := [(2, .int (nI (q - 1))), (0, .ref (a 2)), (1, .int (nI q))]) S.1 S.2.1 d_Se_join_3 rfl hl (by decide) rfl (fun ls hl => ?_)
  have loop_4 : ∀ (n : Nat) (t : Nat) (f2 : Nat → Nat → Nat) (h : Nat → Nat) (ht : t < q) (hh : f2 = dw_su f 53 h) (hA1 : ∀ z, t < z → z < q → h z = dp_join (f 53) (f 52) z) (hA2 : ∀ z, z ≤ t → h z = f 53 z) (_ : t < n) (H : Heap) (locs : List Loc), dw_W D classes (ds_tys g) A s.heap (dw_l 77 (ds_ce g a) a f2) s H locs → ∀ (ls : Array Slot), lv_has ls 6 [(0, .ref (a 2)), (1, .int (nI q)), (2, .int (nI t))] → W p l e R s m args below meth c H locs 0 0 Q (F0 m 4 ls []) := by
    intro n
    induction n with
    | zero => intro t f2 h ht hh hA1 hA2 h9; exact absurd h9 (Nat.not_lt_zero _)
    | succ n ih_4 =>
      intro t f2 h ht hh hA1 hA2 hm_4 H locs hw ls hl
      refine lv_iload_n S.1 S.2.1 d_Se_join_4 rfl (lv_at hl 2 rfl) ?_
      refine dn_if_le S.1 S.2.1 69 (by omega) d_Se_join_5 (by decide) (fun h_5 => ?_) (fun h_5 => ?_)
      · exact hret H locs _ ls _  hw (⟨h, hh, fun z hz => by
    by_cases ez : z = 0
    · rw [ez, dp_join0]; exact hA2 0 (by omega)
    · exact hA1 z (by omega) hz⟩) d_Se_join_69
      · have q53 : f2 53 t = f 53 t := by rw [hh, dw_su_eq]; exact hA2 t (Nat.le_refl _)
        refine lv_aload_n S.1 S.2.1 d_Se_join_8 rfl (lv_at hl 0 rfl) ?_
        refine dw_getf (fi := 2) (v := .ref (a 53)) S hw i_Se ds_ob2 (by decide) rfl wd_106 rfl d_Se_join_9 ?_
        refine lv_iload_n S.1 S.2.1 d_Se_join_12 rfl (lv_at hl 2 rfl) ?_
        refine dw_lald S.1 S.2.1 hw ds_k53 (by omega) d_Se_join_13 ?_
        refine lv_lstore_n (lv' := [(3, .long (lN (f2 53 t))), (0, .ref (a 2)), (1, .int (nI q)), (2, .int (nI t))]) S.1 S.2.1 d_Se_join_14 rfl hl (by decide) rfl (fun ls hl => ?_)
        refine lv_iload_n S.1 S.2.1 d_Se_join_15 rfl (lv_at hl 3 rfl) ?_
        refine lv_istore (lv' := [(5, .int (nI t)), (3, .long (lN (f2 53 t))), (0, .ref (a 2)), (1, .int (nI q)), (2, .int (nI t))]) S.1 S.2.1 d_Se_join_16 hl (by decide) rfl (fun ls hl => ?_)
        have loop_18 : ∀ (n : Nat) (y : Nat) (d : Nat) (hd : d &&& t = d) (hE : dp_part (f 53) (f 52) t (d + 1) d y = dp_join (f 53) (f 52) t) (hy : y ≤ 1152921504606846976) (_ : d < n) (H : Heap) (locs : List Loc), dw_W D classes (ds_tys g) A s.heap (dw_l 77 (ds_ce g a) a f2) s H locs → ∀ (ls : Array Slot), lv_has ls 6 [(0, .ref (a 2)), (1, .int (nI q)), (2, .int (nI t)), (3, .long (lN y)), (5, .int (nI d))] → W p l e R s m args below meth c H locs 0 0 Q (F0 m 18 ls []) := by
          intro n
          induction n with
          | zero => intro y d hd hE hy h9; exact absurd h9 (Nat.not_lt_zero _)
          | succ n ih_18 =>
            intro y d hd hE hy hm_18 H locs hw ls hl
            have dt : d ≤ t := by have h1 : d &&& t ≤ t := Nat.and_le_right; rwa [hd] at h1
            refine lv_iload S.1 S.2.1 d_Se_join_18 (lv_at hl 4 rfl) ?_
            refine dn_if_le S.1 S.2.1 56 (by omega) d_Se_join_20 (by decide) (fun h_20 => ?_) (fun h_20 => ?_)
            · refine lv_aload_n S.1 S.2.1 d_Se_join_56 rfl (lv_at hl 0 rfl) ?_
              refine dw_getf (fi := 2) (v := .ref (a 53)) S hw i_Se ds_ob2 (by decide) rfl wd_106 rfl d_Se_join_57 ?_
              refine lv_iload_n S.1 S.2.1 d_Se_join_60 rfl (lv_at hl 2 rfl) ?_
              refine lv_lload_n S.1 S.2.1 d_Se_join_61 rfl (lv_at hl 3 rfl) ?_
              refine dw_last S.1 S.2.1 hw ds_k53 (by omega) d_Se_join_62 (fun f_1 H locs ef_1 hw => ?_)
              refine lv_iinc (v := nI (t - 1)) (lv' := [(2, .int (nI (t - 1))), (0, .ref (a 2)), (1, .int (nI q)), (3, .long (lN y)), (5, .int (nI d))]) S.1 S.2.1 d_Se_join_63 hl (k := 2) rfl (by rw [show Int32.ofInt (-1) = -1 from rfl]; exact sb_m1 h_5) (by decide) rfl (fun ls hl => ?_)
              refine lv_goto (tgt := 4) S.1 S.2.1 d_Se_join_66 (by decide) ?_
              exact ih_4 (t - 1) f_1 (dw_up h t y) (by omega) (by rw [ef_1, hh, dw_w_su]) (fun z h1 h2 => by
    by_cases ez : z = t
    · rw [ez, dw_up_eq, ← hE, h_20]; rfl
    · rw [dw_up_ne ez]; exact hA1 z (by omega) h2) (fun z hz => by rw [dw_up_ne (by omega)]; exact hA2 z (by omega)) (by omega) H locs hw ls (lv_sub hl [1, 2, 0] rfl)
            · have xl := dp_xor_lt hd h_20
              have b53 : f2 53 (t ^^^ d) = f 53 (t ^^^ d) := by rw [hh, dw_su_eq]; exact hA2 _ (by omega)
              have b52 : f2 52 d = f 52 d := by rw [hh, dw_su_ne (by decide)]
              have c1 := hB (t ^^^ d) (by omega)
              have c2 := hB d (by omega)
              have nl : (d - 1) &&& t ≤ d - 1 := Nat.and_le_left
              refine lv_lload_n S.1 S.2.1 d_Se_join_23 rfl (lv_at hl 3 rfl) ?_
              refine lv_aload_n S.1 S.2.1 d_Se_join_24 rfl (lv_at hl 0 rfl) ?_
              refine dw_getf (fi := 2) (v := .ref (a 53)) S hw i_Se ds_ob2 (by decide) rfl wd_106 rfl d_Se_join_25 ?_
              refine lv_iload_n S.1 S.2.1 d_Se_join_28 rfl (lv_at hl 2 rfl) ?_
              refine lv_iload S.1 S.2.1 d_Se_join_29 (lv_at hl 4 rfl) ?_
              refine dn_ixor S.1 S.2.1 d_Se_join_31 ?_
              refine dw_lald S.1 S.2.1 hw ds_k53 (by omega) d_Se_join_32 ?_
              refine lv_aload_n S.1 S.2.1 d_Se_join_33 rfl (lv_at hl 0 rfl) ?_
              refine dw_getf (fi := 1) (v := .ref (a 52)) S hw i_Se ds_ob2 (by decide) rfl wd_105 rfl d_Se_join_34 ?_
              refine lv_iload S.1 S.2.1 d_Se_join_37 (lv_at hl 4 rfl) ?_
              refine dw_lald S.1 S.2.1 hw ds_k52 (by omega) d_Se_join_39 ?_
              refine dn_ladd S.1 S.2.1 d_Se_join_40 ?_
              refine va_mmin_long (rest := []) S.1 S.2.1 (S.2.2.1.trans hl.1.symm) S.2.2.2.1 (S.2.2.2.2 _ wd_254) (S.2.2.2.2 _ wd_255) (S.2.2.2.2 _ wd_7) (S.2.2.2.2 _ wd_256) (Nat.le_trans (Nat.le_of_ble_eq_true rfl) hR.1) (Nat.le_trans (Nat.le_of_ble_eq_true rfl) hR.2) (Nat.zero_le _) (Nat.zero_le _) d_Se_join_41 ?_
              refine ds_topl (w := lN (min y ((f2 53 (t ^^^ d)) + (f2 52 d)))) (ds_minl (by omega) (by omega)) ?_
              refine lv_lstore_n (lv' := [(3, .long (lN (min y ((f2 53 (t ^^^ d)) + (f2 52 d))))), (0, .ref (a 2)), (1, .int (nI q)), (2, .int (nI t)), (5, .int (nI d))]) S.1 S.2.1 d_Se_join_44 rfl hl (by decide) rfl (fun ls hl => ?_)
              refine lv_iload S.1 S.2.1 d_Se_join_45 (lv_at hl 4 rfl) ?_
              refine lv_iconst (v := nI 1) S.1 S.2.1 d_Se_join_47 (by decide) ?_
              refine dn_isub S.1 S.2.1 (by omega) d_Se_join_48 ?_
              refine lv_iload_n S.1 S.2.1 d_Se_join_49 rfl (lv_at hl 3 rfl) ?_
              refine dn_iand S.1 S.2.1 d_Se_join_50 ?_
              refine lv_istore (lv' := [(5, .int (nI ((d - 1) &&& t))), (3, .long (lN (min y ((f2 53 (t ^^^ d)) + (f2 52 d))))), (0, .ref (a 2)), (1, .int (nI q)), (2, .int (nI t))]) S.1 S.2.1 d_Se_join_51 hl (by decide) rfl (fun ls hl => ?_)
              refine lv_goto (tgt := 18) S.1 S.2.1 d_Se_join_53 (by decide) ?_
              exact ih_18 (min y ((f2 53 (t ^^^ d)) + (f2 52 d))) ((d - 1) &&& t) (by rw [Nat.and_assoc, Nat.and_self]) (by rw [← hE, b53, b52, show dp_part (f 53) (f 52) t (d + 1) d y = if d = 0 then y else dp_part (f 53) (f 52) t d ((d - 1) &&& t) (min y (f 53 (t ^^^ d) + f 52 d)) from rfl, if_neg (by omega), dp_part_fuel d _ _ (by omega)]) (Nat.le_trans (Nat.min_le_left _ _) hy) (by omega) H locs hw ls (lv_sub hl [2, 3, 4, 1, 0] rfl)
        exact loop_18 _ (f2 53 t) t (Nat.and_self _) (by rw [q53]; rfl) (by rw [q53]; exact (hB t ht).1) (Nat.lt_succ_self _) H locs hw ls (lv_sub hl [2, 3, 4, 1, 0] rfl)
  exact loop_4 _ (q - 1) f (f 53) (by omega) (dw_su_self.symm) (fun z h1 h2 => by omega) (fun _ _ => rfl) (Nat.lt_succ_self _) H locs hw ls (lv_sub hl [1, 2, 0] rfl)
set_option maxHeartbeats 4000000 in
set_option maxRecDepth 100000 in
theorem c_least (l : Launch) (D : va_G) (g : Nat → ClassId) (a : Nat → Nat) (f : Nat → Nat → Nat)  (ok : ds_ok f) : ds_L l D g a y_Se_least b_Se_least 4 4 100 [.ref (a 2)] f (fun r u => r = lN (dp_tab (ds_wt f) (f 1 0) (f 1 0) (2 ^ f 1 1 - 1)) ∧ ∀ k, k ≠ 21 → k ≠ 52 → k ≠ 53 → u k = f k) := by
  refine dw_ofL (by decide) (Nat.le_of_ble_eq_true rfl) ?_
  intro p e s m args below meth c ls A Q R H locs hR hA S hN hw hl hret
  have hl : lv_has ls 4 [(0, .ref (a 2))] := hl
  have S : CallFix p m c b_Se_least 4 s args ds_T R_Se := S
  obtain ⟨hV, hn, hex, hst, hve, hwy, hw0, hrw⟩ := id ok
  have p1 : 1 ≤ 1 * 2 ^ f 1 1 := by rw [Nat.one_mul]; exact Nat.one_le_two_pow
  have p2 : 1 * 2 ^ f 1 1 ≤ 256 := by rw [Nat.one_mul]; exact (Nat.pow_le_pow_right (by decide) hn : 2 ^ f 1 1 ≤ 2 ^ 8)
  obtain ⟨q, eq⟩ : ∃ z, z = 1 * 2 ^ f 1 1 := ⟨_, rfl⟩
  rw [← eq] at p1 p2
  refine lv_iconst (v := nI 1) S.1 S.2.1 d_Se_least_0 (by decide) ?_
  refine lv_aload_n S.1 S.2.1 d_Se_least_1 rfl (lv_at hl 0 rfl) ?_
  refine dw_getf (fi := 0) (v := .ref (a 1)) S hw i_Se ds_ob2 (by decide) rfl wd_104 rfl d_Se_least_2 ?_
  refine dw_getN (fi := 1) (v := .int (nI (f 1 1))) S hw i_Day ds_ob1 (by decide) rfl hN wd_36 rfl d_Se_least_5 ?_
  refine dn_ishl S.1 S.2.1 (by omega) (by rw [← eq]; omega) d_Se_least_8 ?_
  refine ds_topi (w := nI q) (by rw [eq]) ?_
  refine lv_istore_n (lv' := [(1, .int (nI q)), (0, .ref (a 2))]) S.1 S.2.1 d_Se_least_9 rfl hl (by decide) rfl (fun ls hl => ?_)
  refine lv_iconst (v := nI 0) S.1 S.2.1 d_Se_least_10 (by decide) ?_
  refine lv_istore_n (lv' := [(2, .int (nI 0)), (1, .int (nI q)), (0, .ref (a 2))]) S.1 S.2.1 d_Se_least_11 rfl hl (by decide) rfl (fun ls hl => ?_)
  have loop_12 : ∀ (n : Nat) (z : Nat) (f2 : Nat → Nat → Nat) (hz : z ≤ q) (hg : (∀ k, k ≠ 21 → k ≠ 52 → k ≠ 53 → f2 k = f k)) (hT : ∀ y, y < z → f2 53 y = dp_tab (ds_wt f) (f 1 0) 0 y) (_ : q - z < n) (H : Heap) (locs : List Loc), dw_W D classes (ds_tys g) A s.heap (dw_l 77 (ds_ce g a) a f2) s H locs → ∀ (ls : Array Slot), lv_has ls 4 [(0, .ref (a 2)), (1, .int (nI q)), (2, .int (nI z))] → W p l e R s m args below meth c H locs 0 0 Q (F0 m 12 ls []) := by
    intro n
    induction n with
    | zero => intro z f2 hz hg hT h9; exact absurd h9 (Nat.not_lt_zero _)
    | succ n ih_12 =>
      intro z f2 hz hg hT hm_12 H locs hw ls hl
      have ag : ∀ k, ¬ ds_scr k → f2 k = f k := fun k hk => hg k (fun e => hk (by rw [e]; unfold ds_scr; omega)) (fun e => hk (by rw [e]; unfold ds_scr; omega)) (fun e => hk (by rw [e]; unfold ds_scr; omega))
      have ok2 := ds_ok_congr ag ok
      have o1 : f2 1 = f 1 := hg 1 (by decide) (by decide) (by decide)
      refine lv_iload_n S.1 S.2.1 d_Se_least_12 rfl (lv_at hl 2 rfl) ?_
      refine lv_iload_n S.1 S.2.1 d_Se_least_13 rfl (lv_at hl 1 rfl) ?_
      refine dn_icmp_ge S.1 S.2.1 41 (by omega) (by omega) d_Se_least_14 (by decide) (fun h_14 => ?_) (fun h_14 => ?_)
      · refine lv_iconst (v := nI 0) S.1 S.2.1 d_Se_least_41 (by decide) ?_
        refine lv_istore_n (lv' := [(2, .int (nI 0)), (0, .ref (a 2)), (1, .int (nI q))]) S.1 S.2.1 d_Se_least_42 rfl hl (by decide) rfl (fun ls hl => ?_)
        have loop_43 : ∀ (n : Nat) (w : Nat) (f2 : Nat → Nat → Nat) (hw3 : w ≤ f 1 0) (hg : (∀ k, k ≠ 21 → k ≠ 52 → k ≠ 53 → f2 k = f k)) (hT : ∀ y, y < q → f2 53 y = dp_tab (ds_wt f) (f 1 0) w y) (_ : f 1 0 - w < n) (H : Heap) (locs : List Loc), dw_W D classes (ds_tys g) A s.heap (dw_l 77 (ds_ce g a) a f2) s H locs → ∀ (ls : Array Slot), lv_has ls 4 [(0, .ref (a 2)), (1, .int (nI q)), (2, .int (nI w))] → W p l e R s m args below meth c H locs 0 0 Q (F0 m 43 ls []) := by
          intro n
          induction n with
          | zero => intro w f2 hw3 hg hT h9; exact absurd h9 (Nat.not_lt_zero _)
          | succ n ih_43 =>
            intro w f2 hw3 hg hT hm_43 H locs hw ls hl
            have o1 : f2 1 = f 1 := hg 1 (by decide) (by decide) (by decide)
            have o2 : f2 1 0 = f 1 0 := by rw [o1]
            refine lv_iload_n S.1 S.2.1 d_Se_least_43 rfl (lv_at hl 2 rfl) ?_
            refine lv_aload_n S.1 S.2.1 d_Se_least_44 rfl (lv_at hl 0 rfl) ?_
            refine dw_getf (fi := 0) (v := .ref (a 1)) S hw i_Se ds_ob2 (by decide) rfl wd_104 rfl d_Se_least_45 ?_
            refine dw_getN (fi := 0) (v := .int (nI (f2 1 0))) S hw i_Day ds_ob1 (by decide) rfl hN wd_33 rfl d_Se_least_48 ?_
            refine dn_icmp_ge S.1 S.2.1 90 (by omega) (by omega) d_Se_least_51 (by decide) (fun h_51 => ?_) (fun h_51 => ?_)
            · refine lv_aload_n S.1 S.2.1 d_Se_least_90 rfl (lv_at hl 0 rfl) ?_
              refine dw_getf (fi := 2) (v := .ref (a 53)) S hw i_Se ds_ob2 (by decide) rfl wd_106 rfl d_Se_least_91 ?_
              refine lv_iload_n S.1 S.2.1 d_Se_least_94 rfl (lv_at hl 1 rfl) ?_
              refine lv_iconst (v := nI 1) S.1 S.2.1 d_Se_least_95 (by decide) ?_
              refine dn_isub S.1 S.2.1 (by omega) d_Se_least_96 ?_
              refine dw_lald S.1 S.2.1 hw ds_k53 (by omega) d_Se_least_97 ?_
              exact hret H locs _ ls _ _ hw (⟨by rw [hT (q - 1) (by omega), show w = f 1 0 by omega, show q - 1 = 2 ^ f 1 1 - 1 by rw [eq, Nat.one_mul]], hg⟩) d_Se_least_98
            · refine lv_iconst (v := nI 0) S.1 S.2.1 d_Se_least_54 (by decide) ?_
              refine lv_istore_n (lv' := [(3, .int (nI 0)), (0, .ref (a 2)), (1, .int (nI q)), (2, .int (nI w))]) S.1 S.2.1 d_Se_least_55 rfl hl (by decide) rfl (fun ls hl => ?_)
              have loop_56 : ∀ (n : Nat) (z : Nat) (f2 : Nat → Nat → Nat) (hz : z ≤ q) (hg : (∀ k, k ≠ 21 → k ≠ 52 → k ≠ 53 → f2 k = f k)) (hT : ∀ y, y < q → f2 53 y = dp_tab (ds_wt f) (f 1 0) w y) (hU : ∀ y, y < z → f2 52 y = ds_wt f w y) (_ : q - z < n) (H : Heap) (locs : List Loc), dw_W D classes (ds_tys g) A s.heap (dw_l 77 (ds_ce g a) a f2) s H locs → ∀ (ls : Array Slot), lv_has ls 4 [(0, .ref (a 2)), (1, .int (nI q)), (2, .int (nI w)), (3, .int (nI z))] → W p l e R s m args below meth c H locs 0 0 Q (F0 m 56 ls []) := by
                intro n
                induction n with
                | zero => intro z f2 hz hg hT hU h9; exact absurd h9 (Nat.not_lt_zero _)
                | succ n ih_56 =>
                  intro z f2 hz hg hT hU hm_56 H locs hw ls hl
                  have ag : ∀ k, ¬ ds_scr k → f2 k = f k := fun k hk => hg k (fun e => hk (by rw [e]; unfold ds_scr; omega)) (fun e => hk (by rw [e]; unfold ds_scr; omega)) (fun e => hk (by rw [e]; unfold ds_scr; omega))
                  have ok2 := ds_ok_congr ag ok
                  have o1 : f2 1 = f 1 := hg 1 (by decide) (by decide) (by decide)
                  have o2 : f2 1 0 = f 1 0 := by rw [o1]
                  refine lv_iload_n S.1 S.2.1 d_Se_least_56 rfl (lv_at hl 3 rfl) ?_
                  refine lv_iload_n S.1 S.2.1 d_Se_least_57 rfl (lv_at hl 1 rfl) ?_
                  refine dn_icmp_ge S.1 S.2.1 79 (by omega) (by omega) d_Se_least_58 (by decide) (fun h_58 => ?_) (fun h_58 => ?_)
                  · refine lv_aload_n S.1 S.2.1 d_Se_least_79 rfl (lv_at hl 0 rfl) ?_
                    refine lv_iload_n S.1 S.2.1 d_Se_least_80 rfl (lv_at hl 1 rfl) ?_
                    refine dw_aftv hw hA (dw_runV (As := [.int (nI q)]) (rest := []) (ko := 2) hw S ds_good (c_join l D g a f2 q (⟨p1, p2⟩) (fun y hy => by rw [hT y hy, hU y (by omega)]; exact ⟨dp_tab_b (fun v2 hv2 y2 => ds_wt_b ok hv2) (by omega) y, ds_wt_b ok (by omega)⟩) H.size) cw_Se_join wd_250 wd_252 ws_Se_join ds_ob2 dw_blind (dw_pre hw hN) rfl hl.1 rfl ⟨Nat.le_trans (Nat.le_of_ble_eq_true rfl) hR.1, Nat.le_trans (Nat.le_of_ble_eq_true rfl) hR.2⟩ (Nat.le_of_ble_eq_true rfl) ⟨Nat.zero_le _, Nat.zero_le _⟩ d_Se_least_81) (fun f_1 H locs hp hw => ?_)
                    obtain ⟨hj, ef_1, hjz⟩ := hp
                    refine lv_iinc (v := nI (w + 1)) (lv' := [(2, .int (nI (w + 1))), (0, .ref (a 2)), (1, .int (nI q)), (3, .int (nI z))]) S.1 S.2.1 d_Se_least_84 hl (k := 2) rfl (by rw [show Int32.ofInt 1 = nI 1 from rfl, nI_add]) (by decide) rfl (fun ls hl => ?_)
                    refine lv_goto (tgt := 43) S.1 S.2.1 d_Se_least_87 (by decide) ?_
                    exact ih_43 (w + 1) f_1 (by omega) (fun k h1 h2 h3 => by rw [ef_1, dw_su_ne h3]; exact hg k h1 h2 h3) (fun y hy => by rw [ef_1, dw_su_eq, hjz y hy]; exact dp_join_congr (fun z hz => hT z (by omega)) (fun z hz => hU z (by omega))) (by omega) H locs hw ls (lv_sub hl [1, 2, 0] rfl)
                  · refine lv_aload_n S.1 S.2.1 d_Se_least_61 rfl (lv_at hl 0 rfl) ?_
                    refine dw_getf (fi := 1) (v := .ref (a 52)) S hw i_Se ds_ob2 (by decide) rfl wd_105 rfl d_Se_least_62 ?_
                    refine lv_iload_n S.1 S.2.1 d_Se_least_65 rfl (lv_at hl 3 rfl) ?_
                    refine lv_aload_n S.1 S.2.1 d_Se_least_66 rfl (lv_at hl 0 rfl) ?_
                    refine lv_iload_n S.1 S.2.1 d_Se_least_67 rfl (lv_at hl 2 rfl) ?_
                    refine lv_iload_n S.1 S.2.1 d_Se_least_68 rfl (lv_at hl 3 rfl) ?_
                    refine dw_aftl hw hA (dw_runV (As := [.int (nI w), .int (nI z)]) (rest := [.int (nI z), .ref (a 52)]) (ko := 2) hw S ds_good (c_weightOf l D g a f2 w z (ok2) (by omega) (by omega) H.size) cw_Se_weightOf wd_214 wd_216 ws_Se_weightOf ds_ob2 dw_blind (dw_pre hw hN) rfl hl.1 rfl ⟨Nat.le_trans (Nat.le_of_ble_eq_true rfl) hR.1, Nat.le_trans (Nat.le_of_ble_eq_true rfl) hR.2⟩ (Nat.le_of_ble_eq_true rfl) ⟨Nat.zero_le _, Nat.zero_le _⟩ d_Se_least_69) (fun r_69 f_2 H locs hp hw => ?_)
                    obtain ⟨er, h, ef_2⟩ := hp
                    subst er
                    have eF := ef_2
                    refine dw_last S.1 S.2.1 hw ds_k52 (by omega) d_Se_least_72 (fun f_3 H locs ef_3 hw => ?_)
                    refine lv_iinc (v := nI (z + 1)) (lv' := [(3, .int (nI (z + 1))), (0, .ref (a 2)), (1, .int (nI q)), (2, .int (nI w))]) S.1 S.2.1 d_Se_least_73 hl (k := 3) rfl (by rw [show Int32.ofInt 1 = nI 1 from rfl, nI_add]) (by decide) rfl (fun ls hl => ?_)
                    refine lv_goto (tgt := 56) S.1 S.2.1 d_Se_least_76 (by decide) ?_
                    exact ih_56 (z + 1) f_3 (by omega) (fun k h1 h2 h3 => by rw [ef_3, dw_w_ne h2, eF, dw_su_ne h1]; exact hg k h1 h2 h3) (fun y hy => by rw [ef_3, dw_w_ne (by decide), eF, dw_su_ne (by decide)]; exact hT y hy) (fun y hy => by
    rw [ef_3, dw_w_eq]
    by_cases ez : y = z
    · rw [ez, dw_up_eq]; exact ds_wt_congr ag ok (by omega) z
    · rw [dw_up_ne ez, eF, dw_su_ne (by decide)]; exact hU y (by omega)) (by omega) H locs hw ls (lv_sub hl [1, 2, 3, 0] rfl)
              exact loop_56 _ 0 f2 (Nat.zero_le _) (hg) (hT) (fun y hy => absurd hy (Nat.not_lt_zero _)) (Nat.lt_succ_self _) H locs hw ls (lv_sub hl [1, 2, 3, 0] rfl)
        exact loop_43 _ 0 f2 (Nat.zero_le _) (hg) (fun y hy => hT y (by omega)) (Nat.lt_succ_self _) H locs hw ls (lv_sub hl [1, 2, 0] rfl)
      · refine lv_aload_n S.1 S.2.1 d_Se_least_17 rfl (lv_at hl 0 rfl) ?_
        refine dw_getf (fi := 2) (v := .ref (a 53)) S hw i_Se ds_ob2 (by decide) rfl wd_106 rfl d_Se_least_18 ?_
        refine lv_iload_n S.1 S.2.1 d_Se_least_21 rfl (lv_at hl 2 rfl) ?_
        refine lv_aload_n S.1 S.2.1 d_Se_least_22 rfl (lv_at hl 0 rfl) ?_
        refine lv_aload_n S.1 S.2.1 d_Se_least_23 rfl (lv_at hl 0 rfl) ?_
        refine dw_getf (fi := 0) (v := .ref (a 1)) S hw i_Se ds_ob2 (by decide) rfl wd_104 rfl d_Se_least_24 ?_
        refine dw_getN (fi := 0) (v := .int (nI (f2 1 0))) S hw i_Day ds_ob1 (by decide) rfl hN wd_33 rfl d_Se_least_27 ?_
        refine lv_iload_n S.1 S.2.1 d_Se_least_30 rfl (lv_at hl 2 rfl) ?_
        refine dw_aftl hw hA (dw_runV (As := [.int (nI (f2 1 0)), .int (nI z)]) (rest := [.int (nI z), .ref (a 53)]) (ko := 2) hw S ds_good (c_weightOf l D g a f2 (f2 1 0) z (ok2) (Nat.le_refl _) (by omega) H.size) cw_Se_weightOf wd_214 wd_216 ws_Se_weightOf ds_ob2 dw_blind (dw_pre hw hN) rfl hl.1 rfl ⟨Nat.le_trans (Nat.le_of_ble_eq_true rfl) hR.1, Nat.le_trans (Nat.le_of_ble_eq_true rfl) hR.2⟩ (Nat.le_of_ble_eq_true rfl) ⟨Nat.zero_le _, Nat.zero_le _⟩ d_Se_least_31) (fun r_31 f_4 H locs hp hw => ?_)
        obtain ⟨er, h, ef_4⟩ := hp
        subst er
        have eF := ef_4
        refine dw_last S.1 S.2.1 hw ds_k53 (by omega) d_Se_least_34 (fun f_5 H locs ef_5 hw => ?_)
        refine lv_iinc (v := nI (z + 1)) (lv' := [(2, .int (nI (z + 1))), (0, .ref (a 2)), (1, .int (nI q))]) S.1 S.2.1 d_Se_least_35 hl (k := 2) rfl (by rw [show Int32.ofInt 1 = nI 1 from rfl, nI_add]) (by decide) rfl (fun ls hl => ?_)
        refine lv_goto (tgt := 12) S.1 S.2.1 d_Se_least_38 (by decide) ?_
        exact ih_12 (z + 1) f_5 (by omega) (fun k h1 h2 h3 => by rw [ef_5, dw_w_ne h3, eF, dw_su_ne h1]; exact hg k h1 h2 h3) (fun y hy => by
    rw [ef_5, dw_w_eq]
    by_cases ez : y = z
    · rw [ez, dw_up_eq]; rw [o1]; exact ds_wt_congr ag ok (Nat.le_refl _) z
    · rw [dw_up_ne ez, eF, dw_su_ne (by decide)]; exact hT y (by omega)) (by omega) H locs hw ls (lv_sub hl [1, 2, 0] rfl)
  exact loop_12 _ 0 f (Nat.zero_le _) (fun _ _ _ _ => rfl) (fun y hy => absurd hy (Nat.not_lt_zero _)) (Nat.lt_succ_self _) H locs hw ls (lv_sub hl [2, 1, 0] rfl)
