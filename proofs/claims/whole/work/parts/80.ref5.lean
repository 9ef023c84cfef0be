/-! contracts of the reference: what is kept, notices, places -/
set_option maxHeartbeats 4000000 in
set_option maxRecDepth 100000 in
theorem m_keep (l : Launch) (D : va_G) (g : Nat → ClassId) (a : Nat → Nat) (f : Nat → Nat → Nat)  (hn : f 54 1 ≤ 8) (hc : f 54 16 ≤ 6) : ds_V l D g a y_Mo_keep b_Mo_keep 3 0 0 [.ref (a 54)] f (fun u => ∃ kk dd : Nat, ((f 54 16 < 6 ∧ kk = f 54 16 ∧ dd = 0) ∨ (f 54 16 = 6 ∧ kk = 5 ∧ dd = 1)) ∧ u 54 16 = kk + 1 ∧ (∀ j, j < kk → (∀ t, t < 8 → u 68 (8 * j + t) = f 68 (8 * (j + dd) + t)) ∧ u 69 j = f 69 (j + dd)) ∧ (∀ t, t < f 54 1 → u 68 (8 * kk + t) = f 65 t) ∧ u 69 kk = f 54 1 ∧ (∀ j, j ≠ 16 → u 54 j = f 54 j) ∧ (∀ k, k ≠ 54 → k ≠ 68 → k ≠ 69 → u k = f k)) := by
  refine dw_ofV (by decide) (Nat.le_of_ble_eq_true rfl) ?_
  intro p e s m args below meth c ls A Q R H locs hR hA S hN hw hl hret
  have hl : lv_has ls 3 [(0, .ref (a 54))] := hl
  have S : CallFix p m c b_Mo_keep 3 s args ds_T R_Mo := S
  refine lv_aload_n S.1 S.2.1 d_Mo_keep_0 rfl (lv_at hl 0 rfl) ?_
  refine dw_getf (fi := 16) (v := .int (nI (f 54 16))) S hw i_Mo ds_ob54 (by decide) rfl wd_378 rfl d_Mo_keep_1 ?_
  refine lv_bipush (v := nI 6) S.1 S.2.1 d_Mo_keep_4 (by decide) ?_
  refine dn_icmp_ne S.1 S.2.1 85 (by omega) (by decide) d_Mo_keep_6 (by decide) (fun h_6 => ?_) (fun h_6 => ?_)
  · have cut_85 : ∀ (f2 : Nat → Nat → Nat) (kk : Nat) (dd : Nat) (hkd : ((f 54 16 < 6 ∧ kk = f 54 16 ∧ dd = 0) ∨ (f 54 16 = 6 ∧ kk = 5 ∧ dd = 1))) (hsz : f2 54 16 = kk) (hsh : (∀ j, j < kk → (∀ t, t < 8 → f2 68 (8 * j + t) = f 68 (8 * (j + dd) + t)) ∧ f2 69 j = f 69 (j + dd))) (h54 : (∀ j, j ≠ 16 → f2 54 j = f 54 j)) (hoth : (∀ k, k ≠ 54 → k ≠ 68 → k ≠ 69 → f2 k = f k)) (H : Heap) (locs : List Loc), dw_W D classes (ds_tys g) A s.heap (dw_l 77 (ds_ce g a) a f2) s H locs → ∀ (ls : Array Slot), lv_has ls 3 [(0, .ref (a 54))] → W p l e R s m args below meth c H locs 0 0 Q (F0 m 85 ls []) := by
      intro f2 kk dd hkd hsz hsh h54 hoth H locs hw ls hl
      have n54 : f2 54 1 = f 54 1 := h54 1 (by decide)
      have k5 : kk ≤ 5 := by omega
      refine lv_aload_n S.1 S.2.1 d_Mo_keep_85 rfl (lv_at hl 0 rfl) ?_
      refine dw_getf (fi := 18) (v := .ref (a 69)) S hw i_Mo ds_ob54 (by decide) rfl wd_380 rfl d_Mo_keep_86 ?_
      refine lv_aload_n S.1 S.2.1 d_Mo_keep_89 rfl (lv_at hl 0 rfl) ?_
      refine dw_getf (fi := 16) (v := .int (nI (f2 54 16))) S hw i_Mo ds_ob54 (by decide) rfl wd_378 rfl d_Mo_keep_90 ?_
      refine lv_aload_n S.1 S.2.1 d_Mo_keep_93 rfl (lv_at hl 0 rfl) ?_
      refine dw_getf (fi := 1) (v := .int (nI (f2 54 1))) S hw i_Mo ds_ob54 (by decide) rfl wd_363 rfl d_Mo_keep_94 ?_
      refine dw_iast S.1 S.2.1 hw ds_k69 (by omega) d_Mo_keep_97 (fun f_1 H locs ef_1 hw => ?_)
      have eB := ef_1
      refine lv_iconst (v := nI 0) S.1 S.2.1 d_Mo_keep_98 (by decide) ?_
      refine lv_istore_n (lv' := [(1, .int (nI 0)), (0, .ref (a 54))]) S.1 S.2.1 d_Mo_keep_99 rfl hl (by decide) rfl (fun ls hl => ?_)
      have loop_100 : ∀ (n : Nat) (i : Nat) (f3 : Nat → Nat → Nat) (hi : i ≤ f 54 1) (p1 : (∀ j, j < kk → (∀ t, t < 8 → f3 68 (8 * j + t) = f 68 (8 * (j + dd) + t)) ∧ f3 69 j = f 69 (j + dd))) (p2 : ∀ t, t < i → f3 68 (8 * kk + t) = f 65 t) (p3 : f3 69 kk = f 54 1) (p4 : f3 54 = f2 54) (p5 : (∀ k, k ≠ 54 → k ≠ 68 → k ≠ 69 → f3 k = f k)) (_ : f 54 1 - i < n) (H : Heap) (locs : List Loc), dw_W D classes (ds_tys g) A s.heap (dw_l 77 (ds_ce g a) a f3) s H locs → ∀ (ls : Array Slot), lv_has ls 3 [(0, .ref (a 54)), (1, .int (nI i))] → W p l e R s m args below meth c H locs 0 0 Q (F0 m 100 ls []) := by
        intro n
        induction n with
        | zero => intro i f3 hi p1 p2 p3 p4 p5 h9; exact absurd h9 (Nat.not_lt_zero _)
        | succ n ih_100 =>
          intro i f3 hi p1 p2 p3 p4 p5 hm_100 H locs hw ls hl
          have qk : f3 54 16 = kk := by rw [p4]; exact hsz
          have qn : f3 54 1 = f 54 1 := by rw [p4]; exact n54
          refine lv_iload_n S.1 S.2.1 d_Mo_keep_100 rfl (lv_at hl 1 rfl) ?_
          refine lv_aload_n S.1 S.2.1 d_Mo_keep_101 rfl (lv_at hl 0 rfl) ?_
          refine dw_getf (fi := 1) (v := .int (nI (f3 54 1))) S hw i_Mo ds_ob54 (by decide) rfl wd_363 rfl d_Mo_keep_102 ?_
          refine dn_icmp_ge S.1 S.2.1 134 (by omega) (by omega) d_Mo_keep_105 (by decide) (fun h_105 => ?_) (fun h_105 => ?_)
          · refine lv_aload_n S.1 S.2.1 d_Mo_keep_134 rfl (lv_at hl 0 rfl) ?_
            refine lv_dup S.1 S.2.1 d_Mo_keep_135 rfl ?_
            refine dw_getf (fi := 16) (v := .int (nI (f3 54 16))) S hw i_Mo ds_ob54 (by decide) rfl wd_378 rfl d_Mo_keep_136 ?_
            refine lv_iconst (v := nI 1) S.1 S.2.1 d_Mo_keep_139 (by decide) ?_
            refine dn_iadd S.1 S.2.1 d_Mo_keep_140 ?_
            refine dw_putf (fi := 16) S hw i_Mo t_Mo t_Mo_ok n_Mo ds_ob54 (by decide) rfl wd_378 rfl (by decide +kernel) (Nat.le_of_ble_eq_true rfl) rfl d_Mo_keep_141 (fun f_2 H locs ef_2 hw => ?_)
            exact hret H locs _ ls _  hw (by
    have eC := ef_2
    refine ⟨kk, dd, hkd, by rw [eC, dw_w_eq, dw_up_eq, qk], fun j hj => ⟨fun t ht => ?_, ?_⟩, fun t ht => ?_, ?_, fun j hj => ?_, fun k k1 k2 k3 => ?_⟩
    · rw [eC, dw_w_ne (by decide)]; exact (p1 j hj).1 t ht
    · rw [eC, dw_w_ne (by decide)]; exact (p1 j hj).2
    · rw [eC, dw_w_ne (by decide)]; exact p2 t (by omega)
    · rw [eC, dw_w_ne (by decide)]; exact p3
    · rw [eC, dw_w_eq, dw_up_ne hj, p4]; exact h54 j hj
    · rw [eC, dw_w_ne k1]; exact p5 k k1 k2 k3) d_Mo_keep_144
          · refine lv_aload_n S.1 S.2.1 d_Mo_keep_108 rfl (lv_at hl 0 rfl) ?_
            refine dw_getf (fi := 17) (v := .ref (a 68)) S hw i_Mo ds_ob54 (by decide) rfl wd_379 rfl d_Mo_keep_109 ?_
            refine lv_bipush (v := nI 8) S.1 S.2.1 d_Mo_keep_112 (by decide) ?_
            refine lv_aload_n S.1 S.2.1 d_Mo_keep_114 rfl (lv_at hl 0 rfl) ?_
            refine dw_getf (fi := 16) (v := .int (nI (f3 54 16))) S hw i_Mo ds_ob54 (by decide) rfl wd_378 rfl d_Mo_keep_115 ?_
            refine dn_imul S.1 S.2.1 d_Mo_keep_118 ?_
            refine lv_iload_n S.1 S.2.1 d_Mo_keep_119 rfl (lv_at hl 1 rfl) ?_
            refine dn_iadd S.1 S.2.1 d_Mo_keep_120 ?_
            refine lv_aload_n S.1 S.2.1 d_Mo_keep_121 rfl (lv_at hl 0 rfl) ?_
            refine dw_getf (fi := 13) (v := .ref (a 65)) S hw i_Mo ds_ob54 (by decide) rfl wd_375 rfl d_Mo_keep_122 ?_
            refine lv_iload_n S.1 S.2.1 d_Mo_keep_125 rfl (lv_at hl 1 rfl) ?_
            refine dw_iald S.1 S.2.1 hw ds_k65 (by omega) d_Mo_keep_126 ?_
            refine dw_iast S.1 S.2.1 hw ds_k68 (by omega) d_Mo_keep_127 (fun f_3 H locs ef_3 hw => ?_)
            refine lv_iinc (v := nI (i + 1)) (lv' := [(1, .int (nI (i + 1))), (0, .ref (a 54))]) S.1 S.2.1 d_Mo_keep_128 hl (k := 1) rfl (by rw [show Int32.ofInt 1 = nI 1 from rfl, nI_add]) (by decide) rfl (fun ls hl => ?_)
            refine lv_goto (tgt := 100) S.1 S.2.1 d_Mo_keep_131 (by decide) ?_
            exact ih_100 (i + 1) f_3 (by omega) (fun j hj => by have q := p1 j hj; exact ⟨fun t ht => by rw [ef_3, dw_w_eq, qk, dw_up_ne (by omega)]; exact q.1 t ht, by rw [ef_3, dw_w_ne (by decide)]; exact q.2⟩) (fun t h => by
    rw [ef_3, dw_w_eq, qk]
    by_cases et : t = i
    · rw [et, dw_up_eq, p5 65 (by decide) (by decide) (by decide)]
    · rw [dw_up_ne (by omega)]; exact p2 t (by omega)) (by rw [ef_3, dw_w_ne (by decide)]; exact p3) (by rw [ef_3, dw_w_ne (by decide)]; exact p4) (fun k k1 k2 k3 => by rw [ef_3, dw_w_ne k2]; exact p5 k k1 k2 k3) (by omega) H locs hw ls (lv_sub hl [1, 0] rfl)
      exact loop_100 _ 0 f_1 (Nat.zero_le _) (fun j hj => by have q := hsh j hj; exact ⟨fun t ht => by rw [eB, dw_w_ne (by decide)]; exact q.1 t ht, by rw [eB, dw_w_eq, dw_up_ne (by omega)]; exact q.2⟩) (fun t h => absurd h (Nat.not_lt_zero _)) (by rw [eB, dw_w_eq, hsz, dw_up_eq, n54]) (by rw [eB, dw_w_ne (by decide)]) (fun k k1 k2 k3 => by rw [eB, dw_w_ne k3]; exact hoth k k1 k2 k3) (Nat.lt_succ_self _) H locs hw ls (lv_sub hl [1, 0] rfl)
    exact cut_85 f (f 54 16) 0 (Or.inl ⟨by omega, rfl, rfl⟩) (rfl) (fun _ _ => ⟨fun _ _ => rfl, rfl⟩) (fun _ _ => rfl) (fun _ _ _ _ => rfl) H locs hw ls (lv_sub hl [0] rfl)
  · refine lv_iconst (v := nI 1) S.1 S.2.1 d_Mo_keep_9 (by decide) ?_
    refine lv_istore_n (lv' := [(1, .int (nI 1)), (0, .ref (a 54))]) S.1 S.2.1 d_Mo_keep_10 rfl hl (by decide) rfl (fun ls hl => ?_)
    have loop_11 : ∀ (n : Nat) (i : Nat) (f2 : Nat → Nat → Nat) (hi : 1 ≤ i ∧ i ≤ 6) (h1 : ∀ j, j + 1 < i → (∀ t, t < 8 → f2 68 (8 * j + t) = f 68 (8 * (j + 1) + t)) ∧ f2 69 j = f 69 (j + 1)) (h2 : ∀ j, i ≤ j + 1 → j < 6 → (∀ t, t < 8 → f2 68 (8 * j + t) = f 68 (8 * j + t)) ∧ f2 69 j = f 69 j) (h3 : ∀ k, k ≠ 68 → k ≠ 69 → f2 k = f k) (_ : 6 - i < n) (H : Heap) (locs : List Loc), dw_W D classes (ds_tys g) A s.heap (dw_l 77 (ds_ce g a) a f2) s H locs → ∀ (ls : Array Slot), lv_has ls 3 [(0, .ref (a 54)), (1, .int (nI i))] → W p l e R s m args below meth c H locs 0 0 Q (F0 m 11 ls []) := by
      intro n
      induction n with
      | zero => intro i f2 hi h1 h2 h3 h9; exact absurd h9 (Nat.not_lt_zero _)
      | succ n ih_11 =>
        intro i f2 hi h1 h2 h3 hm_11 H locs hw ls hl
        refine lv_iload_n S.1 S.2.1 d_Mo_keep_11 rfl (lv_at hl 1 rfl) ?_
        refine lv_bipush (v := nI 6) S.1 S.2.1 d_Mo_keep_12 (by decide) ?_
        refine dn_icmp_ge S.1 S.2.1 75 (by omega) (by decide) d_Mo_keep_14 (by decide) (fun h_14 => ?_) (fun h_14 => ?_)
        · have q16 : f2 54 16 = 6 := by rw [h3 54 (by decide) (by decide)]; exact h_6
          refine lv_aload_n S.1 S.2.1 d_Mo_keep_75 rfl (lv_at hl 0 rfl) ?_
          refine lv_dup S.1 S.2.1 d_Mo_keep_76 rfl ?_
          refine dw_getf (fi := 16) (v := .int (nI (f2 54 16))) S hw i_Mo ds_ob54 (by decide) rfl wd_378 rfl d_Mo_keep_77 ?_
          refine lv_iconst (v := nI 1) S.1 S.2.1 d_Mo_keep_80 (by decide) ?_
          refine dn_isub S.1 S.2.1 (by omega) d_Mo_keep_81 ?_
          refine dw_putf (fi := 16) S hw i_Mo t_Mo t_Mo_ok n_Mo ds_ob54 (by decide) rfl wd_378 rfl (by decide +kernel) (Nat.le_of_ble_eq_true rfl) rfl d_Mo_keep_82 (fun f_4 H locs ef_4 hw => ?_)
          have cut_85 : ∀ (f2 : Nat → Nat → Nat) (kk : Nat) (dd : Nat) (hkd : ((f 54 16 < 6 ∧ kk = f 54 16 ∧ dd = 0) ∨ (f 54 16 = 6 ∧ kk = 5 ∧ dd = 1))) (hsz : f2 54 16 = kk) (hsh : (∀ j, j < kk → (∀ t, t < 8 → f2 68 (8 * j + t) = f 68 (8 * (j + dd) + t)) ∧ f2 69 j = f 69 (j + dd))) (h54 : (∀ j, j ≠ 16 → f2 54 j = f 54 j)) (hoth : (∀ k, k ≠ 54 → k ≠ 68 → k ≠ 69 → f2 k = f k)) (H : Heap) (locs : List Loc), dw_W D classes (ds_tys g) A s.heap (dw_l 77 (ds_ce g a) a f2) s H locs → ∀ (ls : Array Slot), lv_has ls 3 [(0, .ref (a 54))] → W p l e R s m args below meth c H locs 0 0 Q (F0 m 85 ls []) := by
            intro f2 kk dd hkd hsz hsh h54 hoth H locs hw ls hl
            have n54 : f2 54 1 = f 54 1 := h54 1 (by decide)
            have k5 : kk ≤ 5 := by omega
            refine lv_aload_n S.1 S.2.1 d_Mo_keep_85 rfl (lv_at hl 0 rfl) ?_
            refine dw_getf (fi := 18) (v := .ref (a 69)) S hw i_Mo ds_ob54 (by decide) rfl wd_380 rfl d_Mo_keep_86 ?_
            refine lv_aload_n S.1 S.2.1 d_Mo_keep_89 rfl (lv_at hl 0 rfl) ?_
            refine dw_getf (fi := 16) (v := .int (nI (f2 54 16))) S hw i_Mo ds_ob54 (by decide) rfl wd_378 rfl d_Mo_keep_90 ?_
            refine lv_aload_n S.1 S.2.1 d_Mo_keep_93 rfl (lv_at hl 0 rfl) ?_
            refine dw_getf (fi := 1) (v := .int (nI (f2 54 1))) S hw i_Mo ds_ob54 (by decide) rfl wd_363 rfl d_Mo_keep_94 ?_
            refine dw_iast S.1 S.2.1 hw ds_k69 (by omega) d_Mo_keep_97 (fun f_5 H locs ef_5 hw => ?_)
            have eB := ef_5
            refine lv_iconst (v := nI 0) S.1 S.2.1 d_Mo_keep_98 (by decide) ?_
            refine lv_istore_n (lv' := [(1, .int (nI 0)), (0, .ref (a 54))]) S.1 S.2.1 d_Mo_keep_99 rfl hl (by decide) rfl (fun ls hl => ?_)
            have loop_100 : ∀ (n : Nat) (i : Nat) (f3 : Nat → Nat → Nat) (hi : i ≤ f 54 1) (p1 : (∀ j, j < kk → (∀ t, t < 8 → f3 68 (8 * j + t) = f 68 (8 * (j + dd) + t)) ∧ f3 69 j = f 69 (j + dd))) (p2 : ∀ t, t < i → f3 68 (8 * kk + t) = f 65 t) (p3 : f3 69 kk = f 54 1) (p4 : f3 54 = f2 54) (p5 : (∀ k, k ≠ 54 → k ≠ 68 → k ≠ 69 → f3 k = f k)) (_ : f 54 1 - i < n) (H : Heap) (locs : List Loc), dw_W D classes (ds_tys g) A s.heap (dw_l 77 (ds_ce g a) a f3) s H locs → ∀ (ls : Array Slot), lv_has ls 3 [(0, .ref (a 54)), (1, .int (nI i))] → W p l e R s m args below meth c H locs 0 0 Q (F0 m 100 ls []) := by
              intro n
              induction n with
              | zero => intro i f3 hi p1 p2 p3 p4 p5 h9; exact absurd h9 (Nat.not_lt_zero _)
              | succ n ih_100 =>
                intro i f3 hi p1 p2 p3 p4 p5 hm_100 H locs hw ls hl
                have qk : f3 54 16 = kk := by rw [p4]; exact hsz
                have qn : f3 54 1 = f 54 1 := by rw [p4]; exact n54
                refine lv_iload_n S.1 S.2.1 d_Mo_keep_100 rfl (lv_at hl 1 rfl) ?_
                refine lv_aload_n S.1 S.2.1 d_Mo_keep_101 rfl (lv_at hl 0 rfl) ?_
                refine dw_getf (fi := 1) (v := .int (nI (f3 54 1))) S hw i_Mo ds_ob54 (by decide) rfl wd_363 rfl d_Mo_keep_102 ?_
                refine dn_icmp_ge S.1 S.2.1 134 (by omega) (by omega) d_Mo_keep_105 (by decide) (fun h_105 => ?_) (fun h_105 => ?_)
                · refine lv_aload_n S.1 S.2.1 d_Mo_keep_134 rfl (lv_at hl 0 rfl) ?_
                  refine lv_dup S.1 S.2.1 d_Mo_keep_135 rfl ?_
                  refine dw_getf (fi := 16) (v := .int (nI (f3 54 16))) S hw i_Mo ds_ob54 (by decide) rfl wd_378 rfl d_Mo_keep_136 ?_
                  refine lv_iconst (v := nI 1) S.1 S.2.1 d_Mo_keep_139 (by decide) ?_
                  refine dn_iadd S.1 S.2.1 d_Mo_keep_140 ?_
                  refine dw_putf (fi := 16) S hw i_Mo t_Mo t_Mo_ok n_Mo ds_ob54 (by decide) rfl wd_378 rfl (by decide +kernel) (Nat.le_of_ble_eq_true rfl) rfl d_Mo_keep_141 (fun f_6 H locs ef_6 hw => ?_)
                  exact hret H locs _ ls _  hw (by
    have eC := ef_6
    refine ⟨kk, dd, hkd, by rw [eC, dw_w_eq, dw_up_eq, qk], fun j hj => ⟨fun t ht => ?_, ?_⟩, fun t ht => ?_, ?_, fun j hj => ?_, fun k k1 k2 k3 => ?_⟩
    · rw [eC, dw_w_ne (by decide)]; exact (p1 j hj).1 t ht
    · rw [eC, dw_w_ne (by decide)]; exact (p1 j hj).2
    · rw [eC, dw_w_ne (by decide)]; exact p2 t (by omega)
    · rw [eC, dw_w_ne (by decide)]; exact p3
    · rw [eC, dw_w_eq, dw_up_ne hj, p4]; exact h54 j hj
    · rw [eC, dw_w_ne k1]; exact p5 k k1 k2 k3) d_Mo_keep_144
                · refine lv_aload_n S.1 S.2.1 d_Mo_keep_108 rfl (lv_at hl 0 rfl) ?_
                  refine dw_getf (fi := 17) (v := .ref (a 68)) S hw i_Mo ds_ob54 (by decide) rfl wd_379 rfl d_Mo_keep_109 ?_
                  refine lv_bipush (v := nI 8) S.1 S.2.1 d_Mo_keep_112 (by decide) ?_
                  refine lv_aload_n S.1 S.2.1 d_Mo_keep_114 rfl (lv_at hl 0 rfl) ?_
                  refine dw_getf (fi := 16) (v := .int (nI (f3 54 16))) S hw i_Mo ds_ob54 (by decide) rfl wd_378 rfl d_Mo_keep_115 ?_
                  refine dn_imul S.1 S.2.1 d_Mo_keep_118 ?_
                  refine lv_iload_n S.1 S.2.1 d_Mo_keep_119 rfl (lv_at hl 1 rfl) ?_
                  refine dn_iadd S.1 S.2.1 d_Mo_keep_120 ?_
                  refine lv_aload_n S.1 S.2.1 d_Mo_keep_121 rfl (lv_at hl 0 rfl) ?_
                  refine dw_getf (fi := 13) (v := .ref (a 65)) S hw i_Mo ds_ob54 (by decide) rfl wd_375 rfl d_Mo_keep_122 ?_
                  refine lv_iload_n S.1 S.2.1 d_Mo_keep_125 rfl (lv_at hl 1 rfl) ?_
                  refine dw_iald S.1 S.2.1 hw ds_k65 (by omega) d_Mo_keep_126 ?_
                  refine dw_iast S.1 S.2.1 hw ds_k68 (by omega) d_Mo_keep_127 (fun f_7 H locs ef_7 hw => ?_)
                  refine lv_iinc (v := nI (i + 1)) (lv' := [(1, .int (nI (i + 1))), (0, .ref (a 54))]) S.1 S.2.1 d_Mo_keep_128 hl (k := 1) rfl (by rw [show Int32.ofInt 1 = nI 1 from rfl, nI_add]) (by decide) rfl (fun ls hl => ?_)
                  refine lv_goto (tgt := 100) S.1 S.2.1 d_Mo_keep_131 (by decide) ?_
                  exact ih_100 (i + 1) f_7 (by omega) (fun j hj => by have q := p1 j hj; exact ⟨fun t ht => by rw [ef_7, dw_w_eq, qk, dw_up_ne (by omega)]; exact q.1 t ht, by rw [ef_7, dw_w_ne (by decide)]; exact q.2⟩) (fun t h => by
    rw [ef_7, dw_w_eq, qk]
    by_cases et : t = i
    · rw [et, dw_up_eq, p5 65 (by decide) (by decide) (by decide)]
    · rw [dw_up_ne (by omega)]; exact p2 t (by omega)) (by rw [ef_7, dw_w_ne (by decide)]; exact p3) (by rw [ef_7, dw_w_ne (by decide)]; exact p4) (fun k k1 k2 k3 => by rw [ef_7, dw_w_ne k2]; exact p5 k k1 k2 k3) (by omega) H locs hw ls (lv_sub hl [1, 0] rfl)
            exact loop_100 _ 0 f_5 (Nat.zero_le _) (fun j hj => by have q := hsh j hj; exact ⟨fun t ht => by rw [eB, dw_w_ne (by decide)]; exact q.1 t ht, by rw [eB, dw_w_eq, dw_up_ne (by omega)]; exact q.2⟩) (fun t h => absurd h (Nat.not_lt_zero _)) (by rw [eB, dw_w_eq, hsz, dw_up_eq, n54]) (by rw [eB, dw_w_ne (by decide)]) (fun k k1 k2 k3 => by rw [eB, dw_w_ne k3]; exact hoth k k1 k2 k3) (Nat.lt_succ_self _) H locs hw ls (lv_sub hl [1, 0] rfl)
          exact cut_85 f_4 5 1 (Or.inr ⟨h_6, rfl, rfl⟩) (by rw [ef_4, dw_w_eq, dw_up_eq, h3 54 (by decide) (by decide), h_6]) (fun j hj => by have q := h1 j (by omega); exact ⟨fun t ht => by rw [ef_4, dw_w_ne (by decide)]; exact q.1 t ht, by rw [ef_4, dw_w_ne (by decide)]; exact q.2⟩) (fun j hj => by rw [ef_4, dw_w_eq, dw_up_ne hj, h3 54 (by decide) (by decide)]) (fun k k1 k2 k3 => by rw [ef_4, dw_w_ne k1]; exact h3 k k2 k3) H locs hw ls (lv_sub hl [0] rfl)
        · refine lv_aload_n S.1 S.2.1 d_Mo_keep_17 rfl (lv_at hl 0 rfl) ?_
          refine dw_getf (fi := 18) (v := .ref (a 69)) S hw i_Mo ds_ob54 (by decide) rfl wd_380 rfl d_Mo_keep_18 ?_
          refine lv_iload_n S.1 S.2.1 d_Mo_keep_21 rfl (lv_at hl 1 rfl) ?_
          refine lv_iconst (v := nI 1) S.1 S.2.1 d_Mo_keep_22 (by decide) ?_
          refine dn_isub S.1 S.2.1 (by omega) d_Mo_keep_23 ?_
          refine lv_aload_n S.1 S.2.1 d_Mo_keep_24 rfl (lv_at hl 0 rfl) ?_
          refine dw_getf (fi := 18) (v := .ref (a 69)) S hw i_Mo ds_ob54 (by decide) rfl wd_380 rfl d_Mo_keep_25 ?_
          refine lv_iload_n S.1 S.2.1 d_Mo_keep_28 rfl (lv_at hl 1 rfl) ?_
          refine dw_iald S.1 S.2.1 hw ds_k69 (by omega) d_Mo_keep_29 ?_
          refine dw_iast S.1 S.2.1 hw ds_k69 (by omega) d_Mo_keep_30 (fun f_8 H locs ef_8 hw => ?_)
          have eA := ef_8
          refine lv_iconst (v := nI 0) S.1 S.2.1 d_Mo_keep_31 (by decide) ?_
          refine lv_istore_n (lv' := [(2, .int (nI 0)), (0, .ref (a 54)), (1, .int (nI i))]) S.1 S.2.1 d_Mo_keep_32 rfl hl (by decide) rfl (fun ls hl => ?_)
          have loop_33 : ∀ (n : Nat) (t : Nat) (f3 : Nat → Nat → Nat) (ht : t ≤ 8) (g1 : ∀ j, j + 1 < i → ∀ t2, t2 < 8 → f3 68 (8 * j + t2) = f 68 (8 * (j + 1) + t2)) (g2 : ∀ t2, t2 < t → f3 68 (8 * (i - 1) + t2) = f 68 (8 * i + t2)) (g3 : ∀ j, i ≤ j → j < 6 → ∀ t2, t2 < 8 → f3 68 (8 * j + t2) = f 68 (8 * j + t2)) (g4 : ∀ j, j < i → f3 69 j = f 69 (j + 1)) (g5 : ∀ j, i ≤ j → j < 6 → f3 69 j = f 69 j) (g6 : ∀ k, k ≠ 68 → k ≠ 69 → f3 k = f k) (_ : 8 - t < n) (H : Heap) (locs : List Loc), dw_W D classes (ds_tys g) A s.heap (dw_l 77 (ds_ce g a) a f3) s H locs → ∀ (ls : Array Slot), lv_has ls 3 [(0, .ref (a 54)), (1, .int (nI i)), (2, .int (nI t))] → W p l e R s m args below meth c H locs 0 0 Q (F0 m 33 ls []) := by
            intro n
            induction n with
            | zero => intro t f3 ht g1 g2 g3 g4 g5 g6 h9; exact absurd h9 (Nat.not_lt_zero _)
            | succ n ih_33 =>
              intro t f3 ht g1 g2 g3 g4 g5 g6 hm_33 H locs hw ls hl
              refine lv_iload_n S.1 S.2.1 d_Mo_keep_33 rfl (lv_at hl 2 rfl) ?_
              refine lv_bipush (v := nI 8) S.1 S.2.1 d_Mo_keep_34 (by decide) ?_
              refine dn_icmp_ge S.1 S.2.1 69 (by omega) (by decide) d_Mo_keep_36 (by decide) (fun h_36 => ?_) (fun h_36 => ?_)
              · refine lv_iinc (v := nI (i + 1)) (lv' := [(1, .int (nI (i + 1))), (0, .ref (a 54)), (2, .int (nI t))]) S.1 S.2.1 d_Mo_keep_69 hl (k := 1) rfl (by rw [show Int32.ofInt 1 = nI 1 from rfl, nI_add]) (by decide) rfl (fun ls hl => ?_)
                refine lv_goto (tgt := 11) S.1 S.2.1 d_Mo_keep_72 (by decide) ?_
                exact ih_11 (i + 1) f3 (by omega) (fun j hj => by
    by_cases ej : j + 1 = i
    · refine ⟨fun t2 ht2 => ?_, g4 j (by omega)⟩
      have q := g2 t2 (by omega)
      rw [show i - 1 = j by omega, ← ej] at q
      exact q
    · exact ⟨g1 j (by omega), g4 j (by omega)⟩) (fun j hj hj2 => ⟨g3 j (by omega) hj2, g5 j (by omega) hj2⟩) (g6) (by omega) H locs hw ls (lv_sub hl [1, 0] rfl)
              · refine lv_aload_n S.1 S.2.1 d_Mo_keep_39 rfl (lv_at hl 0 rfl) ?_
                refine dw_getf (fi := 17) (v := .ref (a 68)) S hw i_Mo ds_ob54 (by decide) rfl wd_379 rfl d_Mo_keep_40 ?_
                refine lv_bipush (v := nI 8) S.1 S.2.1 d_Mo_keep_43 (by decide) ?_
                refine lv_iload_n S.1 S.2.1 d_Mo_keep_45 rfl (lv_at hl 1 rfl) ?_
                refine lv_iconst (v := nI 1) S.1 S.2.1 d_Mo_keep_46 (by decide) ?_
                refine dn_isub S.1 S.2.1 (by omega) d_Mo_keep_47 ?_
                refine dn_imul S.1 S.2.1 d_Mo_keep_48 ?_
                refine lv_iload_n S.1 S.2.1 d_Mo_keep_49 rfl (lv_at hl 2 rfl) ?_
                refine dn_iadd S.1 S.2.1 d_Mo_keep_50 ?_
                refine lv_aload_n S.1 S.2.1 d_Mo_keep_51 rfl (lv_at hl 0 rfl) ?_
                refine dw_getf (fi := 17) (v := .ref (a 68)) S hw i_Mo ds_ob54 (by decide) rfl wd_379 rfl d_Mo_keep_52 ?_
                refine lv_bipush (v := nI 8) S.1 S.2.1 d_Mo_keep_55 (by decide) ?_
                refine lv_iload_n S.1 S.2.1 d_Mo_keep_57 rfl (lv_at hl 1 rfl) ?_
                refine dn_imul S.1 S.2.1 d_Mo_keep_58 ?_
                refine lv_iload_n S.1 S.2.1 d_Mo_keep_59 rfl (lv_at hl 2 rfl) ?_
                refine dn_iadd S.1 S.2.1 d_Mo_keep_60 ?_
                refine dw_iald S.1 S.2.1 hw ds_k68 (by omega) d_Mo_keep_61 ?_
                refine dw_iast S.1 S.2.1 hw ds_k68 (by omega) d_Mo_keep_62 (fun f_9 H locs ef_9 hw => ?_)
                refine lv_iinc (v := nI (t + 1)) (lv' := [(2, .int (nI (t + 1))), (0, .ref (a 54)), (1, .int (nI i))]) S.1 S.2.1 d_Mo_keep_63 hl (k := 2) rfl (by rw [show Int32.ofInt 1 = nI 1 from rfl, nI_add]) (by decide) rfl (fun ls hl => ?_)
                refine lv_goto (tgt := 33) S.1 S.2.1 d_Mo_keep_66 (by decide) ?_
                exact ih_33 (t + 1) f_9 (by omega) (fun j hj t2 ht2 => by rw [ef_9, dw_w_eq, dw_up_ne (by omega)]; exact g1 j hj t2 ht2) (fun t2 h => by
    rw [ef_9, dw_w_eq]
    by_cases et : t2 = t
    · rw [et, dw_up_eq]; exact g3 i (Nat.le_refl _) (by omega) t (by omega)
    · rw [dw_up_ne (by omega)]; exact g2 t2 (by omega)) (fun j hj hj2 t2 ht2 => by rw [ef_9, dw_w_eq, dw_up_ne (by omega)]; exact g3 j hj hj2 t2 ht2) (fun j hj => by rw [ef_9, dw_w_ne (by decide)]; exact g4 j hj) (fun j hj hj2 => by rw [ef_9, dw_w_ne (by decide)]; exact g5 j hj hj2) (fun k k1 k2 => by rw [ef_9, dw_w_ne k1]; exact g6 k k1 k2) (by omega) H locs hw ls (lv_sub hl [1, 2, 0] rfl)
          exact loop_33 _ 0 f_8 (by decide) (fun j hj t2 ht2 => by rw [eA, dw_w_ne (by decide)]; exact (h1 j hj).1 t2 ht2) (fun t2 h => absurd h (Nat.not_lt_zero _)) (fun j hj hj2 t2 ht2 => by rw [eA, dw_w_ne (by decide)]; exact (h2 j (by omega) hj2).1 t2 ht2) (fun j hj => by
    rw [eA, dw_w_eq]
    by_cases ej : j = i - 1
    · rw [ej, dw_up_eq, (h2 i (by omega) (by omega)).2, show i - 1 + 1 = i by omega]
    · rw [dw_up_ne ej]; exact (h1 j (by omega)).2) (fun j hj hj2 => by rw [eA, dw_w_eq, dw_up_ne (by omega)]; exact (h2 j (by omega) hj2).2) (fun k k1 k2 => by rw [eA, dw_w_ne k2]; exact h3 k k1 k2) (Nat.lt_succ_self _) H locs hw ls (lv_sub hl [1, 2, 0] rfl)
    exact loop_11 _ 1 f (by decide) (fun j hj => by omega) (fun _ _ _ => ⟨fun _ _ => rfl, rfl⟩) (fun _ _ _ => rfl) (Nat.lt_succ_self _) H locs hw ls (lv_sub hl [1, 0] rfl)
set_option maxHeartbeats 4000000 in
set_option maxRecDepth 100000 in
theorem m_undo (l : Launch) (D : va_G) (g : Nat → ClassId) (a : Nat → Nat) (f : Nat → Nat → Nat)  (hn : f 54 1 ≤ 8) (hk : f 54 16 ≤ 6) (hks : ∀ k, k < f 54 16 → f 69 k ≤ 8) : ds_I l D g a y_Mo_undo b_Mo_undo 2 .boolean 0 0 [.ref (a 54)] f (fun r u => if f 54 16 = 0 then r = nI 0 ∧ u = f else r = nI 1 ∧ u 54 16 = f 54 16 - 1 ∧ (∀ x, x < f 54 1 → u 65 x = if x < f 69 (f 54 16 - 1) then f 68 (8 * (f 54 16 - 1) + x) else f 57 x) ∧ (∀ j, j ≠ 16 → u 54 j = f 54 j) ∧ ∀ k, k ≠ 54 → k ≠ 65 → u k = f k) := by
  refine dw_ofI (by decide) (fun v u h => by split at h <;> (rw [h.1]; rfl)) (Nat.le_of_ble_eq_true rfl) ?_
  intro p e s m args below meth c ls A Q R H locs hR hA S hN hw hl hret
  have hl : lv_has ls 2 [(0, .ref (a 54))] := hl
  have S : CallFix p m c b_Mo_undo 2 s args ds_T R_Mo := S
  refine lv_aload_n S.1 S.2.1 d_Mo_undo_0 rfl (lv_at hl 0 rfl) ?_
  refine dw_getf (fi := 16) (v := .int (nI (f 54 16))) S hw i_Mo ds_ob54 (by decide) rfl wd_378 rfl d_Mo_undo_1 ?_
  refine dn_if_ne S.1 S.2.1 9 (by omega) d_Mo_undo_4 (by decide) (fun h_4 => ?_) (fun h_4 => ?_)
  · refine lv_aload_n S.1 S.2.1 d_Mo_undo_9 rfl (lv_at hl 0 rfl) ?_
    refine lv_dup S.1 S.2.1 d_Mo_undo_10 rfl ?_
    refine dw_getf (fi := 16) (v := .int (nI (f 54 16))) S hw i_Mo ds_ob54 (by decide) rfl wd_378 rfl d_Mo_undo_11 ?_
    refine lv_iconst (v := nI 1) S.1 S.2.1 d_Mo_undo_14 (by decide) ?_
    refine dn_isub S.1 S.2.1 (by omega) d_Mo_undo_15 ?_
    refine dw_putf (fi := 16) S hw i_Mo t_Mo t_Mo_ok n_Mo ds_ob54 (by decide) rfl wd_378 rfl (by decide +kernel) (Nat.le_of_ble_eq_true rfl) rfl d_Mo_undo_16 (fun f_1 H locs ef_1 hw => ?_)
    refine lv_iconst (v := nI 0) S.1 S.2.1 d_Mo_undo_19 (by decide) ?_
    refine lv_istore_n (lv' := [(1, .int (nI 0)), (0, .ref (a 54))]) S.1 S.2.1 d_Mo_undo_20 rfl hl (by decide) rfl (fun ls hl => ?_)
    have loop_21 : ∀ (n : Nat) (i : Nat) (f2 : Nat → Nat → Nat) (hi : i ≤ f 54 1) (hU : ∀ x, x < i → f2 65 x = if x < f 69 (f 54 16 - 1) then f 68 (8 * (f 54 16 - 1) + x) else f 57 x) (hz : f2 54 16 = f 54 16 - 1) (h54 : (∀ j, j ≠ 16 → f2 54 j = f 54 j)) (hg : ∀ k, k ≠ 54 → k ≠ 65 → f2 k = f k) (_ : f 54 1 - i < n) (H : Heap) (locs : List Loc), dw_W D classes (ds_tys g) A s.heap (dw_l 77 (ds_ce g a) a f2) s H locs → ∀ (ls : Array Slot), lv_has ls 2 [(0, .ref (a 54)), (1, .int (nI i))] → W p l e R s m args below meth c H locs 0 0 Q (F0 m 21 ls []) := by
      intro n
      induction n with
      | zero => intro i f2 hi hU hz h54 hg h9; exact absurd h9 (Nat.not_lt_zero _)
      | succ n ih_21 =>
        intro i f2 hi hU hz h54 hg hm_21 H locs hw ls hl
        have q1 : f2 54 1 = f 54 1 := h54 1 (by decide)
        have q69 : f2 69 (f2 54 16) = f 69 (f 54 16 - 1) := by rw [hz, hg 69 (by decide) (by decide)]
        have kb := hks (f 54 16 - 1) (by omega)
        refine lv_iload_n S.1 S.2.1 d_Mo_undo_21 rfl (lv_at hl 1 rfl) ?_
        refine lv_aload_n S.1 S.2.1 d_Mo_undo_22 rfl (lv_at hl 0 rfl) ?_
        refine dw_getf (fi := 1) (v := .int (nI (f2 54 1))) S hw i_Mo ds_ob54 (by decide) rfl wd_363 rfl d_Mo_undo_23 ?_
        refine dn_icmp_ge S.1 S.2.1 77 (by omega) (by omega) d_Mo_undo_26 (by decide) (fun h_26 => ?_) (fun h_26 => ?_)
        · refine lv_iconst (v := nI 1) S.1 S.2.1 d_Mo_undo_77 (by decide) ?_
          exact hret H locs _ ls _ _ hw (by
    rw [if_neg h_4]
    exact ⟨rfl, hz, fun x hx => hU x (by omega), h54, hg⟩) d_Mo_undo_78
        · refine lv_aload_n S.1 S.2.1 d_Mo_undo_29 rfl (lv_at hl 0 rfl) ?_
          refine dw_getf (fi := 13) (v := .ref (a 65)) S hw i_Mo ds_ob54 (by decide) rfl wd_375 rfl d_Mo_undo_30 ?_
          refine lv_iload_n S.1 S.2.1 d_Mo_undo_33 rfl (lv_at hl 1 rfl) ?_
          refine lv_iload_n S.1 S.2.1 d_Mo_undo_34 rfl (lv_at hl 1 rfl) ?_
          refine lv_aload_n S.1 S.2.1 d_Mo_undo_35 rfl (lv_at hl 0 rfl) ?_
          refine dw_getf (fi := 18) (v := .ref (a 69)) S hw i_Mo ds_ob54 (by decide) rfl wd_380 rfl d_Mo_undo_36 ?_
          refine lv_aload_n S.1 S.2.1 d_Mo_undo_39 rfl (lv_at hl 0 rfl) ?_
          refine dw_getf (fi := 16) (v := .int (nI (f2 54 16))) S hw i_Mo ds_ob54 (by decide) rfl wd_378 rfl d_Mo_undo_40 ?_
          refine dw_iald S.1 S.2.1 hw ds_k69 (by omega) d_Mo_undo_43 ?_
          refine dn_icmp_ge S.1 S.2.1 64 (by omega) (by omega) d_Mo_undo_44 (by decide) (fun h_44 => ?_) (fun h_44 => ?_)
          · refine lv_aload_n S.1 S.2.1 d_Mo_undo_64 rfl (lv_at hl 0 rfl) ?_
            refine dw_getf (fi := 4) (v := .ref (a 57)) S hw i_Mo ds_ob54 (by decide) rfl wd_366 rfl d_Mo_undo_65 ?_
            refine lv_iload_n S.1 S.2.1 d_Mo_undo_68 rfl (lv_at hl 1 rfl) ?_
            refine dw_iald S.1 S.2.1 hw ds_k57 (by omega) d_Mo_undo_69 ?_
            refine dw_iast S.1 S.2.1 hw ds_k65 (by omega) d_Mo_undo_70 (fun f_2 H locs ef_2 hw => ?_)
            refine lv_iinc (v := nI (i + 1)) (lv' := [(1, .int (nI (i + 1))), (0, .ref (a 54))]) S.1 S.2.1 d_Mo_undo_71 hl (k := 1) rfl (by rw [show Int32.ofInt 1 = nI 1 from rfl, nI_add]) (by decide) rfl (fun ls hl => ?_)
            refine lv_goto (tgt := 21) S.1 S.2.1 d_Mo_undo_74 (by decide) ?_
            exact ih_21 (i + 1) f_2 (by omega) (fun x hx => by
    rw [ef_2, dw_w_eq]
    by_cases ex : x = i
    · rw [ex, dw_up_eq, if_neg (by omega), hg 57 (by decide) (by decide)]
    · rw [dw_up_ne ex]; exact hU x (by omega)) (by rw [ef_2, dw_w_ne (by decide)]; exact hz) (fun j hj => by rw [ef_2, dw_w_ne (by decide)]; exact h54 j hj) (fun k k1 k2 => by rw [ef_2, dw_w_ne k2]; exact hg k k1 k2) (by omega) H locs hw ls (lv_sub hl [1, 0] rfl)
          · refine lv_aload_n S.1 S.2.1 d_Mo_undo_47 rfl (lv_at hl 0 rfl) ?_
            refine dw_getf (fi := 17) (v := .ref (a 68)) S hw i_Mo ds_ob54 (by decide) rfl wd_379 rfl d_Mo_undo_48 ?_
            refine lv_bipush (v := nI 8) S.1 S.2.1 d_Mo_undo_51 (by decide) ?_
            refine lv_aload_n S.1 S.2.1 d_Mo_undo_53 rfl (lv_at hl 0 rfl) ?_
            refine dw_getf (fi := 16) (v := .int (nI (f2 54 16))) S hw i_Mo ds_ob54 (by decide) rfl wd_378 rfl d_Mo_undo_54 ?_
            refine dn_imul S.1 S.2.1 d_Mo_undo_57 ?_
            refine lv_iload_n S.1 S.2.1 d_Mo_undo_58 rfl (lv_at hl 1 rfl) ?_
            refine dn_iadd S.1 S.2.1 d_Mo_undo_59 ?_
            refine dw_iald S.1 S.2.1 hw ds_k68 (by omega) d_Mo_undo_60 ?_
            refine lv_goto (tgt := 70) S.1 S.2.1 d_Mo_undo_61 (by decide) ?_
            refine dw_iast S.1 S.2.1 hw ds_k65 (by omega) d_Mo_undo_70 (fun f_3 H locs ef_3 hw => ?_)
            refine lv_iinc (v := nI (i + 1)) (lv' := [(1, .int (nI (i + 1))), (0, .ref (a 54))]) S.1 S.2.1 d_Mo_undo_71 hl (k := 1) rfl (by rw [show Int32.ofInt 1 = nI 1 from rfl, nI_add]) (by decide) rfl (fun ls hl => ?_)
            refine lv_goto (tgt := 21) S.1 S.2.1 d_Mo_undo_74 (by decide) ?_
            exact ih_21 (i + 1) f_3 (by omega) (fun x hx => by
    rw [ef_3, dw_w_eq]
    by_cases ex : x = i
    · rw [ex, dw_up_eq, if_pos (by omega), hz, hg 68 (by decide) (by decide)]
    · rw [dw_up_ne ex]; exact hU x (by omega)) (by rw [ef_3, dw_w_ne (by decide)]; exact hz) (fun j hj => by rw [ef_3, dw_w_ne (by decide)]; exact h54 j hj) (fun k k1 k2 => by rw [ef_3, dw_w_ne k2]; exact hg k k1 k2) (by omega) H locs hw ls (lv_sub hl [1, 0] rfl)
    exact loop_21 _ 0 f_1 (Nat.zero_le _) (fun x hx => absurd hx (Nat.not_lt_zero _)) (by rw [ef_1, dw_w_eq, dw_up_eq]) (fun j hj => by rw [ef_1, dw_w_eq, dw_up_ne hj]) (fun k k1 k2 => by rw [ef_1, dw_w_ne k1]) (Nat.lt_succ_self _) H locs hw ls (lv_sub hl [1, 0] rfl)
  · refine lv_iconst (v := nI 0) S.1 S.2.1 d_Mo_undo_7 (by decide) ?_
    exact hret H locs _ ls _ _ hw (by rw [if_pos h_4]; exact ⟨rfl, rfl⟩) d_Mo_undo_8
set_option maxHeartbeats 4000000 in
set_option maxRecDepth 100000 in
theorem m_place (l : Launch) (D : va_G) (g : Nat → ClassId) (a : Nat → Nat) (f : Nat → Nat → Nat) (rw : Nat → Nat → Nat) (x : Int32) (ok : ds_ok (md_v f rw)) : ds_I l D g a y_Mo_place b_Mo_place 3 .int 1 24 [.ref (a 54), .int x] f (fun r u => (if ds_in x (f 54 1) ∧ ¬ f 65 x.toNatClampNeg = f 54 0 then r = ds_pos x.toNatClampNeg (ds_rd (md_v f rw) (fun zz => f 65 zz == f 65 x.toNatClampNeg) (f 65 x.toNatClampNeg)) 0 else r = (-1)) ∧ ∃ (h : Nat → Nat) (z : Nat), u = md_r f h z) := by
  refine dw_ofI (by decide) (fun _ _ _ => rfl) (Nat.le_of_ble_eq_true rfl) ?_
  intro p e s m args below meth c ls A Q R H locs hR hA S hN hw hl hret
  have hl : lv_has ls 3 [(0, .ref (a 54)), (1, .int x)] := hl
  have S : CallFix p m c b_Mo_place 3 s args ds_T R_Mo := S
  obtain ⟨hV, hn, hex, hst, hve, hrA, hrB, hrl, hwy⟩ := md_facts ok
  have hrw := ok.2.2.2.2.2.2.2
  refine lv_aload_n S.1 S.2.1 d_Mo_place_0 rfl (lv_at hl 0 rfl) ?_
  refine lv_iload_n S.1 S.2.1 d_Mo_place_1 rfl (lv_at hl 1 rfl) ?_
  refine dw_afti hw hA (dw_runV (As := [.int x]) (rest := []) (ko := 54) hw S ds_good (m_isStop l D g a f x (hn) H.size) cw_Mo_isStop wd_464 wd_466 ws_Mo_isStop ds_ob54 dw_blind (dw_pre hw hN) rfl hl.1 rfl ⟨Nat.le_trans (Nat.le_of_ble_eq_true rfl) hR.1, Nat.le_trans (Nat.le_of_ble_eq_true rfl) hR.2⟩ (Nat.le_of_ble_eq_true rfl) ⟨Nat.zero_le _, Nat.zero_le _⟩ d_Mo_place_2) (fun r_2 f_1 H locs hp hw => ?_)
  obtain ⟨er, ef⟩ := hp
  subst er
  rw [ef] at hw
  refine dn_ifb_eq S.1 S.2.1 21 d_Mo_place_5 (by decide) (fun h_5 => ?_) (fun h_5 => ?_)
  · refine lv_iconst (v := (-1)) S.1 S.2.1 d_Mo_place_21 (by decide) ?_
    exact hret H locs _ ls _ _ hw (⟨by rw [if_neg (fun q => h_5 q.1)], f 74, f 54 25, md_r_id⟩) d_Mo_place_22
  · obtain ⟨ex1, hx1⟩ := ds_in_nI h_5
    have s1 := hst _ hx1
    have hl : lv_has ls 3 [(0, .ref (a 54)), (1, .int (nI (x.toNatClampNeg)))] := by have hl2 := hl; rw [ex1] at hl2; exact hl2
    refine lv_aload_n S.1 S.2.1 d_Mo_place_8 rfl (lv_at hl 0 rfl) ?_
    refine dw_getf (fi := 13) (v := .ref (a 65)) S hw i_Mo ds_ob54 (by decide) rfl wd_375 rfl d_Mo_place_9 ?_
    refine lv_iload_n S.1 S.2.1 d_Mo_place_12 rfl (lv_at hl 1 rfl) ?_
    refine dw_iald S.1 S.2.1 hw ds_k65 (by omega) d_Mo_place_13 ?_
    refine lv_aload_n S.1 S.2.1 d_Mo_place_14 rfl (lv_at hl 0 rfl) ?_
    refine dw_getf (fi := 0) (v := .int (nI (f 54 0))) S hw i_Mo ds_ob54 (by decide) rfl wd_362 rfl d_Mo_place_15 ?_
    refine dn_icmp_ne S.1 S.2.1 23 (by omega) (by omega) d_Mo_place_18 (by decide) (fun h_18 => ?_) (fun h_18 => ?_)
    · refine lv_aload_n S.1 S.2.1 d_Mo_place_23 rfl (lv_at hl 0 rfl) ?_
      refine lv_aload_n S.1 S.2.1 d_Mo_place_24 rfl (lv_at hl 0 rfl) ?_
      refine dw_getf (fi := 13) (v := .ref (a 65)) S hw i_Mo ds_ob54 (by decide) rfl wd_375 rfl d_Mo_place_25 ?_
      refine lv_aload_n S.1 S.2.1 d_Mo_place_28 rfl (lv_at hl 0 rfl) ?_
      refine dw_getf (fi := 13) (v := .ref (a 65)) S hw i_Mo ds_ob54 (by decide) rfl wd_375 rfl d_Mo_place_29 ?_
      refine lv_iload_n S.1 S.2.1 d_Mo_place_32 rfl (lv_at hl 1 rfl) ?_
      refine dw_iald S.1 S.2.1 hw ds_k65 (by omega) d_Mo_place_33 ?_
      refine dw_aftv hw hA (dw_runV (As := [.ref (a 65), .int (nI (f 65 (x.toNatClampNeg)))]) (rest := []) (ko := 54) hw S ds_good (m_go l D g a f rw 65 (f 65 (x.toNatClampNeg)) (ok) (by omega) (ds_k65) (Or.inl rfl) (fun x hx => by have := hst x hx; omega) H.size) cw_Mo_go wd_502 wd_504 ws_Mo_go ds_ob54 dw_blind (dw_pre hw hN) rfl hl.1 rfl ⟨Nat.le_trans (Nat.le_of_ble_eq_true rfl) hR.1, Nat.le_trans (Nat.le_of_ble_eq_true rfl) hR.2⟩ (Nat.le_of_ble_eq_true rfl) ⟨Nat.zero_le _, Nat.zero_le _⟩ d_Mo_place_34) (fun f_2 H locs hp hw => ?_)
      obtain ⟨hgo, ef_2, hgs⟩ := hp
      have eG := ef_2
      obtain ⟨L, eL⟩ : ∃ z, z = ds_rd (md_v f rw) (fun zz => f 65 zz == f 65 x.toNatClampNeg) (f 65 x.toNatClampNeg) := ⟨_, rfl⟩
      rw [← eL] at eG hgs
      have hv3 : f 65 x.toNatClampNeg < f 54 0 := by omega
      have hLn : L.length ≤ f 54 1 := by rw [eL]; exact dr_rd_len hrw _ hv3
      have hLm : ∀ z ∈ L, z < f 54 1 := fun z hz => (dr_rd_in hrw _ hv3 (by rw [eL] at hz; exact hz)).1
      have qz : f_2 54 25 = L.length := by rw [eG, md_r_z]
      refine lv_iconst (v := nI 0) S.1 S.2.1 d_Mo_place_37 (by decide) ?_
      refine lv_istore_n (lv' := [(2, .int (nI 0)), (0, .ref (a 54)), (1, .int (nI (x.toNatClampNeg)))]) S.1 S.2.1 d_Mo_place_38 rfl hl (by decide) rfl (fun ls hl => ?_)
      have loop_39 : ∀ (n : Nat) (i : Nat) (hi : i ≤ L.length) (hE : ds_pos x.toNatClampNeg L 0 = ds_pos x.toNatClampNeg (L.drop i) i) (_ : L.length - i < n) (H : Heap) (locs : List Loc), dw_W D classes (ds_tys g) A s.heap (dw_l 77 (ds_ce g a) a f_2) s H locs → ∀ (ls : Array Slot), lv_has ls 3 [(0, .ref (a 54)), (1, .int (nI (x.toNatClampNeg))), (2, .int (nI i))] → W p l e R s m args below meth c H locs 0 0 Q (F0 m 39 ls []) := by
        intro n
        induction n with
        | zero => intro i hi hE h9; exact absurd h9 (Nat.not_lt_zero _)
        | succ n ih_39 =>
          intro i hi hE hm_39 H locs hw ls hl
          refine lv_iload_n S.1 S.2.1 d_Mo_place_39 rfl (lv_at hl 2 rfl) ?_
          refine lv_aload_n S.1 S.2.1 d_Mo_place_40 rfl (lv_at hl 0 rfl) ?_
          refine dw_getf (fi := 25) (v := .int (nI (f_2 54 25))) S hw i_Mo ds_ob54 (by decide) rfl wd_387 rfl d_Mo_place_41 ?_
          refine dn_icmp_ge S.1 S.2.1 65 (by omega) (by omega) d_Mo_place_44 (by decide) (fun h_44 => ?_) (fun h_44 => ?_)
          · refine lv_iconst (v := (-1)) S.1 S.2.1 d_Mo_place_65 (by decide) ?_
            exact hret H locs _ ls _ _ hw (⟨by rw [if_pos ⟨h_5, h_18⟩, ← eL, hE, show i = L.length by omega, List.drop_length]; rfl, hgo, L.length, eG⟩) d_Mo_place_66
          · have h_45 : i < L.length := by omega
            have q74 : f_2 74 i = L.getD i 0 := by rw [eG, md_r_74]; have q := hgs i h_45; rwa [Nat.zero_add] at q
            have hy := hLm _ (ds_getD_mem h_45)
            refine lv_aload_n S.1 S.2.1 d_Mo_place_47 rfl (lv_at hl 0 rfl) ?_
            refine dw_getf (fi := 24) (v := .ref (a 74)) S hw i_Mo ds_ob54 (by decide) rfl wd_386 rfl d_Mo_place_48 ?_
            refine lv_iload_n S.1 S.2.1 d_Mo_place_51 rfl (lv_at hl 2 rfl) ?_
            refine dw_iald S.1 S.2.1 hw ds_k74 (by omega) d_Mo_place_52 ?_
            refine lv_iload_n S.1 S.2.1 d_Mo_place_53 rfl (lv_at hl 1 rfl) ?_
            refine dn_icmp_ne S.1 S.2.1 59 (by omega) (by omega) d_Mo_place_54 (by decide) (fun h_54 => ?_) (fun h_54 => ?_)
            · refine lv_iinc (v := nI (i + 1)) (lv' := [(2, .int (nI (i + 1))), (0, .ref (a 54)), (1, .int (nI (x.toNatClampNeg)))]) S.1 S.2.1 d_Mo_place_59 hl (k := 2) rfl (by rw [show Int32.ofInt 1 = nI 1 from rfl, nI_add]) (by decide) rfl (fun ls hl => ?_)
              refine lv_goto (tgt := 39) S.1 S.2.1 d_Mo_place_62 (by decide) ?_
              exact ih_39 (i + 1) (by omega) (by rw [hE, ds_pos_s h_45, if_neg (by rw [← q74]; exact h_54)]) (by omega) H locs hw ls (lv_sub hl [1, 2, 0] rfl)
            · refine lv_iload_n S.1 S.2.1 d_Mo_place_57 rfl (lv_at hl 2 rfl) ?_
              exact hret H locs _ ls _ _ hw (⟨by rw [if_pos ⟨h_5, h_18⟩, ← eL, hE, ds_pos_s h_45, if_pos (by rw [← q74]; exact h_54)], hgo, L.length, eG⟩) d_Mo_place_58
      exact loop_39 _ 0 (Nat.zero_le _) (rfl) (Nat.lt_succ_self _) H locs hw ls (lv_sub hl [1, 2, 0] rfl)
    · refine lv_iconst (v := (-1)) S.1 S.2.1 d_Mo_place_21 (by decide) ?_
      exact hret H locs _ ls _ _ hw (⟨by rw [if_neg (fun q => q.2 h_18)], f 74, f 54 25, md_r_id⟩) d_Mo_place_22
set_option maxHeartbeats 4000000 in
set_option maxRecDepth 100000 in
theorem m_send (l : Launch) (D : va_G) (g : Nat → ClassId) (a : Nat → Nat) (f : Nat → Nat → Nat)  (hn : f 54 1 ≤ 8) (hbd : ∀ x, x < f 54 1 → f 65 x < 2 ^ 31 ∧ f 72 x < 2 ^ 31) : ds_I l D g a y_Mo_send b_Mo_send 3 .int 0 0 [.ref (a 54)] f (fun r u => r = nI (ds_cnt (fun x => f 65 x != f 72 x) (f 54 1)) ∧ (∀ x, u 72 x = (if x < f 54 1 then f 65 x else f 72 x) ∧ u 73 x = (if x < f 54 1 ∧ f 65 x ≠ f 72 x then f 73 x + 1 else f 73 x)) ∧ ∀ k, k ≠ 72 → k ≠ 73 → u k = f k) := by
  refine dw_ofI (by decide) (fun _ _ _ => rfl) (Nat.le_of_ble_eq_true rfl) ?_
  intro p e s m args below meth c ls A Q R H locs hR hA S hN hw hl hret
  have hl : lv_has ls 3 [(0, .ref (a 54))] := hl
  have S : CallFix p m c b_Mo_send 3 s args ds_T R_Mo := S
  refine lv_iconst (v := nI 0) S.1 S.2.1 d_Mo_send_0 (by decide) ?_
  refine lv_istore_n (lv' := [(1, .int (nI 0)), (0, .ref (a 54))]) S.1 S.2.1 d_Mo_send_1 rfl hl (by decide) rfl (fun ls hl => ?_)
  refine lv_iconst (v := nI 0) S.1 S.2.1 d_Mo_send_2 (by decide) ?_
  refine lv_istore_n (lv' := [(2, .int (nI 0)), (1, .int (nI 0)), (0, .ref (a 54))]) S.1 S.2.1 d_Mo_send_3 rfl hl (by decide) rfl (fun ls hl => ?_)
  have loop_4 : ∀ (n : Nat) (z : Nat) (i : Nat) (f2 : Nat → Nat → Nat) (hi : i ≤ f 54 1) (ez : z = ds_cnt (fun x => f 65 x != f 72 x) i) (hU : ∀ x, f2 72 x = (if x < i then f 65 x else f 72 x) ∧ f2 73 x = (if x < i ∧ f 65 x ≠ f 72 x then f 73 x + 1 else f 73 x)) (hg : ∀ k, k ≠ 72 → k ≠ 73 → f2 k = f k) (_ : f 54 1 - i < n) (H : Heap) (locs : List Loc), dw_W D classes (ds_tys g) A s.heap (dw_l 77 (ds_ce g a) a f2) s H locs → ∀ (ls : Array Slot), lv_has ls 3 [(0, .ref (a 54)), (1, .int (nI z)), (2, .int (nI i))] → W p l e R s m args below meth c H locs 0 0 Q (F0 m 4 ls []) := by
    intro n
    induction n with
    | zero => intro z i f2 hi ez hU hg h9; exact absurd h9 (Nat.not_lt_zero _)
    | succ n ih_4 =>
      intro z i f2 hi ez hU hg hm_4 H locs hw ls hl
      have q11 : f2 54 1 = f 54 1 := by rw [hg 54 (by decide) (by decide)]
      have q5 : f2 65 i = f 65 i := by rw [hg 65 (by decide) (by decide)]
      have q6 : f2 72 i = f 72 i := by rw [(hU i).1, if_neg (by omega)]
      refine lv_iload_n S.1 S.2.1 d_Mo_send_4 rfl (lv_at hl 2 rfl) ?_
      refine lv_aload_n S.1 S.2.1 d_Mo_send_5 rfl (lv_at hl 0 rfl) ?_
      refine dw_getf (fi := 1) (v := .int (nI (f2 54 1))) S hw i_Mo ds_ob54 (by decide) rfl wd_363 rfl d_Mo_send_6 ?_
      refine dn_icmp_ge S.1 S.2.1 58 (by omega) (by omega) d_Mo_send_9 (by decide) (fun h_9 => ?_) (fun h_9 => ?_)
      · refine lv_iload_n S.1 S.2.1 d_Mo_send_58 rfl (lv_at hl 1 rfl) ?_
        exact hret H locs _ ls _ _ hw (⟨by rw [ez, show i = f 54 1 by omega], by rw [show f 54 1 = i by omega]; exact hU, hg⟩) d_Mo_send_59
      · have s1 := hbd i (by omega)
        refine lv_aload_n S.1 S.2.1 d_Mo_send_12 rfl (lv_at hl 0 rfl) ?_
        refine dw_getf (fi := 13) (v := .ref (a 65)) S hw i_Mo ds_ob54 (by decide) rfl wd_375 rfl d_Mo_send_13 ?_
        refine lv_iload_n S.1 S.2.1 d_Mo_send_16 rfl (lv_at hl 2 rfl) ?_
        refine dw_iald S.1 S.2.1 hw ds_k65 (by omega) d_Mo_send_17 ?_
        refine lv_aload_n S.1 S.2.1 d_Mo_send_18 rfl (lv_at hl 0 rfl) ?_
        refine dw_getf (fi := 22) (v := .ref (a 72)) S hw i_Mo ds_ob54 (by decide) rfl wd_384 rfl d_Mo_send_19 ?_
        refine lv_iload_n S.1 S.2.1 d_Mo_send_22 rfl (lv_at hl 2 rfl) ?_
        refine dw_iald S.1 S.2.1 hw ds_k72 (by omega) d_Mo_send_23 ?_
        refine dn_icmp_eq S.1 S.2.1 52 (by omega) (by omega) d_Mo_send_24 (by decide) (fun h_24 => ?_) (fun h_24 => ?_)
        · have heq : f 65 i = f 72 i := by omega
          refine lv_iinc (v := nI (i + 1)) (lv' := [(2, .int (nI (i + 1))), (0, .ref (a 54)), (1, .int (nI z))]) S.1 S.2.1 d_Mo_send_52 hl (k := 2) rfl (by rw [show Int32.ofInt 1 = nI 1 from rfl, nI_add]) (by decide) rfl (fun ls hl => ?_)
          refine lv_goto (tgt := 4) S.1 S.2.1 d_Mo_send_55 (by decide) ?_
          exact ih_4 z (i + 1) f2 (by omega) (by rw [ez]; simp [ds_cnt, heq]) (fun x => by
    have q := hU x
    by_cases ex : x = i
    · subst ex
      simp [heq] at q ⊢
      exact q
    · have e1 : (x < i + 1) = (x < i) := propext (by omega)
      simp only [e1]
      exact q) (hg) (by omega) H locs hw ls (lv_sub hl [1, 2, 0] rfl)
        · have hne : ¬ f 65 i = f 72 i := by omega
          refine lv_aload_n S.1 S.2.1 d_Mo_send_27 rfl (lv_at hl 0 rfl) ?_
          refine dw_getf (fi := 22) (v := .ref (a 72)) S hw i_Mo ds_ob54 (by decide) rfl wd_384 rfl d_Mo_send_28 ?_
          refine lv_iload_n S.1 S.2.1 d_Mo_send_31 rfl (lv_at hl 2 rfl) ?_
          refine lv_aload_n S.1 S.2.1 d_Mo_send_32 rfl (lv_at hl 0 rfl) ?_
          refine dw_getf (fi := 13) (v := .ref (a 65)) S hw i_Mo ds_ob54 (by decide) rfl wd_375 rfl d_Mo_send_33 ?_
          refine lv_iload_n S.1 S.2.1 d_Mo_send_36 rfl (lv_at hl 2 rfl) ?_
          refine dw_iald S.1 S.2.1 hw ds_k65 (by omega) d_Mo_send_37 ?_
          refine dw_iast S.1 S.2.1 hw ds_k72 (by omega) d_Mo_send_38 (fun f_1 H locs ef_1 hw => ?_)
          have eA := ef_1
          refine lv_aload_n S.1 S.2.1 d_Mo_send_39 rfl (lv_at hl 0 rfl) ?_
          refine dw_getf (fi := 23) (v := .ref (a 73)) S hw i_Mo ds_ob54 (by decide) rfl wd_385 rfl d_Mo_send_40 ?_
          refine lv_iload_n S.1 S.2.1 d_Mo_send_43 rfl (lv_at hl 2 rfl) ?_
          refine lv_dup2_11 S.1 S.2.1 d_Mo_send_44 rfl rfl ?_
          refine dw_iald S.1 S.2.1 hw ds_k73 (by omega) d_Mo_send_45 ?_
          refine lv_iconst (v := nI 1) S.1 S.2.1 d_Mo_send_46 (by decide) ?_
          refine dn_iadd S.1 S.2.1 d_Mo_send_47 ?_
          refine dw_iast S.1 S.2.1 hw ds_k73 (by omega) d_Mo_send_48 (fun f_2 H locs ef_2 hw => ?_)
          have eB := ef_2
          refine lv_iinc (v := nI (z + 1)) (lv' := [(1, .int (nI (z + 1))), (0, .ref (a 54)), (2, .int (nI i))]) S.1 S.2.1 d_Mo_send_49 hl (k := 1) rfl (by rw [show Int32.ofInt 1 = nI 1 from rfl, nI_add]) (by decide) rfl (fun ls hl => ?_)
          refine lv_iinc (v := nI (i + 1)) (lv' := [(2, .int (nI (i + 1))), (1, .int (nI (z + 1))), (0, .ref (a 54))]) S.1 S.2.1 d_Mo_send_52 hl (k := 2) rfl (by rw [show Int32.ofInt 1 = nI 1 from rfl, nI_add]) (by decide) rfl (fun ls hl => ?_)
          refine lv_goto (tgt := 4) S.1 S.2.1 d_Mo_send_55 (by decide) ?_
          exact ih_4 (z + 1) (i + 1) f_2 (by omega) (by rw [ez]; simp [ds_cnt, hne]) (fun x => by
    have q := hU x
    have q2 := hU i
    rw [eB, eA]
    by_cases ex : x = i
    · subst ex
      rw [dw_w_ne (by decide), dw_w_eq, dw_up_eq, dw_w_eq, dw_up_eq, dw_w_ne (by decide), q5]
      simp [hne] at q2 ⊢
      exact q2.2
    · rw [dw_w_ne (by decide), dw_w_eq, dw_up_ne ex, dw_w_eq, dw_up_ne ex, dw_w_ne (by decide)]
      have e1 : (x < i + 1) = (x < i) := propext (by omega)
      simp only [e1]
      exact q) (fun k k1 k2 => by rw [eB, eA, dw_w_ne k2, dw_w_ne k1]; exact hg k k1 k2) (by omega) H locs hw ls (lv_sub hl [2, 1, 0] rfl)
  exact loop_4 _ 0 0 f (Nat.zero_le _) (rfl) (fun x => by simp) (fun _ _ _ => rfl) (Nat.lt_succ_self _) H locs hw ls (lv_sub hl [2, 1, 0] rfl)
set_option maxHeartbeats 4000000 in
set_option maxRecDepth 100000 in
theorem m_copy (l : Launch) (D : va_G) (g : Nat → ClassId) (a : Nat → Nat) (f : Nat → Nat → Nat)  (hn : f 54 1 ≤ 8) (hk : f 54 19 ≤ 4) : ds_I l D g a y_Mo_copy b_Mo_copy 2 .int 0 0 [.ref (a 54)] f (fun r u => if f 54 19 < 4 then r = nI (f 54 19) ∧ u 54 19 = f 54 19 + 1 ∧ (∀ j, j < f 54 19 → (∀ t, t < 8 → u 70 (8 * j + t) = f 70 (8 * j + t)) ∧ u 71 j = f 71 j) ∧ (∀ t, t < f 54 1 → u 70 (8 * f 54 19 + t) = f 65 t) ∧ u 71 (f 54 19) = f 54 1 ∧ (∀ j, j ≠ 19 → u 54 j = f 54 j) ∧ (∀ k, k ≠ 54 → k ≠ 70 → k ≠ 71 → u k = f k) else r = (-1) ∧ u = f) := by
  refine dw_ofI (by decide) (fun _ _ _ => rfl) (Nat.le_of_ble_eq_true rfl) ?_
  intro p e s m args below meth c ls A Q R H locs hR hA S hN hw hl hret
  have hl : lv_has ls 2 [(0, .ref (a 54))] := hl
  have S : CallFix p m c b_Mo_copy 2 s args ds_T R_Mo := S
  refine lv_aload_n S.1 S.2.1 d_Mo_copy_0 rfl (lv_at hl 0 rfl) ?_
  refine dw_getf (fi := 19) (v := .int (nI (f 54 19))) S hw i_Mo ds_ob54 (by decide) rfl wd_381 rfl d_Mo_copy_1 ?_
  refine lv_iconst (v := nI 4) S.1 S.2.1 d_Mo_copy_4 (by decide) ?_
  refine dn_icmp_ne S.1 S.2.1 10 (by omega) (by decide) d_Mo_copy_5 (by decide) (fun h_5 => ?_) (fun h_5 => ?_)
  · refine lv_aload_n S.1 S.2.1 d_Mo_copy_10 rfl (lv_at hl 0 rfl) ?_
    refine dw_getf (fi := 21) (v := .ref (a 71)) S hw i_Mo ds_ob54 (by decide) rfl wd_383 rfl d_Mo_copy_11 ?_
    refine lv_aload_n S.1 S.2.1 d_Mo_copy_14 rfl (lv_at hl 0 rfl) ?_
    refine dw_getf (fi := 19) (v := .int (nI (f 54 19))) S hw i_Mo ds_ob54 (by decide) rfl wd_381 rfl d_Mo_copy_15 ?_
    refine lv_aload_n S.1 S.2.1 d_Mo_copy_18 rfl (lv_at hl 0 rfl) ?_
    refine dw_getf (fi := 1) (v := .int (nI (f 54 1))) S hw i_Mo ds_ob54 (by decide) rfl wd_363 rfl d_Mo_copy_19 ?_
    refine dw_iast S.1 S.2.1 hw ds_k71 (by omega) d_Mo_copy_22 (fun f_1 H locs ef_1 hw => ?_)
    refine lv_iconst (v := nI 0) S.1 S.2.1 d_Mo_copy_23 (by decide) ?_
    refine lv_istore_n (lv' := [(1, .int (nI 0)), (0, .ref (a 54))]) S.1 S.2.1 d_Mo_copy_24 rfl hl (by decide) rfl (fun ls hl => ?_)
    have loop_25 : ∀ (n : Nat) (i : Nat) (f2 : Nat → Nat → Nat) (hi : i ≤ f 54 1) (p1 : ∀ j, j < f 54 19 → (∀ t, t < 8 → f2 70 (8 * j + t) = f 70 (8 * j + t)) ∧ f2 71 j = f 71 j) (p2 : ∀ t, t < i → f2 70 (8 * f 54 19 + t) = f 65 t) (p3 : f2 71 (f 54 19) = f 54 1) (p5 : ∀ k, k ≠ 70 → k ≠ 71 → f2 k = f k) (_ : f 54 1 - i < n) (H : Heap) (locs : List Loc), dw_W D classes (ds_tys g) A s.heap (dw_l 77 (ds_ce g a) a f2) s H locs → ∀ (ls : Array Slot), lv_has ls 2 [(0, .ref (a 54)), (1, .int (nI i))] → W p l e R s m args below meth c H locs 0 0 Q (F0 m 25 ls []) := by
      intro n
      induction n with
      | zero => intro i f2 hi p1 p2 p3 p5 h9; exact absurd h9 (Nat.not_lt_zero _)
      | succ n ih_25 =>
        intro i f2 hi p1 p2 p3 p5 hm_25 H locs hw ls hl
        have qk : f2 54 19 = f 54 19 := by rw [p5 54 (by decide) (by decide)]
        have qn : f2 54 1 = f 54 1 := by rw [p5 54 (by decide) (by decide)]
        refine lv_iload_n S.1 S.2.1 d_Mo_copy_25 rfl (lv_at hl 1 rfl) ?_
        refine lv_aload_n S.1 S.2.1 d_Mo_copy_26 rfl (lv_at hl 0 rfl) ?_
        refine dw_getf (fi := 1) (v := .int (nI (f2 54 1))) S hw i_Mo ds_ob54 (by decide) rfl wd_363 rfl d_Mo_copy_27 ?_
        refine dn_icmp_ge S.1 S.2.1 59 (by omega) (by omega) d_Mo_copy_30 (by decide) (fun h_30 => ?_) (fun h_30 => ?_)
        · refine lv_aload_n S.1 S.2.1 d_Mo_copy_59 rfl (lv_at hl 0 rfl) ?_
          refine lv_dup S.1 S.2.1 d_Mo_copy_60 rfl ?_
          refine dw_getf (fi := 19) (v := .int (nI (f2 54 19))) S hw i_Mo ds_ob54 (by decide) rfl wd_381 rfl d_Mo_copy_61 ?_
          refine lv_iconst (v := nI 1) S.1 S.2.1 d_Mo_copy_64 (by decide) ?_
          refine dn_iadd S.1 S.2.1 d_Mo_copy_65 ?_
          refine dw_putf (fi := 19) S hw i_Mo t_Mo t_Mo_ok n_Mo ds_ob54 (by decide) rfl wd_381 rfl (by decide +kernel) (Nat.le_of_ble_eq_true rfl) rfl d_Mo_copy_66 (fun f_2 H locs ef_2 hw => ?_)
          refine lv_aload_n S.1 S.2.1 d_Mo_copy_69 rfl (lv_at hl 0 rfl) ?_
          refine dw_getf (fi := 19) (v := .int (nI (f_2 54 19))) S hw i_Mo ds_ob54 (by decide) rfl wd_381 rfl d_Mo_copy_70 ?_
          refine lv_iconst (v := nI 1) S.1 S.2.1 d_Mo_copy_73 (by decide) ?_
          refine dn_isub S.1 S.2.1 (by rw [ef_2, dw_w_eq, dw_up_eq]; omega) d_Mo_copy_74 ?_
          exact hret H locs _ ls _ _ hw (by
    have eC := ef_2
    rw [qk] at eC
    rw [if_pos (by omega)]
    refine ⟨by rw [eC, dw_w_eq, dw_up_eq]; rfl, by rw [eC, dw_w_eq, dw_up_eq], fun j hj => ⟨fun t ht => ?_, ?_⟩, fun t ht => ?_, ?_, fun j hj => ?_, fun k k1 k2 k3 => ?_⟩
    · rw [eC, dw_w_ne (by decide)]; exact (p1 j hj).1 t ht
    · rw [eC, dw_w_ne (by decide)]; exact (p1 j hj).2
    · rw [eC, dw_w_ne (by decide)]; exact p2 t (by omega)
    · rw [eC, dw_w_ne (by decide)]; exact p3
    · rw [eC, dw_w_eq, dw_up_ne hj, p5 54 (by decide) (by decide)]
    · rw [eC, dw_w_ne k1]; exact p5 k k2 k3) d_Mo_copy_75
        · refine lv_aload_n S.1 S.2.1 d_Mo_copy_33 rfl (lv_at hl 0 rfl) ?_
          refine dw_getf (fi := 20) (v := .ref (a 70)) S hw i_Mo ds_ob54 (by decide) rfl wd_382 rfl d_Mo_copy_34 ?_
          refine lv_bipush (v := nI 8) S.1 S.2.1 d_Mo_copy_37 (by decide) ?_
          refine lv_aload_n S.1 S.2.1 d_Mo_copy_39 rfl (lv_at hl 0 rfl) ?_
          refine dw_getf (fi := 19) (v := .int (nI (f2 54 19))) S hw i_Mo ds_ob54 (by decide) rfl wd_381 rfl d_Mo_copy_40 ?_
          refine dn_imul S.1 S.2.1 d_Mo_copy_43 ?_
          refine lv_iload_n S.1 S.2.1 d_Mo_copy_44 rfl (lv_at hl 1 rfl) ?_
          refine dn_iadd S.1 S.2.1 d_Mo_copy_45 ?_
          refine lv_aload_n S.1 S.2.1 d_Mo_copy_46 rfl (lv_at hl 0 rfl) ?_
          refine dw_getf (fi := 13) (v := .ref (a 65)) S hw i_Mo ds_ob54 (by decide) rfl wd_375 rfl d_Mo_copy_47 ?_
          refine lv_iload_n S.1 S.2.1 d_Mo_copy_50 rfl (lv_at hl 1 rfl) ?_
          refine dw_iald S.1 S.2.1 hw ds_k65 (by omega) d_Mo_copy_51 ?_
          refine dw_iast S.1 S.2.1 hw ds_k70 (by omega) d_Mo_copy_52 (fun f_3 H locs ef_3 hw => ?_)
          refine lv_iinc (v := nI (i + 1)) (lv' := [(1, .int (nI (i + 1))), (0, .ref (a 54))]) S.1 S.2.1 d_Mo_copy_53 hl (k := 1) rfl (by rw [show Int32.ofInt 1 = nI 1 from rfl, nI_add]) (by decide) rfl (fun ls hl => ?_)
          refine lv_goto (tgt := 25) S.1 S.2.1 d_Mo_copy_56 (by decide) ?_
          exact ih_25 (i + 1) f_3 (by omega) (fun j hj => by have q := p1 j hj; exact ⟨fun t ht => by rw [ef_3, dw_w_eq, qk, dw_up_ne (by omega)]; exact q.1 t ht, by rw [ef_3, dw_w_ne (by decide)]; exact q.2⟩) (fun t h => by
    rw [ef_3, dw_w_eq, qk]
    by_cases et : t = i
    · rw [et, dw_up_eq, p5 65 (by decide) (by decide)]
    · rw [dw_up_ne (by omega)]; exact p2 t (by omega)) (by rw [ef_3, dw_w_ne (by decide)]; exact p3) (fun k k1 k2 => by rw [ef_3, dw_w_ne k1]; exact p5 k k1 k2) (by omega) H locs hw ls (lv_sub hl [1, 0] rfl)
    exact loop_25 _ 0 f_1 (Nat.zero_le _) (fun j hj => ⟨fun t ht => by rw [ef_1, dw_w_ne (by decide)], by rw [ef_1, dw_w_eq, dw_up_ne (by omega)]⟩) (fun t h => absurd h (Nat.not_lt_zero _)) (by rw [ef_1, dw_w_eq, dw_up_eq]) (fun k k1 k2 => by rw [ef_1, dw_w_ne k2]) (Nat.lt_succ_self _) H locs hw ls (lv_sub hl [1, 0] rfl)
  · refine lv_iconst (v := (-1)) S.1 S.2.1 d_Mo_copy_8 (by decide) ?_
    exact hret H locs _ ls _ _ hw (by rw [if_neg (by omega)]; exact ⟨rfl, rfl⟩) d_Mo_copy_9
set_option maxHeartbeats 4000000 in
set_option maxRecDepth 100000 in
theorem m_compare (l : Launch) (D : va_G) (g : Nat → ClassId) (a : Nat → Nat) (f : Nat → Nat → Nat) (x : Int32) (k : Int32) (hk : f 54 19 ≤ 4) (hks : ∀ j, j < f 54 19 → f 71 j ≤ 8 ∧ ∀ t, t < f 71 j → f 70 (8 * j + t) < 2 ^ 31 ∧ f 65 t < 2 ^ 31) : ds_I l D g a y_Mo_compare b_Mo_compare 5 .int 0 0 [.ref (a 54), .int x, .int k] f (fun r u => (if ds_in x (f 54 19) then r = ds_find (fun s => f 70 (8 * x.toNatClampNeg + s) != f 65 s) k (f 71 x.toNatClampNeg) 0 0 else r = (-1)) ∧ u = f) := by
  refine dw_ofI (by decide) (fun _ _ _ => rfl) (Nat.le_of_ble_eq_true rfl) ?_
  intro p e s m args below meth c ls A Q R H locs hR hA S hN hw hl hret
  have hl : lv_has ls 5 [(0, .ref (a 54)), (1, .int x), (2, .int k)] := hl
  have S : CallFix p m c b_Mo_compare 5 s args ds_T R_Mo := S
  refine lv_iload_n S.1 S.2.1 d_Mo_compare_0 rfl (lv_at hl 1 rfl) ?_
  refine lv_if_lt (tgt := 12) S.1 S.2.1 d_Mo_compare_1 (by decide) (fun h_1 => ?_) (fun h_1 => ?_)
  · refine lv_iconst (v := (-1)) S.1 S.2.1 d_Mo_compare_12 (by decide) ?_
    exact hret H locs _ ls _ _ hw (⟨by rw [if_neg (fun q => ((ds_in_iff (by omega)).mp q).1 h_1)], rfl⟩) d_Mo_compare_13
  · refine lv_iload_n S.1 S.2.1 d_Mo_compare_4 rfl (lv_at hl 1 rfl) ?_
    refine lv_aload_n S.1 S.2.1 d_Mo_compare_5 rfl (lv_at hl 0 rfl) ?_
    refine dw_getf (fi := 19) (v := .int (nI (f 54 19))) S hw i_Mo ds_ob54 (by decide) rfl wd_381 rfl d_Mo_compare_6 ?_
    refine lv_icmp_lt (tgt := 14) S.1 S.2.1 d_Mo_compare_9 (by decide) (fun h_9 => ?_) (fun h_9 => ?_)
    · have h_10 : ds_in x (f 54 19) := (ds_in_iff (by omega)).mpr ⟨h_1, fun q => absurd h_9 (Int32.not_lt.mpr q)⟩
      obtain ⟨ex1, hx1⟩ := ds_in_nI h_10
      have kb := hks _ hx1
      have hl : lv_has ls 5 [(0, .ref (a 54)), (1, .int (nI (x.toNatClampNeg))), (2, .int k)] := by have hl2 := hl; rw [ex1] at hl2; exact hl2
      refine lv_iconst (v := nI 0) S.1 S.2.1 d_Mo_compare_14 (by decide) ?_
      refine lv_istore_n (lv' := [(3, .int (nI 0)), (0, .ref (a 54)), (1, .int (nI (x.toNatClampNeg))), (2, .int k)]) S.1 S.2.1 d_Mo_compare_15 rfl hl (by decide) rfl (fun ls hl => ?_)
      refine lv_iconst (v := nI 0) S.1 S.2.1 d_Mo_compare_16 (by decide) ?_
      refine lv_istore (lv' := [(4, .int (nI 0)), (3, .int (nI 0)), (0, .ref (a 54)), (1, .int (nI (x.toNatClampNeg))), (2, .int k)]) S.1 S.2.1 d_Mo_compare_17 hl (by decide) rfl (fun ls hl => ?_)
      have loop_19 : ∀ (n : Nat) (b : Nat) (i : Nat) (hi : i ≤ f 71 x.toNatClampNeg) (hE : ds_find (fun s => f 70 (8 * x.toNatClampNeg + s) != f 65 s) k (f 71 x.toNatClampNeg) 0 0 = ds_find (fun s => f 70 (8 * x.toNatClampNeg + s) != f 65 s) k (f 71 x.toNatClampNeg - i) i b) (_ : f 71 x.toNatClampNeg - i < n) (H : Heap) (locs : List Loc), dw_W D classes (ds_tys g) A s.heap (dw_l 77 (ds_ce g a) a f) s H locs → ∀ (ls : Array Slot), lv_has ls 5 [(0, .ref (a 54)), (1, .int (nI (x.toNatClampNeg))), (2, .int k), (3, .int (nI b)), (4, .int (nI i))] → W p l e R s m args below meth c H locs 0 0 Q (F0 m 19 ls []) := by
        intro n
        induction n with
        | zero => intro b i hi hE h9; exact absurd h9 (Nat.not_lt_zero _)
        | succ n ih_19 =>
          intro b i hi hE hm_19 H locs hw ls hl
          refine lv_iload S.1 S.2.1 d_Mo_compare_19 (lv_at hl 4 rfl) ?_
          refine lv_aload_n S.1 S.2.1 d_Mo_compare_21 rfl (lv_at hl 0 rfl) ?_
          refine dw_getf (fi := 21) (v := .ref (a 71)) S hw i_Mo ds_ob54 (by decide) rfl wd_383 rfl d_Mo_compare_22 ?_
          refine lv_iload_n S.1 S.2.1 d_Mo_compare_25 rfl (lv_at hl 1 rfl) ?_
          refine dw_iald S.1 S.2.1 hw ds_k71 (by omega) d_Mo_compare_26 ?_
          refine dn_icmp_ge S.1 S.2.1 69 (by omega) (by omega) d_Mo_compare_27 (by decide) (fun h_27 => ?_) (fun h_27 => ?_)
          · refine lv_iconst (v := (-1)) S.1 S.2.1 d_Mo_compare_69 (by decide) ?_
            exact hret H locs _ ls _ _ hw (⟨by rw [if_pos h_10, hE, show f 71 x.toNatClampNeg - i = 0 by omega]; rfl, rfl⟩) d_Mo_compare_70
          · have kt := kb.2 i h_27
            refine lv_aload_n S.1 S.2.1 d_Mo_compare_30 rfl (lv_at hl 0 rfl) ?_
            refine dw_getf (fi := 20) (v := .ref (a 70)) S hw i_Mo ds_ob54 (by decide) rfl wd_382 rfl d_Mo_compare_31 ?_
            refine lv_bipush (v := nI 8) S.1 S.2.1 d_Mo_compare_34 (by decide) ?_
            refine lv_iload_n S.1 S.2.1 d_Mo_compare_36 rfl (lv_at hl 1 rfl) ?_
            refine dn_imul S.1 S.2.1 d_Mo_compare_37 ?_
            refine lv_iload S.1 S.2.1 d_Mo_compare_38 (lv_at hl 4 rfl) ?_
            refine dn_iadd S.1 S.2.1 d_Mo_compare_40 ?_
            refine dw_iald S.1 S.2.1 hw ds_k70 (by omega) d_Mo_compare_41 ?_
            refine lv_aload_n S.1 S.2.1 d_Mo_compare_42 rfl (lv_at hl 0 rfl) ?_
            refine dw_getf (fi := 13) (v := .ref (a 65)) S hw i_Mo ds_ob54 (by decide) rfl wd_375 rfl d_Mo_compare_43 ?_
            refine lv_iload S.1 S.2.1 d_Mo_compare_46 (lv_at hl 4 rfl) ?_
            refine dw_iald S.1 S.2.1 hw ds_k65 (by omega) d_Mo_compare_48 ?_
            refine dn_icmp_eq S.1 S.2.1 63 (by omega) (by omega) d_Mo_compare_49 (by decide) (fun h_49 => ?_) (fun h_49 => ?_)
            · refine lv_iinc (v := nI (i + 1)) (lv' := [(4, .int (nI (i + 1))), (0, .ref (a 54)), (1, .int (nI (x.toNatClampNeg))), (2, .int k), (3, .int (nI b))]) S.1 S.2.1 d_Mo_compare_63 hl (k := 4) rfl (by rw [show Int32.ofInt 1 = nI 1 from rfl, nI_add]) (by decide) rfl (fun ls hl => ?_)
              refine lv_goto (tgt := 19) S.1 S.2.1 d_Mo_compare_66 (by decide) ?_
              exact ih_19 b (i + 1) (by omega) (by rw [hE, show f 71 x.toNatClampNeg - i = (f 71 x.toNatClampNeg - (i + 1)) + 1 by omega]; simp [ds_find, h_49]) (by omega) H locs hw ls (lv_sub hl [1, 2, 3, 4, 0] rfl)
            · refine lv_iload_n S.1 S.2.1 d_Mo_compare_52 rfl (lv_at hl 3 rfl) ?_
              refine lv_iload_n S.1 S.2.1 d_Mo_compare_53 rfl (lv_at hl 2 rfl) ?_
              refine lv_icmp_ne (tgt := 60) S.1 S.2.1 d_Mo_compare_54 (by decide) (fun h_54 => ?_) (fun h_54 => ?_)
              · refine lv_iinc (v := nI (b + 1)) (lv' := [(3, .int (nI (b + 1))), (0, .ref (a 54)), (1, .int (nI (x.toNatClampNeg))), (2, .int k), (4, .int (nI i))]) S.1 S.2.1 d_Mo_compare_60 hl (k := 3) rfl (by rw [show Int32.ofInt 1 = nI 1 from rfl, nI_add]) (by decide) rfl (fun ls hl => ?_)
                refine lv_iinc (v := nI (i + 1)) (lv' := [(4, .int (nI (i + 1))), (3, .int (nI (b + 1))), (0, .ref (a 54)), (1, .int (nI (x.toNatClampNeg))), (2, .int k)]) S.1 S.2.1 d_Mo_compare_63 hl (k := 4) rfl (by rw [show Int32.ofInt 1 = nI 1 from rfl, nI_add]) (by decide) rfl (fun ls hl => ?_)
                refine lv_goto (tgt := 19) S.1 S.2.1 d_Mo_compare_66 (by decide) ?_
                exact ih_19 (b + 1) (i + 1) (by omega) (by rw [hE, show f 71 x.toNatClampNeg - i = (f 71 x.toNatClampNeg - (i + 1)) + 1 by omega]; simp [ds_find, h_49, h_54]) (by omega) H locs hw ls (lv_sub hl [2, 3, 4, 1, 0] rfl)
              · refine lv_iload S.1 S.2.1 d_Mo_compare_57 (lv_at hl 4 rfl) ?_
                exact hret H locs _ ls _ _ hw (⟨by rw [if_pos h_10]; rw [hE, show f 71 x.toNatClampNeg - i = (f 71 x.toNatClampNeg - (i + 1)) + 1 by omega]; simp [ds_find, h_49, h_54], rfl⟩) d_Mo_compare_59
      exact loop_19 _ 0 0 (Nat.zero_le _) (rfl) (Nat.lt_succ_self _) H locs hw ls (lv_sub hl [2, 3, 4, 1, 0] rfl)
    · refine lv_iconst (v := (-1)) S.1 S.2.1 d_Mo_compare_12 (by decide) ?_
      exact hret H locs _ ls _ _ hw (⟨by rw [if_neg (fun q => ((ds_in_iff (by omega)).mp q).2 (Int32.not_lt.mp h_9))], rfl⟩) d_Mo_compare_13
