/-! the reference's next -/
set_option maxHeartbeats 4000000 in
set_option maxRecDepth 100000 in
theorem m_next (l : Launch) (D : va_G) (g : Nat → ClassId) (a : Nat → Nat) (f : Nat → Nat → Nat) (rw : Nat → Nat → Nat) (ok : ds_ok (md_v f rw)) : ds_I l D g a y_Mo_next b_Mo_next 5 .int 1 24 [.ref (a 54)] f (fun r u => r = nI (ds_cnt (fun x => f 65 x == f 54 0) (f 54 1)) ∧ (∀ w, w < f 54 0 → ∀ r2, r2 < (md_nl (md_v f rw) w).length → u 57 ((md_nl (md_v f rw) w).getD r2 0) = w ∧ u 58 ((md_nl (md_v f rw) w).getD r2 0) = r2) ∧ (∀ x, x < f 54 1 → u 65 x = u 57 x ∧ u 60 x = 0 ∧ u 61 x = 0 ∧ u 57 x < f 54 0) ∧ (∀ x, f 54 1 ≤ x → u 60 x = f 60 x ∧ u 61 x = f 61 x) ∧ (∀ w, w < 3 → u 59 w = ds_cnt (fun x => u 57 x == w) (f 54 1) ∧ u 62 w = 8) ∧ u 54 16 = 0 ∧ u 54 19 = 0 ∧ (∀ j, j ≠ 16 → j ≠ 19 → j ≠ 25 → u 54 j = f 54 j) ∧ ∀ k, k ≠ 54 → k ≠ 57 → k ≠ 58 → k ≠ 59 → k ≠ 60 → k ≠ 61 → k ≠ 62 → k ≠ 65 → k ≠ 74 → k ≠ 75 → k ≠ 76 → u k = f k) := by
  refine dw_ofI (by decide) (fun _ _ _ => rfl) (Nat.le_of_ble_eq_true rfl) ?_
  intro p e s m args below meth c ls A Q R H locs hR hA S hN hw hl hret
  have hl : lv_has ls 5 [(0, .ref (a 54))] := hl
  have S : CallFix p m c b_Mo_next 5 s args ds_T R_Mo := S
  obtain ⟨hV, hn, hex, hst, hve, hrA, hrB, hrl, hwy⟩ := md_facts ok
  have hrw := ok.2.2.2.2.2.2.2
  have e10 : (md_v f rw) 1 0 = f 54 0 := rfl
  have e11 : (md_v f rw) 1 1 = f 54 1 := rfl
  refine lv_iconst (v := nI 0) S.1 S.2.1 d_Mo_next_0 (by decide) ?_
  refine lv_istore_n (lv' := [(1, .int (nI 0)), (0, .ref (a 54))]) S.1 S.2.1 d_Mo_next_1 rfl hl (by decide) rfl (fun ls hl => ?_)
  refine lv_iconst (v := nI 0) S.1 S.2.1 d_Mo_next_2 (by decide) ?_
  refine lv_istore_n (lv' := [(2, .int (nI 0)), (1, .int (nI 0)), (0, .ref (a 54))]) S.1 S.2.1 d_Mo_next_3 rfl hl (by decide) rfl (fun ls hl => ?_)
  have loop_4 : ∀ (n : Nat) (z : Nat) (v : Nat) (f2 : Nat → Nat → Nat) (hv : v ≤ f 54 0) (ez : z = ds_cnt (fun x => (md_v f rw) 5 x == (md_v f rw) 1 0 && decide ((md_v f rw) 10 x < v)) (f 54 1)) (hN2 : md_np (md_v f rw) f2 v) (hag : md_an f f2) (_ : f 54 0 - v < n) (H : Heap) (locs : List Loc), dw_W D classes (ds_tys g) A s.heap (dw_l 77 (ds_ce g a) a f2) s H locs → ∀ (ls : Array Slot), lv_has ls 5 [(0, .ref (a 54)), (1, .int (nI z)), (2, .int (nI v))] → W p l e R s m args below meth c H locs 0 0 Q (F0 m 4 ls []) := by
    intro n
    induction n with
    | zero => intro z v f2 hv ez hN2 hag h9; exact absurd h9 (Nat.not_lt_zero _)
    | succ n ih_4 =>
      intro z v f2 hv ez hN2 hag hm_4 H locs hw ls hl
      have q1 : f2 54 1 = f 54 1 := hag.2 1 (by decide)
      have q0 : f2 54 0 = f 54 0 := hag.2 0 (by decide)
      have q65 : f2 65 = f 65 := hag.1 65 (by decide) (by decide) (by decide) (by decide)
      have q57 : f2 57 = f 57 := hag.1 57 (by decide) (by decide) (by decide) (by decide)
      refine lv_iload_n S.1 S.2.1 d_Mo_next_4 rfl (lv_at hl 2 rfl) ?_
      refine lv_aload_n S.1 S.2.1 d_Mo_next_5 rfl (lv_at hl 0 rfl) ?_
      refine dw_getf (fi := 0) (v := .int (nI (f2 54 0))) S hw i_Mo ds_ob54 (by decide) rfl wd_362 rfl d_Mo_next_6 ?_
      refine dn_icmp_ge S.1 S.2.1 141 (by omega) (by omega) d_Mo_next_9 (by decide) (fun h_9 => ?_) (fun h_9 => ?_)
      · obtain ⟨f_n, efn⟩ : ∃ x, x = f2 := ⟨_, rfl⟩
        rw [← efn] at hw hag hN2
        have hagn := hag
        have hNn : md_np (md_v f rw) f_n (f 54 0) := by rw [← show v = f 54 0 by omega]; exact hN2
        have hH : ∀ x, x < f 54 1 → f_n 75 x < f 54 0 := fun x hx => by obtain ⟨v2, r2, z1, z2, z3⟩ := md_nl_mem hrw (x := x) hx (hst x hx).2.2.2.2.1; have q := (hNn v2 z1 r2 z2).1; rw [z3] at q; rw [q]; exact z1
        refine lv_iconst (v := nI 0) S.1 S.2.1 d_Mo_next_141 (by decide) ?_
        refine lv_istore_n (lv' := [(2, .int (nI 0)), (0, .ref (a 54)), (1, .int (nI z))]) S.1 S.2.1 d_Mo_next_142 rfl hl (by decide) rfl (fun ls hl => ?_)
        have loop_143 : ∀ (n : Nat) (w : Nat) (f6 : Nat → Nat → Nat) (hw3 : w ≤ 3) (h0 : ∀ j, j < w → f6 59 j = 0 ∧ f6 62 j = 8) (hg : ∀ k, k ≠ 59 → k ≠ 62 → f6 k = f_n k) (_ : 3 - w < n) (H : Heap) (locs : List Loc), dw_W D classes (ds_tys g) A s.heap (dw_l 77 (ds_ce g a) a f6) s H locs → ∀ (ls : Array Slot), lv_has ls 5 [(0, .ref (a 54)), (1, .int (nI z)), (2, .int (nI w))] → W p l e R s m args below meth c H locs 0 0 Q (F0 m 143 ls []) := by
          intro n
          induction n with
          | zero => intro w f6 hw3 h0 hg h9; exact absurd h9 (Nat.not_lt_zero _)
          | succ n ih_143 =>
            intro w f6 hw3 h0 hg hm_143 H locs hw ls hl
            refine lv_iload_n S.1 S.2.1 d_Mo_next_143 rfl (lv_at hl 2 rfl) ?_
            refine lv_iconst (v := nI 3) S.1 S.2.1 d_Mo_next_144 (by decide) ?_
            refine dn_icmp_ge S.1 S.2.1 169 (by omega) (by decide) d_Mo_next_145 (by decide) (fun h_145 => ?_) (fun h_145 => ?_)
            · refine lv_iconst (v := nI 0) S.1 S.2.1 d_Mo_next_169 (by decide) ?_
              refine lv_istore_n (lv' := [(2, .int (nI 0)), (0, .ref (a 54)), (1, .int (nI z))]) S.1 S.2.1 d_Mo_next_170 rfl hl (by decide) rfl (fun ls hl => ?_)
              have loop_171 : ∀ (n : Nat) (i : Nat) (f7 : Nat → Nat → Nat) (hi : i ≤ f 54 1) (h1 : ∀ x, x < i → f7 57 x = f_n 75 x ∧ f7 58 x = f_n 76 x ∧ f7 65 x = f_n 75 x ∧ f7 60 x = 0 ∧ f7 61 x = 0) (h2 : ∀ w, w < 3 → f7 59 w = ds_cnt (fun x => f_n 75 x == w) i ∧ f7 62 w = 8) (hY : ∀ x, f 54 1 ≤ x → f7 60 x = f_n 60 x ∧ f7 61 x = f_n 61 x) (hg : ∀ k, ¬ (k = 57 ∨ k = 58 ∨ k = 59 ∨ k = 60 ∨ k = 61 ∨ k = 62 ∨ k = 65) → f7 k = f_n k) (_ : f 54 1 - i < n) (H : Heap) (locs : List Loc), dw_W D classes (ds_tys g) A s.heap (dw_l 77 (ds_ce g a) a f7) s H locs → ∀ (ls : Array Slot), lv_has ls 5 [(0, .ref (a 54)), (1, .int (nI z)), (2, .int (nI i))] → W p l e R s m args below meth c H locs 0 0 Q (F0 m 171 ls []) := by
                intro n
                induction n with
                | zero => intro i f7 hi h1 h2 hY hg h9; exact absurd h9 (Nat.not_lt_zero _)
                | succ n ih_171 =>
                  intro i f7 hi h1 h2 hY hg hm_171 H locs hw ls hl
                  have q1 : f7 54 1 = f 54 1 := by rw [hg 54 (by omega)]; exact hagn.2 1 (by decide)
                  refine lv_iload_n S.1 S.2.1 d_Mo_next_171 rfl (lv_at hl 2 rfl) ?_
                  refine lv_aload_n S.1 S.2.1 d_Mo_next_172 rfl (lv_at hl 0 rfl) ?_
                  refine dw_getf (fi := 1) (v := .int (nI (f7 54 1))) S hw i_Mo ds_ob54 (by decide) rfl wd_363 rfl d_Mo_next_173 ?_
                  refine dn_icmp_ge S.1 S.2.1 250 (by omega) (by omega) d_Mo_next_176 (by decide) (fun h_176 => ?_) (fun h_176 => ?_)
                  · refine lv_aload_n S.1 S.2.1 d_Mo_next_250 rfl (lv_at hl 0 rfl) ?_
                    refine lv_iconst (v := nI 0) S.1 S.2.1 d_Mo_next_251 (by decide) ?_
                    refine dw_putf (fi := 16) S hw i_Mo t_Mo t_Mo_ok n_Mo ds_ob54 (by decide) rfl wd_378 rfl (by decide +kernel) (Nat.le_of_ble_eq_true rfl) rfl d_Mo_next_252 (fun f_1 H locs ef_1 hw => ?_)
                    refine lv_aload_n S.1 S.2.1 d_Mo_next_255 rfl (lv_at hl 0 rfl) ?_
                    refine lv_iconst (v := nI 0) S.1 S.2.1 d_Mo_next_256 (by decide) ?_
                    refine dw_putf (fi := 19) S hw i_Mo t_Mo t_Mo_ok n_Mo ds_ob54 (by decide) rfl wd_381 rfl (by decide +kernel) (Nat.le_of_ble_eq_true rfl) rfl d_Mo_next_257 (fun f_2 H locs ef_2 hw => ?_)
                    refine lv_iload_n S.1 S.2.1 d_Mo_next_260 rfl (lv_at hl 1 rfl) ?_
                    exact hret H locs _ ls _ _ hw (by
    have eQ := ef_2
    have eP := ef_1
    refine ⟨by rw [ez]; exact congrArg nI (ds_cnt_congr _ (fun x hx => by have r1 := hrB x hx; show (f 65 x == f 54 0 && decide (f 57 x < v)) = (f 65 x == f 54 0); rw [decide_eq_true (by omega), Bool.and_true])), fun w hw2 r hr => ?_, fun x hx => ?_, fun x hx => ?_, fun w hw2 => ?_, by rw [eQ, dw_w_eq, dw_up_ne (by decide), eP, dw_w_eq, dw_up_eq], by rw [eQ, dw_w_eq, dw_up_eq], fun j j1 j2 j3 => ?_, fun k k1 k2 k3 k4 k5 k6 k7 k8 k9 k10 k11 => ?_⟩
    · have m1 := hNn w (by omega) r hr
      have m2 := h1 _ (show (md_nl (md_v f rw) w).getD r 0 < i by have := (ds_nl_in hrw hw2 (x := (md_nl (md_v f rw) w).getD r 0) (by rw [← md_nl_eq hrw hw2]; exact ds_getD_mem hr)).1; rw [e11] at this; omega)
      rw [eQ, eP, dw_w_ne (by decide), dw_w_ne (by decide), dw_w_ne (by decide), dw_w_ne (by decide), m2.1, m2.2.1]
      exact m1
    · have m2 := h1 x (by omega)
      rw [eQ, eP, dw_w_ne (by decide), dw_w_ne (by decide), dw_w_ne (by decide), dw_w_ne (by decide), dw_w_ne (by decide), dw_w_ne (by decide), dw_w_ne (by decide), dw_w_ne (by decide), m2.1]
      exact ⟨m2.2.2.1, m2.2.2.2.1, m2.2.2.2.2, hH x hx⟩
    · have m2 := hY x hx
      rw [hagn.1 60 (by decide) (by decide) (by decide) (by decide), hagn.1 61 (by decide) (by decide) (by decide) (by decide)] at m2
      rw [eQ, eP, dw_w_ne (by decide), dw_w_ne (by decide), dw_w_ne (by decide), dw_w_ne (by decide)]
      exact m2
    · have m2 := h2 w hw2
      rw [eQ, eP, dw_w_ne (by decide), dw_w_ne (by decide), dw_w_ne (by decide), dw_w_ne (by decide), dw_w_ne (by decide), dw_w_ne (by decide)]
      refine ⟨?_, m2.2⟩
      rw [m2.1, show i = f 54 1 by omega]
      exact ds_cnt_congr _ (fun x hx => by rw [(h1 x (by omega)).1])
    · rw [eQ, dw_w_eq, dw_up_ne j2, eP, dw_w_eq, dw_up_ne j1, hg 54 (by decide)]; exact hagn.2 j j3
    · rw [eQ, dw_w_ne k1, eP, dw_w_ne k1, hg k (by omega)]; exact hagn.1 k k1 k9 k10 k11) d_Mo_next_261
                  · have n75 : f7 75 i = f_n 75 i := by rw [hg 75 (by omega)]
                    have n76 : f7 76 i = f_n 76 i := by rw [hg 76 (by omega)]
                    have hhi := hH i (by omega)
                    refine lv_aload_n S.1 S.2.1 d_Mo_next_179 rfl (lv_at hl 0 rfl) ?_
                    refine dw_getf (fi := 4) (v := .ref (a 57)) S hw i_Mo ds_ob54 (by decide) rfl wd_366 rfl d_Mo_next_180 ?_
                    refine lv_iload_n S.1 S.2.1 d_Mo_next_183 rfl (lv_at hl 2 rfl) ?_
                    refine lv_aload_n S.1 S.2.1 d_Mo_next_184 rfl (lv_at hl 0 rfl) ?_
                    refine dw_getf (fi := 26) (v := .ref (a 75)) S hw i_Mo ds_ob54 (by decide) rfl wd_388 rfl d_Mo_next_185 ?_
                    refine lv_iload_n S.1 S.2.1 d_Mo_next_188 rfl (lv_at hl 2 rfl) ?_
                    refine dw_iald S.1 S.2.1 hw ds_k75 (by omega) d_Mo_next_189 ?_
                    refine dw_iast S.1 S.2.1 hw ds_k57 (by omega) d_Mo_next_190 (fun f_3 H locs ef_3 hw => ?_)
                    have eA := ef_3
                    rw [n75] at eA
                    have a1 : f_3 57 i = f_n 75 i := by rw [eA, dw_w_eq, dw_up_eq]
                    have a2 : f_3 76 i = f_n 76 i := by rw [eA, dw_w_ne (by decide)]; exact n76
                    refine lv_aload_n S.1 S.2.1 d_Mo_next_191 rfl (lv_at hl 0 rfl) ?_
                    refine dw_getf (fi := 5) (v := .ref (a 58)) S hw i_Mo ds_ob54 (by decide) rfl wd_367 rfl d_Mo_next_192 ?_
                    refine lv_iload_n S.1 S.2.1 d_Mo_next_195 rfl (lv_at hl 2 rfl) ?_
                    refine lv_aload_n S.1 S.2.1 d_Mo_next_196 rfl (lv_at hl 0 rfl) ?_
                    refine dw_getf (fi := 27) (v := .ref (a 76)) S hw i_Mo ds_ob54 (by decide) rfl wd_389 rfl d_Mo_next_197 ?_
                    refine lv_iload_n S.1 S.2.1 d_Mo_next_200 rfl (lv_at hl 2 rfl) ?_
                    refine dw_iald S.1 S.2.1 hw ds_k76 (by omega) d_Mo_next_201 ?_
                    refine dw_iast S.1 S.2.1 hw ds_k58 (by omega) d_Mo_next_202 (fun f_4 H locs ef_4 hw => ?_)
                    have eB := ef_4
                    rw [a2] at eB
                    have b1 : f_4 57 i = f_n 75 i := by rw [eB, dw_w_ne (by decide)]; exact a1
                    have b9 : f_4 59 (f_n 75 i) = f7 59 (f_n 75 i) := by rw [eB, dw_w_ne (by decide), eA, dw_w_ne (by decide)]
                    refine lv_aload_n S.1 S.2.1 d_Mo_next_203 rfl (lv_at hl 0 rfl) ?_
                    refine dw_getf (fi := 6) (v := .ref (a 59)) S hw i_Mo ds_ob54 (by decide) rfl wd_368 rfl d_Mo_next_204 ?_
                    refine lv_aload_n S.1 S.2.1 d_Mo_next_207 rfl (lv_at hl 0 rfl) ?_
                    refine dw_getf (fi := 4) (v := .ref (a 57)) S hw i_Mo ds_ob54 (by decide) rfl wd_366 rfl d_Mo_next_208 ?_
                    refine lv_iload_n S.1 S.2.1 d_Mo_next_211 rfl (lv_at hl 2 rfl) ?_
                    refine dw_iald S.1 S.2.1 hw ds_k57 (by omega) d_Mo_next_212 ?_
                    refine lv_dup2_11 S.1 S.2.1 d_Mo_next_213 rfl rfl ?_
                    refine dw_iald S.1 S.2.1 hw ds_k59 (by omega) d_Mo_next_214 ?_
                    refine lv_iconst (v := nI 1) S.1 S.2.1 d_Mo_next_215 (by decide) ?_
                    refine dn_iadd S.1 S.2.1 d_Mo_next_216 ?_
                    refine dw_iast S.1 S.2.1 hw ds_k59 (by omega) d_Mo_next_217 (fun f_5 H locs ef_5 hw => ?_)
                    have eC := ef_5
                    rw [b1, b9] at eC
                    have c1 : f_5 57 i = f_n 75 i := by rw [eC, dw_w_ne (by decide)]; exact b1
                    refine lv_aload_n S.1 S.2.1 d_Mo_next_218 rfl (lv_at hl 0 rfl) ?_
                    refine dw_getf (fi := 13) (v := .ref (a 65)) S hw i_Mo ds_ob54 (by decide) rfl wd_375 rfl d_Mo_next_219 ?_
                    refine lv_iload_n S.1 S.2.1 d_Mo_next_222 rfl (lv_at hl 2 rfl) ?_
                    refine lv_aload_n S.1 S.2.1 d_Mo_next_223 rfl (lv_at hl 0 rfl) ?_
                    refine dw_getf (fi := 4) (v := .ref (a 57)) S hw i_Mo ds_ob54 (by decide) rfl wd_366 rfl d_Mo_next_224 ?_
                    refine lv_iload_n S.1 S.2.1 d_Mo_next_227 rfl (lv_at hl 2 rfl) ?_
                    refine dw_iald S.1 S.2.1 hw ds_k57 (by omega) d_Mo_next_228 ?_
                    refine dw_iast S.1 S.2.1 hw ds_k65 (by omega) d_Mo_next_229 (fun f_6 H locs ef_6 hw => ?_)
                    have eD := ef_6
                    rw [c1] at eD
                    refine lv_aload_n S.1 S.2.1 d_Mo_next_230 rfl (lv_at hl 0 rfl) ?_
                    refine dw_getf (fi := 7) (v := .ref (a 60)) S hw i_Mo ds_ob54 (by decide) rfl wd_369 rfl d_Mo_next_231 ?_
                    refine lv_iload_n S.1 S.2.1 d_Mo_next_234 rfl (lv_at hl 2 rfl) ?_
                    refine lv_iconst (v := nI 0) S.1 S.2.1 d_Mo_next_235 (by decide) ?_
                    refine dw_zast S.1 S.2.1 hw (by decide) ds_k60 (by omega) d_Mo_next_236 (fun f_7 H locs ef_7 hw => ?_)
                    refine lv_aload_n S.1 S.2.1 d_Mo_next_237 rfl (lv_at hl 0 rfl) ?_
                    refine dw_getf (fi := 8) (v := .ref (a 61)) S hw i_Mo ds_ob54 (by decide) rfl wd_370 rfl d_Mo_next_238 ?_
                    refine lv_iload_n S.1 S.2.1 d_Mo_next_241 rfl (lv_at hl 2 rfl) ?_
                    refine lv_iconst (v := nI 0) S.1 S.2.1 d_Mo_next_242 (by decide) ?_
                    refine dw_zast S.1 S.2.1 hw (by decide) ds_k61 (by omega) d_Mo_next_243 (fun f_8 H locs ef_8 hw => ?_)
                    have eAll : f_8 = dw_w (dw_w (dw_w (dw_w (dw_w (dw_w f7 57 i (f_n 75 i)) 58 i (f_n 76 i)) 59 (f_n 75 i) (f7 59 (f_n 75 i) + 1)) 65 i (f_n 75 i)) 60 i 0) 61 i 0 := by rw [ef_8, ef_7, eD, eC, eB, eA]
                    have w57 : f_8 57 = dw_up (f7 57) i (f_n 75 i) := by rw [eAll]; rfl
                    have w58 : f_8 58 = dw_up (f7 58) i (f_n 76 i) := by rw [eAll]; rfl
                    have w65 : f_8 65 = dw_up (f7 65) i (f_n 75 i) := by rw [eAll]; rfl
                    have w60 : f_8 60 = dw_up (f7 60) i 0 := by rw [eAll]; rfl
                    have w61 : f_8 61 = dw_up (f7 61) i 0 := by rw [eAll]; rfl
                    refine lv_iinc (v := nI (i + 1)) (lv' := [(2, .int (nI (i + 1))), (0, .ref (a 54)), (1, .int (nI z))]) S.1 S.2.1 d_Mo_next_244 hl (k := 2) rfl (by rw [show Int32.ofInt 1 = nI 1 from rfl, nI_add]) (by decide) rfl (fun ls hl => ?_)
                    refine lv_goto (tgt := 171) S.1 S.2.1 d_Mo_next_247 (by decide) ?_
                    exact ih_171 (i + 1) f_8 (by omega) (fun x hx => by
    rw [w57, w58, w65, w60, w61]
    by_cases ex : x = i
    · rw [ex, dw_up_eq, dw_up_eq, dw_up_eq, dw_up_eq, dw_up_eq]; exact ⟨rfl, rfl, rfl, rfl, rfl⟩
    · rw [dw_up_ne ex, dw_up_ne ex, dw_up_ne ex, dw_up_ne ex, dw_up_ne ex]; exact h1 x (by omega)) (fun w2 hw2 => by
    rw [eAll, dw_w_ne (by decide), dw_w_ne (by decide), dw_w_ne (by decide), dw_w_eq, dw_w_ne (by decide), dw_w_ne (by decide), dw_w_ne (by decide), dw_w_ne (by decide), dw_w_ne (by decide), dw_w_ne (by decide), dw_w_ne (by decide), dw_w_ne (by decide)]
    refine ⟨?_, (h2 w2 hw2).2⟩
    have m3 := (h2 w2 hw2).1
    by_cases ew : w2 = f_n 75 i
    · rw [← ew, dw_up_eq, m3]; simp [ds_cnt, ew]
    · rw [dw_up_ne ew, m3]; simp [ds_cnt, Ne.symm ew]) (fun x hx => by rw [w60, w61, dw_up_ne (by omega), dw_up_ne (by omega)]; exact hY x hx) (fun k hk => by rw [eAll, dw_w_ne (by omega), dw_w_ne (by omega), dw_w_ne (by omega), dw_w_ne (by omega), dw_w_ne (by omega), dw_w_ne (by omega)]; exact hg k hk) (by omega) H locs hw ls (lv_sub hl [1, 2, 0] rfl)
              exact loop_171 _ 0 f6 (Nat.zero_le _) (fun x hx => absurd hx (Nat.not_lt_zero _)) (fun j hj => h0 j (by omega)) (fun x _ => by rw [hg 60 (by decide) (by decide), hg 61 (by decide) (by decide)]; exact ⟨rfl, rfl⟩) (fun k hk => hg k (by omega) (by omega)) (Nat.lt_succ_self _) H locs hw ls (lv_sub hl [1, 2, 0] rfl)
            · refine lv_aload_n S.1 S.2.1 d_Mo_next_148 rfl (lv_at hl 0 rfl) ?_
              refine dw_getf (fi := 6) (v := .ref (a 59)) S hw i_Mo ds_ob54 (by decide) rfl wd_368 rfl d_Mo_next_149 ?_
              refine lv_iload_n S.1 S.2.1 d_Mo_next_152 rfl (lv_at hl 2 rfl) ?_
              refine lv_iconst (v := nI 0) S.1 S.2.1 d_Mo_next_153 (by decide) ?_
              refine dw_iast S.1 S.2.1 hw ds_k59 (by omega) d_Mo_next_154 (fun f_9 H locs ef_9 hw => ?_)
              have eA := ef_9
              refine lv_aload_n S.1 S.2.1 d_Mo_next_155 rfl (lv_at hl 0 rfl) ?_
              refine dw_getf (fi := 9) (v := .ref (a 62)) S hw i_Mo ds_ob54 (by decide) rfl wd_371 rfl d_Mo_next_156 ?_
              refine lv_iload_n S.1 S.2.1 d_Mo_next_159 rfl (lv_at hl 2 rfl) ?_
              refine lv_bipush (v := nI 8) S.1 S.2.1 d_Mo_next_160 (by decide) ?_
              refine dw_iast S.1 S.2.1 hw ds_k62 (by omega) d_Mo_next_162 (fun f_10 H locs ef_10 hw => ?_)
              have eB := ef_10
              refine lv_iinc (v := nI (w + 1)) (lv' := [(2, .int (nI (w + 1))), (0, .ref (a 54)), (1, .int (nI z))]) S.1 S.2.1 d_Mo_next_163 hl (k := 2) rfl (by rw [show Int32.ofInt 1 = nI 1 from rfl, nI_add]) (by decide) rfl (fun ls hl => ?_)
              refine lv_goto (tgt := 143) S.1 S.2.1 d_Mo_next_166 (by decide) ?_
              exact ih_143 (w + 1) f_10 (by omega) (fun j hj => by
    rw [eB, eA, dw_w_ne (by decide), dw_w_eq, dw_w_eq, dw_w_ne (by decide)]
    by_cases ej : j = w
    · rw [ej, dw_up_eq, dw_up_eq]; exact ⟨rfl, rfl⟩
    · rw [dw_up_ne ej, dw_up_ne ej]; exact h0 j (by omega)) (fun k k1 k2 => by rw [eB, eA, dw_w_ne k2, dw_w_ne k1]; exact hg k k1 k2) (by omega) H locs hw ls (lv_sub hl [1, 2, 0] rfl)
        exact loop_143 _ 0 f_n (Nat.zero_le _) (fun j hj => absurd hj (Nat.not_lt_zero _)) (fun _ _ _ => rfl) (Nat.lt_succ_self _) H locs hw ls (lv_sub hl [1, 2, 0] rfl)
      · have hv2 : v < f 54 0 := by omega
        refine lv_iconst (v := nI 0) S.1 S.2.1 d_Mo_next_12 (by decide) ?_
        refine lv_istore_n (lv' := [(3, .int (nI 0)), (0, .ref (a 54)), (1, .int (nI z)), (2, .int (nI v))]) S.1 S.2.1 d_Mo_next_13 rfl hl (by decide) rfl (fun ls hl => ?_)
        refine lv_iconst (v := nI 0) S.1 S.2.1 d_Mo_next_14 (by decide) ?_
        refine lv_istore (lv' := [(4, .int (nI 0)), (3, .int (nI 0)), (0, .ref (a 54)), (1, .int (nI z)), (2, .int (nI v))]) S.1 S.2.1 d_Mo_next_15 hl (by decide) rfl (fun ls hl => ?_)
        have loop_17 : ∀ (n : Nat) (z : Nat) (t : Nat) (i : Nat) (f3 : Nat → Nat → Nat) (hi : i ≤ f 54 1) (et : t = (ds_own (md_v f rw) (fun x => (md_v f rw) 5 x == (md_v f rw) 1 0) v i).length) (ez2 : z = ds_cnt (fun x => (md_v f rw) 5 x == (md_v f rw) 1 0 && decide ((md_v f rw) 10 x < v)) (f 54 1) + (ds_own (md_v f rw) (fun x => (md_v f rw) 5 x == (md_v f rw) 1 0) v i).length) (hN3 : md_np (md_v f rw) f3 v) (hQ : md_nq (md_v f rw) f3 v t) (hag3 : md_an f f3) (_ : f 54 1 - i < n) (H : Heap) (locs : List Loc), dw_W D classes (ds_tys g) A s.heap (dw_l 77 (ds_ce g a) a f3) s H locs → ∀ (ls : Array Slot), lv_has ls 5 [(0, .ref (a 54)), (1, .int (nI z)), (2, .int (nI v)), (3, .int (nI t)), (4, .int (nI i))] → W p l e R s m args below meth c H locs 0 0 Q (F0 m 17 ls []) := by
          intro n
          induction n with
          | zero => intro z t i f3 hi et ez2 hN3 hQ hag3 h9; exact absurd h9 (Nat.not_lt_zero _)
          | succ n ih_17 =>
            intro z t i f3 hi et ez2 hN3 hQ hag3 hm_17 H locs hw ls hl
            have q1 : f3 54 1 = f 54 1 := hag3.2 1 (by decide)
            have q0 : f3 54 0 = f 54 0 := hag3.2 0 (by decide)
            have q65 : f3 65 = f 65 := hag3.1 65 (by decide) (by decide) (by decide) (by decide)
            have q57 : f3 57 = f 57 := hag3.1 57 (by decide) (by decide) (by decide) (by decide)
            refine lv_iload S.1 S.2.1 d_Mo_next_17 (lv_at hl 4 rfl) ?_
            refine lv_aload_n S.1 S.2.1 d_Mo_next_19 rfl (lv_at hl 0 rfl) ?_
            refine dw_getf (fi := 1) (v := .int (nI (f3 54 1))) S hw i_Mo ds_ob54 (by decide) rfl wd_363 rfl d_Mo_next_20 ?_
            refine dn_icmp_ge S.1 S.2.1 79 (by omega) (by omega) d_Mo_next_23 (by decide) (fun h_23 => ?_) (fun h_23 => ?_)
            · have okv : ds_ok (md_v f3 rw) := by rw [md_an_v hag3]; exact ok
              refine lv_aload_n S.1 S.2.1 d_Mo_next_79 rfl (lv_at hl 0 rfl) ?_
              refine lv_aload_n S.1 S.2.1 d_Mo_next_80 rfl (lv_at hl 0 rfl) ?_
              refine dw_getf (fi := 13) (v := .ref (a 65)) S hw i_Mo ds_ob54 (by decide) rfl wd_375 rfl d_Mo_next_81 ?_
              refine lv_iload_n S.1 S.2.1 d_Mo_next_84 rfl (lv_at hl 2 rfl) ?_
              refine dw_aftv hw hA (dw_runV (As := [.ref (a 65), .int (nI v)]) (rest := []) (ko := 54) hw S ds_good (m_go l D g a f3 rw 65 v (okv) (by rw [q0]; exact hv2) (ds_k65) (Or.inl rfl) (fun x hx => by rw [q65]; rw [q1] at hx; have := hst x hx; omega) H.size) cw_Mo_go wd_502 wd_504 ws_Mo_go ds_ob54 dw_blind (dw_pre hw hN) rfl hl.1 rfl ⟨Nat.le_trans (Nat.le_of_ble_eq_true rfl) hR.1, Nat.le_trans (Nat.le_of_ble_eq_true rfl) hR.2⟩ (Nat.le_of_ble_eq_true rfl) ⟨Nat.zero_le _, Nat.zero_le _⟩ d_Mo_next_85) (fun f_11 H locs hp hw => ?_)
              obtain ⟨hgo, ef_11, hgs⟩ := hp
              have eG := ef_11
              obtain ⟨L, eL⟩ : ∃ x, x = ds_rd (md_v f rw) (fun x => (md_v f rw) 5 x == v) v := ⟨_, rfl⟩
              have eLL : ds_rd (md_v f3 rw) (fun zz => f3 65 zz == v) v = L := by rw [md_an_v hag3, q65, eL]; rfl
              rw [eLL] at eG hgs
              have hLn : L.length ≤ f 54 1 := by rw [eL]; exact dr_rd_len hrw _ hv2
              have hLm : ∀ x ∈ L, x < f 54 1 := fun x hx => (dr_rd_in hrw _ hv2 (by rw [eL] at hx; exact hx)).1
              have eI : i = f 54 1 := by omega
              rw [eI] at ez2
              refine lv_iconst (v := nI 0) S.1 S.2.1 d_Mo_next_88 (by decide) ?_
              refine lv_istore (lv' := [(4, .int (nI 0)), (0, .ref (a 54)), (1, .int (nI z)), (2, .int (nI v)), (3, .int (nI t))]) S.1 S.2.1 d_Mo_next_89 hl (by decide) rfl (fun ls hl => ?_)
              have loop_91 : ∀ (n : Nat) (t : Nat) (i : Nat) (f5 : Nat → Nat → Nat) (hi : i ≤ L.length) (et : t = (ds_own (md_v f rw) (fun x => (md_v f rw) 5 x == (md_v f rw) 1 0) v (f 54 1)).length + i) (hN3 : md_np (md_v f rw) f5 v) (hQ : md_nq (md_v f rw) f5 v t) (hag5 : md_an f f5) (h74 : f5 74 = hgo) (hz5 : f5 54 25 = L.length) (_ : L.length - i < n) (H : Heap) (locs : List Loc), dw_W D classes (ds_tys g) A s.heap (dw_l 77 (ds_ce g a) a f5) s H locs → ∀ (ls : Array Slot), lv_has ls 5 [(0, .ref (a 54)), (1, .int (nI z)), (2, .int (nI v)), (3, .int (nI t)), (4, .int (nI i))] → W p l e R s m args below meth c H locs 0 0 Q (F0 m 91 ls []) := by
                intro n
                induction n with
                | zero => intro t i f5 hi et hN3 hQ hag5 h74 hz5 h9; exact absurd h9 (Nat.not_lt_zero _)
                | succ n ih_91 =>
                  intro t i f5 hi et hN3 hQ hag5 h74 hz5 hm_91 H locs hw ls hl
                  refine lv_iload S.1 S.2.1 d_Mo_next_91 (lv_at hl 4 rfl) ?_
                  refine lv_aload_n S.1 S.2.1 d_Mo_next_93 rfl (lv_at hl 0 rfl) ?_
                  refine dw_getf (fi := 25) (v := .int (nI (f5 54 25))) S hw i_Mo ds_ob54 (by decide) rfl wd_387 rfl d_Mo_next_94 ?_
                  refine dn_icmp_ge S.1 S.2.1 135 (by omega) (by omega) d_Mo_next_97 (by decide) (fun h_97 => ?_) (fun h_97 => ?_)
                  · refine lv_iinc (v := nI (v + 1)) (lv' := [(2, .int (nI (v + 1))), (0, .ref (a 54)), (1, .int (nI z)), (3, .int (nI t)), (4, .int (nI i))]) S.1 S.2.1 d_Mo_next_135 hl (k := 2) rfl (by rw [show Int32.ofInt 1 = nI 1 from rfl, nI_add]) (by decide) rfl (fun ls hl => ?_)
                    refine lv_goto (tgt := 4) S.1 S.2.1 d_Mo_next_138 (by decide) ?_
                    exact ih_4 z (v + 1) f5 (by omega) (by rw [ez2, ds_own_cnt, md_cntV]) (fun w hw2 r hr => by
    by_cases ew : w = v
    · subst ew; exact hQ r (by rw [show t = (md_nl (md_v f rw) w).length by rw [et]; unfold md_nl; rw [List.length_append, ← eL, e11]; omega]; exact hr)
    · exact hN3 w (by omega) r hr) (hag5) (by omega) H locs hw ls (lv_sub hl [1, 2, 0] rfl)
                  · have h_98 : i < L.length := by omega
                    obtain ⟨x, ex⟩ : ∃ q, q = L.getD i 0 := ⟨_, rfl⟩
                    have q74 : f5 74 i = x := by rw [h74, ex]; have q := hgs i h_98; rwa [Nat.zero_add] at q
                    have hx : x < f 54 1 := by rw [ex]; exact hLm _ (ds_getD_mem h_98)
                    have tx : (md_nl (md_v f rw) v).getD t 0 = x := by rw [et, ex, eL]; exact md_nl_at2
                    have tl : t < (md_nl (md_v f rw) v).length := by unfold md_nl; rw [List.length_append, ← eL, e11]; omega
                    have hst1 := md_nstep hrw hv2 hN3 hQ tl tx
                    refine lv_aload_n S.1 S.2.1 d_Mo_next_100 rfl (lv_at hl 0 rfl) ?_
                    refine dw_getf (fi := 26) (v := .ref (a 75)) S hw i_Mo ds_ob54 (by decide) rfl wd_388 rfl d_Mo_next_101 ?_
                    refine lv_aload_n S.1 S.2.1 d_Mo_next_104 rfl (lv_at hl 0 rfl) ?_
                    refine dw_getf (fi := 24) (v := .ref (a 74)) S hw i_Mo ds_ob54 (by decide) rfl wd_386 rfl d_Mo_next_105 ?_
                    refine lv_iload S.1 S.2.1 d_Mo_next_108 (lv_at hl 4 rfl) ?_
                    refine dw_iald S.1 S.2.1 hw ds_k74 (by omega) d_Mo_next_110 ?_
                    refine lv_iload_n S.1 S.2.1 d_Mo_next_111 rfl (lv_at hl 2 rfl) ?_
                    refine dw_iast S.1 S.2.1 hw ds_k75 (by omega) d_Mo_next_112 (fun f_12 H locs ef_12 hw => ?_)
                    have q75 : f_12 74 i = x := by rw [ef_12, dw_w_ne (by decide)]; exact q74
                    refine lv_aload_n S.1 S.2.1 d_Mo_next_113 rfl (lv_at hl 0 rfl) ?_
                    refine dw_getf (fi := 27) (v := .ref (a 76)) S hw i_Mo ds_ob54 (by decide) rfl wd_389 rfl d_Mo_next_114 ?_
                    refine lv_aload_n S.1 S.2.1 d_Mo_next_117 rfl (lv_at hl 0 rfl) ?_
                    refine dw_getf (fi := 24) (v := .ref (a 74)) S hw i_Mo ds_ob54 (by decide) rfl wd_386 rfl d_Mo_next_118 ?_
                    refine lv_iload S.1 S.2.1 d_Mo_next_121 (lv_at hl 4 rfl) ?_
                    refine dw_iald S.1 S.2.1 hw ds_k74 (by omega) d_Mo_next_123 ?_
                    refine lv_iload_n S.1 S.2.1 d_Mo_next_124 rfl (lv_at hl 3 rfl) ?_
                    refine dw_iast S.1 S.2.1 hw ds_k76 (by omega) d_Mo_next_125 (fun f_13 H locs ef_13 hw => ?_)
                    have eS : f_13 = dw_w (dw_w f5 75 x v) 76 x t := by rw [ef_13, q75, ef_12, q74]
                    refine lv_iinc (v := nI (t + 1)) (lv' := [(3, .int (nI (t + 1))), (0, .ref (a 54)), (1, .int (nI z)), (2, .int (nI v)), (4, .int (nI i))]) S.1 S.2.1 d_Mo_next_126 hl (k := 3) rfl (by rw [show Int32.ofInt 1 = nI 1 from rfl, nI_add]) (by decide) rfl (fun ls hl => ?_)
                    refine lv_iinc (v := nI (i + 1)) (lv' := [(4, .int (nI (i + 1))), (3, .int (nI (t + 1))), (0, .ref (a 54)), (1, .int (nI z)), (2, .int (nI v))]) S.1 S.2.1 d_Mo_next_129 hl (k := 4) rfl (by rw [show Int32.ofInt 1 = nI 1 from rfl, nI_add]) (by decide) rfl (fun ls hl => ?_)
                    refine lv_goto (tgt := 91) S.1 S.2.1 d_Mo_next_132 (by decide) ?_
                    exact ih_91 (t + 1) (i + 1) f_13 (by omega) (by omega) (by rw [eS]; exact hst1.1) (by rw [eS]; exact hst1.2) (by rw [eS]; exact md_an_w hag5) (by rw [eS, dw_w_ne (by decide), dw_w_ne (by decide)]; exact h74) (by rw [eS, dw_w_ne (by decide), dw_w_ne (by decide)]; exact hz5) (by omega) H locs hw ls (lv_sub hl [2, 3, 4, 1, 0] rfl)
              exact loop_91 _ t 0 f_11 (Nat.zero_le _) (by rw [et, show i = f 54 1 by omega]; rfl) (fun w hw2 r hr => by rw [eG, md_r_ne (by decide) (by decide), md_r_ne (by decide) (by decide)]; exact hN3 w hw2 r hr) (fun r hr => by rw [eG, md_r_ne (by decide) (by decide), md_r_ne (by decide) (by decide)]; exact hQ r hr) (by rw [eG]; exact md_an_r hag3 _ _) (by rw [eG, md_r_74]) (by rw [eG, md_r_z]) (Nat.lt_succ_self _) H locs hw ls (lv_sub hl [1, 2, 3, 4, 0] rfl)
            · have s1 := hst i (by omega)
              have r1 := hrB i (by omega)
              refine lv_aload_n S.1 S.2.1 d_Mo_next_26 rfl (lv_at hl 0 rfl) ?_
              refine dw_getf (fi := 13) (v := .ref (a 65)) S hw i_Mo ds_ob54 (by decide) rfl wd_375 rfl d_Mo_next_27 ?_
              refine lv_iload S.1 S.2.1 d_Mo_next_30 (lv_at hl 4 rfl) ?_
              refine dw_iald S.1 S.2.1 hw ds_k65 (by omega) d_Mo_next_32 ?_
              refine lv_aload_n S.1 S.2.1 d_Mo_next_33 rfl (lv_at hl 0 rfl) ?_
              refine dw_getf (fi := 0) (v := .int (nI (f3 54 0))) S hw i_Mo ds_ob54 (by decide) rfl wd_362 rfl d_Mo_next_34 ?_
              refine dn_icmp_ne S.1 S.2.1 73 (by rw [q65]; omega) (by omega) d_Mo_next_37 (by decide) (fun h_37 => ?_) (fun h_37 => ?_)
              · have hP : ¬ ((fun x => (md_v f rw) 5 x == (md_v f rw) 1 0) i && (md_v f rw) 10 i == v) = true := by show ¬ ((f 65 i == f 54 0) && (f 57 i == v)) = true; rw [q65, q0] at h_37; simp; omega
                refine lv_iinc (v := nI (i + 1)) (lv' := [(4, .int (nI (i + 1))), (0, .ref (a 54)), (1, .int (nI z)), (2, .int (nI v)), (3, .int (nI t))]) S.1 S.2.1 d_Mo_next_73 hl (k := 4) rfl (by rw [show Int32.ofInt 1 = nI 1 from rfl, nI_add]) (by decide) rfl (fun ls hl => ?_)
                refine lv_goto (tgt := 17) S.1 S.2.1 d_Mo_next_76 (by decide) ?_
                exact ih_17 z t (i + 1) f3 (by omega) (by rw [ds_own_s, if_neg hP, List.append_nil]; exact et) (by rw [ds_own_s, if_neg hP, List.append_nil]; exact ez2) (hN3) (hQ) (hag3) (by omega) H locs hw ls (lv_sub hl [1, 2, 3, 4, 0] rfl)
              · refine lv_aload_n S.1 S.2.1 d_Mo_next_40 rfl (lv_at hl 0 rfl) ?_
                refine dw_getf (fi := 4) (v := .ref (a 57)) S hw i_Mo ds_ob54 (by decide) rfl wd_366 rfl d_Mo_next_41 ?_
                refine lv_iload S.1 S.2.1 d_Mo_next_44 (lv_at hl 4 rfl) ?_
                refine dw_iald S.1 S.2.1 hw ds_k57 (by omega) d_Mo_next_46 ?_
                refine lv_iload_n S.1 S.2.1 d_Mo_next_47 rfl (lv_at hl 2 rfl) ?_
                refine dn_icmp_ne S.1 S.2.1 73 (by rw [q57]; omega) (by omega) d_Mo_next_48 (by decide) (fun h_48 => ?_) (fun h_48 => ?_)
                · have hP : ¬ ((fun x => (md_v f rw) 5 x == (md_v f rw) 1 0) i && (md_v f rw) 10 i == v) = true := by show ¬ ((f 65 i == f 54 0) && (f 57 i == v)) = true; rw [q57] at h_48; simp; omega
                  refine lv_iinc (v := nI (i + 1)) (lv' := [(4, .int (nI (i + 1))), (0, .ref (a 54)), (1, .int (nI z)), (2, .int (nI v)), (3, .int (nI t))]) S.1 S.2.1 d_Mo_next_73 hl (k := 4) rfl (by rw [show Int32.ofInt 1 = nI 1 from rfl, nI_add]) (by decide) rfl (fun ls hl => ?_)
                  refine lv_goto (tgt := 17) S.1 S.2.1 d_Mo_next_76 (by decide) ?_
                  exact ih_17 z t (i + 1) f3 (by omega) (by rw [ds_own_s, if_neg hP, List.append_nil]; exact et) (by rw [ds_own_s, if_neg hP, List.append_nil]; exact ez2) (hN3) (hQ) (hag3) (by omega) H locs hw ls (lv_sub hl [1, 2, 3, 4, 0] rfl)
                · have hP : ((fun x => (md_v f rw) 5 x == (md_v f rw) 1 0) i && (md_v f rw) 10 i == v) = true := by show ((f 65 i == f 54 0) && (f 57 i == v)) = true; rw [q65] at h_37; rw [q57] at h_48; simp; omega
                  obtain ⟨tl, tx⟩ := md_nl_at (F := (md_v f rw)) (v := v) (i := i) (by rw [e11]; omega) hP
                  rw [← et] at tl tx
                  have hst1 := md_nstep hrw hv2 hN3 hQ tl tx
                  refine lv_aload_n S.1 S.2.1 d_Mo_next_51 rfl (lv_at hl 0 rfl) ?_
                  refine dw_getf (fi := 26) (v := .ref (a 75)) S hw i_Mo ds_ob54 (by decide) rfl wd_388 rfl d_Mo_next_52 ?_
                  refine lv_iload S.1 S.2.1 d_Mo_next_55 (lv_at hl 4 rfl) ?_
                  refine lv_iload_n S.1 S.2.1 d_Mo_next_57 rfl (lv_at hl 2 rfl) ?_
                  refine dw_iast S.1 S.2.1 hw ds_k75 (by omega) d_Mo_next_58 (fun f_14 H locs ef_14 hw => ?_)
                  refine lv_aload_n S.1 S.2.1 d_Mo_next_59 rfl (lv_at hl 0 rfl) ?_
                  refine dw_getf (fi := 27) (v := .ref (a 76)) S hw i_Mo ds_ob54 (by decide) rfl wd_389 rfl d_Mo_next_60 ?_
                  refine lv_iload S.1 S.2.1 d_Mo_next_63 (lv_at hl 4 rfl) ?_
                  refine lv_iload_n S.1 S.2.1 d_Mo_next_65 rfl (lv_at hl 3 rfl) ?_
                  refine dw_iast S.1 S.2.1 hw ds_k76 (by omega) d_Mo_next_66 (fun f_15 H locs ef_15 hw => ?_)
                  have eS : f_15 = dw_w (dw_w f3 75 i v) 76 i t := by rw [ef_15, ef_14]
                  refine lv_iinc (v := nI (t + 1)) (lv' := [(3, .int (nI (t + 1))), (0, .ref (a 54)), (1, .int (nI z)), (2, .int (nI v)), (4, .int (nI i))]) S.1 S.2.1 d_Mo_next_67 hl (k := 3) rfl (by rw [show Int32.ofInt 1 = nI 1 from rfl, nI_add]) (by decide) rfl (fun ls hl => ?_)
                  refine lv_iinc (v := nI (z + 1)) (lv' := [(1, .int (nI (z + 1))), (3, .int (nI (t + 1))), (0, .ref (a 54)), (2, .int (nI v)), (4, .int (nI i))]) S.1 S.2.1 d_Mo_next_70 hl (k := 2) rfl (by rw [show Int32.ofInt 1 = nI 1 from rfl, nI_add]) (by decide) rfl (fun ls hl => ?_)
                  refine lv_iinc (v := nI (i + 1)) (lv' := [(4, .int (nI (i + 1))), (1, .int (nI (z + 1))), (3, .int (nI (t + 1))), (0, .ref (a 54)), (2, .int (nI v))]) S.1 S.2.1 d_Mo_next_73 hl (k := 4) rfl (by rw [show Int32.ofInt 1 = nI 1 from rfl, nI_add]) (by decide) rfl (fun ls hl => ?_)
                  refine lv_goto (tgt := 17) S.1 S.2.1 d_Mo_next_76 (by decide) ?_
                  exact ih_17 (z + 1) (t + 1) (i + 1) f_15 (by omega) (by rw [ds_own_s, if_pos hP, List.length_append, List.length_singleton, et]) (by rw [ds_own_s, if_pos hP, List.length_append, List.length_singleton, ez2]; omega) (by rw [eS]; exact hst1.1) (by rw [eS]; exact hst1.2) (by rw [eS]; exact md_an_w hag3) (by omega) H locs hw ls (lv_sub hl [3, 1, 4, 2, 0] rfl)
        exact loop_17 _ z 0 0 f2 (Nat.zero_le _) (rfl) (ez) (hN2) (fun r hr => absurd hr (Nat.not_lt_zero _)) (hag) (Nat.lt_succ_self _) H locs hw ls (lv_sub hl [2, 3, 4, 1, 0] rfl)
  exact loop_4 _ 0 0 f (Nat.zero_le _) (by rw [ds_cnt_congr (P2 := fun _ => false) _ (fun i hi => by simp), ds_cnt_false]) (fun w hw => absurd hw (Nat.not_lt_zero _)) (⟨fun _ _ _ _ _ => rfl, fun _ _ => rfl⟩) (Nat.lt_succ_self _) H locs hw ls (lv_sub hl [2, 1, 0] rfl)
