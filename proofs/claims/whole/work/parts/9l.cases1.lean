/-! the law's cases -/
section
variable {p : Program} {l : Launch} {e : Env} {s : State} {m : MethodId} {below : List Frame} {meth : Method} {c : Code} {b L i : Nat} {xs : Nat → Int32} {D : va_G} {g : Nat → ClassId} {a : Nat → Nat} {f : Nat → Nat → Nat} {H : Heap} {locs : List Loc} {ls : Array Slot} {Q : State → Prop}
set_option maxHeartbeats 4000000 in
theorem law_stop (S : CallFix p m c code 4 s #[Value.ref b] ds_T R_law) (hN : dw_N lw_tbl s) (hX : va_X b L xs s s.heap) (hbl : b < s.heap.size) (hL : L ≤ 2049) (hiL : i + 4 ≤ L) (hi : ag_I f) (hw : dw_W D classes (ds_tys g) (fun q : Nat => s.heap.size ≤ q) s.heap (dw_l 77 (ds_ce g a) a f) s H locs) (hl : lv_has ls 4 [(0, .ref b), (1, .ref (a 0)), (2, .ref (a 54)), (3, .int (nI i))]) (kk : ∀ (f2 : Nat → Nat → Nat) (H : Heap) (locs : List Loc), ag_I f2 → dw_W D classes (ds_tys g) (fun q : Nat => s.heap.size ≤ q) s.heap (dw_l 77 (ds_ce g a) a f2) s H locs → W p l e room_1 s m #[Value.ref b] below meth c H locs 77 1240 Q (F0 m 659 ls [])) : W p l e room_1 s m #[Value.ref b] below meth c H locs 77 1240 Q (F0 m 136 ls []) := by
  have hA : ∀ q : Nat, s.heap.size ≤ q → (fun q : Nat => s.heap.size ≤ q) q := fun _ h => h
  have hbA : ¬ (fun q : Nat => s.heap.size ≤ q) b := Nat.not_le.mpr hbl
  obtain ⟨x1, e1⟩ : ∃ z, z = xs (nI (i + 1)).toNatClampNeg := ⟨_, rfl⟩
  obtain ⟨x2, e2⟩ : ∃ z, z = xs (nI (i + 2)).toNatClampNeg := ⟨_, rfl⟩
  obtain ⟨x3, e3⟩ : ∃ z, z = xs (nI (i + 3)).toNatClampNeg := ⟨_, rfl⟩
  refine lv_aload_n S.1 S.2.1 d_law_136 rfl (lv_at hl 1 rfl) ?_
  refine lv_aload_n S.1 S.2.1 d_law_137 rfl (lv_at hl 0 rfl) ?_
  refine lv_iload_n S.1 S.2.1 d_law_138 rfl (lv_at hl 3 rfl) ?_
  refine lv_iconst (v := nI 1) S.1 S.2.1 d_law_139 (by decide) ?_
  refine dn_iadd S.1 S.2.1 d_law_140 ?_
  refine va_sld S.1 S.2.1 hX hbl hbA hw.2.2.2 (vp_in_nI (by omega) (by omega)) d_law_141 ?_
  refine ds_topi (w := x1) e1.symm ?_
  refine lv_aload_n S.1 S.2.1 d_law_142 rfl (lv_at hl 0 rfl) ?_
  refine lv_iload_n S.1 S.2.1 d_law_143 rfl (lv_at hl 3 rfl) ?_
  refine lv_iconst (v := nI 2) S.1 S.2.1 d_law_144 (by decide) ?_
  refine dn_iadd S.1 S.2.1 d_law_145 ?_
  refine va_sld S.1 S.2.1 hX hbl hbA hw.2.2.2 (vp_in_nI (by omega) (by omega)) d_law_146 ?_
  refine ds_topi (w := x2) e2.symm ?_
  refine lv_aload_n S.1 S.2.1 d_law_147 rfl (lv_at hl 0 rfl) ?_
  refine lv_iload_n S.1 S.2.1 d_law_148 rfl (lv_at hl 3 rfl) ?_
  refine lv_iconst (v := nI 3) S.1 S.2.1 d_law_149 (by decide) ?_
  refine dn_iadd S.1 S.2.1 d_law_150 ?_
  refine va_sld S.1 S.2.1 hX hbl hbA hw.2.2.2 (vp_in_nI (by omega) (by omega)) d_law_151 ?_
  refine ds_topi (w := x3) e3.symm ?_
  refine dw_afti hw hA (dw_runV (As := [.int x1, .int x2, .int x3]) (rest := []) (ko := 0) hw S ds_good (c_stop l D g a f x1 x2 x3 hi.1.1 H.size) cw_DS_stop wd_157 wd_158 wd_159 ds_ob0 dw_blind (dw_pre hw hN) rfl hl.1 rfl ⟨Nat.le_of_ble_eq_true rfl, Nat.le_of_ble_eq_true rfl⟩ (Nat.le_of_ble_eq_true rfl) ⟨Nat.le_of_ble_eq_true rfl, Nat.le_of_ble_eq_true rfl⟩ d_law_152) (fun r1 f1 H locs h1 hw => ?_)
  have up := U_stop hi h1
  have M := ag_m hi up
  refine lv_aload_n S.1 S.2.1 d_law_155 rfl (lv_at hl 2 rfl) ?_
  refine lv_aload_n S.1 S.2.1 d_law_156 rfl (lv_at hl 0 rfl) ?_
  refine lv_iload_n S.1 S.2.1 d_law_157 rfl (lv_at hl 3 rfl) ?_
  refine lv_iconst (v := nI 1) S.1 S.2.1 d_law_158 (by decide) ?_
  refine dn_iadd S.1 S.2.1 d_law_159 ?_
  refine va_sld S.1 S.2.1 hX hbl hbA hw.2.2.2 (vp_in_nI (by omega) (by omega)) d_law_160 ?_
  refine ds_topi (w := x1) e1.symm ?_
  refine lv_aload_n S.1 S.2.1 d_law_161 rfl (lv_at hl 0 rfl) ?_
  refine lv_iload_n S.1 S.2.1 d_law_162 rfl (lv_at hl 3 rfl) ?_
  refine lv_iconst (v := nI 2) S.1 S.2.1 d_law_163 (by decide) ?_
  refine dn_iadd S.1 S.2.1 d_law_164 ?_
  refine va_sld S.1 S.2.1 hX hbl hbA hw.2.2.2 (vp_in_nI (by omega) (by omega)) d_law_165 ?_
  refine ds_topi (w := x2) e2.symm ?_
  refine lv_aload_n S.1 S.2.1 d_law_166 rfl (lv_at hl 0 rfl) ?_
  refine lv_iload_n S.1 S.2.1 d_law_167 rfl (lv_at hl 3 rfl) ?_
  refine lv_iconst (v := nI 3) S.1 S.2.1 d_law_168 (by decide) ?_
  refine dn_iadd S.1 S.2.1 d_law_169 ?_
  refine va_sld S.1 S.2.1 hX hbl hbA hw.2.2.2 (vp_in_nI (by omega) (by omega)) d_law_170 ?_
  refine ds_topi (w := x3) e3.symm ?_
  refine dw_afti hw hA (dw_runV (As := [.int x1, .int x2, .int x3]) (rest := [.int r1]) (ko := 54) hw S ds_good (m_stop l D g a f1 x1 x2 x3 M.1 M.2.1 H.size) cw_Mo_stop wd_447 wd_448 wd_449 ds_ob54 dw_blind (dw_pre hw hN) rfl hl.1 rfl ⟨Nat.le_of_ble_eq_true rfl, Nat.le_of_ble_eq_true rfl⟩ (Nat.le_of_ble_eq_true rfl) ⟨Nat.le_of_ble_eq_true rfl, Nat.le_of_ble_eq_true rfl⟩ d_law_171) (fun r2 f2 H locs h2 hw => ?_)
  have hag := L_stop hi h1 h2
  exact lv_icmp_eq (tgt := 659) S.1 S.2.1 d_law_174 (by decide) (fun _ => kk f2 H locs hag.2 hw) (fun h => absurd hag.1 h)
set_option maxHeartbeats 4000000 in
theorem law_freeze (S : CallFix p m c code 4 s #[Value.ref b] ds_T R_law) (hN : dw_N lw_tbl s) (hX : va_X b L xs s s.heap) (hbl : b < s.heap.size) (hL : L ≤ 2049) (hiL : i + 4 ≤ L) (hi : ag_I f) (hw : dw_W D classes (ds_tys g) (fun q : Nat => s.heap.size ≤ q) s.heap (dw_l 77 (ds_ce g a) a f) s H locs) (hl : lv_has ls 4 [(0, .ref b), (1, .ref (a 0)), (2, .ref (a 54)), (3, .int (nI i))]) (kk : ∀ (f2 : Nat → Nat → Nat) (H : Heap) (locs : List Loc), ag_I f2 → dw_W D classes (ds_tys g) (fun q : Nat => s.heap.size ≤ q) s.heap (dw_l 77 (ds_ce g a) a f2) s H locs → W p l e room_1 s m #[Value.ref b] below meth c H locs 77 1240 Q (F0 m 659 ls [])) : W p l e room_1 s m #[Value.ref b] below meth c H locs 77 1240 Q (F0 m 179 ls []) := by
  have hA : ∀ q : Nat, s.heap.size ≤ q → (fun q : Nat => s.heap.size ≤ q) q := fun _ h => h
  have hbA : ¬ (fun q : Nat => s.heap.size ≤ q) b := Nat.not_le.mpr hbl
  obtain ⟨x1, e1⟩ : ∃ z, z = xs (nI (i + 1)).toNatClampNeg := ⟨_, rfl⟩
  obtain ⟨x2, e2⟩ : ∃ z, z = xs (nI (i + 2)).toNatClampNeg := ⟨_, rfl⟩
  by_cases hz : x2 = 0
  · refine lv_aload_n S.1 S.2.1 d_law_179 rfl (lv_at hl 1 rfl) ?_
    refine lv_aload_n S.1 S.2.1 d_law_180 rfl (lv_at hl 0 rfl) ?_
    refine lv_iload_n S.1 S.2.1 d_law_181 rfl (lv_at hl 3 rfl) ?_
    refine lv_iconst (v := nI 1) S.1 S.2.1 d_law_182 (by decide) ?_
    refine dn_iadd S.1 S.2.1 d_law_183 ?_
    refine va_sld S.1 S.2.1 hX hbl hbA hw.2.2.2 (vp_in_nI (by omega) (by omega)) d_law_184 ?_
    refine ds_topi (w := x1) e1.symm ?_
    refine lv_aload_n S.1 S.2.1 d_law_185 rfl (lv_at hl 0 rfl) ?_
    refine lv_iload_n S.1 S.2.1 d_law_186 rfl (lv_at hl 3 rfl) ?_
    refine lv_iconst (v := nI 2) S.1 S.2.1 d_law_187 (by decide) ?_
    refine dn_iadd S.1 S.2.1 d_law_188 ?_
    refine va_sld S.1 S.2.1 hX hbl hbA hw.2.2.2 (vp_in_nI (by omega) (by omega)) d_law_189 ?_
    refine ds_topi (w := x2) e2.symm ?_
    refine lv_if_eq (tgt := 197) S.1 S.2.1 d_law_190 (by decide) (fun h => ?_) (fun h => absurd hz h)
    refine lv_iconst (v := nI 0) S.1 S.2.1 d_law_197 (by decide) ?_
    refine dw_afti hw hA (dw_runV (As := [.int x1, .int (nI 0)]) (rest := []) (ko := 0) hw S ds_good (c_freeze l D g a f x1 0 hi.1.1.2.1 (by decide) H.size) cw_DS_freeze wd_177 wd_178 wd_179 ds_ob0 dw_blind (dw_pre hw hN) rfl hl.1 rfl ⟨Nat.le_of_ble_eq_true rfl, Nat.le_of_ble_eq_true rfl⟩ (Nat.le_of_ble_eq_true rfl) ⟨Nat.le_of_ble_eq_true rfl, Nat.le_of_ble_eq_true rfl⟩ d_law_198) (fun r1 f1 H locs h1 hw => ?_)
    have up := U_freeze hi h1
    have M := ag_m hi up
    refine lv_aload_n S.1 S.2.1 d_law_201 rfl (lv_at hl 2 rfl) ?_
    refine lv_aload_n S.1 S.2.1 d_law_202 rfl (lv_at hl 0 rfl) ?_
    refine lv_iload_n S.1 S.2.1 d_law_203 rfl (lv_at hl 3 rfl) ?_
    refine lv_iconst (v := nI 1) S.1 S.2.1 d_law_204 (by decide) ?_
    refine dn_iadd S.1 S.2.1 d_law_205 ?_
    refine va_sld S.1 S.2.1 hX hbl hbA hw.2.2.2 (vp_in_nI (by omega) (by omega)) d_law_206 ?_
    refine ds_topi (w := x1) e1.symm ?_
    refine lv_aload_n S.1 S.2.1 d_law_207 rfl (lv_at hl 0 rfl) ?_
    refine lv_iload_n S.1 S.2.1 d_law_208 rfl (lv_at hl 3 rfl) ?_
    refine lv_iconst (v := nI 2) S.1 S.2.1 d_law_209 (by decide) ?_
    refine dn_iadd S.1 S.2.1 d_law_210 ?_
    refine va_sld S.1 S.2.1 hX hbl hbA hw.2.2.2 (vp_in_nI (by omega) (by omega)) d_law_211 ?_
    refine ds_topi (w := x2) e2.symm ?_
    refine lv_if_eq (tgt := 219) S.1 S.2.1 d_law_212 (by decide) (fun h => ?_) (fun h => absurd hz h)
    refine lv_iconst (v := nI 0) S.1 S.2.1 d_law_219 (by decide) ?_
    refine dw_afti hw hA (dw_runV (As := [.int x1, .int (nI 0)]) (rest := [.int r1]) (ko := 54) hw S ds_good (m_freeze l D g a f1 x1 0 M.2.1 (by decide) H.size) cw_Mo_freeze wd_460 wd_461 wd_462 ds_ob54 dw_blind (dw_pre hw hN) rfl hl.1 rfl ⟨Nat.le_of_ble_eq_true rfl, Nat.le_of_ble_eq_true rfl⟩ (Nat.le_of_ble_eq_true rfl) ⟨Nat.le_of_ble_eq_true rfl, Nat.le_of_ble_eq_true rfl⟩ d_law_220) (fun r2 f2 H locs h2 hw => ?_)
    have hag := L_freeze hi (by decide) h1 h2
    exact lv_icmp_eq (tgt := 659) S.1 S.2.1 d_law_223 (by decide) (fun _ => kk f2 H locs hag.2 hw) (fun h => absurd hag.1 h)
  · refine lv_aload_n S.1 S.2.1 d_law_179 rfl (lv_at hl 1 rfl) ?_
    refine lv_aload_n S.1 S.2.1 d_law_180 rfl (lv_at hl 0 rfl) ?_
    refine lv_iload_n S.1 S.2.1 d_law_181 rfl (lv_at hl 3 rfl) ?_
    refine lv_iconst (v := nI 1) S.1 S.2.1 d_law_182 (by decide) ?_
    refine dn_iadd S.1 S.2.1 d_law_183 ?_
    refine va_sld S.1 S.2.1 hX hbl hbA hw.2.2.2 (vp_in_nI (by omega) (by omega)) d_law_184 ?_
    refine ds_topi (w := x1) e1.symm ?_
    refine lv_aload_n S.1 S.2.1 d_law_185 rfl (lv_at hl 0 rfl) ?_
    refine lv_iload_n S.1 S.2.1 d_law_186 rfl (lv_at hl 3 rfl) ?_
    refine lv_iconst (v := nI 2) S.1 S.2.1 d_law_187 (by decide) ?_
    refine dn_iadd S.1 S.2.1 d_law_188 ?_
    refine va_sld S.1 S.2.1 hX hbl hbA hw.2.2.2 (vp_in_nI (by omega) (by omega)) d_law_189 ?_
    refine ds_topi (w := x2) e2.symm ?_
    refine lv_if_eq (tgt := 197) S.1 S.2.1 d_law_190 (by decide) (fun h => absurd h hz) (fun h => ?_)
    refine lv_iconst (v := nI 1) S.1 S.2.1 d_law_193 (by decide) ?_
    refine lv_goto (tgt := 198) S.1 S.2.1 d_law_194 (by decide) ?_
    refine dw_afti hw hA (dw_runV (As := [.int x1, .int (nI 1)]) (rest := []) (ko := 0) hw S ds_good (c_freeze l D g a f x1 1 hi.1.1.2.1 (by decide) H.size) cw_DS_freeze wd_177 wd_178 wd_179 ds_ob0 dw_blind (dw_pre hw hN) rfl hl.1 rfl ⟨Nat.le_of_ble_eq_true rfl, Nat.le_of_ble_eq_true rfl⟩ (Nat.le_of_ble_eq_true rfl) ⟨Nat.le_of_ble_eq_true rfl, Nat.le_of_ble_eq_true rfl⟩ d_law_198) (fun r1 f1 H locs h1 hw => ?_)
    have up := U_freeze hi h1
    have M := ag_m hi up
    refine lv_aload_n S.1 S.2.1 d_law_201 rfl (lv_at hl 2 rfl) ?_
    refine lv_aload_n S.1 S.2.1 d_law_202 rfl (lv_at hl 0 rfl) ?_
    refine lv_iload_n S.1 S.2.1 d_law_203 rfl (lv_at hl 3 rfl) ?_
    refine lv_iconst (v := nI 1) S.1 S.2.1 d_law_204 (by decide) ?_
    refine dn_iadd S.1 S.2.1 d_law_205 ?_
    refine va_sld S.1 S.2.1 hX hbl hbA hw.2.2.2 (vp_in_nI (by omega) (by omega)) d_law_206 ?_
    refine ds_topi (w := x1) e1.symm ?_
    refine lv_aload_n S.1 S.2.1 d_law_207 rfl (lv_at hl 0 rfl) ?_
    refine lv_iload_n S.1 S.2.1 d_law_208 rfl (lv_at hl 3 rfl) ?_
    refine lv_iconst (v := nI 2) S.1 S.2.1 d_law_209 (by decide) ?_
    refine dn_iadd S.1 S.2.1 d_law_210 ?_
    refine va_sld S.1 S.2.1 hX hbl hbA hw.2.2.2 (vp_in_nI (by omega) (by omega)) d_law_211 ?_
    refine ds_topi (w := x2) e2.symm ?_
    refine lv_if_eq (tgt := 219) S.1 S.2.1 d_law_212 (by decide) (fun h => absurd h hz) (fun h => ?_)
    refine lv_iconst (v := nI 1) S.1 S.2.1 d_law_215 (by decide) ?_
    refine lv_goto (tgt := 220) S.1 S.2.1 d_law_216 (by decide) ?_
    refine dw_afti hw hA (dw_runV (As := [.int x1, .int (nI 1)]) (rest := [.int r1]) (ko := 54) hw S ds_good (m_freeze l D g a f1 x1 1 M.2.1 (by decide) H.size) cw_Mo_freeze wd_460 wd_461 wd_462 ds_ob54 dw_blind (dw_pre hw hN) rfl hl.1 rfl ⟨Nat.le_of_ble_eq_true rfl, Nat.le_of_ble_eq_true rfl⟩ (Nat.le_of_ble_eq_true rfl) ⟨Nat.le_of_ble_eq_true rfl, Nat.le_of_ble_eq_true rfl⟩ d_law_220) (fun r2 f2 H locs h2 hw => ?_)
    have hag := L_freeze hi (by decide) h1 h2
    exact lv_icmp_eq (tgt := 659) S.1 S.2.1 d_law_223 (by decide) (fun _ => kk f2 H locs hag.2 hw) (fun h => absurd hag.1 h)
set_option maxHeartbeats 4000000 in
theorem law_block (S : CallFix p m c code 4 s #[Value.ref b] ds_T R_law) (hN : dw_N lw_tbl s) (hX : va_X b L xs s s.heap) (hbl : b < s.heap.size) (hL : L ≤ 2049) (hiL : i + 4 ≤ L) (hi : ag_I f) (hw : dw_W D classes (ds_tys g) (fun q : Nat => s.heap.size ≤ q) s.heap (dw_l 77 (ds_ce g a) a f) s H locs) (hl : lv_has ls 4 [(0, .ref b), (1, .ref (a 0)), (2, .ref (a 54)), (3, .int (nI i))]) (kk : ∀ (f2 : Nat → Nat → Nat) (H : Heap) (locs : List Loc), ag_I f2 → dw_W D classes (ds_tys g) (fun q : Nat => s.heap.size ≤ q) s.heap (dw_l 77 (ds_ce g a) a f2) s H locs → W p l e room_1 s m #[Value.ref b] below meth c H locs 77 1240 Q (F0 m 659 ls [])) : W p l e room_1 s m #[Value.ref b] below meth c H locs 77 1240 Q (F0 m 228 ls []) := by
  have hA : ∀ q : Nat, s.heap.size ≤ q → (fun q : Nat => s.heap.size ≤ q) q := fun _ h => h
  have hbA : ¬ (fun q : Nat => s.heap.size ≤ q) b := Nat.not_le.mpr hbl
  obtain ⟨x1, e1⟩ : ∃ z, z = xs (nI (i + 1)).toNatClampNeg := ⟨_, rfl⟩
  obtain ⟨x2, e2⟩ : ∃ z, z = xs (nI (i + 2)).toNatClampNeg := ⟨_, rfl⟩
  by_cases hz : x2 = 0
  · refine lv_aload_n S.1 S.2.1 d_law_228 rfl (lv_at hl 1 rfl) ?_
    refine lv_aload_n S.1 S.2.1 d_law_229 rfl (lv_at hl 0 rfl) ?_
    refine lv_iload_n S.1 S.2.1 d_law_230 rfl (lv_at hl 3 rfl) ?_
    refine lv_iconst (v := nI 1) S.1 S.2.1 d_law_231 (by decide) ?_
    refine dn_iadd S.1 S.2.1 d_law_232 ?_
    refine va_sld S.1 S.2.1 hX hbl hbA hw.2.2.2 (vp_in_nI (by omega) (by omega)) d_law_233 ?_
    refine ds_topi (w := x1) e1.symm ?_
    refine lv_aload_n S.1 S.2.1 d_law_234 rfl (lv_at hl 0 rfl) ?_
    refine lv_iload_n S.1 S.2.1 d_law_235 rfl (lv_at hl 3 rfl) ?_
    refine lv_iconst (v := nI 2) S.1 S.2.1 d_law_236 (by decide) ?_
    refine dn_iadd S.1 S.2.1 d_law_237 ?_
    refine va_sld S.1 S.2.1 hX hbl hbA hw.2.2.2 (vp_in_nI (by omega) (by omega)) d_law_238 ?_
    refine ds_topi (w := x2) e2.symm ?_
    refine lv_if_eq (tgt := 246) S.1 S.2.1 d_law_239 (by decide) (fun h => ?_) (fun h => absurd hz h)
    refine lv_iconst (v := nI 0) S.1 S.2.1 d_law_246 (by decide) ?_
    refine dw_afti hw hA (dw_runV (As := [.int x1, .int (nI 0)]) (rest := []) (ko := 0) hw S ds_good (c_block l D g a f x1 0 hi.1.1.2.1 (by decide) H.size) cw_DS_block wd_185 wd_186 wd_187 ds_ob0 dw_blind (dw_pre hw hN) rfl hl.1 rfl ⟨Nat.le_of_ble_eq_true rfl, Nat.le_of_ble_eq_true rfl⟩ (Nat.le_of_ble_eq_true rfl) ⟨Nat.le_of_ble_eq_true rfl, Nat.le_of_ble_eq_true rfl⟩ d_law_247) (fun r1 f1 H locs h1 hw => ?_)
    have up := U_block hi h1
    have M := ag_m hi up
    refine lv_aload_n S.1 S.2.1 d_law_250 rfl (lv_at hl 2 rfl) ?_
    refine lv_aload_n S.1 S.2.1 d_law_251 rfl (lv_at hl 0 rfl) ?_
    refine lv_iload_n S.1 S.2.1 d_law_252 rfl (lv_at hl 3 rfl) ?_
    refine lv_iconst (v := nI 1) S.1 S.2.1 d_law_253 (by decide) ?_
    refine dn_iadd S.1 S.2.1 d_law_254 ?_
    refine va_sld S.1 S.2.1 hX hbl hbA hw.2.2.2 (vp_in_nI (by omega) (by omega)) d_law_255 ?_
    refine ds_topi (w := x1) e1.symm ?_
    refine lv_aload_n S.1 S.2.1 d_law_256 rfl (lv_at hl 0 rfl) ?_
    refine lv_iload_n S.1 S.2.1 d_law_257 rfl (lv_at hl 3 rfl) ?_
    refine lv_iconst (v := nI 2) S.1 S.2.1 d_law_258 (by decide) ?_
    refine dn_iadd S.1 S.2.1 d_law_259 ?_
    refine va_sld S.1 S.2.1 hX hbl hbA hw.2.2.2 (vp_in_nI (by omega) (by omega)) d_law_260 ?_
    refine ds_topi (w := x2) e2.symm ?_
    refine lv_if_eq (tgt := 268) S.1 S.2.1 d_law_261 (by decide) (fun h => ?_) (fun h => absurd hz h)
    refine lv_iconst (v := nI 0) S.1 S.2.1 d_law_268 (by decide) ?_
    refine dw_afti hw hA (dw_runV (As := [.int x1, .int (nI 0)]) (rest := [.int r1]) (ko := 54) hw S ds_good (m_block l D g a f1 x1 0 M.2.1 (by decide) H.size) cw_Mo_block wd_468 wd_469 wd_470 ds_ob54 dw_blind (dw_pre hw hN) rfl hl.1 rfl ⟨Nat.le_of_ble_eq_true rfl, Nat.le_of_ble_eq_true rfl⟩ (Nat.le_of_ble_eq_true rfl) ⟨Nat.le_of_ble_eq_true rfl, Nat.le_of_ble_eq_true rfl⟩ d_law_269) (fun r2 f2 H locs h2 hw => ?_)
    have hag := L_block hi (by decide) h1 h2
    exact lv_icmp_eq (tgt := 659) S.1 S.2.1 d_law_272 (by decide) (fun _ => kk f2 H locs hag.2 hw) (fun h => absurd hag.1 h)
  · refine lv_aload_n S.1 S.2.1 d_law_228 rfl (lv_at hl 1 rfl) ?_
    refine lv_aload_n S.1 S.2.1 d_law_229 rfl (lv_at hl 0 rfl) ?_
    refine lv_iload_n S.1 S.2.1 d_law_230 rfl (lv_at hl 3 rfl) ?_
    refine lv_iconst (v := nI 1) S.1 S.2.1 d_law_231 (by decide) ?_
    refine dn_iadd S.1 S.2.1 d_law_232 ?_
    refine va_sld S.1 S.2.1 hX hbl hbA hw.2.2.2 (vp_in_nI (by omega) (by omega)) d_law_233 ?_
    refine ds_topi (w := x1) e1.symm ?_
    refine lv_aload_n S.1 S.2.1 d_law_234 rfl (lv_at hl 0 rfl) ?_
    refine lv_iload_n S.1 S.2.1 d_law_235 rfl (lv_at hl 3 rfl) ?_
    refine lv_iconst (v := nI 2) S.1 S.2.1 d_law_236 (by decide) ?_
    refine dn_iadd S.1 S.2.1 d_law_237 ?_
    refine va_sld S.1 S.2.1 hX hbl hbA hw.2.2.2 (vp_in_nI (by omega) (by omega)) d_law_238 ?_
    refine ds_topi (w := x2) e2.symm ?_
    refine lv_if_eq (tgt := 246) S.1 S.2.1 d_law_239 (by decide) (fun h => absurd h hz) (fun h => ?_)
    refine lv_iconst (v := nI 1) S.1 S.2.1 d_law_242 (by decide) ?_
    refine lv_goto (tgt := 247) S.1 S.2.1 d_law_243 (by decide) ?_
    refine dw_afti hw hA (dw_runV (As := [.int x1, .int (nI 1)]) (rest := []) (ko := 0) hw S ds_good (c_block l D g a f x1 1 hi.1.1.2.1 (by decide) H.size) cw_DS_block wd_185 wd_186 wd_187 ds_ob0 dw_blind (dw_pre hw hN) rfl hl.1 rfl ⟨Nat.le_of_ble_eq_true rfl, Nat.le_of_ble_eq_true rfl⟩ (Nat.le_of_ble_eq_true rfl) ⟨Nat.le_of_ble_eq_true rfl, Nat.le_of_ble_eq_true rfl⟩ d_law_247) (fun r1 f1 H locs h1 hw => ?_)
    have up := U_block hi h1
    have M := ag_m hi up
    refine lv_aload_n S.1 S.2.1 d_law_250 rfl (lv_at hl 2 rfl) ?_
    refine lv_aload_n S.1 S.2.1 d_law_251 rfl (lv_at hl 0 rfl) ?_
    refine lv_iload_n S.1 S.2.1 d_law_252 rfl (lv_at hl 3 rfl) ?_
    refine lv_iconst (v := nI 1) S.1 S.2.1 d_law_253 (by decide) ?_
    refine dn_iadd S.1 S.2.1 d_law_254 ?_
    refine va_sld S.1 S.2.1 hX hbl hbA hw.2.2.2 (vp_in_nI (by omega) (by omega)) d_law_255 ?_
    refine ds_topi (w := x1) e1.symm ?_
    refine lv_aload_n S.1 S.2.1 d_law_256 rfl (lv_at hl 0 rfl) ?_
    refine lv_iload_n S.1 S.2.1 d_law_257 rfl (lv_at hl 3 rfl) ?_
    refine lv_iconst (v := nI 2) S.1 S.2.1 d_law_258 (by decide) ?_
    refine dn_iadd S.1 S.2.1 d_law_259 ?_
    refine va_sld S.1 S.2.1 hX hbl hbA hw.2.2.2 (vp_in_nI (by omega) (by omega)) d_law_260 ?_
    refine ds_topi (w := x2) e2.symm ?_
    refine lv_if_eq (tgt := 268) S.1 S.2.1 d_law_261 (by decide) (fun h => absurd h hz) (fun h => ?_)
    refine lv_iconst (v := nI 1) S.1 S.2.1 d_law_264 (by decide) ?_
    refine lv_goto (tgt := 269) S.1 S.2.1 d_law_265 (by decide) ?_
    refine dw_afti hw hA (dw_runV (As := [.int x1, .int (nI 1)]) (rest := [.int r1]) (ko := 54) hw S ds_good (m_block l D g a f1 x1 1 M.2.1 (by decide) H.size) cw_Mo_block wd_468 wd_469 wd_470 ds_ob54 dw_blind (dw_pre hw hN) rfl hl.1 rfl ⟨Nat.le_of_ble_eq_true rfl, Nat.le_of_ble_eq_true rfl⟩ (Nat.le_of_ble_eq_true rfl) ⟨Nat.le_of_ble_eq_true rfl, Nat.le_of_ble_eq_true rfl⟩ d_law_269) (fun r2 f2 H locs h2 hw => ?_)
    have hag := L_block hi (by decide) h1 h2
    exact lv_icmp_eq (tgt := 659) S.1 S.2.1 d_law_272 (by decide) (fun _ => kk f2 H locs hag.2 hw) (fun h => absurd hag.1 h)
set_option maxHeartbeats 4000000 in
theorem law_out (S : CallFix p m c code 4 s #[Value.ref b] ds_T R_law) (hN : dw_N lw_tbl s) (hX : va_X b L xs s s.heap) (hbl : b < s.heap.size) (hL : L ≤ 2049) (hiL : i + 4 ≤ L) (hi : ag_I f) (hw : dw_W D classes (ds_tys g) (fun q : Nat => s.heap.size ≤ q) s.heap (dw_l 77 (ds_ce g a) a f) s H locs) (hl : lv_has ls 4 [(0, .ref b), (1, .ref (a 0)), (2, .ref (a 54)), (3, .int (nI i))]) (kk : ∀ (f2 : Nat → Nat → Nat) (H : Heap) (locs : List Loc), ag_I f2 → dw_W D classes (ds_tys g) (fun q : Nat => s.heap.size ≤ q) s.heap (dw_l 77 (ds_ce g a) a f2) s H locs → W p l e room_1 s m #[Value.ref b] below meth c H locs 77 1240 Q (F0 m 659 ls [])) : W p l e room_1 s m #[Value.ref b] below meth c H locs 77 1240 Q (F0 m 277 ls []) := by
  have hA : ∀ q : Nat, s.heap.size ≤ q → (fun q : Nat => s.heap.size ≤ q) q := fun _ h => h
  have hbA : ¬ (fun q : Nat => s.heap.size ≤ q) b := Nat.not_le.mpr hbl
  obtain ⟨x1, e1⟩ : ∃ z, z = xs (nI (i + 1)).toNatClampNeg := ⟨_, rfl⟩
  obtain ⟨x2, e2⟩ : ∃ z, z = xs (nI (i + 2)).toNatClampNeg := ⟨_, rfl⟩
  refine lv_aload_n S.1 S.2.1 d_law_277 rfl (lv_at hl 1 rfl) ?_
  refine lv_aload_n S.1 S.2.1 d_law_278 rfl (lv_at hl 0 rfl) ?_
  refine lv_iload_n S.1 S.2.1 d_law_279 rfl (lv_at hl 3 rfl) ?_
  refine lv_iconst (v := nI 1) S.1 S.2.1 d_law_280 (by decide) ?_
  refine dn_iadd S.1 S.2.1 d_law_281 ?_
  refine va_sld S.1 S.2.1 hX hbl hbA hw.2.2.2 (vp_in_nI (by omega) (by omega)) d_law_282 ?_
  refine ds_topi (w := x1) e1.symm ?_
  refine lv_aload_n S.1 S.2.1 d_law_283 rfl (lv_at hl 0 rfl) ?_
  refine lv_iload_n S.1 S.2.1 d_law_284 rfl (lv_at hl 3 rfl) ?_
  refine lv_iconst (v := nI 2) S.1 S.2.1 d_law_285 (by decide) ?_
  refine dn_iadd S.1 S.2.1 d_law_286 ?_
  refine va_sld S.1 S.2.1 hX hbl hbA hw.2.2.2 (vp_in_nI (by omega) (by omega)) d_law_287 ?_
  refine ds_topi (w := x2) e2.symm ?_
  refine dw_afti hw hA (dw_runV (As := [.int x1, .int x2]) (rest := []) (ko := 0) hw S ds_good (c_out l D g a f x1 x2 hi.1.1.1 H.size) cw_DS_out wd_189 wd_190 wd_191 ds_ob0 dw_blind (dw_pre hw hN) rfl hl.1 rfl ⟨Nat.le_of_ble_eq_true rfl, Nat.le_of_ble_eq_true rfl⟩ (Nat.le_of_ble_eq_true rfl) ⟨Nat.le_of_ble_eq_true rfl, Nat.le_of_ble_eq_true rfl⟩ d_law_288) (fun r1 f1 H locs h1 hw => ?_)
  have up := U_out hi h1
  have M := ag_m hi up
  refine lv_aload_n S.1 S.2.1 d_law_291 rfl (lv_at hl 2 rfl) ?_
  refine lv_aload_n S.1 S.2.1 d_law_292 rfl (lv_at hl 0 rfl) ?_
  refine lv_iload_n S.1 S.2.1 d_law_293 rfl (lv_at hl 3 rfl) ?_
  refine lv_iconst (v := nI 1) S.1 S.2.1 d_law_294 (by decide) ?_
  refine dn_iadd S.1 S.2.1 d_law_295 ?_
  refine va_sld S.1 S.2.1 hX hbl hbA hw.2.2.2 (vp_in_nI (by omega) (by omega)) d_law_296 ?_
  refine ds_topi (w := x1) e1.symm ?_
  refine lv_aload_n S.1 S.2.1 d_law_297 rfl (lv_at hl 0 rfl) ?_
  refine lv_iload_n S.1 S.2.1 d_law_298 rfl (lv_at hl 3 rfl) ?_
  refine lv_iconst (v := nI 2) S.1 S.2.1 d_law_299 (by decide) ?_
  refine dn_iadd S.1 S.2.1 d_law_300 ?_
  refine va_sld S.1 S.2.1 hX hbl hbA hw.2.2.2 (vp_in_nI (by omega) (by omega)) d_law_301 ?_
  refine ds_topi (w := x2) e2.symm ?_
  refine dw_afti hw hA (dw_runV (As := [.int x1, .int x2]) (rest := [.int r1]) (ko := 54) hw S ds_good (m_out l D g a f1 x1 x2 M.1 H.size) cw_Mo_out wd_472 wd_473 wd_474 ds_ob54 dw_blind (dw_pre hw hN) rfl hl.1 rfl ⟨Nat.le_of_ble_eq_true rfl, Nat.le_of_ble_eq_true rfl⟩ (Nat.le_of_ble_eq_true rfl) ⟨Nat.le_of_ble_eq_true rfl, Nat.le_of_ble_eq_true rfl⟩ d_law_302) (fun r2 f2 H locs h2 hw => ?_)
  have hag := L_out hi h1 h2
  exact lv_icmp_eq (tgt := 659) S.1 S.2.1 d_law_305 (by decide) (fun _ => kk f2 H locs hag.2 hw) (fun h => absurd hag.1 h)
set_option maxHeartbeats 4000000 in
theorem law_way (S : CallFix p m c code 4 s #[Value.ref b] ds_T R_law) (hN : dw_N lw_tbl s) (hX : va_X b L xs s s.heap) (hbl : b < s.heap.size) (hL : L ≤ 2049) (hiL : i + 4 ≤ L) (hi : ag_I f) (hw : dw_W D classes (ds_tys g) (fun q : Nat => s.heap.size ≤ q) s.heap (dw_l 77 (ds_ce g a) a f) s H locs) (hl : lv_has ls 4 [(0, .ref b), (1, .ref (a 0)), (2, .ref (a 54)), (3, .int (nI i))]) (kk : ∀ (f2 : Nat → Nat → Nat) (H : Heap) (locs : List Loc), ag_I f2 → dw_W D classes (ds_tys g) (fun q : Nat => s.heap.size ≤ q) s.heap (dw_l 77 (ds_ce g a) a f2) s H locs → W p l e room_1 s m #[Value.ref b] below meth c H locs 77 1240 Q (F0 m 659 ls [])) : W p l e room_1 s m #[Value.ref b] below meth c H locs 77 1240 Q (F0 m 310 ls []) := by
  have hA : ∀ q : Nat, s.heap.size ≤ q → (fun q : Nat => s.heap.size ≤ q) q := fun _ h => h
  have hbA : ¬ (fun q : Nat => s.heap.size ≤ q) b := Nat.not_le.mpr hbl
  obtain ⟨x1, e1⟩ : ∃ z, z = xs (nI (i + 1)).toNatClampNeg := ⟨_, rfl⟩
  obtain ⟨x2, e2⟩ : ∃ z, z = xs (nI (i + 2)).toNatClampNeg := ⟨_, rfl⟩
  obtain ⟨x3, e3⟩ : ∃ z, z = xs (nI (i + 3)).toNatClampNeg := ⟨_, rfl⟩
  refine lv_aload_n S.1 S.2.1 d_law_310 rfl (lv_at hl 1 rfl) ?_
  refine lv_aload_n S.1 S.2.1 d_law_311 rfl (lv_at hl 0 rfl) ?_
  refine lv_iload_n S.1 S.2.1 d_law_312 rfl (lv_at hl 3 rfl) ?_
  refine lv_iconst (v := nI 1) S.1 S.2.1 d_law_313 (by decide) ?_
  refine dn_iadd S.1 S.2.1 d_law_314 ?_
  refine va_sld S.1 S.2.1 hX hbl hbA hw.2.2.2 (vp_in_nI (by omega) (by omega)) d_law_315 ?_
  refine ds_topi (w := x1) e1.symm ?_
  refine lv_aload_n S.1 S.2.1 d_law_316 rfl (lv_at hl 0 rfl) ?_
  refine lv_iload_n S.1 S.2.1 d_law_317 rfl (lv_at hl 3 rfl) ?_
  refine lv_iconst (v := nI 2) S.1 S.2.1 d_law_318 (by decide) ?_
  refine dn_iadd S.1 S.2.1 d_law_319 ?_
  refine va_sld S.1 S.2.1 hX hbl hbA hw.2.2.2 (vp_in_nI (by omega) (by omega)) d_law_320 ?_
  refine ds_topi (w := x2) e2.symm ?_
  refine lv_aload_n S.1 S.2.1 d_law_321 rfl (lv_at hl 0 rfl) ?_
  refine lv_iload_n S.1 S.2.1 d_law_322 rfl (lv_at hl 3 rfl) ?_
  refine lv_iconst (v := nI 3) S.1 S.2.1 d_law_323 (by decide) ?_
  refine dn_iadd S.1 S.2.1 d_law_324 ?_
  refine va_sld S.1 S.2.1 hX hbl hbA hw.2.2.2 (vp_in_nI (by omega) (by omega)) d_law_325 ?_
  refine ds_topi (w := x3) e3.symm ?_
  refine dw_afti hw hA (dw_runV (As := [.int x1, .int x2, .int x3]) (rest := []) (ko := 0) hw S ds_good (c_way l D g a f x1 x2 x3 H.size) cw_DS_way wd_193 wd_194 wd_195 ds_ob0 dw_blind (dw_pre hw hN) rfl hl.1 rfl ⟨Nat.le_of_ble_eq_true rfl, Nat.le_of_ble_eq_true rfl⟩ (Nat.le_of_ble_eq_true rfl) ⟨Nat.le_of_ble_eq_true rfl, Nat.le_of_ble_eq_true rfl⟩ d_law_326) (fun r1 f1 H locs h1 hw => ?_)
  have up := U_way hi h1
  have M := ag_m hi up
  refine lv_aload_n S.1 S.2.1 d_law_329 rfl (lv_at hl 2 rfl) ?_
  refine lv_aload_n S.1 S.2.1 d_law_330 rfl (lv_at hl 0 rfl) ?_
  refine lv_iload_n S.1 S.2.1 d_law_331 rfl (lv_at hl 3 rfl) ?_
  refine lv_iconst (v := nI 1) S.1 S.2.1 d_law_332 (by decide) ?_
  refine dn_iadd S.1 S.2.1 d_law_333 ?_
  refine va_sld S.1 S.2.1 hX hbl hbA hw.2.2.2 (vp_in_nI (by omega) (by omega)) d_law_334 ?_
  refine ds_topi (w := x1) e1.symm ?_
  refine lv_aload_n S.1 S.2.1 d_law_335 rfl (lv_at hl 0 rfl) ?_
  refine lv_iload_n S.1 S.2.1 d_law_336 rfl (lv_at hl 3 rfl) ?_
  refine lv_iconst (v := nI 2) S.1 S.2.1 d_law_337 (by decide) ?_
  refine dn_iadd S.1 S.2.1 d_law_338 ?_
  refine va_sld S.1 S.2.1 hX hbl hbA hw.2.2.2 (vp_in_nI (by omega) (by omega)) d_law_339 ?_
  refine ds_topi (w := x2) e2.symm ?_
  refine lv_aload_n S.1 S.2.1 d_law_340 rfl (lv_at hl 0 rfl) ?_
  refine lv_iload_n S.1 S.2.1 d_law_341 rfl (lv_at hl 3 rfl) ?_
  refine lv_iconst (v := nI 3) S.1 S.2.1 d_law_342 (by decide) ?_
  refine dn_iadd S.1 S.2.1 d_law_343 ?_
  refine va_sld S.1 S.2.1 hX hbl hbA hw.2.2.2 (vp_in_nI (by omega) (by omega)) d_law_344 ?_
  refine ds_topi (w := x3) e3.symm ?_
  refine dw_afti hw hA (dw_runV (As := [.int x1, .int x2, .int x3]) (rest := [.int r1]) (ko := 54) hw S ds_good (m_way l D g a f1 x1 x2 x3 H.size) cw_Mo_way wd_477 wd_478 wd_479 ds_ob54 dw_blind (dw_pre hw hN) rfl hl.1 rfl ⟨Nat.le_of_ble_eq_true rfl, Nat.le_of_ble_eq_true rfl⟩ (Nat.le_of_ble_eq_true rfl) ⟨Nat.le_of_ble_eq_true rfl, Nat.le_of_ble_eq_true rfl⟩ d_law_345) (fun r2 f2 H locs h2 hw => ?_)
  have hag := L_way hi h1 h2
  exact lv_icmp_eq (tgt := 659) S.1 S.2.1 d_law_348 (by decide) (fun _ => kk f2 H locs hag.2 hw) (fun h => absurd hag.1 h)
set_option maxHeartbeats 4000000 in
theorem law_hours (S : CallFix p m c code 4 s #[Value.ref b] ds_T R_law) (hN : dw_N lw_tbl s) (hX : va_X b L xs s s.heap) (hbl : b < s.heap.size) (hL : L ≤ 2049) (hiL : i + 4 ≤ L) (hi : ag_I f) (hw : dw_W D classes (ds_tys g) (fun q : Nat => s.heap.size ≤ q) s.heap (dw_l 77 (ds_ce g a) a f) s H locs) (hl : lv_has ls 4 [(0, .ref b), (1, .ref (a 0)), (2, .ref (a 54)), (3, .int (nI i))]) (kk : ∀ (f2 : Nat → Nat → Nat) (H : Heap) (locs : List Loc), ag_I f2 → dw_W D classes (ds_tys g) (fun q : Nat => s.heap.size ≤ q) s.heap (dw_l 77 (ds_ce g a) a f2) s H locs → W p l e room_1 s m #[Value.ref b] below meth c H locs 77 1240 Q (F0 m 659 ls [])) : W p l e room_1 s m #[Value.ref b] below meth c H locs 77 1240 Q (F0 m 353 ls []) := by
  have hA : ∀ q : Nat, s.heap.size ≤ q → (fun q : Nat => s.heap.size ≤ q) q := fun _ h => h
  have hbA : ¬ (fun q : Nat => s.heap.size ≤ q) b := Nat.not_le.mpr hbl
  obtain ⟨x1, e1⟩ : ∃ z, z = xs (nI (i + 1)).toNatClampNeg := ⟨_, rfl⟩
  obtain ⟨x2, e2⟩ : ∃ z, z = xs (nI (i + 2)).toNatClampNeg := ⟨_, rfl⟩
  refine lv_aload_n S.1 S.2.1 d_law_353 rfl (lv_at hl 1 rfl) ?_
  refine lv_aload_n S.1 S.2.1 d_law_354 rfl (lv_at hl 0 rfl) ?_
  refine lv_iload_n S.1 S.2.1 d_law_355 rfl (lv_at hl 3 rfl) ?_
  refine lv_iconst (v := nI 1) S.1 S.2.1 d_law_356 (by decide) ?_
  refine dn_iadd S.1 S.2.1 d_law_357 ?_
  refine va_sld S.1 S.2.1 hX hbl hbA hw.2.2.2 (vp_in_nI (by omega) (by omega)) d_law_358 ?_
  refine ds_topi (w := x1) e1.symm ?_
  refine lv_aload_n S.1 S.2.1 d_law_359 rfl (lv_at hl 0 rfl) ?_
  refine lv_iload_n S.1 S.2.1 d_law_360 rfl (lv_at hl 3 rfl) ?_
  refine lv_iconst (v := nI 2) S.1 S.2.1 d_law_361 (by decide) ?_
  refine dn_iadd S.1 S.2.1 d_law_362 ?_
  refine va_sld S.1 S.2.1 hX hbl hbA hw.2.2.2 (vp_in_nI (by omega) (by omega)) d_law_363 ?_
  refine ds_topi (w := x2) e2.symm ?_
  refine dw_afti hw hA (dw_runV (As := [.int x1, .int x2]) (rest := []) (ko := 0) hw S ds_good (c_hours l D g a f x1 x2 hi.1.1.1 H.size) cw_DS_hours wd_197 wd_198 wd_199 ds_ob0 dw_blind (dw_pre hw hN) rfl hl.1 rfl ⟨Nat.le_of_ble_eq_true rfl, Nat.le_of_ble_eq_true rfl⟩ (Nat.le_of_ble_eq_true rfl) ⟨Nat.le_of_ble_eq_true rfl, Nat.le_of_ble_eq_true rfl⟩ d_law_364) (fun r1 f1 H locs h1 hw => ?_)
  have up := U_hours hi h1
  have M := ag_m hi up
  refine lv_aload_n S.1 S.2.1 d_law_367 rfl (lv_at hl 2 rfl) ?_
  refine lv_aload_n S.1 S.2.1 d_law_368 rfl (lv_at hl 0 rfl) ?_
  refine lv_iload_n S.1 S.2.1 d_law_369 rfl (lv_at hl 3 rfl) ?_
  refine lv_iconst (v := nI 1) S.1 S.2.1 d_law_370 (by decide) ?_
  refine dn_iadd S.1 S.2.1 d_law_371 ?_
  refine va_sld S.1 S.2.1 hX hbl hbA hw.2.2.2 (vp_in_nI (by omega) (by omega)) d_law_372 ?_
  refine ds_topi (w := x1) e1.symm ?_
  refine lv_aload_n S.1 S.2.1 d_law_373 rfl (lv_at hl 0 rfl) ?_
  refine lv_iload_n S.1 S.2.1 d_law_374 rfl (lv_at hl 3 rfl) ?_
  refine lv_iconst (v := nI 2) S.1 S.2.1 d_law_375 (by decide) ?_
  refine dn_iadd S.1 S.2.1 d_law_376 ?_
  refine va_sld S.1 S.2.1 hX hbl hbA hw.2.2.2 (vp_in_nI (by omega) (by omega)) d_law_377 ?_
  refine ds_topi (w := x2) e2.symm ?_
  refine dw_afti hw hA (dw_runV (As := [.int x1, .int x2]) (rest := [.int r1]) (ko := 54) hw S ds_good (m_hours l D g a f1 x1 x2 M.1 H.size) cw_Mo_hours wd_481 wd_482 wd_483 ds_ob54 dw_blind (dw_pre hw hN) rfl hl.1 rfl ⟨Nat.le_of_ble_eq_true rfl, Nat.le_of_ble_eq_true rfl⟩ (Nat.le_of_ble_eq_true rfl) ⟨Nat.le_of_ble_eq_true rfl, Nat.le_of_ble_eq_true rfl⟩ d_law_378) (fun r2 f2 H locs h2 hw => ?_)
  have hag := L_hours hi h1 h2
  exact lv_icmp_eq (tgt := 659) S.1 S.2.1 d_law_381 (by decide) (fun _ => kk f2 H locs hag.2 hw) (fun h => absurd hag.1 h)
set_option maxHeartbeats 4000000 in
theorem law_extra (S : CallFix p m c code 4 s #[Value.ref b] ds_T R_law) (hN : dw_N lw_tbl s) (hX : va_X b L xs s s.heap) (hbl : b < s.heap.size) (hL : L ≤ 2049) (hiL : i + 4 ≤ L) (hi : ag_I f) (hw : dw_W D classes (ds_tys g) (fun q : Nat => s.heap.size ≤ q) s.heap (dw_l 77 (ds_ce g a) a f) s H locs) (hl : lv_has ls 4 [(0, .ref b), (1, .ref (a 0)), (2, .ref (a 54)), (3, .int (nI i))]) (kk : ∀ (f2 : Nat → Nat → Nat) (H : Heap) (locs : List Loc), ag_I f2 → dw_W D classes (ds_tys g) (fun q : Nat => s.heap.size ≤ q) s.heap (dw_l 77 (ds_ce g a) a f2) s H locs → W p l e room_1 s m #[Value.ref b] below meth c H locs 77 1240 Q (F0 m 659 ls [])) : W p l e room_1 s m #[Value.ref b] below meth c H locs 77 1240 Q (F0 m 386 ls []) := by
  have hA : ∀ q : Nat, s.heap.size ≤ q → (fun q : Nat => s.heap.size ≤ q) q := fun _ h => h
  have hbA : ¬ (fun q : Nat => s.heap.size ≤ q) b := Nat.not_le.mpr hbl
  obtain ⟨x1, e1⟩ : ∃ z, z = xs (nI (i + 1)).toNatClampNeg := ⟨_, rfl⟩
  refine lv_aload_n S.1 S.2.1 d_law_386 rfl (lv_at hl 1 rfl) ?_
  refine lv_aload_n S.1 S.2.1 d_law_387 rfl (lv_at hl 0 rfl) ?_
  refine lv_iload_n S.1 S.2.1 d_law_388 rfl (lv_at hl 3 rfl) ?_
  refine lv_iconst (v := nI 1) S.1 S.2.1 d_law_389 (by decide) ?_
  refine dn_iadd S.1 S.2.1 d_law_390 ?_
  refine va_sld S.1 S.2.1 hX hbl hbA hw.2.2.2 (vp_in_nI (by omega) (by omega)) d_law_391 ?_
  refine ds_topi (w := x1) e1.symm ?_
  refine dw_afti hw hA (dw_runV (As := [.int x1]) (rest := []) (ko := 0) hw S ds_good (c_extra l D g a f x1 H.size) cw_DS_extra wd_202 wd_203 wd_204 ds_ob0 dw_blind (dw_pre hw hN) rfl hl.1 rfl ⟨Nat.le_of_ble_eq_true rfl, Nat.le_of_ble_eq_true rfl⟩ (Nat.le_of_ble_eq_true rfl) ⟨Nat.le_of_ble_eq_true rfl, Nat.le_of_ble_eq_true rfl⟩ d_law_392) (fun r1 f1 H locs h1 hw => ?_)
  have up := U_extra hi h1
  have M := ag_m hi up
  refine lv_aload_n S.1 S.2.1 d_law_395 rfl (lv_at hl 2 rfl) ?_
  refine lv_aload_n S.1 S.2.1 d_law_396 rfl (lv_at hl 0 rfl) ?_
  refine lv_iload_n S.1 S.2.1 d_law_397 rfl (lv_at hl 3 rfl) ?_
  refine lv_iconst (v := nI 1) S.1 S.2.1 d_law_398 (by decide) ?_
  refine dn_iadd S.1 S.2.1 d_law_399 ?_
  refine va_sld S.1 S.2.1 hX hbl hbA hw.2.2.2 (vp_in_nI (by omega) (by omega)) d_law_400 ?_
  refine ds_topi (w := x1) e1.symm ?_
  refine dw_afti hw hA (dw_runV (As := [.int x1]) (rest := [.int r1]) (ko := 54) hw S ds_good (m_extra l D g a f1 x1 H.size) cw_Mo_extra wd_486 wd_487 wd_488 ds_ob54 dw_blind (dw_pre hw hN) rfl hl.1 rfl ⟨Nat.le_of_ble_eq_true rfl, Nat.le_of_ble_eq_true rfl⟩ (Nat.le_of_ble_eq_true rfl) ⟨Nat.le_of_ble_eq_true rfl, Nat.le_of_ble_eq_true rfl⟩ d_law_401) (fun r2 f2 H locs h2 hw => ?_)
  have hag := L_extra hi h1 h2
  exact lv_icmp_eq (tgt := 659) S.1 S.2.1 d_law_404 (by decide) (fun _ => kk f2 H locs hag.2 hw) (fun h => absurd hag.1 h)
set_option maxHeartbeats 4000000 in
theorem law_run (S : CallFix p m c code 4 s #[Value.ref b] ds_T R_law) (hN : dw_N lw_tbl s) (hX : va_X b L xs s s.heap) (hbl : b < s.heap.size) (hL : L ≤ 2049) (hiL : i + 4 ≤ L) (hi : ag_I f) (hw : dw_W D classes (ds_tys g) (fun q : Nat => s.heap.size ≤ q) s.heap (dw_l 77 (ds_ce g a) a f) s H locs) (hl : lv_has ls 4 [(0, .ref b), (1, .ref (a 0)), (2, .ref (a 54)), (3, .int (nI i))]) (kk : ∀ (f2 : Nat → Nat → Nat) (H : Heap) (locs : List Loc), ag_I f2 → dw_W D classes (ds_tys g) (fun q : Nat => s.heap.size ≤ q) s.heap (dw_l 77 (ds_ce g a) a f2) s H locs → W p l e room_1 s m #[Value.ref b] below meth c H locs 77 1240 Q (F0 m 659 ls [])) : W p l e room_1 s m #[Value.ref b] below meth c H locs 77 1240 Q (F0 m 409 ls []) := by
  have hA : ∀ q : Nat, s.heap.size ≤ q → (fun q : Nat => s.heap.size ≤ q) q := fun _ h => h
  have hbA : ¬ (fun q : Nat => s.heap.size ≤ q) b := Nat.not_le.mpr hbl
  refine lv_aload_n S.1 S.2.1 d_law_409 rfl (lv_at hl 1 rfl) ?_
  refine dw_afti hw hA (dw_runV (As := []) (rest := []) (ko := 0) hw S ds_good (c_run l D g a f hi.1.1 (ag_c hi).1 H.size) cw_DS_run wd_206 wd_207 wd_208 ds_ob0 dw_blind (dw_pre hw hN) rfl hl.1 rfl ⟨Nat.le_of_ble_eq_true rfl, Nat.le_of_ble_eq_true rfl⟩ (Nat.le_of_ble_eq_true rfl) ⟨Nat.le_of_ble_eq_true rfl, Nat.le_of_ble_eq_true rfl⟩ d_law_410) (fun r1 f1 H locs h1 hw => ?_)
  have up := U_run hi h1
  have M := ag_m hi up
  refine lv_aload_n S.1 S.2.1 d_law_413 rfl (lv_at hl 2 rfl) ?_
  refine dw_afti hw hA (dw_runV (As := []) (rest := [.int r1]) (ko := 54) hw S ds_good (m_run l D g a f1 (ag_rw f) (ag_pre hi up) M.2.2.1 H.size) cw_Mo_run wd_514 wd_515 wd_516 ds_ob54 dw_blind (dw_pre hw hN) rfl hl.1 rfl ⟨Nat.le_of_ble_eq_true rfl, Nat.le_of_ble_eq_true rfl⟩ (Nat.le_of_ble_eq_true rfl) ⟨Nat.le_of_ble_eq_true rfl, Nat.le_of_ble_eq_true rfl⟩ d_law_414) (fun r2 f2 H locs h2 hw => ?_)
  have hag := L_run hi h1 h2
  exact lv_icmp_eq (tgt := 659) S.1 S.2.1 d_law_417 (by decide) (fun _ => kk f2 H locs hag.2 hw) (fun h => absurd hag.1 h)
set_option maxHeartbeats 4000000 in
theorem law_vehicleOf (S : CallFix p m c code 4 s #[Value.ref b] ds_T R_law) (hN : dw_N lw_tbl s) (hX : va_X b L xs s s.heap) (hbl : b < s.heap.size) (hL : L ≤ 2049) (hiL : i + 4 ≤ L) (hi : ag_I f) (hw : dw_W D classes (ds_tys g) (fun q : Nat => s.heap.size ≤ q) s.heap (dw_l 77 (ds_ce g a) a f) s H locs) (hl : lv_has ls 4 [(0, .ref b), (1, .ref (a 0)), (2, .ref (a 54)), (3, .int (nI i))]) (kk : ∀ (f2 : Nat → Nat → Nat) (H : Heap) (locs : List Loc), ag_I f2 → dw_W D classes (ds_tys g) (fun q : Nat => s.heap.size ≤ q) s.heap (dw_l 77 (ds_ce g a) a f2) s H locs → W p l e room_1 s m #[Value.ref b] below meth c H locs 77 1240 Q (F0 m 659 ls [])) : W p l e room_1 s m #[Value.ref b] below meth c H locs 77 1240 Q (F0 m 422 ls []) := by
  have hA : ∀ q : Nat, s.heap.size ≤ q → (fun q : Nat => s.heap.size ≤ q) q := fun _ h => h
  have hbA : ¬ (fun q : Nat => s.heap.size ≤ q) b := Nat.not_le.mpr hbl
  obtain ⟨x1, e1⟩ : ∃ z, z = xs (nI (i + 1)).toNatClampNeg := ⟨_, rfl⟩
  refine lv_aload_n S.1 S.2.1 d_law_422 rfl (lv_at hl 1 rfl) ?_
  refine lv_aload_n S.1 S.2.1 d_law_423 rfl (lv_at hl 0 rfl) ?_
  refine lv_iload_n S.1 S.2.1 d_law_424 rfl (lv_at hl 3 rfl) ?_
  refine lv_iconst (v := nI 1) S.1 S.2.1 d_law_425 (by decide) ?_
  refine dn_iadd S.1 S.2.1 d_law_426 ?_
  refine va_sld S.1 S.2.1 hX hbl hbA hw.2.2.2 (vp_in_nI (by omega) (by omega)) d_law_427 ?_
  refine ds_topi (w := x1) e1.symm ?_
  refine dw_afti hw hA (dw_runV (As := [.int x1]) (rest := []) (ko := 0) hw S ds_good (c_vehicleOf l D g a f x1 hi.1.1.2.1 H.size) cw_DS_vehicleOf wd_283 wd_284 wd_285 ds_ob0 dw_blind (dw_pre hw hN) rfl hl.1 rfl ⟨Nat.le_of_ble_eq_true rfl, Nat.le_of_ble_eq_true rfl⟩ (Nat.le_of_ble_eq_true rfl) ⟨Nat.le_of_ble_eq_true rfl, Nat.le_of_ble_eq_true rfl⟩ d_law_428) (fun r1 f1 H locs h1 hw => ?_)
  have up := U_vehicleOf hi h1
  have M := ag_m hi up
  refine lv_aload_n S.1 S.2.1 d_law_431 rfl (lv_at hl 2 rfl) ?_
  refine lv_aload_n S.1 S.2.1 d_law_432 rfl (lv_at hl 0 rfl) ?_
  refine lv_iload_n S.1 S.2.1 d_law_433 rfl (lv_at hl 3 rfl) ?_
  refine lv_iconst (v := nI 1) S.1 S.2.1 d_law_434 (by decide) ?_
  refine dn_iadd S.1 S.2.1 d_law_435 ?_
  refine va_sld S.1 S.2.1 hX hbl hbA hw.2.2.2 (vp_in_nI (by omega) (by omega)) d_law_436 ?_
  refine ds_topi (w := x1) e1.symm ?_
  refine dw_afti hw hA (dw_runV (As := [.int x1]) (rest := [.int r1]) (ko := 54) hw S ds_good (m_vehicleOf l D g a f1 x1 M.2.1 H.size) cw_Mo_vehicleOf wd_550 wd_551 wd_552 ds_ob54 dw_blind (dw_pre hw hN) rfl hl.1 rfl ⟨Nat.le_of_ble_eq_true rfl, Nat.le_of_ble_eq_true rfl⟩ (Nat.le_of_ble_eq_true rfl) ⟨Nat.le_of_ble_eq_true rfl, Nat.le_of_ble_eq_true rfl⟩ d_law_437) (fun r2 f2 H locs h2 hw => ?_)
  have hag := L_vehicleOf hi h1 h2
  exact lv_icmp_eq (tgt := 659) S.1 S.2.1 d_law_440 (by decide) (fun _ => kk f2 H locs hag.2 hw) (fun h => absurd hag.1 h)
set_option maxHeartbeats 4000000 in
theorem law_place (S : CallFix p m c code 4 s #[Value.ref b] ds_T R_law) (hN : dw_N lw_tbl s) (hX : va_X b L xs s s.heap) (hbl : b < s.heap.size) (hL : L ≤ 2049) (hiL : i + 4 ≤ L) (hi : ag_I f) (hw : dw_W D classes (ds_tys g) (fun q : Nat => s.heap.size ≤ q) s.heap (dw_l 77 (ds_ce g a) a f) s H locs) (hl : lv_has ls 4 [(0, .ref b), (1, .ref (a 0)), (2, .ref (a 54)), (3, .int (nI i))]) (kk : ∀ (f2 : Nat → Nat → Nat) (H : Heap) (locs : List Loc), ag_I f2 → dw_W D classes (ds_tys g) (fun q : Nat => s.heap.size ≤ q) s.heap (dw_l 77 (ds_ce g a) a f2) s H locs → W p l e room_1 s m #[Value.ref b] below meth c H locs 77 1240 Q (F0 m 659 ls [])) : W p l e room_1 s m #[Value.ref b] below meth c H locs 77 1240 Q (F0 m 445 ls []) := by
  have hA : ∀ q : Nat, s.heap.size ≤ q → (fun q : Nat => s.heap.size ≤ q) q := fun _ h => h
  have hbA : ¬ (fun q : Nat => s.heap.size ≤ q) b := Nat.not_le.mpr hbl
  obtain ⟨x1, e1⟩ : ∃ z, z = xs (nI (i + 1)).toNatClampNeg := ⟨_, rfl⟩
  refine lv_aload_n S.1 S.2.1 d_law_445 rfl (lv_at hl 1 rfl) ?_
  refine lv_aload_n S.1 S.2.1 d_law_446 rfl (lv_at hl 0 rfl) ?_
  refine lv_iload_n S.1 S.2.1 d_law_447 rfl (lv_at hl 3 rfl) ?_
  refine lv_iconst (v := nI 1) S.1 S.2.1 d_law_448 (by decide) ?_
  refine dn_iadd S.1 S.2.1 d_law_449 ?_
  refine va_sld S.1 S.2.1 hX hbl hbA hw.2.2.2 (vp_in_nI (by omega) (by omega)) d_law_450 ?_
  refine ds_topi (w := x1) e1.symm ?_
  refine dw_afti hw hA (dw_runV (As := [.int x1]) (rest := []) (ko := 0) hw S ds_good (c_place l D g a f x1 hi.1.1 H.size) cw_DS_place wd_287 wd_288 wd_289 ds_ob0 dw_blind (dw_pre hw hN) rfl hl.1 rfl ⟨Nat.le_of_ble_eq_true rfl, Nat.le_of_ble_eq_true rfl⟩ (Nat.le_of_ble_eq_true rfl) ⟨Nat.le_of_ble_eq_true rfl, Nat.le_of_ble_eq_true rfl⟩ d_law_451) (fun r1 f1 H locs h1 hw => ?_)
  have up := U_place hi h1
  have M := ag_m hi up
  refine lv_aload_n S.1 S.2.1 d_law_454 rfl (lv_at hl 2 rfl) ?_
  refine lv_aload_n S.1 S.2.1 d_law_455 rfl (lv_at hl 0 rfl) ?_
  refine lv_iload_n S.1 S.2.1 d_law_456 rfl (lv_at hl 3 rfl) ?_
  refine lv_iconst (v := nI 1) S.1 S.2.1 d_law_457 (by decide) ?_
  refine dn_iadd S.1 S.2.1 d_law_458 ?_
  refine va_sld S.1 S.2.1 hX hbl hbA hw.2.2.2 (vp_in_nI (by omega) (by omega)) d_law_459 ?_
  refine ds_topi (w := x1) e1.symm ?_
  refine dw_afti hw hA (dw_runV (As := [.int x1]) (rest := [.int r1]) (ko := 54) hw S ds_good (m_place l D g a f1 (ag_rw f) x1 (ag_pre hi up) H.size) cw_Mo_place wd_554 wd_555 wd_556 ds_ob54 dw_blind (dw_pre hw hN) rfl hl.1 rfl ⟨Nat.le_of_ble_eq_true rfl, Nat.le_of_ble_eq_true rfl⟩ (Nat.le_of_ble_eq_true rfl) ⟨Nat.le_of_ble_eq_true rfl, Nat.le_of_ble_eq_true rfl⟩ d_law_460) (fun r2 f2 H locs h2 hw => ?_)
  have hag := L_place hi h1 h2
  exact lv_icmp_eq (tgt := 659) S.1 S.2.1 d_law_463 (by decide) (fun _ => kk f2 H locs hag.2 hw) (fun h => absurd hag.1 h)
end
