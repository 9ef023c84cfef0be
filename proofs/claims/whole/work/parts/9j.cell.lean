/-! cell(script, 0) -/
def la_P (b L : Nat) (xs : Nat → Int32) (sz : Nat) (U : State) : Prop := U.heap.size = sz ∧ b < sz ∧ va_X b L xs U U.heap
theorem la_blind {b L sz : Nat} {xs : Nat → Int32} {As : List Value} : FrameBlind (va_Pc As (la_P b L xs sz)) := fun a U g mk q => ⟨q.1, q.2.1, q.2.2.1, va_X.moved (u := U) (U := U.calling g mk a) (Vm.Alike.refl U.vm) q.2.2.2⟩
set_option maxHeartbeats 4000000 in
theorem c_cell (l : Launch) (b L : Nat) (xs : Nat → Int32) (hL : L < 2 ^ 31) (sz : Nat) : Met l y_La_cell (Cond.code y_La_cell b_La_cell 2 (some .int) :: ds_T) { frames := 0, cells := 0, slots := 0, locals := 0 } (va_Pc [.ref b, .int (nI 0)] (la_P b L xs sz)) (va_Qi (fun (r : Int32) (_ : Unit) => r = if 0 < L then xs 0 else 0) (fun _ _ => True) (va_A [] sz)) 0 0 (va_A [] sz) := by
  refine Met.ofW (cc := b_La_cell) (maxL := 2) (ret := some .int) (by decide) rfl ?_
  intro p e s m args below meth c s₁ B hml hv
  obtain ⟨rfl, hsz, hbl, hX⟩ := hv
  have hx := B.exec
  have hb := B.bytes
  have hr := B.returns
  have hlocks := B.notSynchronized
  subst hsz
  have hS : va_S (va_A [] s.heap.size) s.heap s.heap [] := va_S.rf
  have hbA : ¬ va_A [] s.heap.size b := fun h => by
    rcases h with ⟨k, e9, h⟩ | h
    · simp at h
    · omega
  have hl := lv_entry ([.ref b, .int (nI 0)]) (n := 2) (Nat.le_of_ble_eq_true rfl)
  rw [lg_entry_eq]
  generalize (lg_sl ([.ref b, .int (nI 0)]) ++ List.replicate (2 - (lg_sl ([.ref b, .int (nI 0)])).length) Slot.unset).toArray = ls at hl ⊢
  have hl : lv_has ls 2 [(0, .ref b), (1, .int (nI 0))] := hl
  refine lv_iload_n hx hb d_La_cell_0 rfl (lv_at hl 1 rfl) ?_
  refine lv_aload_n hx hb d_La_cell_1 rfl (lv_at hl 0 rfl) ?_
  refine va_slen hx hb hX hbl hbA hS d_La_cell_2 ?_
  refine ds_topi (w := nI L) rfl ?_
  refine dn_icmp_ge hx hb 12 (by decide) hL d_La_cell_3 (by decide) (fun h => ?_) (fun h => ?_)
  · refine lv_iconst (v := nI 0) hx hb d_La_cell_12 (by decide) ?_
    exact W.iret (v := nI 0) hx hb hr (fun t ht hW => ⟨⟨nI 0, (), rfl, by rw [if_neg (by omega)]; rfl, trivial⟩, hS.F ht⟩) hS.2.2 d_La_cell_13
  · refine lv_aload_n hx hb d_La_cell_6 rfl (lv_at hl 0 rfl) ?_
    refine lv_iload_n hx hb d_La_cell_7 rfl (lv_at hl 1 rfl) ?_
    refine va_sld hx hb hX hbl hbA hS (vp_in_nI h hL) d_La_cell_8 ?_
    refine lv_goto (tgt := 13) hx hb d_La_cell_9 (by decide) ?_
    exact W.iret (v := xs (nI 0).toNatClampNeg) hx hb hr (fun t ht hW => ⟨⟨xs (nI 0).toNatClampNeg, (), rfl, by rw [if_pos h, nI_clamp (by decide)], trivial⟩, hS.F ht⟩) hS.2.2 d_La_cell_13
theorem la_call {p : Program} {l : Launch} {e : Env} {R : Room} {s : State} {m : MethodId} {args : Array Value} {below : List Frame} {meth : Method} {c : Code} {H : Heap} {locs : List Loc} {cells slots : Nat} {Q : State → Prop} {pc : Nat} {ls : Array Slot} {rest : List Value} {D : va_G} {g : Nat → ClassId} {ws : va_W} {b L : Nat} {xs : Nat → Int32} {cc : ByteArray} (hw : dw_W D classes (ds_tys g) (fun q : Nat => s.heap.size ≤ q) s.heap ws s H locs) (S : CallFix p m c cc 4 s args ds_T "DaySwapsLaw") (hX : va_X b L xs s s.heap) (hbl : b < s.heap.size) (hL : L < 2 ^ 31) (hsz : ls.size = 4) (hR : 1 ≤ R.frames ∧ 21 ≤ R.locals) (hre : (rest.map fun v => v.category).sum ≤ 8) (hcs : cells ≤ R.cells ∧ slots ≤ R.slots) (hdg : decode cc pc = .ok (.invokestatic 9, 3))
    (kk : ∀ (H1 : Heap) (locs1 : List Loc), dw_W D classes (ds_tys g) (fun q : Nat => s.heap.size ≤ q) s.heap ws s H1 locs1 → W p l e R s m args below meth c H1 locs1 cells slots Q (F0 m (pc + 3) ls (.int (if 0 < L then xs 0 else 0) :: rest))) : W p l e R s m args below meth c H locs cells slots Q (F0 m pc ls (.int (nI 0) :: .ref b :: rest)) := by
  have hno : ∀ q, va_A [] H.size q → H.size ≤ q := fun q h => by
    rcases h with ⟨k, e9, h⟩ | h
    · simp at h
    · exact h
  have hle := hw.2.2.2.1
  have hXH : va_X b L xs s H := hX.kept (hw.2.2.2.2.1 b hbl (Nat.not_le.mpr hbl))
  refine va_calli (va_runS (As := [.ref b, .int (nI 0)]) (rest := rest) (mc := 0) (ms := 0) S (c_cell l b L xs hL H.size) ⟨callB_of 2 S.2.2.2.2 (dw_good ds_good (dw_code cw_La_cell.1)) rfl rfl rfl (S.2.2.2.2 _ cw_La_cell.2.1) (S.2.2.2.2 _ wd_353) cw_La_cell.2.2 hR, S.2.2.2.2 _ wd_354⟩ ⟨la_blind, fun U hU hW => ⟨rfl, by rw [hU], Nat.lt_of_lt_of_le hbl hle, by rw [hU]; exact va_X.moved hW.alike hXH⟩⟩ rfl rfl hsz rfl (lv_room hre) hdg hcs) hw.2.2.2 (fun q hq h => absurd (hno q h) (by omega)) (fun q h => Nat.le_trans hle (hno q h)) (fun r u t H1 locs1 ht hvm hp hB hz hk hS => ?_)
  rw [hp]
  exact kk H1 locs1 ⟨hw.1, hw.2.1.kept (fun k q hq => hk q.1 ((hw.2.1 k q hq).lt) (fun z => absurd (hno _ z) (by have := (hw.2.1 k q hq).lt; omega))), hw.2.2.1, hS⟩
