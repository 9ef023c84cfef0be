/-! a world of NC cells at fixed addresses a, layout ce, contents f -/
def dw_su (f : Nat → Nat → Nat) (k : Nat) (g : Nat → Nat) : Nat → Nat → Nat := fun j => if j = k then g else f j
def dw_up (g : Nat → Nat) (i x : Nat) : Nat → Nat := fun j => if j = i then x else g j
/-- cell k's place i becomes x -/
def dw_w (f : Nat → Nat → Nat) (k i x : Nat) : Nat → Nat → Nat := dw_su f k (dw_up (f k) i x)
def dw_l (NC : Nat) (ce : Nat → (Nat → Nat) → va_E) (a : Nat → Nat) (f : Nat → Nat → Nat) : va_W := (List.range NC).map (fun k => (a k, ce k (f k)))
section
variable {NC k : Nat} {ce : Nat → (Nat → Nat) → va_E} {a : Nat → Nat} {f f2 : Nat → Nat → Nat} {A : Nat → Prop}
theorem dw_get (h : k < NC) : (dw_l NC ce a f)[k]? = some (a k, ce k (f k)) := by
  simp [dw_l, h]
theorem dw_len : (dw_l NC ce a f).length = NC := by simp [dw_l]
theorem dw_lt {q : Nat × va_E} (h : (dw_l NC ce a f)[k]? = some q) : k < NC := by
  have := (List.getElem?_eq_some_iff.mp h).1
  rwa [dw_len] at this
theorem dw_adr {q : Nat × va_E} (h : (dw_l NC ce a f)[k]? = some q) : q.1 = a k := by
  rw [dw_get (dw_lt h)] at h
  cases h
  rfl
theorem dw_set (h : k < NC) (g : Nat → Nat) : (dw_l NC ce a f).set k (a k, ce k g) = dw_l NC ce a (dw_su f k g) := by
  apply List.ext_getElem?
  intro i
  by_cases hi : i < NC
  · rw [dw_get hi, List.getElem?_set]
    by_cases hk : k = i
    · subst hk
      simp [dw_len, h, dw_su]
    · rw [if_neg hk, dw_get hi]
      simp [dw_su, Ne.symm hk]
  · rw [List.getElem?_eq_none (by rw [List.length_set, dw_len]; omega), List.getElem?_eq_none (by rw [dw_len]; omega)]
theorem dw_D (h : va_D A (dw_l NC ce a f)) : va_D A (dw_l NC ce a f2) := by
  refine ⟨fun i j p q hi hj e => ?_, fun k q hk => ?_⟩
  · have h1 := dw_get (ce := ce) (a := a) (f := f) (dw_lt hi)
    have h2 := dw_get (ce := ce) (a := a) (f := f) (dw_lt hj)
    exact h.1 i j _ _ h1 h2 (by rw [dw_adr hi, dw_adr hj] at e; exact e)
  · have h1 := dw_get (ce := ce) (a := a) (f := f) (dw_lt hk)
    rw [dw_adr hk]
    exact h.2 k _ h1
theorem dw_A {sz q : Nat} (h : va_A (dw_l NC ce a f) sz q) : va_A (dw_l NC ce a f2) sz q := by
  rcases h with ⟨k, e, h⟩ | h
  · refine Or.inl ⟨k, ce k (f2 k), ?_⟩
    have h1 := dw_adr h
    have h2 := dw_get (ce := ce) (a := a) (f := f2) (dw_lt h)
    rw [h2, ← h1]
  · exact Or.inr h
end
/-- what is known of the world while a method runs -/
def dw_W (D : va_G) (cl : List vw_C) (tys : List (ClassId × FieldType)) (A : Nat → Prop) (H0 : Heap) (ws : va_W) (s : State) (H : Heap) (locs : List Loc) : Prop := va_K D cl tys s ∧ va_P D cl ws H ∧ va_D A ws ∧ va_S A H0 H locs
/-- kinds of cells -/
def dw_Ci (tys : List (ClassId × FieldType)) (NC : Nat) (ce : Nat → (Nat → Nat) → va_E) (ty : FieldType) (k n : Nat) : Prop := k < NC ∧ n < 2 ^ 31 ∧ ∃ (cA : ClassId) (t0 : Nat), tys[t0]? = some (cA, ty) ∧ ∀ g, ce k g = .inl (cA, n, .inl (fun j => nI (g j)))
def dw_Cl (tys : List (ClassId × FieldType)) (NC : Nat) (ce : Nat → (Nat → Nat) → va_E) (k n : Nat) : Prop := k < NC ∧ n < 2 ^ 31 ∧ ∃ (cA : ClassId) (t0 : Nat), tys[t0]? = some (cA, .long) ∧ ∀ g, ce k g = .inl (cA, n, .inr (.inl (fun j => lN (g j))))
def dw_Cr (tys : List (ClassId × FieldType)) (NC : Nat) (ce : Nat → (Nat → Nat) → va_E) (a : Nat → Nat) (k n b : Nat) : Prop := k < NC ∧ n < 2 ^ 31 ∧ ∃ (cA : ClassId) (t0 : Nat), tys[t0]? = some (cA, .array .int) ∧ ∀ g, ce k g = .inl (cA, n, .inr (.inr (.inr (.inr (fun j => some (a (b + j)))))))
theorem dw_updn (g : Nat → Nat) (i x : Nat) : upd (fun j => nI (g j)) i (nI x) = fun j => nI (dw_up g i x j) := by
  funext j
  unfold upd dw_up
  split <;> rfl
theorem dw_updl (g : Nat → Nat) (i x : Nat) : vp_updL (fun j => lN (g j)) i (lN x) = fun j => lN (dw_up g i x j) := by
  funext j
  unfold vp_updL dw_up
  split <;> rfl
section
variable {p : Program} {l : Launch} {e : Env} {R : Room} {s : State} {m : MethodId} {args : Array Value} {below : List Frame} {meth : Method} {c : Code} {H H0 : Heap} {locs : List Loc} {cells slots : Nat} {Q : State → Prop} {cc : ByteArray} {pc : Nat} {ls : Array Slot} {rest : List Value}
  {D : va_G} {cl : List vw_C} {tys : List (ClassId × FieldType)} {A : Nat → Prop} {NC : Nat} {ce : Nat → (Nat → Nat) → va_E} {a : Nat → Nat} {f : Nat → Nat → Nat}
theorem dw_iald (hx : p.tables.exec = Jvm.exec) (hb : c.code = cc) (hw : dw_W D cl tys A H0 (dw_l NC ce a f) s H locs) {k n i : Nat} (hk : dw_Ci tys NC ce .int k n) (hi : i < n) (hdg : decode cc pc = .ok (.iaload, 1)) (kk : W p l e R s m args below meth c H locs cells slots Q (F0 m (pc + 1) ls (.int (nI (f k i)) :: rest))) : W p l e R s m args below meth c H locs cells slots Q (F0 m pc ls (.int (nI i) :: .ref (a k) :: rest)) := by
  obtain ⟨h1, h2, cA, t0, h3, h4⟩ := hk
  refine va_iald (f := fun j => nI (f k j)) hx hb hw.1 hw.2.1 k t0 (by rw [dw_get h1, h4]) h3 (vp_in_nI hi h2) hdg ?_
  rw [nI_clamp (by omega)]
  exact kk
theorem dw_zald (hx : p.tables.exec = Jvm.exec) (hb : c.code = cc) (hw : dw_W D cl tys A H0 (dw_l NC ce a f) s H locs) {k n i : Nat} (hk : dw_Ci tys NC ce .boolean k n) (hi : i < n) (hdg : decode cc pc = .ok (.baload, 1)) (kk : W p l e R s m args below meth c H locs cells slots Q (F0 m (pc + 1) ls (.int (nI (f k i)) :: rest))) : W p l e R s m args below meth c H locs cells slots Q (F0 m pc ls (.int (nI i) :: .ref (a k) :: rest)) := by
  obtain ⟨h1, h2, cA, t0, h3, h4⟩ := hk
  refine va_zald (f := fun j => nI (f k j)) hx hb hw.1 hw.2.1 k t0 (by rw [dw_get h1, h4]) h3 (vp_in_nI hi h2) hdg ?_
  rw [nI_clamp (by omega)]
  exact kk
theorem dw_lald (hx : p.tables.exec = Jvm.exec) (hb : c.code = cc) (hw : dw_W D cl tys A H0 (dw_l NC ce a f) s H locs) {k n i : Nat} (hk : dw_Cl tys NC ce k n) (hi : i < n) (hdg : decode cc pc = .ok (.laload, 1)) (kk : W p l e R s m args below meth c H locs cells slots Q (F0 m (pc + 1) ls (.long (lN (f k i)) :: rest))) : W p l e R s m args below meth c H locs cells slots Q (F0 m pc ls (.int (nI i) :: .ref (a k) :: rest)) := by
  obtain ⟨h1, h2, cA, t0, h3, h4⟩ := hk
  refine va_lald (f := fun j => lN (f k j)) hx hb hw.1 hw.2.1 k t0 (by rw [dw_get h1, h4]) h3 (vp_in_nI hi h2) hdg ?_
  rw [nI_clamp (by omega)]
  exact kk
theorem dw_aald (hx : p.tables.exec = Jvm.exec) (hb : c.code = cc) (hw : dw_W D cl tys A H0 (dw_l NC ce a f) s H locs) {k n b i : Nat} (hk : dw_Cr tys NC ce a k n b) (hi : i < n) (hdg : decode cc pc = .ok (.aaload, 1)) (kk : W p l e R s m args below meth c H locs cells slots Q (F0 m (pc + 1) ls (.ref (a (b + i)) :: rest))) : W p l e R s m args below meth c H locs cells slots Q (F0 m pc ls (.int (nI i) :: .ref (a k) :: rest)) := by
  obtain ⟨h1, h2, cA, t0, h3, h4⟩ := hk
  have hc : (nI i).toNatClampNeg = i := nI_clamp (by omega)
  have hin := vp_in_nI hi h2
  have ha : (dw_l NC ce a f)[k]? = some (a k, .inl (cA, n, .inr (.inr (.inr (.inr (fun j => some (a (b + j)))))))) := by rw [dw_get h1, h4]
  exact W.aald (v := .ref (a (b + i))) (ty := .array .int) hx hb (hw.2.1 k _ ha) ((hw.1.2 t0 _ h3).1 n (fun j => va_rf (some (a (b + j))))) rfl (fun q => by cases q) (by show ¬ (nI i < 0 ∨ (arrV _ _ _).slots.size ≤ _); rw [arrV_size]; exact hin) (by show (arrV _ _ _).slots[_]? = _; rw [hc, arrV_read _ _ hi]; rfl) rfl rfl hdg kk
theorem dw_alen (hx : p.tables.exec = Jvm.exec) (hb : c.code = cc) (hw : dw_W D cl tys A H0 (dw_l NC ce a f) s H locs) {k n b : Nat} (hk : dw_Cr tys NC ce a k n b) (hdg : decode cc pc = .ok (.arraylength, 1)) (kk : W p l e R s m args below meth c H locs cells slots Q (F0 m (pc + 1) ls (.int (nI n) :: rest))) : W p l e R s m args below meth c H locs cells slots Q (F0 m pc ls (.ref (a k) :: rest)) := by
  obtain ⟨h1, h2, cA, t0, h3, h4⟩ := hk
  exact va_alen (x := (n, .inr (.inr (.inr (.inr (fun j => some (a (b + j)))))))) hx hb hw.1 hw.2.1 k t0 (by rw [dw_get h1, h4]) h3 rfl hdg kk
theorem dw_aleni (hx : p.tables.exec = Jvm.exec) (hb : c.code = cc) (hw : dw_W D cl tys A H0 (dw_l NC ce a f) s H locs) {k n : Nat} {ty : FieldType} (hk : dw_Ci tys NC ce ty k n) (hdg : decode cc pc = .ok (.arraylength, 1)) (kk : W p l e R s m args below meth c H locs cells slots Q (F0 m (pc + 1) ls (.int (nI n) :: rest))) : W p l e R s m args below meth c H locs cells slots Q (F0 m pc ls (.ref (a k) :: rest)) := by
  obtain ⟨h1, h2, cA, t0, h3, h4⟩ := hk
  exact va_alen (x := (n, .inl (fun j => nI (f k j)))) hx hb hw.1 hw.2.1 k t0 (by rw [dw_get h1, h4]) h3 rfl hdg kk
theorem dw_iast (hx : p.tables.exec = Jvm.exec) (hb : c.code = cc) (hw : dw_W D cl tys A H0 (dw_l NC ce a f) s H locs) {k n i x : Nat} (hk : dw_Ci tys NC ce .int k n) (hi : i < n) (hdg : decode cc pc = .ok (.iastore, 1)) (kk : ∀ (f1 : Nat → Nat → Nat) (H1 : Heap) (locs1 : List Loc), f1 = dw_w f k i x → dw_W D cl tys A H0 (dw_l NC ce a f1) s H1 locs1 → W p l e R s m args below meth c H1 locs1 cells slots Q (F0 m (pc + 1) ls rest)) : W p l e R s m args below meth c H locs cells slots Q (F0 m pc ls (.int (nI x) :: .int (nI i) :: .ref (a k) :: rest)) := by
  obtain ⟨h1, h2, cA, t0, h3, h4⟩ := hk
  refine va_iast (f := fun j => nI (f k j)) hx hb hw.1 hw.2.1 hw.2.2.1 hw.2.2.2 k t0 (by rw [dw_get h1, h4]) h3 (vp_in_nI hi h2) hdg (fun H1 locs1 hP hD hS => ?_)
  rw [nI_clamp (by omega), dw_updn, ← h4, dw_set h1] at hP hD
  exact kk _ H1 locs1 rfl ⟨hw.1, hP, hD, hS⟩
theorem dw_zast (hx : p.tables.exec = Jvm.exec) (hb : c.code = cc) (hw : dw_W D cl tys A H0 (dw_l NC ce a f) s H locs) {k n i x : Nat} (hx1 : x ≤ 1) (hk : dw_Ci tys NC ce .boolean k n) (hi : i < n) (hdg : decode cc pc = .ok (.bastore, 1)) (kk : ∀ (f1 : Nat → Nat → Nat) (H1 : Heap) (locs1 : List Loc), f1 = dw_w f k i x → dw_W D cl tys A H0 (dw_l NC ce a f1) s H1 locs1 → W p l e R s m args below meth c H1 locs1 cells slots Q (F0 m (pc + 1) ls rest)) : W p l e R s m args below meth c H locs cells slots Q (F0 m pc ls (.int (nI x) :: .int (nI i) :: .ref (a k) :: rest)) := by
  obtain ⟨h1, h2, cA, t0, h3, h4⟩ := hk
  have hn : vp_nar .boolean (nI x) = nI x := by
    rcases (show x = 0 ∨ x = 1 by omega) with rfl | rfl <;> rfl
  refine va_zast (f := fun j => nI (f k j)) hx hb hw.1 hw.2.1 hw.2.2.1 hw.2.2.2 k t0 (by rw [dw_get h1, h4]) h3 (vp_in_nI hi h2) hdg (fun H1 locs1 hP hD hS => ?_)
  rw [hn, nI_clamp (by omega), dw_updn, ← h4, dw_set h1] at hP hD
  exact kk _ H1 locs1 rfl ⟨hw.1, hP, hD, hS⟩
theorem dw_last (hx : p.tables.exec = Jvm.exec) (hb : c.code = cc) (hw : dw_W D cl tys A H0 (dw_l NC ce a f) s H locs) {k n i x : Nat} (hk : dw_Cl tys NC ce k n) (hi : i < n) (hdg : decode cc pc = .ok (.lastore, 1)) (kk : ∀ (f1 : Nat → Nat → Nat) (H1 : Heap) (locs1 : List Loc), f1 = dw_w f k i x → dw_W D cl tys A H0 (dw_l NC ce a f1) s H1 locs1 → W p l e R s m args below meth c H1 locs1 cells slots Q (F0 m (pc + 1) ls rest)) : W p l e R s m args below meth c H locs cells slots Q (F0 m pc ls (.long (lN x) :: .int (nI i) :: .ref (a k) :: rest)) := by
  obtain ⟨h1, h2, cA, t0, h3, h4⟩ := hk
  refine va_last (f := fun j => lN (f k j)) hx hb hw.1 hw.2.1 hw.2.2.1 hw.2.2.2 k t0 (by rw [dw_get h1, h4]) h3 (vp_in_nI hi h2) hdg (fun H1 locs1 hP hD hS => ?_)
  rw [nI_clamp (by omega), dw_updl, ← h4, dw_set h1] at hP hD
  exact kk _ H1 locs1 rfl ⟨hw.1, hP, hD, hS⟩
end
