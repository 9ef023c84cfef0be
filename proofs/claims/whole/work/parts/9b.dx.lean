/-! worlds that grow: explicit lists of cells; contracts of the constructors -/
def dn_ro (N : Nat) (r : Nat → Nat) : Nat → Option Nat := fun i => if i < N then some (r i) else none
theorem dn_RA {U : State} {x y : ClassId} {ty : FieldType} (hno : ∀ (U : State) (c : ClassId), va_RA U c ty ↔ U.vm.findClass ("[" ++ ty.toString) = some c) (h1 : va_RA U x ty) (h2 : va_RA U y ty) : x = y := Option.some.inj (((hno U x).mp h1).symm.trans ((hno U y).mp h2))
theorem dn_2d : ("[" ++ (FieldType.array FieldType.int).toString) = "[[I" := by decide +kernel
theorem dx_in {ws wc : va_W} {isC : List Nat} (hC : isC.map (fun i => ws[i]?) = wc.map some) {k : Nat} {q : Nat × va_E} (hk : wc[k]? = some q) : ∃ i : Nat, ws[i]? = some q := by
  have h1 : (isC.map (fun i => ws[i]?))[k]? = some (some q) := by rw [hC, List.getElem?_map, hk]; rfl
  rw [List.getElem?_map] at h1
  cases hi : isC[k]? with
  | none => rw [hi] at h1; cases h1
  | some i => rw [hi] at h1; exact ⟨i, Option.some.inj h1⟩
theorem dx_Psub {D : va_G} {cl : List vw_C} {ws wc : va_W} {H : Heap} (h : va_P D cl ws H) {isC : List Nat} (hC : isC.map (fun i => ws[i]?) = wc.map some) : va_P D cl wc H := fun k q hk => by
  obtain ⟨i, hi⟩ := dx_in hC hk
  exact h i q hi
theorem dx_perm {D : va_G} {cl : List vw_C} {tys : List (ClassId × FieldType)} {A : Nat → Prop} {H0 H : Heap} {ws ws' : va_W} {s : State} {locs : List Loc} (hw : dw_W D cl tys A H0 ws s H locs) (is : List Nat) (hn : va_nd is = true) (hs : is.map (fun i => ws[i]?) = ws'.map some) : dw_W D cl tys A H0 ws' s H locs := ⟨hw.1, dx_Psub hw.2.1 hs, hw.2.2.1.sub is hn hs, hw.2.2.2⟩
/-! two cells that look alike -/
def dx_eq : va_E → va_E → Prop
  | .inl x, .inl y => vp_cell x.1 x.2 = vp_cell y.1 y.2
  | .inr x, .inr y => x = y
  | _, _ => False
theorem dx_rf {x y : va_E} (h : x = y) : dx_eq x y := by
  subst h
  cases x <;> exact rfl
theorem dx_arr {c : ClassId} {n : Nat} {f f' : Nat → Value} (h : ∀ j, j < n → f j = f' j) : arrV c n f = arrV c n f' := by
  unfold arrV
  congr 1
  congr 1
  funext j
  exact h j.1 j.2
theorem dx_ei {c : ClassId} {n : Nat} {f f' : Nat → Int32} (h : ∀ j, j < n → f j = f' j) : dx_eq (.inl (c, n, .inl f)) (.inl (c, n, .inl f')) := by
  show arrV c n (fun j => .int (f j)) = arrV c n (fun j => .int (f' j))
  exact dx_arr (fun j hj => by rw [h j hj])
theorem dx_el {c : ClassId} {n : Nat} {f f' : Nat → Int64} (h : ∀ j, j < n → f j = f' j) : dx_eq (.inl (c, n, .inr (.inl f))) (.inl (c, n, .inr (.inl f'))) := by
  show arrV c n (fun j => .long (f j)) = arrV c n (fun j => .long (f' j))
  exact dx_arr (fun j hj => by rw [h j hj])
theorem dx_er {c : ClassId} {n : Nat} {f f' : Nat → Option Nat} (h : ∀ j, j < n → f j = f' j) : dx_eq (.inl (c, n, .inr (.inr (.inr (.inr f))))) (.inl (c, n, .inr (.inr (.inr (.inr f'))))) := by
  show arrV c n (fun j => va_rf (f j)) = arrV c n (fun j => va_rf (f' j))
  exact dx_arr (fun j hj => by rw [h j hj])
theorem dx_at {D : va_G} {cl : List vw_C} {H : Heap} {a : Nat} {x y : va_E} (h : dx_eq x y) (hx : va_at D cl (a, x) H) : va_at D cl (a, y) H := by
  cases x with
  | inl x =>
    cases y with
    | inl y =>
      have h : vp_cell x.1 x.2 = vp_cell y.1 y.2 := h
      show H[a]? = some (vp_cell y.1 y.2)
      rw [← h]
      exact hx
    | inr y => exact h.elim
  | inr x =>
    cases y with
    | inl y => exact h.elim
    | inr y =>
      have h : x = y := h
      rw [← h]
      exact hx
def dx_all : va_W → va_W → Prop
  | [], [] => True
  | p :: ws, q :: ws' => (p.1 = q.1 ∧ dx_eq p.2 q.2) ∧ dx_all ws ws'
  | _, _ => False
theorem dx_c {p q : Nat × va_E} {ws ws' : va_W} (h1 : p.1 = q.1) (h2 : dx_eq p.2 q.2) (t : dx_all ws ws') : dx_all (p :: ws) (q :: ws') := ⟨⟨h1, h2⟩, t⟩
theorem dx_n : dx_all [] [] := trivial
theorem dx_nth : ∀ {ws ws' : va_W}, dx_all ws ws' → ∀ (k : Nat) (q : Nat × va_E), ws'[k]? = some q → ∃ x, ws[k]? = some (q.1, x) ∧ dx_eq x q.2
  | [], [], _, k, q, hk => by simp at hk
  | p :: ws, z :: ws', h, 0, q, hk => by
    have e : z = q := by simpa using hk
    subst e
    exact ⟨p.2, by rw [← h.1.1]; rfl, h.1.2⟩
  | p :: ws, z :: ws', h, k + 1, q, hk => by
    have hk : ws'[k]? = some q := by simpa using hk
    obtain ⟨x, h1, h2⟩ := dx_nth h.2 k q hk
    exact ⟨x, by simpa using h1, h2⟩
  | [], _ :: _, h, _, _, _ => h.elim
  | _ :: _, [], h, _, _, _ => h.elim
theorem dx_cong {D : va_G} {cl : List vw_C} {tys : List (ClassId × FieldType)} {A : Nat → Prop} {H0 H : Heap} {ws ws' : va_W} {s : State} {locs : List Loc} (hw : dw_W D cl tys A H0 ws s H locs) (h : dx_all ws ws') : dw_W D cl tys A H0 ws' s H locs := by
  refine ⟨hw.1, fun k q hk => ?_, ⟨fun i j p q hi hj e => ?_, fun k q hk => ?_⟩, hw.2.2.2⟩
  · obtain ⟨x, h1, h2⟩ := dx_nth h k q hk
    exact dx_at h2 (hw.2.1 k _ h1)
  · obtain ⟨x, h1, -⟩ := dx_nth h i p hi
    obtain ⟨y, h2, -⟩ := dx_nth h j q hj
    exact hw.2.2.1.1 i j _ _ h1 h2 e
  · obtain ⟨x, h1, -⟩ := dx_nth h k q hk
    have h2 := hw.2.2.1.2 k (q.1, x) h1
    exact h2
/-! contracts -/
def dx_B (D : va_G) (g : Nat → ClassId) (ws : va_W) (sz : Nat) (U : State) : Prop := dw_B lw_tbl D classes (ds_tys g) ws sz U ∧ va_AOA .int U
def dx_C (l : Launch) (D : va_G) (g : Nat → ClassId) (y : MethodName) (b : ByteArray) (nL fr mc ms lo : Nat) (As : List Value) (ws : va_W) (post : va_W → Prop) : Prop :=
  ∀ sz : Nat, Met l y (Cond.code y b nL none :: ds_T) { frames := fr, cells := mc, slots := ms, locals := lo } (va_Pc As (dx_B D g ws sz)) (va_Qv post (fun w t => va_P D classes w t.heap ∧ va_D (va_A ws sz) w) (va_A ws sz)) mc ms (va_A ws sz)
theorem dx_blind {D : va_G} {g : Nat → ClassId} {ws : va_W} {sz : Nat} {As : List Value} : FrameBlind (va_Pc As (dx_B D g ws sz)) := fun a U gg mk q => ⟨q.1, (dw_blind (As := As) a U gg mk ⟨q.1, q.2.1⟩).2, va_AOA.moved (u := U) (U := U.calling gg mk a) (Vm.Alike.refl U.vm) q.2.2⟩
theorem dx_pre {D : va_G} {g : Nat → ClassId} {ws wc : va_W} {As : List Value} {A : Nat → Prop} {H0 H : Heap} {s : State} {locs : List Loc} (hw : dw_W D classes (ds_tys g) A H0 ws s H locs) (hN : dw_N lw_tbl s) (hO : va_AOA .int s) {isC : List Nat} (hn : va_nd isC = true) (hC : isC.map (fun i => ws[i]?) = wc.map some) : ∀ U : State, U.heap = H → s.WarmedH U.vm → va_Pc As (dx_B D g wc H.size) As.toArray U := fun U hU hW => ⟨rfl, ⟨by rw [hU], by rw [hU]; exact dx_Psub hw.2.1 hC, va_K.moved hW.alike hw.1, (hw.2.2.1.sub isC hn hC).weaken (fun _ _ _ _ => trivial), hN.warm hW⟩, hO.moved hW.alike⟩
theorem dx_of {l : Launch} {D : va_G} {g : Nat → ClassId} {y : MethodName} {b : ByteArray} {nL fr mc ms lo : Nat} {As : List Value} {ws : va_W} {post : va_W → Prop} (hy : plainName y.cls = true) (hlen : (lg_sl As).length ≤ nL)
    (body : ∀ (p : Program) (e : Env) (s : State) (m : MethodId) (args : Array Value) (below : List Frame) (meth : Method) (c : Code) (ls : Array Slot) (A : Nat → Prop) (Q : State → Prop) (R : Room) (H : Heap) (locs : List Loc), (fr ≤ R.frames ∧ lo ≤ R.locals ∧ mc ≤ R.cells ∧ ms ≤ R.slots) → (∀ q : Nat, s.heap.size ≤ q → A q) → CallFix p m c b nL s args ds_T y.cls → dw_N lw_tbl s → va_AOA .int s → meth.name = y.name → dw_W D classes (ds_tys g) A s.heap ws s H locs → lv_has ls nL (lv_args 0 As) →
      (∀ (H : Heap) (locs : List Loc) (pc : Nat) (ls : Array Slot) (w2 : va_W), dw_W D classes (ds_tys g) A s.heap w2 s H locs → post w2 → decode b pc = .ok (.return_, 1) → W p l e R s m args below meth c H locs mc ms Q (F0 m pc ls [])) →
      W p l e R s m args below meth c H locs 0 0 Q (F0 m 0 ls [])) : dx_C l D g y b nL fr mc ms lo As ws post := by
  intro sz
  refine Met.ofW (cc := b) (maxL := nL) (ret := none) hy rfl ?_
  intro p e s m args below meth c s₁ B hml hv
  obtain ⟨rfl, ⟨hsz, hP, hK, hD0, hN⟩, hO⟩ := hv
  have hts := atoms_spec (ws := Cond.code y b nL none :: ds_T) B.pre
  have hown : s.vm.findClass y.cls = some m.cls := findClass_of_methodNamed B.named
  have hlocks := B.notSynchronized
  have hr := B.returns
  have hx := B.exec
  have hb := B.bytes
  have hin : meth.name = y.name := (name_of_methodNamed B.named B.method).1
  subst hsz
  have hD := hD0.self (sz := s.heap.size)
  generalize hAe : va_A ws s.heap.size = A at hD ⊢
  have hA : ∀ q : Nat, s.heap.size ≤ q → A q := fun q h => by rw [← hAe]; exact Or.inr h
  have hl := lv_entry As (n := nL) hlen
  rw [lg_entry_eq]
  generalize (lg_sl As ++ List.replicate (nL - (lg_sl As).length) Slot.unset).toArray = ls at hl ⊢
  refine body p e s m _ below meth c ls A _ _ s.heap [] ⟨Nat.le_refl _, Nat.le_refl _, Nat.le_refl _, Nat.le_refl _⟩ hA ⟨hx, hb, hml, hown, fun w hw => hts w (List.mem_cons_of_mem _ hw)⟩ hN hO hin ⟨hK, hP, hD, va_S.rf⟩ hl ?_
  intro H locs pc ls w2 hw hv hdg
  exact W.vret hx hb hr (fun t ht hW => ⟨⟨w2, rfl, hv, by rw [ht]; exact hw.2.1, hw.2.2.1⟩, hw.2.2.2.F ht⟩) hw.2.2.2.2.2 hdg hlocks
section
variable {p : Program} {l : Launch} {e : Env} {R : Room} {s : State} {m : MethodId} {args : Array Value} {below : List Frame} {meth : Method} {c : Code} {H H0 : Heap} {locs : List Loc} {cells slots : Nat} {Q : State → Prop} {cc : ByteArray} {pc : Nat} {ls : Array Slot} {rest st0 : List Value}
  {D : va_G} {cl : List vw_C} {tys : List (ClassId × FieldType)} {A : Nat → Prop} {ws : va_W} {Ts : List Cond} {own C host : String} {nL index a : Nat} {g : Nat → ClassId}
theorem dx_newa {atype : ArrayType} {ty : FieldType} {gA : ClassId} (t0 N' : Nat) (a0 : vp_A) (S : CallFix p m c cc nL s args Ts own) (hw : dw_W D cl tys A H0 ws s H locs) (hA : ∀ q, H0.size ≤ q → A q) (harr : Cond.arrayClass ty ∈ Ts) (hty : newarray.typeOf atype = ty) (ht : tys[t0]? = some (gA, ty)) (hno : ∀ (U : State) (c : ClassId), va_RA U c ty ↔ U.vm.findClass ("[" ++ ty.toString) = some c) (ha : ∀ cA : ClassId, vp_cell cA a0 = arrV cA N' (fun _ => defaultValue ty)) (hN : N' < 2 ^ 31) (hbytes : N' * componentBytes ty ≤ 536870912) (hcells : cells + 1 ≤ R.cells) (hslots : slots + N' ≤ R.slots) (hdg : decode cc pc = .ok (.newarray atype, 2))
    (kk : ∀ (q : Nat) (H1 : Heap), dw_W D cl tys A H0 (ws ++ [(q, .inl (gA, a0))]) s H1 locs → W p l e R s m args below meth c H1 locs (cells + 1) (slots + N') Q (F0 m (pc + 2) ls (.ref q :: rest))) : W p l e R s m args below meth c H locs cells slots Q (F0 m pc ls (.int (nI N') :: rest)) := by
  refine va_newa S.1 S.2.1 (by rw [hty]; exact S.2.2.2.2 _ harr) hty hw.1 hw.2.1 hw.2.2.1 hw.2.2.2 hA ha (nI_pos hN) (nI_clamp hN) hbytes hcells hslots hdg (fun q cA H1 hK1 hP1 hD1 hS1 => ?_)
  have e1 : cA = gA := dn_RA hno (hK1.2 tys.length (cA, ty) (by simp)).2 (hw.1.2 t0 _ ht).2
  rw [e1] at hP1 hD1
  exact kk q H1 ⟨hw.1, hP1, hD1, hS1⟩
theorem dx_mna {cy gA : ClassId} (t0 t1 N' K' : Nat) (S : CallFix p m c cc nL s args Ts own) (hw : dw_W D cl tys A H0 ws s H locs) (hA : ∀ q, H0.size ≤ q → A q) (hcl : Cond.classLink own index "[[I" ∈ Ts) (hover : va_AOA .int s) (harr : Cond.arrayClass .int ∈ Ts) (h0 : tys[t0]? = some (cy, .int)) (h1 : tys[t1]? = some (gA, .array .int)) (hN : N' ≤ 1000) (hM : K' ≤ 1000) (hcells : cells + (1 + N') ≤ R.cells) (hslots : slots + (N' + N' * K') ≤ R.slots) (hdg : decode cc pc = .ok (.multianewarray index 2, 4))
    (kk : ∀ (q : Nat) (r : Nat → Nat) (H1 : Heap), dw_W D cl tys A H0 ((ws ++ [(q, .inl (gA, N', .inr (.inr (.inr (.inr (dn_ro N' r))))))]) ++ (List.range N').map (fun i => (r i, .inl (cy, K', .inl (fun _ => 0))))) s H1 locs → W p l e R s m args below meth c H1 locs (cells + 1 + N') (slots + N' + N' * K') Q (F0 m (pc + 4) ls (.ref q :: rest))) : W p l e R s m args below meth c H locs cells slots Q (F0 m pc ls (.int (nI K') :: .int (nI N') :: rest)) := by
  have e0 : ∀ f : Nat → va_E, ws ++ va_pl [] f = ws := fun _ => List.append_nil ws
  refine va_mna (X := ws) (L := []) (f := fun _ => .inl (cy, K', .inl (fun _ => 0))) (own := own) (index := index) (ty := .int) (cy := cy) (z := (K', .inl (fun _ => 0))) S.1 S.2.1 S.2.2.2.1 (by rw [dn_2d]; exact S.2.2.2.2 _ hcl) hover (S.2.2.2.2 _ harr) (hw.1.2 t0 _ h0).2 hw.1 (by rw [e0]; exact hw.2.1) (by rw [e0]; exact hw.2.2.1) hw.2.2.2 hA (nI_pos (by omega)) (nI_pos (by omega)) (nI_clamp (by omega)) (nI_clamp (by omega)) (by omega) (by show K' * 4 ≤ _; omega) (by omega) rfl rfl hcells hslots (fun c => ?_) hdg (fun q r cA H1 hr1 hr2 hK1 hP1 hD1 hS1 => ?_)
  · show ({ cls := c, slots := Array.replicate K' (.int 0), vm := .none } : Cell) = _
    rw [arrV_new]
    rfl
  · have e1 : cA = gA := dn_RA (fun _ _ => Iff.rfl) (hK1.2 tys.length (cA, .array .int) (by simp)).2 (hw.1.2 t1 _ h1).2
    have e2 : ∀ (f : Nat → va_E) (v : va_E), va_pl ([] ++ (List.range N').map r) (vr_up f ((List.range N').map r) v) = (List.range N').map (fun i => (r i, v)) := by
      intro f v
      unfold va_pl
      rw [List.nil_append, List.map_map]
      apply List.map_congr_left
      intro i hi
      show (r i, vr_up _ _ _ (r i)) = _
      rw [vr_up_in (List.mem_map.mpr ⟨i, hi, rfl⟩)]
    rw [e1, e2] at hP1 hD1
    exact kk q r H1 ⟨hw.1, hP1, hD1, hS1⟩
theorem dx_new {T : u_T} {N : Nat} (ci : Nat) (fs : List Value) (ty : Nat → FieldType) (S : CallFix p m c cc nL s args Ts own) (hw : dw_W D cl tys A H0 ws s H locs) (hA : ∀ q, H0.size ≤ q → A q) (hin : ∀ w ∈ u_ws C T N, w ∈ Ts) (hty : ∀ k, k < N → parseFieldDescriptor (T k).2.2.1 = some (ty k)) (hcl : Cond.classLink own index C ∈ Ts) (hinst : Cond.instantiable C N ∈ Ts) (hini : Cond.initialized C ∈ Ts) (hc : cl[ci]? = some (C, T, N)) (hfs : ∀ j, j < N → defaultValue (ty j) = vp_V fs j) (hcells : cells + 1 ≤ R.cells) (hslots : slots + N ≤ R.slots) (hdg : decode cc pc = .ok (.new index, 3))
    (kk : ∀ (q : Nat) (H1 : Heap), dw_W D cl tys A H0 (ws ++ [(q, .inr (ci, fs))]) s H1 locs → W p l e R s m args below meth c H1 locs (cells + 1) (slots + N) Q (F0 m (pc + 3) ls (.ref q :: rest))) : W p l e R s m args below meth c H locs cells slots Q (F0 m pc ls rest) :=
  va_new S.1 S.2.1 S.2.2.2.2 hin ty hty S.2.2.2.1 (S.2.2.2.2 _ hcl) (S.2.2.2.2 _ hinst) (S.2.2.2.2 _ hini) hw.1 hw.2.1 hw.2.2.1 hw.2.2.2 hA hc hfs hcells hslots hdg (fun q H1 hP hD hS => kk q H1 ⟨hw.1, hP, hD, hS⟩)
theorem dx_putF {T : u_T} {N ci : Nat} {fs : List Value} {v : Value} {ty : FieldType} (q0 k : Nat) (t0 : Nat → FieldType) (S : CallFix p m c cc nL s args Ts own) (hw : dw_W D cl tys A H0 ws s H locs) (hin : ∀ w ∈ u_ws C T N, w ∈ Ts) (hty : ∀ k, k < N → parseFieldDescriptor (T k).2.2.1 = some (t0 k)) (hnm : ∀ a, a < N → ∀ b, b < N → a ≠ b → (T a).2.1 ≠ (T b).2.1) (hi : meth.name = "<init>") (he : ws[q0]? = some (a, .inr (ci, fs))) (hc : cl[ci]? = some (C, T, N)) (hk : k < N) (hl : Cond.fieldLink own index C (T k).2.1 (T k).2.2.1 ∈ Ts) (hT : (T k).1 = C) (hfin : (T k).2.2.2 = true) (hdecl : (T k).1 = own) (hd : t0 k = ty) (hn : narrow ty v = v) (hfit : fits ty v = true) (hlen : k < fs.length) (hdg : decode cc pc = .ok (.putfield index, 3))
    (kk : ∀ (H1 : Heap) (locs1 : List Loc), dw_W D cl tys A H0 (ws.set q0 (a, .inr (ci, fs.set k v))) s H1 locs1 → W p l e R s m args below meth c H1 locs1 cells slots Q (F0 m (pc + 3) ls rest)) : W p l e R s m args below meth c H locs cells slots Q (F0 m pc ls (v :: .ref a :: rest)) :=
  va_putF (D := D) S.1 S.2.1 S.2.2.2.2 hin t0 hty hnm S.2.2.2.1 hw.1 hw.2.1 hw.2.2.1 hw.2.2.2 q0 he hc k hk (S.2.2.2.2 _ hl) (fun x hx => by rw [hT] at hx; exact hx) hfin hi hdecl (by rw [hty k hk, hd]) hn hfit hlen hdg (fun H1 locs1 hP hD hS => kk H1 locs1 ⟨hw.1, hP, hD, hS⟩)
theorem dx_get {T : u_T} {N ci : Nat} {fs : List Value} {v : Value} (q0 k : Nat) (S : CallFix p m c cc nL s args Ts own) (hw : dw_W D cl tys A H0 ws s H locs) (hin : ∀ w ∈ u_ws C T N, w ∈ Ts) (he : ws[q0]? = some (a, .inr (ci, fs))) (hc : cl[ci]? = some (C, T, N)) (hk : k < N) (hl : Cond.fieldLink own index C (T k).2.1 (T k).2.2.1 ∈ Ts) (hT : (T k).1 = C) (hv : fs[k]? = some v) (hdg : decode cc pc = .ok (.getfield index, 3))
    (kk : W p l e R s m args below meth c H locs cells slots Q (F0 m (pc + 3) ls (v :: rest))) : W p l e R s m args below meth c H locs cells slots Q (F0 m pc ls (.ref a :: rest)) :=
  va_get (D := D) S.1 S.2.1 S.2.2.2.2 hin S.2.2.2.1 hw.1 hw.2.1 q0 he hc k hk (S.2.2.2.2 _ hl) (fun x hx => by rw [hT] at hx; exact hx) hv hdg kk
theorem dx_iast {cA : ClassId} {n i : Nat} {f : Nat → Int32} {x : Int32} (q0 t0 : Nat) (S : CallFix p m c cc nL s args Ts own) (hw : dw_W D cl tys A H0 ws s H locs) (he : ws[q0]? = some (a, .inl (cA, n, .inl f))) (ht : tys[t0]? = some (cA, .int)) (hi : i < n) (hn : n < 2 ^ 31) (hdg : decode cc pc = .ok (.iastore, 1))
    (kk : ∀ (H1 : Heap) (locs1 : List Loc), dw_W D cl tys A H0 (ws.set q0 (a, .inl (cA, n, .inl (upd f i x)))) s H1 locs1 → W p l e R s m args below meth c H1 locs1 cells slots Q (F0 m (pc + 1) ls rest)) : W p l e R s m args below meth c H locs cells slots Q (F0 m pc ls (.int x :: .int (nI i) :: .ref a :: rest)) := by
  refine va_iast (f := f) S.1 S.2.1 hw.1 hw.2.1 hw.2.2.1 hw.2.2.2 q0 t0 he ht (vp_in_nI hi hn) hdg (fun H1 locs1 hP hD hS => ?_)
  rw [nI_clamp (by omega)] at hP hD
  exact kk H1 locs1 ⟨hw.1, hP, hD, hS⟩
theorem dx_aald {cA : ClassId} {n i : Nat} {r : Nat → Nat} (q0 t0 : Nat) (S : CallFix p m c cc nL s args Ts own) (hw : dw_W D cl tys A H0 ws s H locs) (he : ws[q0]? = some (a, .inl (cA, n, .inr (.inr (.inr (.inr (dn_ro n r))))))) (ht : tys[t0]? = some (cA, .array .int)) (hi : i < n) (hn : n < 2 ^ 31) (hdg : decode cc pc = .ok (.aaload, 1))
    (kk : W p l e R s m args below meth c H locs cells slots Q (F0 m (pc + 1) ls (.ref (r i) :: rest))) : W p l e R s m args below meth c H locs cells slots Q (F0 m pc ls (.int (nI i) :: .ref a :: rest)) := by
  have hc : (nI i).toNatClampNeg = i := nI_clamp (by omega)
  have hin := vp_in_nI hi hn
  exact W.aald (v := .ref (r i)) (ty := .array .int) S.1 S.2.1 (hw.2.1 q0 _ he) ((hw.1.2 t0 _ ht).1 n (fun j => va_rf (dn_ro n r j))) rfl (fun q => by cases q) (by show ¬ (nI i < 0 ∨ (arrV _ _ _).slots.size ≤ _); rw [arrV_size]; exact hin) (by show (arrV _ _ _).slots[_]? = _; rw [hc, arrV_read _ _ hi]; simp [dn_ro, hi, va_rf]) rfl rfl hdg kk
theorem dx_aft {post : va_W → Prop} {av : Array Value} {mc ms : Nat} {wc : va_W} (wr : va_W) (isC isR : List Nat) (hw : dw_W D classes (ds_tys g) A H0 ws s H locs) (hA : ∀ q, H0.size ≤ q → A q) (hC : isC.map (fun i => ws[i]?) = wc.map some) (hR : isR.map (fun i => ws[i]?) = wr.map some) (hn : va_nd isR = true) (hdis : ∀ i ∈ isR, i ∉ isC)
    (hr : va_Run p l e R s m args below meth c H locs cells slots mc ms (F0 m pc ls st0) rest (va_Qv post (fun w t => va_P D classes w t.heap ∧ va_D (va_A wc H.size) w) (va_A wc H.size) av) (va_A wc H.size))
    (kk : ∀ (w1 : va_W) (H1 : Heap) (locs1 : List Loc), post w1 → dw_W D classes (ds_tys g) A H0 (wr ++ w1) s H1 locs1 → W p l e R s m args below meth c H1 locs1 (cells + mc) (slots + ms) Q (F0 m (pc + 3) ls rest)) : W p l e R s m args below meth c H locs cells slots Q (F0 m pc ls st0) := by
  have hFc := va_free (wc := wc) hw.2.2.1 hw.2.2.2 hA isC hC
  refine va_callv hr hw.2.2.2 (fun q _ h => hFc q h) hFc (fun u t H1 locs1 ht hvm hp hB hz1 hk1 hS => ?_)
  obtain ⟨hP1, hD1⟩ := hB
  rw [ht] at hP1
  obtain ⟨hP, hD⟩ := va_join (wr := wr) (w1 := u) hw.2.1 hw.2.2.1 isC isR hC hR hn hdis hk1 hFc hP1 hD1
  exact kk u H1 locs1 hp ⟨hw.1, hP, hD, hS⟩
theorem dx_runS {y : MethodName} {bytes : ByteArray} {maxL fr mc ms lo n : Nat} {As : List Value} {wc : va_W} {post : va_W → Prop} {isC : List Nat} (hw : dw_W D classes (ds_tys g) A H0 ws s H locs) (S : CallFix p m c cc nL s args ds_T own) (hN : dw_N lw_tbl s) (hO : va_AOA .int s) (hM : dx_C l D g y bytes maxL fr mc ms lo As wc post) (cw : dw_Cw ds_T y bytes maxL none n) (hl : Cond.methodLink own index y ∈ ds_T) (hi : Cond.static y ∈ ds_T) (hnC : va_nd isC = true) (hC : isC.map (fun i => ws[i]?) = wc.map some) (hn : As.length = n) (hsz : ls.size = nL) (hst : st0 = As.reverse ++ rest) (hR : fr + 1 ≤ R.frames ∧ 8 + (maxL + 11) + lo ≤ R.locals) (hre : (rest.map fun v => v.category).sum ≤ 8) (hcs : cells + mc ≤ R.cells ∧ slots + ms ≤ R.slots) (hdg : decode cc pc = .ok (.invokestatic index, 3)) :
    va_Run p l e R s m args below meth c H locs cells slots mc ms (F0 m pc ls st0) rest (va_Qv post (fun w t => va_P D classes w t.heap ∧ va_D (va_A wc H.size) w) (va_A wc H.size) As.toArray) (va_A wc H.size) :=
  va_runS (As := As) (rest := rest) S (hM H.size) ⟨callB_of n S.2.2.2.2 (dw_good ds_good (dw_code cw.1)) rfl rfl rfl (S.2.2.2.2 _ cw.2.1) (S.2.2.2.2 _ hl) cw.2.2 hR, S.2.2.2.2 _ hi⟩ ⟨dx_blind, dx_pre hw hN hO hnC hC⟩ rfl hn hsz hst (lv_room hre) hdg hcs
theorem dx_runI {y : MethodName} {bytes : ByteArray} {maxL fr mc ms lo n b : Nat} {As : List Value} {wc : va_W} {post : va_W → Prop} {isC : List Nat} (hw : dw_W D classes (ds_tys g) A H0 ws s H locs) (S : CallFix p m c cc nL s args ds_T own) (hN : dw_N lw_tbl s) (hO : va_AOA .int s) (hM : dx_C l D g y bytes maxL fr mc ms lo (.ref b :: As) wc post) (cw : dw_Cw ds_T y bytes maxL none n) (hl : Cond.methodLink own index y ∈ ds_T) (hi : Cond.instanceMethod y ∈ ds_T) (hnm : y.name = "<init>") (hnC : va_nd isC = true) (hC : isC.map (fun i => ws[i]?) = wc.map some) (hn : As.length = n) (hsz : ls.size = nL) (hst : st0 = As.reverse ++ .ref b :: rest) (hR : fr + 1 ≤ R.frames ∧ 8 + (maxL + 11) + lo ≤ R.locals) (hre : (rest.map fun v => v.category).sum ≤ 8) (hcs : cells + mc ≤ R.cells ∧ slots + ms ≤ R.slots) (hdg : decode cc pc = .ok (.invokespecial index, 3)) :
    va_Run p l e R s m args below meth c H locs cells slots mc ms (F0 m pc ls st0) rest (va_Qv post (fun w t => va_P D classes w t.heap ∧ va_D (va_A wc H.size) w) (va_A wc H.size) (Value.ref b :: As).toArray) (va_A wc H.size) :=
  va_runI (As := As) (rest := rest) S (hM H.size) ⟨callB_of n S.2.2.2.2 (dw_good ds_good (dw_code cw.1)) rfl rfl rfl (S.2.2.2.2 _ cw.2.1) (S.2.2.2.2 _ hl) cw.2.2 hR, hnm, S.2.2.2.2 _ hi⟩ ⟨dx_blind, dx_pre hw hN hO hnC hC⟩ rfl hn hsz hst (lv_room hre) hdg hcs
theorem dx_runIN {y : MethodName} {bytes : ByteArray} {maxL fr mc ms lo n b : Nat} {As : List Value} {wc : va_W} {post : va_W → Prop} {isC : List Nat} (hw : dw_W D classes (ds_tys g) A H0 ws s H locs) (S : CallFix p m c cc nL s args ds_T own) (hN : dw_N lw_tbl s) (hO : va_AOA .int s) (hM : dx_C l D g y bytes maxL fr mc ms lo (.ref b :: As) wc post) (cw : dw_Cw ds_T y bytes maxL none n) (hl : Cond.methodLinkNest own index y host ∈ lw_tbl) (hi : Cond.instanceMethod y ∈ ds_T) (hnm : y.name = "<init>") (hnC : va_nd isC = true) (hC : isC.map (fun i => ws[i]?) = wc.map some) (hn : As.length = n) (hsz : ls.size = nL) (hst : st0 = As.reverse ++ .ref b :: rest) (hR : fr + 1 ≤ R.frames ∧ 8 + (maxL + 11) + lo ≤ R.locals) (hre : (rest.map fun v => v.category).sum ≤ 8) (hcs : cells + mc ≤ R.cells ∧ slots + ms ≤ R.slots) (hdg : decode cc pc = .ok (.invokespecial index, 3)) :
    va_Run p l e R s m args below meth c H locs cells slots mc ms (F0 m pc ls st0) rest (va_Qv post (fun w t => va_P D classes w t.heap ∧ va_D (va_A wc H.size) w) (va_A wc H.size) (Value.ref b :: As).toArray) (va_A wc H.size) :=
  va_runIN (As := As) (rest := rest) (host := host) S (hM H.size) ⟨va_cnB n S.2.2.2.2 (dw_good ds_good (dw_code cw.1)) rfl rfl rfl (hN _ hl rfl) (S.2.2.2.2 _ cw.2.1) cw.2.2 hR, hnm, S.2.2.2.2 _ hi⟩ ⟨dx_blind, dx_pre hw hN hO hnC hC⟩ rfl hn hsz hst (lv_room hre) hdg hcs
theorem dx_obj (S : CallFix p m c cc nL s args ds_T own) (hsz : ls.size = nL) (hl : Cond.methodLink own index ⟨"java/lang/Object", "<init>", "()V"⟩ ∈ ds_T) (hdg : decode cc pc = .ok (.invokespecial index, 3)) (hR : 1 ≤ R.frames ∧ 12 ≤ R.locals) (kk : W p l e R s m args below meth c H locs cells slots Q (F0 m (pc + 3) ls [])) : W p l e R s m args below meth c H locs cells slots Q (F0 m pc ls [.ref a]) :=
  W.objInit S.1 S.2.1 S.2.2.2.1 (S.2.2.2.2 _ hl) (S.2.2.2.2 _ wd_16) (S.2.2.2.2 _ wd_17) rfl (hsz.trans S.2.2.1.symm) rfl hdg hR.1 (show 2 * 0 + 0 + 12 ≤ R.locals from hR.2) (W.eq (g2 := F0 m (pc + 3) ls []) rfl kk)
theorem dx_pure {y : MethodName} {bytes : ByteArray} {maxL fr lo n : Nat} {ret : Option FieldType} {As : List Value} {ce : Nat → (Nat → Nat) → va_E} {a0 : Nat → Nat} {f0 : Nat → Nat → Nat} {post : Int32 → (Nat → Nat → Nat) → Prop} (hw : dw_W D classes (ds_tys g) A H0 ws s H locs) (hA : ∀ q, H0.size ≤ q → A q) (S : CallFix p m c cc nL s args ds_T own) (hN : dw_N lw_tbl s) (hM : dw_CI l lw_tbl D classes (ds_tys g) 0 ce a0 y (Cond.code y bytes maxL ret :: ds_T) fr lo As f0 post) (cw : dw_Cw ds_T y bytes maxL ret n) (hl : Cond.methodLink own index y ∈ ds_T) (hi : Cond.static y ∈ ds_T) (hn : As.length = n) (hsz : ls.size = nL) (hst : st0 = As.reverse ++ rest) (hR : fr + 1 ≤ R.frames ∧ 8 + (maxL + 11) + lo ≤ R.locals) (hre : (rest.map fun v => v.category).sum ≤ 8) (hcs : cells ≤ R.cells ∧ slots ≤ R.slots) (hdg : decode cc pc = .ok (.invokestatic index, 3))
    (kk : ∀ (r : Int32) (f1 : Nat → Nat → Nat) (H1 : Heap) (locs1 : List Loc), post r f1 → dw_W D classes (ds_tys g) A H0 ws s H1 locs1 → W p l e R s m args below meth c H1 locs1 cells slots Q (F0 m (pc + 3) ls (.int r :: rest))) : W p l e R s m args below meth c H locs cells slots Q (F0 m pc ls st0) := by
  have hno : ∀ q, va_A (dw_l 0 ce a0 f0) H.size q → H.size ≤ q := fun q h => by
    rcases h with ⟨k, e9, h⟩ | h
    · simp [dw_l] at h
    · exact h
  refine va_calli (va_runS (As := As) (rest := rest) (mc := 0) (ms := 0) S (hM H.size) ⟨callB_of n S.2.2.2.2 (dw_good ds_good (dw_code cw.1)) rfl rfl rfl (S.2.2.2.2 _ cw.2.1) (S.2.2.2.2 _ hl) cw.2.2 hR, S.2.2.2.2 _ hi⟩ ⟨dw_blind, fun U hU hW => ⟨rfl, by rw [hU], fun k q h => by simp [dw_l] at h, va_K.moved hW.alike hw.1, ⟨fun i j p q h => by simp [dw_l] at h, fun k q h => by simp [dw_l] at h⟩, hN.warm hW⟩⟩ rfl hn hsz hst (lv_room hre) hdg hcs) hw.2.2.2 (fun q hq h => absurd (hno q h) (by omega)) (fun q h => hA q (Nat.le_trans hw.2.2.2.1 (hno q h))) (fun r u t H1 locs1 ht hvm hp hB hz hk hS => ?_)
  exact kk r u H1 locs1 hp ⟨hw.1, hw.2.1.kept (fun k q hq => hk q.1 ((hw.2.1 k q hq).lt) (fun z => absurd (hno _ z) (by have := (hw.2.1 k q hq).lt; omega))), hw.2.2.1, hS⟩
end
/-- cell k of the first state -/
abbrev dx_e (g : Nat → ClassId) (b : Nat → Nat) (V k : Nat) : Nat × va_E := (b k, ds_ce g b k (ds_f0 V k))
