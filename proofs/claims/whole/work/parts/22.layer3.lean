/-! contracts over the world: arguments As and contents f give the answer r and contents f1 -/
def dw_nk : Cond → Bool
  | .fieldLinkNest .. => true
  | .methodLinkNest .. => true
  | _ => false
/-- the words of nest mates, which a method takes along with its start -/
def dw_N (Ns : List Cond) (U : State) : Prop := ∀ w ∈ Ns, dw_nk w = true → va_Nw w U
theorem dw_N.warm {Ns : List Cond} {s U : State} (hW : s.WarmedH U.vm) (h : dw_N Ns s) : dw_N Ns U := fun w hw hk => by
  cases w <;> first | exact va_Nw.warmF hW (h _ hw hk) | exact va_Nw.warmM hW (h _ hw hk) | exact absurd (show false = true from hk) (by decide)
theorem dw_N.same {Ns : List Cond} {u U : State} (e : u.vm = U.vm) (h : dw_N Ns u) : dw_N Ns U := fun w hw hk => by
  cases w <;> first | exact va_Nw.same rfl e (h _ hw hk) | exact absurd (show false = true from hk) (by decide)
def dw_B (Ns : List Cond) (D : va_G) (cl : List vw_C) (tys : List (ClassId × FieldType)) (ws : va_W) (sz : Nat) (U : State) : Prop := U.heap.size = sz ∧ va_P D cl ws U.heap ∧ va_K D cl tys U ∧ va_D (fun _ => True) ws ∧ dw_N Ns U
def dw_E (D : va_G) (cl : List vw_C) (tys : List (ClassId × FieldType)) (NC : Nat) (ce : Nat → (Nat → Nat) → va_E) (a : Nat → Nat) (u : Nat → Nat → Nat) (t : State) : Prop := va_P D cl (dw_l NC ce a u) t.heap ∧ va_K D cl tys t
def dw_CI (l : Launch) (Ns : List Cond) (D : va_G) (cl : List vw_C) (tys : List (ClassId × FieldType)) (NC : Nat) (ce : Nat → (Nat → Nat) → va_E) (a : Nat → Nat) (y : MethodName) (ws : List Cond) (fr lo : Nat) (As : List Value) (f : Nat → Nat → Nat) (post : Int32 → (Nat → Nat → Nat) → Prop) : Prop :=
  ∀ sz : Nat, Met l y ws { frames := fr, cells := 0, slots := 0, locals := lo } (va_Pc As (dw_B Ns D cl tys (dw_l NC ce a f) sz)) (va_Qi post (dw_E D cl tys NC ce a) (va_A (dw_l NC ce a f) sz)) 0 0 (va_A (dw_l NC ce a f) sz)
def dw_CL (l : Launch) (Ns : List Cond) (D : va_G) (cl : List vw_C) (tys : List (ClassId × FieldType)) (NC : Nat) (ce : Nat → (Nat → Nat) → va_E) (a : Nat → Nat) (y : MethodName) (ws : List Cond) (fr lo : Nat) (As : List Value) (f : Nat → Nat → Nat) (post : Int64 → (Nat → Nat → Nat) → Prop) : Prop :=
  ∀ sz : Nat, Met l y ws { frames := fr, cells := 0, slots := 0, locals := lo } (va_Pc As (dw_B Ns D cl tys (dw_l NC ce a f) sz)) (va_Ql post (dw_E D cl tys NC ce a) (va_A (dw_l NC ce a f) sz)) 0 0 (va_A (dw_l NC ce a f) sz)
def dw_CV (l : Launch) (Ns : List Cond) (D : va_G) (cl : List vw_C) (tys : List (ClassId × FieldType)) (NC : Nat) (ce : Nat → (Nat → Nat) → va_E) (a : Nat → Nat) (y : MethodName) (ws : List Cond) (fr lo : Nat) (As : List Value) (f : Nat → Nat → Nat) (post : (Nat → Nat → Nat) → Prop) : Prop :=
  ∀ sz : Nat, Met l y ws { frames := fr, cells := 0, slots := 0, locals := lo } (va_Pc As (dw_B Ns D cl tys (dw_l NC ce a f) sz)) (va_Qv post (dw_E D cl tys NC ce a) (va_A (dw_l NC ce a f) sz)) 0 0 (va_A (dw_l NC ce a f) sz)
theorem dw_blind {Ns : List Cond} {D : va_G} {cl : List vw_C} {tys : List (ClassId × FieldType)} {ws : va_W} {sz : Nat} {As : List Value} : FrameBlind (va_Pc As (dw_B Ns D cl tys ws sz)) := fun a U g mk q => by
  obtain ⟨q0, q1, qP, qK, qD, qN⟩ := q
  exact ⟨q0, q1, qP, va_K.moved (u := U) (U := U.calling g mk a) (Vm.Alike.refl U.vm) qK, qD, dw_N.same (u := U) (U := U.calling g mk a) rfl qN⟩
theorem dw_pre {Ns : List Cond} {D : va_G} {cl : List vw_C} {tys : List (ClassId × FieldType)} {ws : va_W} {As : List Value} {A : Nat → Prop} {H0 H : Heap} {s : State} {locs : List Loc} (hw : dw_W D cl tys A H0 ws s H locs) (hN : dw_N Ns s) : ∀ U : State, U.heap = H → s.WarmedH U.vm → va_Pc As (dw_B Ns D cl tys ws H.size) As.toArray U := fun U hU hW => ⟨rfl, by rw [hU], by rw [hU]; exact hw.2.1, va_K.moved hW.alike hw.1, hw.2.2.1.weaken (fun _ _ _ _ => trivial), hN.warm hW⟩
theorem dw_good {Ts ws : List Cond} (hG : GoodIn Ts Ts) (h : ∀ w ∈ ws, w ∈ Ts) : GoodIn Ts ws := fun w hw => ⟨h w hw, (hG w (h w hw)).2⟩
theorem dw_code {Ts : List Cond} {w : Cond} (h : w ∈ Ts) : ∀ v ∈ w :: Ts, v ∈ Ts := fun v hv => by
  rcases List.mem_cons.mp hv with rfl | hv
  · exact h
  · exact hv
section
variable {p : Program} {l : Launch} {e : Env} {R : Room} {s : State} {m : MethodId} {args : Array Value} {below : List Frame} {meth : Method} {c : Code} {H H0 : Heap} {locs : List Loc} {cells slots : Nat} {Q : State → Prop} {cc : ByteArray} {pc : Nat} {ls : Array Slot} {rest st0 : List Value}
  {D : va_G} {cl : List vw_C} {tys : List (ClassId × FieldType)} {A : Nat → Prop} {NC : Nat} {ce : Nat → (Nat → Nat) → va_E} {a : Nat → Nat} {f : Nat → Nat → Nat} {Ts Ns : List Cond} {own C host : String} {nL index maxL n fr lo ko ci : Nat} {y : MethodName} {bytes : ByteArray} {ret : Option FieldType} {As : List Value} {av : Array Value}
theorem dw_F (hw : dw_W D cl tys A H0 (dw_l NC ce a f) s H locs) (hA : ∀ q, H0.size ≤ q → A q) : ∀ q, va_A (dw_l NC ce a f) H.size q → A q := fun q h => by
  rcases h with ⟨k, e, h⟩ | h
  · exact hw.2.2.1.2 k _ h
  · exact hA q (Nat.le_trans hw.2.2.2.1 h)
theorem dw_afti {post : Int32 → (Nat → Nat → Nat) → Prop} (hw : dw_W D cl tys A H0 (dw_l NC ce a f) s H locs) (hA : ∀ q, H0.size ≤ q → A q) (hr : va_Run p l e R s m args below meth c H locs cells slots 0 0 (F0 m pc ls st0) rest (va_Qi post (dw_E D cl tys NC ce a) (va_A (dw_l NC ce a f) H.size) av) (va_A (dw_l NC ce a f) H.size))
    (kk : ∀ (r : Int32) (f1 : Nat → Nat → Nat) (H1 : Heap) (locs1 : List Loc), post r f1 → dw_W D cl tys A H0 (dw_l NC ce a f1) s H1 locs1 → W p l e R s m args below meth c H1 locs1 cells slots Q (F0 m (pc + 3) ls (.int r :: rest))) : W p l e R s m args below meth c H locs cells slots Q (F0 m pc ls st0) := by
  have hF := dw_F hw hA
  refine va_calli hr hw.2.2.2 (fun q _ h => hF q h) hF (fun r' u t H1 locs1 ht hvm hp hB hz hk hS => ?_)
  obtain ⟨hP1, hK1⟩ := hB
  rw [ht] at hP1
  exact kk r' u H1 locs1 hp ⟨hw.1, hP1, dw_D hw.2.2.1, hS⟩
theorem dw_aftl {post : Int64 → (Nat → Nat → Nat) → Prop} (hw : dw_W D cl tys A H0 (dw_l NC ce a f) s H locs) (hA : ∀ q, H0.size ≤ q → A q) (hr : va_Run p l e R s m args below meth c H locs cells slots 0 0 (F0 m pc ls st0) rest (va_Ql post (dw_E D cl tys NC ce a) (va_A (dw_l NC ce a f) H.size) av) (va_A (dw_l NC ce a f) H.size))
    (kk : ∀ (r : Int64) (f1 : Nat → Nat → Nat) (H1 : Heap) (locs1 : List Loc), post r f1 → dw_W D cl tys A H0 (dw_l NC ce a f1) s H1 locs1 → W p l e R s m args below meth c H1 locs1 cells slots Q (F0 m (pc + 3) ls (.long r :: rest))) : W p l e R s m args below meth c H locs cells slots Q (F0 m pc ls st0) := by
  have hF := dw_F hw hA
  refine va_calll hr hw.2.2.2 (fun q _ h => hF q h) hF (fun r' u t H1 locs1 ht hvm hp hB hz hk hS => ?_)
  obtain ⟨hP1, hK1⟩ := hB
  rw [ht] at hP1
  exact kk r' u H1 locs1 hp ⟨hw.1, hP1, dw_D hw.2.2.1, hS⟩
theorem dw_aftv {post : (Nat → Nat → Nat) → Prop} (hw : dw_W D cl tys A H0 (dw_l NC ce a f) s H locs) (hA : ∀ q, H0.size ≤ q → A q) (hr : va_Run p l e R s m args below meth c H locs cells slots 0 0 (F0 m pc ls st0) rest (va_Qv post (dw_E D cl tys NC ce a) (va_A (dw_l NC ce a f) H.size) av) (va_A (dw_l NC ce a f) H.size))
    (kk : ∀ (f1 : Nat → Nat → Nat) (H1 : Heap) (locs1 : List Loc), post f1 → dw_W D cl tys A H0 (dw_l NC ce a f1) s H1 locs1 → W p l e R s m args below meth c H1 locs1 cells slots Q (F0 m (pc + 3) ls rest)) : W p l e R s m args below meth c H locs cells slots Q (F0 m pc ls st0) := by
  have hF := dw_F hw hA
  refine va_callv hr hw.2.2.2 (fun q _ h => hF q h) hF (fun u t H1 locs1 ht hvm hp hB hz hk hS => ?_)
  obtain ⟨hP1, hK1⟩ := hB
  rw [ht] at hP1
  exact kk u H1 locs1 hp ⟨hw.1, hP1, dw_D hw.2.2.1, hS⟩
/-- an object cell -/
def dw_Co (cl : List vw_C) (NC : Nat) (ce : Nat → (Nat → Nat) → va_E) (k ci : Nat) (C : String) (T : u_T) (N : Nat) (fs : (Nat → Nat) → List Value) : Prop := k < NC ∧ cl[ci]? = some (C, T, N) ∧ ∀ g, ce k g = .inr (ci, fs g)
theorem dw_ob {T : u_T} {N : Nat} {fs : (Nat → Nat) → List Value} {k : Nat} (h : dw_Co cl NC ce k ci C T N fs) : (dw_l NC ce a f)[k]? = some (a k, .inr (ci, fs (f k))) := by rw [dw_get h.1, h.2.2]
/-- the words and the room of a call -/
abbrev dw_Cw (Ts : List Cond) (y : MethodName) (bytes : ByteArray) (maxL : Nat) (ret : Option FieldType) (n : Nat) : Prop := Cond.code y bytes maxL ret ∈ Ts ∧ Cond.initialized y.cls ∈ Ts ∧ (y.cls ≠ "java/lang/invoke/MethodHandle" ∧ y.cls ≠ "java/lang/invoke/VarHandle" ∧ (parseMethodDescriptor y.desc).map (fun d => d.parameters.length) = some n)
theorem dw_runV {Pc : Array Value → State → Prop} {Qc : Array Value → State → Outcome → State → Prop} {free : Addr → Prop} {T : u_T} {N : Nat} {fs : (Nat → Nat) → List Value} (hw : dw_W D cl tys A H0 (dw_l NC ce a f) s H locs) (S : CallFix p m c cc nL s args Ts own) (hG : GoodIn Ts Ts) (hM : Met l y (Cond.code y bytes maxL ret :: Ts) { frames := fr, cells := 0, slots := 0, locals := lo } Pc Qc 0 0 free) (cw : dw_Cw Ts y bytes maxL ret n) (hl : Cond.methodLink own index y ∈ Ts) (hi : Cond.instanceMethod y ∈ Ts) (hse : Cond.selects C y y ∈ Ts)
    (ho : dw_Co cl NC ce ko ci C T N fs) (hbl : FrameBlind Pc) (hpre : ∀ U : State, U.heap = H → s.WarmedH U.vm → Pc (Value.ref (a ko) :: As).toArray U) (hn : As.length = n) (hsz : ls.size = nL) (hst : st0 = As.reverse ++ .ref (a ko) :: rest) (hR : fr + 1 ≤ R.frames ∧ 8 + (maxL + 11) + lo ≤ R.locals) (hre : (rest.map fun v => v.category).sum ≤ 8) (hcs : cells ≤ R.cells ∧ slots ≤ R.slots) (hdg : decode cc pc = .ok (.invokevirtual index, 3)) :
    va_Run p l e R s m args below meth c H locs cells slots 0 0 (F0 m pc ls st0) rest (Qc (Value.ref (a ko) :: As).toArray) free :=
  va_runV (As := As) (rest := rest) (b := a ko) (C := C) S hM ⟨callB_of n S.2.2.2.2 (dw_good hG (dw_code cw.1)) rfl rfl rfl (S.2.2.2.2 _ cw.2.1) (S.2.2.2.2 _ hl) cw.2.2 hR, S.2.2.2.2 _ hi, S.2.2.2.2 _ hse⟩ ⟨hbl, va_recv hw.1 hw.2.1 ho.2.1 (dw_ob ho), hpre⟩ rfl hn hsz hst (lv_room hre) hdg hcs
theorem dw_runVN {Pc : Array Value → State → Prop} {Qc : Array Value → State → Outcome → State → Prop} {free : Addr → Prop} {T : u_T} {N : Nat} {fs : (Nat → Nat) → List Value} (hw : dw_W D cl tys A H0 (dw_l NC ce a f) s H locs) (S : CallFix p m c cc nL s args Ts own) (hG : GoodIn Ts Ts) (hM : Met l y (Cond.code y bytes maxL ret :: Ts) { frames := fr, cells := 0, slots := 0, locals := lo } Pc Qc 0 0 free) (cw : dw_Cw Ts y bytes maxL ret n) (hN : dw_N Ns s) (hl : Cond.methodLinkNest own index y host ∈ Ns) (hi : Cond.instanceMethod y ∈ Ts) (hse : Cond.selects C y y ∈ Ts)
    (ho : dw_Co cl NC ce ko ci C T N fs) (hbl : FrameBlind Pc) (hpre : ∀ U : State, U.heap = H → s.WarmedH U.vm → Pc (Value.ref (a ko) :: As).toArray U) (hn : As.length = n) (hsz : ls.size = nL) (hst : st0 = As.reverse ++ .ref (a ko) :: rest) (hR : fr + 1 ≤ R.frames ∧ 8 + (maxL + 11) + lo ≤ R.locals) (hre : (rest.map fun v => v.category).sum ≤ 8) (hcs : cells ≤ R.cells ∧ slots ≤ R.slots) (hdg : decode cc pc = .ok (.invokevirtual index, 3)) :
    va_Run p l e R s m args below meth c H locs cells slots 0 0 (F0 m pc ls st0) rest (Qc (Value.ref (a ko) :: As).toArray) free :=
  va_runVN (As := As) (rest := rest) (b := a ko) (C := C) (host := host) S hM ⟨va_cnB n S.2.2.2.2 (dw_good hG (dw_code cw.1)) rfl rfl rfl (hN _ hl rfl) (S.2.2.2.2 _ cw.2.1) cw.2.2 hR, S.2.2.2.2 _ hi, S.2.2.2.2 _ hse⟩ ⟨hbl, va_recv hw.1 hw.2.1 ho.2.1 (dw_ob ho), hpre⟩ rfl hn hsz hst (lv_room hre) hdg hcs
theorem dw_runS {Pc : Array Value → State → Prop} {Qc : Array Value → State → Outcome → State → Prop} {free : Addr → Prop} (S : CallFix p m c cc nL s args Ts own) (hG : GoodIn Ts Ts) (hM : Met l y (Cond.code y bytes maxL ret :: Ts) { frames := fr, cells := 0, slots := 0, locals := lo } Pc Qc 0 0 free) (cw : dw_Cw Ts y bytes maxL ret n) (hl : Cond.methodLink own index y ∈ Ts) (hi : Cond.static y ∈ Ts)
    (hbl : FrameBlind Pc) (hpre : ∀ U : State, U.heap = H → s.WarmedH U.vm → Pc As.toArray U) (hn : As.length = n) (hsz : ls.size = nL) (hst : st0 = As.reverse ++ rest) (hR : fr + 1 ≤ R.frames ∧ 8 + (maxL + 11) + lo ≤ R.locals) (hre : (rest.map fun v => v.category).sum ≤ 8) (hcs : cells ≤ R.cells ∧ slots ≤ R.slots) (hdg : decode cc pc = .ok (.invokestatic index, 3)) :
    va_Run p l e R s m args below meth c H locs cells slots 0 0 (F0 m pc ls st0) rest (Qc As.toArray) free :=
  va_runS (As := As) (rest := rest) S hM ⟨callB_of n S.2.2.2.2 (dw_good hG (dw_code cw.1)) rfl rfl rfl (S.2.2.2.2 _ cw.2.1) (S.2.2.2.2 _ hl) cw.2.2 hR, S.2.2.2.2 _ hi⟩ ⟨hbl, hpre⟩ rfl hn hsz hst (lv_room hre) hdg hcs
theorem dw_runSN {Pc : Array Value → State → Prop} {Qc : Array Value → State → Outcome → State → Prop} {free : Addr → Prop} (S : CallFix p m c cc nL s args Ts own) (hG : GoodIn Ts Ts) (hM : Met l y (Cond.code y bytes maxL ret :: Ts) { frames := fr, cells := 0, slots := 0, locals := lo } Pc Qc 0 0 free) (cw : dw_Cw Ts y bytes maxL ret n) (hN : dw_N Ns s) (hl : Cond.methodLinkNest own index y host ∈ Ns) (hi : Cond.static y ∈ Ts)
    (hbl : FrameBlind Pc) (hpre : ∀ U : State, U.heap = H → s.WarmedH U.vm → Pc As.toArray U) (hn : As.length = n) (hsz : ls.size = nL) (hst : st0 = As.reverse ++ rest) (hR : fr + 1 ≤ R.frames ∧ 8 + (maxL + 11) + lo ≤ R.locals) (hre : (rest.map fun v => v.category).sum ≤ 8) (hcs : cells ≤ R.cells ∧ slots ≤ R.slots) (hdg : decode cc pc = .ok (.invokestatic index, 3)) :
    va_Run p l e R s m args below meth c H locs cells slots 0 0 (F0 m pc ls st0) rest (Qc As.toArray) free :=
  va_runSN (As := As) (rest := rest) (host := host) S hM ⟨va_cnB n S.2.2.2.2 (dw_good hG (dw_code cw.1)) rfl rfl rfl (hN _ hl rfl) (S.2.2.2.2 _ cw.2.1) cw.2.2 hR, S.2.2.2.2 _ hi, trivial⟩ ⟨hbl, hpre⟩ rfl hn hsz hst (lv_room hre) hdg hcs
theorem dw_getf {T : u_T} {N fi k : Nat} {fs : (Nat → Nat) → List Value} {v : Value} (S : CallFix p m c cc nL s args Ts own) (hw : dw_W D cl tys A H0 (dw_l NC ce a f) s H locs) (hin : ∀ w ∈ u_ws C T N, w ∈ Ts) (ho : dw_Co cl NC ce k ci C T N fs) (hfi : fi < N) (hT : (T fi).1 = C) (hl : Cond.fieldLink own index C (T fi).2.1 (T fi).2.2.1 ∈ Ts) (hv : (fs (f k))[fi]? = some v) (hdg : decode cc pc = .ok (.getfield index, 3))
    (kk : W p l e R s m args below meth c H locs cells slots Q (F0 m (pc + 3) ls (v :: rest))) : W p l e R s m args below meth c H locs cells slots Q (F0 m pc ls (.ref (a k) :: rest)) :=
  va_get (D := D) S.1 S.2.1 S.2.2.2.2 hin S.2.2.2.1 hw.1 hw.2.1 k (dw_ob ho) ho.2.1 fi hfi (S.2.2.2.2 _ hl) (fun x hx => by rw [hT] at hx; exact hx) hv hdg kk
theorem dw_getN {T : u_T} {N fi k : Nat} {fs : (Nat → Nat) → List Value} {v : Value} (S : CallFix p m c cc nL s args Ts own) (hw : dw_W D cl tys A H0 (dw_l NC ce a f) s H locs) (hin : ∀ w ∈ u_ws C T N, w ∈ Ts) (ho : dw_Co cl NC ce k ci C T N fs) (hfi : fi < N) (hT : (T fi).1 = C) (hN : dw_N Ns s) (hl : Cond.fieldLinkNest own index C (T fi).2.1 (T fi).2.2.1 host ∈ Ns) (hv : (fs (f k))[fi]? = some v) (hdg : decode cc pc = .ok (.getfield index, 3))
    (kk : W p l e R s m args below meth c H locs cells slots Q (F0 m (pc + 3) ls (v :: rest))) : W p l e R s m args below meth c H locs cells slots Q (F0 m pc ls (.ref (a k) :: rest)) :=
  va_getN (D := D) S.1 S.2.1 S.2.2.2.2 hin S.2.2.2.1 hw.1 hw.2.1 k (dw_ob ho) ho.2.1 fi hfi (va_Nw.use rfl (hN _ hl rfl)) (fun x hx => by rw [hT] at hx; exact hx) hv hdg kk
theorem dw_putf {T : u_T} {N fi k x : Nat} {fs : (Nat → Nat) → List Value} (S : CallFix p m c cc nL s args Ts own) (hw : dw_W D cl tys A H0 (dw_l NC ce a f) s H locs) (hin : ∀ w ∈ u_ws C T N, w ∈ Ts) (ty0 : Nat → FieldType) (hty : ∀ k, k < N → parseFieldDescriptor (T k).2.2.1 = some (ty0 k)) (hnm : ∀ a, a < N → ∀ b, b < N → a ≠ b → (T a).2.1 ≠ (T b).2.1) (ho : dw_Co cl NC ce k ci C T N fs) (hfi : fi < N) (hT : (T fi).1 = C) (hl : Cond.fieldLink own index C (T fi).2.1 (T fi).2.2.1 ∈ Ts) (hfin : (T fi).2.2.2 = false) (hd : parseFieldDescriptor (T fi).2.2.1 = some .int) (hlen : fi < (fs (f k)).length) (hset : (fs (f k)).set fi (.int (nI x)) = fs (dw_up (f k) fi x)) (hdg : decode cc pc = .ok (.putfield index, 3))
    (kk : ∀ (f1 : Nat → Nat → Nat) (H1 : Heap) (locs1 : List Loc), f1 = dw_w f k fi x → dw_W D cl tys A H0 (dw_l NC ce a f1) s H1 locs1 → W p l e R s m args below meth c H1 locs1 cells slots Q (F0 m (pc + 3) ls rest)) : W p l e R s m args below meth c H locs cells slots Q (F0 m pc ls (.int (nI x) :: .ref (a k) :: rest)) := by
  refine va_put (D := D) (v := .int (nI x)) (ty := .int) S.1 S.2.1 S.2.2.2.2 hin ty0 hty hnm S.2.2.2.1 hw.1 hw.2.1 hw.2.2.1 hw.2.2.2 k (dw_ob ho) ho.2.1 fi hfi (S.2.2.2.2 _ hl) (fun x hx => by rw [hT] at hx; exact hx) hfin hd rfl rfl hlen hdg (fun H1 locs1 hP hD hS => ?_)
  rw [hset, ← ho.2.2, dw_set ho.1] at hP hD
  exact kk _ H1 locs1 rfl ⟨hw.1, hP, hD, hS⟩
theorem dw_putN {T : u_T} {N fi k x : Nat} {fs : (Nat → Nat) → List Value} (S : CallFix p m c cc nL s args Ts own) (hw : dw_W D cl tys A H0 (dw_l NC ce a f) s H locs) (hin : ∀ w ∈ u_ws C T N, w ∈ Ts) (ty0 : Nat → FieldType) (hty : ∀ k, k < N → parseFieldDescriptor (T k).2.2.1 = some (ty0 k)) (hnm : ∀ a, a < N → ∀ b, b < N → a ≠ b → (T a).2.1 ≠ (T b).2.1) (ho : dw_Co cl NC ce k ci C T N fs) (hfi : fi < N) (hT : (T fi).1 = C) (hN : dw_N Ns s) (hl : Cond.fieldLinkNest own index C (T fi).2.1 (T fi).2.2.1 host ∈ Ns) (hfin : (T fi).2.2.2 = false) (hd : parseFieldDescriptor (T fi).2.2.1 = some .int) (hlen : fi < (fs (f k)).length) (hset : (fs (f k)).set fi (.int (nI x)) = fs (dw_up (f k) fi x)) (hdg : decode cc pc = .ok (.putfield index, 3))
    (kk : ∀ (f1 : Nat → Nat → Nat) (H1 : Heap) (locs1 : List Loc), f1 = dw_w f k fi x → dw_W D cl tys A H0 (dw_l NC ce a f1) s H1 locs1 → W p l e R s m args below meth c H1 locs1 cells slots Q (F0 m (pc + 3) ls rest)) : W p l e R s m args below meth c H locs cells slots Q (F0 m pc ls (.int (nI x) :: .ref (a k) :: rest)) := by
  refine va_putN (D := D) (v := .int (nI x)) (ty := .int) S.1 S.2.1 S.2.2.2.2 hin ty0 hty hnm S.2.2.2.1 hw.1 hw.2.1 hw.2.2.1 hw.2.2.2 k (dw_ob ho) ho.2.1 fi hfi (va_Nw.use rfl (hN _ hl rfl)) (fun x hx => by rw [hT] at hx; exact hx) hfin hd rfl rfl hlen hdg (fun H1 locs1 hP hD hS => ?_)
  rw [hset, ← ho.2.2, dw_set ho.1] at hP hD
  exact kk _ H1 locs1 rfl ⟨hw.1, hP, hD, hS⟩
/-- System.arraycopy of n ints from the front of one row to the front of another -/
theorem dw_copy {k k2 n1 n2 cnt : Nat} (S : CallFix p m c cc nL s args Ts own) (hw : dw_W D cl tys A H0 (dw_l NC ce a f) s H locs) (hl : Cond.methodLink own index arraycopyName ∈ Ts) (hnat : Cond.native arraycopyName ∈ Ts) (hst : Cond.static arraycopyName ∈ Ts) (hini : Cond.initialized "java/lang/System" ∈ Ts) (hk : dw_Ci tys NC ce .int k n1) (hk2 : dw_Ci tys NC ce .int k2 n2) (h1 : cnt ≤ n1) (h2 : cnt ≤ n2) (hsz : ls.size = nL) (hfr : 1 ≤ R.frames) (hlo : (rest.map fun v => v.category).sum + (nativeFrameWords "java/lang/System" "arraycopy" 5 + 11) ≤ R.locals) (hdg : decode cc pc = .ok (.invokestatic index, 3))
    (kk : ∀ (f1 : Nat → Nat → Nat) (H1 : Heap) (locs1 : List Loc), f1 = dw_su f k2 (fun j => if j < cnt then f k j else f k2 j) → dw_W D cl tys A H0 (dw_l NC ce a f1) s H1 locs1 → W p l e R s m args below meth c H1 locs1 cells slots Q (F0 m (pc + 3) ls rest)) : W p l e R s m args below meth c H locs cells slots Q (F0 m pc ls (.int (nI cnt) :: .int (nI 0) :: .ref (a k2) :: .int (nI 0) :: .ref (a k) :: rest)) := by
  obtain ⟨a1, a2, cA, t0, a3, a4⟩ := hk
  obtain ⟨b1, b2, cB, t1, b3, b4⟩ := hk2
  have hc : (nI cnt).toNatClampNeg = cnt := nI_clamp (by omega)
  have h0 : (nI 0).toNatClampNeg = 0 := rfl
  refine va_copyi (f := fun j => nI (f k j)) (g := fun j => nI (f k2 j)) S.1 S.2.1 (S.2.2.1.trans hsz.symm) S.2.2.2.1 (S.2.2.2.2 _ hl) (S.2.2.2.2 _ hnat) (S.2.2.2.2 _ hst) (S.2.2.2.2 _ hini) hw.1 hw.2.1 hw.2.2.1 hw.2.2.2 k k2 t0 t1 (by rw [dw_get a1, a4]) (by rw [dw_get b1, b4]) a3 b3 rfl (by decide) (by decide) (nI_pos (by omega)) (by rw [hc, h0]; omega) (by rw [hc, h0]; omega) (fun _ _ => rfl) hfr hlo hdg (fun H1 locs1 hP hD hS => ?_)
  have hq : (va_cpy (fun j => nI (f k j)) (fun j => nI (f k2 j)) (nI 0).toNatClampNeg (nI 0).toNatClampNeg (nI cnt).toNatClampNeg) = fun j => nI ((fun j => if j < cnt then f k j else f k2 j) j) := by
    funext j
    rw [hc, h0]
    unfold va_cpy
    by_cases h : j < cnt
    · rw [if_pos ⟨Nat.zero_le _, by omega⟩]
      simp [h]
    · rw [if_neg (by omega)]
      simp [h]
  rw [hq, ← b4, dw_set b1] at hP hD
  exact kk _ H1 locs1 rfl ⟨hw.1, hP, hD, hS⟩
end
/-- a contract out of a walk of its body -/
theorem dw_ofI {l : Launch} {Ns : List Cond} {D : va_G} {cl : List vw_C} {tys : List (ClassId × FieldType)} {NC : Nat} {ce : Nat → (Nat → Nat) → va_E} {a : Nat → Nat} {y : MethodName} {bytes : ByteArray} {maxL : Nat} {ty : FieldType} {Ts : List Cond} {fr lo : Nat} {As : List Value} {f : Nat → Nat → Nat} {post : Int32 → (Nat → Nat → Nat) → Prop} (hy : plainName y.cls = true) (hnar : ∀ v u, post v u → narrow ty (.int v) = .int v) (hlen : (lg_sl As).length ≤ maxL)
    (body : ∀ (p : Program) (e : Env) (s : State) (m : MethodId) (args : Array Value) (below : List Frame) (meth : Method) (c : Code) (ls : Array Slot) (A : Nat → Prop) (Q : State → Prop) (R : Room) (H : Heap) (locs : List Loc), (fr ≤ R.frames ∧ lo ≤ R.locals) → (∀ q : Nat, s.heap.size ≤ q → A q) → CallFix p m c bytes maxL s args Ts y.cls → dw_N Ns s → dw_W D cl tys A s.heap (dw_l NC ce a f) s H locs → lv_has ls maxL (lv_args 0 As) →
      (∀ (H : Heap) (locs : List Loc) (pc : Nat) (ls : Array Slot) (f2 : Nat → Nat → Nat) (v : Int32), dw_W D cl tys A s.heap (dw_l NC ce a f2) s H locs → post v f2 → decode bytes pc = .ok (.ireturn, 1) → W p l e R s m args below meth c H locs 0 0 Q (F0 m pc ls [.int v])) →
      W p l e R s m args below meth c H locs 0 0 Q (F0 m 0 ls [])) : dw_CI l Ns D cl tys NC ce a y (Cond.code y bytes maxL (some ty) :: Ts) fr lo As f post := by
  intro sz
  refine Met.ofW (cc := bytes) (maxL := maxL) (ret := some ty) hy rfl ?_
  intro p e s m args below meth c s₁ B hml hv
  obtain ⟨rfl, hsz, hP, hK, hD0, hN⟩ := hv
  have hts := atoms_spec (ws := Cond.code y bytes maxL (some ty) :: Ts) B.pre
  have hown : s.vm.findClass y.cls = some m.cls := findClass_of_methodNamed B.named
  have hlocks := B.notSynchronized
  have hr := B.returns
  have hx := B.exec
  have hb := B.bytes
  subst hsz
  have hD := hD0.self (sz := s.heap.size)
  generalize hAe : va_A (dw_l NC ce a f) s.heap.size = A at hD ⊢
  have hA : ∀ q : Nat, s.heap.size ≤ q → A q := fun q h => by rw [← hAe]; exact Or.inr h
  have hl := lv_entry As (n := maxL) hlen
  rw [lg_entry_eq]
  generalize (lg_sl As ++ List.replicate (maxL - (lg_sl As).length) Slot.unset).toArray = ls at hl ⊢
  refine body p e s m _ below meth c ls A _ _ s.heap [] ⟨Nat.le_refl _, Nat.le_refl _⟩ hA ⟨hx, hb, hml, hown, fun w hw => hts w (List.mem_cons_of_mem _ hw)⟩ hN ⟨hK, hP, hD, va_S.rf⟩ hl ?_
  intro H locs pc ls f2 v hw hv hdg
  exact W.zret hx hb hr (hnar v f2 hv) (fun t ht hW => ⟨⟨v, f2, rfl, hv, by rw [ht]; exact hw.2.1, va_K.moved hW.alike hw.1⟩, hw.2.2.2.F ht⟩) hw.2.2.2.2.2 hdg hlocks
theorem dw_ofL {l : Launch} {Ns : List Cond} {D : va_G} {cl : List vw_C} {tys : List (ClassId × FieldType)} {NC : Nat} {ce : Nat → (Nat → Nat) → va_E} {a : Nat → Nat} {y : MethodName} {bytes : ByteArray} {maxL : Nat} {Ts : List Cond} {fr lo : Nat} {As : List Value} {f : Nat → Nat → Nat} {post : Int64 → (Nat → Nat → Nat) → Prop} (hy : plainName y.cls = true) (hlen : (lg_sl As).length ≤ maxL)
    (body : ∀ (p : Program) (e : Env) (s : State) (m : MethodId) (args : Array Value) (below : List Frame) (meth : Method) (c : Code) (ls : Array Slot) (A : Nat → Prop) (Q : State → Prop) (R : Room) (H : Heap) (locs : List Loc), (fr ≤ R.frames ∧ lo ≤ R.locals) → (∀ q : Nat, s.heap.size ≤ q → A q) → CallFix p m c bytes maxL s args Ts y.cls → dw_N Ns s → dw_W D cl tys A s.heap (dw_l NC ce a f) s H locs → lv_has ls maxL (lv_args 0 As) →
      (∀ (H : Heap) (locs : List Loc) (pc : Nat) (ls : Array Slot) (f2 : Nat → Nat → Nat) (v : Int64), dw_W D cl tys A s.heap (dw_l NC ce a f2) s H locs → post v f2 → decode bytes pc = .ok (.lreturn, 1) → W p l e R s m args below meth c H locs 0 0 Q (F0 m pc ls [.long v])) →
      W p l e R s m args below meth c H locs 0 0 Q (F0 m 0 ls [])) : dw_CL l Ns D cl tys NC ce a y (Cond.code y bytes maxL (some .long) :: Ts) fr lo As f post := by
  intro sz
  refine Met.ofW (cc := bytes) (maxL := maxL) (ret := some .long) hy rfl ?_
  intro p e s m args below meth c s₁ B hml hv
  obtain ⟨rfl, hsz, hP, hK, hD0, hN⟩ := hv
  have hts := atoms_spec (ws := Cond.code y bytes maxL (some .long) :: Ts) B.pre
  have hown : s.vm.findClass y.cls = some m.cls := findClass_of_methodNamed B.named
  have hlocks := B.notSynchronized
  have hr := B.returns
  have hx := B.exec
  have hb := B.bytes
  subst hsz
  have hD := hD0.self (sz := s.heap.size)
  generalize hAe : va_A (dw_l NC ce a f) s.heap.size = A at hD ⊢
  have hA : ∀ q : Nat, s.heap.size ≤ q → A q := fun q h => by rw [← hAe]; exact Or.inr h
  have hl := lv_entry As (n := maxL) hlen
  rw [lg_entry_eq]
  generalize (lg_sl As ++ List.replicate (maxL - (lg_sl As).length) Slot.unset).toArray = ls at hl ⊢
  refine body p e s m _ below meth c ls A _ _ s.heap [] ⟨Nat.le_refl _, Nat.le_refl _⟩ hA ⟨hx, hb, hml, hown, fun w hw => hts w (List.mem_cons_of_mem _ hw)⟩ hN ⟨hK, hP, hD, va_S.rf⟩ hl ?_
  intro H locs pc ls f2 v hw hv hdg
  exact W.lret hx hb hr (fun t ht hW => ⟨⟨v, f2, rfl, hv, by rw [ht]; exact hw.2.1, va_K.moved hW.alike hw.1⟩, hw.2.2.2.F ht⟩) hw.2.2.2.2.2 hdg hlocks
theorem dw_ofV {l : Launch} {Ns : List Cond} {D : va_G} {cl : List vw_C} {tys : List (ClassId × FieldType)} {NC : Nat} {ce : Nat → (Nat → Nat) → va_E} {a : Nat → Nat} {y : MethodName} {bytes : ByteArray} {maxL : Nat} {Ts : List Cond} {fr lo : Nat} {As : List Value} {f : Nat → Nat → Nat} {post : (Nat → Nat → Nat) → Prop} (hy : plainName y.cls = true) (hlen : (lg_sl As).length ≤ maxL)
    (body : ∀ (p : Program) (e : Env) (s : State) (m : MethodId) (args : Array Value) (below : List Frame) (meth : Method) (c : Code) (ls : Array Slot) (A : Nat → Prop) (Q : State → Prop) (R : Room) (H : Heap) (locs : List Loc), (fr ≤ R.frames ∧ lo ≤ R.locals) → (∀ q : Nat, s.heap.size ≤ q → A q) → CallFix p m c bytes maxL s args Ts y.cls → dw_N Ns s → dw_W D cl tys A s.heap (dw_l NC ce a f) s H locs → lv_has ls maxL (lv_args 0 As) →
      (∀ (H : Heap) (locs : List Loc) (pc : Nat) (ls : Array Slot) (f2 : Nat → Nat → Nat), dw_W D cl tys A s.heap (dw_l NC ce a f2) s H locs → post f2 → decode bytes pc = .ok (.return_, 1) → W p l e R s m args below meth c H locs 0 0 Q (F0 m pc ls [])) →
      W p l e R s m args below meth c H locs 0 0 Q (F0 m 0 ls [])) : dw_CV l Ns D cl tys NC ce a y (Cond.code y bytes maxL none :: Ts) fr lo As f post := by
  intro sz
  refine Met.ofW (cc := bytes) (maxL := maxL) (ret := none) hy rfl ?_
  intro p e s m args below meth c s₁ B hml hv
  obtain ⟨rfl, hsz, hP, hK, hD0, hN⟩ := hv
  have hts := atoms_spec (ws := Cond.code y bytes maxL none :: Ts) B.pre
  have hown : s.vm.findClass y.cls = some m.cls := findClass_of_methodNamed B.named
  have hlocks := B.notSynchronized
  have hr := B.returns
  have hx := B.exec
  have hb := B.bytes
  subst hsz
  have hD := hD0.self (sz := s.heap.size)
  generalize hAe : va_A (dw_l NC ce a f) s.heap.size = A at hD ⊢
  have hA : ∀ q : Nat, s.heap.size ≤ q → A q := fun q h => by rw [← hAe]; exact Or.inr h
  have hl := lv_entry As (n := maxL) hlen
  rw [lg_entry_eq]
  generalize (lg_sl As ++ List.replicate (maxL - (lg_sl As).length) Slot.unset).toArray = ls at hl ⊢
  refine body p e s m _ below meth c ls A _ _ s.heap [] ⟨Nat.le_refl _, Nat.le_refl _⟩ hA ⟨hx, hb, hml, hown, fun w hw => hts w (List.mem_cons_of_mem _ hw)⟩ hN ⟨hK, hP, hD, va_S.rf⟩ hl ?_
  intro H locs pc ls f2 hw hv hdg
  exact W.vret hx hb hr (fun t ht hW => ⟨⟨f2, rfl, hv, by rw [ht]; exact hw.2.1, va_K.moved hW.alike hw.1⟩, hw.2.2.2.F ht⟩) hw.2.2.2.2.2 hdg hlocks
