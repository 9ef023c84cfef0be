/-! Arrays.fill, and rows for the ends of the constructors -/
theorem dx_z {x : Nat} (h : x = 0) : (0 : Int32) = nI x := by
  rw [h]
  rfl
theorem dx_zl {x : Nat} (h : x = 0) : (0 : Int64) = lN x := by
  rw [h]
  rfl
theorem dx_way {V i : Nat} {u : Nat → Int32} (hi : i < 10) (hu : ∀ j, j < 10 → u j = nI 60) : ∀ j, j < 10 → upd u i (nI 0) j = nI (ds_f0 V (28 + i) j) := by
  intro j hj
  rw [f0_28 V hi]
  by_cases q : j = i
  · subst q
    rw [pk_us, if_pos rfl]
  · rw [pk_un q, if_neg q]
    exact hu j hj
def ds_nv (x : Int32) : Nat := if nI 1 ≤ x ∧ x ≤ nI 3 then x.toNatClampNeg else 1
theorem ds_nv_out {x : Int32} (h : ¬ (nI 1 ≤ x ∧ x ≤ nI 3)) : ds_nv x = 1 := if_neg h
theorem ds_nv_4 {x : Int32} (h : nI 1 ≤ x ∧ x ≤ nI 3) : ds_in x 4 ∧ 1 ≤ x.toInt := by
  have h1 := h.1
  have h2 := h.2
  rw [Int32.le_iff_toInt_le, nI_toInt (by decide)] at h1 h2
  exact ⟨⟨by omega, by omega⟩, by omega⟩
theorem ds_nv_in {x : Int32} (h : nI 1 ≤ x ∧ x ≤ nI 3) : x = nI (ds_nv x) := by
  unfold ds_nv
  rw [if_pos h]
  exact (ds_in_nI (ds_nv_4 h).1).1
theorem ds_nv_ok (x : Int32) : 1 ≤ ds_nv x ∧ ds_nv x ≤ 3 := by
  by_cases h : nI 1 ≤ x ∧ x ≤ nI 3
  · have q := ds_nv_4 h
    have e := ds_nv_in h
    have z := (ds_in_nI q.1).2
    have w : ds_nv x = x.toNatClampNeg := if_pos h
    rw [w] at e ⊢
    rw [e, nI_toInt (by omega)] at q
    omega
  · rw [ds_nv_out h]
    omega
set_option maxHeartbeats 4000000 in
theorem c_fill (l : Launch) (D : va_G) (g : Nat → ClassId) (q n : Nat) (f : Nat → Int32) (x : Int32) (hn : n < 2 ^ 31) : dx_C l D g y_Ar_fill b_Ar_fill 4 0 0 0 0 [.ref q, .int x] [(q, .inl (g 0, n, .inl f))] (fun w => ∃ u : Nat → Int32, w = [(q, .inl (g 0, n, .inl u))] ∧ ∀ j, j < n → u j = x) := by
  refine dx_of (by decide) (Nat.le_of_ble_eq_true rfl) ?_
  intro p e s m args below meth c ls A Q R H locs hR hA S hN hO hnm hw hl hret
  have hl : lv_has ls 4 [(0, .ref q), (1, .int x)] := hl
  have S : CallFix p m c b_Ar_fill 4 s args ds_T "java/util/Arrays" := S
  have loop : ∀ (k i : Nat) (u : Nat → Int32) (H : Heap) (locs : List Loc) (ls : Array Slot), n - i < k → i ≤ n → (∀ j, j < i → u j = x) → dw_W D classes (ds_tys g) A s.heap [(q, .inl (g 0, n, .inl u))] s H locs → lv_has ls 4 [(0, .ref q), (1, .int x), (2, .int (nI i)), (3, .int (nI n))] → W p l e R s m args below meth c H locs 0 0 Q (F0 m 5 ls []) := by
    intro k
    induction k with
    | zero => intro i u H locs ls h; omega
    | succ k ih =>
      intro i u H locs ls hk hi hu hw hl
      refine lv_iload_n S.1 S.2.1 d_Ar_fill_5 rfl (lv_at hl 2 rfl) ?_
      refine lv_iload_n S.1 S.2.1 d_Ar_fill_6 rfl (lv_at hl 3 rfl) ?_
      refine dn_icmp_ge S.1 S.2.1 20 (by omega) hn d_Ar_fill_7 (by decide) (fun h => ?_) (fun h => ?_)
      · exact hret H locs _ ls _ hw ⟨u, rfl, fun j hj => hu j (by omega)⟩ d_Ar_fill_20
      · refine lv_aload_n S.1 S.2.1 d_Ar_fill_10 rfl (lv_at hl 0 rfl) ?_
        refine lv_iload_n S.1 S.2.1 d_Ar_fill_11 rfl (lv_at hl 2 rfl) ?_
        refine lv_iload_n S.1 S.2.1 d_Ar_fill_12 rfl (lv_at hl 1 rfl) ?_
        refine dx_iast 0 0 S hw rfl rfl h hn d_Ar_fill_13 (fun H locs hw => ?_)
        have hw : dw_W D classes (ds_tys g) A s.heap [(q, .inl (g 0, n, .inl (upd u i x)))] s H locs := hw
        refine lv_iinc (v := nI (i + 1)) (lv' := [(2, .int (nI (i + 1))), (0, .ref q), (1, .int x), (3, .int (nI n))]) S.1 S.2.1 d_Ar_fill_14 hl (k := 2) rfl (by rw [show Int32.ofInt 1 = nI 1 from rfl, nI_add]) (by decide) rfl (fun ls hl => ?_)
        refine lv_goto (tgt := 5) S.1 S.2.1 d_Ar_fill_17 (by decide) ?_
        refine ih (i + 1) _ H locs ls (by omega) (by omega) (fun j hj => ?_) hw (lv_sub hl [1, 2, 0, 3] rfl)
        by_cases z : j = i
        · rw [z, pk_us]
        · rw [pk_un z]
          exact hu j (by omega)
  refine lv_iconst (v := nI 0) S.1 S.2.1 d_Ar_fill_0 (by decide) ?_
  refine lv_istore_n (lv' := [(2, .int (nI 0)), (0, .ref q), (1, .int x)]) S.1 S.2.1 d_Ar_fill_1 rfl hl (by decide) rfl (fun ls hl => ?_)
  refine lv_aload_n S.1 S.2.1 d_Ar_fill_2 rfl (lv_at hl 1 rfl) ?_
  refine va_alen (x := (n, .inl f)) S.1 S.2.1 hw.1 hw.2.1 0 0 rfl rfl (show Int32.ofNat n = nI n from rfl) d_Ar_fill_3 ?_
  refine lv_istore_n (lv' := [(3, .int (nI n)), (2, .int (nI 0)), (0, .ref q), (1, .int x)]) S.1 S.2.1 d_Ar_fill_4 rfl hl (by decide) rfl (fun ls hl => ?_)
  exact loop (n + 1) 0 f H locs ls (by omega) (by omega) (fun j hj => absurd hj (by omega)) hw (lv_sub hl [2, 3, 1, 0] rfl)
