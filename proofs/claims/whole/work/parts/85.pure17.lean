/-! rows of the next day, as the reference writes them -/
theorem ds_rd_mem {F : Nat → Nat → Nat} (h : ds_rows F) {P : Nat → Bool} {v x : Nat} (hx : x < F 1 1) (hP : P x = true) : x ∈ ds_rd F P v := by
  unfold ds_rd
  by_cases e : F 10 x = v
  · have h1 := h.2 x hx
    rw [e] at h1
    refine List.mem_append_left _ (List.mem_filter.mpr ⟨List.mem_map.mpr ⟨F 11 x, List.mem_range.mpr h1.2.1, h1.2.2⟩, hP⟩)
  · refine List.mem_append_right _ (List.mem_filter.mpr ⟨List.mem_range.mpr hx, ?_⟩)
    simp [hP, e]
theorem ds_own_pc {F : Nat → Nat → Nat} {P P2 : Nat → Bool} {v i : Nat} (e : ∀ x, x < i → P x = P2 x) : ds_own F P v i = ds_own F P2 v i := List.filter_congr (fun x hx => by rw [e x (List.mem_range.mp hx)])
theorem ds_own_cnt {F : Nat → Nat → Nat} {P : Nat → Bool} {v : Nat} : ∀ i, (ds_own F P v i).length = ds_cnt (fun x => P x && F 10 x == v) i
  | 0 => rfl
  | i + 1 => by
    rw [ds_own_s, List.length_append, ds_own_cnt i, show ds_cnt (fun x => P x && F 10 x == v) (i + 1) = if (P i && F 10 i == v) then ds_cnt (fun x => P x && F 10 x == v) i + 1 else ds_cnt (fun x => P x && F 10 x == v) i from rfl]
    by_cases h : (P i && F 10 i == v) = true
    · rw [if_pos h, if_pos h]
      rfl
    · rw [if_neg h, if_neg h]
      rfl
theorem ds_own_pre {F : Nat → Nat → Nat} {P : Nat → Bool} {v i n : Nat} (h : i ≤ n) : ∃ M, ds_own F P v n = ds_own F P v i ++ M := by
  induction h with
  | refl => exact ⟨[], by simp⟩
  | step _ ih =>
    obtain ⟨M, hM⟩ := ih
    exact ⟨M ++ _, by rw [ds_own_s, hM, List.append_assoc]⟩
/-- v's row of the next day -/
def md_nl (F : Nat → Nat → Nat) (v : Nat) : List Nat := ds_own F (fun x => F 5 x == F 1 0) v (F 1 1) ++ ds_rd F (fun x => F 5 x == v) v
theorem md_nl_eq {F : Nat → Nat → Nat} (h : ds_rows F) {v : Nat} (hv : v < F 1 0) : md_nl F v = ds_nl F v := by
  unfold md_nl ds_nl
  rw [ds_own_pc (P := fun x => F 5 x == F 1 0) (P2 := ds_pb F (F 1 0)) (fun x hx => by rw [ds_pb_eq, decide_eq_true hx, Bool.true_and]), ds_rd_pc h hv (P := fun x => F 5 x == v) (P2 := ds_pb F v) (fun x hx => by rw [ds_pb_eq, decide_eq_true hx, Bool.true_and])]
theorem md_nl_at {F : Nat → Nat → Nat} {v i : Nat} (hi : i < F 1 1) (hp : (F 5 i == F 1 0 && F 10 i == v) = true) : (ds_own F (fun x => F 5 x == F 1 0) v i).length < (md_nl F v).length ∧ (md_nl F v).getD (ds_own F (fun x => F 5 x == F 1 0) v i).length 0 = i := by
  obtain ⟨M, hM⟩ := ds_own_pre (F := F) (P := fun x => F 5 x == F 1 0) (v := v) (i := i + 1) (n := F 1 1) hi
  unfold md_nl
  rw [hM, ds_own_s, if_pos hp]
  constructor
  · simp
  · simp
theorem md_nl_at2 {F : Nat → Nat → Nat} {v i : Nat} : (md_nl F v).getD ((ds_own F (fun x => F 5 x == F 1 0) v (F 1 1)).length + i) 0 = (ds_rd F (fun x => F 5 x == v) v).getD i 0 := by
  unfold md_nl
  simp [List.getElem?_append_right]
theorem md_nl_mem {F : Nat → Nat → Nat} (h : ds_rows F) {x : Nat} (hx : x < F 1 1) (hp : F 5 x ≤ F 1 0) : ∃ v r, v < F 1 0 ∧ r < (md_nl F v).length ∧ (md_nl F v).getD r 0 = x := by
  have hm : ∃ v, v < F 1 0 ∧ x ∈ md_nl F v := by
    rcases Nat.eq_or_lt_of_le hp with e | e
    · refine ⟨F 10 x, (h.2 x hx).1, List.mem_append_left _ (List.mem_filter.mpr ⟨List.mem_range.mpr hx, ?_⟩)⟩
      simp [e]
    · exact ⟨F 5 x, e, List.mem_append_right _ (ds_rd_mem h hx (by simp))⟩
  obtain ⟨v, hv, hx2⟩ := hm
  obtain ⟨r, hr, e⟩ := List.mem_iff_getElem.mp hx2
  exact ⟨v, r, hv, hr, by simp [List.getD, hr, e]⟩
/-- homes and positions of the rows of the vehicles below v -/
def md_np (F u : Nat → Nat → Nat) (v : Nat) : Prop := ∀ w, w < v → ∀ r, r < (md_nl F w).length → u 75 ((md_nl F w).getD r 0) = w ∧ u 76 ((md_nl F w).getD r 0) = r
/-- .. of the first t places of v's row -/
def md_nq (F u : Nat → Nat → Nat) (v t : Nat) : Prop := ∀ r, r < t → u 75 ((md_nl F v).getD r 0) = v ∧ u 76 ((md_nl F v).getD r 0) = r
theorem md_nstep {F u : Nat → Nat → Nat} (h : ds_rows F) {v t x : Nat} (hv : v < F 1 0) (h1 : md_np F u v) (h2 : md_nq F u v t) (ht : t < (md_nl F v).length) (hx : (md_nl F v).getD t 0 = x) : md_np F (dw_w (dw_w u 75 x v) 76 x t) v ∧ md_nq F (dw_w (dw_w u 75 x v) 76 x t) v (t + 1) := by
  have hin : ∀ w, w < F 1 0 → ∀ r, r < (md_nl F w).length → (md_nl F w).getD r 0 = x → w = v := fun w hw r hr e => by
    have m1 := ds_nl_in h hw (x := x) (by rw [← md_nl_eq h hw, ← e]; exact ds_getD_mem hr)
    have m2 := ds_nl_in h hv (x := x) (by rw [← md_nl_eq h hv, ← hx]; exact ds_getD_mem ht)
    rcases m1.2 with q | q <;> rcases m2.2 with q2 | q2 <;> omega
  refine ⟨fun w hw r hr => ?_, fun r hr => ?_⟩
  · have ne : (md_nl F w).getD r 0 ≠ x := fun e => by have := hin w (by omega) r hr e; omega
    rw [dw_w_ne (by decide), dw_w_eq, dw_up_ne ne, dw_w_eq, dw_up_ne ne, dw_w_ne (by decide)]
    exact h1 w hw r hr
  · by_cases er : r = t
    · rw [er, hx, dw_w_ne (by decide), dw_w_eq, dw_up_eq, dw_w_eq, dw_up_eq]
      exact ⟨rfl, rfl⟩
    · have ne : (md_nl F v).getD r 0 ≠ x := fun e => er (ds_nd_inj (by rw [md_nl_eq h hv]; exact ds_nl_nd h hv) (by omega) ht (by rw [e, hx]))
      rw [dw_w_ne (by decide), dw_w_eq, dw_up_ne ne, dw_w_eq, dw_up_ne ne, dw_w_ne (by decide)]
      exact h2 r (by omega)
def md_an (f f2 : Nat → Nat → Nat) : Prop := (∀ k, k ≠ 54 → k ≠ 74 → k ≠ 75 → k ≠ 76 → f2 k = f k) ∧ ∀ j, j ≠ 25 → f2 54 j = f 54 j
theorem md_an_v {f f2 rw : Nat → Nat → Nat} (h : md_an f f2) : md_v f2 rw = md_v f rw := md_congr (fun k h1 h2 h3 => h.1 k (by omega) (by omega) (by omega) (by omega)) (h.2 0 (by decide)) (h.2 1 (by decide)) (h.2 12 (by decide))
theorem md_an_r {f f2 : Nat → Nat → Nat} (h : md_an f f2) (g : Nat → Nat) (z : Nat) : md_an f (md_r f2 g z) := ⟨fun k h1 h2 h3 h4 => by rw [md_r_ne h1 h2]; exact h.1 k h1 h2 h3 h4, fun j hj => by rw [md_r_54 hj]; exact h.2 j hj⟩
theorem md_an_w {f f2 : Nat → Nat → Nat} (h : md_an f f2) {x v t : Nat} : md_an f (dw_w (dw_w f2 75 x v) 76 x t) := ⟨fun k h1 h2 h3 h4 => by rw [dw_w_ne h4, dw_w_ne h3]; exact h.1 k h1 h2 h3 h4, fun j hj => by rw [dw_w_ne (by decide), dw_w_ne (by decide)]; exact h.2 j hj⟩
theorem md_cntV {F : Nat → Nat → Nat} {v n : Nat} : ds_cnt (fun x => F 5 x == F 1 0 && decide (F 10 x < v)) n + ds_cnt (fun x => F 5 x == F 1 0 && F 10 x == v) n = ds_cnt (fun x => F 5 x == F 1 0 && decide (F 10 x < v + 1)) n := by
  rw [ds_cnt_two n (fun i hi => by simp; omega)]
  exact ds_cnt_congr n (fun i hi => by
    cases F 5 i == F 1 0
    · rfl
    · simp only [Bool.true_and]
      by_cases h1 : F 10 i < v
      · rw [decide_eq_true h1, decide_eq_true (by omega)]; rfl
      · by_cases h2 : F 10 i = v
        · rw [decide_eq_false h1, decide_eq_true (by omega), beq_iff_eq.mpr h2]; rfl
        · rw [decide_eq_false h1, decide_eq_false (by omega), beq_eq_false_iff_ne.mpr h2]; rfl)
