/-! shelves, transfer between the two views, scratch -/
theorem ag_I_congr {f u : Nat → Nat → Nat} (h : ag_same f u) (hi : ag_I f) : ag_I u := by
  refine ⟨ag_inv_congr h hi.1, fun x hx => ?_⟩
  rw [h.1 1 (by decide) (by unfold ag_scr; omega)] at hx
  rw [h.1 60 (by decide) (by unfold ag_scr; omega), h.1 61 (by decide) (by unfold ag_scr; omega), h.1 12 (by decide) (by unfold ag_scr; omega), h.1 13 (by decide) (by unfold ag_scr; omega)]
  exact hi.2 x hx
theorem ag_same_r {f : Nat → Nat → Nat} {h h2 : Nat → Nat} {z : Nat} : ag_same f (md_r (dw_su f 21 h) h2 z) := ⟨fun k k1 k2 => by unfold ag_scr at k2; rw [md_r_ne k1 (by omega), dw_su_ne (by omega)], fun j hj => by rw [md_r_54 hj, dw_su_ne (by decide)]⟩
theorem kp_push {f u : Nat → Nat → Nat} {n V ko so b c j s2 p2 kk dd : Nat} {P : Nat → Nat} (h : ag_kp f n V ko so b c j s2 p2) (hn : n ≤ 8) (hkk : kk + dd ≤ f ko 2 ∧ kk < c) (hu : u ko 2 = kk + 1) (hu2 : u 54 j = kk + 1) (hs : ∀ i, i < kk → (∀ t, t < 8 → u (b + i) t = f (b + (i + dd)) t) ∧ u so i = f so (i + dd)) (hs2 : ∀ i, i < kk → (∀ t, t < 8 → u p2 (8 * i + t) = f p2 (8 * (i + dd) + t)) ∧ u s2 i = f s2 (i + dd)) (hp : ∀ t, t < n → u (b + kk) t = P t ∧ u p2 (8 * kk + t) = P t ∧ P t ≤ V) (hl : u so kk = n ∧ u s2 kk = n) : ag_kp u n V ko so b c j s2 p2 := by
  unfold ag_kp at *
  rw [hu, hu2]
  refine ⟨rfl, by omega, fun k hk => ?_⟩
  by_cases e : k = kk
  · subst e
    rw [hl.1, hl.2]
    refine ⟨rfl, Nat.le_refl _, fun x hx => ?_⟩
    obtain ⟨p1, p3, p4⟩ := hp x hx
    rw [p1, p3]
    exact ⟨rfl, p4⟩
  · obtain ⟨s1, s3⟩ := hs k (by omega)
    obtain ⟨t1, t3⟩ := hs2 k (by omega)
    obtain ⟨q1, q2, q3⟩ := h.2.2 (k + dd) (by omega)
    rw [s3, t3]
    refine ⟨q1, q2, fun x hx => ?_⟩
    rw [s1 x (by omega), t1 x (by omega)]
    exact q3 x hx
theorem kp_0 {u : Nat → Nat → Nat} {n V ko so b c j s2 p2 : Nat} (h1 : u ko 2 = 0) (h2 : u 54 j = 0) : ag_kp u n V ko so b c j s2 p2 := by
  unfold ag_kp
  rw [h1, h2]
  exact ⟨rfl, Nat.zero_le _, fun k hk => absurd hk (Nat.not_lt_zero _)⟩
theorem kp_pop {f u : Nat → Nat → Nat} {n V ko so b c j s2 p2 : Nat} (h : ag_kp f n V ko so b c j s2 p2) (hu : u ko 2 = f ko 2 - 1) (hu2 : u 54 j = f 54 j - 1) (hso : u so = f so) (hb : ∀ k, k < c → u (b + k) = f (b + k)) (hs2 : u s2 = f s2) (hp2 : u p2 = f p2) : ag_kp u n V ko so b c j s2 p2 := by
  unfold ag_kp at *
  rw [hu, hu2, hso, hs2, hp2]
  refine ⟨by omega, by omega, fun k hk => ?_⟩
  rw [hb k (by omega)]
  exact h.2.2 k (by omega)
section
variable {f F : Nat → Nat → Nat}
theorem tr_val (h : ag_eq f F) {p : Nat → Nat} : md_val F p ↔ md_val f p := by
  unfold md_val
  rw [h.1.1, h.1.2.1]
theorem tr_ap (h : ag_eq f F) {p : Nat → Nat} (hp : md_val f p) : ∀ i, i ≤ f 1 1 → md_ap F p i = md_ap f p i
  | 0, _ => rfl
  | i + 1, hi => by
    unfold md_ap
    rw [tr_ap h hp i (by omega), ag_may h (hp i (by omega)) (by omega)]
theorem tr_ho (h : ag_eq f F) (ok : ds_ok f) {p : Nat → Nat} : ∀ v, v ≤ f 1 0 → md_ho F p v = md_ho f p v
  | 0, _ => rfl
  | v + 1, hv => by
    unfold md_ho
    rw [tr_ho h ok v (by omega), ag_tm h ok _ (by omega), (h.2.2.1 v (by omega)).2.2.1, h.1.2.2]
theorem tr_hold (h : ag_eq f F) (ok : ds_ok f) {p : Nat → Nat} (hp : md_val f p) : md_hold F p = md_hold f p := by
  unfold md_hold
  rw [h.1.1, h.1.2.1, tr_ap h hp _ (Nat.le_refl _), tr_ho h ok _ (Nat.le_refl _)]
theorem tr_mv (h : ag_eq f F) {p : Nat → Nat} : md_mv F p = md_mv f p := by
  unfold md_mv
  rw [h.1.2.1]
  exact ds_cnt_congr _ (fun x hx => by rw [(h.2.1 x hx).2.2.1])
theorem tr_cst (h : ag_eq f F) (ok : ds_ok f) {p : Nat → Nat} : ∀ v, v ≤ f 1 0 → ds_cst F p v = ds_cst f p v
  | 0, _ => rfl
  | v + 1, hv => by
    unfold ds_cst
    rw [tr_cst h ok v (by omega), ag_tm h ok _ (by omega), (h.2.2.1 v (by omega)).2.2.1]
theorem tr_cs (h : ag_eq f F) (ok : ds_ok f) {p : Nat → Nat} : md_cs F p = md_cs f p := by
  unfold md_cs
  rw [h.1.1]
  exact tr_cst h ok _ (Nat.le_refl _)
theorem tr_le (h : ag_eq f F) (ok : ds_ok f) {p q : Nat → Nat} (hl : md_le F p q) : md_le f p q := by
  unfold md_le at *
  rw [tr_mv h, tr_mv h, tr_cs h ok, tr_cs h ok] at hl
  unfold md_cd at *
  rw [h.1.1, h.1.2.1] at hl
  exact hl
theorem tr_nl (h : ag_eq f F) (hr : ds_rows f) {v : Nat} (hv : v < f 1 0) : md_nl F v = ds_nl f v := by
  have e0 := h.1.1
  have e1 := h.1.2.1
  rw [md_nl_eq (ag_rows h hr) (by rw [e0]; exact hv)]
  have epb : ∀ w, ds_pb F w = ds_pb f w := fun w => by
    funext z
    rw [ds_pb_eq, ds_pb_eq, e1]
    by_cases hz : z < f 1 1
    · rw [(h.2.1 z hz).2.2.2.2.2.2.1]
    · rw [decide_eq_false hz, Bool.false_and, Bool.false_and]
  unfold ds_nl
  rw [e0, e1, epb, epb, ag_rd h _ hv]
  congr 1
  unfold ds_own
  exact List.filter_congr (fun x hx => by rw [(h.2.1 x (List.mem_range.mp hx)).2.2.1])
end
theorem ct_one {a : Nat} : ∀ n, ds_cnt (fun x => x == a) n = if a < n then 1 else 0
  | 0 => by simp [ds_cnt]
  | n + 1 => by
    rw [show ds_cnt (fun x => x == a) (n + 1) = if (n == a) then ds_cnt (fun x => x == a) n + 1 else ds_cnt (fun x => x == a) n from rfl, ct_one n]
    by_cases e : n = a
    · subst e
      simp
    · rw [if_neg (by simpa using e)]
      by_cases h : a < n
      · rw [if_pos h, if_pos (by omega)]
      · rw [if_neg h, if_neg (by omega)]
theorem ct_list {n : Nat} : ∀ (L : List Nat), L.Nodup → (∀ x ∈ L, x < n) → ds_cnt (fun x => L.contains x) n = L.length
  | [], _, _ => ds_cnt_false n
  | a :: L, hd, hm => by
    rw [List.nodup_cons] at hd
    have ih := ct_list L hd.2 (fun x hx => hm x (List.mem_cons_of_mem _ hx))
    have e1 := ct_one (a := a) n
    rw [if_pos (hm a List.mem_cons_self)] at e1
    have e2 := ds_cnt_two (P := fun x => x == a) (P2 := fun x => L.contains x) n (fun i _ ⟨q1, q2⟩ => hd.1 (by
      have q3 : i = a := by simpa using q1
      have q4 : i ∈ L := by simpa using q2
      rw [← q3]; exact q4))
    rw [List.length_cons, ds_cnt_congr (P2 := fun i => (i == a) || L.contains i) n (fun i _ => by rw [List.contains_cons]), ← e2, e1, ih]
    omega
