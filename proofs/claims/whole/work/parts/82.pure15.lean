/-! the reference's search: the best of the plans that were seen -/
theorem ds_rd_pc {F : Nat → Nat → Nat} (h : ds_rows F) {P P2 : Nat → Bool} {v : Nat} (hv : v < F 1 0) (e : ∀ x, x < F 1 1 → P x = P2 x) : ds_rd F P v = ds_rd F P2 v := by
  unfold ds_rd ds_oth
  congr 1
  · exact List.filter_congr (fun x hx => e x (dr_row_in h hv hx).1)
  · exact List.filter_congr (fun x hx => by rw [e x (List.mem_range.mp hx)])
theorem ds_tm_pc {F : Nat → Nat → Nat} (h : ds_rows F) {P P2 : Nat → Bool} {v : Nat} (hv : v < F 1 0) (e : ∀ x, x < F 1 1 → P x = P2 x) : ds_tm F P v = ds_tm F P2 v := by
  unfold ds_tm
  rw [ds_rd_pc h hv e]
theorem ds_cst_pc {F : Nat → Nat → Nat} (h : ds_rows F) {p q : Nat → Nat} (e : ∀ x, x < F 1 1 → p x = q x) : ∀ v, v ≤ F 1 0 → ds_cst F p v = ds_cst F q v
  | 0, _ => rfl
  | v + 1, hv => by
    unfold ds_cst
    rw [ds_cst_pc h e v (by omega), ds_tm_pc h (v := v) (by omega) (P := fun x => p x == v) (P2 := fun x => q x == v) (fun x hx => by rw [e x hx])]
theorem md_ap_pc {F : Nat → Nat → Nat} {p q : Nat → Nat} : ∀ n, (∀ x, x < n → p x = q x) → md_ap F p n = md_ap F q n
  | 0, _ => rfl
  | n + 1, e => by
    unfold md_ap
    rw [md_ap_pc n (fun x hx => e x (by omega)), e n (by omega)]
theorem md_ho_pc {F : Nat → Nat → Nat} (h : ds_rows F) {p q : Nat → Nat} (e : ∀ x, x < F 1 1 → p x = q x) : ∀ v, v ≤ F 1 0 → md_ho F p v = md_ho F q v
  | 0, _ => rfl
  | v + 1, hv => by
    unfold md_ho
    rw [md_ho_pc h e v (by omega), ds_tm_pc h (v := v) (by omega) (P := fun x => p x == v) (P2 := fun x => q x == v) (fun x hx => by rw [e x hx])]
/-- the plan p holds -/
def md_hold (F : Nat → Nat → Nat) (p : Nat → Nat) : Bool := md_ap F p (F 1 1) && md_ho F p (F 1 0)
def md_val (F : Nat → Nat → Nat) (p : Nat → Nat) : Prop := ∀ x, x < F 1 1 → p x ≤ F 1 0
def md_mv (F : Nat → Nat → Nat) (p : Nat → Nat) : Nat := ds_cnt (fun x => p x != F 10 x) (F 1 1)
abbrev md_cs (F : Nat → Nat → Nat) (p : Nat → Nat) : Nat := ds_cst F p (F 1 0)
abbrev md_cd (F : Nat → Nat → Nat) (p : Nat → Nat) : Nat := md_code (F 1 0 + 1) p (F 1 1)
theorem md_same {F : Nat → Nat → Nat} (h : ds_rows F) {p q : Nat → Nat} (e : ∀ x, x < F 1 1 → p x = q x) : md_hold F p = md_hold F q ∧ md_mv F p = md_mv F q ∧ md_cs F p = md_cs F q ∧ md_cd F p = md_cd F q := by
  refine ⟨?_, ?_, ds_cst_pc h e _ (Nat.le_refl _), md_code_congr _ e⟩
  · unfold md_hold
    rw [md_ap_pc _ e, md_ho_pc h e _ (Nat.le_refl _)]
  · unfold md_mv
    exact ds_cnt_congr _ (fun i hi => by rw [e i hi])
/-- s comes no later than q in the order of the best -/
def md_le (F : Nat → Nat → Nat) (s q : Nat → Nat) : Prop := md_mv F s < md_mv F q ∨ (md_mv F s = md_mv F q ∧ (md_cs F s < md_cs F q ∨ (md_cs F s = md_cs F q ∧ md_cd F s ≤ md_cd F q)))
/-- of the plans that C has seen, s is the best; w, y: its moves and its cost; w = -1: none holds -/
def md_bst (F : Nat → Nat → Nat) (C : (Nat → Nat) → Prop) (w : Int32) (y : Nat) (s : Nat → Nat) : Prop :=
  (w = -1 ∧ ∀ q, md_val F q → C q → ¬ md_hold F q = true) ∨ (w = nI (md_mv F s) ∧ y = md_cs F s ∧ md_val F s ∧ C s ∧ md_hold F s = true ∧ ∀ q, md_val F q → C q → md_hold F q = true → md_le F s q)
theorem md_eqp {F : Nat → Nat → Nat} {p q : Nat → Nat} (hp : md_val F p) (hq : md_val F q) (e : md_cd F q = md_cd F p) : ∀ x, x < F 1 1 → q x = p x := md_code_inj _ (fun s hs => Nat.lt_succ_of_le (hq s hs)) (fun s hs => Nat.lt_succ_of_le (hp s hs)) e
theorem md_mv_b (F : Nat → Nat → Nat) (p : Nat → Nat) : md_mv F p ≤ F 1 1 := ds_cnt_le _ _
theorem md_take {F : Nat → Nat → Nat} (ok : ds_ok F) {p s : Nat → Nat} {w : Int32} {y : Nat} (hb : md_bst F (fun q => md_cd F q < md_cd F p) w y s) (hp : md_val F p) (hh : md_hold F p = true) (hc : w < 0 ∨ nI (md_mv F p) < w ∨ (¬ w < nI (md_mv F p) ∧ md_cs F p < y)) : md_bst F (fun q => md_cd F q ≤ md_cd F p) (nI (md_mv F p)) (md_cs F p) p := by
  have hrw := ok.2.2.2.2.2.2.2
  have hn := ok.2.1
  refine Or.inr ⟨rfl, rfl, hp, Nat.le_refl _, hh, fun q hq hC hqh => ?_⟩
  rcases Nat.eq_or_lt_of_le hC with e | e
  · obtain ⟨e1, e2, e3, e4⟩ := md_same hrw (md_eqp hp hq e)
    exact Or.inr ⟨e2.symm, Or.inr ⟨e3.symm, Nat.le_of_eq e4.symm⟩⟩
  · rcases hb with ⟨b1, b2⟩ | ⟨b1, b2, b3, b4, b5, b6⟩
    · exact absurd hqh (b2 q hq e)
    · have m1 := md_mv_b F p
      have m2 := md_mv_b F s
      have h1 := b6 q hq e hqh
      unfold md_le at h1 ⊢
      rw [b1] at hc
      rcases hc with c | c | c
      · exact absurd c (nI_pos (by omega))
      · rw [nI_ltI (by omega) (by omega)] at c
        omega
      · rw [nI_ltI (by omega) (by omega)] at c
        rw [b2] at c
        omega
theorem md_skip {F : Nat → Nat → Nat} (ok : ds_ok F) {p s : Nat → Nat} {w : Int32} {y : Nat} (hb : md_bst F (fun q => md_cd F q < md_cd F p) w y s) (hp : md_val F p) (hc : ¬ md_hold F p = true ∨ (¬ w < 0 ∧ (w < nI (md_mv F p) ∨ (¬ nI (md_mv F p) < w ∧ y ≤ md_cs F p)))) : md_bst F (fun q => md_cd F q ≤ md_cd F p) w y s := by
  have hrw := ok.2.2.2.2.2.2.2
  have hn := ok.2.1
  rcases hb with ⟨b1, b2⟩ | ⟨b1, b2, b3, b4, b5, b6⟩
  · refine Or.inl ⟨b1, fun q hq hC => ?_⟩
    rcases Nat.eq_or_lt_of_le hC with e | e
    · rw [(md_same hrw (md_eqp hp hq e)).1]
      rcases hc with c | c
      · exact c
      · exact absurd (by rw [b1]; decide) c.1
    · exact b2 q hq e
  · refine Or.inr ⟨b1, b2, b3, Nat.le_of_lt b4, b5, fun q hq hC hqh => ?_⟩
    rcases Nat.eq_or_lt_of_le hC with e | e
    · obtain ⟨e1, e2, e3, e4⟩ := md_same hrw (md_eqp hp hq e)
      rcases hc with c | c
      · exact absurd (e1 ▸ hqh) c
      · have m1 := md_mv_b F p
        have m2 := md_mv_b F s
        have c2 := c.2
        rw [b1, nI_ltI (by omega) (by omega), nI_ltI (by omega) (by omega), b2] at c2
        have b4' : md_cd F s < md_cd F p := b4
        unfold md_le
        rw [e2, e3, e4]
        omega
    · exact b6 q hq e hqh
theorem md_bst_w {F : Nat → Nat → Nat} {C : (Nat → Nat) → Prop} {w : Int32} {y : Nat} {s : Nat → Nat} (hb : md_bst F C w y s) (hn : F 1 1 ≤ 8) : w < 0 ↔ w = -1 := by
  rcases hb with ⟨b1, b2⟩ | ⟨b1, -⟩
  · rw [b1]
    decide
  · have m2 := md_mv_b F s
    constructor
    · intro q
      rw [b1] at q
      exact absurd q (nI_pos (by omega))
    · intro q
      rw [q]
      decide
/-- what is seen may be said in other words -/
theorem md_bst_c {F : Nat → Nat → Nat} {C C2 : (Nat → Nat) → Prop} (h : ∀ q, md_val F q → (C q ↔ C2 q)) {w : Int32} {y : Nat} {s : Nat → Nat} (hb : md_bst F C w y s) : md_bst F C2 w y s := by
  rcases hb with ⟨b1, b2⟩ | ⟨b1, b2, b3, b4, b5, b6⟩
  · exact Or.inl ⟨b1, fun q hq hC => b2 q hq ((h q hq).mpr hC)⟩
  · exact Or.inr ⟨b1, b2, b3, (h s b3).mp b4, b5, fun q hq hC => b6 q hq ((h q hq).mpr hC)⟩
