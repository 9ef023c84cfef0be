/-! the reference's run: what it leaves alone; a turn to the next plan -/
def md_ag (f f2 : Nat → Nat → Nat) : Prop := (∀ k, k ≠ 54 → k ≠ 66 → k ≠ 67 → k ≠ 74 → f2 k = f k) ∧ ∀ j, j ≠ 25 → f2 54 j = f 54 j
theorem md_ag_v {f f2 rw : Nat → Nat → Nat} (h : md_ag f f2) : md_v f2 rw = md_v f rw := md_congr (fun k h1 h2 h3 => h.1 k (by omega) (by omega) (by omega) (by omega)) (h.2 0 (by decide)) (h.2 1 (by decide)) (h.2 12 (by decide))
theorem md_ag_r {f f2 : Nat → Nat → Nat} (h : md_ag f f2) (g : Nat → Nat) (z : Nat) : md_ag f (md_r f2 g z) := ⟨fun k h1 h2 h3 h4 => by rw [md_r_ne h1 h4]; exact h.1 k h1 h2 h3 h4, fun j hj => by rw [md_r_54 hj]; exact h.2 j hj⟩
theorem md_ag_w {f f2 : Nat → Nat → Nat} (h : md_ag f f2) {c : Nat} (hc : c = 66 ∨ c = 67) (i x : Nat) : md_ag f (dw_w f2 c i x) := ⟨fun k h1 h2 h3 h4 => by rw [dw_w_ne (by omega)]; exact h.1 k h1 h2 h3 h4, fun j hj => by rw [dw_w_ne (by omega)]; exact h.2 j hj⟩
theorem md_ag_66 {f f2 u : Nat → Nat → Nat} (h : md_ag f f2) (hu : ∀ k, k ≠ 66 → u k = f2 k) : md_ag f u := ⟨fun k h1 h2 h3 h4 => by rw [hu k h2]; exact h.1 k h1 h2 h3 h4, fun j hj => by rw [hu 54 (by decide)]; exact h.2 j hj⟩
theorem md_ag_0 {f : Nat → Nat → Nat} : md_ag f f := ⟨fun _ _ _ _ _ => rfl, fun _ _ => rfl⟩
/-- p2 is the plan behind p -/
def md_tn (n V : Nat) (p p2 : Nat → Nat) : Prop := ∃ j, j < n ∧ (∀ x, j < x → x < n → p x = V ∧ p2 x = 0) ∧ p j ≠ V ∧ p2 j = p j + 1 ∧ ∀ x, x < j → p2 x = p x
theorem md_turn_b {n V : Nat} {p p2 : Nat → Nat} {r : Int32} (h : (∃ j, j < n ∧ (∀ x, j < x → x < n → p x = V ∧ p2 x = 0) ∧ p j ≠ V ∧ p2 j = p j + 1 ∧ (∀ x, x < j → p2 x = p x) ∧ r = nI (dn_b True)) ∨ ((∀ x, x < n → p x = V) ∧ (∀ x, x < n → p2 x = 0) ∧ r = nI (dn_b False))) : ∃ bt : Nat, r = nI bt ∧ bt ≤ 1 ∧ (bt ≠ 0 → md_tn n V p p2) ∧ (bt = 0 → (∀ x, x < n → p x = V) ∧ ∀ x, x < n → p2 x = 0) := by
  rcases h with ⟨j, h1, h2, h3, h4, h5, h6⟩ | ⟨h1, h2, h3⟩
  · exact ⟨1, h6, by decide, fun _ => ⟨j, h1, h2, h3, h4, h5⟩, fun q => absurd q (by decide)⟩
  · exact ⟨0, h3, by decide, fun q => absurd rfl q, fun _ => ⟨h1, h2⟩⟩
/-- a turn: the next plan is a plan; what was seen up to p is what comes before it -/
theorem md_step {F : Nat → Nat → Nat} {p p2 : Nat → Nat} {bt : Nat} (hp : md_val F p) (h1 : bt ≠ 0 → md_tn (F 1 1) (F 1 0) p p2) (h0 : bt = 0 → (∀ x, x < F 1 1 → p x = F 1 0) ∧ ∀ x, x < F 1 1 → p2 x = 0) :
    md_val F p2 ∧ (∀ q, md_val F q → (md_cd F q ≤ md_cd F p ↔ (bt = 0 ∨ md_cd F q < md_cd F p2))) ∧ (if bt = 0 then 0 else (F 1 0 + 1) ^ F 1 1 - md_cd F p2) < (F 1 0 + 1) ^ F 1 1 - md_cd F p := by
  have hlt : md_cd F p < (F 1 0 + 1) ^ F 1 1 := md_code_lt _ (fun x hx => Nat.lt_succ_of_le (hp x hx))
  by_cases hb : bt = 0
  · obtain ⟨a1, a2⟩ := h0 hb
    refine ⟨fun x hx => by rw [a2 x hx]; exact Nat.zero_le _, fun q hq => ⟨fun _ => Or.inl hb, fun _ => ?_⟩, ?_⟩
    · have e1 := md_code_last (V := F 1 0) (n := F 1 1) a1
      have e2 : md_cd F q < (F 1 0 + 1) ^ F 1 1 := md_code_lt _ (fun x hx => Nat.lt_succ_of_le (hq x hx))
      show md_code (F 1 0 + 1) q (F 1 1) ≤ md_code (F 1 0 + 1) p (F 1 1)
      have e3 : md_code (F 1 0 + 1) q (F 1 1) < (F 1 0 + 1) ^ F 1 1 := e2
      omega
    · rw [if_pos hb]
      omega
  · obtain ⟨j, a1, a2, a3, a4, a5⟩ := h1 hb
    have hv2 : md_val F p2 := fun x hx => by
      rcases Nat.lt_trichotomy x j with q | q | q
      · rw [a5 x q]; exact hp x hx
      · rw [q, a4]
        have := hp j (by omega)
        omega
      · rw [(a2 x q hx).2]; exact Nat.zero_le _
    have ec : md_cd F p2 = md_cd F p + 1 := md_code_turn a1 a5 a4 a2
    refine ⟨hv2, fun q hq => ?_, ?_⟩
    · rw [ec]
      constructor
      · intro h; exact Or.inr (Nat.lt_succ_of_le h)
      · intro h
        rcases h with h | h
        · exact absurd h hb
        · exact Nat.le_of_lt_succ h
    · rw [if_neg hb, ec]
      omega
theorem md_cd0 {F : Nat → Nat → Nat} {p : Nat → Nat} (h : ∀ x, x < F 1 1 → p x = 0) : md_cd F p = 0 := by
  have h1 := md_code_zero (B := F 1 0 + 1) (p := p) (j := 0) (F 1 1) (fun s _ hs => h s (by omega))
  rw [Nat.zero_add] at h1
  show md_code (F 1 0 + 1) p (F 1 1) = 0
  rw [h1]
  simp [md_code]
