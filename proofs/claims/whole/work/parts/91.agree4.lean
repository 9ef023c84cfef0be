/-! the law's invariant over scratch; calls that change nothing else -/
def ag_scr (k : Nat) : Prop := k = 17 ∨ k = 21 ∨ (25 ≤ k ∧ k ≤ 27) ∨ k = 52 ∨ k = 53 ∨ k = 66 ∨ k = 67 ∨ 74 ≤ k
def ag_same (f u : Nat → Nat → Nat) : Prop := (∀ k, k ≠ 54 → ¬ ag_scr k → u k = f k) ∧ ∀ j, j ≠ 25 → u 54 j = f 54 j
theorem md_v_rw {f rw rw2 : Nat → Nat → Nat} (h : ∀ v, v < 3 → rw v = rw2 v) : md_v f rw = md_v f rw2 := by
  funext k
  by_cases e : 22 ≤ k ∧ k < 25
  · rw [show k = 22 + (k - 22) by omega, md_22 (by omega), md_22 (by omega), h _ (by omega)]
  · unfold md_v
    rw [if_neg e, if_neg e]
theorem ag_same_v {f u rw : Nat → Nat → Nat} (h : ag_same f u) : md_v u rw = md_v f rw := md_congr (fun k h1 h2 h3 => h.1 k (by omega) (by unfold ag_scr; omega)) (h.2 0 (by decide)) (h.2 1 (by decide)) (h.2 12 (by decide))
theorem ag_same_ok {f u : Nat → Nat → Nat} (h : ag_same f u) (ok : ds_ok f) : ds_ok u := ds_ok_congr (fun k hk => h.1 k (fun e => hk (by rw [e]; unfold ds_scr; omega)) (fun e => hk (by unfold ds_scr; unfold ag_scr at e; omega))) ok
theorem ag_same_kp {f u : Nat → Nat → Nat} {n V ko so b c j s2 p2 : Nat} (h : ag_same f u) (hj : j ≠ 25) (hko : ko ≠ 54 ∧ ¬ ag_scr ko) (hso : so ≠ 54 ∧ ¬ ag_scr so) (hs2 : s2 ≠ 54 ∧ ¬ ag_scr s2) (hp2 : p2 ≠ 54 ∧ ¬ ag_scr p2) (hb : ∀ k, k < c → b + k ≠ 54 ∧ ¬ ag_scr (b + k)) (hk : ag_kp f n V ko so b c j s2 p2) : ag_kp u n V ko so b c j s2 p2 := by
  unfold ag_kp at *
  rw [h.2 j hj, h.1 ko hko.1 hko.2, h.1 so hso.1 hso.2, h.1 s2 hs2.1 hs2.2, h.1 p2 hp2.1 hp2.2]
  refine ⟨hk.1, hk.2.1, fun k h1 => ?_⟩
  have q := hb k (by have := hk.2.1; omega)
  rw [h.1 (b + k) q.1 q.2]
  exact hk.2.2 k h1
theorem ag_inv_congr {f u : Nat → Nat → Nat} (h : ag_same f u) (hi : ag_inv f) : ag_inv u := by
  obtain ⟨ok, he, h7, hk1, hk2⟩ := hi
  have c : ∀ k, k < 17 → u k = f k := fun k hk => h.1 k (by omega) (by unfold ag_scr; omega)
  have c1 := c 1 (by decide)
  refine ⟨ag_same_ok h ok, ?_, fun x => by rw [h.1 73 (by decide) (by unfold ag_scr; omega), c 7 (by decide)]; exact h7 x, ?_, ?_⟩
  · rw [ag_same_v h, md_v_rw (rw := ag_rw u) (rw2 := ag_rw f) (fun v hv => by funext r; unfold ag_rw; rw [h.1 (22 + v) (by omega) (by unfold ag_scr; omega)])]
    have hV := ok.1
    obtain ⟨e1, e2, e3, e4⟩ := he
    unfold ag_eq
    rw [c1, c 8 (by decide), c 9 (by decide), c 10 (by decide), c 11 (by decide), c 12 (by decide), c 13 (by decide), c 5 (by decide), c 6 (by decide), c 15 (by decide), h.1 18 (by decide) (by unfold ag_scr; omega), h.1 19 (by decide) (by unfold ag_scr; omega)]
    refine ⟨e1, e2, fun v hv => ?_, fun i j hi2 hj => ?_⟩
    · rw [h.1 (22 + v) (by omega) (by unfold ag_scr; omega)]
      exact e3 v hv
    · rw [h.1 (28 + i) (by omega) (by unfold ag_scr; omega)]
      exact e4 i j hi2 hj
  · rw [c1]
    exact ag_same_kp h (by decide) (by unfold ag_scr; omega) (by unfold ag_scr; omega) (by unfold ag_scr; omega) (by unfold ag_scr; omega) (fun k hk => by unfold ag_scr; omega) hk1
  · rw [c1]
    exact ag_same_kp h (by decide) (by unfold ag_scr; omega) (by unfold ag_scr; omega) (by unfold ag_scr; omega) (by unfold ag_scr; omega) (fun k hk => by unfold ag_scr; omega) hk2
/-- the plan's answers -/
theorem ag_find {P P2 : Nat → Bool} {k : Int32} {n : Nat} (hn : n ≤ 8) (h : ∀ x, x < n → P x = P2 x) : ds_find (fun s => (ds_bits P n).testBit s) k 8 0 0 = ds_find P2 k n 0 0 := by
  have h1 := ds_find_more (P := fun s => (ds_bits P n).testBit s) (k := k) (j := 8 - n) n 0 0 (fun i h1 h2 => by
    show (ds_bits P n).testBit i = false
    rw [ds_bits_tb, decide_eq_false (by omega), Bool.false_and])
  rw [show n + (8 - n) = 8 by omega] at h1
  rw [h1]
  exact ds_find_congr n 0 0 (fun i h1 h2 => by
    show (ds_bits P n).testBit i = P2 i
    rw [ds_bits_tb, decide_eq_true (by omega), Bool.true_and]
    exact h i (by omega))
theorem ag_mo {f : Nat → Nat → Nat} (hi : ag_inv f) : f 54 0 = f 1 0 ∧ f 54 1 = f 1 1 ∧ f 54 12 = f 1 16 ∧ (∀ x, x < f 1 1 → f 55 x = f 8 x ∧ f 56 x = f 9 x ∧ f 57 x = f 10 x ∧ f 58 x = f 11 x ∧ f 60 x = f 12 x ∧ f 61 x = f 13 x ∧ f 65 x = f 5 x ∧ f 72 x = f 6 x) ∧ (∀ v, v < f 1 0 → f 59 v = f 15 v ∧ f 62 v = f 18 v ∧ f 63 v = f 19 v) := by
  obtain ⟨ok, ⟨⟨a0, a1, a2⟩, hx, hv, hw⟩, -⟩ := hi
  exact ⟨a0, a1, a2, hx, fun v h => ⟨(hv v h).1, (hv v h).2.1, (hv v h).2.2.1⟩⟩
theorem ag_moved {f : Nat → Nat → Nat} (hi : ag_inv f) (k : Int32) : ds_find (fun s => (ds_bits (fun s => f 5 s != f 10 s) (f 1 1)).testBit s) k 8 0 0 = ds_find (fun x => f 65 x != f 57 x) k (f 54 1) 0 0 := by
  obtain ⟨a0, a1, a2, hx, hv⟩ := ag_mo hi
  rw [a1]
  exact ag_find hi.1.2.1 (fun x h => by rw [(hx x h).2.2.2.2.2.2.1, (hx x h).2.2.1])
theorem ag_carried {f : Nat → Nat → Nat} (hi : ag_inv f) (k : Int32) : ds_find (fun s => (ds_bits (fun s => f 5 s == f 1 0) (f 1 1)).testBit s) k 8 0 0 = ds_find (fun x => f 65 x == f 54 0) k (f 54 1) 0 0 := by
  obtain ⟨a0, a1, a2, hx, hv⟩ := ag_mo hi
  rw [a1, a0]
  exact ag_find hi.1.2.1 (fun x h => by rw [(hx x h).2.2.2.2.2.2.1])
theorem ag_tmv {f : Nat → Nat → Nat} (hi : ag_inv f) {v : Nat} (hv : v < f 1 0) : ds_tm (md_v f (ag_rw f)) (fun x => f 65 x == v) v = ds_tm f (fun z => Nat.testBit (ds_bits (fun s => f 5 s == v) (f 1 1)) z) v := by
  obtain ⟨a0, a1, a2, hx, hv2⟩ := ag_mo hi
  rw [ag_tm hi.2.1 hi.1 _ hv]
  exact ds_tm_pc hi.1.2.2.2.2.2.2.2 hv (fun x h => by rw [ds_bits_tb, decide_eq_true h, Bool.true_and, (hx x h).2.2.2.2.2.2.1])
theorem ag_cost {f : Nat → Nat → Nat} (hi : ag_inv f) : ∀ v, v ≤ f 1 0 → ds_cst (md_v f (ag_rw f)) (f 65) v = ds_cost f v
  | 0, _ => rfl
  | v + 1, h => by
    obtain ⟨a0, a1, a2, hx, hv2⟩ := ag_mo hi
    unfold ds_cst ds_cost
    rw [ag_cost hi v (by omega), ag_tmv hi (by omega), show md_v f (ag_rw f) 19 v = f 63 v from rfl, (hv2 v (by omega)).2.2]
theorem ag_rdv {f : Nat → Nat → Nat} (hi : ag_inv f) {v : Nat} (hv : v < f 1 0) : ds_rd (md_v f (ag_rw f)) (fun x => f 65 x == v) v = ds_rd f (fun z => Nat.testBit (ds_bits (fun s => f 5 s == v) (f 1 1)) z) v := by
  obtain ⟨a0, a1, a2, hx, hv2⟩ := ag_mo hi
  rw [ag_rd hi.2.1 _ hv]
  exact ds_rd_pc hi.1.2.2.2.2.2.2.2 hv (fun x h => by rw [ds_bits_tb, decide_eq_true h, Bool.true_and, (hx x h).2.2.2.2.2.2.1])
