/-! rounds as lists, their times -/
/-- the row of v, as the first len of its places -/
def ds_row (f : Nat → Nat → Nat) (v r : Nat) : List Nat := (List.range r).map (fun i => f (22 + v) i)
/-- of the stops below i, those that P has and that are not of v's row -/
def ds_oth (f : Nat → Nat → Nat) (P : Nat → Bool) (v i : Nat) : List Nat := (List.range i).filter (fun s => P s && (f 10 s != v))
/-- the round of v over the stops that P has -/
def ds_rd (f : Nat → Nat → Nat) (P : Nat → Bool) (v : Nat) : List Nat := (ds_row f v (f 15 v)).filter P ++ ds_oth f P v (f 1 1)
theorem ds_row_s (f : Nat → Nat → Nat) (P : Nat → Bool) (v r : Nat) : (ds_row f v (r + 1)).filter P = (ds_row f v r).filter P ++ (if P (f (22 + v) r) then [f (22 + v) r] else []) := by
  unfold ds_row
  rw [List.range_succ, List.map_append, List.filter_append]
  congr 1
  by_cases h : P (f (22 + v) r) = true
  · simp [h]
  · simp [h]
theorem ds_oth_s (f : Nat → Nat → Nat) (P : Nat → Bool) (v i : Nat) : ds_oth f P v (i + 1) = ds_oth f P v i ++ (if P i && (f 10 i != v) then [i] else []) := by
  unfold ds_oth
  rw [List.range_succ, List.filter_append]
  congr 1
  by_cases h : (P i && (f 10 i != v)) = true
  · simp [h]
  · simp [h]
theorem ds_row_mono (f : Nat → Nat → Nat) (P : Nat → Bool) (v : Nat) {r r2 : Nat} (h : r ≤ r2) : ((ds_row f v r).filter P).length ≤ ((ds_row f v r2).filter P).length := by
  induction h with
  | refl => exact Nat.le_refl _
  | step h ih =>
    rw [ds_row_s, List.length_append]
    omega
theorem ds_oth_mono (f : Nat → Nat → Nat) (P : Nat → Bool) (v : Nat) {r r2 : Nat} (h : r ≤ r2) : (ds_oth f P v r).length ≤ (ds_oth f P v r2).length := by
  induction h with
  | refl => exact Nat.le_refl _
  | step h ih =>
    rw [ds_oth_s, List.length_append]
    omega
/-- g holds the list L from place e on -/
def ds_is (g : Nat → Nat) (e : Nat) (L : List Nat) : Prop := ∀ i, i < L.length → g (e + i) = L.getD i 0
theorem ds_is_nil (g : Nat → Nat) (e : Nat) : ds_is g e [] := fun i h => absurd h (Nat.not_lt_zero _)
theorem ds_is_push {g : Nat → Nat} {e : Nat} {L : List Nat} (x : Nat) (h : ds_is g e L) : ds_is (dw_up g (e + L.length) x) e (L ++ [x]) := by
  intro i hi
  rw [List.length_append, List.length_singleton] at hi
  unfold dw_up
  by_cases h1 : i = L.length
  · subst h1
    simp
  · have h2 : i < L.length := by omega
    rw [if_neg (by omega), h i h2]
    simp [List.getElem?_append_left h2]
/-- one step of a round: time and place -/
def ds_st (w : Nat → Nat → Nat) (pl sv : Nat → Nat) (z : Nat × Nat) (s : Nat) : Nat × Nat := (z.1 + (w z.2 (pl s) + sv s), pl s)
def ds_fold (w : Nat → Nat → Nat) (pl sv : Nat → Nat) (L : List Nat) : Nat × Nat := L.foldl (ds_st w pl sv) (0, 0)
def ds_time (w : Nat → Nat → Nat) (pl sv : Nat → Nat) (L : List Nat) : Nat := (ds_fold w pl sv L).1 + w (ds_fold w pl sv L).2 0
theorem ds_fold_s {w : Nat → Nat → Nat} {pl sv : Nat → Nat} {L : List Nat} {i : Nat} (h : i < L.length) : ds_fold w pl sv (L.take (i + 1)) = ds_st w pl sv (ds_fold w pl sv (L.take i)) (L.getD i 0) := by
  unfold ds_fold
  rw [List.take_succ_eq_append_getElem h, List.foldl_append]
  simp [List.getD, h]
theorem ds_fold_b {w : Nat → Nat → Nat} {pl sv : Nat → Nat} (hw : ∀ i j, i < 10 → j < 10 → w i j ≤ 10000) : ∀ (L : List Nat) (z : Nat × Nat), (∀ s ∈ L, pl s < 10 ∧ sv s ≤ 10000) → z.2 < 10 → (L.foldl (ds_st w pl sv) z).1 ≤ z.1 + 20000 * L.length ∧ (L.foldl (ds_st w pl sv) z).2 < 10
  | [], z, _, hz => by simp [hz]
  | s :: L, z, h, hz => by
    have h1 := h s List.mem_cons_self
    have h2 := ds_fold_b hw L (ds_st w pl sv z s) (fun x hx => h x (List.mem_cons_of_mem _ hx)) h1.1
    have h3 := hw z.2 (pl s) hz h1.1
    rw [List.foldl_cons]
    refine ⟨Nat.le_trans h2.1 ?_, h2.2⟩
    show z.1 + (w z.2 (pl s) + sv s) + 20000 * L.length ≤ z.1 + 20000 * (L.length + 1)
    omega
theorem ds_time_b {w : Nat → Nat → Nat} {pl sv : Nat → Nat} (hw : ∀ i j, i < 10 → j < 10 → w i j ≤ 10000) {L : List Nat} (h : ∀ s ∈ L, pl s < 10 ∧ sv s ≤ 10000) (hL : L.length ≤ 8) : ds_time w pl sv L ≤ 170000 := by
  obtain ⟨h1, h2⟩ := ds_fold_b hw L (0, 0) h (by decide)
  have h3 := hw (ds_fold w pl sv L).2 0 h2 (by decide)
  have h4 : (ds_fold w pl sv L).1 ≤ 0 + 20000 * L.length := h1
  unfold ds_time
  omega
theorem ds_fold_congr {w w2 : Nat → Nat → Nat} {pl pl2 sv sv2 : Nat → Nat} : ∀ (L : List Nat) (z : Nat × Nat), (∀ s ∈ L, pl s = pl2 s ∧ sv s = sv2 s ∧ pl s < 10) → z.2 < 10 → (∀ i j, i < 10 → j < 10 → w i j = w2 i j) → L.foldl (ds_st w pl sv) z = L.foldl (ds_st w2 pl2 sv2) z
  | [], _, _, _, _ => rfl
  | s :: L, z, h, hz, hw => by
    obtain ⟨h1, h2, h3⟩ := h s List.mem_cons_self
    rw [List.foldl_cons, List.foldl_cons]
    have e : ds_st w pl sv z s = ds_st w2 pl2 sv2 z s := by
      unfold ds_st
      rw [hw z.2 (pl s) hz h3, ← h1, ← h2]
    rw [← e]
    exact ds_fold_congr L _ (fun x hx => h x (List.mem_cons_of_mem _ hx)) h3 hw
/-- where s stands in L, from place i on -/
def ds_pos (s : Nat) : List Nat → Nat → Int32
  | [], _ => -1
  | x :: L, i => if x = s then nI i else ds_pos s L (i + 1)
