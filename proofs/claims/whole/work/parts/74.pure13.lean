/-! the reference: views, costs, tests -/
theorem md_v_r {f rw : Nat → Nat → Nat} {h : Nat → Nat} {z : Nat} : md_v (md_r f h z) rw = md_v f rw := md_congr (fun k h1 h2 _ => md_r_ne (by omega) (by omega)) (md_r_54 (by decide)) (md_r_54 (by decide)) (md_r_54 (by decide))
theorem md_r_id {f : Nat → Nat → Nat} : f = md_r f (f 74) (f 54 25) := by
  rw [md_r, dw_su_self]
  funext k
  by_cases h1 : k = 54
  · subst h1
    rw [dw_w_eq]
    funext j
    by_cases h2 : j = 25
    · rw [h2, dw_up_eq]
    · rw [dw_up_ne h2]
  · rw [dw_w_ne h1]
theorem md_r_r {f : Nat → Nat → Nat} {h h2 : Nat → Nat} {z z2 : Nat} : md_r (md_r f h z) h2 z2 = md_r f h2 z2 := by
  funext k
  by_cases h1 : k = 54
  · subst h1
    funext j
    by_cases e : j = 25
    · rw [e, md_r_z, md_r_z]
    · rw [md_r_54 e, md_r_54 e, md_r_54 e]
  · by_cases e : k = 74
    · rw [e, md_r_74, md_r_74]
    · rw [md_r_ne h1 e, md_r_ne h1 e, md_r_ne h1 e]
theorem ds_ov {t h : Nat} (ht : t < 2 ^ 30) (hh : h < 2 ^ 30) : (nI t - nI h ≤ 0) ↔ t ≤ h := by
  rw [Int32.le_iff_toInt_le, pk_sub_toInt ht hh, Int32.toInt_zero]
  omega
/-- times and overtimes of the plan p, of the vehicles below v -/
def ds_cst (F : Nat → Nat → Nat) (p : Nat → Nat) : Nat → Nat
  | 0 => 0
  | v + 1 => ds_cst F p v + (ds_tm F (fun x => p x == v) v + (ds_tm F (fun x => p x == v) v - F 19 v))
/-- the plan p keeps what is frozen, blocked, out, of the stops below i -/
def md_ap (F : Nat → Nat → Nat) (p : Nat → Nat) : Nat → Bool
  | 0 => true
  | i + 1 => md_ap F p i && ds_may F i (p i)
/-- no overtime of the vehicles below v is above the extra -/
def md_ho (F : Nat → Nat → Nat) (p : Nat → Nat) : Nat → Bool
  | 0 => true
  | v + 1 => md_ho F p v && decide (ds_tm F (fun x => p x == v) v - F 19 v ≤ F 1 16)
theorem md_may {f rw : Nat → Nat → Nat} {x v : Nat} : ds_may (md_v f rw) x v = (!(f 60 x != 0 && f 57 x != v) && (v == f 54 0 || (f 61 x == 0 && ds_can (md_v f rw) v x))) := rfl
theorem ds_cst_b {F : Nat → Nat → Nat} (ok : ds_ok F) (p : Nat → Nat) : ∀ v, v ≤ F 1 0 → ds_cst F p v ≤ 340000 * v
  | 0, _ => by simp [ds_cst]
  | v + 1, h => by
    have ih := ds_cst_b ok p v (by omega)
    have h1 := ds_tm_b ok (fun x => p x == v) (v := v) (by omega)
    unfold ds_cst
    omega
