/-! the layout: the cells of DaySwaps (0 .. 53) and of DaySwapsModel (54 .. 76) -/
def ds_tab : List (Nat × Nat × Nat) := [(4, 0, 0), (5, 0, 0), (6, 0, 0), (7, 0, 0), (8, 0, 0), (0, 8, 0), (0, 8, 0), (0, 8, 0), (0, 8, 0), (0, 8, 0), (0, 8, 0), (0, 8, 0), (1, 8, 0), (1, 8, 0), (3, 3, 22), (0, 3, 0), (3, 3, 25), (0, 3, 0), (0, 3, 0), (0, 3, 0), (3, 10, 28), (0, 8, 0), (0, 8, 0), (0, 8, 0), (0, 8, 0), (0, 8, 0), (0, 8, 0), (0, 8, 0), (0, 10, 0), (0, 10, 0), (0, 10, 0), (0, 10, 0), (0, 10, 0), (0, 10, 0), (0, 10, 0), (0, 10, 0), (0, 10, 0), (0, 10, 0), (3, 6, 39), (0, 8, 0), (0, 8, 0), (0, 8, 0), (0, 8, 0), (0, 8, 0), (0, 8, 0), (0, 6, 0), (3, 4, 47), (0, 8, 0), (0, 8, 0), (0, 8, 0), (0, 8, 0), (0, 4, 0), (2, 256, 0), (2, 256, 0), (9, 0, 0), (0, 8, 0), (0, 8, 0), (0, 8, 0), (0, 8, 0), (0, 3, 0), (1, 8, 0), (1, 8, 0), (0, 3, 0), (0, 3, 0), (0, 100, 0), (0, 8, 0), (0, 8, 0), (0, 8, 0), (0, 48, 0), (0, 6, 0), (0, 32, 0), (0, 4, 0), (0, 8, 0), (0, 8, 0), (0, 8, 0), (0, 8, 0), (0, 8, 0)]
abbrev ds_fs0 (a : Nat → Nat) (c : Nat → Nat) : List Value := [.ref (a 1), .ref (a 2), .ref (a 3), .ref (a 4), .ref (a 5), .ref (a 6), .ref (a 7)]
abbrev ds_fs1 (a : Nat → Nat) (c : Nat → Nat) : List Value := [.int (nI (c 0)), .int (nI (c 1)), .ref (a 8), .ref (a 9), .ref (a 10), .ref (a 11), .ref (a 12), .ref (a 13), .ref (a 14), .ref (a 15), .ref (a 16), .ref (a 17), .ref (a 18), .ref (a 19), .ref (a 20), .ref (a 21), .int (nI (c 16))]
abbrev ds_fs2 (a : Nat → Nat) (c : Nat → Nat) : List Value := [.ref (a 1), .ref (a 52), .ref (a 53)]
abbrev ds_fs3 (a : Nat → Nat) (c : Nat → Nat) : List Value := [.ref (a 38), .ref (a 45), .int (nI (c 2))]
abbrev ds_fs4 (a : Nat → Nat) (c : Nat → Nat) : List Value := [.ref (a 46), .ref (a 51), .int (nI (c 2))]
abbrev ds_fs54 (a : Nat → Nat) (c : Nat → Nat) : List Value := [.int (nI (c 0)), .int (nI (c 1)), .ref (a 55), .ref (a 56), .ref (a 57), .ref (a 58), .ref (a 59), .ref (a 60), .ref (a 61), .ref (a 62), .ref (a 63), .ref (a 64), .int (nI (c 12)), .ref (a 65), .ref (a 66), .ref (a 67), .int (nI (c 16)), .ref (a 68), .ref (a 69), .int (nI (c 19)), .ref (a 70), .ref (a 71), .ref (a 72), .ref (a 73), .ref (a 74), .int (nI (c 25)), .ref (a 75), .ref (a 76)]
def ds_ce (g : Nat → ClassId) (a : Nat → Nat) (k : Nat) (c : Nat → Nat) : va_E := match ds_tab.getD k (99, 0, 0) with
  | (0, n, _) => .inl (g 0, n, .inl (fun j => nI (c j)))
  | (1, n, _) => .inl (g 1, n, .inl (fun j => nI (c j)))
  | (2, n, _) => .inl (g 2, n, .inr (.inl (fun j => lN (c j))))
  | (3, n, b) => .inl (g 3, n, .inr (.inr (.inr (.inr (fun j => some (a (b + j)))))))
  | (4, _, _) => .inr (0, ds_fs0 a c)
  | (5, _, _) => .inr (1, ds_fs1 a c)
  | (6, _, _) => .inr (2, ds_fs2 a c)
  | (7, _, _) => .inr (3, ds_fs3 a c)
  | (8, _, _) => .inr (3, ds_fs4 a c)
  | (9, _, _) => .inr (4, ds_fs54 a c)
  | _ => .inr (99, [])
abbrev ds_tys (g : Nat → ClassId) : List (ClassId × FieldType) := [(g 0, .int), (g 1, .boolean), (g 2, .long), (g 3, .array .int)]
section
variable {g : Nat → ClassId} {a : Nat → Nat}
theorem ds_k5 : dw_Ci (ds_tys g) 77 (ds_ce g a) .int 5 8 := ⟨by decide, by decide, g 0, 0, rfl, fun _ => rfl⟩
theorem ds_k6 : dw_Ci (ds_tys g) 77 (ds_ce g a) .int 6 8 := ⟨by decide, by decide, g 0, 0, rfl, fun _ => rfl⟩
theorem ds_k7 : dw_Ci (ds_tys g) 77 (ds_ce g a) .int 7 8 := ⟨by decide, by decide, g 0, 0, rfl, fun _ => rfl⟩
theorem ds_k8 : dw_Ci (ds_tys g) 77 (ds_ce g a) .int 8 8 := ⟨by decide, by decide, g 0, 0, rfl, fun _ => rfl⟩
theorem ds_k9 : dw_Ci (ds_tys g) 77 (ds_ce g a) .int 9 8 := ⟨by decide, by decide, g 0, 0, rfl, fun _ => rfl⟩
theorem ds_k10 : dw_Ci (ds_tys g) 77 (ds_ce g a) .int 10 8 := ⟨by decide, by decide, g 0, 0, rfl, fun _ => rfl⟩
theorem ds_k11 : dw_Ci (ds_tys g) 77 (ds_ce g a) .int 11 8 := ⟨by decide, by decide, g 0, 0, rfl, fun _ => rfl⟩
theorem ds_k12 : dw_Ci (ds_tys g) 77 (ds_ce g a) .boolean 12 8 := ⟨by decide, by decide, g 1, 1, rfl, fun _ => rfl⟩
theorem ds_k13 : dw_Ci (ds_tys g) 77 (ds_ce g a) .boolean 13 8 := ⟨by decide, by decide, g 1, 1, rfl, fun _ => rfl⟩
theorem ds_k14 : dw_Cr (ds_tys g) 77 (ds_ce g a) a 14 3 22 := ⟨by decide, by decide, g 3, 3, rfl, fun _ => rfl⟩
theorem ds_k15 : dw_Ci (ds_tys g) 77 (ds_ce g a) .int 15 3 := ⟨by decide, by decide, g 0, 0, rfl, fun _ => rfl⟩
theorem ds_k16 : dw_Cr (ds_tys g) 77 (ds_ce g a) a 16 3 25 := ⟨by decide, by decide, g 3, 3, rfl, fun _ => rfl⟩
theorem ds_k17 : dw_Ci (ds_tys g) 77 (ds_ce g a) .int 17 3 := ⟨by decide, by decide, g 0, 0, rfl, fun _ => rfl⟩
theorem ds_k18 : dw_Ci (ds_tys g) 77 (ds_ce g a) .int 18 3 := ⟨by decide, by decide, g 0, 0, rfl, fun _ => rfl⟩
theorem ds_k19 : dw_Ci (ds_tys g) 77 (ds_ce g a) .int 19 3 := ⟨by decide, by decide, g 0, 0, rfl, fun _ => rfl⟩
theorem ds_k20 : dw_Cr (ds_tys g) 77 (ds_ce g a) a 20 10 28 := ⟨by decide, by decide, g 3, 3, rfl, fun _ => rfl⟩
theorem ds_k21 : dw_Ci (ds_tys g) 77 (ds_ce g a) .int 21 8 := ⟨by decide, by decide, g 0, 0, rfl, fun _ => rfl⟩
theorem ds_k22' : dw_Ci (ds_tys g) 77 (ds_ce g a) .int 22 8 := ⟨by decide, by decide, g 0, 0, rfl, fun _ => rfl⟩
theorem ds_k23 : dw_Ci (ds_tys g) 77 (ds_ce g a) .int 23 8 := ⟨by decide, by decide, g 0, 0, rfl, fun _ => rfl⟩
theorem ds_k24 : dw_Ci (ds_tys g) 77 (ds_ce g a) .int 24 8 := ⟨by decide, by decide, g 0, 0, rfl, fun _ => rfl⟩
theorem ds_k25' : dw_Ci (ds_tys g) 77 (ds_ce g a) .int 25 8 := ⟨by decide, by decide, g 0, 0, rfl, fun _ => rfl⟩
theorem ds_k26 : dw_Ci (ds_tys g) 77 (ds_ce g a) .int 26 8 := ⟨by decide, by decide, g 0, 0, rfl, fun _ => rfl⟩
theorem ds_k27 : dw_Ci (ds_tys g) 77 (ds_ce g a) .int 27 8 := ⟨by decide, by decide, g 0, 0, rfl, fun _ => rfl⟩
theorem ds_k28' : dw_Ci (ds_tys g) 77 (ds_ce g a) .int 28 10 := ⟨by decide, by decide, g 0, 0, rfl, fun _ => rfl⟩
theorem ds_k29 : dw_Ci (ds_tys g) 77 (ds_ce g a) .int 29 10 := ⟨by decide, by decide, g 0, 0, rfl, fun _ => rfl⟩
theorem ds_k30 : dw_Ci (ds_tys g) 77 (ds_ce g a) .int 30 10 := ⟨by decide, by decide, g 0, 0, rfl, fun _ => rfl⟩
theorem ds_k31 : dw_Ci (ds_tys g) 77 (ds_ce g a) .int 31 10 := ⟨by decide, by decide, g 0, 0, rfl, fun _ => rfl⟩
theorem ds_k32 : dw_Ci (ds_tys g) 77 (ds_ce g a) .int 32 10 := ⟨by decide, by decide, g 0, 0, rfl, fun _ => rfl⟩
theorem ds_k33 : dw_Ci (ds_tys g) 77 (ds_ce g a) .int 33 10 := ⟨by decide, by decide, g 0, 0, rfl, fun _ => rfl⟩
theorem ds_k34 : dw_Ci (ds_tys g) 77 (ds_ce g a) .int 34 10 := ⟨by decide, by decide, g 0, 0, rfl, fun _ => rfl⟩
theorem ds_k35 : dw_Ci (ds_tys g) 77 (ds_ce g a) .int 35 10 := ⟨by decide, by decide, g 0, 0, rfl, fun _ => rfl⟩
theorem ds_k36 : dw_Ci (ds_tys g) 77 (ds_ce g a) .int 36 10 := ⟨by decide, by decide, g 0, 0, rfl, fun _ => rfl⟩
theorem ds_k37 : dw_Ci (ds_tys g) 77 (ds_ce g a) .int 37 10 := ⟨by decide, by decide, g 0, 0, rfl, fun _ => rfl⟩
theorem ds_k38 : dw_Cr (ds_tys g) 77 (ds_ce g a) a 38 6 39 := ⟨by decide, by decide, g 3, 3, rfl, fun _ => rfl⟩
theorem ds_k39' : dw_Ci (ds_tys g) 77 (ds_ce g a) .int 39 8 := ⟨by decide, by decide, g 0, 0, rfl, fun _ => rfl⟩
theorem ds_k40 : dw_Ci (ds_tys g) 77 (ds_ce g a) .int 40 8 := ⟨by decide, by decide, g 0, 0, rfl, fun _ => rfl⟩
theorem ds_k41 : dw_Ci (ds_tys g) 77 (ds_ce g a) .int 41 8 := ⟨by decide, by decide, g 0, 0, rfl, fun _ => rfl⟩
theorem ds_k42 : dw_Ci (ds_tys g) 77 (ds_ce g a) .int 42 8 := ⟨by decide, by decide, g 0, 0, rfl, fun _ => rfl⟩
theorem ds_k43 : dw_Ci (ds_tys g) 77 (ds_ce g a) .int 43 8 := ⟨by decide, by decide, g 0, 0, rfl, fun _ => rfl⟩
theorem ds_k44 : dw_Ci (ds_tys g) 77 (ds_ce g a) .int 44 8 := ⟨by decide, by decide, g 0, 0, rfl, fun _ => rfl⟩
theorem ds_k45 : dw_Ci (ds_tys g) 77 (ds_ce g a) .int 45 6 := ⟨by decide, by decide, g 0, 0, rfl, fun _ => rfl⟩
theorem ds_k46 : dw_Cr (ds_tys g) 77 (ds_ce g a) a 46 4 47 := ⟨by decide, by decide, g 3, 3, rfl, fun _ => rfl⟩
theorem ds_k47' : dw_Ci (ds_tys g) 77 (ds_ce g a) .int 47 8 := ⟨by decide, by decide, g 0, 0, rfl, fun _ => rfl⟩
theorem ds_k48 : dw_Ci (ds_tys g) 77 (ds_ce g a) .int 48 8 := ⟨by decide, by decide, g 0, 0, rfl, fun _ => rfl⟩
theorem ds_k49 : dw_Ci (ds_tys g) 77 (ds_ce g a) .int 49 8 := ⟨by decide, by decide, g 0, 0, rfl, fun _ => rfl⟩
theorem ds_k50 : dw_Ci (ds_tys g) 77 (ds_ce g a) .int 50 8 := ⟨by decide, by decide, g 0, 0, rfl, fun _ => rfl⟩
theorem ds_k51 : dw_Ci (ds_tys g) 77 (ds_ce g a) .int 51 4 := ⟨by decide, by decide, g 0, 0, rfl, fun _ => rfl⟩
theorem ds_k52 : dw_Cl (ds_tys g) 77 (ds_ce g a) 52 256 := ⟨by decide, by decide, g 2, 2, rfl, fun _ => rfl⟩
theorem ds_k53 : dw_Cl (ds_tys g) 77 (ds_ce g a) 53 256 := ⟨by decide, by decide, g 2, 2, rfl, fun _ => rfl⟩
theorem ds_k55 : dw_Ci (ds_tys g) 77 (ds_ce g a) .int 55 8 := ⟨by decide, by decide, g 0, 0, rfl, fun _ => rfl⟩
theorem ds_k56 : dw_Ci (ds_tys g) 77 (ds_ce g a) .int 56 8 := ⟨by decide, by decide, g 0, 0, rfl, fun _ => rfl⟩
theorem ds_k57 : dw_Ci (ds_tys g) 77 (ds_ce g a) .int 57 8 := ⟨by decide, by decide, g 0, 0, rfl, fun _ => rfl⟩
theorem ds_k58 : dw_Ci (ds_tys g) 77 (ds_ce g a) .int 58 8 := ⟨by decide, by decide, g 0, 0, rfl, fun _ => rfl⟩
theorem ds_k59 : dw_Ci (ds_tys g) 77 (ds_ce g a) .int 59 3 := ⟨by decide, by decide, g 0, 0, rfl, fun _ => rfl⟩
theorem ds_k60 : dw_Ci (ds_tys g) 77 (ds_ce g a) .boolean 60 8 := ⟨by decide, by decide, g 1, 1, rfl, fun _ => rfl⟩
theorem ds_k61 : dw_Ci (ds_tys g) 77 (ds_ce g a) .boolean 61 8 := ⟨by decide, by decide, g 1, 1, rfl, fun _ => rfl⟩
theorem ds_k62 : dw_Ci (ds_tys g) 77 (ds_ce g a) .int 62 3 := ⟨by decide, by decide, g 0, 0, rfl, fun _ => rfl⟩
theorem ds_k63 : dw_Ci (ds_tys g) 77 (ds_ce g a) .int 63 3 := ⟨by decide, by decide, g 0, 0, rfl, fun _ => rfl⟩
theorem ds_k64 : dw_Ci (ds_tys g) 77 (ds_ce g a) .int 64 100 := ⟨by decide, by decide, g 0, 0, rfl, fun _ => rfl⟩
theorem ds_k65 : dw_Ci (ds_tys g) 77 (ds_ce g a) .int 65 8 := ⟨by decide, by decide, g 0, 0, rfl, fun _ => rfl⟩
theorem ds_k66 : dw_Ci (ds_tys g) 77 (ds_ce g a) .int 66 8 := ⟨by decide, by decide, g 0, 0, rfl, fun _ => rfl⟩
theorem ds_k67 : dw_Ci (ds_tys g) 77 (ds_ce g a) .int 67 8 := ⟨by decide, by decide, g 0, 0, rfl, fun _ => rfl⟩
theorem ds_k68 : dw_Ci (ds_tys g) 77 (ds_ce g a) .int 68 48 := ⟨by decide, by decide, g 0, 0, rfl, fun _ => rfl⟩
theorem ds_k69 : dw_Ci (ds_tys g) 77 (ds_ce g a) .int 69 6 := ⟨by decide, by decide, g 0, 0, rfl, fun _ => rfl⟩
theorem ds_k70 : dw_Ci (ds_tys g) 77 (ds_ce g a) .int 70 32 := ⟨by decide, by decide, g 0, 0, rfl, fun _ => rfl⟩
theorem ds_k71 : dw_Ci (ds_tys g) 77 (ds_ce g a) .int 71 4 := ⟨by decide, by decide, g 0, 0, rfl, fun _ => rfl⟩
theorem ds_k72 : dw_Ci (ds_tys g) 77 (ds_ce g a) .int 72 8 := ⟨by decide, by decide, g 0, 0, rfl, fun _ => rfl⟩
theorem ds_k73 : dw_Ci (ds_tys g) 77 (ds_ce g a) .int 73 8 := ⟨by decide, by decide, g 0, 0, rfl, fun _ => rfl⟩
theorem ds_k74 : dw_Ci (ds_tys g) 77 (ds_ce g a) .int 74 8 := ⟨by decide, by decide, g 0, 0, rfl, fun _ => rfl⟩
theorem ds_k75 : dw_Ci (ds_tys g) 77 (ds_ce g a) .int 75 8 := ⟨by decide, by decide, g 0, 0, rfl, fun _ => rfl⟩
theorem ds_k76 : dw_Ci (ds_tys g) 77 (ds_ce g a) .int 76 8 := ⟨by decide, by decide, g 0, 0, rfl, fun _ => rfl⟩
theorem ds_k22 {v : Nat} (h : v < 3) : dw_Ci (ds_tys g) 77 (ds_ce g a) .int (22 + v) 8 := by
  rcases (show v = 0 ∨ v = 1 ∨ v = 2 by omega) with rfl | rfl | rfl
  · exact ds_k22'
  · exact ds_k23
  · exact ds_k24
theorem ds_k25 {v : Nat} (h : v < 3) : dw_Ci (ds_tys g) 77 (ds_ce g a) .int (25 + v) 8 := by
  rcases (show v = 0 ∨ v = 1 ∨ v = 2 by omega) with rfl | rfl | rfl
  · exact ds_k25'
  · exact ds_k26
  · exact ds_k27
theorem ds_k28 {v : Nat} (h : v < 10) : dw_Ci (ds_tys g) 77 (ds_ce g a) .int (28 + v) 10 := by
  rcases (show v = 0 ∨ v = 1 ∨ v = 2 ∨ v = 3 ∨ v = 4 ∨ v = 5 ∨ v = 6 ∨ v = 7 ∨ v = 8 ∨ v = 9 by omega) with rfl | rfl | rfl | rfl | rfl | rfl | rfl | rfl | rfl | rfl
  · exact ds_k28'
  · exact ds_k29
  · exact ds_k30
  · exact ds_k31
  · exact ds_k32
  · exact ds_k33
  · exact ds_k34
  · exact ds_k35
  · exact ds_k36
  · exact ds_k37
theorem ds_k39 {v : Nat} (h : v < 6) : dw_Ci (ds_tys g) 77 (ds_ce g a) .int (39 + v) 8 := by
  rcases (show v = 0 ∨ v = 1 ∨ v = 2 ∨ v = 3 ∨ v = 4 ∨ v = 5 by omega) with rfl | rfl | rfl | rfl | rfl | rfl
  · exact ds_k39'
  · exact ds_k40
  · exact ds_k41
  · exact ds_k42
  · exact ds_k43
  · exact ds_k44
theorem ds_k47 {v : Nat} (h : v < 4) : dw_Ci (ds_tys g) 77 (ds_ce g a) .int (47 + v) 8 := by
  rcases (show v = 0 ∨ v = 1 ∨ v = 2 ∨ v = 3 by omega) with rfl | rfl | rfl | rfl
  · exact ds_k47'
  · exact ds_k48
  · exact ds_k49
  · exact ds_k50
theorem ds_ob0 : dw_Co classes 77 (ds_ce g a) 0 0 R_DS F_DS 7 (ds_fs0 a) := ⟨by decide, rfl, fun _ => rfl⟩
theorem ds_ob1 : dw_Co classes 77 (ds_ce g a) 1 1 R_Day F_Day 17 (ds_fs1 a) := ⟨by decide, rfl, fun _ => rfl⟩
theorem ds_ob2 : dw_Co classes 77 (ds_ce g a) 2 2 R_Se F_Se 3 (ds_fs2 a) := ⟨by decide, rfl, fun _ => rfl⟩
theorem ds_ob3 : dw_Co classes 77 (ds_ce g a) 3 3 R_Sh F_Sh 3 (ds_fs3 a) := ⟨by decide, rfl, fun _ => rfl⟩
theorem ds_ob4 : dw_Co classes 77 (ds_ce g a) 4 3 R_Sh F_Sh 3 (ds_fs4 a) := ⟨by decide, rfl, fun _ => rfl⟩
theorem ds_ob54 : dw_Co classes 77 (ds_ce g a) 54 4 R_Mo F_Mo 28 (ds_fs54 a) := ⟨by decide, rfl, fun _ => rfl⟩
end
abbrev ds_I (l : Launch) (D : va_G) (g : Nat → ClassId) (a : Nat → Nat) (y : MethodName) (b : ByteArray) (nL : Nat) (ty : FieldType) (fr lo : Nat) (As : List Value) (f : Nat → Nat → Nat) (post : Int32 → (Nat → Nat → Nat) → Prop) : Prop := dw_CI l lw_tbl D classes (ds_tys g) 77 (ds_ce g a) a y (Cond.code y b nL (some ty) :: ds_T) fr lo As f post
abbrev ds_L (l : Launch) (D : va_G) (g : Nat → ClassId) (a : Nat → Nat) (y : MethodName) (b : ByteArray) (nL : Nat) (fr lo : Nat) (As : List Value) (f : Nat → Nat → Nat) (post : Int64 → (Nat → Nat → Nat) → Prop) : Prop := dw_CL l lw_tbl D classes (ds_tys g) 77 (ds_ce g a) a y (Cond.code y b nL (some .long) :: ds_T) fr lo As f post
abbrev ds_V (l : Launch) (D : va_G) (g : Nat → ClassId) (a : Nat → Nat) (y : MethodName) (b : ByteArray) (nL : Nat) (fr lo : Nat) (As : List Value) (f : Nat → Nat → Nat) (post : (Nat → Nat → Nat) → Prop) : Prop := dw_CV l lw_tbl D classes (ds_tys g) 77 (ds_ce g a) a y (Cond.code y b nL none :: ds_T) fr lo As f post
