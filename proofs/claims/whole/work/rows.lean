section
/-- a private method of a class that the tables say can be made, by its rows of tables_1 -/
def lw_okq (q : MethodName × Nat) : Prop := (q.1.cls ≠ "java/lang/invoke/MethodHandle" ∧ q.1.cls ≠ "java/lang/invoke/VarHandle") ∧ Cond.instantiable q.1.cls q.2 ∈ tables_1 ∧ Cond.privateMethod q.1 ∈ tables_1 ∧ Cond.instanceMethod q.1 ∈ tables_1
theorem lw_p0 : lw_okq (⟨"DaySwaps$Day", "isVehicle", "(I)Z"⟩, 17) := ⟨⟨by decide +kernel, by decide +kernel⟩, List.mem_of_getElem? (i := 19) (by decide +kernel), List.mem_of_getElem? (i := 162) (by decide +kernel), List.mem_of_getElem? (i := 163) (by decide +kernel)⟩
theorem lw_p1 : lw_okq (⟨"DaySwaps$Day", "tell", "(III)I"⟩, 17) := ⟨⟨by decide +kernel, by decide +kernel⟩, List.mem_of_getElem? (i := 19) (by decide +kernel), List.mem_of_getElem? (i := 170) (by decide +kernel), List.mem_of_getElem? (i := 171) (by decide +kernel)⟩
theorem lw_p2 : lw_okq (⟨"DaySwaps$Day", "append", "(II)V"⟩, 17) := ⟨⟨by decide +kernel, by decide +kernel⟩, List.mem_of_getElem? (i := 19) (by decide +kernel), List.mem_of_getElem? (i := 174) (by decide +kernel), List.mem_of_getElem? (i := 175) (by decide +kernel)⟩
theorem lw_p3 : lw_okq (⟨"DaySwaps$Day", "isStop", "(I)Z"⟩, 17) := ⟨⟨by decide +kernel, by decide +kernel⟩, List.mem_of_getElem? (i := 19) (by decide +kernel), List.mem_of_getElem? (i := 182) (by decide +kernel), List.mem_of_getElem? (i := 183) (by decide +kernel)⟩
theorem lw_p4 : lw_okq (⟨"DaySwaps$Search", "least", "()J"⟩, 3) := ⟨⟨by decide +kernel, by decide +kernel⟩, List.mem_of_getElem? (i := 99) (by decide +kernel), List.mem_of_getElem? (i := 211) (by decide +kernel), List.mem_of_getElem? (i := 212) (by decide +kernel)⟩
theorem lw_p5 : lw_okq (⟨"DaySwaps$Search", "weightOf", "(II)J"⟩, 3) := ⟨⟨by decide +kernel, by decide +kernel⟩, List.mem_of_getElem? (i := 99) (by decide +kernel), List.mem_of_getElem? (i := 215) (by decide +kernel), List.mem_of_getElem? (i := 216) (by decide +kernel)⟩
theorem lw_p6 : lw_okq (⟨"DaySwaps$Day", "mayHave", "(II)Z"⟩, 17) := ⟨⟨by decide +kernel, by decide +kernel⟩, List.mem_of_getElem? (i := 19) (by decide +kernel), List.mem_of_getElem? (i := 222) (by decide +kernel), List.mem_of_getElem? (i := 223) (by decide +kernel)⟩
theorem lw_p7 : lw_okq (⟨"DaySwaps$Day", "canDo", "(II)Z"⟩, 17) := ⟨⟨by decide +kernel, by decide +kernel⟩, List.mem_of_getElem? (i := 19) (by decide +kernel), List.mem_of_getElem? (i := 226) (by decide +kernel), List.mem_of_getElem? (i := 227) (by decide +kernel)⟩
theorem lw_p8 : lw_okq (⟨"DaySwaps$Day", "timeOf", "(II)I"⟩, 17) := ⟨⟨by decide +kernel, by decide +kernel⟩, List.mem_of_getElem? (i := 19) (by decide +kernel), List.mem_of_getElem? (i := 235) (by decide +kernel), List.mem_of_getElem? (i := 236) (by decide +kernel)⟩
theorem lw_p9 : lw_okq (⟨"DaySwaps$Day", "addRound", "(II[II)I"⟩, 17) := ⟨⟨by decide +kernel, by decide +kernel⟩, List.mem_of_getElem? (i := 19) (by decide +kernel), List.mem_of_getElem? (i := 239) (by decide +kernel), List.mem_of_getElem? (i := 240) (by decide +kernel)⟩
theorem lw_p10 : lw_okq (⟨"DaySwaps$Day", "overHours", "(II)I"⟩, 17) := ⟨⟨by decide +kernel, by decide +kernel⟩, List.mem_of_getElem? (i := 19) (by decide +kernel), List.mem_of_getElem? (i := 244) (by decide +kernel), List.mem_of_getElem? (i := 245) (by decide +kernel)⟩
theorem lw_p11 : lw_okq (⟨"DaySwaps$Search", "join", "(I)V"⟩, 3) := ⟨⟨by decide +kernel, by decide +kernel⟩, List.mem_of_getElem? (i := 99) (by decide +kernel), List.mem_of_getElem? (i := 251) (by decide +kernel), List.mem_of_getElem? (i := 252) (by decide +kernel)⟩
theorem lw_p12 : lw_okq (⟨"DaySwaps", "whyNoPlan", "()I"⟩, 7) := ⟨⟨by decide +kernel, by decide +kernel⟩, List.mem_of_getElem? (i := 11) (by decide +kernel), List.mem_of_getElem? (i := 259) (by decide +kernel), List.mem_of_getElem? (i := 260) (by decide +kernel)⟩
theorem lw_p13 : lw_okq (⟨"DaySwaps$Shelf", "putLatest", "([II)V"⟩, 3) := ⟨⟨by decide +kernel, by decide +kernel⟩, List.mem_of_getElem? (i := 116) (by decide +kernel), List.mem_of_getElem? (i := 264) (by decide +kernel), List.mem_of_getElem? (i := 265) (by decide +kernel)⟩
theorem lw_p14 : lw_okq (⟨"DaySwaps", "movedSet", "()I"⟩, 7) := ⟨⟨by decide +kernel, by decide +kernel⟩, List.mem_of_getElem? (i := 11) (by decide +kernel), List.mem_of_getElem? (i := 274) (by decide +kernel), List.mem_of_getElem? (i := 275) (by decide +kernel)⟩
theorem lw_p15 : lw_okq (⟨"DaySwaps", "setOf", "(I)I"⟩, 7) := ⟨⟨by decide +kernel, by decide +kernel⟩, List.mem_of_getElem? (i := 11) (by decide +kernel), List.mem_of_getElem? (i := 292) (by decide +kernel), List.mem_of_getElem? (i := 293) (by decide +kernel)⟩
def lw_privs_1 : List (MethodName × Nat) := [(⟨"DaySwaps$Day", "isVehicle", "(I)Z"⟩, 17), (⟨"DaySwaps$Day", "tell", "(III)I"⟩, 17), (⟨"DaySwaps$Day", "append", "(II)V"⟩, 17), (⟨"DaySwaps$Day", "isStop", "(I)Z"⟩, 17), (⟨"DaySwaps$Search", "least", "()J"⟩, 3), (⟨"DaySwaps$Search", "weightOf", "(II)J"⟩, 3), (⟨"DaySwaps$Day", "mayHave", "(II)Z"⟩, 17), (⟨"DaySwaps$Day", "canDo", "(II)Z"⟩, 17), (⟨"DaySwaps$Day", "timeOf", "(II)I"⟩, 17), (⟨"DaySwaps$Day", "addRound", "(II[II)I"⟩, 17), (⟨"DaySwaps$Day", "overHours", "(II)I"⟩, 17), (⟨"DaySwaps$Search", "join", "(I)V"⟩, 3), (⟨"DaySwaps", "whyNoPlan", "()I"⟩, 7), (⟨"DaySwaps$Shelf", "putLatest", "([II)V"⟩, 3), (⟨"DaySwaps", "movedSet", "()I"⟩, 7), (⟨"DaySwaps", "setOf", "(I)I"⟩, 7)]
theorem lw_r1 : ∀ q ∈ lw_privs_1, lw_okq q := List.forall_mem_cons.mpr ⟨lw_p0, List.forall_mem_cons.mpr ⟨lw_p1, List.forall_mem_cons.mpr ⟨lw_p2, List.forall_mem_cons.mpr ⟨lw_p3, List.forall_mem_cons.mpr ⟨lw_p4, List.forall_mem_cons.mpr ⟨lw_p5, List.forall_mem_cons.mpr ⟨lw_p6, List.forall_mem_cons.mpr ⟨lw_p7, List.forall_mem_cons.mpr ⟨lw_p8, List.forall_mem_cons.mpr ⟨lw_p9, List.forall_mem_cons.mpr ⟨lw_p10, List.forall_mem_cons.mpr ⟨lw_p11, List.forall_mem_cons.mpr ⟨lw_p12, List.forall_mem_cons.mpr ⟨lw_p13, List.forall_mem_cons.mpr ⟨lw_p14, List.forall_mem_cons.mpr ⟨lw_p15, fun _ h => absurd h List.not_mem_nil⟩⟩⟩⟩⟩⟩⟩⟩⟩⟩⟩⟩⟩⟩⟩⟩
theorem lw_p16 : lw_okq (⟨"DaySwaps$Day", "placeInRound", "(III)I"⟩, 17) := ⟨⟨by decide +kernel, by decide +kernel⟩, List.mem_of_getElem? (i := 19) (by decide +kernel), List.mem_of_getElem? (i := 296) (by decide +kernel), List.mem_of_getElem? (i := 297) (by decide +kernel)⟩
theorem lw_p17 : lw_okq (⟨"DaySwaps$Day", "prepareRow", "(III)V"⟩, 17) := ⟨⟨by decide +kernel, by decide +kernel⟩, List.mem_of_getElem? (i := 19) (by decide +kernel), List.mem_of_getElem? (i := 346) (by decide +kernel), List.mem_of_getElem? (i := 347) (by decide +kernel)⟩
theorem lw_p18 : lw_okq (⟨"DaySwaps$Day", "turn", "()V"⟩, 17) := ⟨⟨by decide +kernel, by decide +kernel⟩, List.mem_of_getElem? (i := 19) (by decide +kernel), List.mem_of_getElem? (i := 350) (by decide +kernel), List.mem_of_getElem? (i := 351) (by decide +kernel)⟩
theorem lw_p19 : lw_okq (⟨"DaySwapsModel", "isVehicle", "(I)Z"⟩, 28) := ⟨⟨by decide +kernel, by decide +kernel⟩, List.mem_of_getElem? (i := 357) (by decide +kernel), List.mem_of_getElem? (i := 452) (by decide +kernel), List.mem_of_getElem? (i := 453) (by decide +kernel)⟩
theorem lw_p20 : lw_okq (⟨"DaySwapsModel", "isStop", "(I)Z"⟩, 28) := ⟨⟨by decide +kernel, by decide +kernel⟩, List.mem_of_getElem? (i := 357) (by decide +kernel), List.mem_of_getElem? (i := 465) (by decide +kernel), List.mem_of_getElem? (i := 466) (by decide +kernel)⟩
theorem lw_p21 : lw_okq (⟨"DaySwapsModel", "costOf", "([I)J"⟩, 28) := ⟨⟨by decide +kernel, by decide +kernel⟩, List.mem_of_getElem? (i := 357) (by decide +kernel), List.mem_of_getElem? (i := 495) (by decide +kernel), List.mem_of_getElem? (i := 496) (by decide +kernel)⟩
theorem lw_p22 : lw_okq (⟨"DaySwapsModel", "timeOf", "([II)I"⟩, 28) := ⟨⟨by decide +kernel, by decide +kernel⟩, List.mem_of_getElem? (i := 357) (by decide +kernel), List.mem_of_getElem? (i := 499) (by decide +kernel), List.mem_of_getElem? (i := 500) (by decide +kernel)⟩
theorem lw_p23 : lw_okq (⟨"DaySwapsModel", "go", "([II)V"⟩, 28) := ⟨⟨by decide +kernel, by decide +kernel⟩, List.mem_of_getElem? (i := 357) (by decide +kernel), List.mem_of_getElem? (i := 503) (by decide +kernel), List.mem_of_getElem? (i := 504) (by decide +kernel)⟩
theorem lw_p24 : lw_okq (⟨"DaySwapsModel", "overtimeOf", "([II)I"⟩, 28) := ⟨⟨by decide +kernel, by decide +kernel⟩, List.mem_of_getElem? (i := 357) (by decide +kernel), List.mem_of_getElem? (i := 507) (by decide +kernel), List.mem_of_getElem? (i := 508) (by decide +kernel)⟩
theorem lw_p25 : lw_okq (⟨"DaySwapsModel", "movedBy", "([I)I"⟩, 28) := ⟨⟨by decide +kernel, by decide +kernel⟩, List.mem_of_getElem? (i := 357) (by decide +kernel), List.mem_of_getElem? (i := 519) (by decide +kernel), List.mem_of_getElem? (i := 520) (by decide +kernel)⟩
theorem lw_p26 : lw_okq (⟨"DaySwapsModel", "holdsApart", "()Z"⟩, 28) := ⟨⟨by decide +kernel, by decide +kernel⟩, List.mem_of_getElem? (i := 357) (by decide +kernel), List.mem_of_getElem? (i := 523) (by decide +kernel), List.mem_of_getElem? (i := 524) (by decide +kernel)⟩
theorem lw_p27 : lw_okq (⟨"DaySwapsModel", "can", "(II)Z"⟩, 28) := ⟨⟨by decide +kernel, by decide +kernel⟩, List.mem_of_getElem? (i := 357) (by decide +kernel), List.mem_of_getElem? (i := 527) (by decide +kernel), List.mem_of_getElem? (i := 528) (by decide +kernel)⟩
theorem lw_p28 : lw_okq (⟨"DaySwapsModel", "holdsOvertime", "()Z"⟩, 28) := ⟨⟨by decide +kernel, by decide +kernel⟩, List.mem_of_getElem? (i := 357) (by decide +kernel), List.mem_of_getElem? (i := 531) (by decide +kernel), List.mem_of_getElem? (i := 532) (by decide +kernel)⟩
theorem lw_p29 : lw_okq (⟨"DaySwapsModel", "turn", "()Z"⟩, 28) := ⟨⟨by decide +kernel, by decide +kernel⟩, List.mem_of_getElem? (i := 357) (by decide +kernel), List.mem_of_getElem? (i := 535) (by decide +kernel), List.mem_of_getElem? (i := 536) (by decide +kernel)⟩
theorem lw_p30 : lw_okq (⟨"DaySwapsModel", "why", "()I"⟩, 28) := ⟨⟨by decide +kernel, by decide +kernel⟩, List.mem_of_getElem? (i := 357) (by decide +kernel), List.mem_of_getElem? (i := 539) (by decide +kernel), List.mem_of_getElem? (i := 540) (by decide +kernel)⟩
theorem lw_p31 : lw_okq (⟨"DaySwapsModel", "keep", "()V"⟩, 28) := ⟨⟨by decide +kernel, by decide +kernel⟩, List.mem_of_getElem? (i := 357) (by decide +kernel), List.mem_of_getElem? (i := 543) (by decide +kernel), List.mem_of_getElem? (i := 544) (by decide +kernel)⟩
def lw_privs_2 : List (MethodName × Nat) := [(⟨"DaySwaps$Day", "placeInRound", "(III)I"⟩, 17), (⟨"DaySwaps$Day", "prepareRow", "(III)V"⟩, 17), (⟨"DaySwaps$Day", "turn", "()V"⟩, 17), (⟨"DaySwapsModel", "isVehicle", "(I)Z"⟩, 28), (⟨"DaySwapsModel", "isStop", "(I)Z"⟩, 28), (⟨"DaySwapsModel", "costOf", "([I)J"⟩, 28), (⟨"DaySwapsModel", "timeOf", "([II)I"⟩, 28), (⟨"DaySwapsModel", "go", "([II)V"⟩, 28), (⟨"DaySwapsModel", "overtimeOf", "([II)I"⟩, 28), (⟨"DaySwapsModel", "movedBy", "([I)I"⟩, 28), (⟨"DaySwapsModel", "holdsApart", "()Z"⟩, 28), (⟨"DaySwapsModel", "can", "(II)Z"⟩, 28), (⟨"DaySwapsModel", "holdsOvertime", "()Z"⟩, 28), (⟨"DaySwapsModel", "turn", "()Z"⟩, 28), (⟨"DaySwapsModel", "why", "()I"⟩, 28), (⟨"DaySwapsModel", "keep", "()V"⟩, 28)]
theorem lw_r2 : ∀ q ∈ lw_privs_2, lw_okq q := List.forall_mem_cons.mpr ⟨lw_p16, List.forall_mem_cons.mpr ⟨lw_p17, List.forall_mem_cons.mpr ⟨lw_p18, List.forall_mem_cons.mpr ⟨lw_p19, List.forall_mem_cons.mpr ⟨lw_p20, List.forall_mem_cons.mpr ⟨lw_p21, List.forall_mem_cons.mpr ⟨lw_p22, List.forall_mem_cons.mpr ⟨lw_p23, List.forall_mem_cons.mpr ⟨lw_p24, List.forall_mem_cons.mpr ⟨lw_p25, List.forall_mem_cons.mpr ⟨lw_p26, List.forall_mem_cons.mpr ⟨lw_p27, List.forall_mem_cons.mpr ⟨lw_p28, List.forall_mem_cons.mpr ⟨lw_p29, List.forall_mem_cons.mpr ⟨lw_p30, List.forall_mem_cons.mpr ⟨lw_p31, fun _ h => absurd h List.not_mem_nil⟩⟩⟩⟩⟩⟩⟩⟩⟩⟩⟩⟩⟩⟩⟩⟩
def lw_privs : List (MethodName × Nat) := lw_privs_1 ++ (lw_privs_2)
def lw_tbl : List Cond := k2_sels lw_privs ++ tables_1
theorem lw_privs_ok : ∀ q ∈ lw_privs, lw_okq q := by
  show ∀ q ∈ lw_privs_1 ++ (lw_privs_2), lw_okq q
  exact List.forall_mem_append.mpr ⟨lw_r1, lw_r2⟩
end
section
/-! numbers: rows over nI and lN -/
theorem dn_and (a b : Nat) : nI a &&& nI b = nI (a &&& b) := by
  apply Int32.toBitVec_inj.1
  show BitVec.ofNat 32 a &&& BitVec.ofNat 32 b = BitVec.ofNat 32 (a &&& b)
  apply BitVec.eq_of_getLsbD_eq
  intro i hi
  simp [hi]
theorem dn_or (a b : Nat) : nI a ||| nI b = nI (a ||| b) := by
  apply Int32.toBitVec_inj.1
  show BitVec.ofNat 32 a ||| BitVec.ofNat 32 b = BitVec.ofNat 32 (a ||| b)
  apply BitVec.eq_of_getLsbD_eq
  intro i hi
  simp [hi]
theorem dn_xor (a b : Nat) : nI a ^^^ nI b = nI (a ^^^ b) := by
  apply Int32.toBitVec_inj.1
  show BitVec.ofNat 32 a ^^^ BitVec.ofNat 32 b = BitVec.ofNat 32 (a ^^^ b)
  apply BitVec.eq_of_getLsbD_eq
  intro i hi
  simp [hi]
theorem dn_amt : ∀ n, n < 32 → ((nI n &&& 31).toBitVec.smod 32).toNat = n := by decide +kernel
theorem dn_amtL : ∀ n, n < 64 → ((((nI n).toInt64 &&& 63) : Int64).toBitVec.smod 64).toNat = n := by decide +kernel
theorem dn_amtB : ∀ n, n < 64 → (((nI n).toInt64 &&& 63) : Int64).toBitVec.smod 64 = BitVec.ofNat 64 n := by decide +kernel
theorem dn_shl {n k : Nat} (hk : k < 32) (h : n * 2 ^ k < 2 ^ 32) : nI n <<< (nI k &&& 31) = nI (n * 2 ^ k) := pk_shlN _ k (dn_amt k hk) h
theorem dn_shr {n k : Nat} (hk : k < 32) (h : n < 2 ^ 31) : nI n >>> (nI k &&& 31) = nI (n / 2 ^ k) := pk_shrN h _ k (dn_amt k hk)
theorem dn_lbv (n : Nat) : (lN n).toBitVec = BitVec.ofNat 64 n := rfl
theorem dn_linj {a b : Int64} (h : a.toBitVec = b.toBitVec) : a = b := Int64.toBitVec_inj.mp h
theorem dn_lshl (n : Nat) {k : Nat} (hk : k < 64) : lN n <<< ((nI k).toInt64 &&& 63) = lN (n * 2 ^ k) := by
  apply dn_linj
  rw [Int64.toBitVec_shiftLeft]
  show (lN n).toBitVec <<< (((nI k).toInt64 &&& 63).toBitVec.smod 64) = (lN (n * 2 ^ k)).toBitVec
  rw [dn_amtB k hk, dn_lbv, dn_lbv, BitVec.shiftLeft_eq']
  apply BitVec.eq_of_toNat_eq
  rw [BitVec.toNat_shiftLeft, BitVec.toNat_ofNat, BitVec.toNat_ofNat, BitVec.toNat_ofNat, Nat.shiftLeft_eq, Nat.mod_eq_of_lt (show k < 2 ^ 64 by omega)]
  simp [Nat.mod_mul_mod]
theorem dn_lI {a : Nat} (h : a < 2 ^ 63) : (lN a).toInt = (a : Int) := pk_lT h
theorem dn_lshr {a k : Nat} (hk : k < 64) (h : a < 2 ^ 63) : lN a >>> ((nI k).toInt64 &&& 63) = lN (a / 2 ^ k) := by
  apply Int64.toInt_inj.mp
  rw [dn_lI (Nat.lt_of_le_of_lt (Nat.div_le_self _ _) h)]
  show ((lN a) >>> ((nI k).toInt64 &&& 63)).toBitVec.toInt = _
  rw [Int64.toBitVec_shiftRight]
  show ((lN a).toBitVec.sshiftRight (((nI k).toInt64 &&& 63).toBitVec.smod 64).toNat).toInt = _
  rw [dn_amtL k hk, BitVec.toInt_sshiftRight]
  show (lN a).toInt >>> k = _
  rw [dn_lI h]
  simp [Int.shiftRight_eq_div_pow]
def dn_b (P : Prop) [Decidable P] : Nat := if P then 1 else 0
theorem dn_b1 {P : Prop} [Decidable P] (h : P) : dn_b P = 1 := if_pos h
theorem dn_b0 {P : Prop} [Decidable P] (h : ¬ P) : dn_b P = 0 := if_neg h
theorem dn_ble {P : Prop} [Decidable P] : dn_b P ≤ 1 := by unfold dn_b; split <;> omega
theorem dn_bz {P : Prop} [Decidable P] : nI (dn_b P) = 0 ↔ ¬ P := by
  by_cases h : P
  · rw [dn_b1 h]; exact ⟨fun q => absurd q (by decide), fun q => absurd h q⟩
  · rw [dn_b0 h]; exact ⟨fun _ => h, fun _ => rfl⟩
theorem dn_nar {P : Prop} [Decidable P] : narrow .boolean (.int (nI (dn_b P))) = .int (nI (dn_b P)) := by
  by_cases h : P
  · rw [dn_b1 h]; rfl
  · rw [dn_b0 h]; rfl
section
variable {p : Program} {l : Launch} {e : Env} {R : Room} {s : State} {m : MethodId} {args : Array Value} {below : List Frame} {meth : Method} {c : Code} {H : Heap} {locs : List Loc} {cells slots : Nat} {Q : State → Prop} {cc : ByteArray} {pc : Nat} {ls : Array Slot} {rest : List Value}
theorem dn_iadd (hx : p.tables.exec = Jvm.exec) (hb : c.code = cc) {x y : Nat} (hdg : decode cc pc = .ok (.iadd, 1)) (k : W p l e R s m args below meth c H locs cells slots Q (F0 m (pc + 1) ls (.int (nI (x + y)) :: rest))) : W p l e R s m args below meth c H locs cells slots Q (F0 m pc ls (.int (nI y) :: .int (nI x) :: rest)) := lv_iadd hx hb hdg (by rw [nI_add]; exact k)
theorem dn_isub (hx : p.tables.exec = Jvm.exec) (hb : c.code = cc) {x y : Nat} (h : y ≤ x) (hdg : decode cc pc = .ok (.isub, 1)) (k : W p l e R s m args below meth c H locs cells slots Q (F0 m (pc + 1) ls (.int (nI (x - y)) :: rest))) : W p l e R s m args below meth c H locs cells slots Q (F0 m pc ls (.int (nI y) :: .int (nI x) :: rest)) := lv_isub hx hb hdg (by rw [pk_sub h]; exact k)
theorem dn_imul (hx : p.tables.exec = Jvm.exec) (hb : c.code = cc) {x y : Nat} (hdg : decode cc pc = .ok (.imul, 1)) (k : W p l e R s m args below meth c H locs cells slots Q (F0 m (pc + 1) ls (.int (nI (x * y)) :: rest))) : W p l e R s m args below meth c H locs cells slots Q (F0 m pc ls (.int (nI y) :: .int (nI x) :: rest)) := lv_imul hx hb hdg (by rw [pk_mul]; exact k)
theorem dn_iand (hx : p.tables.exec = Jvm.exec) (hb : c.code = cc) {x y : Nat} (hdg : decode cc pc = .ok (.iand, 1)) (k : W p l e R s m args below meth c H locs cells slots Q (F0 m (pc + 1) ls (.int (nI (x &&& y)) :: rest))) : W p l e R s m args below meth c H locs cells slots Q (F0 m pc ls (.int (nI y) :: .int (nI x) :: rest)) := lv_iand hx hb hdg (by rw [dn_and]; exact k)
theorem dn_ior (hx : p.tables.exec = Jvm.exec) (hb : c.code = cc) {x y : Nat} (hdg : decode cc pc = .ok (.ior, 1)) (k : W p l e R s m args below meth c H locs cells slots Q (F0 m (pc + 1) ls (.int (nI (x ||| y)) :: rest))) : W p l e R s m args below meth c H locs cells slots Q (F0 m pc ls (.int (nI y) :: .int (nI x) :: rest)) := lv_ior hx hb hdg (by rw [dn_or]; exact k)
theorem dn_ixor (hx : p.tables.exec = Jvm.exec) (hb : c.code = cc) {x y : Nat} (hdg : decode cc pc = .ok (.ixor, 1)) (k : W p l e R s m args below meth c H locs cells slots Q (F0 m (pc + 1) ls (.int (nI (x ^^^ y)) :: rest))) : W p l e R s m args below meth c H locs cells slots Q (F0 m pc ls (.int (nI y) :: .int (nI x) :: rest)) := lv_ixor hx hb hdg (by rw [dn_xor]; exact k)
theorem dn_ishl (hx : p.tables.exec = Jvm.exec) (hb : c.code = cc) {x y : Nat} (h1 : y < 32) (h2 : x * 2 ^ y < 2 ^ 32) (hdg : decode cc pc = .ok (.ishl, 1)) (k : W p l e R s m args below meth c H locs cells slots Q (F0 m (pc + 1) ls (.int (nI (x * 2 ^ y)) :: rest))) : W p l e R s m args below meth c H locs cells slots Q (F0 m pc ls (.int (nI y) :: .int (nI x) :: rest)) := lv_ishl hx hb hdg (by rw [dn_shl h1 h2]; exact k)
theorem dn_ishr (hx : p.tables.exec = Jvm.exec) (hb : c.code = cc) {x y : Nat} (h1 : y < 32) (h2 : x < 2 ^ 31) (hdg : decode cc pc = .ok (.ishr, 1)) (k : W p l e R s m args below meth c H locs cells slots Q (F0 m (pc + 1) ls (.int (nI (x / 2 ^ y)) :: rest))) : W p l e R s m args below meth c H locs cells slots Q (F0 m pc ls (.int (nI y) :: .int (nI x) :: rest)) := lv_ishr hx hb hdg (by rw [dn_shr h1 h2]; exact k)
theorem dn_ladd (hx : p.tables.exec = Jvm.exec) (hb : c.code = cc) {x y : Nat} (hdg : decode cc pc = .ok (.ladd, 1)) (k : W p l e R s m args below meth c H locs cells slots Q (F0 m (pc + 1) ls (.long (lN (x + y)) :: rest))) : W p l e R s m args below meth c H locs cells slots Q (F0 m pc ls (.long (lN y) :: .long (lN x) :: rest)) := lv_ladd hx hb hdg (by rw [lN_add]; exact k)
theorem dn_i2l (hx : p.tables.exec = Jvm.exec) (hb : c.code = cc) {x : Nat} (h : x < 2 ^ 31) (hdg : decode cc pc = .ok (.i2l, 1)) (k : W p l e R s m args below meth c H locs cells slots Q (F0 m (pc + 1) ls (.long (lN x) :: rest))) : W p l e R s m args below meth c H locs cells slots Q (F0 m pc ls (.int (nI x) :: rest)) := lv_i2l hx hb hdg (nI_l h) k
theorem dn_l2i (hx : p.tables.exec = Jvm.exec) (hb : c.code = cc) {x : Nat} (hdg : decode cc pc = .ok (.l2i, 1)) (k : W p l e R s m args below meth c H locs cells slots Q (F0 m (pc + 1) ls (.int (nI x) :: rest))) : W p l e R s m args below meth c H locs cells slots Q (F0 m pc ls (.long (lN x) :: rest)) := lv_l2i hx hb hdg (lN_i x) k
theorem dn_lshlR (hx : p.tables.exec = Jvm.exec) (hb : c.code = cc) {x y : Nat} (h1 : y < 64) (hdg : decode cc pc = .ok (.lshl, 1)) (k : W p l e R s m args below meth c H locs cells slots Q (F0 m (pc + 1) ls (.long (lN (x * 2 ^ y)) :: rest))) : W p l e R s m args below meth c H locs cells slots Q (F0 m pc ls (.int (nI y) :: .long (lN x) :: rest)) := lv_lshl hx hb hdg (dn_lshl x h1) k
theorem dn_lshrR (hx : p.tables.exec = Jvm.exec) (hb : c.code = cc) {x y : Nat} (h1 : y < 64) (h2 : x < 2 ^ 63) (hdg : decode cc pc = .ok (.lshr, 1)) (k : W p l e R s m args below meth c H locs cells slots Q (F0 m (pc + 1) ls (.long (lN (x / 2 ^ y)) :: rest))) : W p l e R s m args below meth c H locs cells slots Q (F0 m pc ls (.int (nI y) :: .long (lN x) :: rest)) := lv_lshr hx hb hdg (dn_lshr h1 h2) k
theorem dn_icmp_eq (hx : p.tables.exec = Jvm.exec) (hb : c.code = cc) {x y : Nat} {off : Int} (tgt : Nat) (h1 : x < 2 ^ 31) (h2 : y < 2 ^ 31) (hdg : decode cc pc = .ok (.if_icmp .eq off, 3)) (ht : (pc : Int) + off = (tgt : Int)) (kt : x = y → W p l e R s m args below meth c H locs cells slots Q (F0 m tgt ls rest)) (kf : x ≠ y → W p l e R s m args below meth c H locs cells slots Q (F0 m (pc + 3) ls rest)) : W p l e R s m args below meth c H locs cells slots Q (F0 m pc ls (.int (nI y) :: .int (nI x) :: rest)) := lv_icmp_eq hx hb hdg ht (fun h => kt ((nI_eq h1 h2).mp h)) (fun h => kf (fun q => h ((nI_eq h1 h2).mpr q)))
theorem dn_icmp_ne (hx : p.tables.exec = Jvm.exec) (hb : c.code = cc) {x y : Nat} {off : Int} (tgt : Nat) (h1 : x < 2 ^ 31) (h2 : y < 2 ^ 31) (hdg : decode cc pc = .ok (.if_icmp .ne off, 3)) (ht : (pc : Int) + off = (tgt : Int)) (kt : x ≠ y → W p l e R s m args below meth c H locs cells slots Q (F0 m tgt ls rest)) (kf : x = y → W p l e R s m args below meth c H locs cells slots Q (F0 m (pc + 3) ls rest)) : W p l e R s m args below meth c H locs cells slots Q (F0 m pc ls (.int (nI y) :: .int (nI x) :: rest)) := lv_icmp_ne hx hb hdg ht (fun h => kt (fun q => h ((nI_eq h1 h2).mpr q))) (fun h => kf ((nI_eq h1 h2).mp h))
theorem dn_icmp_lt (hx : p.tables.exec = Jvm.exec) (hb : c.code = cc) {x y : Nat} {off : Int} (tgt : Nat) (h1 : x < 2 ^ 31) (h2 : y < 2 ^ 31) (hdg : decode cc pc = .ok (.if_icmp .lt off, 3)) (ht : (pc : Int) + off = (tgt : Int)) (kt : x < y → W p l e R s m args below meth c H locs cells slots Q (F0 m tgt ls rest)) (kf : y ≤ x → W p l e R s m args below meth c H locs cells slots Q (F0 m (pc + 3) ls rest)) : W p l e R s m args below meth c H locs cells slots Q (F0 m pc ls (.int (nI y) :: .int (nI x) :: rest)) := lv_icmp_lt hx hb hdg ht (fun h => kt ((nI_ltI h1 h2).mp h)) (fun h => kf (Nat.not_lt.mp (fun q => h ((nI_ltI h1 h2).mpr q))))
theorem dn_icmp_ge (hx : p.tables.exec = Jvm.exec) (hb : c.code = cc) {x y : Nat} {off : Int} (tgt : Nat) (h1 : x < 2 ^ 31) (h2 : y < 2 ^ 31) (hdg : decode cc pc = .ok (.if_icmp .ge off, 3)) (ht : (pc : Int) + off = (tgt : Int)) (kt : y ≤ x → W p l e R s m args below meth c H locs cells slots Q (F0 m tgt ls rest)) (kf : x < y → W p l e R s m args below meth c H locs cells slots Q (F0 m (pc + 3) ls rest)) : W p l e R s m args below meth c H locs cells slots Q (F0 m pc ls (.int (nI y) :: .int (nI x) :: rest)) := lv_icmp_ge hx hb hdg ht (fun h => kt ((nI_leI h2 h1).mp h)) (fun h => kf (Nat.not_le.mp (fun q => h ((nI_leI h2 h1).mpr q))))
theorem dn_icmp_gt (hx : p.tables.exec = Jvm.exec) (hb : c.code = cc) {x y : Nat} {off : Int} (tgt : Nat) (h1 : x < 2 ^ 31) (h2 : y < 2 ^ 31) (hdg : decode cc pc = .ok (.if_icmp .gt off, 3)) (ht : (pc : Int) + off = (tgt : Int)) (kt : y < x → W p l e R s m args below meth c H locs cells slots Q (F0 m tgt ls rest)) (kf : x ≤ y → W p l e R s m args below meth c H locs cells slots Q (F0 m (pc + 3) ls rest)) : W p l e R s m args below meth c H locs cells slots Q (F0 m pc ls (.int (nI y) :: .int (nI x) :: rest)) := lv_icmp_gt hx hb hdg ht (fun h => kt ((nI_ltI h2 h1).mp h)) (fun h => kf (Nat.not_lt.mp (fun q => h ((nI_ltI h2 h1).mpr q))))
theorem dn_icmp_le (hx : p.tables.exec = Jvm.exec) (hb : c.code = cc) {x y : Nat} {off : Int} (tgt : Nat) (h1 : x < 2 ^ 31) (h2 : y < 2 ^ 31) (hdg : decode cc pc = .ok (.if_icmp .le off, 3)) (ht : (pc : Int) + off = (tgt : Int)) (kt : x ≤ y → W p l e R s m args below meth c H locs cells slots Q (F0 m tgt ls rest)) (kf : y < x → W p l e R s m args below meth c H locs cells slots Q (F0 m (pc + 3) ls rest)) : W p l e R s m args below meth c H locs cells slots Q (F0 m pc ls (.int (nI y) :: .int (nI x) :: rest)) := lv_icmp_le hx hb hdg ht (fun h => kt ((nI_leI h1 h2).mp h)) (fun h => kf (Nat.not_le.mp (fun q => h ((nI_leI h1 h2).mpr q))))
theorem dn_if_eq (hx : p.tables.exec = Jvm.exec) (hb : c.code = cc) {x : Nat} {off : Int} (tgt : Nat) (h1 : x < 2 ^ 31) (hdg : decode cc pc = .ok (.ifCond .eq off, 3)) (ht : (pc : Int) + off = (tgt : Int)) (kt : x = 0 → W p l e R s m args below meth c H locs cells slots Q (F0 m tgt ls rest)) (kf : x ≠ 0 → W p l e R s m args below meth c H locs cells slots Q (F0 m (pc + 3) ls rest)) : W p l e R s m args below meth c H locs cells slots Q (F0 m pc ls (.int (nI x) :: rest)) := lv_if_eq hx hb hdg ht (fun h => kt ((nI_eq h1 (by omega)).mp (h.trans nI_0.symm))) (fun h => kf (fun q => h (by rw [q]; rfl)))
theorem dn_if_ne (hx : p.tables.exec = Jvm.exec) (hb : c.code = cc) {x : Nat} {off : Int} (tgt : Nat) (h1 : x < 2 ^ 31) (hdg : decode cc pc = .ok (.ifCond .ne off, 3)) (ht : (pc : Int) + off = (tgt : Int)) (kt : x ≠ 0 → W p l e R s m args below meth c H locs cells slots Q (F0 m tgt ls rest)) (kf : x = 0 → W p l e R s m args below meth c H locs cells slots Q (F0 m (pc + 3) ls rest)) : W p l e R s m args below meth c H locs cells slots Q (F0 m pc ls (.int (nI x) :: rest)) := lv_if_ne hx hb hdg ht (fun h => kt (fun q => h (by rw [q]; rfl))) (fun h => kf ((nI_eq h1 (by omega)).mp (h.trans nI_0.symm)))
theorem dn_if_lt (hx : p.tables.exec = Jvm.exec) (hb : c.code = cc) {x : Nat} {off : Int} (tgt : Nat) (h1 : x < 2 ^ 31) (hdg : decode cc pc = .ok (.ifCond .lt off, 3)) (ht : (pc : Int) + off = (tgt : Int)) (kf : W p l e R s m args below meth c H locs cells slots Q (F0 m (pc + 3) ls rest)) : W p l e R s m args below meth c H locs cells slots Q (F0 m pc ls (.int (nI x) :: rest)) := lv_if_lt hx hb hdg ht (fun h => absurd h (nI_pos h1)) (fun _ => kf)
theorem dn_if_ge (hx : p.tables.exec = Jvm.exec) (hb : c.code = cc) {x : Nat} {off : Int} (tgt : Nat) (h1 : x < 2 ^ 31) (hdg : decode cc pc = .ok (.ifCond .ge off, 3)) (ht : (pc : Int) + off = (tgt : Int)) (kt : W p l e R s m args below meth c H locs cells slots Q (F0 m tgt ls rest)) : W p l e R s m args below meth c H locs cells slots Q (F0 m pc ls (.int (nI x) :: rest)) := lv_if_ge hx hb hdg ht (fun _ => kt) (fun h => absurd (nI_pos' h1) h)
theorem dn_if_gt (hx : p.tables.exec = Jvm.exec) (hb : c.code = cc) {x : Nat} {off : Int} (tgt : Nat) (h1 : x < 2 ^ 31) (hdg : decode cc pc = .ok (.ifCond .gt off, 3)) (ht : (pc : Int) + off = (tgt : Int)) (kt : 0 < x → W p l e R s m args below meth c H locs cells slots Q (F0 m tgt ls rest)) (kf : x = 0 → W p l e R s m args below meth c H locs cells slots Q (F0 m (pc + 3) ls rest)) : W p l e R s m args below meth c H locs cells slots Q (F0 m pc ls (.int (nI x) :: rest)) := lv_if_gt hx hb hdg ht (fun h => kt (Nat.pos_of_ne_zero (fun q => by rw [q] at h; exact absurd h (by decide)))) (fun h => kf (Nat.eq_zero_of_not_pos (fun q => h (nI_lt q h1))))
theorem dn_if_le (hx : p.tables.exec = Jvm.exec) (hb : c.code = cc) {x : Nat} {off : Int} (tgt : Nat) (h1 : x < 2 ^ 31) (hdg : decode cc pc = .ok (.ifCond .le off, 3)) (ht : (pc : Int) + off = (tgt : Int)) (kt : x = 0 → W p l e R s m args below meth c H locs cells slots Q (F0 m tgt ls rest)) (kf : 0 < x → W p l e R s m args below meth c H locs cells slots Q (F0 m (pc + 3) ls rest)) : W p l e R s m args below meth c H locs cells slots Q (F0 m pc ls (.int (nI x) :: rest)) := lv_if_le hx hb hdg ht (fun h => kt (Nat.eq_zero_of_not_pos (fun q => nI_nle q h1 h))) (fun h => kf (Nat.pos_of_ne_zero (fun q => h (by rw [q]; decide))))
theorem dn_ifb_eq (hx : p.tables.exec = Jvm.exec) (hb : c.code = cc) {P : Prop} [Decidable P] {off : Int} (tgt : Nat) (hdg : decode cc pc = .ok (.ifCond .eq off, 3)) (ht : (pc : Int) + off = (tgt : Int)) (kt : ¬ P → W p l e R s m args below meth c H locs cells slots Q (F0 m tgt ls rest)) (kf : P → W p l e R s m args below meth c H locs cells slots Q (F0 m (pc + 3) ls rest)) : W p l e R s m args below meth c H locs cells slots Q (F0 m pc ls (.int (nI (dn_b P)) :: rest)) := lv_if_eq hx hb hdg ht (fun h => kt (dn_bz.mp h)) (fun h => kf (Decidable.byContradiction (fun q => h (dn_bz.mpr q))))
theorem dn_ifb_ne (hx : p.tables.exec = Jvm.exec) (hb : c.code = cc) {P : Prop} [Decidable P] {off : Int} (tgt : Nat) (hdg : decode cc pc = .ok (.ifCond .ne off, 3)) (ht : (pc : Int) + off = (tgt : Int)) (kt : P → W p l e R s m args below meth c H locs cells slots Q (F0 m tgt ls rest)) (kf : ¬ P → W p l e R s m args below meth c H locs cells slots Q (F0 m (pc + 3) ls rest)) : W p l e R s m args below meth c H locs cells slots Q (F0 m pc ls (.int (nI (dn_b P)) :: rest)) := lv_if_ne hx hb hdg ht (fun h => kt (Decidable.byContradiction (fun q => h (dn_bz.mpr q)))) (fun h => kf (dn_bz.mp h))
theorem dn_lcmp_ge (hx : p.tables.exec = Jvm.exec) (hb : c.code = cc) {x y : Nat} {off : Int} (tgt : Nat) (h1 : x < 2 ^ 63) (h2 : y < 2 ^ 63) (hd0 : decode cc pc = .ok (.lcmp, 1)) (hdg : decode cc (pc + 1) = .ok (.ifCond .ge off, 3)) (ht : ((pc + 1 : Nat) : Int) + off = (tgt : Int)) (kt : y ≤ x → W p l e R s m args below meth c H locs cells slots Q (F0 m tgt ls rest)) (kf : x < y → W p l e R s m args below meth c H locs cells slots Q (F0 m (pc + 4) ls rest)) : W p l e R s m args below meth c H locs cells slots Q (F0 m pc ls (.long (lN y) :: .long (lN x) :: rest)) := W.lcmp hx hb hd0 (lv_if_ge hx hb hdg ht (fun h => kt ((pk_lLE h2 h1).mp ((lg_cmp_ge _ _).mp h))) (fun h => kf (Nat.not_le.mp (fun q => h ((lg_cmp_ge _ _).mpr ((pk_lLE h2 h1).mpr q))))))
theorem dn_lcmp_lt (hx : p.tables.exec = Jvm.exec) (hb : c.code = cc) {x y : Nat} {off : Int} (tgt : Nat) (h1 : x < 2 ^ 63) (h2 : y < 2 ^ 63) (hd0 : decode cc pc = .ok (.lcmp, 1)) (hdg : decode cc (pc + 1) = .ok (.ifCond .lt off, 3)) (ht : ((pc + 1 : Nat) : Int) + off = (tgt : Int)) (kt : x < y → W p l e R s m args below meth c H locs cells slots Q (F0 m tgt ls rest)) (kf : y ≤ x → W p l e R s m args below meth c H locs cells slots Q (F0 m (pc + 4) ls rest)) : W p l e R s m args below meth c H locs cells slots Q (F0 m pc ls (.long (lN y) :: .long (lN x) :: rest)) := W.lcmp hx hb hd0 (lv_if_lt hx hb hdg ht (fun h => kt ((pk_lLT h1 h2).mp ((lg_cmp_lt _ _).mp h))) (fun h => kf (Nat.not_lt.mp (fun q => h ((lg_cmp_lt _ _).mpr ((pk_lLT h1 h2).mpr q))))))
theorem dn_lcmp_gt (hx : p.tables.exec = Jvm.exec) (hb : c.code = cc) {x y : Nat} {off : Int} (tgt : Nat) (h1 : x < 2 ^ 63) (h2 : y < 2 ^ 63) (hd0 : decode cc pc = .ok (.lcmp, 1)) (hdg : decode cc (pc + 1) = .ok (.ifCond .gt off, 3)) (ht : ((pc + 1 : Nat) : Int) + off = (tgt : Int)) (kt : y < x → W p l e R s m args below meth c H locs cells slots Q (F0 m tgt ls rest)) (kf : x ≤ y → W p l e R s m args below meth c H locs cells slots Q (F0 m (pc + 4) ls rest)) : W p l e R s m args below meth c H locs cells slots Q (F0 m pc ls (.long (lN y) :: .long (lN x) :: rest)) := W.lcmp hx hb hd0 (lv_if_gt hx hb hdg ht (fun h => kt ((pk_lLT h2 h1).mp ((lg_cmp_gt _ _).mp h))) (fun h => kf (Nat.not_lt.mp (fun q => h ((lg_cmp_gt _ _).mpr ((pk_lLT h2 h1).mpr q))))))
theorem dn_lcmp_le (hx : p.tables.exec = Jvm.exec) (hb : c.code = cc) {x y : Nat} {off : Int} (tgt : Nat) (h1 : x < 2 ^ 63) (h2 : y < 2 ^ 63) (hd0 : decode cc pc = .ok (.lcmp, 1)) (hdg : decode cc (pc + 1) = .ok (.ifCond .le off, 3)) (ht : ((pc + 1 : Nat) : Int) + off = (tgt : Int)) (kt : x ≤ y → W p l e R s m args below meth c H locs cells slots Q (F0 m tgt ls rest)) (kf : y < x → W p l e R s m args below meth c H locs cells slots Q (F0 m (pc + 4) ls rest)) : W p l e R s m args below meth c H locs cells slots Q (F0 m pc ls (.long (lN y) :: .long (lN x) :: rest)) := W.lcmp hx hb hd0 (lv_if_le hx hb hdg ht (fun h => kt ((pk_lLE h1 h2).mp ((lg_cmp_le _ _).mp h))) (fun h => kf (Nat.not_le.mp (fun q => h ((lg_cmp_le _ _).mpr ((pk_lLE h1 h2).mpr q))))))
end
end
section
/-! a world of NC cells at fixed addresses a, layout ce, contents f -/
def dw_su (f : Nat → Nat → Nat) (k : Nat) (g : Nat → Nat) : Nat → Nat → Nat := fun j => if j = k then g else f j
def dw_up (g : Nat → Nat) (i x : Nat) : Nat → Nat := fun j => if j = i then x else g j
/-- cell k's place i becomes x -/
def dw_w (f : Nat → Nat → Nat) (k i x : Nat) : Nat → Nat → Nat := dw_su f k (dw_up (f k) i x)
def dw_l (NC : Nat) (ce : Nat → (Nat → Nat) → va_E) (a : Nat → Nat) (f : Nat → Nat → Nat) : va_W := (List.range NC).map (fun k => (a k, ce k (f k)))
section
variable {NC k : Nat} {ce : Nat → (Nat → Nat) → va_E} {a : Nat → Nat} {f f2 : Nat → Nat → Nat} {A : Nat → Prop}
theorem dw_get (h : k < NC) : (dw_l NC ce a f)[k]? = some (a k, ce k (f k)) := by
  simp [dw_l, h]
theorem dw_len : (dw_l NC ce a f).length = NC := by simp [dw_l]
theorem dw_lt {q : Nat × va_E} (h : (dw_l NC ce a f)[k]? = some q) : k < NC := by
  have := (List.getElem?_eq_some_iff.mp h).1
  rwa [dw_len] at this
theorem dw_adr {q : Nat × va_E} (h : (dw_l NC ce a f)[k]? = some q) : q.1 = a k := by
  rw [dw_get (dw_lt h)] at h
  cases h
  rfl
theorem dw_set (h : k < NC) (g : Nat → Nat) : (dw_l NC ce a f).set k (a k, ce k g) = dw_l NC ce a (dw_su f k g) := by
  apply List.ext_getElem?
  intro i
  by_cases hi : i < NC
  · rw [dw_get hi, List.getElem?_set]
    by_cases hk : k = i
    · subst hk
      simp [dw_len, h, dw_su]
    · rw [if_neg hk, dw_get hi]
      simp [dw_su, Ne.symm hk]
  · rw [List.getElem?_eq_none (by rw [List.length_set, dw_len]; omega), List.getElem?_eq_none (by rw [dw_len]; omega)]
theorem dw_D (h : va_D A (dw_l NC ce a f)) : va_D A (dw_l NC ce a f2) := by
  refine ⟨fun i j p q hi hj e => ?_, fun k q hk => ?_⟩
  · have h1 := dw_get (ce := ce) (a := a) (f := f) (dw_lt hi)
    have h2 := dw_get (ce := ce) (a := a) (f := f) (dw_lt hj)
    exact h.1 i j _ _ h1 h2 (by rw [dw_adr hi, dw_adr hj] at e; exact e)
  · have h1 := dw_get (ce := ce) (a := a) (f := f) (dw_lt hk)
    rw [dw_adr hk]
    exact h.2 k _ h1
theorem dw_A {sz q : Nat} (h : va_A (dw_l NC ce a f) sz q) : va_A (dw_l NC ce a f2) sz q := by
  rcases h with ⟨k, e, h⟩ | h
  · refine Or.inl ⟨k, ce k (f2 k), ?_⟩
    have h1 := dw_adr h
    have h2 := dw_get (ce := ce) (a := a) (f := f2) (dw_lt h)
    rw [h2, ← h1]
  · exact Or.inr h
end
/-- what is known of the world while a method runs -/
def dw_W (D : va_G) (cl : List vw_C) (tys : List (ClassId × FieldType)) (A : Nat → Prop) (H0 : Heap) (ws : va_W) (s : State) (H : Heap) (locs : List Loc) : Prop := va_K D cl tys s ∧ va_P D cl ws H ∧ va_D A ws ∧ va_S A H0 H locs
/-- kinds of cells -/
def dw_Ci (tys : List (ClassId × FieldType)) (NC : Nat) (ce : Nat → (Nat → Nat) → va_E) (ty : FieldType) (k n : Nat) : Prop := k < NC ∧ n < 2 ^ 31 ∧ ∃ (cA : ClassId) (t0 : Nat), tys[t0]? = some (cA, ty) ∧ ∀ g, ce k g = .inl (cA, n, .inl (fun j => nI (g j)))
def dw_Cl (tys : List (ClassId × FieldType)) (NC : Nat) (ce : Nat → (Nat → Nat) → va_E) (k n : Nat) : Prop := k < NC ∧ n < 2 ^ 31 ∧ ∃ (cA : ClassId) (t0 : Nat), tys[t0]? = some (cA, .long) ∧ ∀ g, ce k g = .inl (cA, n, .inr (.inl (fun j => lN (g j))))
def dw_Cr (tys : List (ClassId × FieldType)) (NC : Nat) (ce : Nat → (Nat → Nat) → va_E) (a : Nat → Nat) (k n b : Nat) : Prop := k < NC ∧ n < 2 ^ 31 ∧ ∃ (cA : ClassId) (t0 : Nat), tys[t0]? = some (cA, .array .int) ∧ ∀ g, ce k g = .inl (cA, n, .inr (.inr (.inr (.inr (fun j => some (a (b + j)))))))
theorem dw_updn (g : Nat → Nat) (i x : Nat) : upd (fun j => nI (g j)) i (nI x) = fun j => nI (dw_up g i x j) := by
  funext j
  unfold upd dw_up
  split <;> rfl
theorem dw_updl (g : Nat → Nat) (i x : Nat) : vp_updL (fun j => lN (g j)) i (lN x) = fun j => lN (dw_up g i x j) := by
  funext j
  unfold vp_updL dw_up
  split <;> rfl
section
variable {p : Program} {l : Launch} {e : Env} {R : Room} {s : State} {m : MethodId} {args : Array Value} {below : List Frame} {meth : Method} {c : Code} {H H0 : Heap} {locs : List Loc} {cells slots : Nat} {Q : State → Prop} {cc : ByteArray} {pc : Nat} {ls : Array Slot} {rest : List Value}
  {D : va_G} {cl : List vw_C} {tys : List (ClassId × FieldType)} {A : Nat → Prop} {NC : Nat} {ce : Nat → (Nat → Nat) → va_E} {a : Nat → Nat} {f : Nat → Nat → Nat}
theorem dw_iald (hx : p.tables.exec = Jvm.exec) (hb : c.code = cc) (hw : dw_W D cl tys A H0 (dw_l NC ce a f) s H locs) {k n i : Nat} (hk : dw_Ci tys NC ce .int k n) (hi : i < n) (hdg : decode cc pc = .ok (.iaload, 1)) (kk : W p l e R s m args below meth c H locs cells slots Q (F0 m (pc + 1) ls (.int (nI (f k i)) :: rest))) : W p l e R s m args below meth c H locs cells slots Q (F0 m pc ls (.int (nI i) :: .ref (a k) :: rest)) := by
  obtain ⟨h1, h2, cA, t0, h3, h4⟩ := hk
  refine va_iald (f := fun j => nI (f k j)) hx hb hw.1 hw.2.1 k t0 (by rw [dw_get h1, h4]) h3 (vp_in_nI hi h2) hdg ?_
  rw [nI_clamp (by omega)]
  exact kk
theorem dw_zald (hx : p.tables.exec = Jvm.exec) (hb : c.code = cc) (hw : dw_W D cl tys A H0 (dw_l NC ce a f) s H locs) {k n i : Nat} (hk : dw_Ci tys NC ce .boolean k n) (hi : i < n) (hdg : decode cc pc = .ok (.baload, 1)) (kk : W p l e R s m args below meth c H locs cells slots Q (F0 m (pc + 1) ls (.int (nI (f k i)) :: rest))) : W p l e R s m args below meth c H locs cells slots Q (F0 m pc ls (.int (nI i) :: .ref (a k) :: rest)) := by
  obtain ⟨h1, h2, cA, t0, h3, h4⟩ := hk
  refine va_zald (f := fun j => nI (f k j)) hx hb hw.1 hw.2.1 k t0 (by rw [dw_get h1, h4]) h3 (vp_in_nI hi h2) hdg ?_
  rw [nI_clamp (by omega)]
  exact kk
theorem dw_lald (hx : p.tables.exec = Jvm.exec) (hb : c.code = cc) (hw : dw_W D cl tys A H0 (dw_l NC ce a f) s H locs) {k n i : Nat} (hk : dw_Cl tys NC ce k n) (hi : i < n) (hdg : decode cc pc = .ok (.laload, 1)) (kk : W p l e R s m args below meth c H locs cells slots Q (F0 m (pc + 1) ls (.long (lN (f k i)) :: rest))) : W p l e R s m args below meth c H locs cells slots Q (F0 m pc ls (.int (nI i) :: .ref (a k) :: rest)) := by
  obtain ⟨h1, h2, cA, t0, h3, h4⟩ := hk
  refine va_lald (f := fun j => lN (f k j)) hx hb hw.1 hw.2.1 k t0 (by rw [dw_get h1, h4]) h3 (vp_in_nI hi h2) hdg ?_
  rw [nI_clamp (by omega)]
  exact kk
theorem dw_aald (hx : p.tables.exec = Jvm.exec) (hb : c.code = cc) (hw : dw_W D cl tys A H0 (dw_l NC ce a f) s H locs) {k n b i : Nat} (hk : dw_Cr tys NC ce a k n b) (hi : i < n) (hdg : decode cc pc = .ok (.aaload, 1)) (kk : W p l e R s m args below meth c H locs cells slots Q (F0 m (pc + 1) ls (.ref (a (b + i)) :: rest))) : W p l e R s m args below meth c H locs cells slots Q (F0 m pc ls (.int (nI i) :: .ref (a k) :: rest)) := by
  obtain ⟨h1, h2, cA, t0, h3, h4⟩ := hk
  have hc : (nI i).toNatClampNeg = i := nI_clamp (by omega)
  have hin := vp_in_nI hi h2
  have ha : (dw_l NC ce a f)[k]? = some (a k, .inl (cA, n, .inr (.inr (.inr (.inr (fun j => some (a (b + j)))))))) := by rw [dw_get h1, h4]
  exact W.aald (v := .ref (a (b + i))) (ty := .array .int) hx hb (hw.2.1 k _ ha) ((hw.1.2 t0 _ h3).1 n (fun j => va_rf (some (a (b + j))))) rfl (fun q => by cases q) (by show ¬ (nI i < 0 ∨ (arrV _ _ _).slots.size ≤ _); rw [arrV_size]; exact hin) (by show (arrV _ _ _).slots[_]? = _; rw [hc, arrV_read _ _ hi]; rfl) rfl rfl hdg kk
theorem dw_alen (hx : p.tables.exec = Jvm.exec) (hb : c.code = cc) (hw : dw_W D cl tys A H0 (dw_l NC ce a f) s H locs) {k n b : Nat} (hk : dw_Cr tys NC ce a k n b) (hdg : decode cc pc = .ok (.arraylength, 1)) (kk : W p l e R s m args below meth c H locs cells slots Q (F0 m (pc + 1) ls (.int (nI n) :: rest))) : W p l e R s m args below meth c H locs cells slots Q (F0 m pc ls (.ref (a k) :: rest)) := by
  obtain ⟨h1, h2, cA, t0, h3, h4⟩ := hk
  exact va_alen (x := (n, .inr (.inr (.inr (.inr (fun j => some (a (b + j)))))))) hx hb hw.1 hw.2.1 k t0 (by rw [dw_get h1, h4]) h3 rfl hdg kk
theorem dw_aleni (hx : p.tables.exec = Jvm.exec) (hb : c.code = cc) (hw : dw_W D cl tys A H0 (dw_l NC ce a f) s H locs) {k n : Nat} {ty : FieldType} (hk : dw_Ci tys NC ce ty k n) (hdg : decode cc pc = .ok (.arraylength, 1)) (kk : W p l e R s m args below meth c H locs cells slots Q (F0 m (pc + 1) ls (.int (nI n) :: rest))) : W p l e R s m args below meth c H locs cells slots Q (F0 m pc ls (.ref (a k) :: rest)) := by
  obtain ⟨h1, h2, cA, t0, h3, h4⟩ := hk
  exact va_alen (x := (n, .inl (fun j => nI (f k j)))) hx hb hw.1 hw.2.1 k t0 (by rw [dw_get h1, h4]) h3 rfl hdg kk
theorem dw_iast (hx : p.tables.exec = Jvm.exec) (hb : c.code = cc) (hw : dw_W D cl tys A H0 (dw_l NC ce a f) s H locs) {k n i x : Nat} (hk : dw_Ci tys NC ce .int k n) (hi : i < n) (hdg : decode cc pc = .ok (.iastore, 1)) (kk : ∀ (f1 : Nat → Nat → Nat) (H1 : Heap) (locs1 : List Loc), f1 = dw_w f k i x → dw_W D cl tys A H0 (dw_l NC ce a f1) s H1 locs1 → W p l e R s m args below meth c H1 locs1 cells slots Q (F0 m (pc + 1) ls rest)) : W p l e R s m args below meth c H locs cells slots Q (F0 m pc ls (.int (nI x) :: .int (nI i) :: .ref (a k) :: rest)) := by
  obtain ⟨h1, h2, cA, t0, h3, h4⟩ := hk
  refine va_iast (f := fun j => nI (f k j)) hx hb hw.1 hw.2.1 hw.2.2.1 hw.2.2.2 k t0 (by rw [dw_get h1, h4]) h3 (vp_in_nI hi h2) hdg (fun H1 locs1 hP hD hS => ?_)
  rw [nI_clamp (by omega), dw_updn, ← h4, dw_set h1] at hP hD
  exact kk _ H1 locs1 rfl ⟨hw.1, hP, hD, hS⟩
theorem dw_zast (hx : p.tables.exec = Jvm.exec) (hb : c.code = cc) (hw : dw_W D cl tys A H0 (dw_l NC ce a f) s H locs) {k n i x : Nat} (hx1 : x ≤ 1) (hk : dw_Ci tys NC ce .boolean k n) (hi : i < n) (hdg : decode cc pc = .ok (.bastore, 1)) (kk : ∀ (f1 : Nat → Nat → Nat) (H1 : Heap) (locs1 : List Loc), f1 = dw_w f k i x → dw_W D cl tys A H0 (dw_l NC ce a f1) s H1 locs1 → W p l e R s m args below meth c H1 locs1 cells slots Q (F0 m (pc + 1) ls rest)) : W p l e R s m args below meth c H locs cells slots Q (F0 m pc ls (.int (nI x) :: .int (nI i) :: .ref (a k) :: rest)) := by
  obtain ⟨h1, h2, cA, t0, h3, h4⟩ := hk
  have hn : vp_nar .boolean (nI x) = nI x := by
    rcases (show x = 0 ∨ x = 1 by omega) with rfl | rfl <;> rfl
  refine va_zast (f := fun j => nI (f k j)) hx hb hw.1 hw.2.1 hw.2.2.1 hw.2.2.2 k t0 (by rw [dw_get h1, h4]) h3 (vp_in_nI hi h2) hdg (fun H1 locs1 hP hD hS => ?_)
  rw [hn, nI_clamp (by omega), dw_updn, ← h4, dw_set h1] at hP hD
  exact kk _ H1 locs1 rfl ⟨hw.1, hP, hD, hS⟩
theorem dw_last (hx : p.tables.exec = Jvm.exec) (hb : c.code = cc) (hw : dw_W D cl tys A H0 (dw_l NC ce a f) s H locs) {k n i x : Nat} (hk : dw_Cl tys NC ce k n) (hi : i < n) (hdg : decode cc pc = .ok (.lastore, 1)) (kk : ∀ (f1 : Nat → Nat → Nat) (H1 : Heap) (locs1 : List Loc), f1 = dw_w f k i x → dw_W D cl tys A H0 (dw_l NC ce a f1) s H1 locs1 → W p l e R s m args below meth c H1 locs1 cells slots Q (F0 m (pc + 1) ls rest)) : W p l e R s m args below meth c H locs cells slots Q (F0 m pc ls (.long (lN x) :: .int (nI i) :: .ref (a k) :: rest)) := by
  obtain ⟨h1, h2, cA, t0, h3, h4⟩ := hk
  refine va_last (f := fun j => lN (f k j)) hx hb hw.1 hw.2.1 hw.2.2.1 hw.2.2.2 k t0 (by rw [dw_get h1, h4]) h3 (vp_in_nI hi h2) hdg (fun H1 locs1 hP hD hS => ?_)
  rw [nI_clamp (by omega), dw_updl, ← h4, dw_set h1] at hP hD
  exact kk _ H1 locs1 rfl ⟨hw.1, hP, hD, hS⟩
end
end
section
/-! contracts over the world: arguments As and contents f give the answer r and contents f1 -/
def dw_nk : Cond → Bool
  | .fieldLinkNest .. => true
  | .methodLinkNest .. => true
  | _ => false
/-- the words of nest mates, which a method takes along with its start -/
def dw_N (Ns : List Cond) (U : State) : Prop := ∀ w ∈ Ns, dw_nk w = true → va_Nw w U
theorem dw_N.warm {Ns : List Cond} {s U : State} (hW : s.WarmedH U.vm) (h : dw_N Ns s) : dw_N Ns U := fun w hw hk => by
  cases w <;> first | exact va_Nw.warmF hW (h _ hw hk) | exact va_Nw.warmM hW (h _ hw hk) | exact absurd (show false = true from hk) (by decide)
theorem dw_N.same {Ns : List Cond} {u U : State} (e : u.vm = U.vm) (h : dw_N Ns u) : dw_N Ns U := fun w hw hk => by
  cases w <;> first | exact va_Nw.same rfl e (h _ hw hk) | exact absurd (show false = true from hk) (by decide)
def dw_B (Ns : List Cond) (D : va_G) (cl : List vw_C) (tys : List (ClassId × FieldType)) (ws : va_W) (sz : Nat) (U : State) : Prop := U.heap.size = sz ∧ va_P D cl ws U.heap ∧ va_K D cl tys U ∧ va_D (fun _ => True) ws ∧ dw_N Ns U
def dw_E (D : va_G) (cl : List vw_C) (tys : List (ClassId × FieldType)) (NC : Nat) (ce : Nat → (Nat → Nat) → va_E) (a : Nat → Nat) (u : Nat → Nat → Nat) (t : State) : Prop := va_P D cl (dw_l NC ce a u) t.heap ∧ va_K D cl tys t
def dw_CI (l : Launch) (Ns : List Cond) (D : va_G) (cl : List vw_C) (tys : List (ClassId × FieldType)) (NC : Nat) (ce : Nat → (Nat → Nat) → va_E) (a : Nat → Nat) (y : MethodName) (ws : List Cond) (fr lo : Nat) (As : List Value) (f : Nat → Nat → Nat) (post : Int32 → (Nat → Nat → Nat) → Prop) : Prop :=
  ∀ sz : Nat, Met l y ws { frames := fr, cells := 0, slots := 0, locals := lo } (va_Pc As (dw_B Ns D cl tys (dw_l NC ce a f) sz)) (va_Qi post (dw_E D cl tys NC ce a) (va_A (dw_l NC ce a f) sz)) 0 0 (va_A (dw_l NC ce a f) sz)
def dw_CL (l : Launch) (Ns : List Cond) (D : va_G) (cl : List vw_C) (tys : List (ClassId × FieldType)) (NC : Nat) (ce : Nat → (Nat → Nat) → va_E) (a : Nat → Nat) (y : MethodName) (ws : List Cond) (fr lo : Nat) (As : List Value) (f : Nat → Nat → Nat) (post : Int64 → (Nat → Nat → Nat) → Prop) : Prop :=
  ∀ sz : Nat, Met l y ws { frames := fr, cells := 0, slots := 0, locals := lo } (va_Pc As (dw_B Ns D cl tys (dw_l NC ce a f) sz)) (va_Ql post (dw_E D cl tys NC ce a) (va_A (dw_l NC ce a f) sz)) 0 0 (va_A (dw_l NC ce a f) sz)
def dw_CV (l : Launch) (Ns : List Cond) (D : va_G) (cl : List vw_C) (tys : List (ClassId × FieldType)) (NC : Nat) (ce : Nat → (Nat → Nat) → va_E) (a : Nat → Nat) (y : MethodName) (ws : List Cond) (fr lo : Nat) (As : List Value) (f : Nat → Nat → Nat) (post : (Nat → Nat → Nat) → Prop) : Prop :=
  ∀ sz : Nat, Met l y ws { frames := fr, cells := 0, slots := 0, locals := lo } (va_Pc As (dw_B Ns D cl tys (dw_l NC ce a f) sz)) (va_Qv post (dw_E D cl tys NC ce a) (va_A (dw_l NC ce a f) sz)) 0 0 (va_A (dw_l NC ce a f) sz)
theorem dw_blind {Ns : List Cond} {D : va_G} {cl : List vw_C} {tys : List (ClassId × FieldType)} {ws : va_W} {sz : Nat} {As : List Value} : FrameBlind (va_Pc As (dw_B Ns D cl tys ws sz)) := fun a U g mk q => by
  obtain ⟨q0, q1, qP, qK, qD, qN⟩ := q
  exact ⟨q0, q1, qP, va_K.moved (u := U) (U := U.calling g mk a) (Vm.Alike.refl U.vm) qK, qD, dw_N.same (u := U) (U := U.calling g mk a) rfl qN⟩
theorem dw_pre {Ns : List Cond} {D : va_G} {cl : List vw_C} {tys : List (ClassId × FieldType)} {ws : va_W} {As : List Value} {A : Nat → Prop} {H0 H : Heap} {s : State} {locs : List Loc} (hw : dw_W D cl tys A H0 ws s H locs) (hN : dw_N Ns s) : ∀ U : State, U.heap = H → s.WarmedH U.vm → va_Pc As (dw_B Ns D cl tys ws H.size) As.toArray U := fun U hU hW => ⟨rfl, by rw [hU], by rw [hU]; exact hw.2.1, va_K.moved hW.alike hw.1, hw.2.2.1.weaken (fun _ _ _ _ => trivial), hN.warm hW⟩
theorem dw_good {Ts ws : List Cond} (hG : GoodIn Ts Ts) (h : ∀ w ∈ ws, w ∈ Ts) : GoodIn Ts ws := fun w hw => ⟨h w hw, (hG w (h w hw)).2⟩
theorem dw_code {Ts : List Cond} {w : Cond} (h : w ∈ Ts) : ∀ v ∈ w :: Ts, v ∈ Ts := fun v hv => by
  rcases List.mem_cons.mp hv with rfl | hv
  · exact h
  · exact hv
section
variable {p : Program} {l : Launch} {e : Env} {R : Room} {s : State} {m : MethodId} {args : Array Value} {below : List Frame} {meth : Method} {c : Code} {H H0 : Heap} {locs : List Loc} {cells slots : Nat} {Q : State → Prop} {cc : ByteArray} {pc : Nat} {ls : Array Slot} {rest st0 : List Value}
  {D : va_G} {cl : List vw_C} {tys : List (ClassId × FieldType)} {A : Nat → Prop} {NC : Nat} {ce : Nat → (Nat → Nat) → va_E} {a : Nat → Nat} {f : Nat → Nat → Nat} {Ts Ns : List Cond} {own C host : String} {nL index maxL n fr lo ko ci : Nat} {y : MethodName} {bytes : ByteArray} {ret : Option FieldType} {As : List Value} {av : Array Value}
theorem dw_F (hw : dw_W D cl tys A H0 (dw_l NC ce a f) s H locs) (hA : ∀ q, H0.size ≤ q → A q) : ∀ q, va_A (dw_l NC ce a f) H.size q → A q := fun q h => by
  rcases h with ⟨k, e, h⟩ | h
  · exact hw.2.2.1.2 k _ h
  · exact hA q (Nat.le_trans hw.2.2.2.1 h)
theorem dw_afti {post : Int32 → (Nat → Nat → Nat) → Prop} (hw : dw_W D cl tys A H0 (dw_l NC ce a f) s H locs) (hA : ∀ q, H0.size ≤ q → A q) (hr : va_Run p l e R s m args below meth c H locs cells slots 0 0 (F0 m pc ls st0) rest (va_Qi post (dw_E D cl tys NC ce a) (va_A (dw_l NC ce a f) H.size) av) (va_A (dw_l NC ce a f) H.size))
    (kk : ∀ (r : Int32) (f1 : Nat → Nat → Nat) (H1 : Heap) (locs1 : List Loc), post r f1 → dw_W D cl tys A H0 (dw_l NC ce a f1) s H1 locs1 → W p l e R s m args below meth c H1 locs1 cells slots Q (F0 m (pc + 3) ls (.int r :: rest))) : W p l e R s m args below meth c H locs cells slots Q (F0 m pc ls st0) := by
  have hF := dw_F hw hA
  refine va_calli hr hw.2.2.2 (fun q _ h => hF q h) hF (fun r' u t H1 locs1 ht hvm hp hB hz hk hS => ?_)
  obtain ⟨hP1, hK1⟩ := hB
  rw [ht] at hP1
  exact kk r' u H1 locs1 hp ⟨hw.1, hP1, dw_D hw.2.2.1, hS⟩
theorem dw_aftl {post : Int64 → (Nat → Nat → Nat) → Prop} (hw : dw_W D cl tys A H0 (dw_l NC ce a f) s H locs) (hA : ∀ q, H0.size ≤ q → A q) (hr : va_Run p l e R s m args below meth c H locs cells slots 0 0 (F0 m pc ls st0) rest (va_Ql post (dw_E D cl tys NC ce a) (va_A (dw_l NC ce a f) H.size) av) (va_A (dw_l NC ce a f) H.size))
    (kk : ∀ (r : Int64) (f1 : Nat → Nat → Nat) (H1 : Heap) (locs1 : List Loc), post r f1 → dw_W D cl tys A H0 (dw_l NC ce a f1) s H1 locs1 → W p l e R s m args below meth c H1 locs1 cells slots Q (F0 m (pc + 3) ls (.long r :: rest))) : W p l e R s m args below meth c H locs cells slots Q (F0 m pc ls st0) := by
  have hF := dw_F hw hA
  refine va_calll hr hw.2.2.2 (fun q _ h => hF q h) hF (fun r' u t H1 locs1 ht hvm hp hB hz hk hS => ?_)
  obtain ⟨hP1, hK1⟩ := hB
  rw [ht] at hP1
  exact kk r' u H1 locs1 hp ⟨hw.1, hP1, dw_D hw.2.2.1, hS⟩
theorem dw_aftv {post : (Nat → Nat → Nat) → Prop} (hw : dw_W D cl tys A H0 (dw_l NC ce a f) s H locs) (hA : ∀ q, H0.size ≤ q → A q) (hr : va_Run p l e R s m args below meth c H locs cells slots 0 0 (F0 m pc ls st0) rest (va_Qv post (dw_E D cl tys NC ce a) (va_A (dw_l NC ce a f) H.size) av) (va_A (dw_l NC ce a f) H.size))
    (kk : ∀ (f1 : Nat → Nat → Nat) (H1 : Heap) (locs1 : List Loc), post f1 → dw_W D cl tys A H0 (dw_l NC ce a f1) s H1 locs1 → W p l e R s m args below meth c H1 locs1 cells slots Q (F0 m (pc + 3) ls rest)) : W p l e R s m args below meth c H locs cells slots Q (F0 m pc ls st0) := by
  have hF := dw_F hw hA
  refine va_callv hr hw.2.2.2 (fun q _ h => hF q h) hF (fun u t H1 locs1 ht hvm hp hB hz hk hS => ?_)
  obtain ⟨hP1, hK1⟩ := hB
  rw [ht] at hP1
  exact kk u H1 locs1 hp ⟨hw.1, hP1, dw_D hw.2.2.1, hS⟩
/-- an object cell -/
def dw_Co (cl : List vw_C) (NC : Nat) (ce : Nat → (Nat → Nat) → va_E) (k ci : Nat) (C : String) (T : u_T) (N : Nat) (fs : (Nat → Nat) → List Value) : Prop := k < NC ∧ cl[ci]? = some (C, T, N) ∧ ∀ g, ce k g = .inr (ci, fs g)
theorem dw_ob {T : u_T} {N : Nat} {fs : (Nat → Nat) → List Value} {k : Nat} (h : dw_Co cl NC ce k ci C T N fs) : (dw_l NC ce a f)[k]? = some (a k, .inr (ci, fs (f k))) := by rw [dw_get h.1, h.2.2]
/-- the words and the room of a call -/
abbrev dw_Cw (Ts : List Cond) (y : MethodName) (bytes : ByteArray) (maxL : Nat) (ret : Option FieldType) (n : Nat) : Prop := Cond.code y bytes maxL ret ∈ Ts ∧ Cond.initialized y.cls ∈ Ts ∧ (y.cls ≠ "java/lang/invoke/MethodHandle" ∧ y.cls ≠ "java/lang/invoke/VarHandle" ∧ (parseMethodDescriptor y.desc).map (fun d => d.parameters.length) = some n)
theorem dw_runV {Pc : Array Value → State → Prop} {Qc : Array Value → State → Outcome → State → Prop} {free : Addr → Prop} {T : u_T} {N : Nat} {fs : (Nat → Nat) → List Value} (hw : dw_W D cl tys A H0 (dw_l NC ce a f) s H locs) (S : CallFix p m c cc nL s args Ts own) (hG : GoodIn Ts Ts) (hM : Met l y (Cond.code y bytes maxL ret :: Ts) { frames := fr, cells := 0, slots := 0, locals := lo } Pc Qc 0 0 free) (cw : dw_Cw Ts y bytes maxL ret n) (hl : Cond.methodLink own index y ∈ Ts) (hi : Cond.instanceMethod y ∈ Ts) (hse : Cond.selects C y y ∈ Ts)
    (ho : dw_Co cl NC ce ko ci C T N fs) (hbl : FrameBlind Pc) (hpre : ∀ U : State, U.heap = H → s.WarmedH U.vm → Pc (Value.ref (a ko) :: As).toArray U) (hn : As.length = n) (hsz : ls.size = nL) (hst : st0 = As.reverse ++ .ref (a ko) :: rest) (hR : fr + 1 ≤ R.frames ∧ 8 + (maxL + 11) + lo ≤ R.locals) (hre : (rest.map fun v => v.category).sum ≤ 8) (hcs : cells ≤ R.cells ∧ slots ≤ R.slots) (hdg : decode cc pc = .ok (.invokevirtual index, 3)) :
    va_Run p l e R s m args below meth c H locs cells slots 0 0 (F0 m pc ls st0) rest (Qc (Value.ref (a ko) :: As).toArray) free :=
  va_runV (As := As) (rest := rest) (b := a ko) (C := C) S hM ⟨callB_of n S.2.2.2.2 (dw_good hG (dw_code cw.1)) rfl rfl rfl (S.2.2.2.2 _ cw.2.1) (S.2.2.2.2 _ hl) cw.2.2 hR, S.2.2.2.2 _ hi, S.2.2.2.2 _ hse⟩ ⟨hbl, va_recv hw.1 hw.2.1 ho.2.1 (dw_ob ho), hpre⟩ rfl hn hsz hst (lv_room hre) hdg hcs
theorem dw_runVN {Pc : Array Value → State → Prop} {Qc : Array Value → State → Outcome → State → Prop} {free : Addr → Prop} {T : u_T} {N : Nat} {fs : (Nat → Nat) → List Value} (hw : dw_W D cl tys A H0 (dw_l NC ce a f) s H locs) (S : CallFix p m c cc nL s args Ts own) (hG : GoodIn Ts Ts) (hM : Met l y (Cond.code y bytes maxL ret :: Ts) { frames := fr, cells := 0, slots := 0, locals := lo } Pc Qc 0 0 free) (cw : dw_Cw Ts y bytes maxL ret n) (hN : dw_N Ns s) (hl : Cond.methodLinkNest own index y host ∈ Ns) (hi : Cond.instanceMethod y ∈ Ts) (hse : Cond.selects C y y ∈ Ts)
    (ho : dw_Co cl NC ce ko ci C T N fs) (hbl : FrameBlind Pc) (hpre : ∀ U : State, U.heap = H → s.WarmedH U.vm → Pc (Value.ref (a ko) :: As).toArray U) (hn : As.length = n) (hsz : ls.size = nL) (hst : st0 = As.reverse ++ .ref (a ko) :: rest) (hR : fr + 1 ≤ R.frames ∧ 8 + (maxL + 11) + lo ≤ R.locals) (hre : (rest.map fun v => v.category).sum ≤ 8) (hcs : cells ≤ R.cells ∧ slots ≤ R.slots) (hdg : decode cc pc = .ok (.invokevirtual index, 3)) :
    va_Run p l e R s m args below meth c H locs cells slots 0 0 (F0 m pc ls st0) rest (Qc (Value.ref (a ko) :: As).toArray) free :=
  va_runVN (As := As) (rest := rest) (b := a ko) (C := C) (host := host) S hM ⟨va_cnB n S.2.2.2.2 (dw_good hG (dw_code cw.1)) rfl rfl rfl (hN _ hl rfl) (S.2.2.2.2 _ cw.2.1) cw.2.2 hR, S.2.2.2.2 _ hi, S.2.2.2.2 _ hse⟩ ⟨hbl, va_recv hw.1 hw.2.1 ho.2.1 (dw_ob ho), hpre⟩ rfl hn hsz hst (lv_room hre) hdg hcs
theorem dw_runS {Pc : Array Value → State → Prop} {Qc : Array Value → State → Outcome → State → Prop} {free : Addr → Prop} (S : CallFix p m c cc nL s args Ts own) (hG : GoodIn Ts Ts) (hM : Met l y (Cond.code y bytes maxL ret :: Ts) { frames := fr, cells := 0, slots := 0, locals := lo } Pc Qc 0 0 free) (cw : dw_Cw Ts y bytes maxL ret n) (hl : Cond.methodLink own index y ∈ Ts) (hi : Cond.static y ∈ Ts)
    (hbl : FrameBlind Pc) (hpre : ∀ U : State, U.heap = H → s.WarmedH U.vm → Pc As.toArray U) (hn : As.length = n) (hsz : ls.size = nL) (hst : st0 = As.reverse ++ rest) (hR : fr + 1 ≤ R.frames ∧ 8 + (maxL + 11) + lo ≤ R.locals) (hre : (rest.map fun v => v.category).sum ≤ 8) (hcs : cells ≤ R.cells ∧ slots ≤ R.slots) (hdg : decode cc pc = .ok (.invokestatic index, 3)) :
    va_Run p l e R s m args below meth c H locs cells slots 0 0 (F0 m pc ls st0) rest (Qc As.toArray) free :=
  va_runS (As := As) (rest := rest) S hM ⟨callB_of n S.2.2.2.2 (dw_good hG (dw_code cw.1)) rfl rfl rfl (S.2.2.2.2 _ cw.2.1) (S.2.2.2.2 _ hl) cw.2.2 hR, S.2.2.2.2 _ hi⟩ ⟨hbl, hpre⟩ rfl hn hsz hst (lv_room hre) hdg hcs
theorem dw_runSN {Pc : Array Value → State → Prop} {Qc : Array Value → State → Outcome → State → Prop} {free : Addr → Prop} (S : CallFix p m c cc nL s args Ts own) (hG : GoodIn Ts Ts) (hM : Met l y (Cond.code y bytes maxL ret :: Ts) { frames := fr, cells := 0, slots := 0, locals := lo } Pc Qc 0 0 free) (cw : dw_Cw Ts y bytes maxL ret n) (hN : dw_N Ns s) (hl : Cond.methodLinkNest own index y host ∈ Ns) (hi : Cond.static y ∈ Ts)
    (hbl : FrameBlind Pc) (hpre : ∀ U : State, U.heap = H → s.WarmedH U.vm → Pc As.toArray U) (hn : As.length = n) (hsz : ls.size = nL) (hst : st0 = As.reverse ++ rest) (hR : fr + 1 ≤ R.frames ∧ 8 + (maxL + 11) + lo ≤ R.locals) (hre : (rest.map fun v => v.category).sum ≤ 8) (hcs : cells ≤ R.cells ∧ slots ≤ R.slots) (hdg : decode cc pc = .ok (.invokestatic index, 3)) :
    va_Run p l e R s m args below meth c H locs cells slots 0 0 (F0 m pc ls st0) rest (Qc As.toArray) free :=
  va_runSN (As := As) (rest := rest) (host := host) S hM ⟨va_cnB n S.2.2.2.2 (dw_good hG (dw_code cw.1)) rfl rfl rfl (hN _ hl rfl) (S.2.2.2.2 _ cw.2.1) cw.2.2 hR, S.2.2.2.2 _ hi, trivial⟩ ⟨hbl, hpre⟩ rfl hn hsz hst (lv_room hre) hdg hcs
theorem dw_getf {T : u_T} {N fi k : Nat} {fs : (Nat → Nat) → List Value} {v : Value} (S : CallFix p m c cc nL s args Ts own) (hw : dw_W D cl tys A H0 (dw_l NC ce a f) s H locs) (hin : ∀ w ∈ u_ws C T N, w ∈ Ts) (ho : dw_Co cl NC ce k ci C T N fs) (hfi : fi < N) (hT : (T fi).1 = C) (hl : Cond.fieldLink own index C (T fi).2.1 (T fi).2.2.1 ∈ Ts) (hv : (fs (f k))[fi]? = some v) (hdg : decode cc pc = .ok (.getfield index, 3))
    (kk : W p l e R s m args below meth c H locs cells slots Q (F0 m (pc + 3) ls (v :: rest))) : W p l e R s m args below meth c H locs cells slots Q (F0 m pc ls (.ref (a k) :: rest)) :=
  va_get (D := D) S.1 S.2.1 S.2.2.2.2 hin S.2.2.2.1 hw.1 hw.2.1 k (dw_ob ho) ho.2.1 fi hfi (S.2.2.2.2 _ hl) (fun x hx => by rw [hT] at hx; exact hx) hv hdg kk
theorem dw_getN {T : u_T} {N fi k : Nat} {fs : (Nat → Nat) → List Value} {v : Value} (S : CallFix p m c cc nL s args Ts own) (hw : dw_W D cl tys A H0 (dw_l NC ce a f) s H locs) (hin : ∀ w ∈ u_ws C T N, w ∈ Ts) (ho : dw_Co cl NC ce k ci C T N fs) (hfi : fi < N) (hT : (T fi).1 = C) (hN : dw_N Ns s) (hl : Cond.fieldLinkNest own index C (T fi).2.1 (T fi).2.2.1 host ∈ Ns) (hv : (fs (f k))[fi]? = some v) (hdg : decode cc pc = .ok (.getfield index, 3))
    (kk : W p l e R s m args below meth c H locs cells slots Q (F0 m (pc + 3) ls (v :: rest))) : W p l e R s m args below meth c H locs cells slots Q (F0 m pc ls (.ref (a k) :: rest)) :=
  va_getN (D := D) S.1 S.2.1 S.2.2.2.2 hin S.2.2.2.1 hw.1 hw.2.1 k (dw_ob ho) ho.2.1 fi hfi (va_Nw.use rfl (hN _ hl rfl)) (fun x hx => by rw [hT] at hx; exact hx) hv hdg kk
theorem dw_putf {T : u_T} {N fi k x : Nat} {fs : (Nat → Nat) → List Value} (S : CallFix p m c cc nL s args Ts own) (hw : dw_W D cl tys A H0 (dw_l NC ce a f) s H locs) (hin : ∀ w ∈ u_ws C T N, w ∈ Ts) (ty0 : Nat → FieldType) (hty : ∀ k, k < N → parseFieldDescriptor (T k).2.2.1 = some (ty0 k)) (hnm : ∀ a, a < N → ∀ b, b < N → a ≠ b → (T a).2.1 ≠ (T b).2.1) (ho : dw_Co cl NC ce k ci C T N fs) (hfi : fi < N) (hT : (T fi).1 = C) (hl : Cond.fieldLink own index C (T fi).2.1 (T fi).2.2.1 ∈ Ts) (hfin : (T fi).2.2.2 = false) (hd : parseFieldDescriptor (T fi).2.2.1 = some .int) (hlen : fi < (fs (f k)).length) (hset : (fs (f k)).set fi (.int (nI x)) = fs (dw_up (f k) fi x)) (hdg : decode cc pc = .ok (.putfield index, 3))
    (kk : ∀ (f1 : Nat → Nat → Nat) (H1 : Heap) (locs1 : List Loc), f1 = dw_w f k fi x → dw_W D cl tys A H0 (dw_l NC ce a f1) s H1 locs1 → W p l e R s m args below meth c H1 locs1 cells slots Q (F0 m (pc + 3) ls rest)) : W p l e R s m args below meth c H locs cells slots Q (F0 m pc ls (.int (nI x) :: .ref (a k) :: rest)) := by
  refine va_put (D := D) (v := .int (nI x)) (ty := .int) S.1 S.2.1 S.2.2.2.2 hin ty0 hty hnm S.2.2.2.1 hw.1 hw.2.1 hw.2.2.1 hw.2.2.2 k (dw_ob ho) ho.2.1 fi hfi (S.2.2.2.2 _ hl) (fun x hx => by rw [hT] at hx; exact hx) hfin hd rfl rfl hlen hdg (fun H1 locs1 hP hD hS => ?_)
  rw [hset, ← ho.2.2, dw_set ho.1] at hP hD
  exact kk _ H1 locs1 rfl ⟨hw.1, hP, hD, hS⟩
theorem dw_putN {T : u_T} {N fi k x : Nat} {fs : (Nat → Nat) → List Value} (S : CallFix p m c cc nL s args Ts own) (hw : dw_W D cl tys A H0 (dw_l NC ce a f) s H locs) (hin : ∀ w ∈ u_ws C T N, w ∈ Ts) (ty0 : Nat → FieldType) (hty : ∀ k, k < N → parseFieldDescriptor (T k).2.2.1 = some (ty0 k)) (hnm : ∀ a, a < N → ∀ b, b < N → a ≠ b → (T a).2.1 ≠ (T b).2.1) (ho : dw_Co cl NC ce k ci C T N fs) (hfi : fi < N) (hT : (T fi).1 = C) (hN : dw_N Ns s) (hl : Cond.fieldLinkNest own index C (T fi).2.1 (T fi).2.2.1 host ∈ Ns) (hfin : (T fi).2.2.2 = false) (hd : parseFieldDescriptor (T fi).2.2.1 = some .int) (hlen : fi < (fs (f k)).length) (hset : (fs (f k)).set fi (.int (nI x)) = fs (dw_up (f k) fi x)) (hdg : decode cc pc = .ok (.putfield index, 3))
    (kk : ∀ (f1 : Nat → Nat → Nat) (H1 : Heap) (locs1 : List Loc), f1 = dw_w f k fi x → dw_W D cl tys A H0 (dw_l NC ce a f1) s H1 locs1 → W p l e R s m args below meth c H1 locs1 cells slots Q (F0 m (pc + 3) ls rest)) : W p l e R s m args below meth c H locs cells slots Q (F0 m pc ls (.int (nI x) :: .ref (a k) :: rest)) := by
  refine va_putN (D := D) (v := .int (nI x)) (ty := .int) S.1 S.2.1 S.2.2.2.2 hin ty0 hty hnm S.2.2.2.1 hw.1 hw.2.1 hw.2.2.1 hw.2.2.2 k (dw_ob ho) ho.2.1 fi hfi (va_Nw.use rfl (hN _ hl rfl)) (fun x hx => by rw [hT] at hx; exact hx) hfin hd rfl rfl hlen hdg (fun H1 locs1 hP hD hS => ?_)
  rw [hset, ← ho.2.2, dw_set ho.1] at hP hD
  exact kk _ H1 locs1 rfl ⟨hw.1, hP, hD, hS⟩
/-- System.arraycopy of n ints from the front of one row to the front of another -/
theorem dw_copy {k k2 n1 n2 cnt : Nat} (S : CallFix p m c cc nL s args Ts own) (hw : dw_W D cl tys A H0 (dw_l NC ce a f) s H locs) (hl : Cond.methodLink own index arraycopyName ∈ Ts) (hnat : Cond.native arraycopyName ∈ Ts) (hst : Cond.static arraycopyName ∈ Ts) (hini : Cond.initialized "java/lang/System" ∈ Ts) (hk : dw_Ci tys NC ce .int k n1) (hk2 : dw_Ci tys NC ce .int k2 n2) (h1 : cnt ≤ n1) (h2 : cnt ≤ n2) (hsz : ls.size = nL) (hfr : 1 ≤ R.frames) (hlo : (rest.map fun v => v.category).sum + (nativeFrameWords "java/lang/System" "arraycopy" 5 + 11) ≤ R.locals) (hdg : decode cc pc = .ok (.invokestatic index, 3))
    (kk : ∀ (f1 : Nat → Nat → Nat) (H1 : Heap) (locs1 : List Loc), f1 = dw_su f k2 (fun j => if j < cnt then f k j else f k2 j) → dw_W D cl tys A H0 (dw_l NC ce a f1) s H1 locs1 → W p l e R s m args below meth c H1 locs1 cells slots Q (F0 m (pc + 3) ls rest)) : W p l e R s m args below meth c H locs cells slots Q (F0 m pc ls (.int (nI cnt) :: .int (nI 0) :: .ref (a k2) :: .int (nI 0) :: .ref (a k) :: rest)) := by
  obtain ⟨a1, a2, cA, t0, a3, a4⟩ := hk
  obtain ⟨b1, b2, cB, t1, b3, b4⟩ := hk2
  have hc : (nI cnt).toNatClampNeg = cnt := nI_clamp (by omega)
  have h0 : (nI 0).toNatClampNeg = 0 := rfl
  refine va_copyi (f := fun j => nI (f k j)) (g := fun j => nI (f k2 j)) S.1 S.2.1 (S.2.2.1.trans hsz.symm) S.2.2.2.1 (S.2.2.2.2 _ hl) (S.2.2.2.2 _ hnat) (S.2.2.2.2 _ hst) (S.2.2.2.2 _ hini) hw.1 hw.2.1 hw.2.2.1 hw.2.2.2 k k2 t0 t1 (by rw [dw_get a1, a4]) (by rw [dw_get b1, b4]) a3 b3 rfl (by decide) (by decide) (nI_pos (by omega)) (by rw [hc, h0]; omega) (by rw [hc, h0]; omega) (fun _ _ => rfl) hfr hlo hdg (fun H1 locs1 hP hD hS => ?_)
  have hq : (va_cpy (fun j => nI (f k j)) (fun j => nI (f k2 j)) (nI 0).toNatClampNeg (nI 0).toNatClampNeg (nI cnt).toNatClampNeg) = fun j => nI ((fun j => if j < cnt then f k j else f k2 j) j) := by
    funext j
    rw [hc, h0]
    unfold va_cpy
    by_cases h : j < cnt
    · rw [if_pos ⟨Nat.zero_le _, by omega⟩]
      simp [h]
    · rw [if_neg (by omega)]
      simp [h]
  rw [hq, ← b4, dw_set b1] at hP hD
  exact kk _ H1 locs1 rfl ⟨hw.1, hP, hD, hS⟩
end
/-- a contract out of a walk of its body -/
theorem dw_ofI {l : Launch} {Ns : List Cond} {D : va_G} {cl : List vw_C} {tys : List (ClassId × FieldType)} {NC : Nat} {ce : Nat → (Nat → Nat) → va_E} {a : Nat → Nat} {y : MethodName} {bytes : ByteArray} {maxL : Nat} {ty : FieldType} {Ts : List Cond} {fr lo : Nat} {As : List Value} {f : Nat → Nat → Nat} {post : Int32 → (Nat → Nat → Nat) → Prop} (hy : plainName y.cls = true) (hnar : ∀ v u, post v u → narrow ty (.int v) = .int v) (hlen : (lg_sl As).length ≤ maxL)
    (body : ∀ (p : Program) (e : Env) (s : State) (m : MethodId) (below : List Frame) (meth : Method) (c : Code) (ls : Array Slot) (A : Nat → Prop) (Q : State → Prop) (R : Room), R = { frames := fr, cells := 0, slots := 0, locals := lo } → (∀ q : Nat, s.heap.size ≤ q → A q) → CallFix p m c bytes maxL s As.toArray Ts y.cls → dw_N Ns s → dw_W D cl tys A s.heap (dw_l NC ce a f) s s.heap [] → lv_has ls maxL (lv_args 0 As) →
      (∀ (H : Heap) (locs : List Loc) (pc : Nat) (ls : Array Slot) (f2 : Nat → Nat → Nat) (v : Int32), dw_W D cl tys A s.heap (dw_l NC ce a f2) s H locs → post v f2 → decode bytes pc = .ok (.ireturn, 1) → W p l e R s m As.toArray below meth c H locs 0 0 Q (F0 m pc ls [.int v])) →
      W p l e R s m As.toArray below meth c s.heap [] 0 0 Q (F0 m 0 ls [])) : dw_CI l Ns D cl tys NC ce a y (Cond.code y bytes maxL (some ty) :: Ts) fr lo As f post := by
  intro sz
  refine Met.ofW (cc := bytes) (maxL := maxL) (ret := some ty) hy rfl ?_
  intro p e s m args below meth c s₁ B hml hv
  obtain ⟨rfl, hsz, hP, hK, hD0, hN⟩ := hv
  have hts := atoms_spec (ws := Cond.code y bytes maxL (some ty) :: Ts) B.pre
  have hown : s.vm.findClass y.cls = some m.cls := findClass_of_methodNamed B.named
  have hlocks := B.notSynchronized
  have hr := B.returns
  have hx := B.exec
  have hb := B.bytes
  subst hsz
  have hD := hD0.self (sz := s.heap.size)
  generalize hAe : va_A (dw_l NC ce a f) s.heap.size = A at hD ⊢
  have hA : ∀ q : Nat, s.heap.size ≤ q → A q := fun q h => by rw [← hAe]; exact Or.inr h
  have hl := lv_entry As (n := maxL) hlen
  rw [lg_entry_eq]
  generalize (lg_sl As ++ List.replicate (maxL - (lg_sl As).length) Slot.unset).toArray = ls at hl ⊢
  refine body p e s m below meth c ls A _ _ rfl hA ⟨hx, hb, hml, hown, fun w hw => hts w (List.mem_cons_of_mem _ hw)⟩ hN ⟨hK, hP, hD, va_S.rf⟩ hl ?_
  intro H locs pc ls f2 v hw hv hdg
  exact W.zret hx hb hr (hnar v f2 hv) (fun t ht hW => ⟨⟨v, f2, rfl, hv, by rw [ht]; exact hw.2.1, va_K.moved hW.alike hw.1⟩, hw.2.2.2.F ht⟩) hw.2.2.2.2.2 hdg hlocks
theorem dw_ofL {l : Launch} {Ns : List Cond} {D : va_G} {cl : List vw_C} {tys : List (ClassId × FieldType)} {NC : Nat} {ce : Nat → (Nat → Nat) → va_E} {a : Nat → Nat} {y : MethodName} {bytes : ByteArray} {maxL : Nat} {Ts : List Cond} {fr lo : Nat} {As : List Value} {f : Nat → Nat → Nat} {post : Int64 → (Nat → Nat → Nat) → Prop} (hy : plainName y.cls = true) (hlen : (lg_sl As).length ≤ maxL)
    (body : ∀ (p : Program) (e : Env) (s : State) (m : MethodId) (below : List Frame) (meth : Method) (c : Code) (ls : Array Slot) (A : Nat → Prop) (Q : State → Prop) (R : Room), R = { frames := fr, cells := 0, slots := 0, locals := lo } → (∀ q : Nat, s.heap.size ≤ q → A q) → CallFix p m c bytes maxL s As.toArray Ts y.cls → dw_N Ns s → dw_W D cl tys A s.heap (dw_l NC ce a f) s s.heap [] → lv_has ls maxL (lv_args 0 As) →
      (∀ (H : Heap) (locs : List Loc) (pc : Nat) (ls : Array Slot) (f2 : Nat → Nat → Nat) (v : Int64), dw_W D cl tys A s.heap (dw_l NC ce a f2) s H locs → post v f2 → decode bytes pc = .ok (.lreturn, 1) → W p l e R s m As.toArray below meth c H locs 0 0 Q (F0 m pc ls [.long v])) →
      W p l e R s m As.toArray below meth c s.heap [] 0 0 Q (F0 m 0 ls [])) : dw_CL l Ns D cl tys NC ce a y (Cond.code y bytes maxL (some .long) :: Ts) fr lo As f post := by
  intro sz
  refine Met.ofW (cc := bytes) (maxL := maxL) (ret := some .long) hy rfl ?_
  intro p e s m args below meth c s₁ B hml hv
  obtain ⟨rfl, hsz, hP, hK, hD0, hN⟩ := hv
  have hts := atoms_spec (ws := Cond.code y bytes maxL (some .long) :: Ts) B.pre
  have hown : s.vm.findClass y.cls = some m.cls := findClass_of_methodNamed B.named
  have hlocks := B.notSynchronized
  have hr := B.returns
  have hx := B.exec
  have hb := B.bytes
  subst hsz
  have hD := hD0.self (sz := s.heap.size)
  generalize hAe : va_A (dw_l NC ce a f) s.heap.size = A at hD ⊢
  have hA : ∀ q : Nat, s.heap.size ≤ q → A q := fun q h => by rw [← hAe]; exact Or.inr h
  have hl := lv_entry As (n := maxL) hlen
  rw [lg_entry_eq]
  generalize (lg_sl As ++ List.replicate (maxL - (lg_sl As).length) Slot.unset).toArray = ls at hl ⊢
  refine body p e s m below meth c ls A _ _ rfl hA ⟨hx, hb, hml, hown, fun w hw => hts w (List.mem_cons_of_mem _ hw)⟩ hN ⟨hK, hP, hD, va_S.rf⟩ hl ?_
  intro H locs pc ls f2 v hw hv hdg
  exact W.lret hx hb hr (fun t ht hW => ⟨⟨v, f2, rfl, hv, by rw [ht]; exact hw.2.1, va_K.moved hW.alike hw.1⟩, hw.2.2.2.F ht⟩) hw.2.2.2.2.2 hdg hlocks
theorem dw_ofV {l : Launch} {Ns : List Cond} {D : va_G} {cl : List vw_C} {tys : List (ClassId × FieldType)} {NC : Nat} {ce : Nat → (Nat → Nat) → va_E} {a : Nat → Nat} {y : MethodName} {bytes : ByteArray} {maxL : Nat} {Ts : List Cond} {fr lo : Nat} {As : List Value} {f : Nat → Nat → Nat} {post : (Nat → Nat → Nat) → Prop} (hy : plainName y.cls = true) (hlen : (lg_sl As).length ≤ maxL)
    (body : ∀ (p : Program) (e : Env) (s : State) (m : MethodId) (below : List Frame) (meth : Method) (c : Code) (ls : Array Slot) (A : Nat → Prop) (Q : State → Prop) (R : Room), R = { frames := fr, cells := 0, slots := 0, locals := lo } → (∀ q : Nat, s.heap.size ≤ q → A q) → CallFix p m c bytes maxL s As.toArray Ts y.cls → dw_N Ns s → dw_W D cl tys A s.heap (dw_l NC ce a f) s s.heap [] → lv_has ls maxL (lv_args 0 As) →
      (∀ (H : Heap) (locs : List Loc) (pc : Nat) (ls : Array Slot) (f2 : Nat → Nat → Nat), dw_W D cl tys A s.heap (dw_l NC ce a f2) s H locs → post f2 → decode bytes pc = .ok (.return_, 1) → W p l e R s m As.toArray below meth c H locs 0 0 Q (F0 m pc ls [])) →
      W p l e R s m As.toArray below meth c s.heap [] 0 0 Q (F0 m 0 ls [])) : dw_CV l Ns D cl tys NC ce a y (Cond.code y bytes maxL none :: Ts) fr lo As f post := by
  intro sz
  refine Met.ofW (cc := bytes) (maxL := maxL) (ret := none) hy rfl ?_
  intro p e s m args below meth c s₁ B hml hv
  obtain ⟨rfl, hsz, hP, hK, hD0, hN⟩ := hv
  have hts := atoms_spec (ws := Cond.code y bytes maxL none :: Ts) B.pre
  have hown : s.vm.findClass y.cls = some m.cls := findClass_of_methodNamed B.named
  have hlocks := B.notSynchronized
  have hr := B.returns
  have hx := B.exec
  have hb := B.bytes
  subst hsz
  have hD := hD0.self (sz := s.heap.size)
  generalize hAe : va_A (dw_l NC ce a f) s.heap.size = A at hD ⊢
  have hA : ∀ q : Nat, s.heap.size ≤ q → A q := fun q h => by rw [← hAe]; exact Or.inr h
  have hl := lv_entry As (n := maxL) hlen
  rw [lg_entry_eq]
  generalize (lg_sl As ++ List.replicate (maxL - (lg_sl As).length) Slot.unset).toArray = ls at hl ⊢
  refine body p e s m below meth c ls A _ _ rfl hA ⟨hx, hb, hml, hown, fun w hw => hts w (List.mem_cons_of_mem _ hw)⟩ hN ⟨hK, hP, hD, va_S.rf⟩ hl ?_
  intro H locs pc ls f2 hw hv hdg
  exact W.vret hx hb hr (fun t ht hW => ⟨⟨f2, rfl, hv, by rw [ht]; exact hw.2.1, va_K.moved hW.alike hw.1⟩, hw.2.2.2.F ht⟩) hw.2.2.2.2.2 hdg hlocks
end
section
/-! plain words: sets of bits, the k-th, counts -/
abbrev ds_in (v : Int32) (n : Nat) : Prop := 0 ≤ v.toInt ∧ v.toInt < (n : Int)
theorem ds_in_nI {v : Int32} {n : Nat} (h : ds_in v n) : v = nI v.toNatClampNeg ∧ v.toNatClampNeg < n := by
  obtain ⟨h1, h2⟩ := h
  have h3 : ¬ v < 0 := by rw [Int32.lt_iff_toInt_lt, Int32.toInt_zero]; omega
  obtain ⟨j, hj, rfl⟩ := nI_of h3
  rw [nI_toInt hj] at h2
  rw [nI_clamp hj]
  exact ⟨rfl, by omega⟩
theorem ds_nI_in {j n : Nat} (hj : j < 2 ^ 31) : ds_in (nI j) n ↔ j < n := by
  unfold ds_in
  rw [nI_toInt hj]
  omega
def ds_bits (P : Nat → Bool) : Nat → Nat
  | 0 => 0
  | i + 1 => if P i then ds_bits P i ||| 1 * 2 ^ i else ds_bits P i
theorem ds_bits_tb (P : Nat → Bool) : ∀ n s, (ds_bits P n).testBit s = (decide (s < n) && P s)
  | 0, s => by simp [ds_bits]
  | n + 1, s => by
    have ih := ds_bits_tb P n s
    unfold ds_bits
    by_cases h : P n = true
    · rw [if_pos h, Nat.testBit_or, ih, Nat.one_mul, Nat.testBit_two_pow]
      by_cases e : n = s
      · subst e
        simp [h]
      · have h2 : (s < n + 1) ↔ (s < n) := by omega
        simp [e, h2]
    · rw [if_neg h, ih]
      by_cases e : s = n
      · subst e
        simp [h]
      · have h2 : (s < n + 1) ↔ (s < n) := by omega
        simp [h2]
theorem ds_bits_lt (P : Nat → Bool) : ∀ n, ds_bits P n < 2 ^ n
  | 0 => by simp [ds_bits]
  | n + 1 => by
    have ih := ds_bits_lt P n
    have h1 : 2 ^ n < 2 ^ (n + 1) := Nat.pow_lt_pow_right (by omega) (by omega)
    unfold ds_bits
    split
    · exact Nat.or_lt_two_pow (Nat.lt_trans ih h1) (by rw [Nat.one_mul]; exact h1)
    · exact Nat.lt_trans ih h1
theorem ds_bits_congr {P P2 : Nat → Bool} : ∀ n, (∀ i, i < n → P i = P2 i) → ds_bits P n = ds_bits P2 n
  | 0, _ => rfl
  | n + 1, h => by
    unfold ds_bits
    rw [ds_bits_congr n (fun i hi => h i (by omega)), h n (by omega)]
theorem ds_bits_256 (P : Nat → Bool) {n : Nat} (hn : n ≤ 8) : ds_bits P n < 256 := Nat.lt_of_lt_of_le (ds_bits_lt P n) (Nat.pow_le_pow_right (n := 2) (by omega) hn)
theorem ds_tb (x s : Nat) : ((x / 2 ^ s) &&& 1 = 1) ↔ x.testBit s = true := by
  rw [Nat.and_one_is_mod, Nat.testBit_eq_decide_div_mod_eq]
  simp
/-- the k-th place of P from s on, b seen before -/
def ds_find (P : Nat → Bool) (k : Int32) : Nat → Nat → Nat → Int32
  | 0, _, _ => -1
  | m + 1, s, b => if P s then (if nI b = k then nI s else ds_find P k m (s + 1) (b + 1)) else ds_find P k m (s + 1) b
theorem ds_find_congr {P P2 : Nat → Bool} {k : Int32} : ∀ m s b, (∀ i, s ≤ i → i < s + m → P i = P2 i) → ds_find P k m s b = ds_find P2 k m s b
  | 0, _, _, _ => rfl
  | m + 1, s, b, h => by
    unfold ds_find
    rw [h s (Nat.le_refl _) (by omega), ds_find_congr m (s + 1) (b + 1) (fun i h1 h2 => h i (by omega) (by omega)), ds_find_congr m (s + 1) b (fun i h1 h2 => h i (by omega) (by omega))]
theorem ds_find_none {P : Nat → Bool} {k : Int32} : ∀ m s b, (∀ i, s ≤ i → i < s + m → P i = false) → ds_find P k m s b = -1
  | 0, _, _, _ => rfl
  | m + 1, s, b, h => by
    unfold ds_find
    rw [h s (Nat.le_refl _) (by omega), ds_find_none m (s + 1) b (fun i h1 h2 => h i (by omega) (by omega))]
    rfl
theorem ds_find_more {P : Nat → Bool} {k : Int32} {j : Nat} : ∀ m s b, (∀ i, s + m ≤ i → i < s + m + j → P i = false) → ds_find P k (m + j) s b = ds_find P k m s b
  | 0, s, b, h => by
    rw [Nat.zero_add, ds_find_none j s b (fun i h1 h2 => h i (by omega) (by omega))]
    rfl
  | m + 1, s, b, h => by
    rw [show m + 1 + j = (m + j) + 1 by omega]
    unfold ds_find
    rw [ds_find_more m (s + 1) (b + 1) (fun i h1 h2 => h i (by omega) (by omega)), ds_find_more m (s + 1) b (fun i h1 h2 => h i (by omega) (by omega))]
def ds_cnt (P : Nat → Bool) : Nat → Nat
  | 0 => 0
  | i + 1 => if P i then ds_cnt P i + 1 else ds_cnt P i
theorem ds_cnt_le (P : Nat → Bool) : ∀ n, ds_cnt P n ≤ n
  | 0 => Nat.le_refl _
  | n + 1 => by
    have ih := ds_cnt_le P n
    unfold ds_cnt
    split <;> omega
theorem ds_cnt_congr {P P2 : Nat → Bool} : ∀ n, (∀ i, i < n → P i = P2 i) → ds_cnt P n = ds_cnt P2 n
  | 0, _ => rfl
  | n + 1, h => by
    unfold ds_cnt
    rw [ds_cnt_congr n (fun i hi => h i (by omega)), h n (by omega)]
/-- apart: two counts together are no more than n -/
theorem ds_cnt_two {P P2 : Nat → Bool} : ∀ n, (∀ i, i < n → ¬ (P i = true ∧ P2 i = true)) → ds_cnt P n + ds_cnt P2 n = ds_cnt (fun i => P i || P2 i) n
  | 0, _ => rfl
  | n + 1, h => by
    have ih := ds_cnt_two n (fun i hi => h i (by omega))
    have hn := h n (by omega)
    unfold ds_cnt
    cases h1 : P n <;> cases h2 : P2 n <;> simp_all <;> omega
theorem ds_cnt_false : ∀ n, ds_cnt (fun _ => false) n = 0
  | 0 => rfl
  | n + 1 => by unfold ds_cnt; simpa using ds_cnt_false n
theorem ds_cnt_more {P : Nat → Bool} {j : Nat} : ∀ m, (∀ i, m ≤ i → i < m + j → P i = false) → ds_cnt P (m + j) = ds_cnt P m := by
  induction j with
  | zero => intro m _; rfl
  | succ j ih =>
    intro m h
    have e : ds_cnt P ((m + j) + 1) = ds_cnt P (m + j) := by
      rw [show ds_cnt P ((m + j) + 1) = if P (m + j) then ds_cnt P (m + j) + 1 else ds_cnt P (m + j) from rfl, h (m + j) (by omega) (by omega)]
      rfl
    rw [show m + (j + 1) = (m + j) + 1 by omega, e]
    exact ih m (fun i h1 h2 => h i h1 (by omega))
end
section
/-! the parts of a set, and the table that is joined vehicle by vehicle -/
theorem dp_half (x : Nat) : x = 2 * (x / 2) + x % 2 := by omega
theorem dp_and2 (x y : Nat) : (x &&& y) / 2 = x / 2 &&& y / 2 := Nat.and_div_two
theorem dp_andm (x y : Nat) : (x &&& y) % 2 = x % 2 &&& y % 2 := by
  have h := Nat.and_mod_two_pow (a := x) (b := y) (n := 1)
  simpa using h
/-- the next part: none lies between -/
theorem dp_next : ∀ (k S P Q : Nat), P < 2 ^ k → P &&& S = P → Q &&& S = Q → Q < P → Q ≤ (P - 1) &&& S
  | 0, S, P, Q, h0, _, _, hq => by simp at h0; omega
  | k + 1, S, P, Q, h0, hP, hQ, hq => by
    have e2 := dp_and2 (P - 1) S
    have em := dp_andm (P - 1) S
    have hP2 : P / 2 &&& S / 2 = P / 2 := by rw [← dp_and2, hP]
    have hQ2 : Q / 2 &&& S / 2 = Q / 2 := by rw [← dp_and2, hQ]
    have hQm : Q % 2 &&& S % 2 = Q % 2 := by rw [← dp_andm, hQ]
    have hPm : P % 2 &&& S % 2 = P % 2 := by rw [← dp_andm, hP]
    rcases Nat.mod_two_eq_zero_or_one P with c | c
    · have hp : (P - 1) / 2 = P / 2 - 1 := by omega
      have hm : (P - 1) % 2 = 1 := by omega
      rw [hp] at e2
      rw [hm] at em
      have ih := dp_next k (S / 2) (P / 2) (Q / 2) (by rw [Nat.pow_succ] at h0; omega) hP2 hQ2 (by omega)
      have h1 : Q % 2 ≤ 1 &&& S % 2 := by
        rcases Nat.mod_two_eq_zero_or_one Q with d | d
        · omega
        · rw [d] at hQm
          rw [hQm]
          omega
      rw [dp_half ((P - 1) &&& S), e2, em, dp_half Q]
      omega
    · have hp : (P - 1) / 2 = P / 2 := by omega
      rw [hp, hP2] at e2
      rw [dp_half ((P - 1) &&& S), e2]
      omega
/-- the least of m and the parts from P down -/
def dp_part (B w : Nat → Nat) (S : Nat) : Nat → Nat → Nat → Nat
  | 0, _, m => m
  | k + 1, P, m => if P = 0 then m else dp_part B w S k ((P - 1) &&& S) (min m (B (S ^^^ P) + w P))
theorem dp_part_le {B w : Nat → Nat} {S : Nat} : ∀ k P m, dp_part B w S k P m ≤ m
  | 0, _, _ => Nat.le_refl _
  | k + 1, P, m => by
    unfold dp_part
    split
    · exact Nat.le_refl _
    · exact Nat.le_trans (dp_part_le k _ _) (Nat.min_le_left _ _)
theorem dp_part_all {B w : Nat → Nat} {S : Nat} : ∀ k P m, P < k → P &&& S = P → ∀ Q, Q &&& S = Q → 0 < Q → Q ≤ P → dp_part B w S k P m ≤ B (S ^^^ Q) + w Q
  | 0, P, m, h, _, _, _, _, _ => by omega
  | k + 1, P, m, h, hP, Q, hQ, h0, hq => by
    unfold dp_part
    rw [if_neg (by omega)]
    have h2 : (P - 1) &&& S ≤ P - 1 := Nat.and_le_left
    rcases Nat.eq_or_lt_of_le hq with e | e
    · rw [e]
      exact Nat.le_trans (dp_part_le k _ _) (Nat.min_le_right _ _)
    · exact dp_part_all k _ _ (by omega) (by rw [Nat.and_assoc, Nat.and_self]) Q hQ h0 (dp_next P S P Q Nat.lt_two_pow_self hP hQ e)
theorem dp_part_in {B w : Nat → Nat} {S : Nat} : ∀ k P m, P &&& S = P → dp_part B w S k P m = m ∨ ∃ Q, Q &&& S = Q ∧ 0 < Q ∧ dp_part B w S k P m = B (S ^^^ Q) + w Q
  | 0, _, _, _ => Or.inl rfl
  | k + 1, P, m, hP => by
    unfold dp_part
    split
    · exact Or.inl rfl
    · rename_i hz
      rcases dp_part_in (B := B) (w := w) k ((P - 1) &&& S) (min m (B (S ^^^ P) + w P)) (by rw [Nat.and_assoc, Nat.and_self]) with h | h
      · rw [h]
        rcases Nat.le_total m (B (S ^^^ P) + w P) with q | q
        · exact Or.inl (Nat.min_eq_left q)
        · exact Or.inr ⟨P, hP, by omega, Nat.min_eq_right q⟩
      · exact Or.inr h
/-- one vehicle more -/
def dp_join (B w : Nat → Nat) (S : Nat) : Nat := dp_part B w S (S + 1) S (B S)
/-- the table after the vehicles 0 .. j - 1; V stands for those that are carried -/
def dp_tab (wt : Nat → Nat → Nat) (V : Nat) : Nat → Nat → Nat
  | 0, S => wt V S
  | j + 1, S => dp_join (dp_tab wt V j) (wt j) S
/-- the stops of S that p gives to v -/
def dp_mask (n : Nat) (p : Nat → Nat) (v S : Nat) : Nat := ds_bits (fun s => S.testBit s && p s == v) n
theorem dp_mask_tb (n : Nat) (p : Nat → Nat) (v S s : Nat) : (dp_mask n p v S).testBit s = (decide (s < n) && (S.testBit s && p s == v)) := ds_bits_tb _ n s
/-- what the plan p weighs on S, with the vehicles 0 .. j - 1 -/
def dp_sum (wt : Nat → Nat → Nat) (V n : Nat) (p : Nat → Nat) (S : Nat) : Nat → Nat
  | 0 => wt V (dp_mask n p V S)
  | j + 1 => dp_sum wt V n p S j + wt j (dp_mask n p j S)
theorem dp_sum_congr {wt : Nat → Nat → Nat} {V n : Nat} {p p2 : Nat → Nat} {S S2 : Nat} : ∀ j, (∀ v, v = V ∨ v < j → dp_mask n p v S = dp_mask n p2 v S2) → dp_sum wt V n p S j = dp_sum wt V n p2 S2 j
  | 0, h => by unfold dp_sum; rw [h V (Or.inl rfl)]
  | j + 1, h => by
    unfold dp_sum
    rw [dp_sum_congr j (fun v hv => h v (by omega)), h j (Or.inr (by omega))]
theorem dp_sub_tb {Q S : Nat} (h : Q &&& S = Q) (s : Nat) (hs : Q.testBit s = true) : S.testBit s = true := by
  rw [← h, Nat.testBit_and] at hs
  simp at hs
  exact hs.2
theorem dp_tb_sub {Q S : Nat} (h : ∀ s, Q.testBit s = true → S.testBit s = true) : Q &&& S = Q := by
  apply Nat.eq_of_testBit_eq
  intro i
  rw [Nat.testBit_and]
  cases hq : Q.testBit i
  · rfl
  · rw [h i hq]; rfl
def dp_ok (V j : Nat) (p : Nat → Nat) (S : Nat) : Prop := ∀ s, S.testBit s = true → p s = V ∨ p s < j
theorem dp_big {S n s : Nat} (hS : S < 2 ^ n) (h : S.testBit s = true) : s < n := by
  rcases Nat.lt_or_ge s n with q | q
  · exact q
  · rw [Nat.testBit_lt_two_pow (Nat.lt_of_lt_of_le hS (Nat.pow_le_pow_right (by omega) q))] at h
    cases h
theorem dp_xor_tb {Q S : Nat} (h : Q &&& S = Q) (s : Nat) : (S ^^^ Q).testBit s = (S.testBit s && !Q.testBit s) := by
  rw [Nat.testBit_xor]
  cases hq : Q.testBit s
  · cases S.testBit s <;> rfl
  · rw [dp_sub_tb h s hq]; rfl
theorem dp_lower {wt : Nat → Nat → Nat} {V n : Nat} (h0 : ∀ v, v < V → wt v 0 = 0) : ∀ j, j ≤ V → ∀ (S : Nat) (p : Nat → Nat), S < 2 ^ n → dp_ok V j p S → dp_tab wt V j S ≤ dp_sum wt V n p S j
  | 0, _, S, p, hS, hp => by
    unfold dp_tab dp_sum
    have e : dp_mask n p V S = S := by
      apply Nat.eq_of_testBit_eq
      intro i
      rw [dp_mask_tb]
      cases hi : S.testBit i
      · simp
      · have h1 := dp_big hS hi
        rcases hp i hi with q | q
        · simp [h1, q]
        · omega
    rw [e]
    exact Nat.le_refl _
  | j + 1, hj, S, p, hS, hp => by
    have hM : dp_mask n p j S &&& S = dp_mask n p j S := dp_tb_sub (fun s hs => by rw [dp_mask_tb] at hs; simp at hs; exact hs.2.1)
    unfold dp_tab dp_join dp_sum
    by_cases hz : dp_mask n p j S = 0
    · rw [hz, h0 j (by omega), Nat.add_zero]
      refine Nat.le_trans (dp_part_le _ _ _) (dp_lower h0 j (by omega) S p hS (fun s hs => ?_))
      rcases hp s hs with q | q
      · exact Or.inl q
      · rcases Nat.lt_or_ge (p s) j with q2 | q2
        · exact Or.inr q2
        · exfalso
          have e : (dp_mask n p j S).testBit s = true := by
            rw [dp_mask_tb, hs]
            have h1 := dp_big hS hs
            have h2 : p s = j := by omega
            simp [h1, h2]
          rw [hz] at e
          simp at e
    · have hle : dp_mask n p j S ≤ S := by
        have h1 : dp_mask n p j S &&& S ≤ S := Nat.and_le_right
        rwa [hM] at h1
      refine Nat.le_trans (dp_part_all (S + 1) S _ (by omega) (Nat.and_self S) (dp_mask n p j S) hM (by omega) hle) ?_
      refine Nat.add_le_add_right ?_ _
      have hS2 : S ^^^ dp_mask n p j S < 2 ^ n := Nat.xor_lt_two_pow hS (Nat.lt_of_le_of_lt hle hS)
      rw [dp_sum_congr (p := p) (p2 := p) (S := S) (S2 := S ^^^ dp_mask n p j S) j (fun v hv => ?_)]
      · refine dp_lower h0 j (by omega) _ p hS2 (fun s hs => ?_)
        rw [dp_xor_tb hM] at hs
        simp at hs
        rcases hp s hs.1 with q | q
        · exact Or.inl q
        · rcases Nat.lt_or_ge (p s) j with q2 | q2
          · exact Or.inr q2
          · exfalso
            have e : (dp_mask n p j S).testBit s = true := by
              rw [dp_mask_tb, hs.1]
              have h1 := dp_big hS hs.1
              have h2 : p s = j := by omega
              simp [h1, h2]
            rw [hs.2] at e
            cases e
      · apply Nat.eq_of_testBit_eq
        intro i
        rw [dp_mask_tb, dp_mask_tb, dp_xor_tb hM, dp_mask_tb]
        by_cases h1 : p i = v
        · have h2 : (p i == j) = false := beq_eq_false_iff_ne.mpr (by omega)
          rw [h2]
          cases decide (i < n) <;> cases S.testBit i <;> cases (p i == v) <;> rfl
        · have h2 : (p i == v) = false := beq_eq_false_iff_ne.mpr h1
          rw [h2]
          cases decide (i < n) <;> cases S.testBit i <;> cases (p i == j) <;> rfl
theorem dp_reach {wt : Nat → Nat → Nat} {V n : Nat} (h0 : ∀ v, v < V → wt v 0 = 0) : ∀ j, j ≤ V → ∀ (S : Nat), S < 2 ^ n → ∃ p : Nat → Nat, dp_ok V j p S ∧ dp_tab wt V j S = dp_sum wt V n p S j
  | 0, _, S, hS => by
    refine ⟨fun _ => V, fun s _ => Or.inl rfl, ?_⟩
    unfold dp_tab dp_sum
    have e : dp_mask n (fun _ => V) V S = S := by
      apply Nat.eq_of_testBit_eq
      intro i
      rw [dp_mask_tb]
      cases hi : S.testBit i
      · simp
      · have h1 := dp_big hS hi
        simp [h1]
    rw [e]
  | j + 1, hj, S, hS => by
    rcases dp_part_in (B := dp_tab wt V j) (w := wt j) (S := S) (S + 1) S (dp_tab wt V j S) (Nat.and_self S) with h | ⟨Q, hQ, hq, h⟩
    · obtain ⟨p, hp, e⟩ := dp_reach h0 j (by omega) S hS
      refine ⟨p, fun s hs => ?_, ?_⟩
      · rcases hp s hs with q | q
        · exact Or.inl q
        · exact Or.inr (by omega)
      · unfold dp_tab dp_join dp_sum
        have hz : dp_mask n p j S = 0 := by
          apply Nat.eq_of_testBit_eq
          intro i
          rw [dp_mask_tb, Nat.zero_testBit]
          cases hi : S.testBit i
          · simp
          · have h1 : p i ≠ j := by
              rcases hp i hi with q | q <;> omega
            simp [h1]
        rw [h, e, hz, h0 j (by omega), Nat.add_zero]
    · have hle : Q ≤ S := by
        have h1 : Q &&& S ≤ S := Nat.and_le_right
        rwa [hQ] at h1
      have hS2 : S ^^^ Q < 2 ^ n := Nat.xor_lt_two_pow hS (Nat.lt_of_le_of_lt hle hS)
      obtain ⟨p, hp, e⟩ := dp_reach h0 j (by omega) (S ^^^ Q) hS2
      refine ⟨fun s => if Q.testBit s then j else p s, fun s hs => ?_, ?_⟩
      · by_cases hz : Q.testBit s = true
        · right
          simp [hz]
        · have h1 := hp s (by rw [dp_xor_tb hQ, hs]; simp [hz])
          simp only [hz]
          rcases h1 with q | q
          · exact Or.inl q
          · exact Or.inr (Nat.lt_succ_of_lt q)
      · unfold dp_tab dp_join dp_sum
        have hm : dp_mask n (fun s => if Q.testBit s then j else p s) j S = Q := by
          apply Nat.eq_of_testBit_eq
          intro i
          rw [dp_mask_tb]
          cases hi : Q.testBit i
          · cases hs : S.testBit i
            · simp
            · have h1 : p i ≠ j := by
                rcases hp i (by rw [dp_xor_tb hQ, hs, hi]; rfl) with q | q <;> omega
              simp [h1]
          · have h1 := dp_sub_tb hQ i hi
            have h2 := dp_big hS h1
            simp [h1, h2]
        rw [h, e, hm]
        congr 1
        refine dp_sum_congr j (fun v hv => ?_)
        apply Nat.eq_of_testBit_eq
        intro i
        rw [dp_mask_tb, dp_mask_tb, dp_xor_tb hQ]
        cases hi : Q.testBit i
        · simp
        · have h1 : j ≠ v := by omega
          simp [h1]
end
section
/-! rounds as lists, their times -/
/-- the row of v, as the first len of its places -/
def ds_row (f : Nat → Nat → Nat) (v r : Nat) : List Nat := (List.range r).map (fun i => f (22 + v) i)
/-- of the stops below i, those that P has and that are not of v's row -/
def ds_oth (f : Nat → Nat → Nat) (P : Nat → Bool) (v i : Nat) : List Nat := (List.range i).filter (fun s => P s && (f 10 s != v))
/-- the round of v over the stops that P has -/
def ds_rd (f : Nat → Nat → Nat) (P : Nat → Bool) (v : Nat) : List Nat := (ds_row f v (f 15 v)).filter P ++ ds_oth f P v (f 1 1)
theorem ds_row_s (f : Nat → Nat → Nat) (P : Nat → Bool) (v r : Nat) : (ds_row f v (r + 1)).filter P = (ds_row f v r).filter P ++ (if P (f (22 + v) r) then [f (22 + v) r] else []) := by
  unfold ds_row
  rw [List.range_succ, List.map_append, List.filter_append]
  congr 1
  by_cases h : P (f (22 + v) r) = true
  · simp [h]
  · simp [h]
theorem ds_oth_s (f : Nat → Nat → Nat) (P : Nat → Bool) (v i : Nat) : ds_oth f P v (i + 1) = ds_oth f P v i ++ (if P i && (f 10 i != v) then [i] else []) := by
  unfold ds_oth
  rw [List.range_succ, List.filter_append]
  congr 1
  by_cases h : (P i && (f 10 i != v)) = true
  · simp [h]
  · simp [h]
theorem ds_row_mono (f : Nat → Nat → Nat) (P : Nat → Bool) (v : Nat) {r r2 : Nat} (h : r ≤ r2) : ((ds_row f v r).filter P).length ≤ ((ds_row f v r2).filter P).length := by
  induction h with
  | refl => exact Nat.le_refl _
  | step h ih =>
    rw [ds_row_s, List.length_append]
    omega
theorem ds_oth_mono (f : Nat → Nat → Nat) (P : Nat → Bool) (v : Nat) {r r2 : Nat} (h : r ≤ r2) : (ds_oth f P v r).length ≤ (ds_oth f P v r2).length := by
  induction h with
  | refl => exact Nat.le_refl _
  | step h ih =>
    rw [ds_oth_s, List.length_append]
    omega
/-- g holds the list L from place e on -/
def ds_is (g : Nat → Nat) (e : Nat) (L : List Nat) : Prop := ∀ i, i < L.length → g (e + i) = L.getD i 0
theorem ds_is_nil (g : Nat → Nat) (e : Nat) : ds_is g e [] := fun i h => absurd h (Nat.not_lt_zero _)
theorem ds_is_push {g : Nat → Nat} {e : Nat} {L : List Nat} (x : Nat) (h : ds_is g e L) : ds_is (dw_up g (e + L.length) x) e (L ++ [x]) := by
  intro i hi
  rw [List.length_append, List.length_singleton] at hi
  unfold dw_up
  by_cases h1 : i = L.length
  · subst h1
    simp
  · have h2 : i < L.length := by omega
    rw [if_neg (by omega), h i h2]
    simp [List.getElem?_append_left h2]
/-- one step of a round: time and place -/
def ds_st (w : Nat → Nat → Nat) (pl sv : Nat → Nat) (z : Nat × Nat) (s : Nat) : Nat × Nat := (z.1 + (w z.2 (pl s) + sv s), pl s)
def ds_fold (w : Nat → Nat → Nat) (pl sv : Nat → Nat) (L : List Nat) : Nat × Nat := L.foldl (ds_st w pl sv) (0, 0)
def ds_time (w : Nat → Nat → Nat) (pl sv : Nat → Nat) (L : List Nat) : Nat := (ds_fold w pl sv L).1 + w (ds_fold w pl sv L).2 0
theorem ds_fold_s {w : Nat → Nat → Nat} {pl sv : Nat → Nat} {L : List Nat} {i : Nat} (h : i < L.length) : ds_fold w pl sv (L.take (i + 1)) = ds_st w pl sv (ds_fold w pl sv (L.take i)) (L.getD i 0) := by
  unfold ds_fold
  rw [List.take_succ_eq_append_getElem h, List.foldl_append]
  simp [List.getD, h]
theorem ds_fold_b {w : Nat → Nat → Nat} {pl sv : Nat → Nat} (hw : ∀ i j, i < 10 → j < 10 → w i j ≤ 10000) : ∀ (L : List Nat) (z : Nat × Nat), (∀ s ∈ L, pl s < 10 ∧ sv s ≤ 10000) → z.2 < 10 → (L.foldl (ds_st w pl sv) z).1 ≤ z.1 + 20000 * L.length ∧ (L.foldl (ds_st w pl sv) z).2 < 10
  | [], z, _, hz => by simp [hz]
  | s :: L, z, h, hz => by
    have h1 := h s List.mem_cons_self
    have h2 := ds_fold_b hw L (ds_st w pl sv z s) (fun x hx => h x (List.mem_cons_of_mem _ hx)) h1.1
    have h3 := hw z.2 (pl s) hz h1.1
    rw [List.foldl_cons]
    refine ⟨Nat.le_trans h2.1 ?_, h2.2⟩
    show z.1 + (w z.2 (pl s) + sv s) + 20000 * L.length ≤ z.1 + 20000 * (L.length + 1)
    omega
theorem ds_time_b {w : Nat → Nat → Nat} {pl sv : Nat → Nat} (hw : ∀ i j, i < 10 → j < 10 → w i j ≤ 10000) {L : List Nat} (h : ∀ s ∈ L, pl s < 10 ∧ sv s ≤ 10000) (hL : L.length ≤ 8) : ds_time w pl sv L ≤ 170000 := by
  obtain ⟨h1, h2⟩ := ds_fold_b hw L (0, 0) h (by decide)
  have h3 := hw (ds_fold w pl sv L).2 0 h2 (by decide)
  have h4 : (ds_fold w pl sv L).1 ≤ 0 + 20000 * L.length := h1
  unfold ds_time
  omega
theorem ds_fold_congr {w w2 : Nat → Nat → Nat} {pl pl2 sv sv2 : Nat → Nat} : ∀ (L : List Nat) (z : Nat × Nat), (∀ s ∈ L, pl s = pl2 s ∧ sv s = sv2 s ∧ pl s < 10) → z.2 < 10 → (∀ i j, i < 10 → j < 10 → w i j = w2 i j) → L.foldl (ds_st w pl sv) z = L.foldl (ds_st w2 pl2 sv2) z
  | [], _, _, _, _ => rfl
  | s :: L, z, h, hz, hw => by
    obtain ⟨h1, h2, h3⟩ := h s List.mem_cons_self
    rw [List.foldl_cons, List.foldl_cons]
    have e : ds_st w pl sv z s = ds_st w2 pl2 sv2 z s := by
      unfold ds_st
      rw [hw z.2 (pl s) hz h3, ← h1, ← h2]
    rw [← e]
    exact ds_fold_congr L _ (fun x hx => h x (List.mem_cons_of_mem _ hx)) h3 hw
/-- where s stands in L, from place i on -/
def ds_pos (s : Nat) : List Nat → Nat → Int32
  | [], _ => -1
  | x :: L, i => if x = s then nI i else ds_pos s L (i + 1)
end
section
/-! plans as numbers: the order of the plans, and the turn from one to the next -/
def md_code (B : Nat) (p : Nat → Nat) : Nat → Nat
  | 0 => 0
  | s + 1 => md_code B p s * B + p s
theorem md_lt {B c c2 x y : Nat} (hx : x < B) (hy : y < B) : c * B + x < c2 * B + y ↔ c < c2 ∨ (c = c2 ∧ x < y) := by
  rcases Nat.lt_trichotomy c c2 with h | h | h
  · have h1 : (c + 1) * B ≤ c2 * B := Nat.mul_le_mul_right B h
    rw [Nat.succ_mul] at h1
    constructor
    · intro _; exact Or.inl h
    · intro _; omega
  · subst h
    constructor
    · intro q; exact Or.inr ⟨rfl, by omega⟩
    · intro q; rcases q with q | q <;> omega
  · have h1 : (c2 + 1) * B ≤ c * B := Nat.mul_le_mul_right B h
    rw [Nat.succ_mul] at h1
    constructor
    · intro q; omega
    · intro q; rcases q with q | q <;> omega
theorem md_eq {B c c2 x y : Nat} (hx : x < B) (hy : y < B) : c * B + x = c2 * B + y ↔ c = c2 ∧ x = y := by
  constructor
  · intro h
    have h1 := (md_lt (c := c) (c2 := c2) hx hy)
    have h2 := (md_lt (c := c2) (c2 := c) hy hx)
    have h3 : ¬ (c < c2 ∨ (c = c2 ∧ x < y)) := fun q => by have := h1.mpr q; omega
    have h4 : ¬ (c2 < c ∨ (c2 = c ∧ y < x)) := fun q => by have := h2.mpr q; omega
    omega
  · rintro ⟨rfl, rfl⟩; rfl
theorem md_code_congr {B : Nat} {p q : Nat → Nat} : ∀ n, (∀ s, s < n → p s = q s) → md_code B p n = md_code B q n
  | 0, _ => rfl
  | n + 1, h => by
    unfold md_code
    rw [md_code_congr n (fun s hs => h s (by omega)), h n (by omega)]
theorem md_code_lt {B : Nat} {p : Nat → Nat} : ∀ n, (∀ s, s < n → p s < B) → md_code B p n < B ^ n
  | 0, _ => by simp [md_code]
  | n + 1, h => by
    have ih := md_code_lt n (fun s hs => h s (by omega))
    have h1 := h n (by omega)
    unfold md_code
    rw [Nat.pow_succ]
    have h2 : (md_code B p n + 1) * B ≤ B ^ n * B := Nat.mul_le_mul_right B ih
    rw [Nat.succ_mul] at h2
    omega
theorem md_code_inj {B : Nat} {p q : Nat → Nat} : ∀ n, (∀ s, s < n → p s < B) → (∀ s, s < n → q s < B) → md_code B p n = md_code B q n → ∀ s, s < n → p s = q s
  | 0, _, _, _ => fun s h => absurd h (Nat.not_lt_zero _)
  | n + 1, hp, hq, h => by
    unfold md_code at h
    obtain ⟨h1, h2⟩ := (md_eq (hp n (by omega)) (hq n (by omega))).mp h
    have ih := md_code_inj n (fun s hs => hp s (by omega)) (fun s hs => hq s (by omega)) h1
    intro s hs
    rcases Nat.lt_or_ge s n with q1 | q1
    · exact ih s q1
    · rw [show s = n by omega]; exact h2
/-- the order does not hang on the base -/
theorem md_code_mono {B B2 : Nat} {p q : Nat → Nat} : ∀ n, (∀ s, s < n → p s < B ∧ p s < B2) → (∀ s, s < n → q s < B ∧ q s < B2) → (md_code B p n < md_code B q n ↔ md_code B2 p n < md_code B2 q n)
  | 0, _, _ => by simp [md_code]
  | n + 1, hp, hq => by
    have ih := md_code_mono n (fun s hs => hp s (by omega)) (fun s hs => hq s (by omega))
    have hpn := hp n (by omega)
    have hqn := hq n (by omega)
    have e1 : md_code B p n = md_code B q n ↔ md_code B2 p n = md_code B2 q n := by
      constructor
      · intro h
        exact md_code_congr n (md_code_inj n (fun s hs => (hp s (by omega)).1) (fun s hs => (hq s (by omega)).1) h)
      · intro h
        exact md_code_congr n (md_code_inj n (fun s hs => (hp s (by omega)).2) (fun s hs => (hq s (by omega)).2) h)
    unfold md_code
    rw [md_lt hpn.1 hqn.1, md_lt hpn.2 hqn.2, ih, e1]
/-- the rest of the places at the top digit, and the same with zeros -/
theorem md_code_top {V : Nat} {p : Nat → Nat} {j : Nat} : ∀ d, (∀ s, j ≤ s → s < j + d → p s = V) → md_code (V + 1) p (j + d) + 1 = (md_code (V + 1) p j + 1) * (V + 1) ^ d
  | 0, _ => by simp
  | d + 1, h => by
    have ih := md_code_top d (fun s h1 h2 => h s h1 (by omega))
    rw [← Nat.add_assoc, show md_code (V + 1) p (j + d + 1) = md_code (V + 1) p (j + d) * (V + 1) + p (j + d) from rfl]
    rw [h (j + d) (by omega) (by omega), Nat.pow_succ, ← Nat.mul_assoc, ← ih, Nat.succ_mul]
    omega
theorem md_code_zero {B : Nat} {p : Nat → Nat} {j : Nat} : ∀ d, (∀ s, j ≤ s → s < j + d → p s = 0) → md_code B p (j + d) = md_code B p j * B ^ d
  | 0, _ => by simp
  | d + 1, h => by
    have ih := md_code_zero (B := B) d (fun s h1 h2 => h s h1 (by omega))
    rw [← Nat.add_assoc, show md_code B p (j + d + 1) = md_code B p (j + d) * B + p (j + d) from rfl]
    rw [h (j + d) (by omega) (by omega), Nat.pow_succ, ← Nat.mul_assoc, ← ih, Nat.add_zero]
/-- one step on: place j grows by one, all behind it was V and is 0 -/
theorem md_code_turn {V n j : Nat} {p q : Nat → Nat} (hj : j < n) (h1 : ∀ s, s < j → q s = p s) (h2 : q j = p j + 1) (h3 : ∀ s, j < s → s < n → p s = V ∧ q s = 0) : md_code (V + 1) q n = md_code (V + 1) p n + 1 := by
  obtain ⟨d, rfl⟩ : ∃ d, n = (j + 1) + d := ⟨n - (j + 1), by omega⟩
  rw [md_code_top (p := p) (j := j + 1) d (fun s a b => (h3 s (by omega) b).1), md_code_zero (p := q) (j := j + 1) d (fun s a b => (h3 s (by omega) b).2)]
  congr 1
  rw [show md_code (V + 1) q (j + 1) = md_code (V + 1) q j * (V + 1) + q j from rfl, show md_code (V + 1) p (j + 1) = md_code (V + 1) p j * (V + 1) + p j from rfl, md_code_congr j h1, h2]
  omega
/-- all places at the top digit: the last number -/
theorem md_code_last {V n : Nat} {p : Nat → Nat} (h : ∀ s, s < n → p s = V) : md_code (V + 1) p n + 1 = (V + 1) ^ n := by
  have h1 := md_code_top (V := V) (p := p) (j := 0) n (fun s _ b => h s (by omega))
  simpa [md_code] using h1
end
section
/-! a list of different numbers below n is no longer than n; rounds are such -/
theorem dr_drop (n : Nat) : ∀ (L : List Nat), L.Nodup → L.length ≤ (L.filter (fun x => x != n)).length + 1
  | [], _ => by simp
  | x :: L, h => by
    rw [List.nodup_cons] at h
    by_cases e : x = n
    · subst e
      have e2 : L.filter (fun y => y != x) = L := by
        rw [List.filter_eq_self]
        intro y hy
        simp
        intro q
        subst q
        exact h.1 hy
      simp [e2]
    · have ih := dr_drop n L h.2
      simp [e]
      omega
theorem dr_len : ∀ (n : Nat) (L : List Nat), L.Nodup → (∀ x ∈ L, x < n) → L.length ≤ n
  | 0, L, _, h => by
    cases L with
    | nil => simp
    | cons x L => exact absurd (h x List.mem_cons_self) (Nat.not_lt_zero _)
  | n + 1, L, hn, h => by
    have h1 := dr_drop n L hn
    have h2 := dr_len n (L.filter (fun x => x != n)) (hn.filter _) (fun x hx => by
      rw [List.mem_filter] at hx
      have h3 := h x hx.1
      have h4 : x ≠ n := by simpa using hx.2
      omega)
    omega
/-- what is known of the rows: place r of v's row holds a stop of v's row, of rank r; each stop stands in its row -/
def ds_rows (f : Nat → Nat → Nat) : Prop := (∀ v r, v < f 1 0 → r < f 15 v → f (22 + v) r < f 1 1 ∧ f 10 (f (22 + v) r) = v ∧ f 11 (f (22 + v) r) = r) ∧ ∀ s, s < f 1 1 → f 10 s < f 1 0 ∧ f 11 s < f 15 (f 10 s) ∧ f (22 + f 10 s) (f 11 s) = s
theorem dr_row_nd {f : Nat → Nat → Nat} (h : ds_rows f) {v : Nat} (hv : v < f 1 0) : (ds_row f v (f 15 v)).Nodup := by
  unfold ds_row List.Nodup
  rw [List.pairwise_map]
  refine List.Pairwise.imp_of_mem ?_ (List.pairwise_lt_range (n := f 15 v))
  intro x y hx hy hlt e
  have h1 := (h.1 v x hv (List.mem_range.mp hx)).2.2
  have h2 := (h.1 v y hv (List.mem_range.mp hy)).2.2
  rw [e, h2] at h1
  omega
theorem dr_row_in {f : Nat → Nat → Nat} (h : ds_rows f) {v : Nat} (hv : v < f 1 0) {x : Nat} (hx : x ∈ ds_row f v (f 15 v)) : x < f 1 1 ∧ f 10 x = v := by
  unfold ds_row at hx
  obtain ⟨r, hr, rfl⟩ := List.mem_map.mp hx
  have h1 := h.1 v r hv (List.mem_range.mp hr)
  exact ⟨h1.1, h1.2.1⟩
theorem dr_rd_nd {f : Nat → Nat → Nat} (h : ds_rows f) (P : Nat → Bool) {v : Nat} (hv : v < f 1 0) : (ds_rd f P v).Nodup := by
  unfold ds_rd
  rw [List.nodup_append]
  refine ⟨(dr_row_nd h hv).filter _, List.nodup_range.filter _, ?_⟩
  intro x hx y hy e
  have h1 := (dr_row_in h hv (List.mem_filter.mp hx).1).2
  have h2 := (List.mem_filter.mp hy).2
  simp at h2
  rw [e] at h1
  exact h2.2 h1
theorem dr_rd_in {f : Nat → Nat → Nat} (h : ds_rows f) (P : Nat → Bool) {v : Nat} (hv : v < f 1 0) {x : Nat} (hx : x ∈ ds_rd f P v) : x < f 1 1 ∧ P x = true := by
  unfold ds_rd at hx
  rcases List.mem_append.mp hx with q | q
  · have h1 := List.mem_filter.mp q
    exact ⟨(dr_row_in h hv h1.1).1, h1.2⟩
  · unfold ds_oth at q
    have h1 := List.mem_filter.mp q
    have h2 := h1.2
    simp at h2
    exact ⟨List.mem_range.mp h1.1, h2.1⟩
theorem dr_rd_len {f : Nat → Nat → Nat} (h : ds_rows f) (P : Nat → Bool) {v : Nat} (hv : v < f 1 0) : (ds_rd f P v).length ≤ f 1 1 := dr_len _ _ (dr_rd_nd h P hv) (fun _ hx => (dr_rd_in h P hv hx).1)
theorem dr_row_len {f : Nat → Nat → Nat} (h : ds_rows f) {v : Nat} (hv : v < f 1 0) : f 15 v ≤ f 1 1 := by
  have h1 := dr_len _ _ (dr_row_nd h hv) (fun x hx => (dr_row_in h hv hx).1)
  unfold ds_row at h1
  simpa using h1
end
section
/-! names: classes, fields, methods -/
def R_DS : String := "DaySwaps"
def F_DS : u_T := fun k => match k with
  | 0 => ("DaySwaps", "day", "LDaySwaps$Day;", true)
  | 1 => ("DaySwaps", "search", "LDaySwaps$Search;", true)
  | 2 => ("DaySwaps", "kept", "LDaySwaps$Shelf;", true)
  | 3 => ("DaySwaps", "beside", "LDaySwaps$Shelf;", true)
  | 4 => ("DaySwaps", "plan", "[I", true)
  | 5 => ("DaySwaps", "noticed", "[I", true)
  | _ => ("DaySwaps", "notices", "[I", true)
def t_DS : Nat → FieldType := fun k => match k with
  | 0 => .object "DaySwaps$Day"
  | 1 => .object "DaySwaps$Search"
  | 2 => .object "DaySwaps$Shelf"
  | 3 => .object "DaySwaps$Shelf"
  | 4 => .array .int
  | 5 => .array .int
  | _ => .array .int
theorem n_DS : ∀ a, a < 7 → ∀ b, b < 7 → a ≠ b → (F_DS a).2.1 ≠ (F_DS b).2.1 := by decide +kernel
theorem t_DS_ok : ∀ k, k < 7 → parseFieldDescriptor (F_DS k).2.2.1 = some (t_DS k) := by decide +kernel
theorem i0_DS : ∀ w ∈ u_ws R_DS F_DS 7, w ∈ lw_tbl := by decide +kernel
def R_Day : String := "DaySwaps$Day"
def F_Day : u_T := fun k => match k with
  | 0 => ("DaySwaps$Day", "vehicles", "I", true)
  | 1 => ("DaySwaps$Day", "stops", "I", false)
  | 2 => ("DaySwaps$Day", "placeOf", "[I", true)
  | 3 => ("DaySwaps$Day", "serviceOf", "[I", true)
  | 4 => ("DaySwaps$Day", "rowOf", "[I", true)
  | 5 => ("DaySwaps$Day", "rankOf", "[I", true)
  | 6 => ("DaySwaps$Day", "frozen", "[Z", true)
  | 7 => ("DaySwaps$Day", "blocked", "[Z", true)
  | 8 => ("DaySwaps$Day", "rows", "[[I", true)
  | 9 => ("DaySwaps$Day", "lengthOf", "[I", true)
  | 10 => ("DaySwaps$Day", "newRows", "[[I", true)
  | 11 => ("DaySwaps$Day", "newLengthOf", "[I", true)
  | 12 => ("DaySwaps$Day", "outFrom", "[I", true)
  | 13 => ("DaySwaps$Day", "hoursOf", "[I", true)
  | 14 => ("DaySwaps$Day", "ways", "[[I", true)
  | 15 => ("DaySwaps$Day", "round", "[I", true)
  | _ => ("DaySwaps$Day", "mostOver", "I", false)
def t_Day : Nat → FieldType := fun k => match k with
  | 0 => .int
  | 1 => .int
  | 2 => .array .int
  | 3 => .array .int
  | 4 => .array .int
  | 5 => .array .int
  | 6 => .array .boolean
  | 7 => .array .boolean
  | 8 => .array (.array .int)
  | 9 => .array .int
  | 10 => .array (.array .int)
  | 11 => .array .int
  | 12 => .array .int
  | 13 => .array .int
  | 14 => .array (.array .int)
  | 15 => .array .int
  | _ => .int
theorem n_Day : ∀ a, a < 17 → ∀ b, b < 17 → a ≠ b → (F_Day a).2.1 ≠ (F_Day b).2.1 := by decide +kernel
theorem t_Day_ok : ∀ k, k < 17 → parseFieldDescriptor (F_Day k).2.2.1 = some (t_Day k) := by decide +kernel
theorem i0_Day : ∀ w ∈ u_ws R_Day F_Day 17, w ∈ lw_tbl := by decide +kernel
def R_Se : String := "DaySwaps$Search"
def F_Se : u_T := fun k => match k with
  | 0 => ("DaySwaps$Search", "day", "LDaySwaps$Day;", true)
  | 1 => ("DaySwaps$Search", "weights", "[J", true)
  | _ => ("DaySwaps$Search", "best", "[J", true)
def t_Se : Nat → FieldType := fun k => match k with
  | 0 => .object "DaySwaps$Day"
  | 1 => .array .long
  | _ => .array .long
theorem n_Se : ∀ a, a < 3 → ∀ b, b < 3 → a ≠ b → (F_Se a).2.1 ≠ (F_Se b).2.1 := by decide +kernel
theorem t_Se_ok : ∀ k, k < 3 → parseFieldDescriptor (F_Se k).2.2.1 = some (t_Se k) := by decide +kernel
theorem i0_Se : ∀ w ∈ u_ws R_Se F_Se 3, w ∈ lw_tbl := by decide +kernel
def R_Sh : String := "DaySwaps$Shelf"
def F_Sh : u_T := fun k => match k with
  | 0 => ("DaySwaps$Shelf", "plans", "[[I", true)
  | 1 => ("DaySwaps$Shelf", "stopsOf", "[I", true)
  | _ => ("DaySwaps$Shelf", "size", "I", false)
def t_Sh : Nat → FieldType := fun k => match k with
  | 0 => .array (.array .int)
  | 1 => .array .int
  | _ => .int
theorem n_Sh : ∀ a, a < 3 → ∀ b, b < 3 → a ≠ b → (F_Sh a).2.1 ≠ (F_Sh b).2.1 := by decide +kernel
theorem t_Sh_ok : ∀ k, k < 3 → parseFieldDescriptor (F_Sh k).2.2.1 = some (t_Sh k) := by decide +kernel
theorem i0_Sh : ∀ w ∈ u_ws R_Sh F_Sh 3, w ∈ lw_tbl := by decide +kernel
def R_Mo : String := "DaySwapsModel"
def F_Mo : u_T := fun k => match k with
  | 0 => ("DaySwapsModel", "vehicles", "I", true)
  | 1 => ("DaySwapsModel", "stops", "I", false)
  | 2 => ("DaySwapsModel", "places", "[I", true)
  | 3 => ("DaySwapsModel", "services", "[I", true)
  | 4 => ("DaySwapsModel", "homes", "[I", true)
  | 5 => ("DaySwapsModel", "positions", "[I", true)
  | 6 => ("DaySwapsModel", "rowSizes", "[I", true)
  | 7 => ("DaySwapsModel", "frozen", "[Z", true)
  | 8 => ("DaySwapsModel", "blocked", "[Z", true)
  | 9 => ("DaySwapsModel", "outs", "[I", true)
  | 10 => ("DaySwapsModel", "hours", "[I", true)
  | 11 => ("DaySwapsModel", "ways", "[I", true)
  | 12 => ("DaySwapsModel", "extra", "I", false)
  | 13 => ("DaySwapsModel", "plan", "[I", true)
  | 14 => ("DaySwapsModel", "trying", "[I", true)
  | 15 => ("DaySwapsModel", "best", "[I", true)
  | 16 => ("DaySwapsModel", "kept", "I", false)
  | 17 => ("DaySwapsModel", "keptPlans", "[I", true)
  | 18 => ("DaySwapsModel", "keptStops", "[I", true)
  | 19 => ("DaySwapsModel", "copies", "I", false)
  | 20 => ("DaySwapsModel", "copyPlans", "[I", true)
  | 21 => ("DaySwapsModel", "copyStops", "[I", true)
  | 22 => ("DaySwapsModel", "noticed", "[I", true)
  | 23 => ("DaySwapsModel", "notices", "[I", true)
  | 24 => ("DaySwapsModel", "round", "[I", true)
  | 25 => ("DaySwapsModel", "roundSize", "I", false)
  | 26 => ("DaySwapsModel", "newHomes", "[I", true)
  | _ => ("DaySwapsModel", "newPositions", "[I", true)
def t_Mo : Nat → FieldType := fun k => match k with
  | 0 => .int
  | 1 => .int
  | 2 => .array .int
  | 3 => .array .int
  | 4 => .array .int
  | 5 => .array .int
  | 6 => .array .int
  | 7 => .array .boolean
  | 8 => .array .boolean
  | 9 => .array .int
  | 10 => .array .int
  | 11 => .array .int
  | 12 => .int
  | 13 => .array .int
  | 14 => .array .int
  | 15 => .array .int
  | 16 => .int
  | 17 => .array .int
  | 18 => .array .int
  | 19 => .int
  | 20 => .array .int
  | 21 => .array .int
  | 22 => .array .int
  | 23 => .array .int
  | 24 => .array .int
  | 25 => .int
  | 26 => .array .int
  | _ => .array .int
theorem n_Mo : ∀ a, a < 28 → ∀ b, b < 28 → a ≠ b → (F_Mo a).2.1 ≠ (F_Mo b).2.1 := by decide +kernel
theorem t_Mo_ok : ∀ k, k < 28 → parseFieldDescriptor (F_Mo k).2.2.1 = some (t_Mo k) := by decide +kernel
theorem i0_Mo : ∀ w ∈ u_ws R_Mo F_Mo 28, w ∈ lw_tbl := by decide +kernel
abbrev classes : List vw_C := [(R_DS, F_DS, 7), (R_Day, F_Day, 17), (R_Se, F_Se, 3), (R_Sh, F_Sh, 3), (R_Mo, F_Mo, 28)]
abbrev b_DS_init : ByteArray := prog_1_method_1_code
def y_DS_init : MethodName := ⟨R_DS, "<init>", "(I)V"⟩
abbrev b_DS_isWithin : ByteArray := prog_1_method_28_code
def y_DS_isWithin : MethodName := ⟨R_DS, "isWithin", "(III)Z"⟩
abbrev b_Day_init : ByteArray := prog_2_method_1_code
def y_Day_init : MethodName := ⟨R_Day, "<init>", "(I)V"⟩
abbrev b_Ar_fill : ByteArray := prog_10_method_103_code
def y_Ar_fill : MethodName := ⟨"java/util/Arrays", "fill", "([II)V"⟩
abbrev b_Se_init : ByteArray := prog_3_method_1_code
def y_Se_init : MethodName := ⟨R_Se, "<init>", "(LDaySwaps$Day;)V"⟩
abbrev b_Sh_init : ByteArray := prog_4_method_1_code
def y_Sh_init : MethodName := ⟨R_Sh, "<init>", "(I)V"⟩
abbrev b_DS_stop : ByteArray := prog_1_method_2_code
def y_DS_stop : MethodName := ⟨R_DS, "stop", "(III)I"⟩
abbrev b_Day_isVehicle : ByteArray := prog_2_method_2_code
def y_Day_isVehicle : MethodName := ⟨R_Day, "isVehicle", "(I)Z"⟩
abbrev b_DS_isPlace : ByteArray := prog_1_method_27_code
def y_DS_isPlace : MethodName := ⟨R_DS, "isPlace", "(I)Z"⟩
abbrev b_Day_tell : ByteArray := prog_2_method_4_code
def y_Day_tell : MethodName := ⟨R_Day, "tell", "(III)I"⟩
abbrev b_Day_append : ByteArray := prog_2_method_5_code
def y_Day_append : MethodName := ⟨R_Day, "append", "(II)V"⟩
abbrev b_DS_freeze : ByteArray := prog_1_method_3_code
def y_DS_freeze : MethodName := ⟨R_DS, "freeze", "(IZ)Z"⟩
abbrev b_Day_isStop : ByteArray := prog_2_method_3_code
def y_Day_isStop : MethodName := ⟨R_Day, "isStop", "(I)Z"⟩
abbrev b_DS_block : ByteArray := prog_1_method_4_code
def y_DS_block : MethodName := ⟨R_DS, "block", "(IZ)Z"⟩
abbrev b_DS_out : ByteArray := prog_1_method_5_code
def y_DS_out : MethodName := ⟨R_DS, "out", "(II)Z"⟩
abbrev b_DS_way : ByteArray := prog_1_method_6_code
def y_DS_way : MethodName := ⟨R_DS, "way", "(III)Z"⟩
abbrev b_DS_hours : ByteArray := prog_1_method_7_code
def y_DS_hours : MethodName := ⟨R_DS, "hours", "(II)Z"⟩
abbrev b_DS_extra : ByteArray := prog_1_method_8_code
def y_DS_extra : MethodName := ⟨R_DS, "extra", "(I)Z"⟩
abbrev b_DS_run : ByteArray := prog_1_method_9_code
def y_DS_run : MethodName := ⟨R_DS, "run", "()I"⟩
abbrev b_Se_least : ByteArray := prog_3_method_2_code
def y_Se_least : MethodName := ⟨R_Se, "least", "()J"⟩
abbrev b_Se_weightOf : ByteArray := prog_3_method_4_code
def y_Se_weightOf : MethodName := ⟨R_Se, "weightOf", "(II)J"⟩
abbrev b_DS_isIn : ByteArray := prog_1_method_26_code
def y_DS_isIn : MethodName := ⟨R_DS, "isIn", "(II)Z"⟩
abbrev b_Day_mayHave : ByteArray := prog_2_method_7_code
def y_Day_mayHave : MethodName := ⟨R_Day, "mayHave", "(II)Z"⟩
abbrev b_Day_canDo : ByteArray := prog_2_method_6_code
def y_Day_canDo : MethodName := ⟨R_Day, "canDo", "(II)Z"⟩
abbrev b_Se_digitShift : ByteArray := prog_3_method_6_code
def y_Se_digitShift : MethodName := ⟨R_Se, "digitShift", "(I)I"⟩
abbrev b_Day_timeOf : ByteArray := prog_2_method_10_code
def y_Day_timeOf : MethodName := ⟨R_Day, "timeOf", "(II)I"⟩
abbrev b_Day_addRound : ByteArray := prog_2_method_8_code
def y_Day_addRound : MethodName := ⟨R_Day, "addRound", "(II[II)I"⟩
abbrev b_Day_overHours : ByteArray := prog_2_method_11_code
def y_Day_overHours : MethodName := ⟨R_Day, "overHours", "(II)I"⟩
abbrev b_Se_join : ByteArray := prog_3_method_3_code
def y_Se_join : MethodName := ⟨R_Se, "join", "(I)V"⟩
abbrev b_DS_whyNoPlan : ByteArray := prog_1_method_22_code
def y_DS_whyNoPlan : MethodName := ⟨R_DS, "whyNoPlan", "()I"⟩
abbrev b_Sh_putLatest : ByteArray := prog_4_method_2_code
def y_Sh_putLatest : MethodName := ⟨R_Sh, "putLatest", "([II)V"⟩
abbrev b_Se_vehicleIn : ByteArray := prog_3_method_5_code
def y_Se_vehicleIn : MethodName := ⟨R_Se, "vehicleIn", "(JI)I"⟩
abbrev b_DS_movedSet : ByteArray := prog_1_method_24_code
def y_DS_movedSet : MethodName := ⟨R_DS, "movedSet", "()I"⟩
abbrev b_In_bitCount : ByteArray := prog_7_method_49_code
def y_In_bitCount : MethodName := ⟨"java/lang/Integer", "bitCount", "(I)I"⟩
abbrev b_DS_vehicleOf : ByteArray := prog_1_method_10_code
def y_DS_vehicleOf : MethodName := ⟨R_DS, "vehicleOf", "(I)I"⟩
abbrev b_DS_place : ByteArray := prog_1_method_11_code
def y_DS_place : MethodName := ⟨R_DS, "place", "(I)I"⟩
abbrev b_DS_setOf : ByteArray := prog_1_method_23_code
def y_DS_setOf : MethodName := ⟨R_DS, "setOf", "(I)I"⟩
abbrev b_Day_placeInRound : ByteArray := prog_2_method_9_code
def y_Day_placeInRound : MethodName := ⟨R_Day, "placeInRound", "(III)I"⟩
abbrev b_DS_moved : ByteArray := prog_1_method_12_code
def y_DS_moved : MethodName := ⟨R_DS, "moved", "(I)I"⟩
abbrev b_DS_stopAt : ByteArray := prog_1_method_25_code
def y_DS_stopAt : MethodName := ⟨R_DS, "stopAt", "(II)I"⟩
abbrev b_DS_carried : ByteArray := prog_1_method_13_code
def y_DS_carried : MethodName := ⟨R_DS, "carried", "(I)I"⟩
abbrev b_DS_send : ByteArray := prog_1_method_14_code
def y_DS_send : MethodName := ⟨R_DS, "send", "()I"⟩
abbrev b_DS_sent : ByteArray := prog_1_method_15_code
def y_DS_sent : MethodName := ⟨R_DS, "sent", "(I)I"⟩
abbrev b_DS_undo : ByteArray := prog_1_method_16_code
def y_DS_undo : MethodName := ⟨R_DS, "undo", "()Z"⟩
abbrev b_DS_copy : ByteArray := prog_1_method_17_code
def y_DS_copy : MethodName := ⟨R_DS, "copy", "()I"⟩
abbrev b_DS_compare : ByteArray := prog_1_method_18_code
def y_DS_compare : MethodName := ⟨R_DS, "compare", "(II)I"⟩
abbrev b_DS_cost : ByteArray := prog_1_method_19_code
def y_DS_cost : MethodName := ⟨R_DS, "cost", "()J"⟩
abbrev b_DS_overtime : ByteArray := prog_1_method_20_code
def y_DS_overtime : MethodName := ⟨R_DS, "overtime", "(I)I"⟩
abbrev b_DS_next : ByteArray := prog_1_method_21_code
def y_DS_next : MethodName := ⟨R_DS, "next", "()I"⟩
abbrev b_Day_prepareRow : ByteArray := prog_2_method_12_code
def y_Day_prepareRow : MethodName := ⟨R_Day, "prepareRow", "(III)V"⟩
abbrev b_Day_turn : ByteArray := prog_2_method_13_code
def y_Day_turn : MethodName := ⟨R_Day, "turn", "()V"⟩
abbrev b_La_cell : ByteArray := method_2_code
def y_La_cell : MethodName := ⟨"DaySwapsLaw", "cell", "([II)I"⟩
abbrev b_Mo_init : ByteArray := prog_6_method_1_code
def y_Mo_init : MethodName := ⟨R_Mo, "<init>", "(I)V"⟩
abbrev b_Mo_stop : ByteArray := prog_6_method_6_code
def y_Mo_stop : MethodName := ⟨R_Mo, "stop", "(III)I"⟩
abbrev b_Mo_isVehicle : ByteArray := prog_6_method_4_code
def y_Mo_isVehicle : MethodName := ⟨R_Mo, "isVehicle", "(I)Z"⟩
abbrev b_Mo_isIn : ByteArray := prog_6_method_3_code
def y_Mo_isIn : MethodName := ⟨R_Mo, "isIn", "(JJJ)Z"⟩
abbrev b_Mo_freeze : ByteArray := prog_6_method_7_code
def y_Mo_freeze : MethodName := ⟨R_Mo, "freeze", "(IZ)Z"⟩
abbrev b_Mo_isStop : ByteArray := prog_6_method_5_code
def y_Mo_isStop : MethodName := ⟨R_Mo, "isStop", "(I)Z"⟩
abbrev b_Mo_block : ByteArray := prog_6_method_8_code
def y_Mo_block : MethodName := ⟨R_Mo, "block", "(IZ)Z"⟩
abbrev b_Mo_out : ByteArray := prog_6_method_9_code
def y_Mo_out : MethodName := ⟨R_Mo, "out", "(II)Z"⟩
abbrev b_Mo_way : ByteArray := prog_6_method_10_code
def y_Mo_way : MethodName := ⟨R_Mo, "way", "(III)Z"⟩
abbrev b_Mo_hours : ByteArray := prog_6_method_11_code
def y_Mo_hours : MethodName := ⟨R_Mo, "hours", "(II)Z"⟩
abbrev b_Mo_extra : ByteArray := prog_6_method_12_code
def y_Mo_extra : MethodName := ⟨R_Mo, "extra", "(I)Z"⟩
abbrev b_Mo_cost : ByteArray := prog_6_method_17_code
def y_Mo_cost : MethodName := ⟨R_Mo, "cost", "()J"⟩
abbrev b_Mo_costOf : ByteArray := prog_6_method_16_code
def y_Mo_costOf : MethodName := ⟨R_Mo, "costOf", "([I)J"⟩
abbrev b_Mo_timeOf : ByteArray := prog_6_method_14_code
def y_Mo_timeOf : MethodName := ⟨R_Mo, "timeOf", "([II)I"⟩
abbrev b_Mo_go : ByteArray := prog_6_method_13_code
def y_Mo_go : MethodName := ⟨R_Mo, "go", "([II)V"⟩
abbrev b_Mo_overtimeOf : ByteArray := prog_6_method_15_code
def y_Mo_overtimeOf : MethodName := ⟨R_Mo, "overtimeOf", "([II)I"⟩
abbrev b_Mo_overtime : ByteArray := prog_6_method_18_code
def y_Mo_overtime : MethodName := ⟨R_Mo, "overtime", "(I)I"⟩
abbrev b_Mo_run : ByteArray := prog_6_method_25_code
def y_Mo_run : MethodName := ⟨R_Mo, "run", "()I"⟩
abbrev b_Mo_movedBy : ByteArray := prog_6_method_22_code
def y_Mo_movedBy : MethodName := ⟨R_Mo, "movedBy", "([I)I"⟩
abbrev b_Mo_holdsApart : ByteArray := prog_6_method_20_code
def y_Mo_holdsApart : MethodName := ⟨R_Mo, "holdsApart", "()Z"⟩
abbrev b_Mo_can : ByteArray := prog_6_method_19_code
def y_Mo_can : MethodName := ⟨R_Mo, "can", "(II)Z"⟩
abbrev b_Mo_holdsOvertime : ByteArray := prog_6_method_21_code
def y_Mo_holdsOvertime : MethodName := ⟨R_Mo, "holdsOvertime", "()Z"⟩
abbrev b_Mo_turn : ByteArray := prog_6_method_23_code
def y_Mo_turn : MethodName := ⟨R_Mo, "turn", "()Z"⟩
abbrev b_Mo_why : ByteArray := prog_6_method_24_code
def y_Mo_why : MethodName := ⟨R_Mo, "why", "()I"⟩
abbrev b_Mo_keep : ByteArray := prog_6_method_26_code
def y_Mo_keep : MethodName := ⟨R_Mo, "keep", "()V"⟩
abbrev b_Mo_undo : ByteArray := prog_6_method_27_code
def y_Mo_undo : MethodName := ⟨R_Mo, "undo", "()Z"⟩
abbrev b_Mo_vehicleOf : ByteArray := prog_6_method_28_code
def y_Mo_vehicleOf : MethodName := ⟨R_Mo, "vehicleOf", "(I)I"⟩
abbrev b_Mo_place : ByteArray := prog_6_method_29_code
def y_Mo_place : MethodName := ⟨R_Mo, "place", "(I)I"⟩
abbrev b_Mo_moved : ByteArray := prog_6_method_30_code
def y_Mo_moved : MethodName := ⟨R_Mo, "moved", "(I)I"⟩
abbrev b_Mo_carried : ByteArray := prog_6_method_31_code
def y_Mo_carried : MethodName := ⟨R_Mo, "carried", "(I)I"⟩
abbrev b_Mo_send : ByteArray := prog_6_method_32_code
def y_Mo_send : MethodName := ⟨R_Mo, "send", "()I"⟩
abbrev b_Mo_sent : ByteArray := prog_6_method_33_code
def y_Mo_sent : MethodName := ⟨R_Mo, "sent", "(I)I"⟩
abbrev b_Mo_copy : ByteArray := prog_6_method_34_code
def y_Mo_copy : MethodName := ⟨R_Mo, "copy", "()I"⟩
abbrev b_Mo_compare : ByteArray := prog_6_method_35_code
def y_Mo_compare : MethodName := ⟨R_Mo, "compare", "(II)I"⟩
abbrev b_Mo_next : ByteArray := prog_6_method_36_code
def y_Mo_next : MethodName := ⟨R_Mo, "next", "()I"⟩
end
section
/-! the words that are used, by their places in the tables -/
def ds_T : List Cond := lw_tbl.filter goodWord
theorem ds_mem {w : Cond} (h : w ∈ lw_tbl) (hg : goodWord w = true) : w ∈ ds_T := List.mem_filter.mpr ⟨h, hg⟩
theorem ds_good : GoodIn ds_T ds_T := fun w hw => ⟨hw, good_of_word (List.mem_filter.mp hw).2⟩
theorem i_DS : ∀ w ∈ u_ws R_DS F_DS 7, w ∈ ds_T := fun w hw => ds_mem (i0_DS w hw) (List.all_eq_true.mp (show (u_ws R_DS F_DS 7).all goodWord = true by decide +kernel) w hw)
theorem i_Day : ∀ w ∈ u_ws R_Day F_Day 17, w ∈ ds_T := fun w hw => ds_mem (i0_Day w hw) (List.all_eq_true.mp (show (u_ws R_Day F_Day 17).all goodWord = true by decide +kernel) w hw)
theorem i_Se : ∀ w ∈ u_ws R_Se F_Se 3, w ∈ ds_T := fun w hw => ds_mem (i0_Se w hw) (List.all_eq_true.mp (show (u_ws R_Se F_Se 3).all goodWord = true by decide +kernel) w hw)
theorem i_Sh : ∀ w ∈ u_ws R_Sh F_Sh 3, w ∈ ds_T := fun w hw => ds_mem (i0_Sh w hw) (List.all_eq_true.mp (show (u_ws R_Sh F_Sh 3).all goodWord = true by decide +kernel) w hw)
theorem i_Mo : ∀ w ∈ u_ws R_Mo F_Mo 28, w ∈ ds_T := fun w hw => ds_mem (i0_Mo w hw) (List.all_eq_true.mp (show (u_ws R_Mo F_Mo 28).all goodWord = true by decide +kernel) w hw)
theorem wd_0 : Cond.initialized "DaySwapsLaw" ∈ ds_T := ds_mem (List.mem_append_right _ (List.mem_of_getElem? (i := 0) (by decide +kernel))) rfl
theorem wd_1 : Cond.initialized "DaySwaps" ∈ ds_T := ds_mem (List.mem_append_right _ (List.mem_of_getElem? (i := 1) (by decide +kernel))) rfl
theorem wd_2 : Cond.initialized "DaySwaps$Day" ∈ ds_T := ds_mem (List.mem_append_right _ (List.mem_of_getElem? (i := 2) (by decide +kernel))) rfl
theorem wd_3 : Cond.initialized "java/util/Arrays" ∈ ds_T := ds_mem (List.mem_append_right _ (List.mem_of_getElem? (i := 3) (by decide +kernel))) rfl
theorem wd_4 : Cond.initialized "DaySwaps$Search" ∈ ds_T := ds_mem (List.mem_append_right _ (List.mem_of_getElem? (i := 4) (by decide +kernel))) rfl
theorem wd_5 : Cond.initialized "DaySwaps$Shelf" ∈ ds_T := ds_mem (List.mem_append_right _ (List.mem_of_getElem? (i := 5) (by decide +kernel))) rfl
theorem wd_6 : Cond.initialized "DaySwapsModel" ∈ ds_T := ds_mem (List.mem_append_right _ (List.mem_of_getElem? (i := 6) (by decide +kernel))) rfl
theorem wd_7 : Cond.initialized "java/lang/Math" ∈ ds_T := ds_mem (List.mem_append_right _ (List.mem_of_getElem? (i := 7) (by decide +kernel))) rfl
theorem wd_8 : Cond.initialized "java/lang/System" ∈ ds_T := ds_mem (List.mem_append_right _ (List.mem_of_getElem? (i := 8) (by decide +kernel))) rfl
theorem wd_9 : Cond.initialized "java/lang/Integer" ∈ ds_T := ds_mem (List.mem_append_right _ (List.mem_of_getElem? (i := 9) (by decide +kernel))) rfl
theorem wd_10 : Cond.classLink "DaySwapsLaw" 7 "DaySwaps" ∈ ds_T := ds_mem (List.mem_append_right _ (List.mem_of_getElem? (i := 10) (by decide +kernel))) rfl
theorem wd_11 : Cond.instantiable "DaySwaps" 7 ∈ ds_T := ds_mem (List.mem_append_right _ (List.mem_of_getElem? (i := 11) (by decide +kernel))) rfl
theorem wd_12 : Cond.methodLink "DaySwapsLaw" 15 y_DS_init ∈ ds_T := ds_mem (List.mem_append_right _ (List.mem_of_getElem? (i := 12) (by decide +kernel))) rfl
theorem wd_13 : Cond.instanceMethod y_DS_init ∈ ds_T := ds_mem (List.mem_append_right _ (List.mem_of_getElem? (i := 13) (by decide +kernel))) rfl
theorem wd_14 : Cond.code y_DS_init prog_1_method_1_code 2 none ∈ ds_T := ds_mem (List.mem_append_right _ (List.mem_of_getElem? (i := 14) (by decide +kernel))) rfl
theorem wd_15 : Cond.methodLink "DaySwaps" 1 ⟨"java/lang/Object", "<init>", "()V"⟩ ∈ ds_T := ds_mem (List.mem_append_right _ (List.mem_of_getElem? (i := 15) (by decide +kernel))) rfl
theorem wd_16 : Cond.instanceMethod ⟨"java/lang/Object", "<init>", "()V"⟩ ∈ ds_T := ds_mem (List.mem_append_right _ (List.mem_of_getElem? (i := 16) (by decide +kernel))) rfl
theorem wd_17 : Cond.code ⟨"java/lang/Object", "<init>", "()V"⟩ object_method_1_code 1 none ∈ ds_T := ds_mem (List.mem_append_right _ (List.mem_of_getElem? (i := 17) (by decide +kernel))) rfl
theorem wd_18 : Cond.classLink "DaySwaps" 7 "DaySwaps$Day" ∈ ds_T := ds_mem (List.mem_append_right _ (List.mem_of_getElem? (i := 18) (by decide +kernel))) rfl
theorem wd_19 : Cond.instantiable "DaySwaps$Day" 17 ∈ ds_T := ds_mem (List.mem_append_right _ (List.mem_of_getElem? (i := 19) (by decide +kernel))) rfl
theorem wd_20 : Cond.methodLink "DaySwaps" 11 y_DS_isWithin ∈ ds_T := ds_mem (List.mem_append_right _ (List.mem_of_getElem? (i := 20) (by decide +kernel))) rfl
theorem wd_21 : Cond.static y_DS_isWithin ∈ ds_T := ds_mem (List.mem_append_right _ (List.mem_of_getElem? (i := 21) (by decide +kernel))) rfl
theorem wd_22 : Cond.code y_DS_isWithin prog_1_method_28_code 3 (some FieldType.boolean) ∈ ds_T := ds_mem (List.mem_append_right _ (List.mem_of_getElem? (i := 22) (by decide +kernel))) rfl
theorem wd_23 : Cond.methodLinkNest "DaySwaps" 15 y_Day_init "DaySwaps" ∈ lw_tbl := List.mem_append_right _ (List.mem_of_getElem? (i := 23) (by decide +kernel))
theorem wd_24 : Cond.instanceMethod y_Day_init ∈ ds_T := ds_mem (List.mem_append_right _ (List.mem_of_getElem? (i := 24) (by decide +kernel))) rfl
theorem wd_25 : Cond.code y_Day_init prog_2_method_1_code 3 none ∈ ds_T := ds_mem (List.mem_append_right _ (List.mem_of_getElem? (i := 25) (by decide +kernel))) rfl
theorem wd_26 : Cond.methodLink "DaySwaps$Day" 3 ⟨"java/lang/Object", "<init>", "()V"⟩ ∈ ds_T := ds_mem (List.mem_append_right _ (List.mem_of_getElem? (i := 26) (by decide +kernel))) rfl
theorem wd_27 : Cond.classLink "DaySwaps$Day" 31 "[[I" ∈ ds_T := ds_mem (List.mem_append_right _ (List.mem_of_getElem? (i := 27) (by decide +kernel))) rfl
theorem wd_28 : Cond.arrayOver (FieldType.array FieldType.int) ∈ lw_tbl := List.mem_append_right _ (List.mem_of_getElem? (i := 28) (by decide +kernel))
theorem wd_29 : Cond.methodLink "DaySwaps$Day" 61 y_Ar_fill ∈ ds_T := ds_mem (List.mem_append_right _ (List.mem_of_getElem? (i := 29) (by decide +kernel))) rfl
theorem wd_30 : Cond.static y_Ar_fill ∈ ds_T := ds_mem (List.mem_append_right _ (List.mem_of_getElem? (i := 30) (by decide +kernel))) rfl
theorem wd_31 : Cond.code y_Ar_fill prog_10_method_103_code 4 none ∈ ds_T := ds_mem (List.mem_append_right _ (List.mem_of_getElem? (i := 31) (by decide +kernel))) rfl
theorem wd_32 : Cond.fieldLink "DaySwaps$Day" 57 "DaySwaps$Day" "vehicles" "I" ∈ ds_T := ds_mem (List.mem_append_right _ (List.mem_of_getElem? (i := 32) (by decide +kernel))) rfl
theorem wd_33 : Cond.fieldLinkNest "DaySwaps$Search" 28 "DaySwaps$Day" "vehicles" "I" "DaySwaps" ∈ lw_tbl := List.mem_append_right _ (List.mem_of_getElem? (i := 33) (by decide +kernel))
theorem wd_34 : Cond.fieldLinkNest "DaySwaps" 127 "DaySwaps$Day" "vehicles" "I" "DaySwaps" ∈ lw_tbl := List.mem_append_right _ (List.mem_of_getElem? (i := 34) (by decide +kernel))
theorem wd_35 : Cond.fieldLinkNest "DaySwaps" 51 "DaySwaps$Day" "stops" "I" "DaySwaps" ∈ lw_tbl := List.mem_append_right _ (List.mem_of_getElem? (i := 35) (by decide +kernel))
theorem wd_36 : Cond.fieldLinkNest "DaySwaps$Search" 22 "DaySwaps$Day" "stops" "I" "DaySwaps" ∈ lw_tbl := List.mem_append_right _ (List.mem_of_getElem? (i := 36) (by decide +kernel))
theorem wd_37 : Cond.fieldLink "DaySwaps$Day" 71 "DaySwaps$Day" "stops" "I" ∈ ds_T := ds_mem (List.mem_append_right _ (List.mem_of_getElem? (i := 37) (by decide +kernel))) rfl
theorem wd_38 : Cond.fieldLink "DaySwaps$Day" 9 "DaySwaps$Day" "placeOf" "[I" ∈ ds_T := ds_mem (List.mem_append_right _ (List.mem_of_getElem? (i := 38) (by decide +kernel))) rfl
theorem wd_39 : Cond.fieldLink "DaySwaps$Day" 15 "DaySwaps$Day" "serviceOf" "[I" ∈ ds_T := ds_mem (List.mem_append_right _ (List.mem_of_getElem? (i := 39) (by decide +kernel))) rfl
theorem wd_40 : Cond.fieldLink "DaySwaps$Day" 18 "DaySwaps$Day" "rowOf" "[I" ∈ ds_T := ds_mem (List.mem_append_right _ (List.mem_of_getElem? (i := 40) (by decide +kernel))) rfl
theorem wd_41 : Cond.fieldLinkNest "DaySwaps$Search" 58 "DaySwaps$Day" "rowOf" "[I" "DaySwaps" ∈ lw_tbl := List.mem_append_right _ (List.mem_of_getElem? (i := 41) (by decide +kernel))
theorem wd_42 : Cond.fieldLinkNest "DaySwaps" 139 "DaySwaps$Day" "rowOf" "[I" "DaySwaps" ∈ lw_tbl := List.mem_append_right _ (List.mem_of_getElem? (i := 42) (by decide +kernel))
theorem wd_43 : Cond.fieldLink "DaySwaps$Day" 21 "DaySwaps$Day" "rankOf" "[I" ∈ ds_T := ds_mem (List.mem_append_right _ (List.mem_of_getElem? (i := 43) (by decide +kernel))) rfl
theorem wd_44 : Cond.fieldLink "DaySwaps$Day" 24 "DaySwaps$Day" "frozen" "[Z" ∈ ds_T := ds_mem (List.mem_append_right _ (List.mem_of_getElem? (i := 44) (by decide +kernel))) rfl
theorem wd_45 : Cond.fieldLinkNest "DaySwaps" 69 "DaySwaps$Day" "frozen" "[Z" "DaySwaps" ∈ lw_tbl := List.mem_append_right _ (List.mem_of_getElem? (i := 45) (by decide +kernel))
theorem wd_46 : Cond.fieldLink "DaySwaps$Day" 28 "DaySwaps$Day" "blocked" "[Z" ∈ ds_T := ds_mem (List.mem_append_right _ (List.mem_of_getElem? (i := 46) (by decide +kernel))) rfl
theorem wd_47 : Cond.fieldLinkNest "DaySwaps" 73 "DaySwaps$Day" "blocked" "[Z" "DaySwaps" ∈ lw_tbl := List.mem_append_right _ (List.mem_of_getElem? (i := 47) (by decide +kernel))
theorem wd_48 : Cond.fieldLink "DaySwaps$Day" 33 "DaySwaps$Day" "rows" "[[I" ∈ ds_T := ds_mem (List.mem_append_right _ (List.mem_of_getElem? (i := 48) (by decide +kernel))) rfl
theorem wd_49 : Cond.fieldLink "DaySwaps$Day" 36 "DaySwaps$Day" "lengthOf" "[I" ∈ ds_T := ds_mem (List.mem_append_right _ (List.mem_of_getElem? (i := 49) (by decide +kernel))) rfl
theorem wd_50 : Cond.fieldLink "DaySwaps$Day" 39 "DaySwaps$Day" "newRows" "[[I" ∈ ds_T := ds_mem (List.mem_append_right _ (List.mem_of_getElem? (i := 50) (by decide +kernel))) rfl
theorem wd_51 : Cond.fieldLink "DaySwaps$Day" 42 "DaySwaps$Day" "newLengthOf" "[I" ∈ ds_T := ds_mem (List.mem_append_right _ (List.mem_of_getElem? (i := 51) (by decide +kernel))) rfl
theorem wd_52 : Cond.fieldLink "DaySwaps$Day" 45 "DaySwaps$Day" "outFrom" "[I" ∈ ds_T := ds_mem (List.mem_append_right _ (List.mem_of_getElem? (i := 52) (by decide +kernel))) rfl
theorem wd_53 : Cond.fieldLinkNest "DaySwaps" 76 "DaySwaps$Day" "outFrom" "[I" "DaySwaps" ∈ lw_tbl := List.mem_append_right _ (List.mem_of_getElem? (i := 53) (by decide +kernel))
theorem wd_54 : Cond.fieldLink "DaySwaps$Day" 48 "DaySwaps$Day" "hoursOf" "[I" ∈ ds_T := ds_mem (List.mem_append_right _ (List.mem_of_getElem? (i := 54) (by decide +kernel))) rfl
theorem wd_55 : Cond.fieldLinkNest "DaySwaps" 84 "DaySwaps$Day" "hoursOf" "[I" "DaySwaps" ∈ lw_tbl := List.mem_append_right _ (List.mem_of_getElem? (i := 55) (by decide +kernel))
theorem wd_56 : Cond.fieldLink "DaySwaps$Day" 51 "DaySwaps$Day" "ways" "[[I" ∈ ds_T := ds_mem (List.mem_append_right _ (List.mem_of_getElem? (i := 56) (by decide +kernel))) rfl
theorem wd_57 : Cond.fieldLinkNest "DaySwaps" 79 "DaySwaps$Day" "ways" "[[I" "DaySwaps" ∈ lw_tbl := List.mem_append_right _ (List.mem_of_getElem? (i := 57) (by decide +kernel))
theorem wd_58 : Cond.fieldLink "DaySwaps$Day" 54 "DaySwaps$Day" "round" "[I" ∈ ds_T := ds_mem (List.mem_append_right _ (List.mem_of_getElem? (i := 58) (by decide +kernel))) rfl
theorem wd_59 : Cond.fieldLinkNest "DaySwaps$Search" 71 "DaySwaps$Day" "mostOver" "I" "DaySwaps" ∈ lw_tbl := List.mem_append_right _ (List.mem_of_getElem? (i := 59) (by decide +kernel))
theorem wd_60 : Cond.fieldLinkNest "DaySwaps" 87 "DaySwaps$Day" "mostOver" "I" "DaySwaps" ∈ lw_tbl := List.mem_append_right _ (List.mem_of_getElem? (i := 60) (by decide +kernel))
theorem wd_96 : Cond.arrayClass FieldType.int ∈ ds_T := ds_mem (List.mem_append_right _ (List.mem_of_getElem? (i := 96) (by decide +kernel))) rfl
theorem wd_97 : Cond.arrayClass FieldType.boolean ∈ ds_T := ds_mem (List.mem_append_right _ (List.mem_of_getElem? (i := 97) (by decide +kernel))) rfl
theorem wd_98 : Cond.classLink "DaySwaps" 22 "DaySwaps$Search" ∈ ds_T := ds_mem (List.mem_append_right _ (List.mem_of_getElem? (i := 98) (by decide +kernel))) rfl
theorem wd_99 : Cond.instantiable "DaySwaps$Search" 3 ∈ ds_T := ds_mem (List.mem_append_right _ (List.mem_of_getElem? (i := 99) (by decide +kernel))) rfl
theorem wd_100 : Cond.methodLinkNest "DaySwaps" 24 y_Se_init "DaySwaps" ∈ lw_tbl := List.mem_append_right _ (List.mem_of_getElem? (i := 100) (by decide +kernel))
theorem wd_101 : Cond.instanceMethod y_Se_init ∈ ds_T := ds_mem (List.mem_append_right _ (List.mem_of_getElem? (i := 101) (by decide +kernel))) rfl
theorem wd_102 : Cond.code y_Se_init prog_3_method_1_code 2 none ∈ ds_T := ds_mem (List.mem_append_right _ (List.mem_of_getElem? (i := 102) (by decide +kernel))) rfl
theorem wd_103 : Cond.methodLink "DaySwaps$Search" 5 ⟨"java/lang/Object", "<init>", "()V"⟩ ∈ ds_T := ds_mem (List.mem_append_right _ (List.mem_of_getElem? (i := 103) (by decide +kernel))) rfl
theorem wd_104 : Cond.fieldLink "DaySwaps$Search" 18 "DaySwaps$Search" "day" "LDaySwaps$Day;" ∈ ds_T := ds_mem (List.mem_append_right _ (List.mem_of_getElem? (i := 104) (by decide +kernel))) rfl
theorem wd_105 : Cond.fieldLink "DaySwaps$Search" 11 "DaySwaps$Search" "weights" "[J" ∈ ds_T := ds_mem (List.mem_append_right _ (List.mem_of_getElem? (i := 105) (by decide +kernel))) rfl
theorem wd_106 : Cond.fieldLink "DaySwaps$Search" 15 "DaySwaps$Search" "best" "[J" ∈ ds_T := ds_mem (List.mem_append_right _ (List.mem_of_getElem? (i := 106) (by decide +kernel))) rfl
theorem wd_114 : Cond.arrayClass FieldType.long ∈ ds_T := ds_mem (List.mem_append_right _ (List.mem_of_getElem? (i := 114) (by decide +kernel))) rfl
theorem wd_115 : Cond.classLink "DaySwaps" 31 "DaySwaps$Shelf" ∈ ds_T := ds_mem (List.mem_append_right _ (List.mem_of_getElem? (i := 115) (by decide +kernel))) rfl
theorem wd_116 : Cond.instantiable "DaySwaps$Shelf" 3 ∈ ds_T := ds_mem (List.mem_append_right _ (List.mem_of_getElem? (i := 116) (by decide +kernel))) rfl
theorem wd_117 : Cond.methodLinkNest "DaySwaps" 33 y_Sh_init "DaySwaps" ∈ lw_tbl := List.mem_append_right _ (List.mem_of_getElem? (i := 117) (by decide +kernel))
theorem wd_118 : Cond.instanceMethod y_Sh_init ∈ ds_T := ds_mem (List.mem_append_right _ (List.mem_of_getElem? (i := 118) (by decide +kernel))) rfl
theorem wd_119 : Cond.code y_Sh_init prog_4_method_1_code 2 none ∈ ds_T := ds_mem (List.mem_append_right _ (List.mem_of_getElem? (i := 119) (by decide +kernel))) rfl
theorem wd_120 : Cond.methodLink "DaySwaps$Shelf" 3 ⟨"java/lang/Object", "<init>", "()V"⟩ ∈ ds_T := ds_mem (List.mem_append_right _ (List.mem_of_getElem? (i := 120) (by decide +kernel))) rfl
theorem wd_121 : Cond.classLink "DaySwaps$Shelf" 9 "[[I" ∈ ds_T := ds_mem (List.mem_append_right _ (List.mem_of_getElem? (i := 121) (by decide +kernel))) rfl
theorem wd_122 : Cond.fieldLink "DaySwaps$Shelf" 11 "DaySwaps$Shelf" "plans" "[[I" ∈ ds_T := ds_mem (List.mem_append_right _ (List.mem_of_getElem? (i := 122) (by decide +kernel))) rfl
theorem wd_123 : Cond.fieldLinkNest "DaySwaps" 136 "DaySwaps$Shelf" "plans" "[[I" "DaySwaps" ∈ lw_tbl := List.mem_append_right _ (List.mem_of_getElem? (i := 123) (by decide +kernel))
theorem wd_124 : Cond.fieldLink "DaySwaps$Shelf" 16 "DaySwaps$Shelf" "stopsOf" "[I" ∈ ds_T := ds_mem (List.mem_append_right _ (List.mem_of_getElem? (i := 124) (by decide +kernel))) rfl
theorem wd_125 : Cond.fieldLinkNest "DaySwaps" 133 "DaySwaps$Shelf" "stopsOf" "[I" "DaySwaps" ∈ lw_tbl := List.mem_append_right _ (List.mem_of_getElem? (i := 125) (by decide +kernel))
theorem wd_126 : Cond.fieldLink "DaySwaps$Shelf" 20 "DaySwaps$Shelf" "size" "I" ∈ ds_T := ds_mem (List.mem_append_right _ (List.mem_of_getElem? (i := 126) (by decide +kernel))) rfl
theorem wd_127 : Cond.fieldLinkNest "DaySwaps" 130 "DaySwaps$Shelf" "size" "I" "DaySwaps" ∈ lw_tbl := List.mem_append_right _ (List.mem_of_getElem? (i := 127) (by decide +kernel))
theorem wd_135 : Cond.fieldLink "DaySwaps" 18 "DaySwaps" "day" "LDaySwaps$Day;" ∈ ds_T := ds_mem (List.mem_append_right _ (List.mem_of_getElem? (i := 135) (by decide +kernel))) rfl
theorem wd_136 : Cond.fieldLink "DaySwaps" 27 "DaySwaps" "search" "LDaySwaps$Search;" ∈ ds_T := ds_mem (List.mem_append_right _ (List.mem_of_getElem? (i := 136) (by decide +kernel))) rfl
theorem wd_137 : Cond.fieldLink "DaySwaps" 34 "DaySwaps" "kept" "LDaySwaps$Shelf;" ∈ ds_T := ds_mem (List.mem_append_right _ (List.mem_of_getElem? (i := 137) (by decide +kernel))) rfl
theorem wd_138 : Cond.fieldLink "DaySwaps" 38 "DaySwaps" "beside" "LDaySwaps$Shelf;" ∈ ds_T := ds_mem (List.mem_append_right _ (List.mem_of_getElem? (i := 138) (by decide +kernel))) rfl
theorem wd_139 : Cond.fieldLink "DaySwaps" 41 "DaySwaps" "plan" "[I" ∈ ds_T := ds_mem (List.mem_append_right _ (List.mem_of_getElem? (i := 139) (by decide +kernel))) rfl
theorem wd_140 : Cond.fieldLink "DaySwaps" 45 "DaySwaps" "noticed" "[I" ∈ ds_T := ds_mem (List.mem_append_right _ (List.mem_of_getElem? (i := 140) (by decide +kernel))) rfl
theorem wd_141 : Cond.fieldLink "DaySwaps" 48 "DaySwaps" "notices" "[I" ∈ ds_T := ds_mem (List.mem_append_right _ (List.mem_of_getElem? (i := 141) (by decide +kernel))) rfl
theorem wd_157 : Cond.methodLink "DaySwapsLaw" 21 y_DS_stop ∈ ds_T := ds_mem (List.mem_append_right _ (List.mem_of_getElem? (i := 157) (by decide +kernel))) rfl
theorem wd_158 : Cond.instanceMethod y_DS_stop ∈ ds_T := ds_mem (List.mem_append_right _ (List.mem_of_getElem? (i := 158) (by decide +kernel))) rfl
theorem wd_159 : Cond.selects "DaySwaps" y_DS_stop y_DS_stop ∈ ds_T := ds_mem (List.mem_append_right _ (List.mem_of_getElem? (i := 159) (by decide +kernel))) rfl
theorem wd_160 : Cond.code y_DS_stop prog_1_method_2_code 5 (some FieldType.int) ∈ ds_T := ds_mem (List.mem_append_right _ (List.mem_of_getElem? (i := 160) (by decide +kernel))) rfl
theorem wd_161 : Cond.methodLinkNest "DaySwaps" 55 y_Day_isVehicle "DaySwaps" ∈ lw_tbl := List.mem_append_right _ (List.mem_of_getElem? (i := 161) (by decide +kernel))
theorem wd_163 : Cond.instanceMethod y_Day_isVehicle ∈ ds_T := ds_mem (List.mem_append_right _ (List.mem_of_getElem? (i := 163) (by decide +kernel))) rfl
theorem wd_164 : Cond.code y_Day_isVehicle prog_2_method_2_code 2 (some FieldType.boolean) ∈ ds_T := ds_mem (List.mem_append_right _ (List.mem_of_getElem? (i := 164) (by decide +kernel))) rfl
theorem wd_165 : Cond.methodLinkNest "DaySwaps$Day" 67 y_DS_isWithin "DaySwaps" ∈ lw_tbl := List.mem_append_right _ (List.mem_of_getElem? (i := 165) (by decide +kernel))
theorem wd_166 : Cond.methodLink "DaySwaps" 59 y_DS_isPlace ∈ ds_T := ds_mem (List.mem_append_right _ (List.mem_of_getElem? (i := 166) (by decide +kernel))) rfl
theorem wd_167 : Cond.static y_DS_isPlace ∈ ds_T := ds_mem (List.mem_append_right _ (List.mem_of_getElem? (i := 167) (by decide +kernel))) rfl
theorem wd_168 : Cond.code y_DS_isPlace prog_1_method_27_code 1 (some FieldType.boolean) ∈ ds_T := ds_mem (List.mem_append_right _ (List.mem_of_getElem? (i := 168) (by decide +kernel))) rfl
theorem wd_169 : Cond.methodLinkNest "DaySwaps" 62 y_Day_tell "DaySwaps" ∈ lw_tbl := List.mem_append_right _ (List.mem_of_getElem? (i := 169) (by decide +kernel))
theorem wd_171 : Cond.instanceMethod y_Day_tell ∈ ds_T := ds_mem (List.mem_append_right _ (List.mem_of_getElem? (i := 171) (by decide +kernel))) rfl
theorem wd_172 : Cond.code y_Day_tell prog_2_method_4_code 5 (some FieldType.int) ∈ ds_T := ds_mem (List.mem_append_right _ (List.mem_of_getElem? (i := 172) (by decide +kernel))) rfl
theorem wd_173 : Cond.methodLink "DaySwaps$Day" 74 y_Day_append ∈ ds_T := ds_mem (List.mem_append_right _ (List.mem_of_getElem? (i := 173) (by decide +kernel))) rfl
theorem wd_175 : Cond.instanceMethod y_Day_append ∈ ds_T := ds_mem (List.mem_append_right _ (List.mem_of_getElem? (i := 175) (by decide +kernel))) rfl
theorem wd_176 : Cond.code y_Day_append prog_2_method_5_code 4 none ∈ ds_T := ds_mem (List.mem_append_right _ (List.mem_of_getElem? (i := 176) (by decide +kernel))) rfl
theorem wd_177 : Cond.methodLink "DaySwapsLaw" 26 y_DS_freeze ∈ ds_T := ds_mem (List.mem_append_right _ (List.mem_of_getElem? (i := 177) (by decide +kernel))) rfl
theorem wd_178 : Cond.instanceMethod y_DS_freeze ∈ ds_T := ds_mem (List.mem_append_right _ (List.mem_of_getElem? (i := 178) (by decide +kernel))) rfl
theorem wd_179 : Cond.selects "DaySwaps" y_DS_freeze y_DS_freeze ∈ ds_T := ds_mem (List.mem_append_right _ (List.mem_of_getElem? (i := 179) (by decide +kernel))) rfl
theorem wd_180 : Cond.code y_DS_freeze prog_1_method_3_code 3 (some FieldType.boolean) ∈ ds_T := ds_mem (List.mem_append_right _ (List.mem_of_getElem? (i := 180) (by decide +kernel))) rfl
theorem wd_181 : Cond.methodLinkNest "DaySwaps" 66 y_Day_isStop "DaySwaps" ∈ lw_tbl := List.mem_append_right _ (List.mem_of_getElem? (i := 181) (by decide +kernel))
theorem wd_183 : Cond.instanceMethod y_Day_isStop ∈ ds_T := ds_mem (List.mem_append_right _ (List.mem_of_getElem? (i := 183) (by decide +kernel))) rfl
theorem wd_184 : Cond.code y_Day_isStop prog_2_method_3_code 2 (some FieldType.boolean) ∈ ds_T := ds_mem (List.mem_append_right _ (List.mem_of_getElem? (i := 184) (by decide +kernel))) rfl
theorem wd_185 : Cond.methodLink "DaySwapsLaw" 31 y_DS_block ∈ ds_T := ds_mem (List.mem_append_right _ (List.mem_of_getElem? (i := 185) (by decide +kernel))) rfl
theorem wd_186 : Cond.instanceMethod y_DS_block ∈ ds_T := ds_mem (List.mem_append_right _ (List.mem_of_getElem? (i := 186) (by decide +kernel))) rfl
theorem wd_187 : Cond.selects "DaySwaps" y_DS_block y_DS_block ∈ ds_T := ds_mem (List.mem_append_right _ (List.mem_of_getElem? (i := 187) (by decide +kernel))) rfl
theorem wd_188 : Cond.code y_DS_block prog_1_method_4_code 3 (some FieldType.boolean) ∈ ds_T := ds_mem (List.mem_append_right _ (List.mem_of_getElem? (i := 188) (by decide +kernel))) rfl
theorem wd_189 : Cond.methodLink "DaySwapsLaw" 35 y_DS_out ∈ ds_T := ds_mem (List.mem_append_right _ (List.mem_of_getElem? (i := 189) (by decide +kernel))) rfl
theorem wd_190 : Cond.instanceMethod y_DS_out ∈ ds_T := ds_mem (List.mem_append_right _ (List.mem_of_getElem? (i := 190) (by decide +kernel))) rfl
theorem wd_191 : Cond.selects "DaySwaps" y_DS_out y_DS_out ∈ ds_T := ds_mem (List.mem_append_right _ (List.mem_of_getElem? (i := 191) (by decide +kernel))) rfl
theorem wd_192 : Cond.code y_DS_out prog_1_method_5_code 3 (some FieldType.boolean) ∈ ds_T := ds_mem (List.mem_append_right _ (List.mem_of_getElem? (i := 192) (by decide +kernel))) rfl
theorem wd_193 : Cond.methodLink "DaySwapsLaw" 40 y_DS_way ∈ ds_T := ds_mem (List.mem_append_right _ (List.mem_of_getElem? (i := 193) (by decide +kernel))) rfl
theorem wd_194 : Cond.instanceMethod y_DS_way ∈ ds_T := ds_mem (List.mem_append_right _ (List.mem_of_getElem? (i := 194) (by decide +kernel))) rfl
theorem wd_195 : Cond.selects "DaySwaps" y_DS_way y_DS_way ∈ ds_T := ds_mem (List.mem_append_right _ (List.mem_of_getElem? (i := 195) (by decide +kernel))) rfl
theorem wd_196 : Cond.code y_DS_way prog_1_method_6_code 4 (some FieldType.boolean) ∈ ds_T := ds_mem (List.mem_append_right _ (List.mem_of_getElem? (i := 196) (by decide +kernel))) rfl
theorem wd_197 : Cond.methodLink "DaySwapsLaw" 45 y_DS_hours ∈ ds_T := ds_mem (List.mem_append_right _ (List.mem_of_getElem? (i := 197) (by decide +kernel))) rfl
theorem wd_198 : Cond.instanceMethod y_DS_hours ∈ ds_T := ds_mem (List.mem_append_right _ (List.mem_of_getElem? (i := 198) (by decide +kernel))) rfl
theorem wd_199 : Cond.selects "DaySwaps" y_DS_hours y_DS_hours ∈ ds_T := ds_mem (List.mem_append_right _ (List.mem_of_getElem? (i := 199) (by decide +kernel))) rfl
theorem wd_200 : Cond.code y_DS_hours prog_1_method_7_code 3 (some FieldType.boolean) ∈ ds_T := ds_mem (List.mem_append_right _ (List.mem_of_getElem? (i := 200) (by decide +kernel))) rfl
theorem wd_201 : Cond.constant "DaySwaps" 83 (100000 : Int32) ∈ ds_T := ds_mem (List.mem_append_right _ (List.mem_of_getElem? (i := 201) (by decide +kernel))) rfl
theorem wd_202 : Cond.methodLink "DaySwapsLaw" 49 y_DS_extra ∈ ds_T := ds_mem (List.mem_append_right _ (List.mem_of_getElem? (i := 202) (by decide +kernel))) rfl
theorem wd_203 : Cond.instanceMethod y_DS_extra ∈ ds_T := ds_mem (List.mem_append_right _ (List.mem_of_getElem? (i := 203) (by decide +kernel))) rfl
theorem wd_204 : Cond.selects "DaySwaps" y_DS_extra y_DS_extra ∈ ds_T := ds_mem (List.mem_append_right _ (List.mem_of_getElem? (i := 204) (by decide +kernel))) rfl
theorem wd_205 : Cond.code y_DS_extra prog_1_method_8_code 2 (some FieldType.boolean) ∈ ds_T := ds_mem (List.mem_append_right _ (List.mem_of_getElem? (i := 205) (by decide +kernel))) rfl
theorem wd_206 : Cond.methodLink "DaySwapsLaw" 54 y_DS_run ∈ ds_T := ds_mem (List.mem_append_right _ (List.mem_of_getElem? (i := 206) (by decide +kernel))) rfl
theorem wd_207 : Cond.instanceMethod y_DS_run ∈ ds_T := ds_mem (List.mem_append_right _ (List.mem_of_getElem? (i := 207) (by decide +kernel))) rfl
theorem wd_208 : Cond.selects "DaySwaps" y_DS_run y_DS_run ∈ ds_T := ds_mem (List.mem_append_right _ (List.mem_of_getElem? (i := 208) (by decide +kernel))) rfl
theorem wd_209 : Cond.code y_DS_run prog_1_method_9_code 4 (some FieldType.int) ∈ ds_T := ds_mem (List.mem_append_right _ (List.mem_of_getElem? (i := 209) (by decide +kernel))) rfl
theorem wd_210 : Cond.methodLinkNest "DaySwaps" 90 y_Se_least "DaySwaps" ∈ lw_tbl := List.mem_append_right _ (List.mem_of_getElem? (i := 210) (by decide +kernel))
theorem wd_212 : Cond.instanceMethod y_Se_least ∈ ds_T := ds_mem (List.mem_append_right _ (List.mem_of_getElem? (i := 212) (by decide +kernel))) rfl
theorem wd_213 : Cond.code y_Se_least prog_3_method_2_code 4 (some FieldType.long) ∈ ds_T := ds_mem (List.mem_append_right _ (List.mem_of_getElem? (i := 213) (by decide +kernel))) rfl
theorem wd_214 : Cond.methodLink "DaySwaps$Search" 31 y_Se_weightOf ∈ ds_T := ds_mem (List.mem_append_right _ (List.mem_of_getElem? (i := 214) (by decide +kernel))) rfl
theorem wd_216 : Cond.instanceMethod y_Se_weightOf ∈ ds_T := ds_mem (List.mem_append_right _ (List.mem_of_getElem? (i := 216) (by decide +kernel))) rfl
theorem wd_217 : Cond.code y_Se_weightOf prog_3_method_4_code 7 (some FieldType.long) ∈ ds_T := ds_mem (List.mem_append_right _ (List.mem_of_getElem? (i := 217) (by decide +kernel))) rfl
theorem wd_218 : Cond.methodLinkNest "DaySwaps$Search" 45 y_DS_isIn "DaySwaps" ∈ lw_tbl := List.mem_append_right _ (List.mem_of_getElem? (i := 218) (by decide +kernel))
theorem wd_219 : Cond.static y_DS_isIn ∈ ds_T := ds_mem (List.mem_append_right _ (List.mem_of_getElem? (i := 219) (by decide +kernel))) rfl
theorem wd_220 : Cond.code y_DS_isIn prog_1_method_26_code 2 (some FieldType.boolean) ∈ ds_T := ds_mem (List.mem_append_right _ (List.mem_of_getElem? (i := 220) (by decide +kernel))) rfl
theorem wd_221 : Cond.methodLinkNest "DaySwaps$Search" 49 y_Day_mayHave "DaySwaps" ∈ lw_tbl := List.mem_append_right _ (List.mem_of_getElem? (i := 221) (by decide +kernel))
theorem wd_223 : Cond.instanceMethod y_Day_mayHave ∈ ds_T := ds_mem (List.mem_append_right _ (List.mem_of_getElem? (i := 223) (by decide +kernel))) rfl
theorem wd_224 : Cond.code y_Day_mayHave prog_2_method_7_code 3 (some FieldType.boolean) ∈ ds_T := ds_mem (List.mem_append_right _ (List.mem_of_getElem? (i := 224) (by decide +kernel))) rfl
theorem wd_225 : Cond.methodLink "DaySwaps$Day" 78 y_Day_canDo ∈ ds_T := ds_mem (List.mem_append_right _ (List.mem_of_getElem? (i := 225) (by decide +kernel))) rfl
theorem wd_227 : Cond.instanceMethod y_Day_canDo ∈ ds_T := ds_mem (List.mem_append_right _ (List.mem_of_getElem? (i := 227) (by decide +kernel))) rfl
theorem wd_228 : Cond.code y_Day_canDo prog_2_method_6_code 3 (some FieldType.boolean) ∈ ds_T := ds_mem (List.mem_append_right _ (List.mem_of_getElem? (i := 228) (by decide +kernel))) rfl
theorem wd_229 : Cond.constantLong "DaySwaps$Search" 52 (1152921504606846976 : Int64) ∈ ds_T := ds_mem (List.mem_append_right _ (List.mem_of_getElem? (i := 229) (by decide +kernel))) rfl
theorem wd_230 : Cond.methodLink "DaySwaps$Search" 54 y_Se_digitShift ∈ ds_T := ds_mem (List.mem_append_right _ (List.mem_of_getElem? (i := 230) (by decide +kernel))) rfl
theorem wd_231 : Cond.static y_Se_digitShift ∈ ds_T := ds_mem (List.mem_append_right _ (List.mem_of_getElem? (i := 231) (by decide +kernel))) rfl
theorem wd_232 : Cond.code y_Se_digitShift prog_3_method_6_code 1 (some FieldType.int) ∈ ds_T := ds_mem (List.mem_append_right _ (List.mem_of_getElem? (i := 232) (by decide +kernel))) rfl
theorem wd_233 : Cond.constantLong "DaySwaps$Search" 62 (1099511627776 : Int64) ∈ ds_T := ds_mem (List.mem_append_right _ (List.mem_of_getElem? (i := 233) (by decide +kernel))) rfl
theorem wd_234 : Cond.methodLinkNest "DaySwaps$Search" 64 y_Day_timeOf "DaySwaps" ∈ lw_tbl := List.mem_append_right _ (List.mem_of_getElem? (i := 234) (by decide +kernel))
theorem wd_236 : Cond.instanceMethod y_Day_timeOf ∈ ds_T := ds_mem (List.mem_append_right _ (List.mem_of_getElem? (i := 236) (by decide +kernel))) rfl
theorem wd_237 : Cond.code y_Day_timeOf prog_2_method_10_code 8 (some FieldType.int) ∈ ds_T := ds_mem (List.mem_append_right _ (List.mem_of_getElem? (i := 237) (by decide +kernel))) rfl
theorem wd_238 : Cond.methodLink "DaySwaps$Day" 85 y_Day_addRound ∈ ds_T := ds_mem (List.mem_append_right _ (List.mem_of_getElem? (i := 238) (by decide +kernel))) rfl
theorem wd_240 : Cond.instanceMethod y_Day_addRound ∈ ds_T := ds_mem (List.mem_append_right _ (List.mem_of_getElem? (i := 240) (by decide +kernel))) rfl
theorem wd_241 : Cond.code y_Day_addRound prog_2_method_8_code 7 (some FieldType.int) ∈ ds_T := ds_mem (List.mem_append_right _ (List.mem_of_getElem? (i := 241) (by decide +kernel))) rfl
theorem wd_242 : Cond.methodLinkNest "DaySwaps$Day" 82 y_DS_isIn "DaySwaps" ∈ lw_tbl := List.mem_append_right _ (List.mem_of_getElem? (i := 242) (by decide +kernel))
theorem wd_243 : Cond.methodLinkNest "DaySwaps$Search" 68 y_Day_overHours "DaySwaps" ∈ lw_tbl := List.mem_append_right _ (List.mem_of_getElem? (i := 243) (by decide +kernel))
theorem wd_245 : Cond.instanceMethod y_Day_overHours ∈ ds_T := ds_mem (List.mem_append_right _ (List.mem_of_getElem? (i := 245) (by decide +kernel))) rfl
theorem wd_246 : Cond.code y_Day_overHours prog_2_method_11_code 3 (some FieldType.int) ∈ ds_T := ds_mem (List.mem_append_right _ (List.mem_of_getElem? (i := 246) (by decide +kernel))) rfl
theorem wd_247 : Cond.methodLink "DaySwaps$Day" 89 ⟨"java/lang/Math", "max", "(II)I"⟩ ∈ ds_T := ds_mem (List.mem_append_right _ (List.mem_of_getElem? (i := 247) (by decide +kernel))) rfl
theorem wd_248 : Cond.static ⟨"java/lang/Math", "max", "(II)I"⟩ ∈ ds_T := ds_mem (List.mem_append_right _ (List.mem_of_getElem? (i := 248) (by decide +kernel))) rfl
theorem wd_249 : Cond.code ⟨"java/lang/Math", "max", "(II)I"⟩ prog_8_method_65_code 2 (some FieldType.int) ∈ ds_T := ds_mem (List.mem_append_right _ (List.mem_of_getElem? (i := 249) (by decide +kernel))) rfl
theorem wd_250 : Cond.methodLink "DaySwaps$Search" 35 y_Se_join ∈ ds_T := ds_mem (List.mem_append_right _ (List.mem_of_getElem? (i := 250) (by decide +kernel))) rfl
theorem wd_252 : Cond.instanceMethod y_Se_join ∈ ds_T := ds_mem (List.mem_append_right _ (List.mem_of_getElem? (i := 252) (by decide +kernel))) rfl
theorem wd_253 : Cond.code y_Se_join prog_3_method_3_code 6 none ∈ ds_T := ds_mem (List.mem_append_right _ (List.mem_of_getElem? (i := 253) (by decide +kernel))) rfl
theorem wd_254 : Cond.methodLink "DaySwaps$Search" 39 ⟨"java/lang/Math", "min", "(JJ)J"⟩ ∈ ds_T := ds_mem (List.mem_append_right _ (List.mem_of_getElem? (i := 254) (by decide +kernel))) rfl
theorem wd_255 : Cond.static ⟨"java/lang/Math", "min", "(JJ)J"⟩ ∈ ds_T := ds_mem (List.mem_append_right _ (List.mem_of_getElem? (i := 255) (by decide +kernel))) rfl
theorem wd_256 : Cond.code ⟨"java/lang/Math", "min", "(JJ)J"⟩ prog_8_method_70_code 4 (some FieldType.long) ∈ ds_T := ds_mem (List.mem_append_right _ (List.mem_of_getElem? (i := 256) (by decide +kernel))) rfl
theorem wd_257 : Cond.constantLong "DaySwaps" 94 (1152921504606846976 : Int64) ∈ ds_T := ds_mem (List.mem_append_right _ (List.mem_of_getElem? (i := 257) (by decide +kernel))) rfl
theorem wd_258 : Cond.methodLink "DaySwaps" 96 y_DS_whyNoPlan ∈ ds_T := ds_mem (List.mem_append_right _ (List.mem_of_getElem? (i := 258) (by decide +kernel))) rfl
theorem wd_260 : Cond.instanceMethod y_DS_whyNoPlan ∈ ds_T := ds_mem (List.mem_append_right _ (List.mem_of_getElem? (i := 260) (by decide +kernel))) rfl
theorem wd_261 : Cond.code y_DS_whyNoPlan prog_1_method_22_code 2 (some FieldType.int) ∈ ds_T := ds_mem (List.mem_append_right _ (List.mem_of_getElem? (i := 261) (by decide +kernel))) rfl
theorem wd_262 : Cond.methodLinkNest "DaySwaps" 155 y_Day_canDo "DaySwaps" ∈ lw_tbl := List.mem_append_right _ (List.mem_of_getElem? (i := 262) (by decide +kernel))
theorem wd_263 : Cond.methodLinkNest "DaySwaps" 100 y_Sh_putLatest "DaySwaps" ∈ lw_tbl := List.mem_append_right _ (List.mem_of_getElem? (i := 263) (by decide +kernel))
theorem wd_265 : Cond.instanceMethod y_Sh_putLatest ∈ ds_T := ds_mem (List.mem_append_right _ (List.mem_of_getElem? (i := 265) (by decide +kernel))) rfl
theorem wd_266 : Cond.code y_Sh_putLatest prog_4_method_2_code 4 none ∈ ds_T := ds_mem (List.mem_append_right _ (List.mem_of_getElem? (i := 266) (by decide +kernel))) rfl
theorem wd_267 : Cond.methodLink "DaySwaps$Shelf" 24 ⟨"java/lang/System", "arraycopy", "(Ljava/lang/Object;ILjava/lang/Object;II)V"⟩ ∈ ds_T := ds_mem (List.mem_append_right _ (List.mem_of_getElem? (i := 267) (by decide +kernel))) rfl
theorem wd_268 : Cond.static ⟨"java/lang/System", "arraycopy", "(Ljava/lang/Object;ILjava/lang/Object;II)V"⟩ ∈ ds_T := ds_mem (List.mem_append_right _ (List.mem_of_getElem? (i := 268) (by decide +kernel))) rfl
theorem wd_269 : Cond.native ⟨"java/lang/System", "arraycopy", "(Ljava/lang/Object;ILjava/lang/Object;II)V"⟩ ∈ ds_T := ds_mem (List.mem_append_right _ (List.mem_of_getElem? (i := 269) (by decide +kernel))) rfl
theorem wd_270 : Cond.methodLinkNest "DaySwaps" 104 y_Se_vehicleIn "DaySwaps" ∈ lw_tbl := List.mem_append_right _ (List.mem_of_getElem? (i := 270) (by decide +kernel))
theorem wd_271 : Cond.static y_Se_vehicleIn ∈ ds_T := ds_mem (List.mem_append_right _ (List.mem_of_getElem? (i := 271) (by decide +kernel))) rfl
theorem wd_272 : Cond.code y_Se_vehicleIn prog_3_method_5_code 3 (some FieldType.int) ∈ ds_T := ds_mem (List.mem_append_right _ (List.mem_of_getElem? (i := 272) (by decide +kernel))) rfl
theorem wd_273 : Cond.methodLink "DaySwaps" 108 y_DS_movedSet ∈ ds_T := ds_mem (List.mem_append_right _ (List.mem_of_getElem? (i := 273) (by decide +kernel))) rfl
theorem wd_275 : Cond.instanceMethod y_DS_movedSet ∈ ds_T := ds_mem (List.mem_append_right _ (List.mem_of_getElem? (i := 275) (by decide +kernel))) rfl
theorem wd_276 : Cond.code y_DS_movedSet prog_1_method_24_code 3 (some FieldType.int) ∈ ds_T := ds_mem (List.mem_append_right _ (List.mem_of_getElem? (i := 276) (by decide +kernel))) rfl
theorem wd_277 : Cond.methodLink "DaySwaps" 111 y_In_bitCount ∈ ds_T := ds_mem (List.mem_append_right _ (List.mem_of_getElem? (i := 277) (by decide +kernel))) rfl
theorem wd_278 : Cond.static y_In_bitCount ∈ ds_T := ds_mem (List.mem_append_right _ (List.mem_of_getElem? (i := 278) (by decide +kernel))) rfl
theorem wd_279 : Cond.code y_In_bitCount prog_7_method_49_code 1 (some FieldType.int) ∈ ds_T := ds_mem (List.mem_append_right _ (List.mem_of_getElem? (i := 279) (by decide +kernel))) rfl
theorem wd_280 : Cond.constant "java/lang/Integer" 265 (1431655765 : Int32) ∈ ds_T := ds_mem (List.mem_append_right _ (List.mem_of_getElem? (i := 280) (by decide +kernel))) rfl
theorem wd_281 : Cond.constant "java/lang/Integer" 266 (858993459 : Int32) ∈ ds_T := ds_mem (List.mem_append_right _ (List.mem_of_getElem? (i := 281) (by decide +kernel))) rfl
theorem wd_282 : Cond.constant "java/lang/Integer" 267 (252645135 : Int32) ∈ ds_T := ds_mem (List.mem_append_right _ (List.mem_of_getElem? (i := 282) (by decide +kernel))) rfl
theorem wd_283 : Cond.methodLink "DaySwapsLaw" 59 y_DS_vehicleOf ∈ ds_T := ds_mem (List.mem_append_right _ (List.mem_of_getElem? (i := 283) (by decide +kernel))) rfl
theorem wd_284 : Cond.instanceMethod y_DS_vehicleOf ∈ ds_T := ds_mem (List.mem_append_right _ (List.mem_of_getElem? (i := 284) (by decide +kernel))) rfl
theorem wd_285 : Cond.selects "DaySwaps" y_DS_vehicleOf y_DS_vehicleOf ∈ ds_T := ds_mem (List.mem_append_right _ (List.mem_of_getElem? (i := 285) (by decide +kernel))) rfl
theorem wd_286 : Cond.code y_DS_vehicleOf prog_1_method_10_code 2 (some FieldType.int) ∈ ds_T := ds_mem (List.mem_append_right _ (List.mem_of_getElem? (i := 286) (by decide +kernel))) rfl
theorem wd_287 : Cond.methodLink "DaySwapsLaw" 64 y_DS_place ∈ ds_T := ds_mem (List.mem_append_right _ (List.mem_of_getElem? (i := 287) (by decide +kernel))) rfl
theorem wd_288 : Cond.instanceMethod y_DS_place ∈ ds_T := ds_mem (List.mem_append_right _ (List.mem_of_getElem? (i := 288) (by decide +kernel))) rfl
theorem wd_289 : Cond.selects "DaySwaps" y_DS_place y_DS_place ∈ ds_T := ds_mem (List.mem_append_right _ (List.mem_of_getElem? (i := 289) (by decide +kernel))) rfl
theorem wd_290 : Cond.code y_DS_place prog_1_method_11_code 2 (some FieldType.int) ∈ ds_T := ds_mem (List.mem_append_right _ (List.mem_of_getElem? (i := 290) (by decide +kernel))) rfl
theorem wd_291 : Cond.methodLink "DaySwaps" 117 y_DS_setOf ∈ ds_T := ds_mem (List.mem_append_right _ (List.mem_of_getElem? (i := 291) (by decide +kernel))) rfl
theorem wd_293 : Cond.instanceMethod y_DS_setOf ∈ ds_T := ds_mem (List.mem_append_right _ (List.mem_of_getElem? (i := 293) (by decide +kernel))) rfl
theorem wd_294 : Cond.code y_DS_setOf prog_1_method_23_code 4 (some FieldType.int) ∈ ds_T := ds_mem (List.mem_append_right _ (List.mem_of_getElem? (i := 294) (by decide +kernel))) rfl
theorem wd_295 : Cond.methodLinkNest "DaySwaps" 120 y_Day_placeInRound "DaySwaps" ∈ lw_tbl := List.mem_append_right _ (List.mem_of_getElem? (i := 295) (by decide +kernel))
theorem wd_297 : Cond.instanceMethod y_Day_placeInRound ∈ ds_T := ds_mem (List.mem_append_right _ (List.mem_of_getElem? (i := 297) (by decide +kernel))) rfl
theorem wd_298 : Cond.code y_Day_placeInRound prog_2_method_9_code 6 (some FieldType.int) ∈ ds_T := ds_mem (List.mem_append_right _ (List.mem_of_getElem? (i := 298) (by decide +kernel))) rfl
theorem wd_299 : Cond.methodLink "DaySwapsLaw" 68 y_DS_moved ∈ ds_T := ds_mem (List.mem_append_right _ (List.mem_of_getElem? (i := 299) (by decide +kernel))) rfl
theorem wd_300 : Cond.instanceMethod y_DS_moved ∈ ds_T := ds_mem (List.mem_append_right _ (List.mem_of_getElem? (i := 300) (by decide +kernel))) rfl
theorem wd_301 : Cond.selects "DaySwaps" y_DS_moved y_DS_moved ∈ ds_T := ds_mem (List.mem_append_right _ (List.mem_of_getElem? (i := 301) (by decide +kernel))) rfl
theorem wd_302 : Cond.code y_DS_moved prog_1_method_12_code 2 (some FieldType.int) ∈ ds_T := ds_mem (List.mem_append_right _ (List.mem_of_getElem? (i := 302) (by decide +kernel))) rfl
theorem wd_303 : Cond.methodLink "DaySwaps" 123 y_DS_stopAt ∈ ds_T := ds_mem (List.mem_append_right _ (List.mem_of_getElem? (i := 303) (by decide +kernel))) rfl
theorem wd_304 : Cond.static y_DS_stopAt ∈ ds_T := ds_mem (List.mem_append_right _ (List.mem_of_getElem? (i := 304) (by decide +kernel))) rfl
theorem wd_305 : Cond.code y_DS_stopAt prog_1_method_25_code 4 (some FieldType.int) ∈ ds_T := ds_mem (List.mem_append_right _ (List.mem_of_getElem? (i := 305) (by decide +kernel))) rfl
theorem wd_306 : Cond.methodLink "DaySwaps" 159 y_DS_isIn ∈ ds_T := ds_mem (List.mem_append_right _ (List.mem_of_getElem? (i := 306) (by decide +kernel))) rfl
theorem wd_307 : Cond.methodLink "DaySwapsLaw" 72 y_DS_carried ∈ ds_T := ds_mem (List.mem_append_right _ (List.mem_of_getElem? (i := 307) (by decide +kernel))) rfl
theorem wd_308 : Cond.instanceMethod y_DS_carried ∈ ds_T := ds_mem (List.mem_append_right _ (List.mem_of_getElem? (i := 308) (by decide +kernel))) rfl
theorem wd_309 : Cond.selects "DaySwaps" y_DS_carried y_DS_carried ∈ ds_T := ds_mem (List.mem_append_right _ (List.mem_of_getElem? (i := 309) (by decide +kernel))) rfl
theorem wd_310 : Cond.code y_DS_carried prog_1_method_13_code 2 (some FieldType.int) ∈ ds_T := ds_mem (List.mem_append_right _ (List.mem_of_getElem? (i := 310) (by decide +kernel))) rfl
theorem wd_311 : Cond.methodLink "DaySwapsLaw" 76 y_DS_send ∈ ds_T := ds_mem (List.mem_append_right _ (List.mem_of_getElem? (i := 311) (by decide +kernel))) rfl
theorem wd_312 : Cond.instanceMethod y_DS_send ∈ ds_T := ds_mem (List.mem_append_right _ (List.mem_of_getElem? (i := 312) (by decide +kernel))) rfl
theorem wd_313 : Cond.selects "DaySwaps" y_DS_send y_DS_send ∈ ds_T := ds_mem (List.mem_append_right _ (List.mem_of_getElem? (i := 313) (by decide +kernel))) rfl
theorem wd_314 : Cond.code y_DS_send prog_1_method_14_code 3 (some FieldType.int) ∈ ds_T := ds_mem (List.mem_append_right _ (List.mem_of_getElem? (i := 314) (by decide +kernel))) rfl
theorem wd_315 : Cond.methodLink "DaySwapsLaw" 80 y_DS_sent ∈ ds_T := ds_mem (List.mem_append_right _ (List.mem_of_getElem? (i := 315) (by decide +kernel))) rfl
theorem wd_316 : Cond.instanceMethod y_DS_sent ∈ ds_T := ds_mem (List.mem_append_right _ (List.mem_of_getElem? (i := 316) (by decide +kernel))) rfl
theorem wd_317 : Cond.selects "DaySwaps" y_DS_sent y_DS_sent ∈ ds_T := ds_mem (List.mem_append_right _ (List.mem_of_getElem? (i := 317) (by decide +kernel))) rfl
theorem wd_318 : Cond.code y_DS_sent prog_1_method_15_code 2 (some FieldType.int) ∈ ds_T := ds_mem (List.mem_append_right _ (List.mem_of_getElem? (i := 318) (by decide +kernel))) rfl
theorem wd_319 : Cond.methodLink "DaySwapsLaw" 84 y_DS_undo ∈ ds_T := ds_mem (List.mem_append_right _ (List.mem_of_getElem? (i := 319) (by decide +kernel))) rfl
theorem wd_320 : Cond.instanceMethod y_DS_undo ∈ ds_T := ds_mem (List.mem_append_right _ (List.mem_of_getElem? (i := 320) (by decide +kernel))) rfl
theorem wd_321 : Cond.selects "DaySwaps" y_DS_undo y_DS_undo ∈ ds_T := ds_mem (List.mem_append_right _ (List.mem_of_getElem? (i := 321) (by decide +kernel))) rfl
theorem wd_322 : Cond.code y_DS_undo prog_1_method_16_code 4 (some FieldType.boolean) ∈ ds_T := ds_mem (List.mem_append_right _ (List.mem_of_getElem? (i := 322) (by decide +kernel))) rfl
theorem wd_323 : Cond.methodLink "DaySwapsLaw" 89 y_DS_copy ∈ ds_T := ds_mem (List.mem_append_right _ (List.mem_of_getElem? (i := 323) (by decide +kernel))) rfl
theorem wd_324 : Cond.instanceMethod y_DS_copy ∈ ds_T := ds_mem (List.mem_append_right _ (List.mem_of_getElem? (i := 324) (by decide +kernel))) rfl
theorem wd_325 : Cond.selects "DaySwaps" y_DS_copy y_DS_copy ∈ ds_T := ds_mem (List.mem_append_right _ (List.mem_of_getElem? (i := 325) (by decide +kernel))) rfl
theorem wd_326 : Cond.code y_DS_copy prog_1_method_17_code 1 (some FieldType.int) ∈ ds_T := ds_mem (List.mem_append_right _ (List.mem_of_getElem? (i := 326) (by decide +kernel))) rfl
theorem wd_327 : Cond.methodLink "DaySwapsLaw" 93 y_DS_compare ∈ ds_T := ds_mem (List.mem_append_right _ (List.mem_of_getElem? (i := 327) (by decide +kernel))) rfl
theorem wd_328 : Cond.instanceMethod y_DS_compare ∈ ds_T := ds_mem (List.mem_append_right _ (List.mem_of_getElem? (i := 328) (by decide +kernel))) rfl
theorem wd_329 : Cond.selects "DaySwaps" y_DS_compare y_DS_compare ∈ ds_T := ds_mem (List.mem_append_right _ (List.mem_of_getElem? (i := 329) (by decide +kernel))) rfl
theorem wd_330 : Cond.code y_DS_compare prog_1_method_18_code 5 (some FieldType.int) ∈ ds_T := ds_mem (List.mem_append_right _ (List.mem_of_getElem? (i := 330) (by decide +kernel))) rfl
theorem wd_331 : Cond.methodLink "DaySwapsLaw" 98 y_DS_cost ∈ ds_T := ds_mem (List.mem_append_right _ (List.mem_of_getElem? (i := 331) (by decide +kernel))) rfl
theorem wd_332 : Cond.instanceMethod y_DS_cost ∈ ds_T := ds_mem (List.mem_append_right _ (List.mem_of_getElem? (i := 332) (by decide +kernel))) rfl
theorem wd_333 : Cond.selects "DaySwaps" y_DS_cost y_DS_cost ∈ ds_T := ds_mem (List.mem_append_right _ (List.mem_of_getElem? (i := 333) (by decide +kernel))) rfl
theorem wd_334 : Cond.code y_DS_cost prog_1_method_19_code 5 (some FieldType.long) ∈ ds_T := ds_mem (List.mem_append_right _ (List.mem_of_getElem? (i := 334) (by decide +kernel))) rfl
theorem wd_335 : Cond.methodLinkNest "DaySwaps" 142 y_Day_timeOf "DaySwaps" ∈ lw_tbl := List.mem_append_right _ (List.mem_of_getElem? (i := 335) (by decide +kernel))
theorem wd_336 : Cond.methodLinkNest "DaySwaps" 145 y_Day_overHours "DaySwaps" ∈ lw_tbl := List.mem_append_right _ (List.mem_of_getElem? (i := 336) (by decide +kernel))
theorem wd_337 : Cond.methodLink "DaySwapsLaw" 103 y_DS_overtime ∈ ds_T := ds_mem (List.mem_append_right _ (List.mem_of_getElem? (i := 337) (by decide +kernel))) rfl
theorem wd_338 : Cond.instanceMethod y_DS_overtime ∈ ds_T := ds_mem (List.mem_append_right _ (List.mem_of_getElem? (i := 338) (by decide +kernel))) rfl
theorem wd_339 : Cond.selects "DaySwaps" y_DS_overtime y_DS_overtime ∈ ds_T := ds_mem (List.mem_append_right _ (List.mem_of_getElem? (i := 339) (by decide +kernel))) rfl
theorem wd_340 : Cond.code y_DS_overtime prog_1_method_20_code 2 (some FieldType.int) ∈ ds_T := ds_mem (List.mem_append_right _ (List.mem_of_getElem? (i := 340) (by decide +kernel))) rfl
theorem wd_341 : Cond.methodLink "DaySwapsLaw" 107 y_DS_next ∈ ds_T := ds_mem (List.mem_append_right _ (List.mem_of_getElem? (i := 341) (by decide +kernel))) rfl
theorem wd_342 : Cond.instanceMethod y_DS_next ∈ ds_T := ds_mem (List.mem_append_right _ (List.mem_of_getElem? (i := 342) (by decide +kernel))) rfl
theorem wd_343 : Cond.selects "DaySwaps" y_DS_next y_DS_next ∈ ds_T := ds_mem (List.mem_append_right _ (List.mem_of_getElem? (i := 343) (by decide +kernel))) rfl
theorem wd_344 : Cond.code y_DS_next prog_1_method_21_code 3 (some FieldType.int) ∈ ds_T := ds_mem (List.mem_append_right _ (List.mem_of_getElem? (i := 344) (by decide +kernel))) rfl
theorem wd_345 : Cond.methodLinkNest "DaySwaps" 148 y_Day_prepareRow "DaySwaps" ∈ lw_tbl := List.mem_append_right _ (List.mem_of_getElem? (i := 345) (by decide +kernel))
theorem wd_347 : Cond.instanceMethod y_Day_prepareRow ∈ ds_T := ds_mem (List.mem_append_right _ (List.mem_of_getElem? (i := 347) (by decide +kernel))) rfl
theorem wd_348 : Cond.code y_Day_prepareRow prog_2_method_12_code 6 none ∈ ds_T := ds_mem (List.mem_append_right _ (List.mem_of_getElem? (i := 348) (by decide +kernel))) rfl
theorem wd_349 : Cond.methodLinkNest "DaySwaps" 152 y_Day_turn "DaySwaps" ∈ lw_tbl := List.mem_append_right _ (List.mem_of_getElem? (i := 349) (by decide +kernel))
theorem wd_351 : Cond.instanceMethod y_Day_turn ∈ ds_T := ds_mem (List.mem_append_right _ (List.mem_of_getElem? (i := 351) (by decide +kernel))) rfl
theorem wd_352 : Cond.code y_Day_turn prog_2_method_13_code 3 none ∈ ds_T := ds_mem (List.mem_append_right _ (List.mem_of_getElem? (i := 352) (by decide +kernel))) rfl
theorem wd_353 : Cond.methodLink "DaySwapsLaw" 9 y_La_cell ∈ ds_T := ds_mem (List.mem_append_right _ (List.mem_of_getElem? (i := 353) (by decide +kernel))) rfl
theorem wd_354 : Cond.static y_La_cell ∈ ds_T := ds_mem (List.mem_append_right _ (List.mem_of_getElem? (i := 354) (by decide +kernel))) rfl
theorem wd_355 : Cond.code y_La_cell method_2_code 2 (some FieldType.int) ∈ ds_T := ds_mem (List.mem_append_right _ (List.mem_of_getElem? (i := 355) (by decide +kernel))) rfl
theorem wd_356 : Cond.classLink "DaySwapsLaw" 18 "DaySwapsModel" ∈ ds_T := ds_mem (List.mem_append_right _ (List.mem_of_getElem? (i := 356) (by decide +kernel))) rfl
theorem wd_357 : Cond.instantiable "DaySwapsModel" 28 ∈ ds_T := ds_mem (List.mem_append_right _ (List.mem_of_getElem? (i := 357) (by decide +kernel))) rfl
theorem wd_358 : Cond.methodLink "DaySwapsLaw" 20 y_Mo_init ∈ ds_T := ds_mem (List.mem_append_right _ (List.mem_of_getElem? (i := 358) (by decide +kernel))) rfl
theorem wd_359 : Cond.instanceMethod y_Mo_init ∈ ds_T := ds_mem (List.mem_append_right _ (List.mem_of_getElem? (i := 359) (by decide +kernel))) rfl
theorem wd_360 : Cond.code y_Mo_init prog_6_method_1_code 4 none ∈ ds_T := ds_mem (List.mem_append_right _ (List.mem_of_getElem? (i := 360) (by decide +kernel))) rfl
theorem wd_361 : Cond.methodLink "DaySwapsModel" 1 ⟨"java/lang/Object", "<init>", "()V"⟩ ∈ ds_T := ds_mem (List.mem_append_right _ (List.mem_of_getElem? (i := 361) (by decide +kernel))) rfl
theorem wd_362 : Cond.fieldLink "DaySwapsModel" 77 "DaySwapsModel" "vehicles" "I" ∈ ds_T := ds_mem (List.mem_append_right _ (List.mem_of_getElem? (i := 362) (by decide +kernel))) rfl
theorem wd_363 : Cond.fieldLink "DaySwapsModel" 81 "DaySwapsModel" "stops" "I" ∈ ds_T := ds_mem (List.mem_append_right _ (List.mem_of_getElem? (i := 363) (by decide +kernel))) rfl
theorem wd_364 : Cond.fieldLink "DaySwapsModel" 7 "DaySwapsModel" "places" "[I" ∈ ds_T := ds_mem (List.mem_append_right _ (List.mem_of_getElem? (i := 364) (by decide +kernel))) rfl
theorem wd_365 : Cond.fieldLink "DaySwapsModel" 13 "DaySwapsModel" "services" "[I" ∈ ds_T := ds_mem (List.mem_append_right _ (List.mem_of_getElem? (i := 365) (by decide +kernel))) rfl
theorem wd_366 : Cond.fieldLink "DaySwapsModel" 16 "DaySwapsModel" "homes" "[I" ∈ ds_T := ds_mem (List.mem_append_right _ (List.mem_of_getElem? (i := 366) (by decide +kernel))) rfl
theorem wd_367 : Cond.fieldLink "DaySwapsModel" 19 "DaySwapsModel" "positions" "[I" ∈ ds_T := ds_mem (List.mem_append_right _ (List.mem_of_getElem? (i := 367) (by decide +kernel))) rfl
theorem wd_368 : Cond.fieldLink "DaySwapsModel" 22 "DaySwapsModel" "rowSizes" "[I" ∈ ds_T := ds_mem (List.mem_append_right _ (List.mem_of_getElem? (i := 368) (by decide +kernel))) rfl
theorem wd_369 : Cond.fieldLink "DaySwapsModel" 25 "DaySwapsModel" "frozen" "[Z" ∈ ds_T := ds_mem (List.mem_append_right _ (List.mem_of_getElem? (i := 369) (by decide +kernel))) rfl
theorem wd_370 : Cond.fieldLink "DaySwapsModel" 29 "DaySwapsModel" "blocked" "[Z" ∈ ds_T := ds_mem (List.mem_append_right _ (List.mem_of_getElem? (i := 370) (by decide +kernel))) rfl
theorem wd_371 : Cond.fieldLink "DaySwapsModel" 32 "DaySwapsModel" "outs" "[I" ∈ ds_T := ds_mem (List.mem_append_right _ (List.mem_of_getElem? (i := 371) (by decide +kernel))) rfl
theorem wd_372 : Cond.fieldLink "DaySwapsModel" 35 "DaySwapsModel" "hours" "[I" ∈ ds_T := ds_mem (List.mem_append_right _ (List.mem_of_getElem? (i := 372) (by decide +kernel))) rfl
theorem wd_373 : Cond.fieldLink "DaySwapsModel" 38 "DaySwapsModel" "ways" "[I" ∈ ds_T := ds_mem (List.mem_append_right _ (List.mem_of_getElem? (i := 373) (by decide +kernel))) rfl
theorem wd_374 : Cond.fieldLink "DaySwapsModel" 103 "DaySwapsModel" "extra" "I" ∈ ds_T := ds_mem (List.mem_append_right _ (List.mem_of_getElem? (i := 374) (by decide +kernel))) rfl
theorem wd_375 : Cond.fieldLink "DaySwapsModel" 41 "DaySwapsModel" "plan" "[I" ∈ ds_T := ds_mem (List.mem_append_right _ (List.mem_of_getElem? (i := 375) (by decide +kernel))) rfl
theorem wd_376 : Cond.fieldLink "DaySwapsModel" 44 "DaySwapsModel" "trying" "[I" ∈ ds_T := ds_mem (List.mem_append_right _ (List.mem_of_getElem? (i := 376) (by decide +kernel))) rfl
theorem wd_377 : Cond.fieldLink "DaySwapsModel" 47 "DaySwapsModel" "best" "[I" ∈ ds_T := ds_mem (List.mem_append_right _ (List.mem_of_getElem? (i := 377) (by decide +kernel))) rfl
theorem wd_378 : Cond.fieldLink "DaySwapsModel" 149 "DaySwapsModel" "kept" "I" ∈ ds_T := ds_mem (List.mem_append_right _ (List.mem_of_getElem? (i := 378) (by decide +kernel))) rfl
theorem wd_379 : Cond.fieldLink "DaySwapsModel" 50 "DaySwapsModel" "keptPlans" "[I" ∈ ds_T := ds_mem (List.mem_append_right _ (List.mem_of_getElem? (i := 379) (by decide +kernel))) rfl
theorem wd_380 : Cond.fieldLink "DaySwapsModel" 53 "DaySwapsModel" "keptStops" "[I" ∈ ds_T := ds_mem (List.mem_append_right _ (List.mem_of_getElem? (i := 380) (by decide +kernel))) rfl
theorem wd_381 : Cond.fieldLink "DaySwapsModel" 152 "DaySwapsModel" "copies" "I" ∈ ds_T := ds_mem (List.mem_append_right _ (List.mem_of_getElem? (i := 381) (by decide +kernel))) rfl
theorem wd_382 : Cond.fieldLink "DaySwapsModel" 56 "DaySwapsModel" "copyPlans" "[I" ∈ ds_T := ds_mem (List.mem_append_right _ (List.mem_of_getElem? (i := 382) (by decide +kernel))) rfl
theorem wd_383 : Cond.fieldLink "DaySwapsModel" 59 "DaySwapsModel" "copyStops" "[I" ∈ ds_T := ds_mem (List.mem_append_right _ (List.mem_of_getElem? (i := 383) (by decide +kernel))) rfl
theorem wd_384 : Cond.fieldLink "DaySwapsModel" 62 "DaySwapsModel" "noticed" "[I" ∈ ds_T := ds_mem (List.mem_append_right _ (List.mem_of_getElem? (i := 384) (by decide +kernel))) rfl
theorem wd_385 : Cond.fieldLink "DaySwapsModel" 65 "DaySwapsModel" "notices" "[I" ∈ ds_T := ds_mem (List.mem_append_right _ (List.mem_of_getElem? (i := 385) (by decide +kernel))) rfl
theorem wd_386 : Cond.fieldLink "DaySwapsModel" 68 "DaySwapsModel" "round" "[I" ∈ ds_T := ds_mem (List.mem_append_right _ (List.mem_of_getElem? (i := 386) (by decide +kernel))) rfl
theorem wd_387 : Cond.fieldLink "DaySwapsModel" 106 "DaySwapsModel" "roundSize" "I" ∈ ds_T := ds_mem (List.mem_append_right _ (List.mem_of_getElem? (i := 387) (by decide +kernel))) rfl
theorem wd_388 : Cond.fieldLink "DaySwapsModel" 71 "DaySwapsModel" "newHomes" "[I" ∈ ds_T := ds_mem (List.mem_append_right _ (List.mem_of_getElem? (i := 388) (by decide +kernel))) rfl
theorem wd_389 : Cond.fieldLink "DaySwapsModel" 74 "DaySwapsModel" "newPositions" "[I" ∈ ds_T := ds_mem (List.mem_append_right _ (List.mem_of_getElem? (i := 389) (by decide +kernel))) rfl
theorem wd_447 : Cond.methodLink "DaySwapsLaw" 25 y_Mo_stop ∈ ds_T := ds_mem (List.mem_append_right _ (List.mem_of_getElem? (i := 447) (by decide +kernel))) rfl
theorem wd_448 : Cond.instanceMethod y_Mo_stop ∈ ds_T := ds_mem (List.mem_append_right _ (List.mem_of_getElem? (i := 448) (by decide +kernel))) rfl
theorem wd_449 : Cond.selects "DaySwapsModel" y_Mo_stop y_Mo_stop ∈ ds_T := ds_mem (List.mem_append_right _ (List.mem_of_getElem? (i := 449) (by decide +kernel))) rfl
theorem wd_450 : Cond.code y_Mo_stop prog_6_method_6_code 4 (some FieldType.int) ∈ ds_T := ds_mem (List.mem_append_right _ (List.mem_of_getElem? (i := 450) (by decide +kernel))) rfl
theorem wd_451 : Cond.methodLink "DaySwapsModel" 84 y_Mo_isVehicle ∈ ds_T := ds_mem (List.mem_append_right _ (List.mem_of_getElem? (i := 451) (by decide +kernel))) rfl
theorem wd_453 : Cond.instanceMethod y_Mo_isVehicle ∈ ds_T := ds_mem (List.mem_append_right _ (List.mem_of_getElem? (i := 453) (by decide +kernel))) rfl
theorem wd_454 : Cond.code y_Mo_isVehicle prog_6_method_4_code 2 (some FieldType.boolean) ∈ ds_T := ds_mem (List.mem_append_right _ (List.mem_of_getElem? (i := 454) (by decide +kernel))) rfl
theorem wd_455 : Cond.constantLong "DaySwapsModel" 88 (9 : Int64) ∈ ds_T := ds_mem (List.mem_append_right _ (List.mem_of_getElem? (i := 455) (by decide +kernel))) rfl
theorem wd_456 : Cond.methodLink "DaySwapsModel" 90 y_Mo_isIn ∈ ds_T := ds_mem (List.mem_append_right _ (List.mem_of_getElem? (i := 456) (by decide +kernel))) rfl
theorem wd_457 : Cond.static y_Mo_isIn ∈ ds_T := ds_mem (List.mem_append_right _ (List.mem_of_getElem? (i := 457) (by decide +kernel))) rfl
theorem wd_458 : Cond.code y_Mo_isIn prog_6_method_3_code 6 (some FieldType.boolean) ∈ ds_T := ds_mem (List.mem_append_right _ (List.mem_of_getElem? (i := 458) (by decide +kernel))) rfl
theorem wd_459 : Cond.constantLong "DaySwapsModel" 94 (10000 : Int64) ∈ ds_T := ds_mem (List.mem_append_right _ (List.mem_of_getElem? (i := 459) (by decide +kernel))) rfl
theorem wd_460 : Cond.methodLink "DaySwapsLaw" 30 y_Mo_freeze ∈ ds_T := ds_mem (List.mem_append_right _ (List.mem_of_getElem? (i := 460) (by decide +kernel))) rfl
theorem wd_461 : Cond.instanceMethod y_Mo_freeze ∈ ds_T := ds_mem (List.mem_append_right _ (List.mem_of_getElem? (i := 461) (by decide +kernel))) rfl
theorem wd_462 : Cond.selects "DaySwapsModel" y_Mo_freeze y_Mo_freeze ∈ ds_T := ds_mem (List.mem_append_right _ (List.mem_of_getElem? (i := 462) (by decide +kernel))) rfl
theorem wd_463 : Cond.code y_Mo_freeze prog_6_method_7_code 3 (some FieldType.boolean) ∈ ds_T := ds_mem (List.mem_append_right _ (List.mem_of_getElem? (i := 463) (by decide +kernel))) rfl
theorem wd_464 : Cond.methodLink "DaySwapsModel" 96 y_Mo_isStop ∈ ds_T := ds_mem (List.mem_append_right _ (List.mem_of_getElem? (i := 464) (by decide +kernel))) rfl
theorem wd_466 : Cond.instanceMethod y_Mo_isStop ∈ ds_T := ds_mem (List.mem_append_right _ (List.mem_of_getElem? (i := 466) (by decide +kernel))) rfl
theorem wd_467 : Cond.code y_Mo_isStop prog_6_method_5_code 2 (some FieldType.boolean) ∈ ds_T := ds_mem (List.mem_append_right _ (List.mem_of_getElem? (i := 467) (by decide +kernel))) rfl
theorem wd_468 : Cond.methodLink "DaySwapsLaw" 34 y_Mo_block ∈ ds_T := ds_mem (List.mem_append_right _ (List.mem_of_getElem? (i := 468) (by decide +kernel))) rfl
theorem wd_469 : Cond.instanceMethod y_Mo_block ∈ ds_T := ds_mem (List.mem_append_right _ (List.mem_of_getElem? (i := 469) (by decide +kernel))) rfl
theorem wd_470 : Cond.selects "DaySwapsModel" y_Mo_block y_Mo_block ∈ ds_T := ds_mem (List.mem_append_right _ (List.mem_of_getElem? (i := 470) (by decide +kernel))) rfl
theorem wd_471 : Cond.code y_Mo_block prog_6_method_8_code 3 (some FieldType.boolean) ∈ ds_T := ds_mem (List.mem_append_right _ (List.mem_of_getElem? (i := 471) (by decide +kernel))) rfl
theorem wd_472 : Cond.methodLink "DaySwapsLaw" 39 y_Mo_out ∈ ds_T := ds_mem (List.mem_append_right _ (List.mem_of_getElem? (i := 472) (by decide +kernel))) rfl
theorem wd_473 : Cond.instanceMethod y_Mo_out ∈ ds_T := ds_mem (List.mem_append_right _ (List.mem_of_getElem? (i := 473) (by decide +kernel))) rfl
theorem wd_474 : Cond.selects "DaySwapsModel" y_Mo_out y_Mo_out ∈ ds_T := ds_mem (List.mem_append_right _ (List.mem_of_getElem? (i := 474) (by decide +kernel))) rfl
theorem wd_475 : Cond.code y_Mo_out prog_6_method_9_code 3 (some FieldType.boolean) ∈ ds_T := ds_mem (List.mem_append_right _ (List.mem_of_getElem? (i := 475) (by decide +kernel))) rfl
theorem wd_476 : Cond.constantLong "DaySwapsModel" 99 (8 : Int64) ∈ ds_T := ds_mem (List.mem_append_right _ (List.mem_of_getElem? (i := 476) (by decide +kernel))) rfl
theorem wd_477 : Cond.methodLink "DaySwapsLaw" 44 y_Mo_way ∈ ds_T := ds_mem (List.mem_append_right _ (List.mem_of_getElem? (i := 477) (by decide +kernel))) rfl
theorem wd_478 : Cond.instanceMethod y_Mo_way ∈ ds_T := ds_mem (List.mem_append_right _ (List.mem_of_getElem? (i := 478) (by decide +kernel))) rfl
theorem wd_479 : Cond.selects "DaySwapsModel" y_Mo_way y_Mo_way ∈ ds_T := ds_mem (List.mem_append_right _ (List.mem_of_getElem? (i := 479) (by decide +kernel))) rfl
theorem wd_480 : Cond.code y_Mo_way prog_6_method_10_code 4 (some FieldType.boolean) ∈ ds_T := ds_mem (List.mem_append_right _ (List.mem_of_getElem? (i := 480) (by decide +kernel))) rfl
theorem wd_481 : Cond.methodLink "DaySwapsLaw" 48 y_Mo_hours ∈ ds_T := ds_mem (List.mem_append_right _ (List.mem_of_getElem? (i := 481) (by decide +kernel))) rfl
theorem wd_482 : Cond.instanceMethod y_Mo_hours ∈ ds_T := ds_mem (List.mem_append_right _ (List.mem_of_getElem? (i := 482) (by decide +kernel))) rfl
theorem wd_483 : Cond.selects "DaySwapsModel" y_Mo_hours y_Mo_hours ∈ ds_T := ds_mem (List.mem_append_right _ (List.mem_of_getElem? (i := 483) (by decide +kernel))) rfl
theorem wd_484 : Cond.code y_Mo_hours prog_6_method_11_code 3 (some FieldType.boolean) ∈ ds_T := ds_mem (List.mem_append_right _ (List.mem_of_getElem? (i := 484) (by decide +kernel))) rfl
theorem wd_485 : Cond.constantLong "DaySwapsModel" 101 (100000 : Int64) ∈ ds_T := ds_mem (List.mem_append_right _ (List.mem_of_getElem? (i := 485) (by decide +kernel))) rfl
theorem wd_486 : Cond.methodLink "DaySwapsLaw" 53 y_Mo_extra ∈ ds_T := ds_mem (List.mem_append_right _ (List.mem_of_getElem? (i := 486) (by decide +kernel))) rfl
theorem wd_487 : Cond.instanceMethod y_Mo_extra ∈ ds_T := ds_mem (List.mem_append_right _ (List.mem_of_getElem? (i := 487) (by decide +kernel))) rfl
theorem wd_488 : Cond.selects "DaySwapsModel" y_Mo_extra y_Mo_extra ∈ ds_T := ds_mem (List.mem_append_right _ (List.mem_of_getElem? (i := 488) (by decide +kernel))) rfl
theorem wd_489 : Cond.code y_Mo_extra prog_6_method_12_code 2 (some FieldType.boolean) ∈ ds_T := ds_mem (List.mem_append_right _ (List.mem_of_getElem? (i := 489) (by decide +kernel))) rfl
theorem wd_490 : Cond.methodLink "DaySwapsLaw" 102 y_Mo_cost ∈ ds_T := ds_mem (List.mem_append_right _ (List.mem_of_getElem? (i := 490) (by decide +kernel))) rfl
theorem wd_491 : Cond.instanceMethod y_Mo_cost ∈ ds_T := ds_mem (List.mem_append_right _ (List.mem_of_getElem? (i := 491) (by decide +kernel))) rfl
theorem wd_492 : Cond.selects "DaySwapsModel" y_Mo_cost y_Mo_cost ∈ ds_T := ds_mem (List.mem_append_right _ (List.mem_of_getElem? (i := 492) (by decide +kernel))) rfl
theorem wd_493 : Cond.code y_Mo_cost prog_6_method_17_code 1 (some FieldType.long) ∈ ds_T := ds_mem (List.mem_append_right _ (List.mem_of_getElem? (i := 493) (by decide +kernel))) rfl
theorem wd_494 : Cond.methodLink "DaySwapsModel" 120 y_Mo_costOf ∈ ds_T := ds_mem (List.mem_append_right _ (List.mem_of_getElem? (i := 494) (by decide +kernel))) rfl
theorem wd_496 : Cond.instanceMethod y_Mo_costOf ∈ ds_T := ds_mem (List.mem_append_right _ (List.mem_of_getElem? (i := 496) (by decide +kernel))) rfl
theorem wd_497 : Cond.code y_Mo_costOf prog_6_method_16_code 5 (some FieldType.long) ∈ ds_T := ds_mem (List.mem_append_right _ (List.mem_of_getElem? (i := 497) (by decide +kernel))) rfl
theorem wd_498 : Cond.methodLink "DaySwapsModel" 113 y_Mo_timeOf ∈ ds_T := ds_mem (List.mem_append_right _ (List.mem_of_getElem? (i := 498) (by decide +kernel))) rfl
theorem wd_500 : Cond.instanceMethod y_Mo_timeOf ∈ ds_T := ds_mem (List.mem_append_right _ (List.mem_of_getElem? (i := 500) (by decide +kernel))) rfl
theorem wd_501 : Cond.code y_Mo_timeOf prog_6_method_14_code 6 (some FieldType.int) ∈ ds_T := ds_mem (List.mem_append_right _ (List.mem_of_getElem? (i := 501) (by decide +kernel))) rfl
theorem wd_502 : Cond.methodLink "DaySwapsModel" 109 y_Mo_go ∈ ds_T := ds_mem (List.mem_append_right _ (List.mem_of_getElem? (i := 502) (by decide +kernel))) rfl
theorem wd_504 : Cond.instanceMethod y_Mo_go ∈ ds_T := ds_mem (List.mem_append_right _ (List.mem_of_getElem? (i := 504) (by decide +kernel))) rfl
theorem wd_505 : Cond.code y_Mo_go prog_6_method_13_code 5 none ∈ ds_T := ds_mem (List.mem_append_right _ (List.mem_of_getElem? (i := 505) (by decide +kernel))) rfl
theorem wd_506 : Cond.methodLink "DaySwapsModel" 117 y_Mo_overtimeOf ∈ ds_T := ds_mem (List.mem_append_right _ (List.mem_of_getElem? (i := 506) (by decide +kernel))) rfl
theorem wd_508 : Cond.instanceMethod y_Mo_overtimeOf ∈ ds_T := ds_mem (List.mem_append_right _ (List.mem_of_getElem? (i := 508) (by decide +kernel))) rfl
theorem wd_509 : Cond.code y_Mo_overtimeOf prog_6_method_15_code 4 (some FieldType.int) ∈ ds_T := ds_mem (List.mem_append_right _ (List.mem_of_getElem? (i := 509) (by decide +kernel))) rfl
theorem wd_510 : Cond.methodLink "DaySwapsLaw" 106 y_Mo_overtime ∈ ds_T := ds_mem (List.mem_append_right _ (List.mem_of_getElem? (i := 510) (by decide +kernel))) rfl
theorem wd_511 : Cond.instanceMethod y_Mo_overtime ∈ ds_T := ds_mem (List.mem_append_right _ (List.mem_of_getElem? (i := 511) (by decide +kernel))) rfl
theorem wd_512 : Cond.selects "DaySwapsModel" y_Mo_overtime y_Mo_overtime ∈ ds_T := ds_mem (List.mem_append_right _ (List.mem_of_getElem? (i := 512) (by decide +kernel))) rfl
theorem wd_513 : Cond.code y_Mo_overtime prog_6_method_18_code 2 (some FieldType.int) ∈ ds_T := ds_mem (List.mem_append_right _ (List.mem_of_getElem? (i := 513) (by decide +kernel))) rfl
theorem wd_514 : Cond.methodLink "DaySwapsLaw" 58 y_Mo_run ∈ ds_T := ds_mem (List.mem_append_right _ (List.mem_of_getElem? (i := 514) (by decide +kernel))) rfl
theorem wd_515 : Cond.instanceMethod y_Mo_run ∈ ds_T := ds_mem (List.mem_append_right _ (List.mem_of_getElem? (i := 515) (by decide +kernel))) rfl
theorem wd_516 : Cond.selects "DaySwapsModel" y_Mo_run y_Mo_run ∈ ds_T := ds_mem (List.mem_append_right _ (List.mem_of_getElem? (i := 516) (by decide +kernel))) rfl
theorem wd_517 : Cond.code y_Mo_run prog_6_method_25_code 9 (some FieldType.int) ∈ ds_T := ds_mem (List.mem_append_right _ (List.mem_of_getElem? (i := 517) (by decide +kernel))) rfl
theorem wd_518 : Cond.methodLink "DaySwapsModel" 128 y_Mo_movedBy ∈ ds_T := ds_mem (List.mem_append_right _ (List.mem_of_getElem? (i := 518) (by decide +kernel))) rfl
theorem wd_520 : Cond.instanceMethod y_Mo_movedBy ∈ ds_T := ds_mem (List.mem_append_right _ (List.mem_of_getElem? (i := 520) (by decide +kernel))) rfl
theorem wd_521 : Cond.code y_Mo_movedBy prog_6_method_22_code 4 (some FieldType.int) ∈ ds_T := ds_mem (List.mem_append_right _ (List.mem_of_getElem? (i := 521) (by decide +kernel))) rfl
theorem wd_522 : Cond.methodLink "DaySwapsModel" 132 y_Mo_holdsApart ∈ ds_T := ds_mem (List.mem_append_right _ (List.mem_of_getElem? (i := 522) (by decide +kernel))) rfl
theorem wd_524 : Cond.instanceMethod y_Mo_holdsApart ∈ ds_T := ds_mem (List.mem_append_right _ (List.mem_of_getElem? (i := 524) (by decide +kernel))) rfl
theorem wd_525 : Cond.code y_Mo_holdsApart prog_6_method_20_code 4 (some FieldType.boolean) ∈ ds_T := ds_mem (List.mem_append_right _ (List.mem_of_getElem? (i := 525) (by decide +kernel))) rfl
theorem wd_526 : Cond.methodLink "DaySwapsModel" 124 y_Mo_can ∈ ds_T := ds_mem (List.mem_append_right _ (List.mem_of_getElem? (i := 526) (by decide +kernel))) rfl
theorem wd_528 : Cond.instanceMethod y_Mo_can ∈ ds_T := ds_mem (List.mem_append_right _ (List.mem_of_getElem? (i := 528) (by decide +kernel))) rfl
theorem wd_529 : Cond.code y_Mo_can prog_6_method_19_code 3 (some FieldType.boolean) ∈ ds_T := ds_mem (List.mem_append_right _ (List.mem_of_getElem? (i := 529) (by decide +kernel))) rfl
theorem wd_530 : Cond.methodLink "DaySwapsModel" 136 y_Mo_holdsOvertime ∈ ds_T := ds_mem (List.mem_append_right _ (List.mem_of_getElem? (i := 530) (by decide +kernel))) rfl
theorem wd_532 : Cond.instanceMethod y_Mo_holdsOvertime ∈ ds_T := ds_mem (List.mem_append_right _ (List.mem_of_getElem? (i := 532) (by decide +kernel))) rfl
theorem wd_533 : Cond.code y_Mo_holdsOvertime prog_6_method_21_code 3 (some FieldType.boolean) ∈ ds_T := ds_mem (List.mem_append_right _ (List.mem_of_getElem? (i := 533) (by decide +kernel))) rfl
theorem wd_534 : Cond.methodLink "DaySwapsModel" 139 y_Mo_turn ∈ ds_T := ds_mem (List.mem_append_right _ (List.mem_of_getElem? (i := 534) (by decide +kernel))) rfl
theorem wd_536 : Cond.instanceMethod y_Mo_turn ∈ ds_T := ds_mem (List.mem_append_right _ (List.mem_of_getElem? (i := 536) (by decide +kernel))) rfl
theorem wd_537 : Cond.code y_Mo_turn prog_6_method_23_code 2 (some FieldType.boolean) ∈ ds_T := ds_mem (List.mem_append_right _ (List.mem_of_getElem? (i := 537) (by decide +kernel))) rfl
theorem wd_538 : Cond.methodLink "DaySwapsModel" 142 y_Mo_why ∈ ds_T := ds_mem (List.mem_append_right _ (List.mem_of_getElem? (i := 538) (by decide +kernel))) rfl
theorem wd_540 : Cond.instanceMethod y_Mo_why ∈ ds_T := ds_mem (List.mem_append_right _ (List.mem_of_getElem? (i := 540) (by decide +kernel))) rfl
theorem wd_541 : Cond.code y_Mo_why prog_6_method_24_code 4 (some FieldType.int) ∈ ds_T := ds_mem (List.mem_append_right _ (List.mem_of_getElem? (i := 541) (by decide +kernel))) rfl
theorem wd_542 : Cond.methodLink "DaySwapsModel" 146 y_Mo_keep ∈ ds_T := ds_mem (List.mem_append_right _ (List.mem_of_getElem? (i := 542) (by decide +kernel))) rfl
theorem wd_544 : Cond.instanceMethod y_Mo_keep ∈ ds_T := ds_mem (List.mem_append_right _ (List.mem_of_getElem? (i := 544) (by decide +kernel))) rfl
theorem wd_545 : Cond.code y_Mo_keep prog_6_method_26_code 3 none ∈ ds_T := ds_mem (List.mem_append_right _ (List.mem_of_getElem? (i := 545) (by decide +kernel))) rfl
theorem wd_546 : Cond.methodLink "DaySwapsLaw" 88 y_Mo_undo ∈ ds_T := ds_mem (List.mem_append_right _ (List.mem_of_getElem? (i := 546) (by decide +kernel))) rfl
theorem wd_547 : Cond.instanceMethod y_Mo_undo ∈ ds_T := ds_mem (List.mem_append_right _ (List.mem_of_getElem? (i := 547) (by decide +kernel))) rfl
theorem wd_548 : Cond.selects "DaySwapsModel" y_Mo_undo y_Mo_undo ∈ ds_T := ds_mem (List.mem_append_right _ (List.mem_of_getElem? (i := 548) (by decide +kernel))) rfl
theorem wd_549 : Cond.code y_Mo_undo prog_6_method_27_code 2 (some FieldType.boolean) ∈ ds_T := ds_mem (List.mem_append_right _ (List.mem_of_getElem? (i := 549) (by decide +kernel))) rfl
theorem wd_550 : Cond.methodLink "DaySwapsLaw" 63 y_Mo_vehicleOf ∈ ds_T := ds_mem (List.mem_append_right _ (List.mem_of_getElem? (i := 550) (by decide +kernel))) rfl
theorem wd_551 : Cond.instanceMethod y_Mo_vehicleOf ∈ ds_T := ds_mem (List.mem_append_right _ (List.mem_of_getElem? (i := 551) (by decide +kernel))) rfl
theorem wd_552 : Cond.selects "DaySwapsModel" y_Mo_vehicleOf y_Mo_vehicleOf ∈ ds_T := ds_mem (List.mem_append_right _ (List.mem_of_getElem? (i := 552) (by decide +kernel))) rfl
theorem wd_553 : Cond.code y_Mo_vehicleOf prog_6_method_28_code 2 (some FieldType.int) ∈ ds_T := ds_mem (List.mem_append_right _ (List.mem_of_getElem? (i := 553) (by decide +kernel))) rfl
theorem wd_554 : Cond.methodLink "DaySwapsLaw" 67 y_Mo_place ∈ ds_T := ds_mem (List.mem_append_right _ (List.mem_of_getElem? (i := 554) (by decide +kernel))) rfl
theorem wd_555 : Cond.instanceMethod y_Mo_place ∈ ds_T := ds_mem (List.mem_append_right _ (List.mem_of_getElem? (i := 555) (by decide +kernel))) rfl
theorem wd_556 : Cond.selects "DaySwapsModel" y_Mo_place y_Mo_place ∈ ds_T := ds_mem (List.mem_append_right _ (List.mem_of_getElem? (i := 556) (by decide +kernel))) rfl
theorem wd_557 : Cond.code y_Mo_place prog_6_method_29_code 3 (some FieldType.int) ∈ ds_T := ds_mem (List.mem_append_right _ (List.mem_of_getElem? (i := 557) (by decide +kernel))) rfl
theorem wd_558 : Cond.methodLink "DaySwapsLaw" 71 y_Mo_moved ∈ ds_T := ds_mem (List.mem_append_right _ (List.mem_of_getElem? (i := 558) (by decide +kernel))) rfl
theorem wd_559 : Cond.instanceMethod y_Mo_moved ∈ ds_T := ds_mem (List.mem_append_right _ (List.mem_of_getElem? (i := 559) (by decide +kernel))) rfl
theorem wd_560 : Cond.selects "DaySwapsModel" y_Mo_moved y_Mo_moved ∈ ds_T := ds_mem (List.mem_append_right _ (List.mem_of_getElem? (i := 560) (by decide +kernel))) rfl
theorem wd_561 : Cond.code y_Mo_moved prog_6_method_30_code 4 (some FieldType.int) ∈ ds_T := ds_mem (List.mem_append_right _ (List.mem_of_getElem? (i := 561) (by decide +kernel))) rfl
theorem wd_562 : Cond.methodLink "DaySwapsLaw" 75 y_Mo_carried ∈ ds_T := ds_mem (List.mem_append_right _ (List.mem_of_getElem? (i := 562) (by decide +kernel))) rfl
theorem wd_563 : Cond.instanceMethod y_Mo_carried ∈ ds_T := ds_mem (List.mem_append_right _ (List.mem_of_getElem? (i := 563) (by decide +kernel))) rfl
theorem wd_564 : Cond.selects "DaySwapsModel" y_Mo_carried y_Mo_carried ∈ ds_T := ds_mem (List.mem_append_right _ (List.mem_of_getElem? (i := 564) (by decide +kernel))) rfl
theorem wd_565 : Cond.code y_Mo_carried prog_6_method_31_code 4 (some FieldType.int) ∈ ds_T := ds_mem (List.mem_append_right _ (List.mem_of_getElem? (i := 565) (by decide +kernel))) rfl
theorem wd_566 : Cond.methodLink "DaySwapsLaw" 79 y_Mo_send ∈ ds_T := ds_mem (List.mem_append_right _ (List.mem_of_getElem? (i := 566) (by decide +kernel))) rfl
theorem wd_567 : Cond.instanceMethod y_Mo_send ∈ ds_T := ds_mem (List.mem_append_right _ (List.mem_of_getElem? (i := 567) (by decide +kernel))) rfl
theorem wd_568 : Cond.selects "DaySwapsModel" y_Mo_send y_Mo_send ∈ ds_T := ds_mem (List.mem_append_right _ (List.mem_of_getElem? (i := 568) (by decide +kernel))) rfl
theorem wd_569 : Cond.code y_Mo_send prog_6_method_32_code 3 (some FieldType.int) ∈ ds_T := ds_mem (List.mem_append_right _ (List.mem_of_getElem? (i := 569) (by decide +kernel))) rfl
theorem wd_570 : Cond.methodLink "DaySwapsLaw" 83 y_Mo_sent ∈ ds_T := ds_mem (List.mem_append_right _ (List.mem_of_getElem? (i := 570) (by decide +kernel))) rfl
theorem wd_571 : Cond.instanceMethod y_Mo_sent ∈ ds_T := ds_mem (List.mem_append_right _ (List.mem_of_getElem? (i := 571) (by decide +kernel))) rfl
theorem wd_572 : Cond.selects "DaySwapsModel" y_Mo_sent y_Mo_sent ∈ ds_T := ds_mem (List.mem_append_right _ (List.mem_of_getElem? (i := 572) (by decide +kernel))) rfl
theorem wd_573 : Cond.code y_Mo_sent prog_6_method_33_code 2 (some FieldType.int) ∈ ds_T := ds_mem (List.mem_append_right _ (List.mem_of_getElem? (i := 573) (by decide +kernel))) rfl
theorem wd_574 : Cond.methodLink "DaySwapsLaw" 92 y_Mo_copy ∈ ds_T := ds_mem (List.mem_append_right _ (List.mem_of_getElem? (i := 574) (by decide +kernel))) rfl
theorem wd_575 : Cond.instanceMethod y_Mo_copy ∈ ds_T := ds_mem (List.mem_append_right _ (List.mem_of_getElem? (i := 575) (by decide +kernel))) rfl
theorem wd_576 : Cond.selects "DaySwapsModel" y_Mo_copy y_Mo_copy ∈ ds_T := ds_mem (List.mem_append_right _ (List.mem_of_getElem? (i := 576) (by decide +kernel))) rfl
theorem wd_577 : Cond.code y_Mo_copy prog_6_method_34_code 2 (some FieldType.int) ∈ ds_T := ds_mem (List.mem_append_right _ (List.mem_of_getElem? (i := 577) (by decide +kernel))) rfl
theorem wd_578 : Cond.methodLink "DaySwapsLaw" 97 y_Mo_compare ∈ ds_T := ds_mem (List.mem_append_right _ (List.mem_of_getElem? (i := 578) (by decide +kernel))) rfl
theorem wd_579 : Cond.instanceMethod y_Mo_compare ∈ ds_T := ds_mem (List.mem_append_right _ (List.mem_of_getElem? (i := 579) (by decide +kernel))) rfl
theorem wd_580 : Cond.selects "DaySwapsModel" y_Mo_compare y_Mo_compare ∈ ds_T := ds_mem (List.mem_append_right _ (List.mem_of_getElem? (i := 580) (by decide +kernel))) rfl
theorem wd_581 : Cond.code y_Mo_compare prog_6_method_35_code 5 (some FieldType.int) ∈ ds_T := ds_mem (List.mem_append_right _ (List.mem_of_getElem? (i := 581) (by decide +kernel))) rfl
theorem wd_582 : Cond.methodLink "DaySwapsLaw" 110 y_Mo_next ∈ ds_T := ds_mem (List.mem_append_right _ (List.mem_of_getElem? (i := 582) (by decide +kernel))) rfl
theorem wd_583 : Cond.instanceMethod y_Mo_next ∈ ds_T := ds_mem (List.mem_append_right _ (List.mem_of_getElem? (i := 583) (by decide +kernel))) rfl
theorem wd_584 : Cond.selects "DaySwapsModel" y_Mo_next y_Mo_next ∈ ds_T := ds_mem (List.mem_append_right _ (List.mem_of_getElem? (i := 584) (by decide +kernel))) rfl
theorem wd_585 : Cond.code y_Mo_next prog_6_method_36_code 5 (some FieldType.int) ∈ ds_T := ds_mem (List.mem_append_right _ (List.mem_of_getElem? (i := 585) (by decide +kernel))) rfl
theorem ws_Day_isVehicle : Cond.selects R_Day y_Day_isVehicle y_Day_isVehicle ∈ ds_T := ds_mem (List.mem_append_left _ (List.mem_of_getElem? (i := 0) (by decide +kernel))) rfl
theorem ws_Day_tell : Cond.selects R_Day y_Day_tell y_Day_tell ∈ ds_T := ds_mem (List.mem_append_left _ (List.mem_of_getElem? (i := 1) (by decide +kernel))) rfl
theorem ws_Day_append : Cond.selects R_Day y_Day_append y_Day_append ∈ ds_T := ds_mem (List.mem_append_left _ (List.mem_of_getElem? (i := 2) (by decide +kernel))) rfl
theorem ws_Day_isStop : Cond.selects R_Day y_Day_isStop y_Day_isStop ∈ ds_T := ds_mem (List.mem_append_left _ (List.mem_of_getElem? (i := 3) (by decide +kernel))) rfl
theorem ws_Se_least : Cond.selects R_Se y_Se_least y_Se_least ∈ ds_T := ds_mem (List.mem_append_left _ (List.mem_of_getElem? (i := 4) (by decide +kernel))) rfl
theorem ws_Se_weightOf : Cond.selects R_Se y_Se_weightOf y_Se_weightOf ∈ ds_T := ds_mem (List.mem_append_left _ (List.mem_of_getElem? (i := 5) (by decide +kernel))) rfl
theorem ws_Day_mayHave : Cond.selects R_Day y_Day_mayHave y_Day_mayHave ∈ ds_T := ds_mem (List.mem_append_left _ (List.mem_of_getElem? (i := 6) (by decide +kernel))) rfl
theorem ws_Day_canDo : Cond.selects R_Day y_Day_canDo y_Day_canDo ∈ ds_T := ds_mem (List.mem_append_left _ (List.mem_of_getElem? (i := 7) (by decide +kernel))) rfl
theorem ws_Day_timeOf : Cond.selects R_Day y_Day_timeOf y_Day_timeOf ∈ ds_T := ds_mem (List.mem_append_left _ (List.mem_of_getElem? (i := 8) (by decide +kernel))) rfl
theorem ws_Day_addRound : Cond.selects R_Day y_Day_addRound y_Day_addRound ∈ ds_T := ds_mem (List.mem_append_left _ (List.mem_of_getElem? (i := 9) (by decide +kernel))) rfl
theorem ws_Day_overHours : Cond.selects R_Day y_Day_overHours y_Day_overHours ∈ ds_T := ds_mem (List.mem_append_left _ (List.mem_of_getElem? (i := 10) (by decide +kernel))) rfl
theorem ws_Se_join : Cond.selects R_Se y_Se_join y_Se_join ∈ ds_T := ds_mem (List.mem_append_left _ (List.mem_of_getElem? (i := 11) (by decide +kernel))) rfl
theorem ws_DS_whyNoPlan : Cond.selects R_DS y_DS_whyNoPlan y_DS_whyNoPlan ∈ ds_T := ds_mem (List.mem_append_left _ (List.mem_of_getElem? (i := 12) (by decide +kernel))) rfl
theorem ws_Sh_putLatest : Cond.selects R_Sh y_Sh_putLatest y_Sh_putLatest ∈ ds_T := ds_mem (List.mem_append_left _ (List.mem_of_getElem? (i := 13) (by decide +kernel))) rfl
theorem ws_DS_movedSet : Cond.selects R_DS y_DS_movedSet y_DS_movedSet ∈ ds_T := ds_mem (List.mem_append_left _ (List.mem_of_getElem? (i := 14) (by decide +kernel))) rfl
theorem ws_DS_setOf : Cond.selects R_DS y_DS_setOf y_DS_setOf ∈ ds_T := ds_mem (List.mem_append_left _ (List.mem_of_getElem? (i := 15) (by decide +kernel))) rfl
theorem ws_Day_placeInRound : Cond.selects R_Day y_Day_placeInRound y_Day_placeInRound ∈ ds_T := ds_mem (List.mem_append_left _ (List.mem_of_getElem? (i := 16) (by decide +kernel))) rfl
theorem ws_Day_prepareRow : Cond.selects R_Day y_Day_prepareRow y_Day_prepareRow ∈ ds_T := ds_mem (List.mem_append_left _ (List.mem_of_getElem? (i := 17) (by decide +kernel))) rfl
theorem ws_Day_turn : Cond.selects R_Day y_Day_turn y_Day_turn ∈ ds_T := ds_mem (List.mem_append_left _ (List.mem_of_getElem? (i := 18) (by decide +kernel))) rfl
theorem ws_Mo_isVehicle : Cond.selects R_Mo y_Mo_isVehicle y_Mo_isVehicle ∈ ds_T := ds_mem (List.mem_append_left _ (List.mem_of_getElem? (i := 19) (by decide +kernel))) rfl
theorem ws_Mo_isStop : Cond.selects R_Mo y_Mo_isStop y_Mo_isStop ∈ ds_T := ds_mem (List.mem_append_left _ (List.mem_of_getElem? (i := 20) (by decide +kernel))) rfl
theorem ws_Mo_costOf : Cond.selects R_Mo y_Mo_costOf y_Mo_costOf ∈ ds_T := ds_mem (List.mem_append_left _ (List.mem_of_getElem? (i := 21) (by decide +kernel))) rfl
theorem ws_Mo_timeOf : Cond.selects R_Mo y_Mo_timeOf y_Mo_timeOf ∈ ds_T := ds_mem (List.mem_append_left _ (List.mem_of_getElem? (i := 22) (by decide +kernel))) rfl
theorem ws_Mo_go : Cond.selects R_Mo y_Mo_go y_Mo_go ∈ ds_T := ds_mem (List.mem_append_left _ (List.mem_of_getElem? (i := 23) (by decide +kernel))) rfl
theorem ws_Mo_overtimeOf : Cond.selects R_Mo y_Mo_overtimeOf y_Mo_overtimeOf ∈ ds_T := ds_mem (List.mem_append_left _ (List.mem_of_getElem? (i := 24) (by decide +kernel))) rfl
theorem ws_Mo_movedBy : Cond.selects R_Mo y_Mo_movedBy y_Mo_movedBy ∈ ds_T := ds_mem (List.mem_append_left _ (List.mem_of_getElem? (i := 25) (by decide +kernel))) rfl
theorem ws_Mo_holdsApart : Cond.selects R_Mo y_Mo_holdsApart y_Mo_holdsApart ∈ ds_T := ds_mem (List.mem_append_left _ (List.mem_of_getElem? (i := 26) (by decide +kernel))) rfl
theorem ws_Mo_can : Cond.selects R_Mo y_Mo_can y_Mo_can ∈ ds_T := ds_mem (List.mem_append_left _ (List.mem_of_getElem? (i := 27) (by decide +kernel))) rfl
theorem ws_Mo_holdsOvertime : Cond.selects R_Mo y_Mo_holdsOvertime y_Mo_holdsOvertime ∈ ds_T := ds_mem (List.mem_append_left _ (List.mem_of_getElem? (i := 28) (by decide +kernel))) rfl
theorem ws_Mo_turn : Cond.selects R_Mo y_Mo_turn y_Mo_turn ∈ ds_T := ds_mem (List.mem_append_left _ (List.mem_of_getElem? (i := 29) (by decide +kernel))) rfl
theorem ws_Mo_why : Cond.selects R_Mo y_Mo_why y_Mo_why ∈ ds_T := ds_mem (List.mem_append_left _ (List.mem_of_getElem? (i := 30) (by decide +kernel))) rfl
theorem ws_Mo_keep : Cond.selects R_Mo y_Mo_keep y_Mo_keep ∈ ds_T := ds_mem (List.mem_append_left _ (List.mem_of_getElem? (i := 31) (by decide +kernel))) rfl
end
