section
/-- a private method of a class that the tables say can be made, by its rows of tables_1 -/
def lw_okq (q : MethodName × Nat) : Prop := (q.1.cls ≠ "java/lang/invoke/MethodHandle" ∧ q.1.cls ≠ "java/lang/invoke/VarHandle") ∧ Cond.instantiable q.1.cls q.2 ∈ tables_1 ∧ Cond.privateMethod q.1 ∈ tables_1 ∧ Cond.instanceMethod q.1 ∈ tables_1
theorem lw_p0 : lw_okq (⟨"DaySwaps$Day", "isVehicle", "(I)Z"⟩, 17) := ⟨⟨by decide +kernel, by decide +kernel⟩, List.mem_of_getElem? (i := 19) (by decide +kernel), List.mem_of_getElem? (i := 162) (by decide +kernel), List.mem_of_getElem? (i := 163) (by decide +kernel)⟩
theorem lw_p1 : lw_okq (⟨"DaySwaps$Day", "tell", "(III)I"⟩, 17) := ⟨⟨by decide +kernel, by decide +kernel⟩, List.mem_of_getElem? (i := 19) (by decide +kernel), List.mem_of_getElem? (i := 170) (by decide +kernel), List.mem_of_getElem? (i := 171) (by decide +kernel)⟩
theorem lw_p2 : lw_okq (⟨"DaySwaps$Day", "append", "(II)V"⟩, 17) := ⟨⟨by decide +kernel, by decide +kernel⟩, List.mem_of_getElem? (i := 19) (by decide +kernel), List.mem_of_getElem? (i := 174) (by decide +kernel), List.mem_of_getElem? (i := 175) (by decide +kernel)⟩
theorem lw_p3 : lw_okq (⟨"DaySwaps$Day", "isStop", "(I)Z"⟩, 17) := ⟨⟨by decide +kernel, by decide +kernel⟩, List.mem_of_getElem? (i := 19) (by decide +kernel), List.mem_of_getElem? (i := 182) (by decide +kernel), List.mem_of_getElem? (i := 183) (by decide +kernel)⟩
theorem lw_p4 : lw_okq (⟨"DaySwaps$Search", "least", "()J"⟩, 3) := ⟨⟨by decide +kernel, by decide +kernel⟩, List.mem_of_getElem? (i := 99) (by decide +kernel), List.mem_of_getElem? (i := 211) (by decide +kernel), List.mem_of_getElem? (i := 212) (by decide +kernel)⟩
theorem lw_p5 : lw_okq (⟨"DaySwaps$Search", "weightOf", "(II)J"⟩, 3) := ⟨⟨by decide +kernel, by decide +kernel⟩, List.mem_of_getElem? (i := 99) (by decide +kernel), List.mem_of_getElem? (i := 215) (by decide +kernel), List.mem_of_getElem? (i := 216) (by decide +kernel)⟩
theorem lw_p6 : lw_okq (⟨"DaySwaps$Day", "mayHave", "(II)Z"⟩, 17) := ⟨⟨by decide +kernel, by decide +kernel⟩, List.mem_of_getElem? (i := 19) (by decide +kernel), List.mem_of_getElem? (i := 222) (by decide +kernel), List.mem_of_getElem? (i := 223) (by decide +kernel)⟩
theorem lw_p7 : lw_okq (⟨"DaySwaps$Day", "canDo", "(II)Z"⟩, 17) := ⟨⟨by decide +kernel, by decide +kernel⟩, List.mem_of_getElem? (i := 19) (by decide +kernel), List.mem_of_getElem? (i := 226) (by decide +kernel), List.mem_of_getElem? (i := 227) (by decide +kernel)⟩
theorem lw_p8 : lw_okq (⟨"DaySwaps$Day", "timeOf", "(II)I"⟩, 17) := ⟨⟨by decide +kernel, by decide +kernel⟩, List.mem_of_getElem? (i := 19) (by decide +kernel), List.mem_of_getElem? (i := 235) (by decide +kernel), List.mem_of_getElem? (i := 236) (by decide +kernel)⟩
theorem lw_p9 : lw_okq (⟨"DaySwaps$Day", "addRound", "(II[II)I"⟩, 17) := ⟨⟨by decide +kernel, by decide +kernel⟩, List.mem_of_getElem? (i := 19) (by decide +kernel), List.mem_of_getElem? (i := 239) (by decide +kernel), List.mem_of_getElem? (i := 240) (by decide +kernel)⟩
theorem lw_p10 : lw_okq (⟨"DaySwaps$Day", "overHours", "(II)I"⟩, 17) := ⟨⟨by decide +kernel, by decide +kernel⟩, List.mem_of_getElem? (i := 19) (by decide +kernel), List.mem_of_getElem? (i := 244) (by decide +kernel), List.mem_of_getElem? (i := 245) (by decide +kernel)⟩
theorem lw_p11 : lw_okq (⟨"DaySwaps$Search", "join", "(I)V"⟩, 3) := ⟨⟨by decide +kernel, by decide +kernel⟩, List.mem_of_getElem? (i := 99) (by decide +kernel), List.mem_of_getElem? (i := 251) (by decide +kernel), List.mem_of_getElem? (i := 252) (by decide +kernel)⟩
theorem lw_p12 : lw_okq (⟨"DaySwaps", "whyNoPlan", "()I"⟩, 7) := ⟨⟨by decide +kernel, by decide +kernel⟩, List.mem_of_getElem? (i := 11) (by decide +kernel), List.mem_of_getElem? (i := 259) (by decide +kernel), List.mem_of_getElem? (i := 260) (by decide +kernel)⟩
theorem lw_p13 : lw_okq (⟨"DaySwaps$Shelf", "putLatest", "([II)V"⟩, 3) := ⟨⟨by decide +kernel, by decide +kernel⟩, List.mem_of_getElem? (i := 116) (by decide +kernel), List.mem_of_getElem? (i := 264) (by decide +kernel), List.mem_of_getElem? (i := 265) (by decide +kernel)⟩
theorem lw_p14 : lw_okq (⟨"DaySwaps", "movedSet", "()I"⟩, 7) := ⟨⟨by decide +kernel, by decide +kernel⟩, List.mem_of_getElem? (i := 11) (by decide +kernel), List.mem_of_getElem? (i := 274) (by decide +kernel), List.mem_of_getElem? (i := 275) (by decide +kernel)⟩
theorem lw_p15 : lw_okq (⟨"DaySwaps", "setOf", "(I)I"⟩, 7) := ⟨⟨by decide +kernel, by decide +kernel⟩, List.mem_of_getElem? (i := 11) (by decide +kernel), List.mem_of_getElem? (i := 292) (by decide +kernel), List.mem_of_getElem? (i := 293) (by decide +kernel)⟩
def lw_privs_1 : List (MethodName × Nat) := [(⟨"DaySwaps$Day", "isVehicle", "(I)Z"⟩, 17), (⟨"DaySwaps$Day", "tell", "(III)I"⟩, 17), (⟨"DaySwaps$Day", "append", "(II)V"⟩, 17), (⟨"DaySwaps$Day", "isStop", "(I)Z"⟩, 17), (⟨"DaySwaps$Search", "least", "()J"⟩, 3), (⟨"DaySwaps$Search", "weightOf", "(II)J"⟩, 3), (⟨"DaySwaps$Day", "mayHave", "(II)Z"⟩, 17), (⟨"DaySwaps$Day", "canDo", "(II)Z"⟩, 17), (⟨"DaySwaps$Day", "timeOf", "(II)I"⟩, 17), (⟨"DaySwaps$Day", "addRound", "(II[II)I"⟩, 17), (⟨"DaySwaps$Day", "overHours", "(II)I"⟩, 17), (⟨"DaySwaps$Search", "join", "(I)V"⟩, 3), (⟨"DaySwaps", "whyNoPlan", "()I"⟩, 7), (⟨"DaySwaps$Shelf", "putLatest", "([II)V"⟩, 3), (⟨"DaySwaps", "movedSet", "()I"⟩, 7), (⟨"DaySwaps", "setOf", "(I)I"⟩, 7)]
theorem lw_r1 : ∀ q ∈ lw_privs_1, lw_okq q := List.forall_mem_cons.mpr ⟨lw_p0, List.forall_mem_cons.mpr ⟨lw_p1, List.forall_mem_cons.mpr ⟨lw_p2, List.forall_mem_cons.mpr ⟨lw_p3, List.forall_mem_cons.mpr ⟨lw_p4, List.forall_mem_cons.mpr ⟨lw_p5, List.forall_mem_cons.mpr ⟨lw_p6, List.forall_mem_cons.mpr ⟨lw_p7, List.forall_mem_cons.mpr ⟨lw_p8, List.forall_mem_cons.mpr ⟨lw_p9, List.forall_mem_cons.mpr ⟨lw_p10, List.forall_mem_cons.mpr ⟨lw_p11, List.forall_mem_cons.mpr ⟨lw_p12, List.forall_mem_cons.mpr ⟨lw_p13, List.forall_mem_cons.mpr ⟨lw_p14, List.forall_mem_cons.mpr ⟨lw_p15, fun _ h => absurd h List.not_mem_nil⟩⟩⟩⟩⟩⟩⟩⟩⟩⟩⟩⟩⟩⟩⟩⟩
theorem lw_p16 : lw_okq (⟨"DaySwaps$Day", "placeInRound", "(III)I"⟩, 17) := ⟨⟨by decide +kernel, by decide +kernel⟩, List.mem_of_getElem? (i := 19) (by decide +kernel), List.mem_of_getElem? (i := 296) (by decide +kernel), List.mem_of_getElem? (i := 297) (by decide +kernel)⟩
theorem lw_p17 : lw_okq (⟨"DaySwaps$Day", "prepareRow", "(III)V"⟩, 17) := ⟨⟨by decide +kernel, by decide +kernel⟩, List.mem_of_getElem? (i := 19) (by decide +kernel), List.mem_of_getElem? (i := 346) (by decide +kernel), List.mem_of_getElem? (i := 347) (by decide +kernel)⟩
theorem lw_p18 : lw_okq (⟨"DaySwaps$Day", "turn", "()V"⟩, 17) := ⟨⟨by decide +kernel, by decide +kernel⟩, List.mem_of_getElem? (i := 19) (by decide +kernel), List.mem_of_getElem? (i := 350) (by decide +kernel), List.mem_of_getElem? (i := 351) (by decide +kernel)⟩
theorem lw_p19 : lw_okq (⟨"DaySwapsModel", "isVehicle", "(I)Z"⟩, 28) := ⟨⟨by decide +kernel, by decide +kernel⟩, List.mem_of_getElem? (i := 357) (by decide +kernel), List.mem_of_getElem? (i := 452) (by decide +kernel), List.mem_of_getElem? (i := 453) (by decide +kernel)⟩
theorem lw_p20 : lw_okq (⟨"DaySwapsModel", "isStop", "(I)Z"⟩, 28) := ⟨⟨by decide +kernel, by decide +kernel⟩, List.mem_of_getElem? (i := 357) (by decide +kernel), List.mem_of_getElem? (i := 465) (by decide +kernel), List.mem_of_getElem? (i := 466) (by decide +kernel)⟩
theorem lw_p21 : lw_okq (⟨"DaySwapsModel", "costOf", "([I)J"⟩, 28) := ⟨⟨by decide +kernel, by decide +kernel⟩, List.mem_of_getElem? (i := 357) (by decide +kernel), List.mem_of_getElem? (i := 495) (by decide +kernel), List.mem_of_getElem? (i := 496) (by decide +kernel)⟩
theorem lw_p22 : lw_okq (⟨"DaySwapsModel", "timeOf", "([II)I"⟩, 28) := ⟨⟨by decide +kernel, by decide +kernel⟩, List.mem_of_getElem? (i := 357) (by decide +kernel), List.mem_of_getElem? (i := 499) (by decide +kernel), List.mem_of_getElem? (i := 500) (by decide +kernel)⟩
theorem lw_p23 : lw_okq (⟨"DaySwapsModel", "go", "([II)V"⟩, 28) := ⟨⟨by decide +kernel, by decide +kernel⟩, List.mem_of_getElem? (i := 357) (by decide +kernel), List.mem_of_getElem? (i := 503) (by decide +kernel), List.mem_of_getElem? (i := 504) (by decide +kernel)⟩
theorem lw_p24 : lw_okq (⟨"DaySwapsModel", "overtimeOf", "([II)I"⟩, 28) := ⟨⟨by decide +kernel, by decide +kernel⟩, List.mem_of_getElem? (i := 357) (by decide +kernel), List.mem_of_getElem? (i := 507) (by decide +kernel), List.mem_of_getElem? (i := 508) (by decide +kernel)⟩
theorem lw_p25 : lw_okq (⟨"DaySwapsModel", "movedBy", "([I)I"⟩, 28) := ⟨⟨by decide +kernel, by decide +kernel⟩, List.mem_of_getElem? (i := 357) (by decide +kernel), List.mem_of_getElem? (i := 519) (by decide +kernel), List.mem_of_getElem? (i := 520) (by decide +kernel)⟩
theorem lw_p26 : lw_okq (⟨"DaySwapsModel", "holdsApart", "()Z"⟩, 28) := ⟨⟨by decide +kernel, by decide +kernel⟩, List.mem_of_getElem? (i := 357) (by decide +kernel), List.mem_of_getElem? (i := 523) (by decide +kernel), List.mem_of_getElem? (i := 524) (by decide +kernel)⟩
theorem lw_p27 : lw_okq (⟨"DaySwapsModel", "can", "(II)Z"⟩, 28) := ⟨⟨by decide +kernel, by decide +kernel⟩, List.mem_of_getElem? (i := 357) (by decide +kernel), List.mem_of_getElem? (i := 527) (by decide +kernel), List.mem_of_getElem? (i := 528) (by decide +kernel)⟩
theorem lw_p28 : lw_okq (⟨"DaySwapsModel", "holdsOvertime", "()Z"⟩, 28) := ⟨⟨by decide +kernel, by decide +kernel⟩, List.mem_of_getElem? (i := 357) (by decide +kernel), List.mem_of_getElem? (i := 531) (by decide +kernel), List.mem_of_getElem? (i := 532) (by decide +kernel)⟩
theorem lw_p29 : lw_okq (⟨"DaySwapsModel", "turn", "()Z"⟩, 28) := ⟨⟨by decide +kernel, by decide +kernel⟩, List.mem_of_getElem? (i := 357) (by decide +kernel), List.mem_of_getElem? (i := 535) (by decide +kernel), List.mem_of_getElem? (i := 536) (by decide +kernel)⟩
theorem lw_p30 : lw_okq (⟨"DaySwapsModel", "why", "()I"⟩, 28) := ⟨⟨by decide +kernel, by decide +kernel⟩, List.mem_of_getElem? (i := 357) (by decide +kernel), List.mem_of_getElem? (i := 539) (by decide +kernel), List.mem_of_getElem? (i := 540) (by decide +kernel)⟩
theorem lw_p31 : lw_okq (⟨"DaySwapsModel", "keep", "()V"⟩, 28) := ⟨⟨by decide +kernel, by decide +kernel⟩, List.mem_of_getElem? (i := 357) (by decide +kernel), List.mem_of_getElem? (i := 543) (by decide +kernel), List.mem_of_getElem? (i := 544) (by decide +kernel)⟩
def lw_privs_2 : List (MethodName × Nat) := [(⟨"DaySwaps$Day", "placeInRound", "(III)I"⟩, 17), (⟨"DaySwaps$Day", "prepareRow", "(III)V"⟩, 17), (⟨"DaySwaps$Day", "turn", "()V"⟩, 17), (⟨"DaySwapsModel", "isVehicle", "(I)Z"⟩, 28), (⟨"DaySwapsModel", "isStop", "(I)Z"⟩, 28), (⟨"DaySwapsModel", "costOf", "([I)J"⟩, 28), (⟨"DaySwapsModel", "timeOf", "([II)I"⟩, 28), (⟨"DaySwapsModel", "go", "([II)V"⟩, 28), (⟨"DaySwapsModel", "overtimeOf", "([II)I"⟩, 28), (⟨"DaySwapsModel", "movedBy", "([I)I"⟩, 28), (⟨"DaySwapsModel", "holdsApart", "()Z"⟩, 28), (⟨"DaySwapsModel", "can", "(II)Z"⟩, 28), (⟨"DaySwapsModel", "holdsOvertime", "()Z"⟩, 28), (⟨"DaySwapsModel", "turn", "()Z"⟩, 28), (⟨"DaySwapsModel", "why", "()I"⟩, 28), (⟨"DaySwapsModel", "keep", "()V"⟩, 28)]
theorem lw_r2 : ∀ q ∈ lw_privs_2, lw_okq q := List.forall_mem_cons.mpr ⟨lw_p16, List.forall_mem_cons.mpr ⟨lw_p17, List.forall_mem_cons.mpr ⟨lw_p18, List.forall_mem_cons.mpr ⟨lw_p19, List.forall_mem_cons.mpr ⟨lw_p20, List.forall_mem_cons.mpr ⟨lw_p21, List.forall_mem_cons.mpr ⟨lw_p22, List.forall_mem_cons.mpr ⟨lw_p23, List.forall_mem_cons.mpr ⟨lw_p24, List.forall_mem_cons.mpr ⟨lw_p25, List.forall_mem_cons.mpr ⟨lw_p26, List.forall_mem_cons.mpr ⟨lw_p27, List.forall_mem_cons.mpr ⟨lw_p28, List.forall_mem_cons.mpr ⟨lw_p29, List.forall_mem_cons.mpr ⟨lw_p30, List.forall_mem_cons.mpr ⟨lw_p31, fun _ h => absurd h List.not_mem_nil⟩⟩⟩⟩⟩⟩⟩⟩⟩⟩⟩⟩⟩⟩⟩⟩
def lw_privs : List (MethodName × Nat) := lw_privs_1 ++ (lw_privs_2)
def lw_tbl : List Cond := k2_sels lw_privs ++ tables_1
theorem lw_privs_ok : ∀ q ∈ lw_privs, lw_okq q := by
  show ∀ q ∈ lw_privs_1 ++ (lw_privs_2), lw_okq q
  exact List.forall_mem_append.mpr ⟨lw_r1, lw_r2⟩
end
section
/-! numbers: rows over nI and lN -/
theorem dn_and (a b : Nat) : nI a &&& nI b = nI (a &&& b) := by
  apply Int32.toBitVec_inj.1
  show BitVec.ofNat 32 a &&& BitVec.ofNat 32 b = BitVec.ofNat 32 (a &&& b)
  apply BitVec.eq_of_getLsbD_eq
  intro i hi
  simp [hi]
theorem dn_or (a b : Nat) : nI a ||| nI b = nI (a ||| b) := by
  apply Int32.toBitVec_inj.1
  show BitVec.ofNat 32 a ||| BitVec.ofNat 32 b = BitVec.ofNat 32 (a ||| b)
  apply BitVec.eq_of_getLsbD_eq
  intro i hi
  simp [hi]
theorem dn_xor (a b : Nat) : nI a ^^^ nI b = nI (a ^^^ b) := by
  apply Int32.toBitVec_inj.1
  show BitVec.ofNat 32 a ^^^ BitVec.ofNat 32 b = BitVec.ofNat 32 (a ^^^ b)
  apply BitVec.eq_of_getLsbD_eq
  intro i hi
  simp [hi]
theorem dn_amt : ∀ n, n < 32 → ((nI n &&& 31).toBitVec.smod 32).toNat = n := by decide +kernel
theorem dn_amtL : ∀ n, n < 64 → ((((nI n).toInt64 &&& 63) : Int64).toBitVec.smod 64).toNat = n := by decide +kernel
theorem dn_amtB : ∀ n, n < 64 → (((nI n).toInt64 &&& 63) : Int64).toBitVec.smod 64 = BitVec.ofNat 64 n := by decide +kernel
theorem dn_shl {n k : Nat} (hk : k < 32) (h : n * 2 ^ k < 2 ^ 32) : nI n <<< (nI k &&& 31) = nI (n * 2 ^ k) := pk_shlN _ k (dn_amt k hk) h
theorem dn_shr {n k : Nat} (hk : k < 32) (h : n < 2 ^ 31) : nI n >>> (nI k &&& 31) = nI (n / 2 ^ k) := pk_shrN h _ k (dn_amt k hk)
theorem dn_lbv (n : Nat) : (lN n).toBitVec = BitVec.ofNat 64 n := rfl
theorem dn_linj {a b : Int64} (h : a.toBitVec = b.toBitVec) : a = b := Int64.toBitVec_inj.mp h
theorem dn_lshl (n : Nat) {k : Nat} (hk : k < 64) : lN n <<< ((nI k).toInt64 &&& 63) = lN (n * 2 ^ k) := by
  apply dn_linj
  rw [Int64.toBitVec_shiftLeft]
  show (lN n).toBitVec <<< (((nI k).toInt64 &&& 63).toBitVec.smod 64) = (lN (n * 2 ^ k)).toBitVec
  rw [dn_amtB k hk, dn_lbv, dn_lbv, BitVec.shiftLeft_eq']
  apply BitVec.eq_of_toNat_eq
  rw [BitVec.toNat_shiftLeft, BitVec.toNat_ofNat, BitVec.toNat_ofNat, BitVec.toNat_ofNat, Nat.shiftLeft_eq, Nat.mod_eq_of_lt (show k < 2 ^ 64 by omega)]
  simp [Nat.mod_mul_mod]
theorem dn_lI {a : Nat} (h : a < 2 ^ 63) : (lN a).toInt = (a : Int) := pk_lT h
theorem dn_lshr {a k : Nat} (hk : k < 64) (h : a < 2 ^ 63) : lN a >>> ((nI k).toInt64 &&& 63) = lN (a / 2 ^ k) := by
  apply Int64.toInt_inj.mp
  rw [dn_lI (Nat.lt_of_le_of_lt (Nat.div_le_self _ _) h)]
  show ((lN a) >>> ((nI k).toInt64 &&& 63)).toBitVec.toInt = _
  rw [Int64.toBitVec_shiftRight]
  show ((lN a).toBitVec.sshiftRight (((nI k).toInt64 &&& 63).toBitVec.smod 64).toNat).toInt = _
  rw [dn_amtL k hk, BitVec.toInt_sshiftRight]
  show (lN a).toInt >>> k = _
  rw [dn_lI h]
  simp [Int.shiftRight_eq_div_pow]
def dn_b (P : Prop) [Decidable P] : Nat := if P then 1 else 0
theorem dn_b1 {P : Prop} [Decidable P] (h : P) : dn_b P = 1 := if_pos h
theorem dn_b0 {P : Prop} [Decidable P] (h : ¬ P) : dn_b P = 0 := if_neg h
theorem dn_ble {P : Prop} [Decidable P] : dn_b P ≤ 1 := by unfold dn_b; split <;> omega
theorem dn_bz {P : Prop} [Decidable P] : nI (dn_b P) = 0 ↔ ¬ P := by
  by_cases h : P
  · rw [dn_b1 h]; exact ⟨fun q => absurd q (by decide), fun q => absurd h q⟩
  · rw [dn_b0 h]; exact ⟨fun _ => h, fun _ => rfl⟩
theorem dn_nar {P : Prop} [Decidable P] : narrow .boolean (.int (nI (dn_b P))) = .int (nI (dn_b P)) := by
  by_cases h : P
  · rw [dn_b1 h]; rfl
  · rw [dn_b0 h]; rfl
section
variable {p : Program} {l : Launch} {e : Env} {R : Room} {s : State} {m : MethodId} {args : Array Value} {below : List Frame} {meth : Method} {c : Code} {H : Heap} {locs : List Loc} {cells slots : Nat} {Q : State → Prop} {cc : ByteArray} {pc : Nat} {ls : Array Slot} {rest : List Value}
theorem dn_iadd (hx : p.tables.exec = Jvm.exec) (hb : c.code = cc) {x y : Nat} (hdg : decode cc pc = .ok (.iadd, 1)) (k : W p l e R s m args below meth c H locs cells slots Q (F0 m (pc + 1) ls (.int (nI (x + y)) :: rest))) : W p l e R s m args below meth c H locs cells slots Q (F0 m pc ls (.int (nI y) :: .int (nI x) :: rest)) := lv_iadd hx hb hdg (by rw [nI_add]; exact k)
theorem dn_isub (hx : p.tables.exec = Jvm.exec) (hb : c.code = cc) {x y : Nat} (h : y ≤ x) (hdg : decode cc pc = .ok (.isub, 1)) (k : W p l e R s m args below meth c H locs cells slots Q (F0 m (pc + 1) ls (.int (nI (x - y)) :: rest))) : W p l e R s m args below meth c H locs cells slots Q (F0 m pc ls (.int (nI y) :: .int (nI x) :: rest)) := lv_isub hx hb hdg (by rw [pk_sub h]; exact k)
theorem dn_imul (hx : p.tables.exec = Jvm.exec) (hb : c.code = cc) {x y : Nat} (hdg : decode cc pc = .ok (.imul, 1)) (k : W p l e R s m args below meth c H locs cells slots Q (F0 m (pc + 1) ls (.int (nI (x * y)) :: rest))) : W p l e R s m args below meth c H locs cells slots Q (F0 m pc ls (.int (nI y) :: .int (nI x) :: rest)) := lv_imul hx hb hdg (by rw [pk_mul]; exact k)
theorem dn_iand (hx : p.tables.exec = Jvm.exec) (hb : c.code = cc) {x y : Nat} (hdg : decode cc pc = .ok (.iand, 1)) (k : W p l e R s m args below meth c H locs cells slots Q (F0 m (pc + 1) ls (.int (nI (x &&& y)) :: rest))) : W p l e R s m args below meth c H locs cells slots Q (F0 m pc ls (.int (nI y) :: .int (nI x) :: rest)) := lv_iand hx hb hdg (by rw [dn_and]; exact k)
theorem dn_ior (hx : p.tables.exec = Jvm.exec) (hb : c.code = cc) {x y : Nat} (hdg : decode cc pc = .ok (.ior, 1)) (k : W p l e R s m args below meth c H locs cells slots Q (F0 m (pc + 1) ls (.int (nI (x ||| y)) :: rest))) : W p l e R s m args below meth c H locs cells slots Q (F0 m pc ls (.int (nI y) :: .int (nI x) :: rest)) := lv_ior hx hb hdg (by rw [dn_or]; exact k)
theorem dn_ixor (hx : p.tables.exec = Jvm.exec) (hb : c.code = cc) {x y : Nat} (hdg : decode cc pc = .ok (.ixor, 1)) (k : W p l e R s m args below meth c H locs cells slots Q (F0 m (pc + 1) ls (.int (nI (x ^^^ y)) :: rest))) : W p l e R s m args below meth c H locs cells slots Q (F0 m pc ls (.int (nI y) :: .int (nI x) :: rest)) := lv_ixor hx hb hdg (by rw [dn_xor]; exact k)
theorem dn_ishl (hx : p.tables.exec = Jvm.exec) (hb : c.code = cc) {x y : Nat} (h1 : y < 32) (h2 : x * 2 ^ y < 2 ^ 32) (hdg : decode cc pc = .ok (.ishl, 1)) (k : W p l e R s m args below meth c H locs cells slots Q (F0 m (pc + 1) ls (.int (nI (x * 2 ^ y)) :: rest))) : W p l e R s m args below meth c H locs cells slots Q (F0 m pc ls (.int (nI y) :: .int (nI x) :: rest)) := lv_ishl hx hb hdg (by rw [dn_shl h1 h2]; exact k)
theorem dn_ishr (hx : p.tables.exec = Jvm.exec) (hb : c.code = cc) {x y : Nat} (h1 : y < 32) (h2 : x < 2 ^ 31) (hdg : decode cc pc = .ok (.ishr, 1)) (k : W p l e R s m args below meth c H locs cells slots Q (F0 m (pc + 1) ls (.int (nI (x / 2 ^ y)) :: rest))) : W p l e R s m args below meth c H locs cells slots Q (F0 m pc ls (.int (nI y) :: .int (nI x) :: rest)) := lv_ishr hx hb hdg (by rw [dn_shr h1 h2]; exact k)
theorem dn_ladd (hx : p.tables.exec = Jvm.exec) (hb : c.code = cc) {x y : Nat} (hdg : decode cc pc = .ok (.ladd, 1)) (k : W p l e R s m args below meth c H locs cells slots Q (F0 m (pc + 1) ls (.long (lN (x + y)) :: rest))) : W p l e R s m args below meth c H locs cells slots Q (F0 m pc ls (.long (lN y) :: .long (lN x) :: rest)) := lv_ladd hx hb hdg (by rw [lN_add]; exact k)
theorem dn_i2l (hx : p.tables.exec = Jvm.exec) (hb : c.code = cc) {x : Nat} (h : x < 2 ^ 31) (hdg : decode cc pc = .ok (.i2l, 1)) (k : W p l e R s m args below meth c H locs cells slots Q (F0 m (pc + 1) ls (.long (lN x) :: rest))) : W p l e R s m args below meth c H locs cells slots Q (F0 m pc ls (.int (nI x) :: rest)) := lv_i2l hx hb hdg (nI_l h) k
theorem dn_l2i (hx : p.tables.exec = Jvm.exec) (hb : c.code = cc) {x : Nat} (hdg : decode cc pc = .ok (.l2i, 1)) (k : W p l e R s m args below meth c H locs cells slots Q (F0 m (pc + 1) ls (.int (nI x) :: rest))) : W p l e R s m args below meth c H locs cells slots Q (F0 m pc ls (.long (lN x) :: rest)) := lv_l2i hx hb hdg (lN_i x) k
theorem dn_lshlR (hx : p.tables.exec = Jvm.exec) (hb : c.code = cc) {x y : Nat} (h1 : y < 64) (hdg : decode cc pc = .ok (.lshl, 1)) (k : W p l e R s m args below meth c H locs cells slots Q (F0 m (pc + 1) ls (.long (lN (x * 2 ^ y)) :: rest))) : W p l e R s m args below meth c H locs cells slots Q (F0 m pc ls (.int (nI y) :: .long (lN x) :: rest)) := lv_lshl hx hb hdg (dn_lshl x h1) k
theorem dn_lshrR (hx : p.tables.exec = Jvm.exec) (hb : c.code = cc) {x y : Nat} (h1 : y < 64) (h2 : x < 2 ^ 63) (hdg : decode cc pc = .ok (.lshr, 1)) (k : W p l e R s m args below meth c H locs cells slots Q (F0 m (pc + 1) ls (.long (lN (x / 2 ^ y)) :: rest))) : W p l e R s m args below meth c H locs cells slots Q (F0 m pc ls (.int (nI y) :: .long (lN x) :: rest)) := lv_lshr hx hb hdg (dn_lshr h1 h2) k
theorem dn_icmp_eq (hx : p.tables.exec = Jvm.exec) (hb : c.code = cc) {x y : Nat} {off : Int} (tgt : Nat) (h1 : x < 2 ^ 31) (h2 : y < 2 ^ 31) (hdg : decode cc pc = .ok (.if_icmp .eq off, 3)) (ht : (pc : Int) + off = (tgt : Int)) (kt : x = y → W p l e R s m args below meth c H locs cells slots Q (F0 m tgt ls rest)) (kf : x ≠ y → W p l e R s m args below meth c H locs cells slots Q (F0 m (pc + 3) ls rest)) : W p l e R s m args below meth c H locs cells slots Q (F0 m pc ls (.int (nI y) :: .int (nI x) :: rest)) := lv_icmp_eq hx hb hdg ht (fun h => kt ((nI_eq h1 h2).mp h)) (fun h => kf (fun q => h ((nI_eq h1 h2).mpr q)))
theorem dn_icmp_ne (hx : p.tables.exec = Jvm.exec) (hb : c.code = cc) {x y : Nat} {off : Int} (tgt : Nat) (h1 : x < 2 ^ 31) (h2 : y < 2 ^ 31) (hdg : decode cc pc = .ok (.if_icmp .ne off, 3)) (ht : (pc : Int) + off = (tgt : Int)) (kt : x ≠ y → W p l e R s m args below meth c H locs cells slots Q (F0 m tgt ls rest)) (kf : x = y → W p l e R s m args below meth c H locs cells slots Q (F0 m (pc + 3) ls rest)) : W p l e R s m args below meth c H locs cells slots Q (F0 m pc ls (.int (nI y) :: .int (nI x) :: rest)) := lv_icmp_ne hx hb hdg ht (fun h => kt (fun q => h ((nI_eq h1 h2).mpr q))) (fun h => kf ((nI_eq h1 h2).mp h))
theorem dn_icmp_lt (hx : p.tables.exec = Jvm.exec) (hb : c.code = cc) {x y : Nat} {off : Int} (tgt : Nat) (h1 : x < 2 ^ 31) (h2 : y < 2 ^ 31) (hdg : decode cc pc = .ok (.if_icmp .lt off, 3)) (ht : (pc : Int) + off = (tgt : Int)) (kt : x < y → W p l e R s m args below meth c H locs cells slots Q (F0 m tgt ls rest)) (kf : y ≤ x → W p l e R s m args below meth c H locs cells slots Q (F0 m (pc + 3) ls rest)) : W p l e R s m args below meth c H locs cells slots Q (F0 m pc ls (.int (nI y) :: .int (nI x) :: rest)) := lv_icmp_lt hx hb hdg ht (fun h => kt ((nI_ltI h1 h2).mp h)) (fun h => kf (Nat.not_lt.mp (fun q => h ((nI_ltI h1 h2).mpr q))))
theorem dn_icmp_ge (hx : p.tables.exec = Jvm.exec) (hb : c.code = cc) {x y : Nat} {off : Int} (tgt : Nat) (h1 : x < 2 ^ 31) (h2 : y < 2 ^ 31) (hdg : decode cc pc = .ok (.if_icmp .ge off, 3)) (ht : (pc : Int) + off = (tgt : Int)) (kt : y ≤ x → W p l e R s m args below meth c H locs cells slots Q (F0 m tgt ls rest)) (kf : x < y → W p l e R s m args below meth c H locs cells slots Q (F0 m (pc + 3) ls rest)) : W p l e R s m args below meth c H locs cells slots Q (F0 m pc ls (.int (nI y) :: .int (nI x) :: rest)) := lv_icmp_ge hx hb hdg ht (fun h => kt ((nI_leI h2 h1).mp h)) (fun h => kf (Nat.not_le.mp (fun q => h ((nI_leI h2 h1).mpr q))))
theorem dn_icmp_gt (hx : p.tables.exec = Jvm.exec) (hb : c.code = cc) {x y : Nat} {off : Int} (tgt : Nat) (h1 : x < 2 ^ 31) (h2 : y < 2 ^ 31) (hdg : decode cc pc = .ok (.if_icmp .gt off, 3)) (ht : (pc : Int) + off = (tgt : Int)) (kt : y < x → W p l e R s m args below meth c H locs cells slots Q (F0 m tgt ls rest)) (kf : x ≤ y → W p l e R s m args below meth c H locs cells slots Q (F0 m (pc + 3) ls rest)) : W p l e R s m args below meth c H locs cells slots Q (F0 m pc ls (.int (nI y) :: .int (nI x) :: rest)) := lv_icmp_gt hx hb hdg ht (fun h => kt ((nI_ltI h2 h1).mp h)) (fun h => kf (Nat.not_lt.mp (fun q => h ((nI_ltI h2 h1).mpr q))))
theorem dn_icmp_le (hx : p.tables.exec = Jvm.exec) (hb : c.code = cc) {x y : Nat} {off : Int} (tgt : Nat) (h1 : x < 2 ^ 31) (h2 : y < 2 ^ 31) (hdg : decode cc pc = .ok (.if_icmp .le off, 3)) (ht : (pc : Int) + off = (tgt : Int)) (kt : x ≤ y → W p l e R s m args below meth c H locs cells slots Q (F0 m tgt ls rest)) (kf : y < x → W p l e R s m args below meth c H locs cells slots Q (F0 m (pc + 3) ls rest)) : W p l e R s m args below meth c H locs cells slots Q (F0 m pc ls (.int (nI y) :: .int (nI x) :: rest)) := lv_icmp_le hx hb hdg ht (fun h => kt ((nI_leI h1 h2).mp h)) (fun h => kf (Nat.not_le.mp (fun q => h ((nI_leI h1 h2).mpr q))))
theorem dn_if_eq (hx : p.tables.exec = Jvm.exec) (hb : c.code = cc) {x : Nat} {off : Int} (tgt : Nat) (h1 : x < 2 ^ 31) (hdg : decode cc pc = .ok (.ifCond .eq off, 3)) (ht : (pc : Int) + off = (tgt : Int)) (kt : x = 0 → W p l e R s m args below meth c H locs cells slots Q (F0 m tgt ls rest)) (kf : x ≠ 0 → W p l e R s m args below meth c H locs cells slots Q (F0 m (pc + 3) ls rest)) : W p l e R s m args below meth c H locs cells slots Q (F0 m pc ls (.int (nI x) :: rest)) := lv_if_eq hx hb hdg ht (fun h => kt ((nI_eq h1 (by omega)).mp (h.trans nI_0.symm))) (fun h => kf (fun q => h (by rw [q]; rfl)))
theorem dn_if_ne (hx : p.tables.exec = Jvm.exec) (hb : c.code = cc) {x : Nat} {off : Int} (tgt : Nat) (h1 : x < 2 ^ 31) (hdg : decode cc pc = .ok (.ifCond .ne off, 3)) (ht : (pc : Int) + off = (tgt : Int)) (kt : x ≠ 0 → W p l e R s m args below meth c H locs cells slots Q (F0 m tgt ls rest)) (kf : x = 0 → W p l e R s m args below meth c H locs cells slots Q (F0 m (pc + 3) ls rest)) : W p l e R s m args below meth c H locs cells slots Q (F0 m pc ls (.int (nI x) :: rest)) := lv_if_ne hx hb hdg ht (fun h => kt (fun q => h (by rw [q]; rfl))) (fun h => kf ((nI_eq h1 (by omega)).mp (h.trans nI_0.symm)))
theorem dn_if_lt (hx : p.tables.exec = Jvm.exec) (hb : c.code = cc) {x : Nat} {off : Int} (tgt : Nat) (h1 : x < 2 ^ 31) (hdg : decode cc pc = .ok (.ifCond .lt off, 3)) (ht : (pc : Int) + off = (tgt : Int)) (kf : W p l e R s m args below meth c H locs cells slots Q (F0 m (pc + 3) ls rest)) : W p l e R s m args below meth c H locs cells slots Q (F0 m pc ls (.int (nI x) :: rest)) := lv_if_lt hx hb hdg ht (fun h => absurd h (nI_pos h1)) (fun _ => kf)
theorem dn_if_ge (hx : p.tables.exec = Jvm.exec) (hb : c.code = cc) {x : Nat} {off : Int} (tgt : Nat) (h1 : x < 2 ^ 31) (hdg : decode cc pc = .ok (.ifCond .ge off, 3)) (ht : (pc : Int) + off = (tgt : Int)) (kt : W p l e R s m args below meth c H locs cells slots Q (F0 m tgt ls rest)) : W p l e R s m args below meth c H locs cells slots Q (F0 m pc ls (.int (nI x) :: rest)) := lv_if_ge hx hb hdg ht (fun _ => kt) (fun h => absurd (nI_pos' h1) h)
theorem dn_if_gt (hx : p.tables.exec = Jvm.exec) (hb : c.code = cc) {x : Nat} {off : Int} (tgt : Nat) (h1 : x < 2 ^ 31) (hdg : decode cc pc = .ok (.ifCond .gt off, 3)) (ht : (pc : Int) + off = (tgt : Int)) (kt : 0 < x → W p l e R s m args below meth c H locs cells slots Q (F0 m tgt ls rest)) (kf : x = 0 → W p l e R s m args below meth c H locs cells slots Q (F0 m (pc + 3) ls rest)) : W p l e R s m args below meth c H locs cells slots Q (F0 m pc ls (.int (nI x) :: rest)) := lv_if_gt hx hb hdg ht (fun h => kt (Nat.pos_of_ne_zero (fun q => by rw [q] at h; exact absurd h (by decide)))) (fun h => kf (Nat.eq_zero_of_not_pos (fun q => h (nI_lt q h1))))
theorem dn_if_le (hx : p.tables.exec = Jvm.exec) (hb : c.code = cc) {x : Nat} {off : Int} (tgt : Nat) (h1 : x < 2 ^ 31) (hdg : decode cc pc = .ok (.ifCond .le off, 3)) (ht : (pc : Int) + off = (tgt : Int)) (kt : x = 0 → W p l e R s m args below meth c H locs cells slots Q (F0 m tgt ls rest)) (kf : 0 < x → W p l e R s m args below meth c H locs cells slots Q (F0 m (pc + 3) ls rest)) : W p l e R s m args below meth c H locs cells slots Q (F0 m pc ls (.int (nI x) :: rest)) := lv_if_le hx hb hdg ht (fun h => kt (Nat.eq_zero_of_not_pos (fun q => nI_nle q h1 h))) (fun h => kf (Nat.pos_of_ne_zero (fun q => h (by rw [q]; decide))))
theorem dn_ifb_eq (hx : p.tables.exec = Jvm.exec) (hb : c.code = cc) {P : Prop} [Decidable P] {off : Int} (tgt : Nat) (hdg : decode cc pc = .ok (.ifCond .eq off, 3)) (ht : (pc : Int) + off = (tgt : Int)) (kt : ¬ P → W p l e R s m args below meth c H locs cells slots Q (F0 m tgt ls rest)) (kf : P → W p l e R s m args below meth c H locs cells slots Q (F0 m (pc + 3) ls rest)) : W p l e R s m args below meth c H locs cells slots Q (F0 m pc ls (.int (nI (dn_b P)) :: rest)) := lv_if_eq hx hb hdg ht (fun h => kt (dn_bz.mp h)) (fun h => kf (Decidable.byContradiction (fun q => h (dn_bz.mpr q))))
theorem dn_ifb_ne (hx : p.tables.exec = Jvm.exec) (hb : c.code = cc) {P : Prop} [Decidable P] {off : Int} (tgt : Nat) (hdg : decode cc pc = .ok (.ifCond .ne off, 3)) (ht : (pc : Int) + off = (tgt : Int)) (kt : P → W p l e R s m args below meth c H locs cells slots Q (F0 m tgt ls rest)) (kf : ¬ P → W p l e R s m args below meth c H locs cells slots Q (F0 m (pc + 3) ls rest)) : W p l e R s m args below meth c H locs cells slots Q (F0 m pc ls (.int (nI (dn_b P)) :: rest)) := lv_if_ne hx hb hdg ht (fun h => kt (Decidable.byContradiction (fun q => h (dn_bz.mpr q)))) (fun h => kf (dn_bz.mp h))
theorem dn_lcmp_ge (hx : p.tables.exec = Jvm.exec) (hb : c.code = cc) {x y : Nat} {off : Int} (tgt : Nat) (h1 : x < 2 ^ 63) (h2 : y < 2 ^ 63) (hd0 : decode cc pc = .ok (.lcmp, 1)) (hdg : decode cc (pc + 1) = .ok (.ifCond .ge off, 3)) (ht : ((pc + 1 : Nat) : Int) + off = (tgt : Int)) (kt : y ≤ x → W p l e R s m args below meth c H locs cells slots Q (F0 m tgt ls rest)) (kf : x < y → W p l e R s m args below meth c H locs cells slots Q (F0 m (pc + 4) ls rest)) : W p l e R s m args below meth c H locs cells slots Q (F0 m pc ls (.long (lN y) :: .long (lN x) :: rest)) := W.lcmp hx hb hd0 (lv_if_ge hx hb hdg ht (fun h => kt ((pk_lLE h2 h1).mp ((lg_cmp_ge _ _).mp h))) (fun h => kf (Nat.not_le.mp (fun q => h ((lg_cmp_ge _ _).mpr ((pk_lLE h2 h1).mpr q))))))
theorem dn_lcmp_lt (hx : p.tables.exec = Jvm.exec) (hb : c.code = cc) {x y : Nat} {off : Int} (tgt : Nat) (h1 : x < 2 ^ 63) (h2 : y < 2 ^ 63) (hd0 : decode cc pc = .ok (.lcmp, 1)) (hdg : decode cc (pc + 1) = .ok (.ifCond .lt off, 3)) (ht : ((pc + 1 : Nat) : Int) + off = (tgt : Int)) (kt : x < y → W p l e R s m args below meth c H locs cells slots Q (F0 m tgt ls rest)) (kf : y ≤ x → W p l e R s m args below meth c H locs cells slots Q (F0 m (pc + 4) ls rest)) : W p l e R s m args below meth c H locs cells slots Q (F0 m pc ls (.long (lN y) :: .long (lN x) :: rest)) := W.lcmp hx hb hd0 (lv_if_lt hx hb hdg ht (fun h => kt ((pk_lLT h1 h2).mp ((lg_cmp_lt _ _).mp h))) (fun h => kf (Nat.not_lt.mp (fun q => h ((lg_cmp_lt _ _).mpr ((pk_lLT h1 h2).mpr q))))))
theorem dn_lcmp_gt (hx : p.tables.exec = Jvm.exec) (hb : c.code = cc) {x y : Nat} {off : Int} (tgt : Nat) (h1 : x < 2 ^ 63) (h2 : y < 2 ^ 63) (hd0 : decode cc pc = .ok (.lcmp, 1)) (hdg : decode cc (pc + 1) = .ok (.ifCond .gt off, 3)) (ht : ((pc + 1 : Nat) : Int) + off = (tgt : Int)) (kt : y < x → W p l e R s m args below meth c H locs cells slots Q (F0 m tgt ls rest)) (kf : x ≤ y → W p l e R s m args below meth c H locs cells slots Q (F0 m (pc + 4) ls rest)) : W p l e R s m args below meth c H locs cells slots Q (F0 m pc ls (.long (lN y) :: .long (lN x) :: rest)) := W.lcmp hx hb hd0 (lv_if_gt hx hb hdg ht (fun h => kt ((pk_lLT h2 h1).mp ((lg_cmp_gt _ _).mp h))) (fun h => kf (Nat.not_lt.mp (fun q => h ((lg_cmp_gt _ _).mpr ((pk_lLT h2 h1).mpr q))))))
theorem dn_lcmp_le (hx : p.tables.exec = Jvm.exec) (hb : c.code = cc) {x y : Nat} {off : Int} (tgt : Nat) (h1 : x < 2 ^ 63) (h2 : y < 2 ^ 63) (hd0 : decode cc pc = .ok (.lcmp, 1)) (hdg : decode cc (pc + 1) = .ok (.ifCond .le off, 3)) (ht : ((pc + 1 : Nat) : Int) + off = (tgt : Int)) (kt : x ≤ y → W p l e R s m args below meth c H locs cells slots Q (F0 m tgt ls rest)) (kf : y < x → W p l e R s m args below meth c H locs cells slots Q (F0 m (pc + 4) ls rest)) : W p l e R s m args below meth c H locs cells slots Q (F0 m pc ls (.long (lN y) :: .long (lN x) :: rest)) := W.lcmp hx hb hd0 (lv_if_le hx hb hdg ht (fun h => kt ((pk_lLE h1 h2).mp ((lg_cmp_le _ _).mp h))) (fun h => kf (Nat.not_le.mp (fun q => h ((lg_cmp_le _ _).mpr ((pk_lLE h1 h2).mpr q))))))
end
end
section
/-! a world of NC cells at fixed addresses a, layout ce, contents f -/
def dw_su (f : Nat → Nat → Nat) (k : Nat) (g : Nat → Nat) : Nat → Nat → Nat := fun j => if j = k then g else f j
def dw_up (g : Nat → Nat) (i x : Nat) : Nat → Nat := fun j => if j = i then x else g j
/-- cell k's place i becomes x -/
def dw_w (f : Nat → Nat → Nat) (k i x : Nat) : Nat → Nat → Nat := dw_su f k (dw_up (f k) i x)
def dw_l (NC : Nat) (ce : Nat → (Nat → Nat) → va_E) (a : Nat → Nat) (f : Nat → Nat → Nat) : va_W := (List.range NC).map (fun k => (a k, ce k (f k)))
section
variable {NC k : Nat} {ce : Nat → (Nat → Nat) → va_E} {a : Nat → Nat} {f f2 : Nat → Nat → Nat} {A : Nat → Prop}
theorem dw_get (h : k < NC) : (dw_l NC ce a f)[k]? = some (a k, ce k (f k)) := by
  simp [dw_l, h]
theorem dw_len : (dw_l NC ce a f).length = NC := by simp [dw_l]
theorem dw_lt {q : Nat × va_E} (h : (dw_l NC ce a f)[k]? = some q) : k < NC := by
  have := (List.getElem?_eq_some_iff.mp h).1
  rwa [dw_len] at this
theorem dw_adr {q : Nat × va_E} (h : (dw_l NC ce a f)[k]? = some q) : q.1 = a k := by
  rw [dw_get (dw_lt h)] at h
  cases h
  rfl
theorem dw_set (h : k < NC) (g : Nat → Nat) : (dw_l NC ce a f).set k (a k, ce k g) = dw_l NC ce a (dw_su f k g) := by
  apply List.ext_getElem?
  intro i
  by_cases hi : i < NC
  · rw [dw_get hi, List.getElem?_set]
    by_cases hk : k = i
    · subst hk
      simp [dw_len, h, dw_su]
    · rw [if_neg hk, dw_get hi]
      simp [dw_su, Ne.symm hk]
  · rw [List.getElem?_eq_none (by rw [List.length_set, dw_len]; omega), List.getElem?_eq_none (by rw [dw_len]; omega)]
theorem dw_D (h : va_D A (dw_l NC ce a f)) : va_D A (dw_l NC ce a f2) := by
  refine ⟨fun i j p q hi hj e => ?_, fun k q hk => ?_⟩
  · have h1 := dw_get (ce := ce) (a := a) (f := f) (dw_lt hi)
    have h2 := dw_get (ce := ce) (a := a) (f := f) (dw_lt hj)
    exact h.1 i j _ _ h1 h2 (by rw [dw_adr hi, dw_adr hj] at e; exact e)
  · have h1 := dw_get (ce := ce) (a := a) (f := f) (dw_lt hk)
    rw [dw_adr hk]
    exact h.2 k _ h1
theorem dw_A {sz q : Nat} (h : va_A (dw_l NC ce a f) sz q) : va_A (dw_l NC ce a f2) sz q := by
  rcases h with ⟨k, e, h⟩ | h
  · refine Or.inl ⟨k, ce k (f2 k), ?_⟩
    have h1 := dw_adr h
    have h2 := dw_get (ce := ce) (a := a) (f := f2) (dw_lt h)
    rw [h2, ← h1]
  · exact Or.inr h
end
/-- what is known of the world while a method runs -/
def dw_W (D : va_G) (cl : List vw_C) (tys : List (ClassId × FieldType)) (A : Nat → Prop) (H0 : Heap) (ws : va_W) (s : State) (H : Heap) (locs : List Loc) : Prop := va_K D cl tys s ∧ va_P D cl ws H ∧ va_D A ws ∧ va_S A H0 H locs
/-- kinds of cells -/
def dw_Ci (tys : List (ClassId × FieldType)) (NC : Nat) (ce : Nat → (Nat → Nat) → va_E) (ty : FieldType) (k n : Nat) : Prop := k < NC ∧ n < 2 ^ 31 ∧ ∃ (cA : ClassId) (t0 : Nat), tys[t0]? = some (cA, ty) ∧ ∀ g, ce k g = .inl (cA, n, .inl (fun j => nI (g j)))
def dw_Cl (tys : List (ClassId × FieldType)) (NC : Nat) (ce : Nat → (Nat → Nat) → va_E) (k n : Nat) : Prop := k < NC ∧ n < 2 ^ 31 ∧ ∃ (cA : ClassId) (t0 : Nat), tys[t0]? = some (cA, .long) ∧ ∀ g, ce k g = .inl (cA, n, .inr (.inl (fun j => lN (g j))))
def dw_Cr (tys : List (ClassId × FieldType)) (NC : Nat) (ce : Nat → (Nat → Nat) → va_E) (a : Nat → Nat) (k n b : Nat) : Prop := k < NC ∧ n < 2 ^ 31 ∧ ∃ (cA : ClassId) (t0 : Nat), tys[t0]? = some (cA, .array .int) ∧ ∀ g, ce k g = .inl (cA, n, .inr (.inr (.inr (.inr (fun j => some (a (b + j)))))))
theorem dw_updn (g : Nat → Nat) (i x : Nat) : upd (fun j => nI (g j)) i (nI x) = fun j => nI (dw_up g i x j) := by
  funext j
  unfold upd dw_up
  split <;> rfl
theorem dw_updl (g : Nat → Nat) (i x : Nat) : vp_updL (fun j => lN (g j)) i (lN x) = fun j => lN (dw_up g i x j) := by
  funext j
  unfold vp_updL dw_up
  split <;> rfl
section
variable {p : Program} {l : Launch} {e : Env} {R : Room} {s : State} {m : MethodId} {args : Array Value} {below : List Frame} {meth : Method} {c : Code} {H H0 : Heap} {locs : List Loc} {cells slots : Nat} {Q : State → Prop} {cc : ByteArray} {pc : Nat} {ls : Array Slot} {rest : List Value}
  {D : va_G} {cl : List vw_C} {tys : List (ClassId × FieldType)} {A : Nat → Prop} {NC : Nat} {ce : Nat → (Nat → Nat) → va_E} {a : Nat → Nat} {f : Nat → Nat → Nat}
theorem dw_iald (hx : p.tables.exec = Jvm.exec) (hb : c.code = cc) (hw : dw_W D cl tys A H0 (dw_l NC ce a f) s H locs) {k n i : Nat} (hk : dw_Ci tys NC ce .int k n) (hi : i < n) (hdg : decode cc pc = .ok (.iaload, 1)) (kk : W p l e R s m args below meth c H locs cells slots Q (F0 m (pc + 1) ls (.int (nI (f k i)) :: rest))) : W p l e R s m args below meth c H locs cells slots Q (F0 m pc ls (.int (nI i) :: .ref (a k) :: rest)) := by
  obtain ⟨h1, h2, cA, t0, h3, h4⟩ := hk
  refine va_iald (f := fun j => nI (f k j)) hx hb hw.1 hw.2.1 k t0 (by rw [dw_get h1, h4]) h3 (vp_in_nI hi h2) hdg ?_
  rw [nI_clamp (by omega)]
  exact kk
theorem dw_zald (hx : p.tables.exec = Jvm.exec) (hb : c.code = cc) (hw : dw_W D cl tys A H0 (dw_l NC ce a f) s H locs) {k n i : Nat} (hk : dw_Ci tys NC ce .boolean k n) (hi : i < n) (hdg : decode cc pc = .ok (.baload, 1)) (kk : W p l e R s m args below meth c H locs cells slots Q (F0 m (pc + 1) ls (.int (nI (f k i)) :: rest))) : W p l e R s m args below meth c H locs cells slots Q (F0 m pc ls (.int (nI i) :: .ref (a k) :: rest)) := by
  obtain ⟨h1, h2, cA, t0, h3, h4⟩ := hk
  refine va_zald (f := fun j => nI (f k j)) hx hb hw.1 hw.2.1 k t0 (by rw [dw_get h1, h4]) h3 (vp_in_nI hi h2) hdg ?_
  rw [nI_clamp (by omega)]
  exact kk
theorem dw_lald (hx : p.tables.exec = Jvm.exec) (hb : c.code = cc) (hw : dw_W D cl tys A H0 (dw_l NC ce a f) s H locs) {k n i : Nat} (hk : dw_Cl tys NC ce k n) (hi : i < n) (hdg : decode cc pc = .ok (.laload, 1)) (kk : W p l e R s m args below meth c H locs cells slots Q (F0 m (pc + 1) ls (.long (lN (f k i)) :: rest))) : W p l e R s m args below meth c H locs cells slots Q (F0 m pc ls (.int (nI i) :: .ref (a k) :: rest)) := by
  obtain ⟨h1, h2, cA, t0, h3, h4⟩ := hk
  refine va_lald (f := fun j => lN (f k j)) hx hb hw.1 hw.2.1 k t0 (by rw [dw_get h1, h4]) h3 (vp_in_nI hi h2) hdg ?_
  rw [nI_clamp (by omega)]
  exact kk
theorem dw_aald (hx : p.tables.exec = Jvm.exec) (hb : c.code = cc) (hw : dw_W D cl tys A H0 (dw_l NC ce a f) s H locs) {k n b i : Nat} (hk : dw_Cr tys NC ce a k n b) (hi : i < n) (hdg : decode cc pc = .ok (.aaload, 1)) (kk : W p l e R s m args below meth c H locs cells slots Q (F0 m (pc + 1) ls (.ref (a (b + i)) :: rest))) : W p l e R s m args below meth c H locs cells slots Q (F0 m pc ls (.int (nI i) :: .ref (a k) :: rest)) := by
  obtain ⟨h1, h2, cA, t0, h3, h4⟩ := hk
  have hc : (nI i).toNatClampNeg = i := nI_clamp (by omega)
  have hin := vp_in_nI hi h2
  have ha : (dw_l NC ce a f)[k]? = some (a k, .inl (cA, n, .inr (.inr (.inr (.inr (fun j => some (a (b + j)))))))) := by rw [dw_get h1, h4]
  exact W.aald (v := .ref (a (b + i))) (ty := .array .int) hx hb (hw.2.1 k _ ha) ((hw.1.2 t0 _ h3).1 n (fun j => va_rf (some (a (b + j))))) rfl (fun q => by cases q) (by show ¬ (nI i < 0 ∨ (arrV _ _ _).slots.size ≤ _); rw [arrV_size]; exact hin) (by show (arrV _ _ _).slots[_]? = _; rw [hc, arrV_read _ _ hi]; rfl) rfl rfl hdg kk
theorem dw_alen (hx : p.tables.exec = Jvm.exec) (hb : c.code = cc) (hw : dw_W D cl tys A H0 (dw_l NC ce a f) s H locs) {k n b : Nat} (hk : dw_Cr tys NC ce a k n b) (hdg : decode cc pc = .ok (.arraylength, 1)) (kk : W p l e R s m args below meth c H locs cells slots Q (F0 m (pc + 1) ls (.int (nI n) :: rest))) : W p l e R s m args below meth c H locs cells slots Q (F0 m pc ls (.ref (a k) :: rest)) := by
  obtain ⟨h1, h2, cA, t0, h3, h4⟩ := hk
  exact va_alen (x := (n, .inr (.inr (.inr (.inr (fun j => some (a (b + j)))))))) hx hb hw.1 hw.2.1 k t0 (by rw [dw_get h1, h4]) h3 rfl hdg kk
theorem dw_aleni (hx : p.tables.exec = Jvm.exec) (hb : c.code = cc) (hw : dw_W D cl tys A H0 (dw_l NC ce a f) s H locs) {k n : Nat} {ty : FieldType} (hk : dw_Ci tys NC ce ty k n) (hdg : decode cc pc = .ok (.arraylength, 1)) (kk : W p l e R s m args below meth c H locs cells slots Q (F0 m (pc + 1) ls (.int (nI n) :: rest))) : W p l e R s m args below meth c H locs cells slots Q (F0 m pc ls (.ref (a k) :: rest)) := by
  obtain ⟨h1, h2, cA, t0, h3, h4⟩ := hk
  exact va_alen (x := (n, .inl (fun j => nI (f k j)))) hx hb hw.1 hw.2.1 k t0 (by rw [dw_get h1, h4]) h3 rfl hdg kk
theorem dw_iast (hx : p.tables.exec = Jvm.exec) (hb : c.code = cc) (hw : dw_W D cl tys A H0 (dw_l NC ce a f) s H locs) {k n i x : Nat} (hk : dw_Ci tys NC ce .int k n) (hi : i < n) (hdg : decode cc pc = .ok (.iastore, 1)) (kk : ∀ (f1 : Nat → Nat → Nat) (H1 : Heap) (locs1 : List Loc), f1 = dw_w f k i x → dw_W D cl tys A H0 (dw_l NC ce a f1) s H1 locs1 → W p l e R s m args below meth c H1 locs1 cells slots Q (F0 m (pc + 1) ls rest)) : W p l e R s m args below meth c H locs cells slots Q (F0 m pc ls (.int (nI x) :: .int (nI i) :: .ref (a k) :: rest)) := by
  obtain ⟨h1, h2, cA, t0, h3, h4⟩ := hk
  refine va_iast (f := fun j => nI (f k j)) hx hb hw.1 hw.2.1 hw.2.2.1 hw.2.2.2 k t0 (by rw [dw_get h1, h4]) h3 (vp_in_nI hi h2) hdg (fun H1 locs1 hP hD hS => ?_)
  rw [nI_clamp (by omega), dw_updn, ← h4, dw_set h1] at hP hD
  exact kk _ H1 locs1 rfl ⟨hw.1, hP, hD, hS⟩
theorem dw_zast (hx : p.tables.exec = Jvm.exec) (hb : c.code = cc) (hw : dw_W D cl tys A H0 (dw_l NC ce a f) s H locs) {k n i x : Nat} (hx1 : x ≤ 1) (hk : dw_Ci tys NC ce .boolean k n) (hi : i < n) (hdg : decode cc pc = .ok (.bastore, 1)) (kk : ∀ (f1 : Nat → Nat → Nat) (H1 : Heap) (locs1 : List Loc), f1 = dw_w f k i x → dw_W D cl tys A H0 (dw_l NC ce a f1) s H1 locs1 → W p l e R s m args below meth c H1 locs1 cells slots Q (F0 m (pc + 1) ls rest)) : W p l e R s m args below meth c H locs cells slots Q (F0 m pc ls (.int (nI x) :: .int (nI i) :: .ref (a k) :: rest)) := by
  obtain ⟨h1, h2, cA, t0, h3, h4⟩ := hk
  have hn : vp_nar .boolean (nI x) = nI x := by
    rcases (show x = 0 ∨ x = 1 by omega) with rfl | rfl <;> rfl
  refine va_zast (f := fun j => nI (f k j)) hx hb hw.1 hw.2.1 hw.2.2.1 hw.2.2.2 k t0 (by rw [dw_get h1, h4]) h3 (vp_in_nI hi h2) hdg (fun H1 locs1 hP hD hS => ?_)
  rw [hn, nI_clamp (by omega), dw_updn, ← h4, dw_set h1] at hP hD
  exact kk _ H1 locs1 rfl ⟨hw.1, hP, hD, hS⟩
theorem dw_last (hx : p.tables.exec = Jvm.exec) (hb : c.code = cc) (hw : dw_W D cl tys A H0 (dw_l NC ce a f) s H locs) {k n i x : Nat} (hk : dw_Cl tys NC ce k n) (hi : i < n) (hdg : decode cc pc = .ok (.lastore, 1)) (kk : ∀ (f1 : Nat → Nat → Nat) (H1 : Heap) (locs1 : List Loc), f1 = dw_w f k i x → dw_W D cl tys A H0 (dw_l NC ce a f1) s H1 locs1 → W p l e R s m args below meth c H1 locs1 cells slots Q (F0 m (pc + 1) ls rest)) : W p l e R s m args below meth c H locs cells slots Q (F0 m pc ls (.long (lN x) :: .int (nI i) :: .ref (a k) :: rest)) := by
  obtain ⟨h1, h2, cA, t0, h3, h4⟩ := hk
  refine va_last (f := fun j => lN (f k j)) hx hb hw.1 hw.2.1 hw.2.2.1 hw.2.2.2 k t0 (by rw [dw_get h1, h4]) h3 (vp_in_nI hi h2) hdg (fun H1 locs1 hP hD hS => ?_)
  rw [nI_clamp (by omega), dw_updl, ← h4, dw_set h1] at hP hD
  exact kk _ H1 locs1 rfl ⟨hw.1, hP, hD, hS⟩
end
end
section
/-! contracts over the world: arguments As and contents f give the answer r and contents f1 -/
def dw_B (D : va_G) (cl : List vw_C) (tys : List (ClassId × FieldType)) (ws : va_W) (sz : Nat) (U : State) : Prop := U.heap.size = sz ∧ va_P D cl ws U.heap ∧ va_K D cl tys U ∧ va_D (fun _ => True) ws
def dw_E (D : va_G) (cl : List vw_C) (tys : List (ClassId × FieldType)) (NC : Nat) (ce : Nat → (Nat → Nat) → va_E) (a : Nat → Nat) (u : Nat → Nat → Nat) (t : State) : Prop := va_P D cl (dw_l NC ce a u) t.heap ∧ va_K D cl tys t
def dw_CI (l : Launch) (D : va_G) (cl : List vw_C) (tys : List (ClassId × FieldType)) (NC : Nat) (ce : Nat → (Nat → Nat) → va_E) (a : Nat → Nat) (y : MethodName) (ws : List Cond) (fr lo : Nat) (As : List Value) (f : Nat → Nat → Nat) (post : Int32 → (Nat → Nat → Nat) → Prop) : Prop :=
  ∀ sz : Nat, Met l y ws { frames := fr, cells := 0, slots := 0, locals := lo } (va_Pc As (dw_B D cl tys (dw_l NC ce a f) sz)) (va_Qi post (dw_E D cl tys NC ce a) (va_A (dw_l NC ce a f) sz)) 0 0 (va_A (dw_l NC ce a f) sz)
def dw_CL (l : Launch) (D : va_G) (cl : List vw_C) (tys : List (ClassId × FieldType)) (NC : Nat) (ce : Nat → (Nat → Nat) → va_E) (a : Nat → Nat) (y : MethodName) (ws : List Cond) (fr lo : Nat) (As : List Value) (f : Nat → Nat → Nat) (post : Int64 → (Nat → Nat → Nat) → Prop) : Prop :=
  ∀ sz : Nat, Met l y ws { frames := fr, cells := 0, slots := 0, locals := lo } (va_Pc As (dw_B D cl tys (dw_l NC ce a f) sz)) (va_Ql post (dw_E D cl tys NC ce a) (va_A (dw_l NC ce a f) sz)) 0 0 (va_A (dw_l NC ce a f) sz)
def dw_CV (l : Launch) (D : va_G) (cl : List vw_C) (tys : List (ClassId × FieldType)) (NC : Nat) (ce : Nat → (Nat → Nat) → va_E) (a : Nat → Nat) (y : MethodName) (ws : List Cond) (fr lo : Nat) (As : List Value) (f : Nat → Nat → Nat) (post : (Nat → Nat → Nat) → Prop) : Prop :=
  ∀ sz : Nat, Met l y ws { frames := fr, cells := 0, slots := 0, locals := lo } (va_Pc As (dw_B D cl tys (dw_l NC ce a f) sz)) (va_Qv post (dw_E D cl tys NC ce a) (va_A (dw_l NC ce a f) sz)) 0 0 (va_A (dw_l NC ce a f) sz)
theorem dw_blind {D : va_G} {cl : List vw_C} {tys : List (ClassId × FieldType)} {ws : va_W} {sz : Nat} {As : List Value} : FrameBlind (va_Pc As (dw_B D cl tys ws sz)) := fun a U g mk q => by
  obtain ⟨q0, q1, qP, qK, qD⟩ := q
  exact ⟨q0, q1, qP, va_K.moved (u := U) (U := U.calling g mk a) (Vm.Alike.refl U.vm) qK, qD⟩
theorem dw_pre {D : va_G} {cl : List vw_C} {tys : List (ClassId × FieldType)} {ws : va_W} {As : List Value} {A : Nat → Prop} {H0 H : Heap} {s : State} {locs : List Loc} (hw : dw_W D cl tys A H0 ws s H locs) : ∀ U : State, U.heap = H → s.WarmedH U.vm → va_Pc As (dw_B D cl tys ws H.size) As.toArray U := fun U hU hW => ⟨rfl, by rw [hU], by rw [hU]; exact hw.2.1, va_K.moved hW.alike hw.1, hw.2.2.1.weaken (fun _ _ _ _ => trivial)⟩
theorem dw_good {Ts ws : List Cond} (hG : GoodIn Ts Ts) (h : ∀ w ∈ ws, w ∈ Ts) : GoodIn Ts ws := fun w hw => ⟨h w hw, (hG w (h w hw)).2⟩
theorem dw_code {Ts : List Cond} {w : Cond} (h : w ∈ Ts) : ∀ v ∈ w :: Ts, v ∈ Ts := fun v hv => by
  rcases List.mem_cons.mp hv with rfl | hv
  · exact h
  · exact hv
section
variable {p : Program} {l : Launch} {e : Env} {R : Room} {s : State} {m : MethodId} {args : Array Value} {below : List Frame} {meth : Method} {c : Code} {H H0 : Heap} {locs : List Loc} {cells slots : Nat} {Q : State → Prop} {cc : ByteArray} {pc : Nat} {ls : Array Slot} {rest st0 : List Value}
  {D : va_G} {cl : List vw_C} {tys : List (ClassId × FieldType)} {A : Nat → Prop} {NC : Nat} {ce : Nat → (Nat → Nat) → va_E} {a : Nat → Nat} {f : Nat → Nat → Nat} {Ts : List Cond} {own C host : String} {nL index maxL n fr lo ko ci : Nat} {y : MethodName} {bytes : ByteArray} {ret : Option FieldType} {As : List Value} {av : Array Value}
theorem dw_F (hw : dw_W D cl tys A H0 (dw_l NC ce a f) s H locs) (hA : ∀ q, H0.size ≤ q → A q) : ∀ q, va_A (dw_l NC ce a f) H.size q → A q := fun q h => by
  rcases h with ⟨k, e, h⟩ | h
  · exact hw.2.2.1.2 k _ h
  · exact hA q (Nat.le_trans hw.2.2.2.1 h)
theorem dw_afti {post : Int32 → (Nat → Nat → Nat) → Prop} (hw : dw_W D cl tys A H0 (dw_l NC ce a f) s H locs) (hA : ∀ q, H0.size ≤ q → A q) (hr : va_Run p l e R s m args below meth c H locs cells slots 0 0 (F0 m pc ls st0) rest (va_Qi post (dw_E D cl tys NC ce a) (va_A (dw_l NC ce a f) H.size) av) (va_A (dw_l NC ce a f) H.size))
    (kk : ∀ (r : Int32) (f1 : Nat → Nat → Nat) (H1 : Heap) (locs1 : List Loc), post r f1 → dw_W D cl tys A H0 (dw_l NC ce a f1) s H1 locs1 → W p l e R s m args below meth c H1 locs1 cells slots Q (F0 m (pc + 3) ls (.int r :: rest))) : W p l e R s m args below meth c H locs cells slots Q (F0 m pc ls st0) := by
  have hF := dw_F hw hA
  refine va_calli hr hw.2.2.2 (fun q _ h => hF q h) hF (fun r' u t H1 locs1 ht hvm hp hB hz hk hS => ?_)
  obtain ⟨hP1, hK1⟩ := hB
  rw [ht] at hP1
  exact kk r' u H1 locs1 hp ⟨hw.1, hP1, dw_D hw.2.2.1, hS⟩
theorem dw_aftl {post : Int64 → (Nat → Nat → Nat) → Prop} (hw : dw_W D cl tys A H0 (dw_l NC ce a f) s H locs) (hA : ∀ q, H0.size ≤ q → A q) (hr : va_Run p l e R s m args below meth c H locs cells slots 0 0 (F0 m pc ls st0) rest (va_Ql post (dw_E D cl tys NC ce a) (va_A (dw_l NC ce a f) H.size) av) (va_A (dw_l NC ce a f) H.size))
    (kk : ∀ (r : Int64) (f1 : Nat → Nat → Nat) (H1 : Heap) (locs1 : List Loc), post r f1 → dw_W D cl tys A H0 (dw_l NC ce a f1) s H1 locs1 → W p l e R s m args below meth c H1 locs1 cells slots Q (F0 m (pc + 3) ls (.long r :: rest))) : W p l e R s m args below meth c H locs cells slots Q (F0 m pc ls st0) := by
  have hF := dw_F hw hA
  refine va_calll hr hw.2.2.2 (fun q _ h => hF q h) hF (fun r' u t H1 locs1 ht hvm hp hB hz hk hS => ?_)
  obtain ⟨hP1, hK1⟩ := hB
  rw [ht] at hP1
  exact kk r' u H1 locs1 hp ⟨hw.1, hP1, dw_D hw.2.2.1, hS⟩
theorem dw_aftv {post : (Nat → Nat → Nat) → Prop} (hw : dw_W D cl tys A H0 (dw_l NC ce a f) s H locs) (hA : ∀ q, H0.size ≤ q → A q) (hr : va_Run p l e R s m args below meth c H locs cells slots 0 0 (F0 m pc ls st0) rest (va_Qv post (dw_E D cl tys NC ce a) (va_A (dw_l NC ce a f) H.size) av) (va_A (dw_l NC ce a f) H.size))
    (kk : ∀ (f1 : Nat → Nat → Nat) (H1 : Heap) (locs1 : List Loc), post f1 → dw_W D cl tys A H0 (dw_l NC ce a f1) s H1 locs1 → W p l e R s m args below meth c H1 locs1 cells slots Q (F0 m (pc + 3) ls rest)) : W p l e R s m args below meth c H locs cells slots Q (F0 m pc ls st0) := by
  have hF := dw_F hw hA
  refine va_callv hr hw.2.2.2 (fun q _ h => hF q h) hF (fun u t H1 locs1 ht hvm hp hB hz hk hS => ?_)
  obtain ⟨hP1, hK1⟩ := hB
  rw [ht] at hP1
  exact kk u H1 locs1 hp ⟨hw.1, hP1, dw_D hw.2.2.1, hS⟩
/-- an object cell -/
def dw_Co (cl : List vw_C) (NC : Nat) (ce : Nat → (Nat → Nat) → va_E) (k ci : Nat) (C : String) (T : u_T) (N : Nat) (fs : (Nat → Nat) → List Value) : Prop := k < NC ∧ cl[ci]? = some (C, T, N) ∧ ∀ g, ce k g = .inr (ci, fs g)
theorem dw_ob {T : u_T} {N : Nat} {fs : (Nat → Nat) → List Value} {k : Nat} (h : dw_Co cl NC ce k ci C T N fs) : (dw_l NC ce a f)[k]? = some (a k, .inr (ci, fs (f k))) := by rw [dw_get h.1, h.2.2]
/-- the words and the room of a call -/
abbrev dw_Cw (Ts : List Cond) (y : MethodName) (bytes : ByteArray) (maxL : Nat) (ret : Option FieldType) (n : Nat) : Prop := Cond.code y bytes maxL ret ∈ Ts ∧ Cond.initialized y.cls ∈ Ts ∧ (y.cls ≠ "java/lang/invoke/MethodHandle" ∧ y.cls ≠ "java/lang/invoke/VarHandle" ∧ (parseMethodDescriptor y.desc).map (fun d => d.parameters.length) = some n)
theorem dw_runV {Pc : Array Value → State → Prop} {Qc : Array Value → State → Outcome → State → Prop} {free : Addr → Prop} {T : u_T} {N : Nat} {fs : (Nat → Nat) → List Value} (hw : dw_W D cl tys A H0 (dw_l NC ce a f) s H locs) (S : CallFix p m c cc nL s args Ts own) (hG : GoodIn Ts Ts) (hM : Met l y (Cond.code y bytes maxL ret :: Ts) { frames := fr, cells := 0, slots := 0, locals := lo } Pc Qc 0 0 free) (cw : dw_Cw Ts y bytes maxL ret n) (hl : Cond.methodLink own index y ∈ Ts) (hi : Cond.instanceMethod y ∈ Ts) (hse : Cond.selects C y y ∈ Ts)
    (ho : dw_Co cl NC ce ko ci C T N fs) (hbl : FrameBlind Pc) (hpre : ∀ U : State, U.heap = H → s.WarmedH U.vm → Pc (Value.ref (a ko) :: As).toArray U) (hn : As.length = n) (hsz : ls.size = nL) (hst : st0 = As.reverse ++ .ref (a ko) :: rest) (hR : fr + 1 ≤ R.frames ∧ 8 + (maxL + 11) + lo ≤ R.locals) (hre : (rest.map fun v => v.category).sum ≤ 8) (hcs : cells ≤ R.cells ∧ slots ≤ R.slots) (hdg : decode cc pc = .ok (.invokevirtual index, 3)) :
    va_Run p l e R s m args below meth c H locs cells slots 0 0 (F0 m pc ls st0) rest (Qc (Value.ref (a ko) :: As).toArray) free :=
  va_runV (As := As) (rest := rest) (b := a ko) (C := C) S hM ⟨callB_of n S.2.2.2.2 (dw_good hG (dw_code cw.1)) rfl rfl rfl (S.2.2.2.2 _ cw.2.1) (S.2.2.2.2 _ hl) cw.2.2 hR, S.2.2.2.2 _ hi, S.2.2.2.2 _ hse⟩ ⟨hbl, va_recv hw.1 hw.2.1 ho.2.1 (dw_ob ho), hpre⟩ rfl hn hsz hst (lv_room hre) hdg hcs
theorem dw_runVN {Pc : Array Value → State → Prop} {Qc : Array Value → State → Outcome → State → Prop} {free : Addr → Prop} {T : u_T} {N : Nat} {fs : (Nat → Nat) → List Value} (hw : dw_W D cl tys A H0 (dw_l NC ce a f) s H locs) (S : CallFix p m c cc nL s args Ts own) (hG : GoodIn Ts Ts) (hM : Met l y (Cond.code y bytes maxL ret :: Ts) { frames := fr, cells := 0, slots := 0, locals := lo } Pc Qc 0 0 free) (cw : dw_Cw Ts y bytes maxL ret n) (hl : Cond.methodLinkNest own index y host ∈ Ts) (hi : Cond.instanceMethod y ∈ Ts) (hse : Cond.selects C y y ∈ Ts)
    (ho : dw_Co cl NC ce ko ci C T N fs) (hbl : FrameBlind Pc) (hpre : ∀ U : State, U.heap = H → s.WarmedH U.vm → Pc (Value.ref (a ko) :: As).toArray U) (hn : As.length = n) (hsz : ls.size = nL) (hst : st0 = As.reverse ++ .ref (a ko) :: rest) (hR : fr + 1 ≤ R.frames ∧ 8 + (maxL + 11) + lo ≤ R.locals) (hre : (rest.map fun v => v.category).sum ≤ 8) (hcs : cells ≤ R.cells ∧ slots ≤ R.slots) (hdg : decode cc pc = .ok (.invokevirtual index, 3)) :
    va_Run p l e R s m args below meth c H locs cells slots 0 0 (F0 m pc ls st0) rest (Qc (Value.ref (a ko) :: As).toArray) free :=
  va_runVN (As := As) (rest := rest) (b := a ko) (C := C) (host := host) S hM ⟨va_cnB n S.2.2.2.2 (dw_good hG (dw_code cw.1)) rfl rfl rfl (va_Nw.of rfl (S.2.2.2.2 _ hl)) (S.2.2.2.2 _ cw.2.1) cw.2.2 hR, S.2.2.2.2 _ hi, S.2.2.2.2 _ hse⟩ ⟨hbl, va_recv hw.1 hw.2.1 ho.2.1 (dw_ob ho), hpre⟩ rfl hn hsz hst (lv_room hre) hdg hcs
theorem dw_runS {Pc : Array Value → State → Prop} {Qc : Array Value → State → Outcome → State → Prop} {free : Addr → Prop} (S : CallFix p m c cc nL s args Ts own) (hG : GoodIn Ts Ts) (hM : Met l y (Cond.code y bytes maxL ret :: Ts) { frames := fr, cells := 0, slots := 0, locals := lo } Pc Qc 0 0 free) (cw : dw_Cw Ts y bytes maxL ret n) (hl : Cond.methodLink own index y ∈ Ts) (hi : Cond.static y ∈ Ts)
    (hbl : FrameBlind Pc) (hpre : ∀ U : State, U.heap = H → s.WarmedH U.vm → Pc As.toArray U) (hn : As.length = n) (hsz : ls.size = nL) (hst : st0 = As.reverse ++ rest) (hR : fr + 1 ≤ R.frames ∧ 8 + (maxL + 11) + lo ≤ R.locals) (hre : (rest.map fun v => v.category).sum ≤ 8) (hcs : cells ≤ R.cells ∧ slots ≤ R.slots) (hdg : decode cc pc = .ok (.invokestatic index, 3)) :
    va_Run p l e R s m args below meth c H locs cells slots 0 0 (F0 m pc ls st0) rest (Qc As.toArray) free :=
  va_runS (As := As) (rest := rest) S hM ⟨callB_of n S.2.2.2.2 (dw_good hG (dw_code cw.1)) rfl rfl rfl (S.2.2.2.2 _ cw.2.1) (S.2.2.2.2 _ hl) cw.2.2 hR, S.2.2.2.2 _ hi⟩ ⟨hbl, hpre⟩ rfl hn hsz hst (lv_room hre) hdg hcs
theorem dw_runSN {Pc : Array Value → State → Prop} {Qc : Array Value → State → Outcome → State → Prop} {free : Addr → Prop} (S : CallFix p m c cc nL s args Ts own) (hG : GoodIn Ts Ts) (hM : Met l y (Cond.code y bytes maxL ret :: Ts) { frames := fr, cells := 0, slots := 0, locals := lo } Pc Qc 0 0 free) (cw : dw_Cw Ts y bytes maxL ret n) (hl : Cond.methodLinkNest own index y host ∈ Ts) (hi : Cond.static y ∈ Ts)
    (hbl : FrameBlind Pc) (hpre : ∀ U : State, U.heap = H → s.WarmedH U.vm → Pc As.toArray U) (hn : As.length = n) (hsz : ls.size = nL) (hst : st0 = As.reverse ++ rest) (hR : fr + 1 ≤ R.frames ∧ 8 + (maxL + 11) + lo ≤ R.locals) (hre : (rest.map fun v => v.category).sum ≤ 8) (hcs : cells ≤ R.cells ∧ slots ≤ R.slots) (hdg : decode cc pc = .ok (.invokestatic index, 3)) :
    va_Run p l e R s m args below meth c H locs cells slots 0 0 (F0 m pc ls st0) rest (Qc As.toArray) free :=
  va_runSN (As := As) (rest := rest) (host := host) S hM ⟨va_cnB n S.2.2.2.2 (dw_good hG (dw_code cw.1)) rfl rfl rfl (va_Nw.of rfl (S.2.2.2.2 _ hl)) (S.2.2.2.2 _ cw.2.1) cw.2.2 hR, S.2.2.2.2 _ hi, trivial⟩ ⟨hbl, hpre⟩ rfl hn hsz hst (lv_room hre) hdg hcs
theorem dw_getf {T : u_T} {N fi k : Nat} {fs : (Nat → Nat) → List Value} {v : Value} (S : CallFix p m c cc nL s args Ts own) (hw : dw_W D cl tys A H0 (dw_l NC ce a f) s H locs) (hin : ∀ w ∈ u_ws C T N, w ∈ Ts) (ho : dw_Co cl NC ce k ci C T N fs) (hfi : fi < N) (hT : (T fi).1 = C) (hl : Cond.fieldLink own index C (T fi).2.1 (T fi).2.2.1 ∈ Ts) (hv : (fs (f k))[fi]? = some v) (hdg : decode cc pc = .ok (.getfield index, 3))
    (kk : W p l e R s m args below meth c H locs cells slots Q (F0 m (pc + 3) ls (v :: rest))) : W p l e R s m args below meth c H locs cells slots Q (F0 m pc ls (.ref (a k) :: rest)) :=
  va_get (D := D) S.1 S.2.1 S.2.2.2.2 hin S.2.2.2.1 hw.1 hw.2.1 k (dw_ob ho) ho.2.1 fi hfi (S.2.2.2.2 _ hl) (fun x hx => by rw [hT] at hx; exact hx) hv hdg kk
theorem dw_getN {T : u_T} {N fi k : Nat} {fs : (Nat → Nat) → List Value} {v : Value} (S : CallFix p m c cc nL s args Ts own) (hw : dw_W D cl tys A H0 (dw_l NC ce a f) s H locs) (hin : ∀ w ∈ u_ws C T N, w ∈ Ts) (ho : dw_Co cl NC ce k ci C T N fs) (hfi : fi < N) (hT : (T fi).1 = C) (hl : Cond.fieldLinkNest own index C (T fi).2.1 (T fi).2.2.1 host ∈ Ts) (hv : (fs (f k))[fi]? = some v) (hdg : decode cc pc = .ok (.getfield index, 3))
    (kk : W p l e R s m args below meth c H locs cells slots Q (F0 m (pc + 3) ls (v :: rest))) : W p l e R s m args below meth c H locs cells slots Q (F0 m pc ls (.ref (a k) :: rest)) :=
  va_getN (D := D) S.1 S.2.1 S.2.2.2.2 hin S.2.2.2.1 hw.1 hw.2.1 k (dw_ob ho) ho.2.1 fi hfi (S.2.2.2.2 _ hl) (fun x hx => by rw [hT] at hx; exact hx) hv hdg kk
theorem dw_putf {T : u_T} {N fi k x : Nat} {fs : (Nat → Nat) → List Value} (S : CallFix p m c cc nL s args Ts own) (hw : dw_W D cl tys A H0 (dw_l NC ce a f) s H locs) (hin : ∀ w ∈ u_ws C T N, w ∈ Ts) (ty0 : Nat → FieldType) (hty : ∀ k, k < N → parseFieldDescriptor (T k).2.2.1 = some (ty0 k)) (hnm : ∀ a, a < N → ∀ b, b < N → a ≠ b → (T a).2.1 ≠ (T b).2.1) (ho : dw_Co cl NC ce k ci C T N fs) (hfi : fi < N) (hT : (T fi).1 = C) (hl : Cond.fieldLink own index C (T fi).2.1 (T fi).2.2.1 ∈ Ts) (hfin : (T fi).2.2.2 = false) (hd : parseFieldDescriptor (T fi).2.2.1 = some .int) (hlen : fi < (fs (f k)).length) (hset : (fs (f k)).set fi (.int (nI x)) = fs (dw_up (f k) fi x)) (hdg : decode cc pc = .ok (.putfield index, 3))
    (kk : ∀ (f1 : Nat → Nat → Nat) (H1 : Heap) (locs1 : List Loc), f1 = dw_w f k fi x → dw_W D cl tys A H0 (dw_l NC ce a f1) s H1 locs1 → W p l e R s m args below meth c H1 locs1 cells slots Q (F0 m (pc + 3) ls rest)) : W p l e R s m args below meth c H locs cells slots Q (F0 m pc ls (.int (nI x) :: .ref (a k) :: rest)) := by
  refine va_put (D := D) (v := .int (nI x)) (ty := .int) S.1 S.2.1 S.2.2.2.2 hin ty0 hty hnm S.2.2.2.1 hw.1 hw.2.1 hw.2.2.1 hw.2.2.2 k (dw_ob ho) ho.2.1 fi hfi (S.2.2.2.2 _ hl) (fun x hx => by rw [hT] at hx; exact hx) hfin hd rfl rfl hlen hdg (fun H1 locs1 hP hD hS => ?_)
  rw [hset, ← ho.2.2, dw_set ho.1] at hP hD
  exact kk _ H1 locs1 rfl ⟨hw.1, hP, hD, hS⟩
theorem dw_putN {T : u_T} {N fi k x : Nat} {fs : (Nat → Nat) → List Value} (S : CallFix p m c cc nL s args Ts own) (hw : dw_W D cl tys A H0 (dw_l NC ce a f) s H locs) (hin : ∀ w ∈ u_ws C T N, w ∈ Ts) (ty0 : Nat → FieldType) (hty : ∀ k, k < N → parseFieldDescriptor (T k).2.2.1 = some (ty0 k)) (hnm : ∀ a, a < N → ∀ b, b < N → a ≠ b → (T a).2.1 ≠ (T b).2.1) (ho : dw_Co cl NC ce k ci C T N fs) (hfi : fi < N) (hT : (T fi).1 = C) (hl : Cond.fieldLinkNest own index C (T fi).2.1 (T fi).2.2.1 host ∈ Ts) (hfin : (T fi).2.2.2 = false) (hd : parseFieldDescriptor (T fi).2.2.1 = some .int) (hlen : fi < (fs (f k)).length) (hset : (fs (f k)).set fi (.int (nI x)) = fs (dw_up (f k) fi x)) (hdg : decode cc pc = .ok (.putfield index, 3))
    (kk : ∀ (f1 : Nat → Nat → Nat) (H1 : Heap) (locs1 : List Loc), f1 = dw_w f k fi x → dw_W D cl tys A H0 (dw_l NC ce a f1) s H1 locs1 → W p l e R s m args below meth c H1 locs1 cells slots Q (F0 m (pc + 3) ls rest)) : W p l e R s m args below meth c H locs cells slots Q (F0 m pc ls (.int (nI x) :: .ref (a k) :: rest)) := by
  refine va_putN (D := D) (v := .int (nI x)) (ty := .int) S.1 S.2.1 S.2.2.2.2 hin ty0 hty hnm S.2.2.2.1 hw.1 hw.2.1 hw.2.2.1 hw.2.2.2 k (dw_ob ho) ho.2.1 fi hfi (S.2.2.2.2 _ hl) (fun x hx => by rw [hT] at hx; exact hx) hfin hd rfl rfl hlen hdg (fun H1 locs1 hP hD hS => ?_)
  rw [hset, ← ho.2.2, dw_set ho.1] at hP hD
  exact kk _ H1 locs1 rfl ⟨hw.1, hP, hD, hS⟩
/-- System.arraycopy of n ints from the front of one row to the front of another -/
theorem dw_copy {k k2 n1 n2 cnt : Nat} (S : CallFix p m c cc nL s args Ts own) (hw : dw_W D cl tys A H0 (dw_l NC ce a f) s H locs) (hl : Cond.methodLink own index arraycopyName ∈ Ts) (hnat : Cond.native arraycopyName ∈ Ts) (hst : Cond.static arraycopyName ∈ Ts) (hini : Cond.initialized "java/lang/System" ∈ Ts) (hk : dw_Ci tys NC ce .int k n1) (hk2 : dw_Ci tys NC ce .int k2 n2) (h1 : cnt ≤ n1) (h2 : cnt ≤ n2) (hsz : ls.size = nL) (hfr : 1 ≤ R.frames) (hlo : (rest.map fun v => v.category).sum + (nativeFrameWords "java/lang/System" "arraycopy" 5 + 11) ≤ R.locals) (hdg : decode cc pc = .ok (.invokestatic index, 3))
    (kk : ∀ (f1 : Nat → Nat → Nat) (H1 : Heap) (locs1 : List Loc), f1 = dw_su f k2 (fun j => if j < cnt then f k j else f k2 j) → dw_W D cl tys A H0 (dw_l NC ce a f1) s H1 locs1 → W p l e R s m args below meth c H1 locs1 cells slots Q (F0 m (pc + 3) ls rest)) : W p l e R s m args below meth c H locs cells slots Q (F0 m pc ls (.int (nI cnt) :: .int (nI 0) :: .ref (a k2) :: .int (nI 0) :: .ref (a k) :: rest)) := by
  obtain ⟨a1, a2, cA, t0, a3, a4⟩ := hk
  obtain ⟨b1, b2, cB, t1, b3, b4⟩ := hk2
  have hc : (nI cnt).toNatClampNeg = cnt := nI_clamp (by omega)
  have h0 : (nI 0).toNatClampNeg = 0 := rfl
  refine va_copyi (f := fun j => nI (f k j)) (g := fun j => nI (f k2 j)) S.1 S.2.1 (S.2.2.1.trans hsz.symm) S.2.2.2.1 (S.2.2.2.2 _ hl) (S.2.2.2.2 _ hnat) (S.2.2.2.2 _ hst) (S.2.2.2.2 _ hini) hw.1 hw.2.1 hw.2.2.1 hw.2.2.2 k k2 t0 t1 (by rw [dw_get a1, a4]) (by rw [dw_get b1, b4]) a3 b3 rfl (by decide) (by decide) (nI_pos (by omega)) (by rw [hc, h0]; omega) (by rw [hc, h0]; omega) (fun _ _ => rfl) hfr hlo hdg (fun H1 locs1 hP hD hS => ?_)
  have hq : (va_cpy (fun j => nI (f k j)) (fun j => nI (f k2 j)) (nI 0).toNatClampNeg (nI 0).toNatClampNeg (nI cnt).toNatClampNeg) = fun j => nI ((fun j => if j < cnt then f k j else f k2 j) j) := by
    funext j
    rw [hc, h0]
    unfold va_cpy
    by_cases h : j < cnt
    · rw [if_pos ⟨Nat.zero_le _, by omega⟩]
      simp [h]
    · rw [if_neg (by omega)]
      simp [h]
  rw [hq, ← b4, dw_set b1] at hP hD
  exact kk _ H1 locs1 rfl ⟨hw.1, hP, hD, hS⟩
end
/-- a contract out of a walk of its body -/
theorem dw_ofI {l : Launch} {D : va_G} {cl : List vw_C} {tys : List (ClassId × FieldType)} {NC : Nat} {ce : Nat → (Nat → Nat) → va_E} {a : Nat → Nat} {y : MethodName} {bytes : ByteArray} {maxL : Nat} {ty : FieldType} {Ts : List Cond} {fr lo : Nat} {As : List Value} {f : Nat → Nat → Nat} {post : Int32 → (Nat → Nat → Nat) → Prop} (hy : plainName y.cls = true) (hnar : ∀ v u, post v u → narrow ty (.int v) = .int v) (hlen : (lg_sl As).length ≤ maxL)
    (body : ∀ (p : Program) (e : Env) (s : State) (m : MethodId) (below : List Frame) (meth : Method) (c : Code) (ls : Array Slot) (A : Nat → Prop) (Q : State → Prop) (R : Room), R = { frames := fr, cells := 0, slots := 0, locals := lo } → (∀ q : Nat, s.heap.size ≤ q → A q) → CallFix p m c bytes maxL s As.toArray Ts y.cls → dw_W D cl tys A s.heap (dw_l NC ce a f) s s.heap [] → lv_has ls maxL (lv_args 0 As) →
      (∀ (H : Heap) (locs : List Loc) (pc : Nat) (ls : Array Slot) (f2 : Nat → Nat → Nat) (v : Int32), dw_W D cl tys A s.heap (dw_l NC ce a f2) s H locs → post v f2 → decode bytes pc = .ok (.ireturn, 1) → W p l e R s m As.toArray below meth c H locs 0 0 Q (F0 m pc ls [.int v])) →
      W p l e R s m As.toArray below meth c s.heap [] 0 0 Q (F0 m 0 ls [])) : dw_CI l D cl tys NC ce a y (Cond.code y bytes maxL (some ty) :: Ts) fr lo As f post := by
  intro sz
  refine Met.ofW (cc := bytes) (maxL := maxL) (ret := some ty) hy rfl ?_
  intro p e s m args below meth c s₁ B hml hv
  obtain ⟨rfl, hsz, hP, hK, hD0⟩ := hv
  have hts := atoms_spec (ws := Cond.code y bytes maxL (some ty) :: Ts) B.pre
  have hown : s.vm.findClass y.cls = some m.cls := findClass_of_methodNamed B.named
  have hlocks := B.notSynchronized
  have hr := B.returns
  have hx := B.exec
  have hb := B.bytes
  subst hsz
  have hD := hD0.self (sz := s.heap.size)
  generalize hAe : va_A (dw_l NC ce a f) s.heap.size = A at hD ⊢
  have hA : ∀ q : Nat, s.heap.size ≤ q → A q := fun q h => by rw [← hAe]; exact Or.inr h
  have hl := lv_entry As (n := maxL) hlen
  rw [lg_entry_eq]
  generalize (lg_sl As ++ List.replicate (maxL - (lg_sl As).length) Slot.unset).toArray = ls at hl ⊢
  refine body p e s m below meth c ls A _ _ rfl hA ⟨hx, hb, hml, hown, fun w hw => hts w (List.mem_cons_of_mem _ hw)⟩ ⟨hK, hP, hD, va_S.rf⟩ hl ?_
  intro H locs pc ls f2 v hw hv hdg
  exact W.zret hx hb hr (hnar v f2 hv) (fun t ht hW => ⟨⟨v, f2, rfl, hv, by rw [ht]; exact hw.2.1, va_K.moved hW.alike hw.1⟩, hw.2.2.2.F ht⟩) hw.2.2.2.2.2 hdg hlocks
theorem dw_ofL {l : Launch} {D : va_G} {cl : List vw_C} {tys : List (ClassId × FieldType)} {NC : Nat} {ce : Nat → (Nat → Nat) → va_E} {a : Nat → Nat} {y : MethodName} {bytes : ByteArray} {maxL : Nat} {Ts : List Cond} {fr lo : Nat} {As : List Value} {f : Nat → Nat → Nat} {post : Int64 → (Nat → Nat → Nat) → Prop} (hy : plainName y.cls = true) (hlen : (lg_sl As).length ≤ maxL)
    (body : ∀ (p : Program) (e : Env) (s : State) (m : MethodId) (below : List Frame) (meth : Method) (c : Code) (ls : Array Slot) (A : Nat → Prop) (Q : State → Prop) (R : Room), R = { frames := fr, cells := 0, slots := 0, locals := lo } → (∀ q : Nat, s.heap.size ≤ q → A q) → CallFix p m c bytes maxL s As.toArray Ts y.cls → dw_W D cl tys A s.heap (dw_l NC ce a f) s s.heap [] → lv_has ls maxL (lv_args 0 As) →
      (∀ (H : Heap) (locs : List Loc) (pc : Nat) (ls : Array Slot) (f2 : Nat → Nat → Nat) (v : Int64), dw_W D cl tys A s.heap (dw_l NC ce a f2) s H locs → post v f2 → decode bytes pc = .ok (.lreturn, 1) → W p l e R s m As.toArray below meth c H locs 0 0 Q (F0 m pc ls [.long v])) →
      W p l e R s m As.toArray below meth c s.heap [] 0 0 Q (F0 m 0 ls [])) : dw_CL l D cl tys NC ce a y (Cond.code y bytes maxL (some .long) :: Ts) fr lo As f post := by
  intro sz
  refine Met.ofW (cc := bytes) (maxL := maxL) (ret := some .long) hy rfl ?_
  intro p e s m args below meth c s₁ B hml hv
  obtain ⟨rfl, hsz, hP, hK, hD0⟩ := hv
  have hts := atoms_spec (ws := Cond.code y bytes maxL (some .long) :: Ts) B.pre
  have hown : s.vm.findClass y.cls = some m.cls := findClass_of_methodNamed B.named
  have hlocks := B.notSynchronized
  have hr := B.returns
  have hx := B.exec
  have hb := B.bytes
  subst hsz
  have hD := hD0.self (sz := s.heap.size)
  generalize hAe : va_A (dw_l NC ce a f) s.heap.size = A at hD ⊢
  have hA : ∀ q : Nat, s.heap.size ≤ q → A q := fun q h => by rw [← hAe]; exact Or.inr h
  have hl := lv_entry As (n := maxL) hlen
  rw [lg_entry_eq]
  generalize (lg_sl As ++ List.replicate (maxL - (lg_sl As).length) Slot.unset).toArray = ls at hl ⊢
  refine body p e s m below meth c ls A _ _ rfl hA ⟨hx, hb, hml, hown, fun w hw => hts w (List.mem_cons_of_mem _ hw)⟩ ⟨hK, hP, hD, va_S.rf⟩ hl ?_
  intro H locs pc ls f2 v hw hv hdg
  exact W.lret hx hb hr (fun t ht hW => ⟨⟨v, f2, rfl, hv, by rw [ht]; exact hw.2.1, va_K.moved hW.alike hw.1⟩, hw.2.2.2.F ht⟩) hw.2.2.2.2.2 hdg hlocks
theorem dw_ofV {l : Launch} {D : va_G} {cl : List vw_C} {tys : List (ClassId × FieldType)} {NC : Nat} {ce : Nat → (Nat → Nat) → va_E} {a : Nat → Nat} {y : MethodName} {bytes : ByteArray} {maxL : Nat} {Ts : List Cond} {fr lo : Nat} {As : List Value} {f : Nat → Nat → Nat} {post : (Nat → Nat → Nat) → Prop} (hy : plainName y.cls = true) (hlen : (lg_sl As).length ≤ maxL)
    (body : ∀ (p : Program) (e : Env) (s : State) (m : MethodId) (below : List Frame) (meth : Method) (c : Code) (ls : Array Slot) (A : Nat → Prop) (Q : State → Prop) (R : Room), R = { frames := fr, cells := 0, slots := 0, locals := lo } → (∀ q : Nat, s.heap.size ≤ q → A q) → CallFix p m c bytes maxL s As.toArray Ts y.cls → dw_W D cl tys A s.heap (dw_l NC ce a f) s s.heap [] → lv_has ls maxL (lv_args 0 As) →
      (∀ (H : Heap) (locs : List Loc) (pc : Nat) (ls : Array Slot) (f2 : Nat → Nat → Nat), dw_W D cl tys A s.heap (dw_l NC ce a f2) s H locs → post f2 → decode bytes pc = .ok (.return_, 1) → W p l e R s m As.toArray below meth c H locs 0 0 Q (F0 m pc ls [])) →
      W p l e R s m As.toArray below meth c s.heap [] 0 0 Q (F0 m 0 ls [])) : dw_CV l D cl tys NC ce a y (Cond.code y bytes maxL none :: Ts) fr lo As f post := by
  intro sz
  refine Met.ofW (cc := bytes) (maxL := maxL) (ret := none) hy rfl ?_
  intro p e s m args below meth c s₁ B hml hv
  obtain ⟨rfl, hsz, hP, hK, hD0⟩ := hv
  have hts := atoms_spec (ws := Cond.code y bytes maxL none :: Ts) B.pre
  have hown : s.vm.findClass y.cls = some m.cls := findClass_of_methodNamed B.named
  have hlocks := B.notSynchronized
  have hr := B.returns
  have hx := B.exec
  have hb := B.bytes
  subst hsz
  have hD := hD0.self (sz := s.heap.size)
  generalize hAe : va_A (dw_l NC ce a f) s.heap.size = A at hD ⊢
  have hA : ∀ q : Nat, s.heap.size ≤ q → A q := fun q h => by rw [← hAe]; exact Or.inr h
  have hl := lv_entry As (n := maxL) hlen
  rw [lg_entry_eq]
  generalize (lg_sl As ++ List.replicate (maxL - (lg_sl As).length) Slot.unset).toArray = ls at hl ⊢
  refine body p e s m below meth c ls A _ _ rfl hA ⟨hx, hb, hml, hown, fun w hw => hts w (List.mem_cons_of_mem _ hw)⟩ ⟨hK, hP, hD, va_S.rf⟩ hl ?_
  intro H locs pc ls f2 hw hv hdg
  exact W.vret hx hb hr (fun t ht hW => ⟨⟨f2, rfl, hv, by rw [ht]; exact hw.2.1, va_K.moved hW.alike hw.1⟩, hw.2.2.2.F ht⟩) hw.2.2.2.2.2 hdg hlocks
end
