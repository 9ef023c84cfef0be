section
/-- a private method of a class that the tables say can be made, by its rows of tables_1 -/
def lw_okq (q : MethodName × Nat) : Prop := (q.1.cls ≠ "java/lang/invoke/MethodHandle" ∧ q.1.cls ≠ "java/lang/invoke/VarHandle") ∧ Cond.instantiable q.1.cls q.2 ∈ tables_1 ∧ Cond.privateMethod q.1 ∈ tables_1 ∧ Cond.instanceMethod q.1 ∈ tables_1
theorem lw_p0 : lw_okq (⟨"DaySwaps$Day", "isVehicle", "(I)Z"⟩, 17) := ⟨⟨by decide +kernel, by decide +kernel⟩, List.mem_of_getElem? (i := 19) (by decide +kernel), List.mem_of_getElem? (i := 162) (by decide +kernel), List.mem_of_getElem? (i := 163) (by decide +kernel)⟩
theorem lw_p1 : lw_okq (⟨"DaySwaps$Day", "tell", "(III)I"⟩, 17) := ⟨⟨by decide +kernel, by decide +kernel⟩, List.mem_of_getElem? (i := 19) (by decide +kernel), List.mem_of_getElem? (i := 170) (by decide +kernel), List.mem_of_getElem? (i := 171) (by decide +kernel)⟩
theorem lw_p2 : lw_okq (⟨"DaySwaps$Day", "append", "(II)V"⟩, 17) := ⟨⟨by decide +kernel, by decide +kernel⟩, List.mem_of_getElem? (i := 19) (by decide +kernel), List.mem_of_getElem? (i := 174) (by decide +kernel), List.mem_of_getElem? (i := 175) (by decide +kernel)⟩
theorem lw_p3 : lw_okq (⟨"DaySwaps$Day", "isStop", "(I)Z"⟩, 17) := ⟨⟨by decide +kernel, by decide +kernel⟩, List.mem_of_getElem? (i := 19) (by decide +kernel), List.mem_of_getElem? (i := 182) (by decide +kernel), List.mem_of_getElem? (i := 183) (by decide +kernel)⟩
theorem lw_p4 : lw_okq (⟨"DaySwaps$Search", "least", "()J"⟩, 3) := ⟨⟨by decide +kernel, by decide +kernel⟩, List.mem_of_getElem? (i := 99) (by decide +kernel), List.mem_of_getElem? (i := 211) (by decide +kernel), List.mem_of_getElem? (i := 212) (by decide +kernel)⟩
theorem lw_p5 : lw_okq (⟨"DaySwaps$Search", "weightOf", "(II)J"⟩, 3) := ⟨⟨by decide +kernel, by decide +kernel⟩, List.mem_of_getElem? (i := 99) (by decide +kernel), List.mem_of_getElem? (i := 215) (by decide +kernel), List.mem_of_getElem? (i := 216) (by decide +kernel)⟩
theorem lw_p6 : lw_okq (⟨"DaySwaps$Day", "mayHave", "(II)Z"⟩, 17) := ⟨⟨by decide +kernel, by decide +kernel⟩, List.mem_of_getElem? (i := 19) (by decide +kernel), List.mem_of_getElem? (i := 222) (by decide +kernel), List.mem_of_getElem? (i := 223) (by decide +kernel)⟩
theorem lw_p7 : lw_okq (⟨"DaySwaps$Day", "canDo", "(II)Z"⟩, 17) := ⟨⟨by decide +kernel, by decide +kernel⟩, List.mem_of_getElem? (i := 19) (by decide +kernel), List.mem_of_getElem? (i := 226) (by decide +kernel), List.mem_of_getElem? (i := 227) (by decide +kernel)⟩
theorem lw_p8 : lw_okq (⟨"DaySwaps$Day", "timeOf", "(II)I"⟩, 17) := ⟨⟨by decide +kernel, by decide +kernel⟩, List.mem_of_getElem? (i := 19) (by decide +kernel), List.mem_of_getElem? (i := 235) (by decide +kernel), List.mem_of_getElem? (i := 236) (by decide +kernel)⟩
theorem lw_p9 : lw_okq (⟨"DaySwaps$Day", "addRound", "(II[II)I"⟩, 17) := ⟨⟨by decide +kernel, by decide +kernel⟩, List.mem_of_getElem? (i := 19) (by decide +kernel), List.mem_of_getElem? (i := 239) (by decide +kernel), List.mem_of_getElem? (i := 240) (by decide +kernel)⟩
theorem lw_p10 : lw_okq (⟨"DaySwaps$Day", "overHours", "(II)I"⟩, 17) := ⟨⟨by decide +kernel, by decide +kernel⟩, List.mem_of_getElem? (i := 19) (by decide +kernel), List.mem_of_getElem? (i := 244) (by decide +kernel), List.mem_of_getElem? (i := 245) (by decide +kernel)⟩
theorem lw_p11 : lw_okq (⟨"DaySwaps$Search", "join", "(I)V"⟩, 3) := ⟨⟨by decide +kernel, by decide +kernel⟩, List.mem_of_getElem? (i := 99) (by decide +kernel), List.mem_of_getElem? (i := 251) (by decide +kernel), List.mem_of_getElem? (i := 252) (by decide +kernel)⟩
theorem lw_p12 : lw_okq (⟨"DaySwaps", "whyNoPlan", "()I"⟩, 7) := ⟨⟨by decide +kernel, by decide +kernel⟩, List.mem_of_getElem? (i := 11) (by decide +kernel), List.mem_of_getElem? (i := 259) (by decide +kernel), List.mem_of_getElem? (i := 260) (by decide +kernel)⟩
theorem lw_p13 : lw_okq (⟨"DaySwaps$Shelf", "putLatest", "([II)V"⟩, 3) := ⟨⟨by decide +kernel, by decide +kernel⟩, List.mem_of_getElem? (i := 116) (by decide +kernel), List.mem_of_getElem? (i := 264) (by decide +kernel), List.mem_of_getElem? (i := 265) (by decide +kernel)⟩
theorem lw_p14 : lw_okq (⟨"DaySwaps", "movedSet", "()I"⟩, 7) := ⟨⟨by decide +kernel, by decide +kernel⟩, List.mem_of_getElem? (i := 11) (by decide +kernel), List.mem_of_getElem? (i := 274) (by decide +kernel), List.mem_of_getElem? (i := 275) (by decide +kernel)⟩
theorem lw_p15 : lw_okq (⟨"DaySwaps", "setOf", "(I)I"⟩, 7) := ⟨⟨by decide +kernel, by decide +kernel⟩, List.mem_of_getElem? (i := 11) (by decide +kernel), List.mem_of_getElem? (i := 292) (by decide +kernel), List.mem_of_getElem? (i := 293) (by decide +kernel)⟩
def lw_privs_1 : List (MethodName × Nat) := [(⟨"DaySwaps$Day", "isVehicle", "(I)Z"⟩, 17), (⟨"DaySwaps$Day", "tell", "(III)I"⟩, 17), (⟨"DaySwaps$Day", "append", "(II)V"⟩, 17), (⟨"DaySwaps$Day", "isStop", "(I)Z"⟩, 17), (⟨"DaySwaps$Search", "least", "()J"⟩, 3), (⟨"DaySwaps$Search", "weightOf", "(II)J"⟩, 3), (⟨"DaySwaps$Day", "mayHave", "(II)Z"⟩, 17), (⟨"DaySwaps$Day", "canDo", "(II)Z"⟩, 17), (⟨"DaySwaps$Day", "timeOf", "(II)I"⟩, 17), (⟨"DaySwaps$Day", "addRound", "(II[II)I"⟩, 17), (⟨"DaySwaps$Day", "overHours", "(II)I"⟩, 17), (⟨"DaySwaps$Search", "join", "(I)V"⟩, 3), (⟨"DaySwaps", "whyNoPlan", "()I"⟩, 7), (⟨"DaySwaps$Shelf", "putLatest", "([II)V"⟩, 3), (⟨"DaySwaps", "movedSet", "()I"⟩, 7), (⟨"DaySwaps", "setOf", "(I)I"⟩, 7)]
theorem lw_r1 : ∀ q ∈ lw_privs_1, lw_okq q := List.forall_mem_cons.mpr ⟨lw_p0, List.forall_mem_cons.mpr ⟨lw_p1, List.forall_mem_cons.mpr ⟨lw_p2, List.forall_mem_cons.mpr ⟨lw_p3, List.forall_mem_cons.mpr ⟨lw_p4, List.forall_mem_cons.mpr ⟨lw_p5, List.forall_mem_cons.mpr ⟨lw_p6, List.forall_mem_cons.mpr ⟨lw_p7, List.forall_mem_cons.mpr ⟨lw_p8, List.forall_mem_cons.mpr ⟨lw_p9, List.forall_mem_cons.mpr ⟨lw_p10, List.forall_mem_cons.mpr ⟨lw_p11, List.forall_mem_cons.mpr ⟨lw_p12, List.forall_mem_cons.mpr ⟨lw_p13, List.forall_mem_cons.mpr ⟨lw_p14, List.forall_mem_cons.mpr ⟨lw_p15, fun _ h => absurd h List.not_mem_nil⟩⟩⟩⟩⟩⟩⟩⟩⟩⟩⟩⟩⟩⟩⟩⟩
theorem lw_p16 : lw_okq (⟨"DaySwaps$Day", "placeInRound", "(III)I"⟩, 17) := ⟨⟨by decide +kernel, by decide +kernel⟩, List.mem_of_getElem? (i := 19) (by decide +kernel), List.mem_of_getElem? (i := 296) (by decide +kernel), List.mem_of_getElem? (i := 297) (by decide +kernel)⟩
theorem lw_p17 : lw_okq (⟨"DaySwaps$Day", "prepareRow", "(III)V"⟩, 17) := ⟨⟨by decide +kernel, by decide +kernel⟩, List.mem_of_getElem? (i := 19) (by decide +kernel), List.mem_of_getElem? (i := 346) (by decide +kernel), List.mem_of_getElem? (i := 347) (by decide +kernel)⟩
theorem lw_p18 : lw_okq (⟨"DaySwaps$Day", "turn", "()V"⟩, 17) := ⟨⟨by decide +kernel, by decide +kernel⟩, List.mem_of_getElem? (i := 19) (by decide +kernel), List.mem_of_getElem? (i := 350) (by decide +kernel), List.mem_of_getElem? (i := 351) (by decide +kernel)⟩
theorem lw_p19 : lw_okq (⟨"DaySwapsModel", "isVehicle", "(I)Z"⟩, 28) := ⟨⟨by decide +kernel, by decide +kernel⟩, List.mem_of_getElem? (i := 357) (by decide +kernel), List.mem_of_getElem? (i := 452) (by decide +kernel), List.mem_of_getElem? (i := 453) (by decide +kernel)⟩
theorem lw_p20 : lw_okq (⟨"DaySwapsModel", "isStop", "(I)Z"⟩, 28) := ⟨⟨by decide +kernel, by decide +kernel⟩, List.mem_of_getElem? (i := 357) (by decide +kernel), List.mem_of_getElem? (i := 465) (by decide +kernel), List.mem_of_getElem? (i := 466) (by decide +kernel)⟩
theorem lw_p21 : lw_okq (⟨"DaySwapsModel", "costOf", "([I)J"⟩, 28) := ⟨⟨by decide +kernel, by decide +kernel⟩, List.mem_of_getElem? (i := 357) (by decide +kernel), List.mem_of_getElem? (i := 495) (by decide +kernel), List.mem_of_getElem? (i := 496) (by decide +kernel)⟩
theorem lw_p22 : lw_okq (⟨"DaySwapsModel", "timeOf", "([II)I"⟩, 28) := ⟨⟨by decide +kernel, by decide +kernel⟩, List.mem_of_getElem? (i := 357) (by decide +kernel), List.mem_of_getElem? (i := 499) (by decide +kernel), List.mem_of_getElem? (i := 500) (by decide +kernel)⟩
theorem lw_p23 : lw_okq (⟨"DaySwapsModel", "go", "([II)V"⟩, 28) := ⟨⟨by decide +kernel, by decide +kernel⟩, List.mem_of_getElem? (i := 357) (by decide +kernel), List.mem_of_getElem? (i := 503) (by decide +kernel), List.mem_of_getElem? (i := 504) (by decide +kernel)⟩
theorem lw_p24 : lw_okq (⟨"DaySwapsModel", "overtimeOf", "([II)I"⟩, 28) := ⟨⟨by decide +kernel, by decide +kernel⟩, List.mem_of_getElem? (i := 357) (by decide +kernel), List.mem_of_getElem? (i := 507) (by decide +kernel), List.mem_of_getElem? (i := 508) (by decide +kernel)⟩
theorem lw_p25 : lw_okq (⟨"DaySwapsModel", "movedBy", "([I)I"⟩, 28) := ⟨⟨by decide +kernel, by decide +kernel⟩, List.mem_of_getElem? (i := 357) (by decide +kernel), List.mem_of_getElem? (i := 519) (by decide +kernel), List.mem_of_getElem? (i := 520) (by decide +kernel)⟩
theorem lw_p26 : lw_okq (⟨"DaySwapsModel", "holdsApart", "()Z"⟩, 28) := ⟨⟨by decide +kernel, by decide +kernel⟩, List.mem_of_getElem? (i := 357) (by decide +kernel), List.mem_of_getElem? (i := 523) (by decide +kernel), List.mem_of_getElem? (i := 524) (by decide +kernel)⟩
theorem lw_p27 : lw_okq (⟨"DaySwapsModel", "can", "(II)Z"⟩, 28) := ⟨⟨by decide +kernel, by decide +kernel⟩, List.mem_of_getElem? (i := 357) (by decide +kernel), List.mem_of_getElem? (i := 527) (by decide +kernel), List.mem_of_getElem? (i := 528) (by decide +kernel)⟩
theorem lw_p28 : lw_okq (⟨"DaySwapsModel", "holdsOvertime", "()Z"⟩, 28) := ⟨⟨by decide +kernel, by decide +kernel⟩, List.mem_of_getElem? (i := 357) (by decide +kernel), List.mem_of_getElem? (i := 531) (by decide +kernel), List.mem_of_getElem? (i := 532) (by decide +kernel)⟩
theorem lw_p29 : lw_okq (⟨"DaySwapsModel", "turn", "()Z"⟩, 28) := ⟨⟨by decide +kernel, by decide +kernel⟩, List.mem_of_getElem? (i := 357) (by decide +kernel), List.mem_of_getElem? (i := 535) (by decide +kernel), List.mem_of_getElem? (i := 536) (by decide +kernel)⟩
theorem lw_p30 : lw_okq (⟨"DaySwapsModel", "why", "()I"⟩, 28) := ⟨⟨by decide +kernel, by decide +kernel⟩, List.mem_of_getElem? (i := 357) (by decide +kernel), List.mem_of_getElem? (i := 539) (by decide +kernel), List.mem_of_getElem? (i := 540) (by decide +kernel)⟩
theorem lw_p31 : lw_okq (⟨"DaySwapsModel", "keep", "()V"⟩, 28) := ⟨⟨by decide +kernel, by decide +kernel⟩, List.mem_of_getElem? (i := 357) (by decide +kernel), List.mem_of_getElem? (i := 543) (by decide +kernel), List.mem_of_getElem? (i := 544) (by decide +kernel)⟩
def lw_privs_2 : List (MethodName × Nat) := [(⟨"DaySwaps$Day", "placeInRound", "(III)I"⟩, 17), (⟨"DaySwaps$Day", "prepareRow", "(III)V"⟩, 17), (⟨"DaySwaps$Day", "turn", "()V"⟩, 17), (⟨"DaySwapsModel", "isVehicle", "(I)Z"⟩, 28), (⟨"DaySwapsModel", "isStop", "(I)Z"⟩, 28), (⟨"DaySwapsModel", "costOf", "([I)J"⟩, 28), (⟨"DaySwapsModel", "timeOf", "([II)I"⟩, 28), (⟨"DaySwapsModel", "go", "([II)V"⟩, 28), (⟨"DaySwapsModel", "overtimeOf", "([II)I"⟩, 28), (⟨"DaySwapsModel", "movedBy", "([I)I"⟩, 28), (⟨"DaySwapsModel", "holdsApart", "()Z"⟩, 28), (⟨"DaySwapsModel", "can", "(II)Z"⟩, 28), (⟨"DaySwapsModel", "holdsOvertime", "()Z"⟩, 28), (⟨"DaySwapsModel", "turn", "()Z"⟩, 28), (⟨"DaySwapsModel", "why", "()I"⟩, 28), (⟨"DaySwapsModel", "keep", "()V"⟩, 28)]
theorem lw_r2 : ∀ q ∈ lw_privs_2, lw_okq q := List.forall_mem_cons.mpr ⟨lw_p16, List.forall_mem_cons.mpr ⟨lw_p17, List.forall_mem_cons.mpr ⟨lw_p18, List.forall_mem_cons.mpr ⟨lw_p19, List.forall_mem_cons.mpr ⟨lw_p20, List.forall_mem_cons.mpr ⟨lw_p21, List.forall_mem_cons.mpr ⟨lw_p22, List.forall_mem_cons.mpr ⟨lw_p23, List.forall_mem_cons.mpr ⟨lw_p24, List.forall_mem_cons.mpr ⟨lw_p25, List.forall_mem_cons.mpr ⟨lw_p26, List.forall_mem_cons.mpr ⟨lw_p27, List.forall_mem_cons.mpr ⟨lw_p28, List.forall_mem_cons.mpr ⟨lw_p29, List.forall_mem_cons.mpr ⟨lw_p30, List.forall_mem_cons.mpr ⟨lw_p31, fun _ h => absurd h List.not_mem_nil⟩⟩⟩⟩⟩⟩⟩⟩⟩⟩⟩⟩⟩⟩⟩⟩
def lw_privs : List (MethodName × Nat) := lw_privs_1 ++ (lw_privs_2)
def lw_tbl : List Cond := k2_sels lw_privs ++ tables_1
theorem lw_privs_ok : ∀ q ∈ lw_privs, lw_okq q := by
  show ∀ q ∈ lw_privs_1 ++ (lw_privs_2), lw_okq q
  exact List.forall_mem_append.mpr ⟨lw_r1, lw_r2⟩
end
section
/-! numbers: rows over nI and lN -/
theorem dn_and (a b : Nat) : nI a &&& nI b = nI (a &&& b) := by
  apply Int32.toBitVec_inj.1
  show BitVec.ofNat 32 a &&& BitVec.ofNat 32 b = BitVec.ofNat 32 (a &&& b)
  apply BitVec.eq_of_getLsbD_eq
  intro i hi
  simp [hi]
theorem dn_or (a b : Nat) : nI a ||| nI b = nI (a ||| b) := by
  apply Int32.toBitVec_inj.1
  show BitVec.ofNat 32 a ||| BitVec.ofNat 32 b = BitVec.ofNat 32 (a ||| b)
  apply BitVec.eq_of_getLsbD_eq
  intro i hi
  simp [hi]
theorem dn_xor (a b : Nat) : nI a ^^^ nI b = nI (a ^^^ b) := by
  apply Int32.toBitVec_inj.1
  show BitVec.ofNat 32 a ^^^ BitVec.ofNat 32 b = BitVec.ofNat 32 (a ^^^ b)
  apply BitVec.eq_of_getLsbD_eq
  intro i hi
  simp [hi]
theorem dn_amt : ∀ n, n < 32 → ((nI n &&& 31).toBitVec.smod 32).toNat = n := by decide +kernel
theorem dn_amtL : ∀ n, n < 64 → ((((nI n).toInt64 &&& 63) : Int64).toBitVec.smod 64).toNat = n := by decide +kernel
theorem dn_amtB : ∀ n, n < 64 → (((nI n).toInt64 &&& 63) : Int64).toBitVec.smod 64 = BitVec.ofNat 64 n := by decide +kernel
theorem dn_shl {n k : Nat} (hk : k < 32) (h : n * 2 ^ k < 2 ^ 32) : nI n <<< (nI k &&& 31) = nI (n * 2 ^ k) := pk_shlN _ k (dn_amt k hk) h
theorem dn_shr {n k : Nat} (hk : k < 32) (h : n < 2 ^ 31) : nI n >>> (nI k &&& 31) = nI (n / 2 ^ k) := pk_shrN h _ k (dn_amt k hk)
theorem dn_lbv (n : Nat) : (lN n).toBitVec = BitVec.ofNat 64 n := rfl
theorem dn_linj {a b : Int64} (h : a.toBitVec = b.toBitVec) : a = b := Int64.toBitVec_inj.mp h
theorem dn_lshl (n : Nat) {k : Nat} (hk : k < 64) : lN n <<< ((nI k).toInt64 &&& 63) = lN (n * 2 ^ k) := by
  apply dn_linj
  rw [Int64.toBitVec_shiftLeft]
  show (lN n).toBitVec <<< (((nI k).toInt64 &&& 63).toBitVec.smod 64) = (lN (n * 2 ^ k)).toBitVec
  rw [dn_amtB k hk, dn_lbv, dn_lbv, BitVec.shiftLeft_eq']
  apply BitVec.eq_of_toNat_eq
  rw [BitVec.toNat_shiftLeft, BitVec.toNat_ofNat, BitVec.toNat_ofNat, BitVec.toNat_ofNat, Nat.shiftLeft_eq, Nat.mod_eq_of_lt (show k < 2 ^ 64 by omega)]
  simp [Nat.mod_mul_mod]
theorem dn_lI {a : Nat} (h : a < 2 ^ 63) : (lN a).toInt = (a : Int) := pk_lT h
theorem dn_lshr {a k : Nat} (hk : k < 64) (h : a < 2 ^ 63) : lN a >>> ((nI k).toInt64 &&& 63) = lN (a / 2 ^ k) := by
  apply Int64.toInt_inj.mp
  rw [dn_lI (Nat.lt_of_le_of_lt (Nat.div_le_self _ _) h)]
  show ((lN a) >>> ((nI k).toInt64 &&& 63)).toBitVec.toInt = _
  rw [Int64.toBitVec_shiftRight]
  show ((lN a).toBitVec.sshiftRight (((nI k).toInt64 &&& 63).toBitVec.smod 64).toNat).toInt = _
  rw [dn_amtL k hk, BitVec.toInt_sshiftRight]
  show (lN a).toInt >>> k = _
  rw [dn_lI h]
  simp [Int.shiftRight_eq_div_pow]
def dn_b (P : Prop) [Decidable P] : Nat := if P then 1 else 0
theorem dn_b1 {P : Prop} [Decidable P] (h : P) : dn_b P = 1 := if_pos h
theorem dn_b0 {P : Prop} [Decidable P] (h : ¬ P) : dn_b P = 0 := if_neg h
theorem dn_ble {P : Prop} [Decidable P] : dn_b P ≤ 1 := by unfold dn_b; split <;> omega
theorem dn_bz {P : Prop} [Decidable P] : nI (dn_b P) = 0 ↔ ¬ P := by
  by_cases h : P
  · rw [dn_b1 h]; exact ⟨fun q => absurd q (by decide), fun q => absurd h q⟩
  · rw [dn_b0 h]; exact ⟨fun _ => h, fun _ => rfl⟩
theorem dn_nar {P : Prop} [Decidable P] : narrow .boolean (.int (nI (dn_b P))) = .int (nI (dn_b P)) := by
  by_cases h : P
  · rw [dn_b1 h]; rfl
  · rw [dn_b0 h]; rfl
section
variable {p : Program} {l : Launch} {e : Env} {R : Room} {s : State} {m : MethodId} {args : Array Value} {below : List Frame} {meth : Method} {c : Code} {H : Heap} {locs : List Loc} {cells slots : Nat} {Q : State → Prop} {cc : ByteArray} {pc : Nat} {ls : Array Slot} {rest : List Value}
theorem dn_iadd (hx : p.tables.exec = Jvm.exec) (hb : c.code = cc) {x y : Nat} (hdg : decode cc pc = .ok (.iadd, 1)) (k : W p l e R s m args below meth c H locs cells slots Q (F0 m (pc + 1) ls (.int (nI (x + y)) :: rest))) : W p l e R s m args below meth c H locs cells slots Q (F0 m pc ls (.int (nI y) :: .int (nI x) :: rest)) := lv_iadd hx hb hdg (by rw [nI_add]; exact k)
theorem dn_isub (hx : p.tables.exec = Jvm.exec) (hb : c.code = cc) {x y : Nat} (h : y ≤ x) (hdg : decode cc pc = .ok (.isub, 1)) (k : W p l e R s m args below meth c H locs cells slots Q (F0 m (pc + 1) ls (.int (nI (x - y)) :: rest))) : W p l e R s m args below meth c H locs cells slots Q (F0 m pc ls (.int (nI y) :: .int (nI x) :: rest)) := lv_isub hx hb hdg (by rw [pk_sub h]; exact k)
theorem dn_imul (hx : p.tables.exec = Jvm.exec) (hb : c.code = cc) {x y : Nat} (hdg : decode cc pc = .ok (.imul, 1)) (k : W p l e R s m args below meth c H locs cells slots Q (F0 m (pc + 1) ls (.int (nI (x * y)) :: rest))) : W p l e R s m args below meth c H locs cells slots Q (F0 m pc ls (.int (nI y) :: .int (nI x) :: rest)) := lv_imul hx hb hdg (by rw [pk_mul]; exact k)
theorem dn_iand (hx : p.tables.exec = Jvm.exec) (hb : c.code = cc) {x y : Nat} (hdg : decode cc pc = .ok (.iand, 1)) (k : W p l e R s m args below meth c H locs cells slots Q (F0 m (pc + 1) ls (.int (nI (x &&& y)) :: rest))) : W p l e R s m args below meth c H locs cells slots Q (F0 m pc ls (.int (nI y) :: .int (nI x) :: rest)) := lv_iand hx hb hdg (by rw [dn_and]; exact k)
theorem dn_ior (hx : p.tables.exec = Jvm.exec) (hb : c.code = cc) {x y : Nat} (hdg : decode cc pc = .ok (.ior, 1)) (k : W p l e R s m args below meth c H locs cells slots Q (F0 m (pc + 1) ls (.int (nI (x ||| y)) :: rest))) : W p l e R s m args below meth c H locs cells slots Q (F0 m pc ls (.int (nI y) :: .int (nI x) :: rest)) := lv_ior hx hb hdg (by rw [dn_or]; exact k)
theorem dn_ixor (hx : p.tables.exec = Jvm.exec) (hb : c.code = cc) {x y : Nat} (hdg : decode cc pc = .ok (.ixor, 1)) (k : W p l e R s m args below meth c H locs cells slots Q (F0 m (pc + 1) ls (.int (nI (x ^^^ y)) :: rest))) : W p l e R s m args below meth c H locs cells slots Q (F0 m pc ls (.int (nI y) :: .int (nI x) :: rest)) := lv_ixor hx hb hdg (by rw [dn_xor]; exact k)
theorem dn_ishl (hx : p.tables.exec = Jvm.exec) (hb : c.code = cc) {x y : Nat} (h1 : y < 32) (h2 : x * 2 ^ y < 2 ^ 32) (hdg : decode cc pc = .ok (.ishl, 1)) (k : W p l e R s m args below meth c H locs cells slots Q (F0 m (pc + 1) ls (.int (nI (x * 2 ^ y)) :: rest))) : W p l e R s m args below meth c H locs cells slots Q (F0 m pc ls (.int (nI y) :: .int (nI x) :: rest)) := lv_ishl hx hb hdg (by rw [dn_shl h1 h2]; exact k)
theorem dn_ishr (hx : p.tables.exec = Jvm.exec) (hb : c.code = cc) {x y : Nat} (h1 : y < 32) (h2 : x < 2 ^ 31) (hdg : decode cc pc = .ok (.ishr, 1)) (k : W p l e R s m args below meth c H locs cells slots Q (F0 m (pc + 1) ls (.int (nI (x / 2 ^ y)) :: rest))) : W p l e R s m args below meth c H locs cells slots Q (F0 m pc ls (.int (nI y) :: .int (nI x) :: rest)) := lv_ishr hx hb hdg (by rw [dn_shr h1 h2]; exact k)
theorem dn_ladd (hx : p.tables.exec = Jvm.exec) (hb : c.code = cc) {x y : Nat} (hdg : decode cc pc = .ok (.ladd, 1)) (k : W p l e R s m args below meth c H locs cells slots Q (F0 m (pc + 1) ls (.long (lN (x + y)) :: rest))) : W p l e R s m args below meth c H locs cells slots Q (F0 m pc ls (.long (lN y) :: .long (lN x) :: rest)) := lv_ladd hx hb hdg (by rw [lN_add]; exact k)
theorem dn_i2l (hx : p.tables.exec = Jvm.exec) (hb : c.code = cc) {x : Nat} (h : x < 2 ^ 31) (hdg : decode cc pc = .ok (.i2l, 1)) (k : W p l e R s m args below meth c H locs cells slots Q (F0 m (pc + 1) ls (.long (lN x) :: rest))) : W p l e R s m args below meth c H locs cells slots Q (F0 m pc ls (.int (nI x) :: rest)) := lv_i2l hx hb hdg (nI_l h) k
theorem dn_l2i (hx : p.tables.exec = Jvm.exec) (hb : c.code = cc) {x : Nat} (hdg : decode cc pc = .ok (.l2i, 1)) (k : W p l e R s m args below meth c H locs cells slots Q (F0 m (pc + 1) ls (.int (nI x) :: rest))) : W p l e R s m args below meth c H locs cells slots Q (F0 m pc ls (.long (lN x) :: rest)) := lv_l2i hx hb hdg (lN_i x) k
theorem dn_lshlR (hx : p.tables.exec = Jvm.exec) (hb : c.code = cc) {x y : Nat} (h1 : y < 64) (hdg : decode cc pc = .ok (.lshl, 1)) (k : W p l e R s m args below meth c H locs cells slots Q (F0 m (pc + 1) ls (.long (lN (x * 2 ^ y)) :: rest))) : W p l e R s m args below meth c H locs cells slots Q (F0 m pc ls (.int (nI y) :: .long (lN x) :: rest)) := lv_lshl hx hb hdg (dn_lshl x h1) k
theorem dn_lshrR (hx : p.tables.exec = Jvm.exec) (hb : c.code = cc) {x y : Nat} (h1 : y < 64) (h2 : x < 2 ^ 63) (hdg : decode cc pc = .ok (.lshr, 1)) (k : W p l e R s m args below meth c H locs cells slots Q (F0 m (pc + 1) ls (.long (lN (x / 2 ^ y)) :: rest))) : W p l e R s m args below meth c H locs cells slots Q (F0 m pc ls (.int (nI y) :: .long (lN x) :: rest)) := lv_lshr hx hb hdg (dn_lshr h1 h2) k
theorem dn_icmp_eq (hx : p.tables.exec = Jvm.exec) (hb : c.code = cc) {x y : Nat} {off : Int} (tgt : Nat) (h1 : x < 2 ^ 31) (h2 : y < 2 ^ 31) (hdg : decode cc pc = .ok (.if_icmp .eq off, 3)) (ht : (pc : Int) + off = (tgt : Int)) (kt : x = y → W p l e R s m args below meth c H locs cells slots Q (F0 m tgt ls rest)) (kf : x ≠ y → W p l e R s m args below meth c H locs cells slots Q (F0 m (pc + 3) ls rest)) : W p l e R s m args below meth c H locs cells slots Q (F0 m pc ls (.int (nI y) :: .int (nI x) :: rest)) := lv_icmp_eq hx hb hdg ht (fun h => kt ((nI_eq h1 h2).mp h)) (fun h => kf (fun q => h ((nI_eq h1 h2).mpr q)))
theorem dn_icmp_ne (hx : p.tables.exec = Jvm.exec) (hb : c.code = cc) {x y : Nat} {off : Int} (tgt : Nat) (h1 : x < 2 ^ 31) (h2 : y < 2 ^ 31) (hdg : decode cc pc = .ok (.if_icmp .ne off, 3)) (ht : (pc : Int) + off = (tgt : Int)) (kt : x ≠ y → W p l e R s m args below meth c H locs cells slots Q (F0 m tgt ls rest)) (kf : x = y → W p l e R s m args below meth c H locs cells slots Q (F0 m (pc + 3) ls rest)) : W p l e R s m args below meth c H locs cells slots Q (F0 m pc ls (.int (nI y) :: .int (nI x) :: rest)) := lv_icmp_ne hx hb hdg ht (fun h => kt (fun q => h ((nI_eq h1 h2).mpr q))) (fun h => kf ((nI_eq h1 h2).mp h))
theorem dn_icmp_lt (hx : p.tables.exec = Jvm.exec) (hb : c.code = cc) {x y : Nat} {off : Int} (tgt : Nat) (h1 : x < 2 ^ 31) (h2 : y < 2 ^ 31) (hdg : decode cc pc = .ok (.if_icmp .lt off, 3)) (ht : (pc : Int) + off = (tgt : Int)) (kt : x < y → W p l e R s m args below meth c H locs cells slots Q (F0 m tgt ls rest)) (kf : y ≤ x → W p l e R s m args below meth c H locs cells slots Q (F0 m (pc + 3) ls rest)) : W p l e R s m args below meth c H locs cells slots Q (F0 m pc ls (.int (nI y) :: .int (nI x) :: rest)) := lv_icmp_lt hx hb hdg ht (fun h => kt ((nI_ltI h1 h2).mp h)) (fun h => kf (Nat.not_lt.mp (fun q => h ((nI_ltI h1 h2).mpr q))))
theorem dn_icmp_ge (hx : p.tables.exec = Jvm.exec) (hb : c.code = cc) {x y : Nat} {off : Int} (tgt : Nat) (h1 : x < 2 ^ 31) (h2 : y < 2 ^ 31) (hdg : decode cc pc = .ok (.if_icmp .ge off, 3)) (ht : (pc : Int) + off = (tgt : Int)) (kt : y ≤ x → W p l e R s m args below meth c H locs cells slots Q (F0 m tgt ls rest)) (kf : x < y → W p l e R s m args below meth c H locs cells slots Q (F0 m (pc + 3) ls rest)) : W p l e R s m args below meth c H locs cells slots Q (F0 m pc ls (.int (nI y) :: .int (nI x) :: rest)) := lv_icmp_ge hx hb hdg ht (fun h => kt ((nI_leI h2 h1).mp h)) (fun h => kf (Nat.not_le.mp (fun q => h ((nI_leI h2 h1).mpr q))))
theorem dn_icmp_gt (hx : p.tables.exec = Jvm.exec) (hb : c.code = cc) {x y : Nat} {off : Int} (tgt : Nat) (h1 : x < 2 ^ 31) (h2 : y < 2 ^ 31) (hdg : decode cc pc = .ok (.if_icmp .gt off, 3)) (ht : (pc : Int) + off = (tgt : Int)) (kt : y < x → W p l e R s m args below meth c H locs cells slots Q (F0 m tgt ls rest)) (kf : x ≤ y → W p l e R s m args below meth c H locs cells slots Q (F0 m (pc + 3) ls rest)) : W p l e R s m args below meth c H locs cells slots Q (F0 m pc ls (.int (nI y) :: .int (nI x) :: rest)) := lv_icmp_gt hx hb hdg ht (fun h => kt ((nI_ltI h2 h1).mp h)) (fun h => kf (Nat.not_lt.mp (fun q => h ((nI_ltI h2 h1).mpr q))))
theorem dn_icmp_le (hx : p.tables.exec = Jvm.exec) (hb : c.code = cc) {x y : Nat} {off : Int} (tgt : Nat) (h1 : x < 2 ^ 31) (h2 : y < 2 ^ 31) (hdg : decode cc pc = .ok (.if_icmp .le off, 3)) (ht : (pc : Int) + off = (tgt : Int)) (kt : x ≤ y → W p l e R s m args below meth c H locs cells slots Q (F0 m tgt ls rest)) (kf : y < x → W p l e R s m args below meth c H locs cells slots Q (F0 m (pc + 3) ls rest)) : W p l e R s m args below meth c H locs cells slots Q (F0 m pc ls (.int (nI y) :: .int (nI x) :: rest)) := lv_icmp_le hx hb hdg ht (fun h => kt ((nI_leI h1 h2).mp h)) (fun h => kf (Nat.not_le.mp (fun q => h ((nI_leI h1 h2).mpr q))))
theorem dn_if_eq (hx : p.tables.exec = Jvm.exec) (hb : c.code = cc) {x : Nat} {off : Int} (tgt : Nat) (h1 : x < 2 ^ 31) (hdg : decode cc pc = .ok (.ifCond .eq off, 3)) (ht : (pc : Int) + off = (tgt : Int)) (kt : x = 0 → W p l e R s m args below meth c H locs cells slots Q (F0 m tgt ls rest)) (kf : x ≠ 0 → W p l e R s m args below meth c H locs cells slots Q (F0 m (pc + 3) ls rest)) : W p l e R s m args below meth c H locs cells slots Q (F0 m pc ls (.int (nI x) :: rest)) := lv_if_eq hx hb hdg ht (fun h => kt ((nI_eq h1 (by omega)).mp (h.trans nI_0.symm))) (fun h => kf (fun q => h (by rw [q]; rfl)))
theorem dn_if_ne (hx : p.tables.exec = Jvm.exec) (hb : c.code = cc) {x : Nat} {off : Int} (tgt : Nat) (h1 : x < 2 ^ 31) (hdg : decode cc pc = .ok (.ifCond .ne off, 3)) (ht : (pc : Int) + off = (tgt : Int)) (kt : x ≠ 0 → W p l e R s m args below meth c H locs cells slots Q (F0 m tgt ls rest)) (kf : x = 0 → W p l e R s m args below meth c H locs cells slots Q (F0 m (pc + 3) ls rest)) : W p l e R s m args below meth c H locs cells slots Q (F0 m pc ls (.int (nI x) :: rest)) := lv_if_ne hx hb hdg ht (fun h => kt (fun q => h (by rw [q]; rfl))) (fun h => kf ((nI_eq h1 (by omega)).mp (h.trans nI_0.symm)))
theorem dn_if_lt (hx : p.tables.exec = Jvm.exec) (hb : c.code = cc) {x : Nat} {off : Int} (tgt : Nat) (h1 : x < 2 ^ 31) (hdg : decode cc pc = .ok (.ifCond .lt off, 3)) (ht : (pc : Int) + off = (tgt : Int)) (kf : W p l e R s m args below meth c H locs cells slots Q (F0 m (pc + 3) ls rest)) : W p l e R s m args below meth c H locs cells slots Q (F0 m pc ls (.int (nI x) :: rest)) := lv_if_lt hx hb hdg ht (fun h => absurd h (nI_pos h1)) (fun _ => kf)
theorem dn_if_ge (hx : p.tables.exec = Jvm.exec) (hb : c.code = cc) {x : Nat} {off : Int} (tgt : Nat) (h1 : x < 2 ^ 31) (hdg : decode cc pc = .ok (.ifCond .ge off, 3)) (ht : (pc : Int) + off = (tgt : Int)) (kt : W p l e R s m args below meth c H locs cells slots Q (F0 m tgt ls rest)) : W p l e R s m args below meth c H locs cells slots Q (F0 m pc ls (.int (nI x) :: rest)) := lv_if_ge hx hb hdg ht (fun _ => kt) (fun h => absurd (nI_pos' h1) h)
theorem dn_if_gt (hx : p.tables.exec = Jvm.exec) (hb : c.code = cc) {x : Nat} {off : Int} (tgt : Nat) (h1 : x < 2 ^ 31) (hdg : decode cc pc = .ok (.ifCond .gt off, 3)) (ht : (pc : Int) + off = (tgt : Int)) (kt : 0 < x → W p l e R s m args below meth c H locs cells slots Q (F0 m tgt ls rest)) (kf : x = 0 → W p l e R s m args below meth c H locs cells slots Q (F0 m (pc + 3) ls rest)) : W p l e R s m args below meth c H locs cells slots Q (F0 m pc ls (.int (nI x) :: rest)) := lv_if_gt hx hb hdg ht (fun h => kt (Nat.pos_of_ne_zero (fun q => by rw [q] at h; exact absurd h (by decide)))) (fun h => kf (Nat.eq_zero_of_not_pos (fun q => h (nI_lt q h1))))
theorem dn_if_le (hx : p.tables.exec = Jvm.exec) (hb : c.code = cc) {x : Nat} {off : Int} (tgt : Nat) (h1 : x < 2 ^ 31) (hdg : decode cc pc = .ok (.ifCond .le off, 3)) (ht : (pc : Int) + off = (tgt : Int)) (kt : x = 0 → W p l e R s m args below meth c H locs cells slots Q (F0 m tgt ls rest)) (kf : 0 < x → W p l e R s m args below meth c H locs cells slots Q (F0 m (pc + 3) ls rest)) : W p l e R s m args below meth c H locs cells slots Q (F0 m pc ls (.int (nI x) :: rest)) := lv_if_le hx hb hdg ht (fun h => kt (Nat.eq_zero_of_not_pos (fun q => nI_nle q h1 h))) (fun h => kf (Nat.pos_of_ne_zero (fun q => h (by rw [q]; decide))))
theorem dn_ifb_eq (hx : p.tables.exec = Jvm.exec) (hb : c.code = cc) {P : Prop} [Decidable P] {off : Int} (tgt : Nat) (hdg : decode cc pc = .ok (.ifCond .eq off, 3)) (ht : (pc : Int) + off = (tgt : Int)) (kt : ¬ P → W p l e R s m args below meth c H locs cells slots Q (F0 m tgt ls rest)) (kf : P → W p l e R s m args below meth c H locs cells slots Q (F0 m (pc + 3) ls rest)) : W p l e R s m args below meth c H locs cells slots Q (F0 m pc ls (.int (nI (dn_b P)) :: rest)) := lv_if_eq hx hb hdg ht (fun h => kt (dn_bz.mp h)) (fun h => kf (Decidable.byContradiction (fun q => h (dn_bz.mpr q))))
theorem dn_ifb_ne (hx : p.tables.exec = Jvm.exec) (hb : c.code = cc) {P : Prop} [Decidable P] {off : Int} (tgt : Nat) (hdg : decode cc pc = .ok (.ifCond .ne off, 3)) (ht : (pc : Int) + off = (tgt : Int)) (kt : P → W p l e R s m args below meth c H locs cells slots Q (F0 m tgt ls rest)) (kf : ¬ P → W p l e R s m args below meth c H locs cells slots Q (F0 m (pc + 3) ls rest)) : W p l e R s m args below meth c H locs cells slots Q (F0 m pc ls (.int (nI (dn_b P)) :: rest)) := lv_if_ne hx hb hdg ht (fun h => kt (Decidable.byContradiction (fun q => h (dn_bz.mpr q)))) (fun h => kf (dn_bz.mp h))
theorem dn_lcmp_ge (hx : p.tables.exec = Jvm.exec) (hb : c.code = cc) {x y : Nat} {off : Int} (tgt : Nat) (h1 : x < 2 ^ 63) (h2 : y < 2 ^ 63) (hd0 : decode cc pc = .ok (.lcmp, 1)) (hdg : decode cc (pc + 1) = .ok (.ifCond .ge off, 3)) (ht : ((pc + 1 : Nat) : Int) + off = (tgt : Int)) (kt : y ≤ x → W p l e R s m args below meth c H locs cells slots Q (F0 m tgt ls rest)) (kf : x < y → W p l e R s m args below meth c H locs cells slots Q (F0 m (pc + 4) ls rest)) : W p l e R s m args below meth c H locs cells slots Q (F0 m pc ls (.long (lN y) :: .long (lN x) :: rest)) := W.lcmp hx hb hd0 (lv_if_ge hx hb hdg ht (fun h => kt ((pk_lLE h2 h1).mp ((lg_cmp_ge _ _).mp h))) (fun h => kf (Nat.not_le.mp (fun q => h ((lg_cmp_ge _ _).mpr ((pk_lLE h2 h1).mpr q))))))
theorem dn_lcmp_lt (hx : p.tables.exec = Jvm.exec) (hb : c.code = cc) {x y : Nat} {off : Int} (tgt : Nat) (h1 : x < 2 ^ 63) (h2 : y < 2 ^ 63) (hd0 : decode cc pc = .ok (.lcmp, 1)) (hdg : decode cc (pc + 1) = .ok (.ifCond .lt off, 3)) (ht : ((pc + 1 : Nat) : Int) + off = (tgt : Int)) (kt : x < y → W p l e R s m args below meth c H locs cells slots Q (F0 m tgt ls rest)) (kf : y ≤ x → W p l e R s m args below meth c H locs cells slots Q (F0 m (pc + 4) ls rest)) : W p l e R s m args below meth c H locs cells slots Q (F0 m pc ls (.long (lN y) :: .long (lN x) :: rest)) := W.lcmp hx hb hd0 (lv_if_lt hx hb hdg ht (fun h => kt ((pk_lLT h1 h2).mp ((lg_cmp_lt _ _).mp h))) (fun h => kf (Nat.not_lt.mp (fun q => h ((lg_cmp_lt _ _).mpr ((pk_lLT h1 h2).mpr q))))))
theorem dn_lcmp_gt (hx : p.tables.exec = Jvm.exec) (hb : c.code = cc) {x y : Nat} {off : Int} (tgt : Nat) (h1 : x < 2 ^ 63) (h2 : y < 2 ^ 63) (hd0 : decode cc pc = .ok (.lcmp, 1)) (hdg : decode cc (pc + 1) = .ok (.ifCond .gt off, 3)) (ht : ((pc + 1 : Nat) : Int) + off = (tgt : Int)) (kt : y < x → W p l e R s m args below meth c H locs cells slots Q (F0 m tgt ls rest)) (kf : x ≤ y → W p l e R s m args below meth c H locs cells slots Q (F0 m (pc + 4) ls rest)) : W p l e R s m args below meth c H locs cells slots Q (F0 m pc ls (.long (lN y) :: .long (lN x) :: rest)) := W.lcmp hx hb hd0 (lv_if_gt hx hb hdg ht (fun h => kt ((pk_lLT h2 h1).mp ((lg_cmp_gt _ _).mp h))) (fun h => kf (Nat.not_lt.mp (fun q => h ((lg_cmp_gt _ _).mpr ((pk_lLT h2 h1).mpr q))))))
theorem dn_lcmp_le (hx : p.tables.exec = Jvm.exec) (hb : c.code = cc) {x y : Nat} {off : Int} (tgt : Nat) (h1 : x < 2 ^ 63) (h2 : y < 2 ^ 63) (hd0 : decode cc pc = .ok (.lcmp, 1)) (hdg : decode cc (pc + 1) = .ok (.ifCond .le off, 3)) (ht : ((pc + 1 : Nat) : Int) + off = (tgt : Int)) (kt : x ≤ y → W p l e R s m args below meth c H locs cells slots Q (F0 m tgt ls rest)) (kf : y < x → W p l e R s m args below meth c H locs cells slots Q (F0 m (pc + 4) ls rest)) : W p l e R s m args below meth c H locs cells slots Q (F0 m pc ls (.long (lN y) :: .long (lN x) :: rest)) := W.lcmp hx hb hd0 (lv_if_le hx hb hdg ht (fun h => kt ((pk_lLE h1 h2).mp ((lg_cmp_le _ _).mp h))) (fun h => kf (Nat.not_le.mp (fun q => h ((lg_cmp_le _ _).mpr ((pk_lLE h1 h2).mpr q))))))
end
end
section
/-! a world of NC cells at fixed addresses a, layout ce, contents f -/
def dw_su (f : Nat → Nat → Nat) (k : Nat) (g : Nat → Nat) : Nat → Nat → Nat := fun j => if j = k then g else f j
def dw_up (g : Nat → Nat) (i x : Nat) : Nat → Nat := fun j => if j = i then x else g j
/-- cell k's place i becomes x -/
def dw_w (f : Nat → Nat → Nat) (k i x : Nat) : Nat → Nat → Nat := dw_su f k (dw_up (f k) i x)
def dw_l (NC : Nat) (ce : Nat → (Nat → Nat) → va_E) (a : Nat → Nat) (f : Nat → Nat → Nat) : va_W := (List.range NC).map (fun k => (a k, ce k (f k)))
section
variable {NC k : Nat} {ce : Nat → (Nat → Nat) → va_E} {a : Nat → Nat} {f f2 : Nat → Nat → Nat} {A : Nat → Prop}
theorem dw_get (h : k < NC) : (dw_l NC ce a f)[k]? = some (a k, ce k (f k)) := by
  simp [dw_l, h]
theorem dw_len : (dw_l NC ce a f).length = NC := by simp [dw_l]
theorem dw_lt {q : Nat × va_E} (h : (dw_l NC ce a f)[k]? = some q) : k < NC := by
  have := (List.getElem?_eq_some_iff.mp h).1
  rwa [dw_len] at this
theorem dw_adr {q : Nat × va_E} (h : (dw_l NC ce a f)[k]? = some q) : q.1 = a k := by
  rw [dw_get (dw_lt h)] at h
  cases h
  rfl
theorem dw_set (h : k < NC) (g : Nat → Nat) : (dw_l NC ce a f).set k (a k, ce k g) = dw_l NC ce a (dw_su f k g) := by
  apply List.ext_getElem?
  intro i
  by_cases hi : i < NC
  · rw [dw_get hi, List.getElem?_set]
    by_cases hk : k = i
    · subst hk
      simp [dw_len, h, dw_su]
    · rw [if_neg hk, dw_get hi]
      simp [dw_su, Ne.symm hk]
  · rw [List.getElem?_eq_none (by rw [List.length_set, dw_len]; omega), List.getElem?_eq_none (by rw [dw_len]; omega)]
theorem dw_D (h : va_D A (dw_l NC ce a f)) : va_D A (dw_l NC ce a f2) := by
  refine ⟨fun i j p q hi hj e => ?_, fun k q hk => ?_⟩
  · have h1 := dw_get (ce := ce) (a := a) (f := f) (dw_lt hi)
    have h2 := dw_get (ce := ce) (a := a) (f := f) (dw_lt hj)
    exact h.1 i j _ _ h1 h2 (by rw [dw_adr hi, dw_adr hj] at e; exact e)
  · have h1 := dw_get (ce := ce) (a := a) (f := f) (dw_lt hk)
    rw [dw_adr hk]
    exact h.2 k _ h1
theorem dw_A {sz q : Nat} (h : va_A (dw_l NC ce a f) sz q) : va_A (dw_l NC ce a f2) sz q := by
  rcases h with ⟨k, e, h⟩ | h
  · refine Or.inl ⟨k, ce k (f2 k), ?_⟩
    have h1 := dw_adr h
    have h2 := dw_get (ce := ce) (a := a) (f := f2) (dw_lt h)
    rw [h2, ← h1]
  · exact Or.inr h
end
/-- what is known of the world while a method runs -/
def dw_W (D : va_G) (cl : List vw_C) (tys : List (ClassId × FieldType)) (A : Nat → Prop) (H0 : Heap) (ws : va_W) (s : State) (H : Heap) (locs : List Loc) : Prop := va_K D cl tys s ∧ va_P D cl ws H ∧ va_D A ws ∧ va_S A H0 H locs
/-- kinds of cells -/
def dw_Ci (tys : List (ClassId × FieldType)) (NC : Nat) (ce : Nat → (Nat → Nat) → va_E) (ty : FieldType) (k n : Nat) : Prop := k < NC ∧ n < 2 ^ 31 ∧ ∃ (cA : ClassId) (t0 : Nat), tys[t0]? = some (cA, ty) ∧ ∀ g, ce k g = .inl (cA, n, .inl (fun j => nI (g j)))
def dw_Cl (tys : List (ClassId × FieldType)) (NC : Nat) (ce : Nat → (Nat → Nat) → va_E) (k n : Nat) : Prop := k < NC ∧ n < 2 ^ 31 ∧ ∃ (cA : ClassId) (t0 : Nat), tys[t0]? = some (cA, .long) ∧ ∀ g, ce k g = .inl (cA, n, .inr (.inl (fun j => lN (g j))))
def dw_Cr (tys : List (ClassId × FieldType)) (NC : Nat) (ce : Nat → (Nat → Nat) → va_E) (a : Nat → Nat) (k n b : Nat) : Prop := k < NC ∧ n < 2 ^ 31 ∧ ∃ (cA : ClassId) (t0 : Nat), tys[t0]? = some (cA, .array .int) ∧ ∀ g, ce k g = .inl (cA, n, .inr (.inr (.inr (.inr (fun j => some (a (b + j)))))))
theorem dw_updn (g : Nat → Nat) (i x : Nat) : upd (fun j => nI (g j)) i (nI x) = fun j => nI (dw_up g i x j) := by
  funext j
  unfold upd dw_up
  split <;> rfl
theorem dw_updl (g : Nat → Nat) (i x : Nat) : vp_updL (fun j => lN (g j)) i (lN x) = fun j => lN (dw_up g i x j) := by
  funext j
  unfold vp_updL dw_up
  split <;> rfl
section
variable {p : Program} {l : Launch} {e : Env} {R : Room} {s : State} {m : MethodId} {args : Array Value} {below : List Frame} {meth : Method} {c : Code} {H H0 : Heap} {locs : List Loc} {cells slots : Nat} {Q : State → Prop} {cc : ByteArray} {pc : Nat} {ls : Array Slot} {rest : List Value}
  {D : va_G} {cl : List vw_C} {tys : List (ClassId × FieldType)} {A : Nat → Prop} {NC : Nat} {ce : Nat → (Nat → Nat) → va_E} {a : Nat → Nat} {f : Nat → Nat → Nat}
theorem dw_iald (hx : p.tables.exec = Jvm.exec) (hb : c.code = cc) (hw : dw_W D cl tys A H0 (dw_l NC ce a f) s H locs) {k n i : Nat} (hk : dw_Ci tys NC ce .int k n) (hi : i < n) (hdg : decode cc pc = .ok (.iaload, 1)) (kk : W p l e R s m args below meth c H locs cells slots Q (F0 m (pc + 1) ls (.int (nI (f k i)) :: rest))) : W p l e R s m args below meth c H locs cells slots Q (F0 m pc ls (.int (nI i) :: .ref (a k) :: rest)) := by
  obtain ⟨h1, h2, cA, t0, h3, h4⟩ := hk
  refine va_iald (f := fun j => nI (f k j)) hx hb hw.1 hw.2.1 k t0 (by rw [dw_get h1, h4]) h3 (vp_in_nI hi h2) hdg ?_
  rw [nI_clamp (by omega)]
  exact kk
theorem dw_zald (hx : p.tables.exec = Jvm.exec) (hb : c.code = cc) (hw : dw_W D cl tys A H0 (dw_l NC ce a f) s H locs) {k n i : Nat} (hk : dw_Ci tys NC ce .boolean k n) (hi : i < n) (hdg : decode cc pc = .ok (.baload, 1)) (kk : W p l e R s m args below meth c H locs cells slots Q (F0 m (pc + 1) ls (.int (nI (f k i)) :: rest))) : W p l e R s m args below meth c H locs cells slots Q (F0 m pc ls (.int (nI i) :: .ref (a k) :: rest)) := by
  obtain ⟨h1, h2, cA, t0, h3, h4⟩ := hk
  refine va_zald (f := fun j => nI (f k j)) hx hb hw.1 hw.2.1 k t0 (by rw [dw_get h1, h4]) h3 (vp_in_nI hi h2) hdg ?_
  rw [nI_clamp (by omega)]
  exact kk
theorem dw_lald (hx : p.tables.exec = Jvm.exec) (hb : c.code = cc) (hw : dw_W D cl tys A H0 (dw_l NC ce a f) s H locs) {k n i : Nat} (hk : dw_Cl tys NC ce k n) (hi : i < n) (hdg : decode cc pc = .ok (.laload, 1)) (kk : W p l e R s m args below meth c H locs cells slots Q (F0 m (pc + 1) ls (.long (lN (f k i)) :: rest))) : W p l e R s m args below meth c H locs cells slots Q (F0 m pc ls (.int (nI i) :: .ref (a k) :: rest)) := by
  obtain ⟨h1, h2, cA, t0, h3, h4⟩ := hk
  refine va_lald (f := fun j => lN (f k j)) hx hb hw.1 hw.2.1 k t0 (by rw [dw_get h1, h4]) h3 (vp_in_nI hi h2) hdg ?_
  rw [nI_clamp (by omega)]
  exact kk
theorem dw_aald (hx : p.tables.exec = Jvm.exec) (hb : c.code = cc) (hw : dw_W D cl tys A H0 (dw_l NC ce a f) s H locs) {k n b i : Nat} (hk : dw_Cr tys NC ce a k n b) (hi : i < n) (hdg : decode cc pc = .ok (.aaload, 1)) (kk : W p l e R s m args below meth c H locs cells slots Q (F0 m (pc + 1) ls (.ref (a (b + i)) :: rest))) : W p l e R s m args below meth c H locs cells slots Q (F0 m pc ls (.int (nI i) :: .ref (a k) :: rest)) := by
  obtain ⟨h1, h2, cA, t0, h3, h4⟩ := hk
  have hc : (nI i).toNatClampNeg = i := nI_clamp (by omega)
  have hin := vp_in_nI hi h2
  have ha : (dw_l NC ce a f)[k]? = some (a k, .inl (cA, n, .inr (.inr (.inr (.inr (fun j => some (a (b + j)))))))) := by rw [dw_get h1, h4]
  exact W.aald (v := .ref (a (b + i))) (ty := .array .int) hx hb (hw.2.1 k _ ha) ((hw.1.2 t0 _ h3).1 n (fun j => va_rf (some (a (b + j))))) rfl (fun q => by cases q) (by show ¬ (nI i < 0 ∨ (arrV _ _ _).slots.size ≤ _); rw [arrV_size]; exact hin) (by show (arrV _ _ _).slots[_]? = _; rw [hc, arrV_read _ _ hi]; rfl) rfl rfl hdg kk
theorem dw_alen (hx : p.tables.exec = Jvm.exec) (hb : c.code = cc) (hw : dw_W D cl tys A H0 (dw_l NC ce a f) s H locs) {k n b : Nat} (hk : dw_Cr tys NC ce a k n b) (hdg : decode cc pc = .ok (.arraylength, 1)) (kk : W p l e R s m args below meth c H locs cells slots Q (F0 m (pc + 1) ls (.int (nI n) :: rest))) : W p l e R s m args below meth c H locs cells slots Q (F0 m pc ls (.ref (a k) :: rest)) := by
  obtain ⟨h1, h2, cA, t0, h3, h4⟩ := hk
  exact va_alen (x := (n, .inr (.inr (.inr (.inr (fun j => some (a (b + j)))))))) hx hb hw.1 hw.2.1 k t0 (by rw [dw_get h1, h4]) h3 rfl hdg kk
theorem dw_aleni (hx : p.tables.exec = Jvm.exec) (hb : c.code = cc) (hw : dw_W D cl tys A H0 (dw_l NC ce a f) s H locs) {k n : Nat} {ty : FieldType} (hk : dw_Ci tys NC ce ty k n) (hdg : decode cc pc = .ok (.arraylength, 1)) (kk : W p l e R s m args below meth c H locs cells slots Q (F0 m (pc + 1) ls (.int (nI n) :: rest))) : W p l e R s m args below meth c H locs cells slots Q (F0 m pc ls (.ref (a k) :: rest)) := by
  obtain ⟨h1, h2, cA, t0, h3, h4⟩ := hk
  exact va_alen (x := (n, .inl (fun j => nI (f k j)))) hx hb hw.1 hw.2.1 k t0 (by rw [dw_get h1, h4]) h3 rfl hdg kk
theorem dw_iast (hx : p.tables.exec = Jvm.exec) (hb : c.code = cc) (hw : dw_W D cl tys A H0 (dw_l NC ce a f) s H locs) {k n i x : Nat} (hk : dw_Ci tys NC ce .int k n) (hi : i < n) (hdg : decode cc pc = .ok (.iastore, 1)) (kk : ∀ (f1 : Nat → Nat → Nat) (H1 : Heap) (locs1 : List Loc), f1 = dw_w f k i x → dw_W D cl tys A H0 (dw_l NC ce a f1) s H1 locs1 → W p l e R s m args below meth c H1 locs1 cells slots Q (F0 m (pc + 1) ls rest)) : W p l e R s m args below meth c H locs cells slots Q (F0 m pc ls (.int (nI x) :: .int (nI i) :: .ref (a k) :: rest)) := by
  obtain ⟨h1, h2, cA, t0, h3, h4⟩ := hk
  refine va_iast (f := fun j => nI (f k j)) hx hb hw.1 hw.2.1 hw.2.2.1 hw.2.2.2 k t0 (by rw [dw_get h1, h4]) h3 (vp_in_nI hi h2) hdg (fun H1 locs1 hP hD hS => ?_)
  rw [nI_clamp (by omega), dw_updn, ← h4, dw_set h1] at hP hD
  exact kk _ H1 locs1 rfl ⟨hw.1, hP, hD, hS⟩
theorem dw_zast (hx : p.tables.exec = Jvm.exec) (hb : c.code = cc) (hw : dw_W D cl tys A H0 (dw_l NC ce a f) s H locs) {k n i x : Nat} (hx1 : x ≤ 1) (hk : dw_Ci tys NC ce .boolean k n) (hi : i < n) (hdg : decode cc pc = .ok (.bastore, 1)) (kk : ∀ (f1 : Nat → Nat → Nat) (H1 : Heap) (locs1 : List Loc), f1 = dw_w f k i x → dw_W D cl tys A H0 (dw_l NC ce a f1) s H1 locs1 → W p l e R s m args below meth c H1 locs1 cells slots Q (F0 m (pc + 1) ls rest)) : W p l e R s m args below meth c H locs cells slots Q (F0 m pc ls (.int (nI x) :: .int (nI i) :: .ref (a k) :: rest)) := by
  obtain ⟨h1, h2, cA, t0, h3, h4⟩ := hk
  have hn : vp_nar .boolean (nI x) = nI x := by
    rcases (show x = 0 ∨ x = 1 by omega) with rfl | rfl <;> rfl
  refine va_zast (f := fun j => nI (f k j)) hx hb hw.1 hw.2.1 hw.2.2.1 hw.2.2.2 k t0 (by rw [dw_get h1, h4]) h3 (vp_in_nI hi h2) hdg (fun H1 locs1 hP hD hS => ?_)
  rw [hn, nI_clamp (by omega), dw_updn, ← h4, dw_set h1] at hP hD
  exact kk _ H1 locs1 rfl ⟨hw.1, hP, hD, hS⟩
theorem dw_last (hx : p.tables.exec = Jvm.exec) (hb : c.code = cc) (hw : dw_W D cl tys A H0 (dw_l NC ce a f) s H locs) {k n i x : Nat} (hk : dw_Cl tys NC ce k n) (hi : i < n) (hdg : decode cc pc = .ok (.lastore, 1)) (kk : ∀ (f1 : Nat → Nat → Nat) (H1 : Heap) (locs1 : List Loc), f1 = dw_w f k i x → dw_W D cl tys A H0 (dw_l NC ce a f1) s H1 locs1 → W p l e R s m args below meth c H1 locs1 cells slots Q (F0 m (pc + 1) ls rest)) : W p l e R s m args below meth c H locs cells slots Q (F0 m pc ls (.long (lN x) :: .int (nI i) :: .ref (a k) :: rest)) := by
  obtain ⟨h1, h2, cA, t0, h3, h4⟩ := hk
  refine va_last (f := fun j => lN (f k j)) hx hb hw.1 hw.2.1 hw.2.2.1 hw.2.2.2 k t0 (by rw [dw_get h1, h4]) h3 (vp_in_nI hi h2) hdg (fun H1 locs1 hP hD hS => ?_)
  rw [nI_clamp (by omega), dw_updl, ← h4, dw_set h1] at hP hD
  exact kk _ H1 locs1 rfl ⟨hw.1, hP, hD, hS⟩
end
end
section
/-! contracts over the world: arguments As and contents f give the answer r and contents f1 -/
def dw_B (D : va_G) (cl : List vw_C) (tys : List (ClassId × FieldType)) (ws : va_W) (sz : Nat) (U : State) : Prop := U.heap.size = sz ∧ va_P D cl ws U.heap ∧ va_K D cl tys U ∧ va_D (fun _ => True) ws
def dw_E (D : va_G) (cl : List vw_C) (tys : List (ClassId × FieldType)) (NC : Nat) (ce : Nat → (Nat → Nat) → va_E) (a : Nat → Nat) (u : Nat → Nat → Nat) (t : State) : Prop := va_P D cl (dw_l NC ce a u) t.heap ∧ va_K D cl tys t
def dw_CI (l : Launch) (D : va_G) (cl : List vw_C) (tys : List (ClassId × FieldType)) (NC : Nat) (ce : Nat → (Nat → Nat) → va_E) (a : Nat → Nat) (y : MethodName) (ws : List Cond) (fr lo : Nat) (As : List Value) (f : Nat → Nat → Nat) (post : Int32 → (Nat → Nat → Nat) → Prop) : Prop :=
  ∀ sz : Nat, Met l y ws { frames := fr, cells := 0, slots := 0, locals := lo } (va_Pc As (dw_B D cl tys (dw_l NC ce a f) sz)) (va_Qi post (dw_E D cl tys NC ce a) (va_A (dw_l NC ce a f) sz)) 0 0 (va_A (dw_l NC ce a f) sz)
def dw_CL (l : Launch) (D : va_G) (cl : List vw_C) (tys : List (ClassId × FieldType)) (NC : Nat) (ce : Nat → (Nat → Nat) → va_E) (a : Nat → Nat) (y : MethodName) (ws : List Cond) (fr lo : Nat) (As : List Value) (f : Nat → Nat → Nat) (post : Int64 → (Nat → Nat → Nat) → Prop) : Prop :=
  ∀ sz : Nat, Met l y ws { frames := fr, cells := 0, slots := 0, locals := lo } (va_Pc As (dw_B D cl tys (dw_l NC ce a f) sz)) (va_Ql post (dw_E D cl tys NC ce a) (va_A (dw_l NC ce a f) sz)) 0 0 (va_A (dw_l NC ce a f) sz)
def dw_CV (l : Launch) (D : va_G) (cl : List vw_C) (tys : List (ClassId × FieldType)) (NC : Nat) (ce : Nat → (Nat → Nat) → va_E) (a : Nat → Nat) (y : MethodName) (ws : List Cond) (fr lo : Nat) (As : List Value) (f : Nat → Nat → Nat) (post : (Nat → Nat → Nat) → Prop) : Prop :=
  ∀ sz : Nat, Met l y ws { frames := fr, cells := 0, slots := 0, locals := lo } (va_Pc As (dw_B D cl tys (dw_l NC ce a f) sz)) (va_Qv post (dw_E D cl tys NC ce a) (va_A (dw_l NC ce a f) sz)) 0 0 (va_A (dw_l NC ce a f) sz)
theorem dw_blind {D : va_G} {cl : List vw_C} {tys : List (ClassId × FieldType)} {ws : va_W} {sz : Nat} {As : List Value} : FrameBlind (va_Pc As (dw_B D cl tys ws sz)) := fun a U g mk q => by
  obtain ⟨q0, q1, qP, qK, qD⟩ := q
  exact ⟨q0, q1, qP, va_K.moved (u := U) (U := U.calling g mk a) (Vm.Alike.refl U.vm) qK, qD⟩
theorem dw_pre {D : va_G} {cl : List vw_C} {tys : List (ClassId × FieldType)} {ws : va_W} {As : List Value} {A : Nat → Prop} {H0 H : Heap} {s : State} {locs : List Loc} (hw : dw_W D cl tys A H0 ws s H locs) : ∀ U : State, U.heap = H → s.WarmedH U.vm → va_Pc As (dw_B D cl tys ws H.size) As.toArray U := fun U hU hW => ⟨rfl, by rw [hU], by rw [hU]; exact hw.2.1, va_K.moved hW.alike hw.1, hw.2.2.1.weaken (fun _ _ _ _ => trivial)⟩
theorem dw_good {Ts ws : List Cond} (hG : GoodIn Ts Ts) (h : ∀ w ∈ ws, w ∈ Ts) : GoodIn Ts ws := fun w hw => ⟨h w hw, (hG w (h w hw)).2⟩
theorem dw_code {Ts : List Cond} {w : Cond} (h : w ∈ Ts) : ∀ v ∈ w :: Ts, v ∈ Ts := fun v hv => by
  rcases List.mem_cons.mp hv with rfl | hv
  · exact h
  · exact hv
section
variable {p : Program} {l : Launch} {e : Env} {R : Room} {s : State} {m : MethodId} {args : Array Value} {below : List Frame} {meth : Method} {c : Code} {H H0 : Heap} {locs : List Loc} {cells slots : Nat} {Q : State → Prop} {cc : ByteArray} {pc : Nat} {ls : Array Slot} {rest st0 : List Value}
  {D : va_G} {cl : List vw_C} {tys : List (ClassId × FieldType)} {A : Nat → Prop} {NC : Nat} {ce : Nat → (Nat → Nat) → va_E} {a : Nat → Nat} {f : Nat → Nat → Nat} {Ts : List Cond} {own C host : String} {nL index maxL n fr lo ko ci : Nat} {y : MethodName} {bytes : ByteArray} {ret : Option FieldType} {As : List Value} {av : Array Value}
theorem dw_F (hw : dw_W D cl tys A H0 (dw_l NC ce a f) s H locs) (hA : ∀ q, H0.size ≤ q → A q) : ∀ q, va_A (dw_l NC ce a f) H.size q → A q := fun q h => by
  rcases h with ⟨k, e, h⟩ | h
  · exact hw.2.2.1.2 k _ h
  · exact hA q (Nat.le_trans hw.2.2.2.1 h)
theorem dw_afti {post : Int32 → (Nat → Nat → Nat) → Prop} (hw : dw_W D cl tys A H0 (dw_l NC ce a f) s H locs) (hA : ∀ q, H0.size ≤ q → A q) (hr : va_Run p l e R s m args below meth c H locs cells slots 0 0 (F0 m pc ls st0) rest (va_Qi post (dw_E D cl tys NC ce a) (va_A (dw_l NC ce a f) H.size) av) (va_A (dw_l NC ce a f) H.size))
    (kk : ∀ (r : Int32) (f1 : Nat → Nat → Nat) (H1 : Heap) (locs1 : List Loc), post r f1 → dw_W D cl tys A H0 (dw_l NC ce a f1) s H1 locs1 → W p l e R s m args below meth c H1 locs1 cells slots Q (F0 m (pc + 3) ls (.int r :: rest))) : W p l e R s m args below meth c H locs cells slots Q (F0 m pc ls st0) := by
  have hF := dw_F hw hA
  refine va_calli hr hw.2.2.2 (fun q _ h => hF q h) hF (fun r' u t H1 locs1 ht hvm hp hB hz hk hS => ?_)
  obtain ⟨hP1, hK1⟩ := hB
  rw [ht] at hP1
  exact kk r' u H1 locs1 hp ⟨hw.1, hP1, dw_D hw.2.2.1, hS⟩
theorem dw_aftl {post : Int64 → (Nat → Nat → Nat) → Prop} (hw : dw_W D cl tys A H0 (dw_l NC ce a f) s H locs) (hA : ∀ q, H0.size ≤ q → A q) (hr : va_Run p l e R s m args below meth c H locs cells slots 0 0 (F0 m pc ls st0) rest (va_Ql post (dw_E D cl tys NC ce a) (va_A (dw_l NC ce a f) H.size) av) (va_A (dw_l NC ce a f) H.size))
    (kk : ∀ (r : Int64) (f1 : Nat → Nat → Nat) (H1 : Heap) (locs1 : List Loc), post r f1 → dw_W D cl tys A H0 (dw_l NC ce a f1) s H1 locs1 → W p l e R s m args below meth c H1 locs1 cells slots Q (F0 m (pc + 3) ls (.long r :: rest))) : W p l e R s m args below meth c H locs cells slots Q (F0 m pc ls st0) := by
  have hF := dw_F hw hA
  refine va_calll hr hw.2.2.2 (fun q _ h => hF q h) hF (fun r' u t H1 locs1 ht hvm hp hB hz hk hS => ?_)
  obtain ⟨hP1, hK1⟩ := hB
  rw [ht] at hP1
  exact kk r' u H1 locs1 hp ⟨hw.1, hP1, dw_D hw.2.2.1, hS⟩
theorem dw_aftv {post : (Nat → Nat → Nat) → Prop} (hw : dw_W D cl tys A H0 (dw_l NC ce a f) s H locs) (hA : ∀ q, H0.size ≤ q → A q) (hr : va_Run p l e R s m args below meth c H locs cells slots 0 0 (F0 m pc ls st0) rest (va_Qv post (dw_E D cl tys NC ce a) (va_A (dw_l NC ce a f) H.size) av) (va_A (dw_l NC ce a f) H.size))
    (kk : ∀ (f1 : Nat → Nat → Nat) (H1 : Heap) (locs1 : List Loc), post f1 → dw_W D cl tys A H0 (dw_l NC ce a f1) s H1 locs1 → W p l e R s m args below meth c H1 locs1 cells slots Q (F0 m (pc + 3) ls rest)) : W p l e R s m args below meth c H locs cells slots Q (F0 m pc ls st0) := by
  have hF := dw_F hw hA
  refine va_callv hr hw.2.2.2 (fun q _ h => hF q h) hF (fun u t H1 locs1 ht hvm hp hB hz hk hS => ?_)
  obtain ⟨hP1, hK1⟩ := hB
  rw [ht] at hP1
  exact kk u H1 locs1 hp ⟨hw.1, hP1, dw_D hw.2.2.1, hS⟩
/-- an object cell -/
def dw_Co (cl : List vw_C) (NC : Nat) (ce : Nat → (Nat → Nat) → va_E) (k ci : Nat) (C : String) (T : u_T) (N : Nat) (fs : (Nat → Nat) → List Value) : Prop := k < NC ∧ cl[ci]? = some (C, T, N) ∧ ∀ g, ce k g = .inr (ci, fs g)
theorem dw_ob {T : u_T} {N : Nat} {fs : (Nat → Nat) → List Value} {k : Nat} (h : dw_Co cl NC ce k ci C T N fs) : (dw_l NC ce a f)[k]? = some (a k, .inr (ci, fs (f k))) := by rw [dw_get h.1, h.2.2]
/-- the words and the room of a call -/
abbrev dw_Cw (Ts : List Cond) (y : MethodName) (bytes : ByteArray) (maxL : Nat) (ret : Option FieldType) (n : Nat) : Prop := Cond.code y bytes maxL ret ∈ Ts ∧ Cond.initialized y.cls ∈ Ts ∧ (y.cls ≠ "java/lang/invoke/MethodHandle" ∧ y.cls ≠ "java/lang/invoke/VarHandle" ∧ (parseMethodDescriptor y.desc).map (fun d => d.parameters.length) = some n)
theorem dw_runV {Pc : Array Value → State → Prop} {Qc : Array Value → State → Outcome → State → Prop} {free : Addr → Prop} {T : u_T} {N : Nat} {fs : (Nat → Nat) → List Value} (hw : dw_W D cl tys A H0 (dw_l NC ce a f) s H locs) (S : CallFix p m c cc nL s args Ts own) (hG : GoodIn Ts Ts) (hM : Met l y (Cond.code y bytes maxL ret :: Ts) { frames := fr, cells := 0, slots := 0, locals := lo } Pc Qc 0 0 free) (cw : dw_Cw Ts y bytes maxL ret n) (hl : Cond.methodLink own index y ∈ Ts) (hi : Cond.instanceMethod y ∈ Ts) (hse : Cond.selects C y y ∈ Ts)
    (ho : dw_Co cl NC ce ko ci C T N fs) (hbl : FrameBlind Pc) (hpre : ∀ U : State, U.heap = H → s.WarmedH U.vm → Pc (Value.ref (a ko) :: As).toArray U) (hn : As.length = n) (hsz : ls.size = nL) (hst : st0 = As.reverse ++ .ref (a ko) :: rest) (hR : fr + 1 ≤ R.frames ∧ 8 + (maxL + 11) + lo ≤ R.locals) (hre : (rest.map fun v => v.category).sum ≤ 8) (hcs : cells ≤ R.cells ∧ slots ≤ R.slots) (hdg : decode cc pc = .ok (.invokevirtual index, 3)) :
    va_Run p l e R s m args below meth c H locs cells slots 0 0 (F0 m pc ls st0) rest (Qc (Value.ref (a ko) :: As).toArray) free :=
  va_runV (As := As) (rest := rest) (b := a ko) (C := C) S hM ⟨callB_of n S.2.2.2.2 (dw_good hG (dw_code cw.1)) rfl rfl rfl (S.2.2.2.2 _ cw.2.1) (S.2.2.2.2 _ hl) cw.2.2 hR, S.2.2.2.2 _ hi, S.2.2.2.2 _ hse⟩ ⟨hbl, va_recv hw.1 hw.2.1 ho.2.1 (dw_ob ho), hpre⟩ rfl hn hsz hst (lv_room hre) hdg hcs
theorem dw_runVN {Pc : Array Value → State → Prop} {Qc : Array Value → State → Outcome → State → Prop} {free : Addr → Prop} {T : u_T} {N : Nat} {fs : (Nat → Nat) → List Value} (hw : dw_W D cl tys A H0 (dw_l NC ce a f) s H locs) (S : CallFix p m c cc nL s args Ts own) (hG : GoodIn Ts Ts) (hM : Met l y (Cond.code y bytes maxL ret :: Ts) { frames := fr, cells := 0, slots := 0, locals := lo } Pc Qc 0 0 free) (cw : dw_Cw Ts y bytes maxL ret n) (hl : Cond.methodLinkNest own index y host ∈ Ts) (hi : Cond.instanceMethod y ∈ Ts) (hse : Cond.selects C y y ∈ Ts)
    (ho : dw_Co cl NC ce ko ci C T N fs) (hbl : FrameBlind Pc) (hpre : ∀ U : State, U.heap = H → s.WarmedH U.vm → Pc (Value.ref (a ko) :: As).toArray U) (hn : As.length = n) (hsz : ls.size = nL) (hst : st0 = As.reverse ++ .ref (a ko) :: rest) (hR : fr + 1 ≤ R.frames ∧ 8 + (maxL + 11) + lo ≤ R.locals) (hre : (rest.map fun v => v.category).sum ≤ 8) (hcs : cells ≤ R.cells ∧ slots ≤ R.slots) (hdg : decode cc pc = .ok (.invokevirtual index, 3)) :
    va_Run p l e R s m args below meth c H locs cells slots 0 0 (F0 m pc ls st0) rest (Qc (Value.ref (a ko) :: As).toArray) free :=
  va_runVN (As := As) (rest := rest) (b := a ko) (C := C) (host := host) S hM ⟨va_cnB n S.2.2.2.2 (dw_good hG (dw_code cw.1)) rfl rfl rfl (va_Nw.of rfl (S.2.2.2.2 _ hl)) (S.2.2.2.2 _ cw.2.1) cw.2.2 hR, S.2.2.2.2 _ hi, S.2.2.2.2 _ hse⟩ ⟨hbl, va_recv hw.1 hw.2.1 ho.2.1 (dw_ob ho), hpre⟩ rfl hn hsz hst (lv_room hre) hdg hcs
theorem dw_runS {Pc : Array Value → State → Prop} {Qc : Array Value → State → Outcome → State → Prop} {free : Addr → Prop} (S : CallFix p m c cc nL s args Ts own) (hG : GoodIn Ts Ts) (hM : Met l y (Cond.code y bytes maxL ret :: Ts) { frames := fr, cells := 0, slots := 0, locals := lo } Pc Qc 0 0 free) (cw : dw_Cw Ts y bytes maxL ret n) (hl : Cond.methodLink own index y ∈ Ts) (hi : Cond.static y ∈ Ts)
    (hbl : FrameBlind Pc) (hpre : ∀ U : State, U.heap = H → s.WarmedH U.vm → Pc As.toArray U) (hn : As.length = n) (hsz : ls.size = nL) (hst : st0 = As.reverse ++ rest) (hR : fr + 1 ≤ R.frames ∧ 8 + (maxL + 11) + lo ≤ R.locals) (hre : (rest.map fun v => v.category).sum ≤ 8) (hcs : cells ≤ R.cells ∧ slots ≤ R.slots) (hdg : decode cc pc = .ok (.invokestatic index, 3)) :
    va_Run p l e R s m args below meth c H locs cells slots 0 0 (F0 m pc ls st0) rest (Qc As.toArray) free :=
  va_runS (As := As) (rest := rest) S hM ⟨callB_of n S.2.2.2.2 (dw_good hG (dw_code cw.1)) rfl rfl rfl (S.2.2.2.2 _ cw.2.1) (S.2.2.2.2 _ hl) cw.2.2 hR, S.2.2.2.2 _ hi⟩ ⟨hbl, hpre⟩ rfl hn hsz hst (lv_room hre) hdg hcs
theorem dw_runSN {Pc : Array Value → State → Prop} {Qc : Array Value → State → Outcome → State → Prop} {free : Addr → Prop} (S : CallFix p m c cc nL s args Ts own) (hG : GoodIn Ts Ts) (hM : Met l y (Cond.code y bytes maxL ret :: Ts) { frames := fr, cells := 0, slots := 0, locals := lo } Pc Qc 0 0 free) (cw : dw_Cw Ts y bytes maxL ret n) (hl : Cond.methodLinkNest own index y host ∈ Ts) (hi : Cond.static y ∈ Ts)
    (hbl : FrameBlind Pc) (hpre : ∀ U : State, U.heap = H → s.WarmedH U.vm → Pc As.toArray U) (hn : As.length = n) (hsz : ls.size = nL) (hst : st0 = As.reverse ++ rest) (hR : fr + 1 ≤ R.frames ∧ 8 + (maxL + 11) + lo ≤ R.locals) (hre : (rest.map fun v => v.category).sum ≤ 8) (hcs : cells ≤ R.cells ∧ slots ≤ R.slots) (hdg : decode cc pc = .ok (.invokestatic index, 3)) :
    va_Run p l e R s m args below meth c H locs cells slots 0 0 (F0 m pc ls st0) rest (Qc As.toArray) free :=
  va_runSN (As := As) (rest := rest) (host := host) S hM ⟨va_cnB n S.2.2.2.2 (dw_good hG (dw_code cw.1)) rfl rfl rfl (va_Nw.of rfl (S.2.2.2.2 _ hl)) (S.2.2.2.2 _ cw.2.1) cw.2.2 hR, S.2.2.2.2 _ hi, trivial⟩ ⟨hbl, hpre⟩ rfl hn hsz hst (lv_room hre) hdg hcs
theorem dw_getf {T : u_T} {N fi k : Nat} {fs : (Nat → Nat) → List Value} {v : Value} (S : CallFix p m c cc nL s args Ts own) (hw : dw_W D cl tys A H0 (dw_l NC ce a f) s H locs) (hin : ∀ w ∈ u_ws C T N, w ∈ Ts) (ho : dw_Co cl NC ce k ci C T N fs) (hfi : fi < N) (hT : (T fi).1 = C) (hl : Cond.fieldLink own index C (T fi).2.1 (T fi).2.2.1 ∈ Ts) (hv : (fs (f k))[fi]? = some v) (hdg : decode cc pc = .ok (.getfield index, 3))
    (kk : W p l e R s m args below meth c H locs cells slots Q (F0 m (pc + 3) ls (v :: rest))) : W p l e R s m args below meth c H locs cells slots Q (F0 m pc ls (.ref (a k) :: rest)) :=
  va_get (D := D) S.1 S.2.1 S.2.2.2.2 hin S.2.2.2.1 hw.1 hw.2.1 k (dw_ob ho) ho.2.1 fi hfi (S.2.2.2.2 _ hl) (fun x hx => by rw [hT] at hx; exact hx) hv hdg kk
theorem dw_getN {T : u_T} {N fi k : Nat} {fs : (Nat → Nat) → List Value} {v : Value} (S : CallFix p m c cc nL s args Ts own) (hw : dw_W D cl tys A H0 (dw_l NC ce a f) s H locs) (hin : ∀ w ∈ u_ws C T N, w ∈ Ts) (ho : dw_Co cl NC ce k ci C T N fs) (hfi : fi < N) (hT : (T fi).1 = C) (hl : Cond.fieldLinkNest own index C (T fi).2.1 (T fi).2.2.1 host ∈ Ts) (hv : (fs (f k))[fi]? = some v) (hdg : decode cc pc = .ok (.getfield index, 3))
    (kk : W p l e R s m args below meth c H locs cells slots Q (F0 m (pc + 3) ls (v :: rest))) : W p l e R s m args below meth c H locs cells slots Q (F0 m pc ls (.ref (a k) :: rest)) :=
  va_getN (D := D) S.1 S.2.1 S.2.2.2.2 hin S.2.2.2.1 hw.1 hw.2.1 k (dw_ob ho) ho.2.1 fi hfi (S.2.2.2.2 _ hl) (fun x hx => by rw [hT] at hx; exact hx) hv hdg kk
theorem dw_putf {T : u_T} {N fi k x : Nat} {fs : (Nat → Nat) → List Value} (S : CallFix p m c cc nL s args Ts own) (hw : dw_W D cl tys A H0 (dw_l NC ce a f) s H locs) (hin : ∀ w ∈ u_ws C T N, w ∈ Ts) (ty0 : Nat → FieldType) (hty : ∀ k, k < N → parseFieldDescriptor (T k).2.2.1 = some (ty0 k)) (hnm : ∀ a, a < N → ∀ b, b < N → a ≠ b → (T a).2.1 ≠ (T b).2.1) (ho : dw_Co cl NC ce k ci C T N fs) (hfi : fi < N) (hT : (T fi).1 = C) (hl : Cond.fieldLink own index C (T fi).2.1 (T fi).2.2.1 ∈ Ts) (hfin : (T fi).2.2.2 = false) (hd : parseFieldDescriptor (T fi).2.2.1 = some .int) (hlen : fi < (fs (f k)).length) (hset : (fs (f k)).set fi (.int (nI x)) = fs (dw_up (f k) fi x)) (hdg : decode cc pc = .ok (.putfield index, 3))
    (kk : ∀ (f1 : Nat → Nat → Nat) (H1 : Heap) (locs1 : List Loc), f1 = dw_w f k fi x → dw_W D cl tys A H0 (dw_l NC ce a f1) s H1 locs1 → W p l e R s m args below meth c H1 locs1 cells slots Q (F0 m (pc + 3) ls rest)) : W p l e R s m args below meth c H locs cells slots Q (F0 m pc ls (.int (nI x) :: .ref (a k) :: rest)) := by
  refine va_put (D := D) (v := .int (nI x)) (ty := .int) S.1 S.2.1 S.2.2.2.2 hin ty0 hty hnm S.2.2.2.1 hw.1 hw.2.1 hw.2.2.1 hw.2.2.2 k (dw_ob ho) ho.2.1 fi hfi (S.2.2.2.2 _ hl) (fun x hx => by rw [hT] at hx; exact hx) hfin hd rfl rfl hlen hdg (fun H1 locs1 hP hD hS => ?_)
  rw [hset, ← ho.2.2, dw_set ho.1] at hP hD
  exact kk _ H1 locs1 rfl ⟨hw.1, hP, hD, hS⟩
theorem dw_putN {T : u_T} {N fi k x : Nat} {fs : (Nat → Nat) → List Value} (S : CallFix p m c cc nL s args Ts own) (hw : dw_W D cl tys A H0 (dw_l NC ce a f) s H locs) (hin : ∀ w ∈ u_ws C T N, w ∈ Ts) (ty0 : Nat → FieldType) (hty : ∀ k, k < N → parseFieldDescriptor (T k).2.2.1 = some (ty0 k)) (hnm : ∀ a, a < N → ∀ b, b < N → a ≠ b → (T a).2.1 ≠ (T b).2.1) (ho : dw_Co cl NC ce k ci C T N fs) (hfi : fi < N) (hT : (T fi).1 = C) (hl : Cond.fieldLinkNest own index C (T fi).2.1 (T fi).2.2.1 host ∈ Ts) (hfin : (T fi).2.2.2 = false) (hd : parseFieldDescriptor (T fi).2.2.1 = some .int) (hlen : fi < (fs (f k)).length) (hset : (fs (f k)).set fi (.int (nI x)) = fs (dw_up (f k) fi x)) (hdg : decode cc pc = .ok (.putfield index, 3))
    (kk : ∀ (f1 : Nat → Nat → Nat) (H1 : Heap) (locs1 : List Loc), f1 = dw_w f k fi x → dw_W D cl tys A H0 (dw_l NC ce a f1) s H1 locs1 → W p l e R s m args below meth c H1 locs1 cells slots Q (F0 m (pc + 3) ls rest)) : W p l e R s m args below meth c H locs cells slots Q (F0 m pc ls (.int (nI x) :: .ref (a k) :: rest)) := by
  refine va_putN (D := D) (v := .int (nI x)) (ty := .int) S.1 S.2.1 S.2.2.2.2 hin ty0 hty hnm S.2.2.2.1 hw.1 hw.2.1 hw.2.2.1 hw.2.2.2 k (dw_ob ho) ho.2.1 fi hfi (S.2.2.2.2 _ hl) (fun x hx => by rw [hT] at hx; exact hx) hfin hd rfl rfl hlen hdg (fun H1 locs1 hP hD hS => ?_)
  rw [hset, ← ho.2.2, dw_set ho.1] at hP hD
  exact kk _ H1 locs1 rfl ⟨hw.1, hP, hD, hS⟩
/-- System.arraycopy of n ints from the front of one row to the front of another -/
theorem dw_copy {k k2 n1 n2 cnt : Nat} (S : CallFix p m c cc nL s args Ts own) (hw : dw_W D cl tys A H0 (dw_l NC ce a f) s H locs) (hl : Cond.methodLink own index arraycopyName ∈ Ts) (hnat : Cond.native arraycopyName ∈ Ts) (hst : Cond.static arraycopyName ∈ Ts) (hini : Cond.initialized "java/lang/System" ∈ Ts) (hk : dw_Ci tys NC ce .int k n1) (hk2 : dw_Ci tys NC ce .int k2 n2) (h1 : cnt ≤ n1) (h2 : cnt ≤ n2) (hsz : ls.size = nL) (hfr : 1 ≤ R.frames) (hlo : (rest.map fun v => v.category).sum + (nativeFrameWords "java/lang/System" "arraycopy" 5 + 11) ≤ R.locals) (hdg : decode cc pc = .ok (.invokestatic index, 3))
    (kk : ∀ (f1 : Nat → Nat → Nat) (H1 : Heap) (locs1 : List Loc), f1 = dw_su f k2 (fun j => if j < cnt then f k j else f k2 j) → dw_W D cl tys A H0 (dw_l NC ce a f1) s H1 locs1 → W p l e R s m args below meth c H1 locs1 cells slots Q (F0 m (pc + 3) ls rest)) : W p l e R s m args below meth c H locs cells slots Q (F0 m pc ls (.int (nI cnt) :: .int (nI 0) :: .ref (a k2) :: .int (nI 0) :: .ref (a k) :: rest)) := by
  obtain ⟨a1, a2, cA, t0, a3, a4⟩ := hk
  obtain ⟨b1, b2, cB, t1, b3, b4⟩ := hk2
  have hc : (nI cnt).toNatClampNeg = cnt := nI_clamp (by omega)
  have h0 : (nI 0).toNatClampNeg = 0 := rfl
  refine va_copyi (f := fun j => nI (f k j)) (g := fun j => nI (f k2 j)) S.1 S.2.1 (S.2.2.1.trans hsz.symm) S.2.2.2.1 (S.2.2.2.2 _ hl) (S.2.2.2.2 _ hnat) (S.2.2.2.2 _ hst) (S.2.2.2.2 _ hini) hw.1 hw.2.1 hw.2.2.1 hw.2.2.2 k k2 t0 t1 (by rw [dw_get a1, a4]) (by rw [dw_get b1, b4]) a3 b3 rfl (by decide) (by decide) (nI_pos (by omega)) (by rw [hc, h0]; omega) (by rw [hc, h0]; omega) (fun _ _ => rfl) hfr hlo hdg (fun H1 locs1 hP hD hS => ?_)
  have hq : (va_cpy (fun j => nI (f k j)) (fun j => nI (f k2 j)) (nI 0).toNatClampNeg (nI 0).toNatClampNeg (nI cnt).toNatClampNeg) = fun j => nI ((fun j => if j < cnt then f k j else f k2 j) j) := by
    funext j
    rw [hc, h0]
    unfold va_cpy
    by_cases h : j < cnt
    · rw [if_pos ⟨Nat.zero_le _, by omega⟩]
      simp [h]
    · rw [if_neg (by omega)]
      simp [h]
  rw [hq, ← b4, dw_set b1] at hP hD
  exact kk _ H1 locs1 rfl ⟨hw.1, hP, hD, hS⟩
end
/-- a contract out of a walk of its body -/
theorem dw_ofI {l : Launch} {D : va_G} {cl : List vw_C} {tys : List (ClassId × FieldType)} {NC : Nat} {ce : Nat → (Nat → Nat) → va_E} {a : Nat → Nat} {y : MethodName} {bytes : ByteArray} {maxL : Nat} {ty : FieldType} {Ts : List Cond} {fr lo : Nat} {As : List Value} {f : Nat → Nat → Nat} {post : Int32 → (Nat → Nat → Nat) → Prop} (hy : plainName y.cls = true) (hnar : ∀ v u, post v u → narrow ty (.int v) = .int v) (hlen : (lg_sl As).length ≤ maxL)
    (body : ∀ (p : Program) (e : Env) (s : State) (m : MethodId) (below : List Frame) (meth : Method) (c : Code) (ls : Array Slot) (A : Nat → Prop) (Q : State → Prop) (R : Room), R = { frames := fr, cells := 0, slots := 0, locals := lo } → (∀ q : Nat, s.heap.size ≤ q → A q) → CallFix p m c bytes maxL s As.toArray Ts y.cls → dw_W D cl tys A s.heap (dw_l NC ce a f) s s.heap [] → lv_has ls maxL (lv_args 0 As) →
      (∀ (H : Heap) (locs : List Loc) (pc : Nat) (ls : Array Slot) (f2 : Nat → Nat → Nat) (v : Int32), dw_W D cl tys A s.heap (dw_l NC ce a f2) s H locs → post v f2 → decode bytes pc = .ok (.ireturn, 1) → W p l e R s m As.toArray below meth c H locs 0 0 Q (F0 m pc ls [.int v])) →
      W p l e R s m As.toArray below meth c s.heap [] 0 0 Q (F0 m 0 ls [])) : dw_CI l D cl tys NC ce a y (Cond.code y bytes maxL (some ty) :: Ts) fr lo As f post := by
  intro sz
  refine Met.ofW (cc := bytes) (maxL := maxL) (ret := some ty) hy rfl ?_
  intro p e s m args below meth c s₁ B hml hv
  obtain ⟨rfl, hsz, hP, hK, hD0⟩ := hv
  have hts := atoms_spec (ws := Cond.code y bytes maxL (some ty) :: Ts) B.pre
  have hown : s.vm.findClass y.cls = some m.cls := findClass_of_methodNamed B.named
  have hlocks := B.notSynchronized
  have hr := B.returns
  have hx := B.exec
  have hb := B.bytes
  subst hsz
  have hD := hD0.self (sz := s.heap.size)
  generalize hAe : va_A (dw_l NC ce a f) s.heap.size = A at hD ⊢
  have hA : ∀ q : Nat, s.heap.size ≤ q → A q := fun q h => by rw [← hAe]; exact Or.inr h
  have hl := lv_entry As (n := maxL) hlen
  rw [lg_entry_eq]
  generalize (lg_sl As ++ List.replicate (maxL - (lg_sl As).length) Slot.unset).toArray = ls at hl ⊢
  refine body p e s m below meth c ls A _ _ rfl hA ⟨hx, hb, hml, hown, fun w hw => hts w (List.mem_cons_of_mem _ hw)⟩ ⟨hK, hP, hD, va_S.rf⟩ hl ?_
  intro H locs pc ls f2 v hw hv hdg
  exact W.zret hx hb hr (hnar v f2 hv) (fun t ht hW => ⟨⟨v, f2, rfl, hv, by rw [ht]; exact hw.2.1, va_K.moved hW.alike hw.1⟩, hw.2.2.2.F ht⟩) hw.2.2.2.2.2 hdg hlocks
theorem dw_ofL {l : Launch} {D : va_G} {cl : List vw_C} {tys : List (ClassId × FieldType)} {NC : Nat} {ce : Nat → (Nat → Nat) → va_E} {a : Nat → Nat} {y : MethodName} {bytes : ByteArray} {maxL : Nat} {Ts : List Cond} {fr lo : Nat} {As : List Value} {f : Nat → Nat → Nat} {post : Int64 → (Nat → Nat → Nat) → Prop} (hy : plainName y.cls = true) (hlen : (lg_sl As).length ≤ maxL)
    (body : ∀ (p : Program) (e : Env) (s : State) (m : MethodId) (below : List Frame) (meth : Method) (c : Code) (ls : Array Slot) (A : Nat → Prop) (Q : State → Prop) (R : Room), R = { frames := fr, cells := 0, slots := 0, locals := lo } → (∀ q : Nat, s.heap.size ≤ q → A q) → CallFix p m c bytes maxL s As.toArray Ts y.cls → dw_W D cl tys A s.heap (dw_l NC ce a f) s s.heap [] → lv_has ls maxL (lv_args 0 As) →
      (∀ (H : Heap) (locs : List Loc) (pc : Nat) (ls : Array Slot) (f2 : Nat → Nat → Nat) (v : Int64), dw_W D cl tys A s.heap (dw_l NC ce a f2) s H locs → post v f2 → decode bytes pc = .ok (.lreturn, 1) → W p l e R s m As.toArray below meth c H locs 0 0 Q (F0 m pc ls [.long v])) →
      W p l e R s m As.toArray below meth c s.heap [] 0 0 Q (F0 m 0 ls [])) : dw_CL l D cl tys NC ce a y (Cond.code y bytes maxL (some .long) :: Ts) fr lo As f post := by
  intro sz
  refine Met.ofW (cc := bytes) (maxL := maxL) (ret := some .long) hy rfl ?_
  intro p e s m args below meth c s₁ B hml hv
  obtain ⟨rfl, hsz, hP, hK, hD0⟩ := hv
  have hts := atoms_spec (ws := Cond.code y bytes maxL (some .long) :: Ts) B.pre
  have hown : s.vm.findClass y.cls = some m.cls := findClass_of_methodNamed B.named
  have hlocks := B.notSynchronized
  have hr := B.returns
  have hx := B.exec
  have hb := B.bytes
  subst hsz
  have hD := hD0.self (sz := s.heap.size)
  generalize hAe : va_A (dw_l NC ce a f) s.heap.size = A at hD ⊢
  have hA : ∀ q : Nat, s.heap.size ≤ q → A q := fun q h => by rw [← hAe]; exact Or.inr h
  have hl := lv_entry As (n := maxL) hlen
  rw [lg_entry_eq]
  generalize (lg_sl As ++ List.replicate (maxL - (lg_sl As).length) Slot.unset).toArray = ls at hl ⊢
  refine body p e s m below meth c ls A _ _ rfl hA ⟨hx, hb, hml, hown, fun w hw => hts w (List.mem_cons_of_mem _ hw)⟩ ⟨hK, hP, hD, va_S.rf⟩ hl ?_
  intro H locs pc ls f2 v hw hv hdg
  exact W.lret hx hb hr (fun t ht hW => ⟨⟨v, f2, rfl, hv, by rw [ht]; exact hw.2.1, va_K.moved hW.alike hw.1⟩, hw.2.2.2.F ht⟩) hw.2.2.2.2.2 hdg hlocks
theorem dw_ofV {l : Launch} {D : va_G} {cl : List vw_C} {tys : List (ClassId × FieldType)} {NC : Nat} {ce : Nat → (Nat → Nat) → va_E} {a : Nat → Nat} {y : MethodName} {bytes : ByteArray} {maxL : Nat} {Ts : List Cond} {fr lo : Nat} {As : List Value} {f : Nat → Nat → Nat} {post : (Nat → Nat → Nat) → Prop} (hy : plainName y.cls = true) (hlen : (lg_sl As).length ≤ maxL)
    (body : ∀ (p : Program) (e : Env) (s : State) (m : MethodId) (below : List Frame) (meth : Method) (c : Code) (ls : Array Slot) (A : Nat → Prop) (Q : State → Prop) (R : Room), R = { frames := fr, cells := 0, slots := 0, locals := lo } → (∀ q : Nat, s.heap.size ≤ q → A q) → CallFix p m c bytes maxL s As.toArray Ts y.cls → dw_W D cl tys A s.heap (dw_l NC ce a f) s s.heap [] → lv_has ls maxL (lv_args 0 As) →
      (∀ (H : Heap) (locs : List Loc) (pc : Nat) (ls : Array Slot) (f2 : Nat → Nat → Nat), dw_W D cl tys A s.heap (dw_l NC ce a f2) s H locs → post f2 → decode bytes pc = .ok (.return_, 1) → W p l e R s m As.toArray below meth c H locs 0 0 Q (F0 m pc ls [])) →
      W p l e R s m As.toArray below meth c s.heap [] 0 0 Q (F0 m 0 ls [])) : dw_CV l D cl tys NC ce a y (Cond.code y bytes maxL none :: Ts) fr lo As f post := by
  intro sz
  refine Met.ofW (cc := bytes) (maxL := maxL) (ret := none) hy rfl ?_
  intro p e s m args below meth c s₁ B hml hv
  obtain ⟨rfl, hsz, hP, hK, hD0⟩ := hv
  have hts := atoms_spec (ws := Cond.code y bytes maxL none :: Ts) B.pre
  have hown : s.vm.findClass y.cls = some m.cls := findClass_of_methodNamed B.named
  have hlocks := B.notSynchronized
  have hr := B.returns
  have hx := B.exec
  have hb := B.bytes
  subst hsz
  have hD := hD0.self (sz := s.heap.size)
  generalize hAe : va_A (dw_l NC ce a f) s.heap.size = A at hD ⊢
  have hA : ∀ q : Nat, s.heap.size ≤ q → A q := fun q h => by rw [← hAe]; exact Or.inr h
  have hl := lv_entry As (n := maxL) hlen
  rw [lg_entry_eq]
  generalize (lg_sl As ++ List.replicate (maxL - (lg_sl As).length) Slot.unset).toArray = ls at hl ⊢
  refine body p e s m below meth c ls A _ _ rfl hA ⟨hx, hb, hml, hown, fun w hw => hts w (List.mem_cons_of_mem _ hw)⟩ ⟨hK, hP, hD, va_S.rf⟩ hl ?_
  intro H locs pc ls f2 hw hv hdg
  exact W.vret hx hb hr (fun t ht hW => ⟨⟨f2, rfl, hv, by rw [ht]; exact hw.2.1, va_K.moved hW.alike hw.1⟩, hw.2.2.2.F ht⟩) hw.2.2.2.2.2 hdg hlocks
end
section
/-! plain words: sets of bits, the k-th, counts -/
abbrev ds_in (v : Int32) (n : Nat) : Prop := 0 ≤ v.toInt ∧ v.toInt < (n : Int)
theorem ds_in_nI {v : Int32} {n : Nat} (h : ds_in v n) : v = nI v.toNatClampNeg ∧ v.toNatClampNeg < n := by
  obtain ⟨h1, h2⟩ := h
  have h3 : ¬ v < 0 := by rw [Int32.lt_iff_toInt_lt, Int32.toInt_zero]; omega
  obtain ⟨j, hj, rfl⟩ := nI_of h3
  rw [nI_toInt hj] at h2
  rw [nI_clamp hj]
  exact ⟨rfl, by omega⟩
theorem ds_nI_in {j n : Nat} (hj : j < 2 ^ 31) : ds_in (nI j) n ↔ j < n := by
  unfold ds_in
  rw [nI_toInt hj]
  omega
def ds_bits (P : Nat → Bool) : Nat → Nat
  | 0 => 0
  | i + 1 => if P i then ds_bits P i ||| 1 * 2 ^ i else ds_bits P i
theorem ds_bits_tb (P : Nat → Bool) : ∀ n s, (ds_bits P n).testBit s = (decide (s < n) && P s)
  | 0, s => by simp [ds_bits]
  | n + 1, s => by
    have ih := ds_bits_tb P n s
    unfold ds_bits
    by_cases h : P n = true
    · rw [if_pos h, Nat.testBit_or, ih, Nat.one_mul, Nat.testBit_two_pow]
      by_cases e : n = s
      · subst e
        simp [h]
      · have h2 : (s < n + 1) ↔ (s < n) := by omega
        simp [e, h2]
    · rw [if_neg h, ih]
      by_cases e : s = n
      · subst e
        simp [h]
      · have h2 : (s < n + 1) ↔ (s < n) := by omega
        simp [h2]
theorem ds_bits_lt (P : Nat → Bool) : ∀ n, ds_bits P n < 2 ^ n
  | 0 => by simp [ds_bits]
  | n + 1 => by
    have ih := ds_bits_lt P n
    have h1 : 2 ^ n < 2 ^ (n + 1) := Nat.pow_lt_pow_right (by omega) (by omega)
    unfold ds_bits
    split
    · exact Nat.or_lt_two_pow (Nat.lt_trans ih h1) (by rw [Nat.one_mul]; exact h1)
    · exact Nat.lt_trans ih h1
theorem ds_bits_congr {P P2 : Nat → Bool} : ∀ n, (∀ i, i < n → P i = P2 i) → ds_bits P n = ds_bits P2 n
  | 0, _ => rfl
  | n + 1, h => by
    unfold ds_bits
    rw [ds_bits_congr n (fun i hi => h i (by omega)), h n (by omega)]
theorem ds_bits_256 (P : Nat → Bool) {n : Nat} (hn : n ≤ 8) : ds_bits P n < 256 := Nat.lt_of_lt_of_le (ds_bits_lt P n) (Nat.pow_le_pow_right (n := 2) (by omega) hn)
theorem ds_tb (x s : Nat) : ((x / 2 ^ s) &&& 1 = 1) ↔ x.testBit s = true := by
  rw [Nat.and_one_is_mod, Nat.testBit_eq_decide_div_mod_eq]
  simp
/-- the k-th place of P from s on, b seen before -/
def ds_find (P : Nat → Bool) (k : Int32) : Nat → Nat → Nat → Int32
  | 0, _, _ => -1
  | m + 1, s, b => if P s then (if nI b = k then nI s else ds_find P k m (s + 1) (b + 1)) else ds_find P k m (s + 1) b
theorem ds_find_congr {P P2 : Nat → Bool} {k : Int32} : ∀ m s b, (∀ i, s ≤ i → i < s + m → P i = P2 i) → ds_find P k m s b = ds_find P2 k m s b
  | 0, _, _, _ => rfl
  | m + 1, s, b, h => by
    unfold ds_find
    rw [h s (Nat.le_refl _) (by omega), ds_find_congr m (s + 1) (b + 1) (fun i h1 h2 => h i (by omega) (by omega)), ds_find_congr m (s + 1) b (fun i h1 h2 => h i (by omega) (by omega))]
theorem ds_find_none {P : Nat → Bool} {k : Int32} : ∀ m s b, (∀ i, s ≤ i → i < s + m → P i = false) → ds_find P k m s b = -1
  | 0, _, _, _ => rfl
  | m + 1, s, b, h => by
    unfold ds_find
    rw [h s (Nat.le_refl _) (by omega), ds_find_none m (s + 1) b (fun i h1 h2 => h i (by omega) (by omega))]
    rfl
theorem ds_find_more {P : Nat → Bool} {k : Int32} {j : Nat} : ∀ m s b, (∀ i, s + m ≤ i → i < s + m + j → P i = false) → ds_find P k (m + j) s b = ds_find P k m s b
  | 0, s, b, h => by
    rw [Nat.zero_add, ds_find_none j s b (fun i h1 h2 => h i (by omega) (by omega))]
    rfl
  | m + 1, s, b, h => by
    rw [show m + 1 + j = (m + j) + 1 by omega]
    unfold ds_find
    rw [ds_find_more m (s + 1) (b + 1) (fun i h1 h2 => h i (by omega) (by omega)), ds_find_more m (s + 1) b (fun i h1 h2 => h i (by omega) (by omega))]
def ds_cnt (P : Nat → Bool) : Nat → Nat
  | 0 => 0
  | i + 1 => if P i then ds_cnt P i + 1 else ds_cnt P i
theorem ds_cnt_le (P : Nat → Bool) : ∀ n, ds_cnt P n ≤ n
  | 0 => Nat.le_refl _
  | n + 1 => by
    have ih := ds_cnt_le P n
    unfold ds_cnt
    split <;> omega
theorem ds_cnt_congr {P P2 : Nat → Bool} : ∀ n, (∀ i, i < n → P i = P2 i) → ds_cnt P n = ds_cnt P2 n
  | 0, _ => rfl
  | n + 1, h => by
    unfold ds_cnt
    rw [ds_cnt_congr n (fun i hi => h i (by omega)), h n (by omega)]
/-- apart: two counts together are no more than n -/
theorem ds_cnt_two {P P2 : Nat → Bool} : ∀ n, (∀ i, i < n → ¬ (P i = true ∧ P2 i = true)) → ds_cnt P n + ds_cnt P2 n = ds_cnt (fun i => P i || P2 i) n
  | 0, _ => rfl
  | n + 1, h => by
    have ih := ds_cnt_two n (fun i hi => h i (by omega))
    have hn := h n (by omega)
    unfold ds_cnt
    cases h1 : P n <;> cases h2 : P2 n <;> simp_all <;> omega
theorem ds_cnt_false : ∀ n, ds_cnt (fun _ => false) n = 0
  | 0 => rfl
  | n + 1 => by unfold ds_cnt; simpa using ds_cnt_false n
theorem ds_cnt_more {P : Nat → Bool} {j : Nat} : ∀ m, (∀ i, m ≤ i → i < m + j → P i = false) → ds_cnt P (m + j) = ds_cnt P m := by
  induction j with
  | zero => intro m _; rfl
  | succ j ih =>
    intro m h
    have e : ds_cnt P ((m + j) + 1) = ds_cnt P (m + j) := by
      rw [show ds_cnt P ((m + j) + 1) = if P (m + j) then ds_cnt P (m + j) + 1 else ds_cnt P (m + j) from rfl, h (m + j) (by omega) (by omega)]
      rfl
    rw [show m + (j + 1) = (m + j) + 1 by omega, e]
    exact ih m (fun i h1 h2 => h i h1 (by omega))
end
section
/-! the parts of a set, and the table that is joined vehicle by vehicle -/
theorem dp_half (x : Nat) : x = 2 * (x / 2) + x % 2 := by omega
theorem dp_and2 (x y : Nat) : (x &&& y) / 2 = x / 2 &&& y / 2 := Nat.and_div_two
theorem dp_andm (x y : Nat) : (x &&& y) % 2 = x % 2 &&& y % 2 := by
  have h := Nat.and_mod_two_pow (a := x) (b := y) (n := 1)
  simpa using h
/-- the next part: none lies between -/
theorem dp_next : ∀ (k S P Q : Nat), P < 2 ^ k → P &&& S = P → Q &&& S = Q → Q < P → Q ≤ (P - 1) &&& S
  | 0, S, P, Q, h0, _, _, hq => by simp at h0; omega
  | k + 1, S, P, Q, h0, hP, hQ, hq => by
    have e2 := dp_and2 (P - 1) S
    have em := dp_andm (P - 1) S
    have hP2 : P / 2 &&& S / 2 = P / 2 := by rw [← dp_and2, hP]
    have hQ2 : Q / 2 &&& S / 2 = Q / 2 := by rw [← dp_and2, hQ]
    have hQm : Q % 2 &&& S % 2 = Q % 2 := by rw [← dp_andm, hQ]
    have hPm : P % 2 &&& S % 2 = P % 2 := by rw [← dp_andm, hP]
    rcases Nat.mod_two_eq_zero_or_one P with c | c
    · have hp : (P - 1) / 2 = P / 2 - 1 := by omega
      have hm : (P - 1) % 2 = 1 := by omega
      rw [hp] at e2
      rw [hm] at em
      have ih := dp_next k (S / 2) (P / 2) (Q / 2) (by rw [Nat.pow_succ] at h0; omega) hP2 hQ2 (by omega)
      have h1 : Q % 2 ≤ 1 &&& S % 2 := by
        rcases Nat.mod_two_eq_zero_or_one Q with d | d
        · omega
        · rw [d] at hQm
          rw [hQm]
          omega
      rw [dp_half ((P - 1) &&& S), e2, em, dp_half Q]
      omega
    · have hp : (P - 1) / 2 = P / 2 := by omega
      rw [hp, hP2] at e2
      rw [dp_half ((P - 1) &&& S), e2]
      omega
/-- the least of m and the parts from P down -/
def dp_part (B w : Nat → Nat) (S : Nat) : Nat → Nat → Nat → Nat
  | 0, _, m => m
  | k + 1, P, m => if P = 0 then m else dp_part B w S k ((P - 1) &&& S) (min m (B (S ^^^ P) + w P))
theorem dp_part_le {B w : Nat → Nat} {S : Nat} : ∀ k P m, dp_part B w S k P m ≤ m
  | 0, _, _ => Nat.le_refl _
  | k + 1, P, m => by
    unfold dp_part
    split
    · exact Nat.le_refl _
    · exact Nat.le_trans (dp_part_le k _ _) (Nat.min_le_left _ _)
theorem dp_part_all {B w : Nat → Nat} {S : Nat} : ∀ k P m, P < k → P &&& S = P → ∀ Q, Q &&& S = Q → 0 < Q → Q ≤ P → dp_part B w S k P m ≤ B (S ^^^ Q) + w Q
  | 0, P, m, h, _, _, _, _, _ => by omega
  | k + 1, P, m, h, hP, Q, hQ, h0, hq => by
    unfold dp_part
    rw [if_neg (by omega)]
    have h2 : (P - 1) &&& S ≤ P - 1 := Nat.and_le_left
    rcases Nat.eq_or_lt_of_le hq with e | e
    · rw [e]
      exact Nat.le_trans (dp_part_le k _ _) (Nat.min_le_right _ _)
    · exact dp_part_all k _ _ (by omega) (by rw [Nat.and_assoc, Nat.and_self]) Q hQ h0 (dp_next P S P Q Nat.lt_two_pow_self hP hQ e)
theorem dp_part_in {B w : Nat → Nat} {S : Nat} : ∀ k P m, P &&& S = P → dp_part B w S k P m = m ∨ ∃ Q, Q &&& S = Q ∧ 0 < Q ∧ dp_part B w S k P m = B (S ^^^ Q) + w Q
  | 0, _, _, _ => Or.inl rfl
  | k + 1, P, m, hP => by
    unfold dp_part
    split
    · exact Or.inl rfl
    · rename_i hz
      rcases dp_part_in (B := B) (w := w) k ((P - 1) &&& S) (min m (B (S ^^^ P) + w P)) (by rw [Nat.and_assoc, Nat.and_self]) with h | h
      · rw [h]
        rcases Nat.le_total m (B (S ^^^ P) + w P) with q | q
        · exact Or.inl (Nat.min_eq_left q)
        · exact Or.inr ⟨P, hP, by omega, Nat.min_eq_right q⟩
      · exact Or.inr h
/-- one vehicle more -/
def dp_join (B w : Nat → Nat) (S : Nat) : Nat := dp_part B w S (S + 1) S (B S)
/-- the table after the vehicles 0 .. j - 1; V stands for those that are carried -/
def dp_tab (wt : Nat → Nat → Nat) (V : Nat) : Nat → Nat → Nat
  | 0, S => wt V S
  | j + 1, S => dp_join (dp_tab wt V j) (wt j) S
/-- the stops of S that p gives to v -/
def dp_mask (n : Nat) (p : Nat → Nat) (v S : Nat) : Nat := ds_bits (fun s => S.testBit s && p s == v) n
theorem dp_mask_tb (n : Nat) (p : Nat → Nat) (v S s : Nat) : (dp_mask n p v S).testBit s = (decide (s < n) && (S.testBit s && p s == v)) := ds_bits_tb _ n s
/-- what the plan p weighs on S, with the vehicles 0 .. j - 1 -/
def dp_sum (wt : Nat → Nat → Nat) (V n : Nat) (p : Nat → Nat) (S : Nat) : Nat → Nat
  | 0 => wt V (dp_mask n p V S)
  | j + 1 => dp_sum wt V n p S j + wt j (dp_mask n p j S)
theorem dp_sum_congr {wt : Nat → Nat → Nat} {V n : Nat} {p p2 : Nat → Nat} {S S2 : Nat} : ∀ j, (∀ v, v = V ∨ v < j → dp_mask n p v S = dp_mask n p2 v S2) → dp_sum wt V n p S j = dp_sum wt V n p2 S2 j
  | 0, h => by unfold dp_sum; rw [h V (Or.inl rfl)]
  | j + 1, h => by
    unfold dp_sum
    rw [dp_sum_congr j (fun v hv => h v (by omega)), h j (Or.inr (by omega))]
theorem dp_sub_tb {Q S : Nat} (h : Q &&& S = Q) (s : Nat) (hs : Q.testBit s = true) : S.testBit s = true := by
  rw [← h, Nat.testBit_and] at hs
  simp at hs
  exact hs.2
theorem dp_tb_sub {Q S : Nat} (h : ∀ s, Q.testBit s = true → S.testBit s = true) : Q &&& S = Q := by
  apply Nat.eq_of_testBit_eq
  intro i
  rw [Nat.testBit_and]
  cases hq : Q.testBit i
  · rfl
  · rw [h i hq]; rfl
def dp_ok (V j : Nat) (p : Nat → Nat) (S : Nat) : Prop := ∀ s, S.testBit s = true → p s = V ∨ p s < j
theorem dp_big {S n s : Nat} (hS : S < 2 ^ n) (h : S.testBit s = true) : s < n := by
  rcases Nat.lt_or_ge s n with q | q
  · exact q
  · rw [Nat.testBit_lt_two_pow (Nat.lt_of_lt_of_le hS (Nat.pow_le_pow_right (by omega) q))] at h
    cases h
theorem dp_xor_tb {Q S : Nat} (h : Q &&& S = Q) (s : Nat) : (S ^^^ Q).testBit s = (S.testBit s && !Q.testBit s) := by
  rw [Nat.testBit_xor]
  cases hq : Q.testBit s
  · cases S.testBit s <;> rfl
  · rw [dp_sub_tb h s hq]; rfl
theorem dp_lower {wt : Nat → Nat → Nat} {V n : Nat} (h0 : ∀ v, v < V → wt v 0 = 0) : ∀ j, j ≤ V → ∀ (S : Nat) (p : Nat → Nat), S < 2 ^ n → dp_ok V j p S → dp_tab wt V j S ≤ dp_sum wt V n p S j
  | 0, _, S, p, hS, hp => by
    unfold dp_tab dp_sum
    have e : dp_mask n p V S = S := by
      apply Nat.eq_of_testBit_eq
      intro i
      rw [dp_mask_tb]
      cases hi : S.testBit i
      · simp
      · have h1 := dp_big hS hi
        rcases hp i hi with q | q
        · simp [h1, q]
        · omega
    rw [e]
    exact Nat.le_refl _
  | j + 1, hj, S, p, hS, hp => by
    have hM : dp_mask n p j S &&& S = dp_mask n p j S := dp_tb_sub (fun s hs => by rw [dp_mask_tb] at hs; simp at hs; exact hs.2.1)
    unfold dp_tab dp_join dp_sum
    by_cases hz : dp_mask n p j S = 0
    · rw [hz, h0 j (by omega), Nat.add_zero]
      refine Nat.le_trans (dp_part_le _ _ _) (dp_lower h0 j (by omega) S p hS (fun s hs => ?_))
      rcases hp s hs with q | q
      · exact Or.inl q
      · rcases Nat.lt_or_ge (p s) j with q2 | q2
        · exact Or.inr q2
        · exfalso
          have e : (dp_mask n p j S).testBit s = true := by
            rw [dp_mask_tb, hs]
            have h1 := dp_big hS hs
            have h2 : p s = j := by omega
            simp [h1, h2]
          rw [hz] at e
          simp at e
    · have hle : dp_mask n p j S ≤ S := by
        have h1 : dp_mask n p j S &&& S ≤ S := Nat.and_le_right
        rwa [hM] at h1
      refine Nat.le_trans (dp_part_all (S + 1) S _ (by omega) (Nat.and_self S) (dp_mask n p j S) hM (by omega) hle) ?_
      refine Nat.add_le_add_right ?_ _
      have hS2 : S ^^^ dp_mask n p j S < 2 ^ n := Nat.xor_lt_two_pow hS (Nat.lt_of_le_of_lt hle hS)
      rw [dp_sum_congr (p := p) (p2 := p) (S := S) (S2 := S ^^^ dp_mask n p j S) j (fun v hv => ?_)]
      · refine dp_lower h0 j (by omega) _ p hS2 (fun s hs => ?_)
        rw [dp_xor_tb hM] at hs
        simp at hs
        rcases hp s hs.1 with q | q
        · exact Or.inl q
        · rcases Nat.lt_or_ge (p s) j with q2 | q2
          · exact Or.inr q2
          · exfalso
            have e : (dp_mask n p j S).testBit s = true := by
              rw [dp_mask_tb, hs.1]
              have h1 := dp_big hS hs.1
              have h2 : p s = j := by omega
              simp [h1, h2]
            rw [hs.2] at e
            cases e
      · apply Nat.eq_of_testBit_eq
        intro i
        rw [dp_mask_tb, dp_mask_tb, dp_xor_tb hM, dp_mask_tb]
        by_cases h1 : p i = v
        · have h2 : (p i == j) = false := beq_eq_false_iff_ne.mpr (by omega)
          rw [h2]
          cases decide (i < n) <;> cases S.testBit i <;> cases (p i == v) <;> rfl
        · have h2 : (p i == v) = false := beq_eq_false_iff_ne.mpr h1
          rw [h2]
          cases decide (i < n) <;> cases S.testBit i <;> cases (p i == j) <;> rfl
theorem dp_reach {wt : Nat → Nat → Nat} {V n : Nat} (h0 : ∀ v, v < V → wt v 0 = 0) : ∀ j, j ≤ V → ∀ (S : Nat), S < 2 ^ n → ∃ p : Nat → Nat, dp_ok V j p S ∧ dp_tab wt V j S = dp_sum wt V n p S j
  | 0, _, S, hS => by
    refine ⟨fun _ => V, fun s _ => Or.inl rfl, ?_⟩
    unfold dp_tab dp_sum
    have e : dp_mask n (fun _ => V) V S = S := by
      apply Nat.eq_of_testBit_eq
      intro i
      rw [dp_mask_tb]
      cases hi : S.testBit i
      · simp
      · have h1 := dp_big hS hi
        simp [h1]
    rw [e]
  | j + 1, hj, S, hS => by
    rcases dp_part_in (B := dp_tab wt V j) (w := wt j) (S := S) (S + 1) S (dp_tab wt V j S) (Nat.and_self S) with h | ⟨Q, hQ, hq, h⟩
    · obtain ⟨p, hp, e⟩ := dp_reach h0 j (by omega) S hS
      refine ⟨p, fun s hs => ?_, ?_⟩
      · rcases hp s hs with q | q
        · exact Or.inl q
        · exact Or.inr (by omega)
      · unfold dp_tab dp_join dp_sum
        have hz : dp_mask n p j S = 0 := by
          apply Nat.eq_of_testBit_eq
          intro i
          rw [dp_mask_tb, Nat.zero_testBit]
          cases hi : S.testBit i
          · simp
          · have h1 : p i ≠ j := by
              rcases hp i hi with q | q <;> omega
            simp [h1]
        rw [h, e, hz, h0 j (by omega), Nat.add_zero]
    · have hle : Q ≤ S := by
        have h1 : Q &&& S ≤ S := Nat.and_le_right
        rwa [hQ] at h1
      have hS2 : S ^^^ Q < 2 ^ n := Nat.xor_lt_two_pow hS (Nat.lt_of_le_of_lt hle hS)
      obtain ⟨p, hp, e⟩ := dp_reach h0 j (by omega) (S ^^^ Q) hS2
      refine ⟨fun s => if Q.testBit s then j else p s, fun s hs => ?_, ?_⟩
      · by_cases hz : Q.testBit s = true
        · right
          simp [hz]
        · have h1 := hp s (by rw [dp_xor_tb hQ, hs]; simp [hz])
          simp only [hz]
          rcases h1 with q | q
          · exact Or.inl q
          · exact Or.inr (Nat.lt_succ_of_lt q)
      · unfold dp_tab dp_join dp_sum
        have hm : dp_mask n (fun s => if Q.testBit s then j else p s) j S = Q := by
          apply Nat.eq_of_testBit_eq
          intro i
          rw [dp_mask_tb]
          cases hi : Q.testBit i
          · cases hs : S.testBit i
            · simp
            · have h1 : p i ≠ j := by
                rcases hp i (by rw [dp_xor_tb hQ, hs, hi]; rfl) with q | q <;> omega
              simp [h1]
          · have h1 := dp_sub_tb hQ i hi
            have h2 := dp_big hS h1
            simp [h1, h2]
        rw [h, e, hm]
        congr 1
        refine dp_sum_congr j (fun v hv => ?_)
        apply Nat.eq_of_testBit_eq
        intro i
        rw [dp_mask_tb, dp_mask_tb, dp_xor_tb hQ]
        cases hi : Q.testBit i
        · simp
        · have h1 : j ≠ v := by omega
          simp [h1]
end
section
/-! rounds as lists, their times -/
/-- the row of v, as the first len of its places -/
def ds_row (f : Nat → Nat → Nat) (v r : Nat) : List Nat := (List.range r).map (fun i => f (22 + v) i)
/-- of the stops below i, those that P has and that are not of v's row -/
def ds_oth (f : Nat → Nat → Nat) (P : Nat → Bool) (v i : Nat) : List Nat := (List.range i).filter (fun s => P s && (f 10 s != v))
/-- the round of v over the stops that P has -/
def ds_rd (f : Nat → Nat → Nat) (P : Nat → Bool) (v : Nat) : List Nat := (ds_row f v (f 15 v)).filter P ++ ds_oth f P v (f 1 1)
theorem ds_row_s (f : Nat → Nat → Nat) (P : Nat → Bool) (v r : Nat) : (ds_row f v (r + 1)).filter P = (ds_row f v r).filter P ++ (if P (f (22 + v) r) then [f (22 + v) r] else []) := by
  unfold ds_row
  rw [List.range_succ, List.map_append, List.filter_append]
  congr 1
  by_cases h : P (f (22 + v) r) = true
  · simp [h]
  · simp [h]
theorem ds_oth_s (f : Nat → Nat → Nat) (P : Nat → Bool) (v i : Nat) : ds_oth f P v (i + 1) = ds_oth f P v i ++ (if P i && (f 10 i != v) then [i] else []) := by
  unfold ds_oth
  rw [List.range_succ, List.filter_append]
  congr 1
  by_cases h : (P i && (f 10 i != v)) = true
  · simp [h]
  · simp [h]
theorem ds_row_mono (f : Nat → Nat → Nat) (P : Nat → Bool) (v : Nat) {r r2 : Nat} (h : r ≤ r2) : ((ds_row f v r).filter P).length ≤ ((ds_row f v r2).filter P).length := by
  induction h with
  | refl => exact Nat.le_refl _
  | step h ih =>
    rw [ds_row_s, List.length_append]
    omega
theorem ds_oth_mono (f : Nat → Nat → Nat) (P : Nat → Bool) (v : Nat) {r r2 : Nat} (h : r ≤ r2) : (ds_oth f P v r).length ≤ (ds_oth f P v r2).length := by
  induction h with
  | refl => exact Nat.le_refl _
  | step h ih =>
    rw [ds_oth_s, List.length_append]
    omega
/-- g holds the list L from place e on -/
def ds_is (g : Nat → Nat) (e : Nat) (L : List Nat) : Prop := ∀ i, i < L.length → g (e + i) = L.getD i 0
theorem ds_is_nil (g : Nat → Nat) (e : Nat) : ds_is g e [] := fun i h => absurd h (Nat.not_lt_zero _)
theorem ds_is_push {g : Nat → Nat} {e : Nat} {L : List Nat} (x : Nat) (h : ds_is g e L) : ds_is (dw_up g (e + L.length) x) e (L ++ [x]) := by
  intro i hi
  rw [List.length_append, List.length_singleton] at hi
  unfold dw_up
  by_cases h1 : i = L.length
  · subst h1
    simp
  · have h2 : i < L.length := by omega
    rw [if_neg (by omega), h i h2]
    simp [List.getElem?_append_left h2]
/-- one step of a round: time and place -/
def ds_st (w : Nat → Nat → Nat) (pl sv : Nat → Nat) (z : Nat × Nat) (s : Nat) : Nat × Nat := (z.1 + (w z.2 (pl s) + sv s), pl s)
def ds_fold (w : Nat → Nat → Nat) (pl sv : Nat → Nat) (L : List Nat) : Nat × Nat := L.foldl (ds_st w pl sv) (0, 0)
def ds_time (w : Nat → Nat → Nat) (pl sv : Nat → Nat) (L : List Nat) : Nat := (ds_fold w pl sv L).1 + w (ds_fold w pl sv L).2 0
theorem ds_fold_s {w : Nat → Nat → Nat} {pl sv : Nat → Nat} {L : List Nat} {i : Nat} (h : i < L.length) : ds_fold w pl sv (L.take (i + 1)) = ds_st w pl sv (ds_fold w pl sv (L.take i)) (L.getD i 0) := by
  unfold ds_fold
  rw [List.take_succ_eq_append_getElem h, List.foldl_append]
  simp [List.getD, h]
theorem ds_fold_b {w : Nat → Nat → Nat} {pl sv : Nat → Nat} (hw : ∀ i j, i < 10 → j < 10 → w i j ≤ 10000) : ∀ (L : List Nat) (z : Nat × Nat), (∀ s ∈ L, pl s < 10 ∧ sv s ≤ 10000) → z.2 < 10 → (L.foldl (ds_st w pl sv) z).1 ≤ z.1 + 20000 * L.length ∧ (L.foldl (ds_st w pl sv) z).2 < 10
  | [], z, _, hz => by simp [hz]
  | s :: L, z, h, hz => by
    have h1 := h s List.mem_cons_self
    have h2 := ds_fold_b hw L (ds_st w pl sv z s) (fun x hx => h x (List.mem_cons_of_mem _ hx)) h1.1
    have h3 := hw z.2 (pl s) hz h1.1
    rw [List.foldl_cons]
    refine ⟨Nat.le_trans h2.1 ?_, h2.2⟩
    show z.1 + (w z.2 (pl s) + sv s) + 20000 * L.length ≤ z.1 + 20000 * (L.length + 1)
    omega
theorem ds_time_b {w : Nat → Nat → Nat} {pl sv : Nat → Nat} (hw : ∀ i j, i < 10 → j < 10 → w i j ≤ 10000) {L : List Nat} (h : ∀ s ∈ L, pl s < 10 ∧ sv s ≤ 10000) (hL : L.length ≤ 8) : ds_time w pl sv L ≤ 170000 := by
  obtain ⟨h1, h2⟩ := ds_fold_b hw L (0, 0) h (by decide)
  have h3 := hw (ds_fold w pl sv L).2 0 h2 (by decide)
  have h4 : (ds_fold w pl sv L).1 ≤ 0 + 20000 * L.length := h1
  unfold ds_time
  omega
theorem ds_fold_congr {w w2 : Nat → Nat → Nat} {pl pl2 sv sv2 : Nat → Nat} : ∀ (L : List Nat) (z : Nat × Nat), (∀ s ∈ L, pl s = pl2 s ∧ sv s = sv2 s ∧ pl s < 10) → z.2 < 10 → (∀ i j, i < 10 → j < 10 → w i j = w2 i j) → L.foldl (ds_st w pl sv) z = L.foldl (ds_st w2 pl2 sv2) z
  | [], _, _, _, _ => rfl
  | s :: L, z, h, hz, hw => by
    obtain ⟨h1, h2, h3⟩ := h s List.mem_cons_self
    rw [List.foldl_cons, List.foldl_cons]
    have e : ds_st w pl sv z s = ds_st w2 pl2 sv2 z s := by
      unfold ds_st
      rw [hw z.2 (pl s) hz h3, ← h1, ← h2]
    rw [← e]
    exact ds_fold_congr L _ (fun x hx => h x (List.mem_cons_of_mem _ hx)) h3 hw
/-- where s stands in L, from place i on -/
def ds_pos (s : Nat) : List Nat → Nat → Int32
  | [], _ => -1
  | x :: L, i => if x = s then nI i else ds_pos s L (i + 1)
end
section
/-! plans as numbers: the order of the plans, and the turn from one to the next -/
def md_code (B : Nat) (p : Nat → Nat) : Nat → Nat
  | 0 => 0
  | s + 1 => md_code B p s * B + p s
theorem md_lt {B c c2 x y : Nat} (hx : x < B) (hy : y < B) : c * B + x < c2 * B + y ↔ c < c2 ∨ (c = c2 ∧ x < y) := by
  rcases Nat.lt_trichotomy c c2 with h | h | h
  · have h1 : (c + 1) * B ≤ c2 * B := Nat.mul_le_mul_right B h
    rw [Nat.succ_mul] at h1
    constructor
    · intro _; exact Or.inl h
    · intro _; omega
  · subst h
    constructor
    · intro q; exact Or.inr ⟨rfl, by omega⟩
    · intro q; rcases q with q | q <;> omega
  · have h1 : (c2 + 1) * B ≤ c * B := Nat.mul_le_mul_right B h
    rw [Nat.succ_mul] at h1
    constructor
    · intro q; omega
    · intro q; rcases q with q | q <;> omega
theorem md_eq {B c c2 x y : Nat} (hx : x < B) (hy : y < B) : c * B + x = c2 * B + y ↔ c = c2 ∧ x = y := by
  constructor
  · intro h
    have h1 := (md_lt (c := c) (c2 := c2) hx hy)
    have h2 := (md_lt (c := c2) (c2 := c) hy hx)
    have h3 : ¬ (c < c2 ∨ (c = c2 ∧ x < y)) := fun q => by have := h1.mpr q; omega
    have h4 : ¬ (c2 < c ∨ (c2 = c ∧ y < x)) := fun q => by have := h2.mpr q; omega
    omega
  · rintro ⟨rfl, rfl⟩; rfl
theorem md_code_congr {B : Nat} {p q : Nat → Nat} : ∀ n, (∀ s, s < n → p s = q s) → md_code B p n = md_code B q n
  | 0, _ => rfl
  | n + 1, h => by
    unfold md_code
    rw [md_code_congr n (fun s hs => h s (by omega)), h n (by omega)]
theorem md_code_lt {B : Nat} {p : Nat → Nat} : ∀ n, (∀ s, s < n → p s < B) → md_code B p n < B ^ n
  | 0, _ => by simp [md_code]
  | n + 1, h => by
    have ih := md_code_lt n (fun s hs => h s (by omega))
    have h1 := h n (by omega)
    unfold md_code
    rw [Nat.pow_succ]
    have h2 : (md_code B p n + 1) * B ≤ B ^ n * B := Nat.mul_le_mul_right B ih
    rw [Nat.succ_mul] at h2
    omega
theorem md_code_inj {B : Nat} {p q : Nat → Nat} : ∀ n, (∀ s, s < n → p s < B) → (∀ s, s < n → q s < B) → md_code B p n = md_code B q n → ∀ s, s < n → p s = q s
  | 0, _, _, _ => fun s h => absurd h (Nat.not_lt_zero _)
  | n + 1, hp, hq, h => by
    unfold md_code at h
    obtain ⟨h1, h2⟩ := (md_eq (hp n (by omega)) (hq n (by omega))).mp h
    have ih := md_code_inj n (fun s hs => hp s (by omega)) (fun s hs => hq s (by omega)) h1
    intro s hs
    rcases Nat.lt_or_ge s n with q1 | q1
    · exact ih s q1
    · rw [show s = n by omega]; exact h2
/-- the order does not hang on the base -/
theorem md_code_mono {B B2 : Nat} {p q : Nat → Nat} : ∀ n, (∀ s, s < n → p s < B ∧ p s < B2) → (∀ s, s < n → q s < B ∧ q s < B2) → (md_code B p n < md_code B q n ↔ md_code B2 p n < md_code B2 q n)
  | 0, _, _ => by simp [md_code]
  | n + 1, hp, hq => by
    have ih := md_code_mono n (fun s hs => hp s (by omega)) (fun s hs => hq s (by omega))
    have hpn := hp n (by omega)
    have hqn := hq n (by omega)
    have e1 : md_code B p n = md_code B q n ↔ md_code B2 p n = md_code B2 q n := by
      constructor
      · intro h
        exact md_code_congr n (md_code_inj n (fun s hs => (hp s (by omega)).1) (fun s hs => (hq s (by omega)).1) h)
      · intro h
        exact md_code_congr n (md_code_inj n (fun s hs => (hp s (by omega)).2) (fun s hs => (hq s (by omega)).2) h)
    unfold md_code
    rw [md_lt hpn.1 hqn.1, md_lt hpn.2 hqn.2, ih, e1]
/-- the rest of the places at the top digit, and the same with zeros -/
theorem md_code_top {V : Nat} {p : Nat → Nat} {j : Nat} : ∀ d, (∀ s, j ≤ s → s < j + d → p s = V) → md_code (V + 1) p (j + d) + 1 = (md_code (V + 1) p j + 1) * (V + 1) ^ d
  | 0, _ => by simp
  | d + 1, h => by
    have ih := md_code_top d (fun s h1 h2 => h s h1 (by omega))
    rw [← Nat.add_assoc, show md_code (V + 1) p (j + d + 1) = md_code (V + 1) p (j + d) * (V + 1) + p (j + d) from rfl]
    rw [h (j + d) (by omega) (by omega), Nat.pow_succ, ← Nat.mul_assoc, ← ih, Nat.succ_mul]
    omega
theorem md_code_zero {B : Nat} {p : Nat → Nat} {j : Nat} : ∀ d, (∀ s, j ≤ s → s < j + d → p s = 0) → md_code B p (j + d) = md_code B p j * B ^ d
  | 0, _ => by simp
  | d + 1, h => by
    have ih := md_code_zero (B := B) d (fun s h1 h2 => h s h1 (by omega))
    rw [← Nat.add_assoc, show md_code B p (j + d + 1) = md_code B p (j + d) * B + p (j + d) from rfl]
    rw [h (j + d) (by omega) (by omega), Nat.pow_succ, ← Nat.mul_assoc, ← ih, Nat.add_zero]
/-- one step on: place j grows by one, all behind it was V and is 0 -/
theorem md_code_turn {V n j : Nat} {p q : Nat → Nat} (hj : j < n) (h1 : ∀ s, s < j → q s = p s) (h2 : q j = p j + 1) (h3 : ∀ s, j < s → s < n → p s = V ∧ q s = 0) : md_code (V + 1) q n = md_code (V + 1) p n + 1 := by
  obtain ⟨d, rfl⟩ : ∃ d, n = (j + 1) + d := ⟨n - (j + 1), by omega⟩
  rw [md_code_top (p := p) (j := j + 1) d (fun s a b => (h3 s (by omega) b).1), md_code_zero (p := q) (j := j + 1) d (fun s a b => (h3 s (by omega) b).2)]
  congr 1
  rw [show md_code (V + 1) q (j + 1) = md_code (V + 1) q j * (V + 1) + q j from rfl, show md_code (V + 1) p (j + 1) = md_code (V + 1) p j * (V + 1) + p j from rfl, md_code_congr j h1, h2]
  omega
/-- all places at the top digit: the last number -/
theorem md_code_last {V n : Nat} {p : Nat → Nat} (h : ∀ s, s < n → p s = V) : md_code (V + 1) p n + 1 = (V + 1) ^ n := by
  have h1 := md_code_top (V := V) (p := p) (j := 0) n (fun s _ b => h s (by omega))
  simpa [md_code] using h1
end
section
/-! a list of different numbers below n is no longer than n; rounds are such -/
theorem dr_drop (n : Nat) : ∀ (L : List Nat), L.Nodup → L.length ≤ (L.filter (fun x => x != n)).length + 1
  | [], _ => by simp
  | x :: L, h => by
    rw [List.nodup_cons] at h
    by_cases e : x = n
    · subst e
      have e2 : L.filter (fun y => y != x) = L := by
        rw [List.filter_eq_self]
        intro y hy
        simp
        intro q
        subst q
        exact h.1 hy
      simp [e2]
    · have ih := dr_drop n L h.2
      simp [e]
      omega
theorem dr_len : ∀ (n : Nat) (L : List Nat), L.Nodup → (∀ x ∈ L, x < n) → L.length ≤ n
  | 0, L, _, h => by
    cases L with
    | nil => simp
    | cons x L => exact absurd (h x List.mem_cons_self) (Nat.not_lt_zero _)
  | n + 1, L, hn, h => by
    have h1 := dr_drop n L hn
    have h2 := dr_len n (L.filter (fun x => x != n)) (hn.filter _) (fun x hx => by
      rw [List.mem_filter] at hx
      have h3 := h x hx.1
      have h4 : x ≠ n := by simpa using hx.2
      omega)
    omega
/-- what is known of the rows: place r of v's row holds a stop of v's row, of rank r; each stop stands in its row -/
def ds_rows (f : Nat → Nat → Nat) : Prop := (∀ v r, v < f 1 0 → r < f 15 v → f (22 + v) r < f 1 1 ∧ f 10 (f (22 + v) r) = v ∧ f 11 (f (22 + v) r) = r) ∧ ∀ s, s < f 1 1 → f 10 s < f 1 0 ∧ f 11 s < f 15 (f 10 s) ∧ f (22 + f 10 s) (f 11 s) = s
theorem dr_row_nd {f : Nat → Nat → Nat} (h : ds_rows f) {v : Nat} (hv : v < f 1 0) : (ds_row f v (f 15 v)).Nodup := by
  unfold ds_row List.Nodup
  rw [List.pairwise_map]
  refine List.Pairwise.imp_of_mem ?_ (List.pairwise_lt_range (n := f 15 v))
  intro x y hx hy hlt e
  have h1 := (h.1 v x hv (List.mem_range.mp hx)).2.2
  have h2 := (h.1 v y hv (List.mem_range.mp hy)).2.2
  rw [e, h2] at h1
  omega
theorem dr_row_in {f : Nat → Nat → Nat} (h : ds_rows f) {v : Nat} (hv : v < f 1 0) {x : Nat} (hx : x ∈ ds_row f v (f 15 v)) : x < f 1 1 ∧ f 10 x = v := by
  unfold ds_row at hx
  obtain ⟨r, hr, rfl⟩ := List.mem_map.mp hx
  have h1 := h.1 v r hv (List.mem_range.mp hr)
  exact ⟨h1.1, h1.2.1⟩
theorem dr_rd_nd {f : Nat → Nat → Nat} (h : ds_rows f) (P : Nat → Bool) {v : Nat} (hv : v < f 1 0) : (ds_rd f P v).Nodup := by
  unfold ds_rd
  rw [List.nodup_append]
  refine ⟨(dr_row_nd h hv).filter _, List.nodup_range.filter _, ?_⟩
  intro x hx y hy e
  have h1 := (dr_row_in h hv (List.mem_filter.mp hx).1).2
  have h2 := (List.mem_filter.mp hy).2
  simp at h2
  rw [e] at h1
  exact h2.2 h1
theorem dr_rd_in {f : Nat → Nat → Nat} (h : ds_rows f) (P : Nat → Bool) {v : Nat} (hv : v < f 1 0) {x : Nat} (hx : x ∈ ds_rd f P v) : x < f 1 1 ∧ P x = true := by
  unfold ds_rd at hx
  rcases List.mem_append.mp hx with q | q
  · have h1 := List.mem_filter.mp q
    exact ⟨(dr_row_in h hv h1.1).1, h1.2⟩
  · unfold ds_oth at q
    have h1 := List.mem_filter.mp q
    have h2 := h1.2
    simp at h2
    exact ⟨List.mem_range.mp h1.1, h2.1⟩
theorem dr_rd_len {f : Nat → Nat → Nat} (h : ds_rows f) (P : Nat → Bool) {v : Nat} (hv : v < f 1 0) : (ds_rd f P v).length ≤ f 1 1 := dr_len _ _ (dr_rd_nd h P hv) (fun _ hx => (dr_rd_in h P hv hx).1)
theorem dr_row_len {f : Nat → Nat → Nat} (h : ds_rows f) {v : Nat} (hv : v < f 1 0) : f 15 v ≤ f 1 1 := by
  have h1 := dr_len _ _ (dr_row_nd h hv) (fun x hx => (dr_row_in h hv hx).1)
  unfold ds_row at h1
  simpa using h1
end
