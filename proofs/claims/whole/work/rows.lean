section
-- ===== PART A: goes FIRST, ahead of the names: the tables' words, and 'selects' of the private methods out of them =====
/-- a private method of a class that the tables say can be made, by its rows of tables_1 -/
def lw_okq (q : MethodName × Nat) : Prop := (q.1.cls ≠ "java/lang/invoke/MethodHandle" ∧ q.1.cls ≠ "java/lang/invoke/VarHandle") ∧ Cond.instantiable q.1.cls q.2 ∈ tables_1 ∧ Cond.privateMethod q.1 ∈ tables_1 ∧ Cond.instanceMethod q.1 ∈ tables_1
theorem lw_p0 : lw_okq (⟨"CopyInserts", "textOf", "(I)LCopyInserts$Row;"⟩, 7) := ⟨⟨by decide +kernel, by decide +kernel⟩, List.mem_of_getElem? (i := 10) (by decide +kernel), List.mem_of_getElem? (i := 200) (by decide +kernel), List.mem_of_getElem? (i := 201) (by decide +kernel)⟩
theorem lw_p1 : lw_okq (⟨"CopyInserts$Search", "workOutPlace", "(I)V"⟩, 13) := ⟨⟨by decide +kernel, by decide +kernel⟩, List.mem_of_getElem? (i := 100) (by decide +kernel), List.mem_of_getElem? (i := 267) (by decide +kernel), List.mem_of_getElem? (i := 268) (by decide +kernel)⟩
theorem lw_p2 : lw_okq (⟨"CopyInserts$Search", "lengthenCopies", "(I)I"⟩, 13) := ⟨⟨by decide +kernel, by decide +kernel⟩, List.mem_of_getElem? (i := 100) (by decide +kernel), List.mem_of_getElem? (i := 271) (by decide +kernel), List.mem_of_getElem? (i := 272) (by decide +kernel)⟩
theorem lw_p3 : lw_okq (⟨"CopyInserts$Search", "longestAgain", "(I)I"⟩, 13) := ⟨⟨by decide +kernel, by decide +kernel⟩, List.mem_of_getElem? (i := 100) (by decide +kernel), List.mem_of_getElem? (i := 287) (by decide +kernel), List.mem_of_getElem? (i := 288) (by decide +kernel)⟩
theorem lw_p4 : lw_okq (⟨"CopyInserts$Search", "leastBehindSelf", "(III)I"⟩, 13) := ⟨⟨by decide +kernel, by decide +kernel⟩, List.mem_of_getElem? (i := 100) (by decide +kernel), List.mem_of_getElem? (i := 296) (by decide +kernel), List.mem_of_getElem? (i := 297) (by decide +kernel)⟩
theorem lw_p5 : lw_okq (⟨"CopyInserts$Search", "choose", "(II)V"⟩, 13) := ⟨⟨by decide +kernel, by decide +kernel⟩, List.mem_of_getElem? (i := 100) (by decide +kernel), List.mem_of_getElem? (i := 304) (by decide +kernel), List.mem_of_getElem? (i := 305) (by decide +kernel)⟩
theorem lw_p6 : lw_okq (⟨"CopyInserts$Search", "chooseCopy", "(III)V"⟩, 13) := ⟨⟨by decide +kernel, by decide +kernel⟩, List.mem_of_getElem? (i := 100) (by decide +kernel), List.mem_of_getElem? (i := 308) (by decide +kernel), List.mem_of_getElem? (i := 309) (by decide +kernel)⟩
theorem lw_p7 : lw_okq (⟨"CopyInserts$Search", "keep", "(III)V"⟩, 13) := ⟨⟨by decide +kernel, by decide +kernel⟩, List.mem_of_getElem? (i := 100) (by decide +kernel), List.mem_of_getElem? (i := 316) (by decide +kernel), List.mem_of_getElem? (i := 317) (by decide +kernel)⟩
theorem lw_p8 : lw_okq (⟨"CopyInserts$Search", "chooseSelf", "(III)V"⟩, 13) := ⟨⟨by decide +kernel, by decide +kernel⟩, List.mem_of_getElem? (i := 100) (by decide +kernel), List.mem_of_getElem? (i := 320) (by decide +kernel), List.mem_of_getElem? (i := 321) (by decide +kernel)⟩
theorem lw_p9 : lw_okq (⟨"CopyInserts$Search", "chooseLay", "(III)V"⟩, 13) := ⟨⟨by decide +kernel, by decide +kernel⟩, List.mem_of_getElem? (i := 100) (by decide +kernel), List.mem_of_getElem? (i := 328) (by decide +kernel), List.mem_of_getElem? (i := 329) (by decide +kernel)⟩
theorem lw_p10 : lw_okq (⟨"CopyInserts", "takeFoundAct", "()V"⟩, 7) := ⟨⟨by decide +kernel, by decide +kernel⟩, List.mem_of_getElem? (i := 10) (by decide +kernel), List.mem_of_getElem? (i := 336) (by decide +kernel), List.mem_of_getElem? (i := 337) (by decide +kernel)⟩
theorem lw_p11 : lw_okq (⟨"CopyInserts", "costOf", "(I)I"⟩, 7) := ⟨⟨by decide +kernel, by decide +kernel⟩, List.mem_of_getElem? (i := 10) (by decide +kernel), List.mem_of_getElem? (i := 400) (by decide +kernel), List.mem_of_getElem? (i := 401) (by decide +kernel)⟩
theorem lw_p12 : lw_okq (⟨"CopyInserts", "fails", "(I)Z"⟩, 7) := ⟨⟨by decide +kernel, by decide +kernel⟩, List.mem_of_getElem? (i := 10) (by decide +kernel), List.mem_of_getElem? (i := 466) (by decide +kernel), List.mem_of_getElem? (i := 467) (by decide +kernel)⟩
theorem lw_p13 : lw_okq (⟨"CopyInserts", "perform", "(I)V"⟩, 7) := ⟨⟨by decide +kernel, by decide +kernel⟩, List.mem_of_getElem? (i := 10) (by decide +kernel), List.mem_of_getElem? (i := 470) (by decide +kernel), List.mem_of_getElem? (i := 471) (by decide +kernel)⟩
theorem lw_p14 : lw_okq (⟨"CopyInserts", "byteOf", "(II)I"⟩, 7) := ⟨⟨by decide +kernel, by decide +kernel⟩, List.mem_of_getElem? (i := 10) (by decide +kernel), List.mem_of_getElem? (i := 474) (by decide +kernel), List.mem_of_getElem? (i := 475) (by decide +kernel)⟩
theorem lw_p15 : lw_okq (⟨"CopyInserts", "writeAct", "(I)V"⟩, 7) := ⟨⟨by decide +kernel, by decide +kernel⟩, List.mem_of_getElem? (i := 10) (by decide +kernel), List.mem_of_getElem? (i := 495) (by decide +kernel), List.mem_of_getElem? (i := 496) (by decide +kernel)⟩
def lw_privs_1 : List (MethodName × Nat) := [(⟨"CopyInserts", "textOf", "(I)LCopyInserts$Row;"⟩, 7), (⟨"CopyInserts$Search", "workOutPlace", "(I)V"⟩, 13), (⟨"CopyInserts$Search", "lengthenCopies", "(I)I"⟩, 13), (⟨"CopyInserts$Search", "longestAgain", "(I)I"⟩, 13), (⟨"CopyInserts$Search", "leastBehindSelf", "(III)I"⟩, 13), (⟨"CopyInserts$Search", "choose", "(II)V"⟩, 13), (⟨"CopyInserts$Search", "chooseCopy", "(III)V"⟩, 13), (⟨"CopyInserts$Search", "keep", "(III)V"⟩, 13), (⟨"CopyInserts$Search", "chooseSelf", "(III)V"⟩, 13), (⟨"CopyInserts$Search", "chooseLay", "(III)V"⟩, 13), (⟨"CopyInserts", "takeFoundAct", "()V"⟩, 7), (⟨"CopyInserts", "costOf", "(I)I"⟩, 7), (⟨"CopyInserts", "fails", "(I)Z"⟩, 7), (⟨"CopyInserts", "perform", "(I)V"⟩, 7), (⟨"CopyInserts", "byteOf", "(II)I"⟩, 7), (⟨"CopyInserts", "writeAct", "(I)V"⟩, 7)]
theorem lw_r1 : ∀ q ∈ lw_privs_1, lw_okq q := List.forall_mem_cons.mpr ⟨lw_p0, List.forall_mem_cons.mpr ⟨lw_p1, List.forall_mem_cons.mpr ⟨lw_p2, List.forall_mem_cons.mpr ⟨lw_p3, List.forall_mem_cons.mpr ⟨lw_p4, List.forall_mem_cons.mpr ⟨lw_p5, List.forall_mem_cons.mpr ⟨lw_p6, List.forall_mem_cons.mpr ⟨lw_p7, List.forall_mem_cons.mpr ⟨lw_p8, List.forall_mem_cons.mpr ⟨lw_p9, List.forall_mem_cons.mpr ⟨lw_p10, List.forall_mem_cons.mpr ⟨lw_p11, List.forall_mem_cons.mpr ⟨lw_p12, List.forall_mem_cons.mpr ⟨lw_p13, List.forall_mem_cons.mpr ⟨lw_p14, List.forall_mem_cons.mpr ⟨lw_p15, fun _ h => absurd h List.not_mem_nil⟩⟩⟩⟩⟩⟩⟩⟩⟩⟩⟩⟩⟩⟩⟩⟩
theorem lw_p16 : lw_okq (⟨"CopyInserts", "findWrongByte", "()I"⟩, 7) := ⟨⟨by decide +kernel, by decide +kernel⟩, List.mem_of_getElem? (i := 10) (by decide +kernel), List.mem_of_getElem? (i := 519) (by decide +kernel), List.mem_of_getElem? (i := 520) (by decide +kernel)⟩
theorem lw_p17 : lw_okq (⟨"CopyInserts", "readAct", "(I)I"⟩, 7) := ⟨⟨by decide +kernel, by decide +kernel⟩, List.mem_of_getElem? (i := 10) (by decide +kernel), List.mem_of_getElem? (i := 523) (by decide +kernel), List.mem_of_getElem? (i := 524) (by decide +kernel)⟩
theorem lw_p18 : lw_okq (⟨"CopyInsertsModel", "begin", "()V"⟩, 22) := ⟨⟨by decide +kernel, by decide +kernel⟩, List.mem_of_getElem? (i := 550) (by decide +kernel), List.mem_of_getElem? (i := 556) (by decide +kernel), List.mem_of_getElem? (i := 557) (by decide +kernel)⟩
theorem lw_p19 : lw_okq (⟨"CopyInsertsModel", "learn", "()V"⟩, 22) := ⟨⟨by decide +kernel, by decide +kernel⟩, List.mem_of_getElem? (i := 550) (by decide +kernel), List.mem_of_getElem? (i := 654) (by decide +kernel), List.mem_of_getElem? (i := 655) (by decide +kernel)⟩
theorem lw_p20 : lw_okq (⟨"CopyInsertsModel", "like", "(III)I"⟩, 22) := ⟨⟨by decide +kernel, by decide +kernel⟩, List.mem_of_getElem? (i := 550) (by decide +kernel), List.mem_of_getElem? (i := 659) (by decide +kernel), List.mem_of_getElem? (i := 660) (by decide +kernel)⟩
theorem lw_p21 : lw_okq (⟨"CopyInsertsModel", "byteOf", "(II)I"⟩, 22) := ⟨⟨by decide +kernel, by decide +kernel⟩, List.mem_of_getElem? (i := 550) (by decide +kernel), List.mem_of_getElem? (i := 663) (by decide +kernel), List.mem_of_getElem? (i := 664) (by decide +kernel)⟩
theorem lw_p22 : lw_okq (⟨"CopyInsertsModel", "costOf", "(IIII)I"⟩, 22) := ⟨⟨by decide +kernel, by decide +kernel⟩, List.mem_of_getElem? (i := 550) (by decide +kernel), List.mem_of_getElem? (i := 667) (by decide +kernel), List.mem_of_getElem? (i := 668) (by decide +kernel)⟩
theorem lw_p23 : lw_okq (⟨"CopyInsertsModel", "better", "(III)V"⟩, 22) := ⟨⟨by decide +kernel, by decide +kernel⟩, List.mem_of_getElem? (i := 550) (by decide +kernel), List.mem_of_getElem? (i := 671) (by decide +kernel), List.mem_of_getElem? (i := 672) (by decide +kernel)⟩
theorem lw_p24 : lw_okq (⟨"CopyInsertsModel", "sumOf", "(I)I"⟩, 22) := ⟨⟨by decide +kernel, by decide +kernel⟩, List.mem_of_getElem? (i := 550) (by decide +kernel), List.mem_of_getElem? (i := 675) (by decide +kernel), List.mem_of_getElem? (i := 676) (by decide +kernel)⟩
theorem lw_p25 : lw_okq (⟨"CopyInsertsModel", "find", "(II)V"⟩, 22) := ⟨⟨by decide +kernel, by decide +kernel⟩, List.mem_of_getElem? (i := 550) (by decide +kernel), List.mem_of_getElem? (i := 680) (by decide +kernel), List.mem_of_getElem? (i := 681) (by decide +kernel)⟩
theorem lw_p26 : lw_okq (⟨"CopyInsertsModel", "costAt", "(I)I"⟩, 22) := ⟨⟨by decide +kernel, by decide +kernel⟩, List.mem_of_getElem? (i := 550) (by decide +kernel), List.mem_of_getElem? (i := 688) (by decide +kernel), List.mem_of_getElem? (i := 689) (by decide +kernel)⟩
theorem lw_p27 : lw_okq (⟨"CopyInsertsModel", "spotOf", "(I)I"⟩, 22) := ⟨⟨by decide +kernel, by decide +kernel⟩, List.mem_of_getElem? (i := 550) (by decide +kernel), List.mem_of_getElem? (i := 692) (by decide +kernel), List.mem_of_getElem? (i := 693) (by decide +kernel)⟩
theorem lw_p28 : lw_okq (⟨"CopyInsertsModel", "code1", "(I)V"⟩, 22) := ⟨⟨by decide +kernel, by decide +kernel⟩, List.mem_of_getElem? (i := 550) (by decide +kernel), List.mem_of_getElem? (i := 740) (by decide +kernel), List.mem_of_getElem? (i := 741) (by decide +kernel)⟩
theorem lw_p29 : lw_okq (⟨"CopyInsertsModel", "faultOf", "()I"⟩, 22) := ⟨⟨by decide +kernel, by decide +kernel⟩, List.mem_of_getElem? (i := 550) (by decide +kernel), List.mem_of_getElem? (i := 760) (by decide +kernel), List.mem_of_getElem? (i := 761) (by decide +kernel)⟩
def lw_privs_2 : List (MethodName × Nat) := [(⟨"CopyInserts", "findWrongByte", "()I"⟩, 7), (⟨"CopyInserts", "readAct", "(I)I"⟩, 7), (⟨"CopyInsertsModel", "begin", "()V"⟩, 22), (⟨"CopyInsertsModel", "learn", "()V"⟩, 22), (⟨"CopyInsertsModel", "like", "(III)I"⟩, 22), (⟨"CopyInsertsModel", "byteOf", "(II)I"⟩, 22), (⟨"CopyInsertsModel", "costOf", "(IIII)I"⟩, 22), (⟨"CopyInsertsModel", "better", "(III)V"⟩, 22), (⟨"CopyInsertsModel", "sumOf", "(I)I"⟩, 22), (⟨"CopyInsertsModel", "find", "(II)V"⟩, 22), (⟨"CopyInsertsModel", "costAt", "(I)I"⟩, 22), (⟨"CopyInsertsModel", "spotOf", "(I)I"⟩, 22), (⟨"CopyInsertsModel", "code1", "(I)V"⟩, 22), (⟨"CopyInsertsModel", "faultOf", "()I"⟩, 22)]
theorem lw_r2 : ∀ q ∈ lw_privs_2, lw_okq q := List.forall_mem_cons.mpr ⟨lw_p16, List.forall_mem_cons.mpr ⟨lw_p17, List.forall_mem_cons.mpr ⟨lw_p18, List.forall_mem_cons.mpr ⟨lw_p19, List.forall_mem_cons.mpr ⟨lw_p20, List.forall_mem_cons.mpr ⟨lw_p21, List.forall_mem_cons.mpr ⟨lw_p22, List.forall_mem_cons.mpr ⟨lw_p23, List.forall_mem_cons.mpr ⟨lw_p24, List.forall_mem_cons.mpr ⟨lw_p25, List.forall_mem_cons.mpr ⟨lw_p26, List.forall_mem_cons.mpr ⟨lw_p27, List.forall_mem_cons.mpr ⟨lw_p28, List.forall_mem_cons.mpr ⟨lw_p29, fun _ h => absurd h List.not_mem_nil⟩⟩⟩⟩⟩⟩⟩⟩⟩⟩⟩⟩⟩⟩
def lw_privs : List (MethodName × Nat) := lw_privs_1 ++ (lw_privs_2)
def lw_tbl : List Cond := k2_sels lw_privs ++ tables_1
theorem lw_privs_ok : ∀ q ∈ lw_privs, lw_okq q := by
  show ∀ q ∈ lw_privs_1 ++ (lw_privs_2), lw_okq q
  exact List.forall_mem_append.mpr ⟨lw_r1, lw_r2⟩
end
section
def zR0 : String := "CopyInserts$Acts"
def zT0 : u_T := fun k => match k with
  | 0 => ("CopyInserts$Acts", "kinds", "[I", true)
  | 1 => ("CopyInserts$Acts", "places", "[I", true)
  | 2 => ("CopyInserts$Acts", "counts", "[I", true)
  | 3 => ("CopyInserts$Acts", "laidFrom", "[I", true)
  | 4 => ("CopyInserts$Acts", "laidBytes", "LCopyInserts$Row;", true)
  | 5 => ("CopyInserts$Acts", "size", "I", false)
  | _ => ("CopyInserts$Acts", "sumOfOld", "I", false)
def zY0 : Nat → FieldType := fun k => match k with
  | 0 => .array .int
  | 1 => .array .int
  | 2 => .array .int
  | 3 => .array .int
  | 4 => .object "CopyInserts$Row"
  | 5 => .int
  | _ => .int
theorem zn0 : ∀ a, a < 7 → ∀ b, b < 7 → a ≠ b → (zT0 a).2.1 ≠ (zT0 b).2.1 := by decide +kernel
theorem zy0 : ∀ k, k < 7 → parseFieldDescriptor (zT0 k).2.2.1 = some (zY0 k) := by decide +kernel
def zR1 : String := "CopyInserts$Numbers"
def zT1 : u_T := fun k => match k with
  | 0 => ("CopyInserts$Numbers", "copying", "I", false)
  | 1 => ("CopyInserts$Numbers", "seeking", "I", false)
  | 2 => ("CopyInserts$Numbers", "again", "I", false)
  | 3 => ("CopyInserts$Numbers", "laying", "I", false)
  | _ => ("CopyInserts$Numbers", "bytewise", "I", false)
def zY1 : Nat → FieldType := fun k => match k with
  | 0 => .int
  | 1 => .int
  | 2 => .int
  | 3 => .int
  | _ => .int
theorem zn1 : ∀ a, a < 5 → ∀ b, b < 5 → a ≠ b → (zT1 a).2.1 ≠ (zT1 b).2.1 := by decide +kernel
theorem zy1 : ∀ k, k < 5 → parseFieldDescriptor (zT1 k).2.2.1 = some (zY1 k) := by decide +kernel
def zR2 : String := "CopyInserts$Row"
def zT2 : u_T := fun k => match k with
  | 0 => ("CopyInserts$Row", "values", "[I", false)
  | _ => ("CopyInserts$Row", "size", "I", false)
def zY2 : Nat → FieldType := fun k => match k with
  | 0 => .array .int
  | _ => .int
theorem zn2 : ∀ a, a < 2 → ∀ b, b < 2 → a ≠ b → (zT2 a).2.1 ≠ (zT2 b).2.1 := by decide +kernel
theorem zy2 : ∀ k, k < 2 → parseFieldDescriptor (zT2 k).2.2.1 = some (zY2 k) := by decide +kernel
def zR3 : String := "CopyInserts$Search"
def zT3 : u_T := fun k => match k with
  | 0 => ("CopyInserts$Search", "source", "LCopyInserts$Row;", true)
  | 1 => ("CopyInserts$Search", "target", "LCopyInserts$Row;", true)
  | 2 => ("CopyInserts$Search", "numbers", "LCopyInserts$Numbers;", true)
  | 3 => ("CopyInserts$Search", "least", "[I", true)
  | 4 => ("CopyInserts$Search", "behindCopy", "[I", true)
  | 5 => ("CopyInserts$Search", "behindLay", "[I", true)
  | 6 => ("CopyInserts$Search", "known", "Z", false)
  | 7 => ("CopyInserts$Search", "nextAt", "I", false)
  | 8 => ("CopyInserts$Search", "nextSpot", "I", false)
  | 9 => ("CopyInserts$Search", "kind", "I", false)
  | 10 => ("CopyInserts$Search", "place", "I", false)
  | 11 => ("CopyInserts$Search", "count", "I", false)
  | _ => ("CopyInserts$Search", "spotAhead", "I", false)
def zY3 : Nat → FieldType := fun k => match k with
  | 0 => .object "CopyInserts$Row"
  | 1 => .object "CopyInserts$Row"
  | 2 => .object "CopyInserts$Numbers"
  | 3 => .array .int
  | 4 => .array .int
  | 5 => .array .int
  | 6 => .boolean
  | 7 => .int
  | 8 => .int
  | 9 => .int
  | 10 => .int
  | 11 => .int
  | _ => .int
theorem zn3 : ∀ a, a < 13 → ∀ b, b < 13 → a ≠ b → (zT3 a).2.1 ≠ (zT3 b).2.1 := by decide +kernel
theorem zy3 : ∀ k, k < 13 → parseFieldDescriptor (zT3 k).2.2.1 = some (zY3 k) := by decide +kernel
def zR4 : String := "CopyInserts"
def zT4 : u_T := fun k => match k with
  | 0 => ("CopyInserts", "oldText", "LCopyInserts$Row;", true)
  | 1 => ("CopyInserts", "newText", "LCopyInserts$Row;", true)
  | 2 => ("CopyInserts", "product", "LCopyInserts$Row;", true)
  | 3 => ("CopyInserts", "coded", "LCopyInserts$Row;", true)
  | 4 => ("CopyInserts", "numbers", "LCopyInserts$Numbers;", true)
  | 5 => ("CopyInserts", "acts", "LCopyInserts$Acts;", true)
  | _ => ("CopyInserts", "search", "LCopyInserts$Search;", true)
def zY4 : Nat → FieldType := fun k => match k with
  | 0 => .object "CopyInserts$Row"
  | 1 => .object "CopyInserts$Row"
  | 2 => .object "CopyInserts$Row"
  | 3 => .object "CopyInserts$Row"
  | 4 => .object "CopyInserts$Numbers"
  | 5 => .object "CopyInserts$Acts"
  | _ => .object "CopyInserts$Search"
theorem zn4 : ∀ a, a < 7 → ∀ b, b < 7 → a ≠ b → (zT4 a).2.1 ≠ (zT4 b).2.1 := by decide +kernel
theorem zy4 : ∀ k, k < 7 → parseFieldDescriptor (zT4 k).2.2.1 = some (zY4 k) := by decide +kernel
def zR5 : String := "CopyInsertsModel"
def zT5 : u_T := fun k => match k with
  | 0 => ("CopyInsertsModel", "text", "[I", true)
  | 1 => ("CopyInsertsModel", "many", "[I", true)
  | 2 => ("CopyInsertsModel", "copying", "I", false)
  | 3 => ("CopyInsertsModel", "seeking", "I", false)
  | 4 => ("CopyInsertsModel", "again", "I", false)
  | 5 => ("CopyInsertsModel", "laying", "I", false)
  | 6 => ("CopyInsertsModel", "bytewise", "I", false)
  | 7 => ("CopyInsertsModel", "acts", "I", false)
  | 8 => ("CopyInsertsModel", "kind", "[I", true)
  | 9 => ("CopyInsertsModel", "place", "[I", true)
  | 10 => ("CopyInsertsModel", "size", "[I", true)
  | 11 => ("CopyInsertsModel", "lays", "[I", true)
  | 12 => ("CopyInsertsModel", "planSum", "I", false)
  | 13 => ("CopyInsertsModel", "codes", "I", false)
  | 14 => ("CopyInsertsModel", "codeRow", "[I", true)
  | 15 => ("CopyInsertsModel", "mades", "I", false)
  | 16 => ("CopyInsertsModel", "madeRow", "[I", true)
  | 17 => ("CopyInsertsModel", "isLaid", "Z", false)
  | 18 => ("CopyInsertsModel", "left", "[I", true)
  | 19 => ("CopyInsertsModel", "bestKind", "I", false)
  | 20 => ("CopyInsertsModel", "bestPlace", "I", false)
  | _ => ("CopyInsertsModel", "bestSize", "I", false)
def zY5 : Nat → FieldType := fun k => match k with
  | 0 => .array .int
  | 1 => .array .int
  | 2 => .int
  | 3 => .int
  | 4 => .int
  | 5 => .int
  | 6 => .int
  | 7 => .int
  | 8 => .array .int
  | 9 => .array .int
  | 10 => .array .int
  | 11 => .array .int
  | 12 => .int
  | 13 => .int
  | 14 => .array .int
  | 15 => .int
  | 16 => .array .int
  | 17 => .boolean
  | 18 => .array .int
  | 19 => .int
  | 20 => .int
  | _ => .int
theorem zn5 : ∀ a, a < 22 → ∀ b, b < 22 → a ≠ b → (zT5 a).2.1 ≠ (zT5 b).2.1 := by decide +kernel
theorem zy5 : ∀ k, k < 22 → parseFieldDescriptor (zT5 k).2.2.1 = some (zY5 k) := by decide +kernel
abbrev vwCl : List vw_C := [(zR0, zT0, 7), (zR1, zT1, 5), (zR2, zT2, 2), (zR3, zT3, 13), (zR4, zT4, 7), (zR5, zT5, 22)]
/-- the words that hold at every state of a run -/
def zk_T : List Cond := lw_tbl.filter goodWord
theorem zk_good : ∀ w ∈ zk_T, goodWord w = true := fun _ h => (List.mem_filter.mp h).2
theorem zk_mem {w : Cond} (i : Nat) (h : lw_tbl[i]? = some w) (g : goodWord w = true) : w ∈ zk_T := List.mem_filter.mpr ⟨List.mem_of_getElem? h, g⟩
def zk_NF : List (String × Nat × String × String × String × String) := [("CopyInserts$Search", 72, "CopyInserts$Numbers", "copying", "I", "CopyInserts"), ("CopyInserts$Search", 75, "CopyInserts$Numbers", "seeking", "I", "CopyInserts"), ("CopyInserts$Search", 78, "CopyInserts$Numbers", "again", "I", "CopyInserts"), ("CopyInserts$Search", 69, "CopyInserts$Numbers", "laying", "I", "CopyInserts"), ("CopyInserts$Search", 60, "CopyInserts$Numbers", "bytewise", "I", "CopyInserts")]
def zk_NM : List (String × Nat × MethodName × String) := [("CopyInserts", 36, ⟨"CopyInserts$Acts", "<init>", "()V"⟩, "CopyInserts")]
theorem zi0 : ∀ w ∈ u_ws zR0 zT0 7, w ∈ zk_T := by
  intro w hw
  obtain ⟨k, hk, rfl⟩ := List.mem_map.mp hw
  have hk := List.mem_range.mp hk
  match k, hk with
  | 0, _ => exact zk_mem 114 (by decide +kernel) rfl
  | 1, _ => exact zk_mem 116 (by decide +kernel) rfl
  | 2, _ => exact zk_mem 118 (by decide +kernel) rfl
  | 3, _ => exact zk_mem 120 (by decide +kernel) rfl
  | 4, _ => exact zk_mem 122 (by decide +kernel) rfl
  | 5, _ => exact zk_mem 124 (by decide +kernel) rfl
  | 6, _ => exact zk_mem 126 (by decide +kernel) rfl
  | k + 7, h => omega
theorem zi1 : ∀ w ∈ u_ws zR1 zT1 5, w ∈ zk_T := by
  intro w hw
  obtain ⟨k, hk, rfl⟩ := List.mem_map.mp hw
  have hk := List.mem_range.mp hk
  match k, hk with
  | 0, _ => exact zk_mem 88 (by decide +kernel) rfl
  | 1, _ => exact zk_mem 90 (by decide +kernel) rfl
  | 2, _ => exact zk_mem 92 (by decide +kernel) rfl
  | 3, _ => exact zk_mem 94 (by decide +kernel) rfl
  | 4, _ => exact zk_mem 96 (by decide +kernel) rfl
  | k + 5, h => omega
theorem zi2 : ∀ w ∈ u_ws zR2 zT2 2, w ∈ zk_T := by
  intro w hw
  obtain ⟨k, hk, rfl⟩ := List.mem_map.mp hw
  have hk := List.mem_range.mp hk
  match k, hk with
  | 0, _ => exact zk_mem 58 (by decide +kernel) rfl
  | 1, _ => exact zk_mem 60 (by decide +kernel) rfl
  | k + 2, h => omega
theorem zi3 : ∀ w ∈ u_ws zR3 zT3 13, w ∈ zk_T := by
  intro w hw
  obtain ⟨k, hk, rfl⟩ := List.mem_map.mp hw
  have hk := List.mem_range.mp hk
  match k, hk with
  | 0, _ => exact zk_mem 148 (by decide +kernel) rfl
  | 1, _ => exact zk_mem 150 (by decide +kernel) rfl
  | 2, _ => exact zk_mem 152 (by decide +kernel) rfl
  | 3, _ => exact zk_mem 154 (by decide +kernel) rfl
  | 4, _ => exact zk_mem 156 (by decide +kernel) rfl
  | 5, _ => exact zk_mem 158 (by decide +kernel) rfl
  | 6, _ => exact zk_mem 160 (by decide +kernel) rfl
  | 7, _ => exact zk_mem 162 (by decide +kernel) rfl
  | 8, _ => exact zk_mem 164 (by decide +kernel) rfl
  | 9, _ => exact zk_mem 166 (by decide +kernel) rfl
  | 10, _ => exact zk_mem 168 (by decide +kernel) rfl
  | 11, _ => exact zk_mem 170 (by decide +kernel) rfl
  | 12, _ => exact zk_mem 172 (by decide +kernel) rfl
  | k + 13, h => omega
theorem zi4 : ∀ w ∈ u_ws zR4 zT4 7, w ∈ zk_T := by
  intro w hw
  obtain ⟨k, hk, rfl⟩ := List.mem_map.mp hw
  have hk := List.mem_range.mp hk
  match k, hk with
  | 0, _ => exact zk_mem 182 (by decide +kernel) rfl
  | 1, _ => exact zk_mem 184 (by decide +kernel) rfl
  | 2, _ => exact zk_mem 186 (by decide +kernel) rfl
  | 3, _ => exact zk_mem 188 (by decide +kernel) rfl
  | 4, _ => exact zk_mem 190 (by decide +kernel) rfl
  | 5, _ => exact zk_mem 192 (by decide +kernel) rfl
  | 6, _ => exact zk_mem 194 (by decide +kernel) rfl
  | k + 7, h => omega
theorem zi5 : ∀ w ∈ u_ws zR5 zT5 22, w ∈ zk_T := by
  intro w hw
  obtain ⟨k, hk, rfl⟩ := List.mem_map.mp hw
  have hk := List.mem_range.mp hk
  match k, hk with
  | 0, _ => exact zk_mem 611 (by decide +kernel) rfl
  | 1, _ => exact zk_mem 613 (by decide +kernel) rfl
  | 2, _ => exact zk_mem 615 (by decide +kernel) rfl
  | 3, _ => exact zk_mem 617 (by decide +kernel) rfl
  | 4, _ => exact zk_mem 619 (by decide +kernel) rfl
  | 5, _ => exact zk_mem 621 (by decide +kernel) rfl
  | 6, _ => exact zk_mem 623 (by decide +kernel) rfl
  | 7, _ => exact zk_mem 625 (by decide +kernel) rfl
  | 8, _ => exact zk_mem 627 (by decide +kernel) rfl
  | 9, _ => exact zk_mem 629 (by decide +kernel) rfl
  | 10, _ => exact zk_mem 631 (by decide +kernel) rfl
  | 11, _ => exact zk_mem 633 (by decide +kernel) rfl
  | 12, _ => exact zk_mem 635 (by decide +kernel) rfl
  | 13, _ => exact zk_mem 637 (by decide +kernel) rfl
  | 14, _ => exact zk_mem 639 (by decide +kernel) rfl
  | 15, _ => exact zk_mem 641 (by decide +kernel) rfl
  | 16, _ => exact zk_mem 643 (by decide +kernel) rfl
  | 17, _ => exact zk_mem 645 (by decide +kernel) rfl
  | 18, _ => exact zk_mem 647 (by decide +kernel) rfl
  | 19, _ => exact zk_mem 649 (by decide +kernel) rfl
  | 20, _ => exact zk_mem 651 (by decide +kernel) rfl
  | 21, _ => exact zk_mem 653 (by decide +kernel) rfl
  | k + 22, h => omega
end
section
/-! THE LOGIC: a walk in pure words. Numbers are Int, references are places in a list of cells: place 0 is the script, place k + 1 lies at the address B + k. -/
abbrev zk_V : Type := Int ⊕ Option Nat
abbrev zk_C : Type := (Nat × (Nat → Int)) ⊕ (Nat × List zk_V)
abbrev zk_H : Type := List zk_C
/-- launch, tables of the classes, the class of int[], the script's address, the base, the script's length, the script -/
abbrev zk_G : Type := Launch × va_G × ClassId × Nat × Nat × Nat × (Nat → Int32)
/-- a method: name, bytes, locals, what it returns -/
abbrev zk_M : Type := MethodName × ByteArray × Nat × Option FieldType
abbrev zk_gl (G : zk_G) : Launch := G.1
abbrev zk_gD (G : zk_G) : va_G := G.2.1
abbrev zk_gI (G : zk_G) : ClassId := G.2.2.1
abbrev zk_gb (G : zk_G) : Nat := G.2.2.2.1
abbrev zk_gB (G : zk_G) : Nat := G.2.2.2.2.1
abbrev zk_gL (G : zk_G) : Nat := G.2.2.2.2.2.1
abbrev zk_gX (G : zk_G) : Nat → Int32 := G.2.2.2.2.2.2
def zk_ad (G : zk_G) (k : Nat) : Nat := match k with
  | 0 => zk_gb G
  | k + 1 => zk_gB G + k
def zk_rv (G : zk_G) (v : zk_V) : Value := match v with
  | .inl z => .int (Int32.ofInt z)
  | .inr none => .null
  | .inr (some k) => .ref (zk_ad G k)
def zk_ce (G : zk_G) (c : zk_C) : va_E := match c with
  | .inl a => .inl (zk_gI G, a.1, .inl (fun j => Int32.ofInt (a.2 j)))
  | .inr o => .inr (o.1, o.2.map (zk_rv G))
def zk_scr (G : zk_G) : zk_C := .inl (zk_gL G, fun j => (zk_gX G j).toInt)
/-- the heap H is the cells h -/
def zk_P (G : zk_G) (h : zk_H) (H : Heap) : Prop := H.size + 1 = zk_gB G + h.length ∧ h[0]? = some (zk_scr G) ∧ ∀ (k : Nat) (c : zk_C), h[k + 1]? = some c → va_at (zk_gD G) vwCl (zk_gB G + k, zk_ce G c) H
/-- the links between nest mates -/
def zk_NW (U : State) : Prop := (∀ q ∈ zk_NF, va_Nw (.fieldLinkNest q.1 q.2.1 q.2.2.1 q.2.2.2.1 q.2.2.2.2.1 q.2.2.2.2.2) U) ∧ ∀ q ∈ zk_NM, va_Nw (.methodLinkNest q.1 q.2.1 q.2.2.1 q.2.2.2) U
theorem zk_NW.warm {s U : State} (hW : s.WarmedH U.vm) (h : zk_NW s) : zk_NW U := ⟨fun q hq => (h.1 q hq).warmF hW, fun q hq => (h.2 q hq).warmM hW⟩
theorem zk_NW.same {s U : State} (hW : s.vm = U.vm) (h : zk_NW s) : zk_NW U := ⟨fun q hq => (h.1 q hq).same rfl hW, fun q hq => (h.2 q hq).same rfl hW⟩
/-- a state: the cells, the classes, the script -/
def zk_S (G : zk_G) (h : zk_H) (U : State) : Prop := zk_P G h U.heap ∧ va_K (zk_gD G) vwCl [(zk_gI G, .int)] U ∧ va_X (zk_gb G) (zk_gL G) (zk_gX G) U U.heap ∧ zk_gb G < zk_gB G ∧ zk_gL G < 2 ^ 31 ∧ zk_NW U
/-- what holds all through a body -/
def zk_X (G : zk_G) (M : zk_M) (d : Nat × Nat) (p : Program) (R : Room) (s : State) (m : MethodId) (args : Array Value) (meth : Method) (c : Code) : Prop :=
  p.tables.exec = Jvm.exec ∧ c.code = M.2.1 ∧ meth.sig.returnType = M.2.2.2 ∧ meth.locks = false ∧ c.maxLocals = M.2.2.1 ∧ s.vm.findClass M.1.cls = some m.cls ∧ meth.name = M.1.name ∧ (∀ w ∈ zk_T, w.before args s = true) ∧ va_K (zk_gD G) vwCl [(zk_gI G, .int)] s ∧ va_X (zk_gb G) (zk_gL G) (zk_gX G) s s.heap ∧ zk_gb G < zk_gB G ∧ zk_gB G ≤ s.heap.size ∧ d.1 ≤ R.frames ∧ d.2 ≤ R.locals ∧ zk_gL G < 2 ^ 31 ∧ zk_NW s
/-- locals -/
def zk_L (G : zk_G) (lsr : Array Slot) (nL : Nat) (ls : List (Option zk_V)) : Prop := lsr.size = nL ∧ lv_wf lsr ∧ ∀ (k : Nat) (v : zk_V), ls[k]? = some (some v) → lsr[k]? = some (.val (zk_rv G v))
/-- a return -/
def zk_R (M : zk_M) (pc : Nat) (v : Option zk_V) : Prop := match v with
  | none => M.2.2.2 = none ∧ decode M.2.1 pc = .ok (.return_, 1)
  | some (.inl z) => decode M.2.1 pc = .ok (.ireturn, 1) ∧ ∃ ty, M.2.2.2 = some ty ∧ narrow ty (.int (Int32.ofInt z)) = .int (Int32.ofInt z)
  | some (.inr _) => decode M.2.1 pc = .ok (.areturn, 1) ∧ ∃ rt, M.2.2.2 = some rt ∧ ((∃ n, rt = .object n) ∨ ∃ t, rt = .array t)
abbrev zk_A (G : zk_G) : Nat → Prop := fun q => zk_gB G ≤ q
/-- the end of a body -/
def zk_E (G : zk_G) (M : zk_M) (p : Program) (e : Env) (R : Room) (s : State) (m : MethodId) (args : Array Value) (below : List Frame) (meth : Method) (c : Code) (mc ms : Nat) (Qs : State → Prop) (Q : Option zk_V → zk_H → Prop) : Prop :=
  ∀ (v : Option zk_V) (h' : zk_H) (H' : Heap) (locs' : List Loc) (pc' : Nat) (ls' : Array Slot), Q v h' → zk_P G h' H' → va_S (zk_A G) s.heap H' locs' → zk_R M pc' v →
    W p (zk_gl G) e R s m args below meth c H' locs' mc ms Qs (F0 m pc' ls' (v.map (zk_rv G)).toList)
/-- THE JUDGEMENT: from place pc of method M, with locals ls, stack st and cells h, with room for d.1 frames and d.2 words of locals, and for kc cells of ks slots: M returns, and Q holds of its answer and the cells -/
def zk_W (G : zk_G) (M : zk_M) (d : Nat × Nat) (kc ks pc : Nat) (ls : List (Option zk_V)) (st : List zk_V) (h : zk_H) (Q : Option zk_V → zk_H → Prop) : Prop :=
  ∀ (p : Program) (e : Env) (R : Room) (s : State) (m : MethodId) (args : Array Value) (below : List Frame) (meth : Method) (c : Code), zk_X G M d p R s m args meth c →
  ∀ (H : Heap) (locs : List Loc) (cells slots mc ms : Nat) (lsr : Array Slot) (Qs : State → Prop), zk_P G h H → va_S (zk_A G) s.heap H locs → cells + kc ≤ mc → slots + ks ≤ ms → mc ≤ R.cells → ms ≤ R.slots → zk_L G lsr M.2.2.1 ls → zk_E G M p e R s m args below meth c mc ms Qs Q →
    W p (zk_gl G) e R s m args below meth c H locs cells slots Qs (F0 m pc lsr (st.map (zk_rv G)))
/-- A CONTRACT: called with av over the cells h, M returns, and Q holds -/
def zk_K (G : zk_G) (M : zk_M) (d : Nat × Nat) (mc ms : Nat) (av : List zk_V) (h : zk_H) (Q : Option zk_V → zk_H → Prop) : Prop :=
  Met (zk_gl G) M.1 (.code M.1 M.2.1 M.2.2.1 M.2.2.2 :: zk_T) ({ frames := d.1, cells := mc, slots := ms, locals := d.2 } : Room) (va_Pc (av.map (zk_rv G)) (zk_S G h))
    (fun _ st oc t => (∃ (v : Option zk_V) (h' : zk_H), oc = .returned (v.map (zk_rv G)) ∧ Q v h' ∧ zk_S G h' t) ∧ va_F (zk_A G) st t) mc ms (zk_A G)
/-! numbers -/
def zk_rg (z : Int) : Prop := -2147483648 ≤ z ∧ z < 2147483648
theorem zk_ti {z : Int} (h : zk_rg z) : (Int32.ofInt z).toInt = z := Int32.toInt_ofInt_of_le (by have := h.1; omega) (by have := h.2; omega)
theorem zk_lt {x y : Int} (hx : zk_rg x) (hy : zk_rg y) : Int32.ofInt x < Int32.ofInt y ↔ x < y := by rw [Int32.lt_iff_toInt_lt, zk_ti hx, zk_ti hy]
theorem zk_le {x y : Int} (hx : zk_rg x) (hy : zk_rg y) : Int32.ofInt x ≤ Int32.ofInt y ↔ x ≤ y := by rw [Int32.le_iff_toInt_le, zk_ti hx, zk_ti hy]
theorem zk_eq {x y : Int} (hx : zk_rg x) (hy : zk_rg y) : Int32.ofInt x = Int32.ofInt y ↔ x = y := by rw [← Int32.toInt_inj, zk_ti hx, zk_ti hy]
theorem zk_0 : (0 : Int32) = Int32.ofInt 0 := rfl
theorem zk_rg0 : zk_rg 0 := ⟨by omega, by omega⟩
theorem zk_cl {z : Int} (h0 : 0 ≤ z) (h : z < 2147483648) : (Int32.ofInt z).toNatClampNeg = z.toNat := by rw [Int32.toNatClampNeg, zk_ti ⟨by omega, h⟩]
theorem zk_vin {z : Int} {n : Nat} (h0 : 0 ≤ z) (hn : z < n) (h : z < 2147483648) : vp_in (Int32.ofInt z) n := by
  rw [vp_in_iff, zk_ti ⟨by omega, h⟩]
  exact ⟨h0, hn⟩
/-! cells -/
theorem zk_rv_cat (G : zk_G) (v : zk_V) : (zk_rv G v).category = 1 := by
  rcases v with z | _ | k <;> rfl
theorem zk_cat_sum (G : zk_G) (st : List zk_V) : ((st.map (zk_rv G)).map fun v => v.category).sum = st.length := by
  induction st with
  | nil => rfl
  | cons a l ih =>
    simp only [List.map_cons, List.sum_cons, List.length_cons, zk_rv_cat]
    rw [ih]
    omega
theorem zk_P.lt {G : zk_G} {h : zk_H} {H : Heap} (hP : zk_P G h H) : zk_gB G ≤ H.size := by
  obtain ⟨h1, h2, -⟩ := hP
  have := (List.getElem?_eq_some_iff.mp h2).1
  omega
theorem zk_P.at {G : zk_G} {h : zk_H} {H : Heap} (hP : zk_P G h H) {k : Nat} {c : zk_C} (hk : h[k]? = some c) (h0 : k ≠ 0) : va_at (zk_gD G) vwCl (zk_ad G k, zk_ce G c) H := by
  match k, h0, hk with
  | k + 1, _, hk => exact hP.2.2 k c hk
theorem zk_ad_ge {G : zk_G} {k : Nat} (h0 : k ≠ 0) : zk_gB G ≤ zk_ad G k := by
  match k, h0 with
  | k + 1, _ => exact Nat.le_add_right _ _
/-- a cell is written -/
theorem zk_P.put {G : zk_G} {h : zk_H} {H H1 : Heap} (hP : zk_P G h H) {k : Nat} {c0 c : zk_C} (hk : h[k]? = some c0) (h0 : k ≠ 0) (hc : va_at (zk_gD G) vwCl (zk_ad G k, zk_ce G c) H1) (hz : H1.size = H.size) (ho : ∀ q : Nat, q ≠ zk_ad G k → H1[q]? = H[q]?) : zk_P G (h.set k c) H1 := by
  match k, h0, hk, hc, ho with
  | k + 1, _, hk, hc, ho =>
    have hl := (List.getElem?_eq_some_iff.mp hk).1
    refine ⟨by rw [hz, List.length_set]; exact hP.1, by rw [List.getElem?_set_ne (by omega)]; exact hP.2.1, fun j c1 hj => ?_⟩
    by_cases hjk : j = k
    · subst hjk
      rw [List.getElem?_set_self hl] at hj
      cases hj
      exact hc
    · rw [List.getElem?_set_ne (by omega)] at hj
      exact (hP.2.2 j c1 hj).kept (ho _ (by show zk_gB G + j ≠ zk_gB G + k; omega))
/-- a cell is made -/
theorem zk_P.push {G : zk_G} {h : zk_H} {H H1 : Heap} (hP : zk_P G h H) {c : zk_C} (hc : va_at (zk_gD G) vwCl (H.size, zk_ce G c) H1) (hz : H1.size = H.size + 1) (ho : ∀ q : Nat, q < H.size → H1[q]? = H[q]?) : zk_P G (h ++ [c]) H1 ∧ H.size = zk_ad G h.length := by
  have hl := (List.getElem?_eq_some_iff.mp hP.2.1).1
  have hs := hP.1
  have he : H.size = zk_ad G h.length := by
    obtain ⟨n, hn⟩ : ∃ n, h.length = n + 1 := ⟨h.length - 1, by omega⟩
    rw [hn]
    show H.size = zk_gB G + n
    omega
  refine ⟨⟨by rw [hz, List.length_append]; show _ = _ + (_ + 1); omega, by rw [List.getElem?_append_left hl]; exact hP.2.1, fun j c1 hj => ?_⟩, he⟩
  by_cases hjl : j + 1 < h.length
  · rw [List.getElem?_append_left hjl] at hj
    have h1 := hP.2.2 j c1 hj
    exact h1.kept (ho _ h1.lt)
  · rw [List.getElem?_append_right (by omega)] at hj
    have h2 : j + 1 - h.length < 1 := (List.getElem?_eq_some_iff.mp hj).1
    rw [show j + 1 - h.length = 0 by omega] at hj
    cases hj
    rw [show zk_gB G + j = H.size by omega]
    exact hc
theorem zk_Spush {A : Nat → Prop} {H0 H H1 : Heap} {locs : List Loc} (h : va_S A H0 H locs) (z : H1.size = H.size + 1) (oq : ∀ q : Nat, q < H.size → H1[q]? = H[q]?) : va_S A H0 H1 locs :=
  ⟨Nat.le_trans h.1 (by omega), fun q h1 h2 => (oq q (Nat.lt_of_lt_of_le h1 h.1)).trans (h.2.1 q h1 h2), h.2.2⟩
/-! locals -/
def zk_sv (k : Nat) (x : Option Slot) : Option (Nat × Value) := match x with
  | some (.val w) => some (k, w)
  | _ => none
def zk_all (ls : Array Slot) : List (Nat × Value) := (List.range ls.size).filterMap fun k => zk_sv k ls[k]?
theorem zk_all_has {ls : Array Slot} {nL : Nat} (h1 : ls.size = nL) (h2 : lv_wf ls) : lv_has ls nL (zk_all ls) := by
  refine ⟨h1, h2, fun q hq => ?_⟩
  obtain ⟨k, -, hk⟩ := List.mem_filterMap.mp hq
  cases hx : ls[k]? with
  | none => rw [hx] at hk; cases hk
  | some x =>
    rw [hx] at hk
    cases x with
    | val w => cases hk; exact hx
    | unset => cases hk
    | second => cases hk
theorem zk_all_in {ls : Array Slot} {k : Nat} {w : Value} (h : ls[k]? = some (.val w)) : (k, w) ∈ zk_all ls :=
  List.mem_filterMap.mpr ⟨k, List.mem_range.mpr (Array.getElem?_eq_some_iff.mp h).1, by rw [h]; rfl⟩
/-- behind a store -/
theorem zk_L.set {G : zk_G} {lsr ls' : Array Slot} {nL i : Nat} {ls : List (Option zk_V)} {v : zk_V} (h : zk_L G lsr nL ls) (h' : lv_has ls' nL ((i, zk_rv G v) :: (zk_all lsr).filter (fun q => !(q.1 == i) && !(q.1 + 1 == i && q.2.category == 2)))) : zk_L G ls' nL (ls.set i (some v)) := by
  refine ⟨h'.1, h'.2.1, fun k w hk => ?_⟩
  by_cases hki : k = i
  · subst hki
    have hl : k < ls.length := by
      have := (List.getElem?_eq_some_iff.mp hk).1
      simpa using this
    rw [List.getElem?_set_self hl] at hk
    cases hk
    exact h'.2.2 (k, zk_rv G v) List.mem_cons_self
  · rw [List.getElem?_set_ne (fun e => hki e.symm)] at hk
    have h1 := h.2.2 k w hk
    refine h'.2.2 (k, zk_rv G w) (List.mem_cons_of_mem _ (List.mem_filter.mpr ⟨zk_all_in h1, ?_⟩))
    simp [hki, zk_rv_cat]
end
section
section ZkRows
variable {G : zk_G} {M : zk_M} {d : Nat × Nat} {kc ks pc : Nat} {ls : List (Option zk_V)} {st : List zk_V} {h : zk_H} {Q : Option zk_V → zk_H → Prop}
theorem zk_iconst {z : Int} (hd : decode M.2.1 pc = .ok (.iconst z, 1)) (kk : zk_W G M d kc ks (pc + 1) ls (.inl z :: st) h Q) : zk_W G M d kc ks pc ls st h Q := by
  intro p e R s m args below meth c X H locs cells slots mc ms lsr Qs hP hS h1 h2 h3 h4 hL hE
  exact lv_iconst X.1 X.2.1 hd rfl (kk p e R s m args below meth c X H locs cells slots mc ms lsr Qs hP hS h1 h2 h3 h4 hL hE)
theorem zk_bipush {z : Int} (hd : decode M.2.1 pc = .ok (.bipush z, 2)) (hv : (Int8.ofInt z).toInt32 = Int32.ofInt z) (kk : zk_W G M d kc ks (pc + 2) ls (.inl z :: st) h Q) : zk_W G M d kc ks pc ls st h Q := by
  intro p e R s m args below meth c X H locs cells slots mc ms lsr Qs hP hS h1 h2 h3 h4 hL hE
  exact lv_bipush X.1 X.2.1 hd hv (kk p e R s m args below meth c X H locs cells slots mc ms lsr Qs hP hS h1 h2 h3 h4 hL hE)
theorem zk_sipush {z : Int} (hd : decode M.2.1 pc = .ok (.sipush z, 3)) (hv : (Int16.ofInt z).toInt32 = Int32.ofInt z) (kk : zk_W G M d kc ks (pc + 3) ls (.inl z :: st) h Q) : zk_W G M d kc ks pc ls st h Q := by
  intro p e R s m args below meth c X H locs cells slots mc ms lsr Qs hP hS h1 h2 h3 h4 hL hE
  exact lv_sipush X.1 X.2.1 hd hv (kk p e R s m args below meth c X H locs cells slots mc ms lsr Qs hP hS h1 h2 h3 h4 hL hE)
theorem zk_ldc {z : Int} {index : Nat} (hd : decode M.2.1 pc = .ok (.ldc index, 2)) (hw : Cond.constant M.1.cls index (Int32.ofInt z) ∈ zk_T) (kk : zk_W G M d kc ks (pc + 2) ls (.inl z :: st) h Q) : zk_W G M d kc ks pc ls st h Q := by
  intro p e R s m args below meth c X H locs cells slots mc ms lsr Qs hP hS h1 h2 h3 h4 hL hE
  exact lv_ldc X.1 X.2.1 X.2.2.2.2.2.1 (X.2.2.2.2.2.2.2.1 _ hw) hd (kk p e R s m args below meth c X H locs cells slots mc ms lsr Qs hP hS h1 h2 h3 h4 hL hE)
theorem zk_iload_n {z : Int} {k : Fin 4} (hd : decode M.2.1 pc = .ok (.iload_n k, 1)) (hl : ls[k.val]? = some (some (.inl z))) (kk : zk_W G M d kc ks (pc + 1) ls (.inl z :: st) h Q) : zk_W G M d kc ks pc ls st h Q := by
  intro p e R s m args below meth c X H locs cells slots mc ms lsr Qs hP hS h1 h2 h3 h4 hL hE
  exact lv_iload_n X.1 X.2.1 hd rfl (hL.2.2 _ _ hl) (kk p e R s m args below meth c X H locs cells slots mc ms lsr Qs hP hS h1 h2 h3 h4 hL hE)
theorem zk_iload {z : Int} {k : Nat} (hd : decode M.2.1 pc = .ok (.iload k, 2)) (hl : ls[k]? = some (some (.inl z))) (kk : zk_W G M d kc ks (pc + 2) ls (.inl z :: st) h Q) : zk_W G M d kc ks pc ls st h Q := by
  intro p e R s m args below meth c X H locs cells slots mc ms lsr Qs hP hS h1 h2 h3 h4 hL hE
  exact lv_iload X.1 X.2.1 hd (hL.2.2 _ _ hl) (kk p e R s m args below meth c X H locs cells slots mc ms lsr Qs hP hS h1 h2 h3 h4 hL hE)
theorem zk_aload_n {z : Nat} {k : Fin 4} (hd : decode M.2.1 pc = .ok (.aload_n k, 1)) (hl : ls[k.val]? = some (some (.inr (some z)))) (kk : zk_W G M d kc ks (pc + 1) ls (.inr (some z) :: st) h Q) : zk_W G M d kc ks pc ls st h Q := by
  intro p e R s m args below meth c X H locs cells slots mc ms lsr Qs hP hS h1 h2 h3 h4 hL hE
  exact lv_aload_n X.1 X.2.1 hd rfl (hL.2.2 _ _ hl) (kk p e R s m args below meth c X H locs cells slots mc ms lsr Qs hP hS h1 h2 h3 h4 hL hE)
theorem zk_aload {z : Nat} {k : Nat} (hd : decode M.2.1 pc = .ok (.aload k, 2)) (hl : ls[k]? = some (some (.inr (some z)))) (kk : zk_W G M d kc ks (pc + 2) ls (.inr (some z) :: st) h Q) : zk_W G M d kc ks pc ls st h Q := by
  intro p e R s m args below meth c X H locs cells slots mc ms lsr Qs hP hS h1 h2 h3 h4 hL hE
  exact lv_aload X.1 X.2.1 hd (hL.2.2 _ _ hl) (kk p e R s m args below meth c X H locs cells slots mc ms lsr Qs hP hS h1 h2 h3 h4 hL hE)
theorem zk_istore_n {z : Int} {k : Fin 4} {ls' : List (Option zk_V)} (hd : decode M.2.1 pc = .ok (.istore_n k, 1)) (hi : k.val < M.2.2.1) (hl : ls.set k.val (some (.inl z)) = ls') (kk : zk_W G M d kc ks (pc + 1) ls' st h Q) : zk_W G M d kc ks pc ls (.inl z :: st) h Q := by
  intro p e R s m args below meth c X H locs cells slots mc ms lsr Qs hP hS h1 h2 h3 h4 hL hE
  subst hl
  exact lv_istore_n X.1 X.2.1 hd rfl (zk_all_has hL.1 hL.2.1) hi rfl (fun lsr2 hl2 => (kk p e R s m args below meth c X H locs cells slots mc ms lsr2 Qs hP hS h1 h2 h3 h4 (hL.set (v := .inl z) hl2) hE))
theorem zk_istore {z : Int} {k : Nat} {ls' : List (Option zk_V)} (hd : decode M.2.1 pc = .ok (.istore k, 2)) (hi : k < M.2.2.1) (hl : ls.set k (some (.inl z)) = ls') (kk : zk_W G M d kc ks (pc + 2) ls' st h Q) : zk_W G M d kc ks pc ls (.inl z :: st) h Q := by
  intro p e R s m args below meth c X H locs cells slots mc ms lsr Qs hP hS h1 h2 h3 h4 hL hE
  subst hl
  exact lv_istore X.1 X.2.1 hd (zk_all_has hL.1 hL.2.1) hi rfl (fun lsr2 hl2 => (kk p e R s m args below meth c X H locs cells slots mc ms lsr2 Qs hP hS h1 h2 h3 h4 (hL.set (v := .inl z) hl2) hE))
theorem zk_astore_n {z : Nat} {k : Fin 4} {ls' : List (Option zk_V)} (hd : decode M.2.1 pc = .ok (.astore_n k, 1)) (hi : k.val < M.2.2.1) (hl : ls.set k.val (some (.inr (some z))) = ls') (kk : zk_W G M d kc ks (pc + 1) ls' st h Q) : zk_W G M d kc ks pc ls (.inr (some z) :: st) h Q := by
  intro p e R s m args below meth c X H locs cells slots mc ms lsr Qs hP hS h1 h2 h3 h4 hL hE
  subst hl
  exact lv_astore_n X.1 X.2.1 hd rfl (zk_all_has hL.1 hL.2.1) hi rfl (fun lsr2 hl2 => (kk p e R s m args below meth c X H locs cells slots mc ms lsr2 Qs hP hS h1 h2 h3 h4 (hL.set (v := .inr (some z)) hl2) hE))
theorem zk_astore {z : Nat} {k : Nat} {ls' : List (Option zk_V)} (hd : decode M.2.1 pc = .ok (.astore k, 2)) (hi : k < M.2.2.1) (hl : ls.set k (some (.inr (some z))) = ls') (kk : zk_W G M d kc ks (pc + 2) ls' st h Q) : zk_W G M d kc ks pc ls (.inr (some z) :: st) h Q := by
  intro p e R s m args below meth c X H locs cells slots mc ms lsr Qs hP hS h1 h2 h3 h4 hL hE
  subst hl
  exact lv_astore X.1 X.2.1 hd (zk_all_has hL.1 hL.2.1) hi rfl (fun lsr2 hl2 => (kk p e R s m args below meth c X H locs cells slots mc ms lsr2 Qs hP hS h1 h2 h3 h4 (hL.set (v := .inr (some z)) hl2) hE))
theorem zk_iinc {z n : Int} {k : Nat} {ls' : List (Option zk_V)} (hd : decode M.2.1 pc = .ok (.iinc k n, 3)) (hg : ls[k]? = some (some (.inl z))) (hi : k < M.2.2.1) (hl : ls.set k (some (.inl (z + n))) = ls') (kk : zk_W G M d kc ks (pc + 3) ls' st h Q) : zk_W G M d kc ks pc ls st h Q := by
  intro p e R s m args below meth c X H locs cells slots mc ms lsr Qs hP hS h1 h2 h3 h4 hL hE
  subst hl
  obtain ⟨k0, hk0⟩ := List.getElem?_of_mem (zk_all_in (hL.2.2 _ _ hg))
  exact lv_iinc X.1 X.2.1 hd (zk_all_has hL.1 hL.2.1) hk0 (Int32.ofInt_add z n).symm hi rfl (fun lsr2 hl2 => (kk p e R s m args below meth c X H locs cells slots mc ms lsr2 Qs hP hS h1 h2 h3 h4 (hL.set (v := .inl (z + n)) hl2) hE))
theorem zk_iadd {x y : Int} (hd : decode M.2.1 pc = .ok (.iadd, 1)) (kk : zk_W G M d kc ks (pc + 1) ls (.inl (x + y) :: st) h Q) : zk_W G M d kc ks pc ls (.inl y :: .inl x :: st) h Q := by
  intro p e R s m args below meth c X H locs cells slots mc ms lsr Qs hP hS h1 h2 h3 h4 hL hE
  refine lv_iadd (x := Int32.ofInt x) (y := Int32.ofInt y) (rest := st.map (zk_rv G)) X.1 X.2.1 hd ?_
  rw [← Int32.ofInt_add x y]
  exact (kk p e R s m args below meth c X H locs cells slots mc ms lsr Qs hP hS h1 h2 h3 h4 hL hE)
theorem zk_isub {x y : Int} (hd : decode M.2.1 pc = .ok (.isub, 1)) (kk : zk_W G M d kc ks (pc + 1) ls (.inl (x - y) :: st) h Q) : zk_W G M d kc ks pc ls (.inl y :: .inl x :: st) h Q := by
  intro p e R s m args below meth c X H locs cells slots mc ms lsr Qs hP hS h1 h2 h3 h4 hL hE
  refine lv_isub (x := Int32.ofInt x) (y := Int32.ofInt y) (rest := st.map (zk_rv G)) X.1 X.2.1 hd ?_
  rw [← Int32.ofInt_sub x y]
  exact (kk p e R s m args below meth c X H locs cells slots mc ms lsr Qs hP hS h1 h2 h3 h4 hL hE)
theorem zk_imul {x y : Int} (hd : decode M.2.1 pc = .ok (.imul, 1)) (kk : zk_W G M d kc ks (pc + 1) ls (.inl (x * y) :: st) h Q) : zk_W G M d kc ks pc ls (.inl y :: .inl x :: st) h Q := by
  intro p e R s m args below meth c X H locs cells slots mc ms lsr Qs hP hS h1 h2 h3 h4 hL hE
  refine lv_imul (x := Int32.ofInt x) (y := Int32.ofInt y) (rest := st.map (zk_rv G)) X.1 X.2.1 hd ?_
  rw [← Int32.ofInt_mul x y]
  exact (kk p e R s m args below meth c X H locs cells slots mc ms lsr Qs hP hS h1 h2 h3 h4 hL hE)
theorem zk_ineg {x : Int} (hd : decode M.2.1 pc = .ok (.ineg, 1)) (kk : zk_W G M d kc ks (pc + 1) ls (.inl (-x) :: st) h Q) : zk_W G M d kc ks pc ls (.inl x :: st) h Q := by
  intro p e R s m args below meth c X H locs cells slots mc ms lsr Qs hP hS h1 h2 h3 h4 hL hE
  refine lv_ineg (x := Int32.ofInt x) (rest := st.map (zk_rv G)) X.1 X.2.1 hd ?_
  rw [← Int32.ofInt_neg x]
  exact (kk p e R s m args below meth c X H locs cells slots mc ms lsr Qs hP hS h1 h2 h3 h4 hL hE)
theorem zk_dv {x y : Int} (hx : 0 ≤ x) (hx2 : zk_rg x) (hy : 0 < y) (hy2 : zk_rg y) : Int32.ofInt x / Int32.ofInt y = Int32.ofInt (x / y) := by
  rw [← Int.tdiv_eq_ediv_of_nonneg hx]
  exact (Int32.ofInt_tdiv (by show (-2147483648 : Int) ≤ x; omega) (by have := hx2.2; show x ≤ (2147483647 : Int); omega) (by show (-2147483648 : Int) ≤ y; omega) (by have := hy2.2; show y ≤ (2147483647 : Int); omega)).symm
theorem zk_ne0 {y : Int} (hy : 0 < y) (hy2 : zk_rg y) : ¬ Int32.ofInt y = 0 := by
  rw [zk_0, zk_eq hy2 zk_rg0]
  omega
theorem zk_idiv {x y : Int} (hd : decode M.2.1 pc = .ok (.idiv, 1)) (hx : 0 ≤ x) (hx2 : zk_rg x) (hy : 0 < y) (hy2 : zk_rg y) (kk : zk_W G M d kc ks (pc + 1) ls (.inl (x / y) :: st) h Q) : zk_W G M d kc ks pc ls (.inl y :: .inl x :: st) h Q := by
  intro p e R s m args below meth c X H locs cells slots mc ms lsr Qs hP hS h1 h2 h3 h4 hL hE
  refine lv_idiv (x := Int32.ofInt x) (y := Int32.ofInt y) (rest := st.map (zk_rv G)) X.1 X.2.1 hd (zk_ne0 hy hy2) ?_
  rw [zk_dv hx hx2 hy hy2]
  exact (kk p e R s m args below meth c X H locs cells slots mc ms lsr Qs hP hS h1 h2 h3 h4 hL hE)
theorem zk_irem {x y : Int} (hd : decode M.2.1 pc = .ok (.irem, 1)) (hx : 0 ≤ x) (hx2 : zk_rg x) (hy : 0 < y) (hy2 : zk_rg y) (kk : zk_W G M d kc ks (pc + 1) ls (.inl (x % y) :: st) h Q) : zk_W G M d kc ks pc ls (.inl y :: .inl x :: st) h Q := by
  intro p e R s m args below meth c X H locs cells slots mc ms lsr Qs hP hS h1 h2 h3 h4 hL hE
  refine lv_irem (x := Int32.ofInt x) (y := Int32.ofInt y) (rest := st.map (zk_rv G)) X.1 X.2.1 hd (zk_ne0 hy hy2) ?_
  rw [zk_dv hx hx2 hy hy2, ← Int32.ofInt_mul, ← Int32.ofInt_sub, show x - x / y * y = x % y by rw [Int.emod_def, Int.mul_comm]]
  exact (kk p e R s m args below meth c X H locs cells slots mc ms lsr Qs hP hS h1 h2 h3 h4 hL hE)
theorem zk_and31 (x : Int) : Int32.ofInt x &&& Int32.ofInt 31 = Int32.ofInt (x % 32) := by
  have h := pk_and (Int32.ofInt x) (m := Int32.ofInt 31) 5 rfl
  rw [h]
  have h2 : ((Int32.ofInt x).toBitVec.toNat : Int) = x % 4294967296 := by
    rw [Int32.toBitVec_ofInt, BitVec.toNat_ofInt]
    have := Int.emod_nonneg x (show ((2 ^ 32 : Nat) : Int) ≠ 0 by decide)
    rw [Int.toNat_of_nonneg this]
    rfl
  show Int32.ofNat _ = _
  rw [← Int32.ofInt_eq_ofNat]
  congr 1
  show (((Int32.ofInt x).toBitVec.toNat % 32 : Nat) : Int) = x % 32
  omega
theorem zk_iand31 {x : Int} (hd : decode M.2.1 pc = .ok (.iand, 1)) (kk : zk_W G M d kc ks (pc + 1) ls (.inl (x % 32) :: st) h Q) : zk_W G M d kc ks pc ls (.inl 31 :: .inl x :: st) h Q := by
  intro p e R s m args below meth c X H locs cells slots mc ms lsr Qs hP hS h1 h2 h3 h4 hL hE
  refine lv_iand (x := Int32.ofInt x) (y := Int32.ofInt 31) (rest := st.map (zk_rv G)) X.1 X.2.1 hd ?_
  rw [zk_and31 x]
  exact (kk p e R s m args below meth c X H locs cells slots mc ms lsr Qs hP hS h1 h2 h3 h4 hL hE)
theorem zk_dup {v : zk_V} (hd : decode M.2.1 pc = .ok (.dup, 1)) (kk : zk_W G M d kc ks (pc + 1) ls (v :: v :: st) h Q) : zk_W G M d kc ks pc ls (v :: st) h Q := by
  intro p e R s m args below meth c X H locs cells slots mc ms lsr Qs hP hS h1 h2 h3 h4 hL hE
  exact lv_dup X.1 X.2.1 hd (zk_rv_cat G v) (kk p e R s m args below meth c X H locs cells slots mc ms lsr Qs hP hS h1 h2 h3 h4 hL hE)
theorem zk_pop {v : zk_V} (hd : decode M.2.1 pc = .ok (.pop, 1)) (kk : zk_W G M d kc ks (pc + 1) ls st h Q) : zk_W G M d kc ks pc ls (v :: st) h Q := by
  intro p e R s m args below meth c X H locs cells slots mc ms lsr Qs hP hS h1 h2 h3 h4 hL hE
  exact lv_pop X.1 X.2.1 hd (zk_rv_cat G v) (kk p e R s m args below meth c X H locs cells slots mc ms lsr Qs hP hS h1 h2 h3 h4 hL hE)
theorem zk_dup_x1 {v w : zk_V} (hd : decode M.2.1 pc = .ok (.dup_x1, 1)) (kk : zk_W G M d kc ks (pc + 1) ls (v :: w :: v :: st) h Q) : zk_W G M d kc ks pc ls (v :: w :: st) h Q := by
  intro p e R s m args below meth c X H locs cells slots mc ms lsr Qs hP hS h1 h2 h3 h4 hL hE
  exact lv_dup_x1 X.1 X.2.1 hd (zk_rv_cat G v) (zk_rv_cat G w) (kk p e R s m args below meth c X H locs cells slots mc ms lsr Qs hP hS h1 h2 h3 h4 hL hE)
theorem zk_dup_x2 {v w u : zk_V} (hd : decode M.2.1 pc = .ok (.dup_x2, 1)) (kk : zk_W G M d kc ks (pc + 1) ls (v :: w :: u :: v :: st) h Q) : zk_W G M d kc ks pc ls (v :: w :: u :: st) h Q := by
  intro p e R s m args below meth c X H locs cells slots mc ms lsr Qs hP hS h1 h2 h3 h4 hL hE
  exact lv_dup_x2 X.1 X.2.1 hd (zk_rv_cat G v) (zk_rv_cat G w) (zk_rv_cat G u) (kk p e R s m args below meth c X H locs cells slots mc ms lsr Qs hP hS h1 h2 h3 h4 hL hE)
theorem zk_dup2 {v w : zk_V} (hd : decode M.2.1 pc = .ok (.dup2, 1)) (kk : zk_W G M d kc ks (pc + 1) ls (v :: w :: v :: w :: st) h Q) : zk_W G M d kc ks pc ls (v :: w :: st) h Q := by
  intro p e R s m args below meth c X H locs cells slots mc ms lsr Qs hP hS h1 h2 h3 h4 hL hE
  exact lv_dup2_11 X.1 X.2.1 hd (zk_rv_cat G v) (zk_rv_cat G w) (kk p e R s m args below meth c X H locs cells slots mc ms lsr Qs hP hS h1 h2 h3 h4 hL hE)
theorem zk_if_eq {x : Int} {off : Int} {tgt : Nat} (hd : decode M.2.1 pc = .ok (.ifCond .eq off, 3)) (ht : (pc : Int) + off = (tgt : Int)) (hx : zk_rg x) (kt : x = 0 → zk_W G M d kc ks tgt ls st h Q) (kf : x ≠ 0 → zk_W G M d kc ks (pc + 3) ls st h Q) : zk_W G M d kc ks pc ls (.inl x :: st) h Q := by
  intro p e R s m args below meth c X H locs cells slots mc ms lsr Qs hP hS h1 h2 h3 h4 hL hE
  exact lv_if_eq (x := Int32.ofInt x) (rest := st.map (zk_rv G)) X.1 X.2.1 hd ht (fun q => (kt ((zk_eq hx zk_rg0).mp q) p e R s m args below meth c X H locs cells slots mc ms lsr Qs hP hS h1 h2 h3 h4 hL hE)) (fun q => (kf (fun z => q ((zk_eq hx zk_rg0).mpr z)) p e R s m args below meth c X H locs cells slots mc ms lsr Qs hP hS h1 h2 h3 h4 hL hE))
theorem zk_icmp_eq {x y : Int} {off : Int} {tgt : Nat} (hd : decode M.2.1 pc = .ok (.if_icmp .eq off, 3)) (ht : (pc : Int) + off = (tgt : Int)) (hx : zk_rg x) (hy : zk_rg y) (kt : x = y → zk_W G M d kc ks tgt ls st h Q) (kf : x ≠ y → zk_W G M d kc ks (pc + 3) ls st h Q) : zk_W G M d kc ks pc ls (.inl y :: .inl x :: st) h Q := by
  intro p e R s m args below meth c X H locs cells slots mc ms lsr Qs hP hS h1 h2 h3 h4 hL hE
  exact lv_icmp_eq (x := Int32.ofInt x) (y := Int32.ofInt y) (rest := st.map (zk_rv G)) X.1 X.2.1 hd ht (fun q => (kt ((zk_eq hx hy).mp q) p e R s m args below meth c X H locs cells slots mc ms lsr Qs hP hS h1 h2 h3 h4 hL hE)) (fun q => (kf (fun z => q ((zk_eq hx hy).mpr z)) p e R s m args below meth c X H locs cells slots mc ms lsr Qs hP hS h1 h2 h3 h4 hL hE))
theorem zk_if_ne {x : Int} {off : Int} {tgt : Nat} (hd : decode M.2.1 pc = .ok (.ifCond .ne off, 3)) (ht : (pc : Int) + off = (tgt : Int)) (hx : zk_rg x) (kt : x ≠ 0 → zk_W G M d kc ks tgt ls st h Q) (kf : x = 0 → zk_W G M d kc ks (pc + 3) ls st h Q) : zk_W G M d kc ks pc ls (.inl x :: st) h Q := by
  intro p e R s m args below meth c X H locs cells slots mc ms lsr Qs hP hS h1 h2 h3 h4 hL hE
  exact lv_if_ne (x := Int32.ofInt x) (rest := st.map (zk_rv G)) X.1 X.2.1 hd ht (fun q => (kt (fun z => q ((zk_eq hx zk_rg0).mpr z)) p e R s m args below meth c X H locs cells slots mc ms lsr Qs hP hS h1 h2 h3 h4 hL hE)) (fun q => (kf ((zk_eq hx zk_rg0).mp q) p e R s m args below meth c X H locs cells slots mc ms lsr Qs hP hS h1 h2 h3 h4 hL hE))
theorem zk_icmp_ne {x y : Int} {off : Int} {tgt : Nat} (hd : decode M.2.1 pc = .ok (.if_icmp .ne off, 3)) (ht : (pc : Int) + off = (tgt : Int)) (hx : zk_rg x) (hy : zk_rg y) (kt : x ≠ y → zk_W G M d kc ks tgt ls st h Q) (kf : x = y → zk_W G M d kc ks (pc + 3) ls st h Q) : zk_W G M d kc ks pc ls (.inl y :: .inl x :: st) h Q := by
  intro p e R s m args below meth c X H locs cells slots mc ms lsr Qs hP hS h1 h2 h3 h4 hL hE
  exact lv_icmp_ne (x := Int32.ofInt x) (y := Int32.ofInt y) (rest := st.map (zk_rv G)) X.1 X.2.1 hd ht (fun q => (kt (fun z => q ((zk_eq hx hy).mpr z)) p e R s m args below meth c X H locs cells slots mc ms lsr Qs hP hS h1 h2 h3 h4 hL hE)) (fun q => (kf ((zk_eq hx hy).mp q) p e R s m args below meth c X H locs cells slots mc ms lsr Qs hP hS h1 h2 h3 h4 hL hE))
theorem zk_if_lt {x : Int} {off : Int} {tgt : Nat} (hd : decode M.2.1 pc = .ok (.ifCond .lt off, 3)) (ht : (pc : Int) + off = (tgt : Int)) (hx : zk_rg x) (kt : x < 0 → zk_W G M d kc ks tgt ls st h Q) (kf : 0 ≤ x → zk_W G M d kc ks (pc + 3) ls st h Q) : zk_W G M d kc ks pc ls (.inl x :: st) h Q := by
  intro p e R s m args below meth c X H locs cells slots mc ms lsr Qs hP hS h1 h2 h3 h4 hL hE
  exact lv_if_lt (x := Int32.ofInt x) (rest := st.map (zk_rv G)) X.1 X.2.1 hd ht (fun q => (kt ((zk_lt hx zk_rg0).mp q) p e R s m args below meth c X H locs cells slots mc ms lsr Qs hP hS h1 h2 h3 h4 hL hE)) (fun q => (kf (Int.not_lt.mp (fun z => q ((zk_lt hx zk_rg0).mpr z))) p e R s m args below meth c X H locs cells slots mc ms lsr Qs hP hS h1 h2 h3 h4 hL hE))
theorem zk_icmp_lt {x y : Int} {off : Int} {tgt : Nat} (hd : decode M.2.1 pc = .ok (.if_icmp .lt off, 3)) (ht : (pc : Int) + off = (tgt : Int)) (hx : zk_rg x) (hy : zk_rg y) (kt : x < y → zk_W G M d kc ks tgt ls st h Q) (kf : y ≤ x → zk_W G M d kc ks (pc + 3) ls st h Q) : zk_W G M d kc ks pc ls (.inl y :: .inl x :: st) h Q := by
  intro p e R s m args below meth c X H locs cells slots mc ms lsr Qs hP hS h1 h2 h3 h4 hL hE
  exact lv_icmp_lt (x := Int32.ofInt x) (y := Int32.ofInt y) (rest := st.map (zk_rv G)) X.1 X.2.1 hd ht (fun q => (kt ((zk_lt hx hy).mp q) p e R s m args below meth c X H locs cells slots mc ms lsr Qs hP hS h1 h2 h3 h4 hL hE)) (fun q => (kf (Int.not_lt.mp (fun z => q ((zk_lt hx hy).mpr z))) p e R s m args below meth c X H locs cells slots mc ms lsr Qs hP hS h1 h2 h3 h4 hL hE))
theorem zk_if_ge {x : Int} {off : Int} {tgt : Nat} (hd : decode M.2.1 pc = .ok (.ifCond .ge off, 3)) (ht : (pc : Int) + off = (tgt : Int)) (hx : zk_rg x) (kt : 0 ≤ x → zk_W G M d kc ks tgt ls st h Q) (kf : x < 0 → zk_W G M d kc ks (pc + 3) ls st h Q) : zk_W G M d kc ks pc ls (.inl x :: st) h Q := by
  intro p e R s m args below meth c X H locs cells slots mc ms lsr Qs hP hS h1 h2 h3 h4 hL hE
  exact lv_if_ge (x := Int32.ofInt x) (rest := st.map (zk_rv G)) X.1 X.2.1 hd ht (fun q => (kt ((zk_le zk_rg0 hx).mp q) p e R s m args below meth c X H locs cells slots mc ms lsr Qs hP hS h1 h2 h3 h4 hL hE)) (fun q => (kf (Int.not_le.mp (fun z => q ((zk_le zk_rg0 hx).mpr z))) p e R s m args below meth c X H locs cells slots mc ms lsr Qs hP hS h1 h2 h3 h4 hL hE))
theorem zk_icmp_ge {x y : Int} {off : Int} {tgt : Nat} (hd : decode M.2.1 pc = .ok (.if_icmp .ge off, 3)) (ht : (pc : Int) + off = (tgt : Int)) (hx : zk_rg x) (hy : zk_rg y) (kt : y ≤ x → zk_W G M d kc ks tgt ls st h Q) (kf : x < y → zk_W G M d kc ks (pc + 3) ls st h Q) : zk_W G M d kc ks pc ls (.inl y :: .inl x :: st) h Q := by
  intro p e R s m args below meth c X H locs cells slots mc ms lsr Qs hP hS h1 h2 h3 h4 hL hE
  exact lv_icmp_ge (x := Int32.ofInt x) (y := Int32.ofInt y) (rest := st.map (zk_rv G)) X.1 X.2.1 hd ht (fun q => (kt ((zk_le hy hx).mp q) p e R s m args below meth c X H locs cells slots mc ms lsr Qs hP hS h1 h2 h3 h4 hL hE)) (fun q => (kf (Int.not_le.mp (fun z => q ((zk_le hy hx).mpr z))) p e R s m args below meth c X H locs cells slots mc ms lsr Qs hP hS h1 h2 h3 h4 hL hE))
theorem zk_if_gt {x : Int} {off : Int} {tgt : Nat} (hd : decode M.2.1 pc = .ok (.ifCond .gt off, 3)) (ht : (pc : Int) + off = (tgt : Int)) (hx : zk_rg x) (kt : 0 < x → zk_W G M d kc ks tgt ls st h Q) (kf : x ≤ 0 → zk_W G M d kc ks (pc + 3) ls st h Q) : zk_W G M d kc ks pc ls (.inl x :: st) h Q := by
  intro p e R s m args below meth c X H locs cells slots mc ms lsr Qs hP hS h1 h2 h3 h4 hL hE
  exact lv_if_gt (x := Int32.ofInt x) (rest := st.map (zk_rv G)) X.1 X.2.1 hd ht (fun q => (kt ((zk_lt zk_rg0 hx).mp q) p e R s m args below meth c X H locs cells slots mc ms lsr Qs hP hS h1 h2 h3 h4 hL hE)) (fun q => (kf (Int.not_lt.mp (fun z => q ((zk_lt zk_rg0 hx).mpr z))) p e R s m args below meth c X H locs cells slots mc ms lsr Qs hP hS h1 h2 h3 h4 hL hE))
theorem zk_icmp_gt {x y : Int} {off : Int} {tgt : Nat} (hd : decode M.2.1 pc = .ok (.if_icmp .gt off, 3)) (ht : (pc : Int) + off = (tgt : Int)) (hx : zk_rg x) (hy : zk_rg y) (kt : y < x → zk_W G M d kc ks tgt ls st h Q) (kf : x ≤ y → zk_W G M d kc ks (pc + 3) ls st h Q) : zk_W G M d kc ks pc ls (.inl y :: .inl x :: st) h Q := by
  intro p e R s m args below meth c X H locs cells slots mc ms lsr Qs hP hS h1 h2 h3 h4 hL hE
  exact lv_icmp_gt (x := Int32.ofInt x) (y := Int32.ofInt y) (rest := st.map (zk_rv G)) X.1 X.2.1 hd ht (fun q => (kt ((zk_lt hy hx).mp q) p e R s m args below meth c X H locs cells slots mc ms lsr Qs hP hS h1 h2 h3 h4 hL hE)) (fun q => (kf (Int.not_lt.mp (fun z => q ((zk_lt hy hx).mpr z))) p e R s m args below meth c X H locs cells slots mc ms lsr Qs hP hS h1 h2 h3 h4 hL hE))
theorem zk_if_le {x : Int} {off : Int} {tgt : Nat} (hd : decode M.2.1 pc = .ok (.ifCond .le off, 3)) (ht : (pc : Int) + off = (tgt : Int)) (hx : zk_rg x) (kt : x ≤ 0 → zk_W G M d kc ks tgt ls st h Q) (kf : 0 < x → zk_W G M d kc ks (pc + 3) ls st h Q) : zk_W G M d kc ks pc ls (.inl x :: st) h Q := by
  intro p e R s m args below meth c X H locs cells slots mc ms lsr Qs hP hS h1 h2 h3 h4 hL hE
  exact lv_if_le (x := Int32.ofInt x) (rest := st.map (zk_rv G)) X.1 X.2.1 hd ht (fun q => (kt ((zk_le hx zk_rg0).mp q) p e R s m args below meth c X H locs cells slots mc ms lsr Qs hP hS h1 h2 h3 h4 hL hE)) (fun q => (kf (Int.not_le.mp (fun z => q ((zk_le hx zk_rg0).mpr z))) p e R s m args below meth c X H locs cells slots mc ms lsr Qs hP hS h1 h2 h3 h4 hL hE))
theorem zk_icmp_le {x y : Int} {off : Int} {tgt : Nat} (hd : decode M.2.1 pc = .ok (.if_icmp .le off, 3)) (ht : (pc : Int) + off = (tgt : Int)) (hx : zk_rg x) (hy : zk_rg y) (kt : x ≤ y → zk_W G M d kc ks tgt ls st h Q) (kf : y < x → zk_W G M d kc ks (pc + 3) ls st h Q) : zk_W G M d kc ks pc ls (.inl y :: .inl x :: st) h Q := by
  intro p e R s m args below meth c X H locs cells slots mc ms lsr Qs hP hS h1 h2 h3 h4 hL hE
  exact lv_icmp_le (x := Int32.ofInt x) (y := Int32.ofInt y) (rest := st.map (zk_rv G)) X.1 X.2.1 hd ht (fun q => (kt ((zk_le hx hy).mp q) p e R s m args below meth c X H locs cells slots mc ms lsr Qs hP hS h1 h2 h3 h4 hL hE)) (fun q => (kf (Int.not_le.mp (fun z => q ((zk_le hx hy).mpr z))) p e R s m args below meth c X H locs cells slots mc ms lsr Qs hP hS h1 h2 h3 h4 hL hE))
theorem zk_goto {off : Int} {tgt : Nat} (hd : decode M.2.1 pc = .ok (.goto off, 3)) (ht : (pc : Int) + off = (tgt : Int)) (kk : zk_W G M d kc ks tgt ls st h Q) : zk_W G M d kc ks pc ls st h Q := by
  intro p e R s m args below meth c X H locs cells slots mc ms lsr Qs hP hS h1 h2 h3 h4 hL hE
  exact lv_goto X.1 X.2.1 hd ht (kk p e R s m args below meth c X H locs cells slots mc ms lsr Qs hP hS h1 h2 h3 h4 hL hE)
theorem zk_tableOut {x : Int} {dflt lo hi : Int} {offs : Array Int} {len tgt : Nat} (hd : decode M.2.1 pc = .ok (.tableswitch dflt lo hi offs, len)) (hx : zk_rg x) (ho : x < lo ∨ hi < x) (ht : (pc : Int) + dflt = (tgt : Int)) (kk : zk_W G M d kc ks tgt ls st h Q) : zk_W G M d kc ks pc ls (.inl x :: st) h Q := by
  intro p e R s m args below meth c X H locs cells slots mc ms lsr Qs hP hS h1 h2 h3 h4 hL hE
  exact lv_tableOut (x := Int32.ofInt x) (rest := st.map (zk_rv G)) X.1 X.2.1 hd (by rw [zk_ti hx]; exact ho) ht (kk p e R s m args below meth c X H locs cells slots mc ms lsr Qs hP hS h1 h2 h3 h4 hL hE)
theorem zk_tableIn {x : Int} {dflt lo hi off : Int} {offs : Array Int} {len tgt : Nat} (hd : decode M.2.1 pc = .ok (.tableswitch dflt lo hi offs, len)) (hx : zk_rg x) (hlo : lo ≤ x) (hhi : x ≤ hi) (ho : offs[(x - lo).toNat]? = some off) (ht : (pc : Int) + off = (tgt : Int)) (kk : zk_W G M d kc ks tgt ls st h Q) : zk_W G M d kc ks pc ls (.inl x :: st) h Q := by
  intro p e R s m args below meth c X H locs cells slots mc ms lsr Qs hP hS h1 h2 h3 h4 hL hE
  exact lv_tableIn (x := Int32.ofInt x) (rest := st.map (zk_rv G)) X.1 X.2.1 hd (by rw [zk_ti hx]; omega) (by rw [zk_ti hx]; omega) (by rw [zk_ti hx]; exact ho) ht (kk p e R s m args below meth c X H locs cells slots mc ms lsr Qs hP hS h1 h2 h3 h4 hL hE)
theorem zk_lookup {x : Int} {dflt off : Int} {ps : Array (Int × Int)} {len tgt : Nat} (hd : decode M.2.1 pc = .ok (.lookupswitch dflt ps, len)) (hp : (ps.toList.zip (ps.toList.drop 1)).all (fun (a, next) => a.1 < next.1) = true) (hx : zk_rg x) (ho : Op.lookupswitch.offset ps.toList dflt x = off) (ht : (pc : Int) + off = (tgt : Int)) (kk : zk_W G M d kc ks tgt ls st h Q) : zk_W G M d kc ks pc ls (.inl x :: st) h Q := by
  intro p e R s m args below meth c X H locs cells slots mc ms lsr Qs hP hS h1 h2 h3 h4 hL hE
  exact lv_lookup (x := Int32.ofInt x) (rest := st.map (zk_rv G)) X.1 X.2.1 hd hp (by rw [zk_ti hx]; exact ho) ht (kk p e R s m args below meth c X H locs cells slots mc ms lsr Qs hP hS h1 h2 h3 h4 hL hE)
theorem zk_ret (hd : decode M.2.1 pc = .ok (.return_, 1)) (hr : M.2.2.2 = none) (hq : Q none h) : zk_W G M d kc ks pc ls [] h Q := by
  intro p e R s m args below meth c X H locs cells slots mc ms lsr Qs hP hS h1 h2 h3 h4 hL hE
  exact W.widen (Nat.le_trans (Nat.le_add_right _ _) h1) (Nat.le_trans (Nat.le_add_right _ _) h2) (hE none h H locs pc lsr hq hP hS ⟨hr, hd⟩)
theorem zk_iret {z : Int} (hd : decode M.2.1 pc = .ok (.ireturn, 1)) (hr : M.2.2.2 = some .int) (hq : Q (some (.inl z)) h) : zk_W G M d kc ks pc ls [.inl z] h Q := by
  intro p e R s m args below meth c X H locs cells slots mc ms lsr Qs hP hS h1 h2 h3 h4 hL hE
  exact W.widen (Nat.le_trans (Nat.le_add_right _ _) h1) (Nat.le_trans (Nat.le_add_right _ _) h2) (hE (some (.inl z)) h H locs pc lsr hq hP hS ⟨hd, .int, hr, rfl⟩)
theorem zk_zret {z : Int} (hd : decode M.2.1 pc = .ok (.ireturn, 1)) (hr : M.2.2.2 = some .boolean) (hz : z = 0 ∨ z = 1) (hq : Q (some (.inl z)) h) : zk_W G M d kc ks pc ls [.inl z] h Q := by
  intro p e R s m args below meth c X H locs cells slots mc ms lsr Qs hP hS h1 h2 h3 h4 hL hE
  exact W.widen (Nat.le_trans (Nat.le_add_right _ _) h1) (Nat.le_trans (Nat.le_add_right _ _) h2) (hE (some (.inl z)) h H locs pc lsr hq hP hS ⟨hd, .boolean, hr, by rcases hz with rfl | rfl <;> rfl⟩)
theorem zk_aret {r : Option Nat} {rt : FieldType} (hd : decode M.2.1 pc = .ok (.areturn, 1)) (hr : M.2.2.2 = some rt) (ht : (∃ n, rt = .object n) ∨ ∃ t, rt = .array t) (hq : Q (some (.inr r)) h) : zk_W G M d kc ks pc ls [.inr r] h Q := by
  intro p e R s m args below meth c X H locs cells slots mc ms lsr Qs hP hS h1 h2 h3 h4 hL hE
  exact W.widen (Nat.le_trans (Nat.le_add_right _ _) h1) (Nat.le_trans (Nat.le_add_right _ _) h2) (hE (some (.inr r)) h H locs pc lsr hq hP hS ⟨hd, rt, hr, ht⟩)
end ZkRows
end
section
/-! rows of the heap, calls, entry -/
/-- a field: own's link number index is slot j of class ci, of type ty -/
def zk_F (own : String) (index ci j : Nat) (ty : FieldType) (fin : Bool) : Prop :=
  ∃ (C : String) (T : u_T) (N : Nat) (ty0 : Nat → FieldType), vwCl[ci]? = some (C, T, N) ∧ (∀ w ∈ u_ws C T N, w ∈ zk_T) ∧ (∀ k, k < N → parseFieldDescriptor (T k).2.2.1 = some (ty0 k)) ∧ (∀ a, a < N → ∀ b, b < N → a ≠ b → (T a).2.1 ≠ (T b).2.1) ∧ j < N ∧ ty0 j = ty ∧ (T j).2.2.2 = fin ∧ (fin = true → (T j).1 = own) ∧
    (Cond.fieldLink own index (T j).1 (T j).2.1 (T j).2.2.1 ∈ zk_T ∨ ∃ host, (own, index, (T j).1, (T j).2.1, (T j).2.2.1, host) ∈ zk_NF)
/-- a class that can be made: own's link number index is class ci of N slots, at first fs -/
def zk_O (own : String) (index ci N : Nat) (fs : List zk_V) : Prop :=
  ∃ (C : String) (T : u_T) (ty0 : Nat → FieldType), vwCl[ci]? = some (C, T, N) ∧ (∀ w ∈ u_ws C T N, w ∈ zk_T) ∧ (∀ k, k < N → parseFieldDescriptor (T k).2.2.1 = some (ty0 k)) ∧ Cond.classLink own index C ∈ zk_T ∧ Cond.instantiable C N ∈ zk_T ∧ Cond.initialized C ∈ zk_T ∧ ∀ (G : zk_G) (j : Nat), j < N → defaultValue (ty0 j) = vp_V (fs.map (zk_rv G)) j
/-- a call's link -/
def zk_B (own : String) (index : Nat) (M' : zk_M) (n : Nat) : Prop :=
  Cond.code M'.1 M'.2.1 M'.2.2.1 M'.2.2.2 ∈ zk_T ∧ Cond.initialized M'.1.cls ∈ zk_T ∧ (M'.1.cls ≠ "java/lang/invoke/MethodHandle" ∧ M'.1.cls ≠ "java/lang/invoke/VarHandle") ∧ (parseMethodDescriptor M'.1.desc).map (fun d => d.parameters.length) = some n ∧
    (Cond.methodLink own index M'.1 ∈ zk_T ∨ ∃ host, (own, index, M'.1, host) ∈ zk_NM)
def zk_BV (own : String) (index ci : Nat) (M' : zk_M) (n : Nat) : Prop := zk_B own index M' n ∧ Cond.instanceMethod M'.1 ∈ zk_T ∧ Cond.selects M'.1.cls M'.1 M'.1 ∈ zk_T ∧ ∃ (T : u_T) (N : Nat), vwCl[ci]? = some (M'.1.cls, T, N)
def zk_BS (own : String) (index : Nat) (M' : zk_M) (n : Nat) : Prop := zk_B own index M' n ∧ Cond.static M'.1 ∈ zk_T
def zk_BI (own : String) (index : Nat) (M' : zk_M) (n : Nat) : Prop := zk_B own index M' n ∧ Cond.instanceMethod M'.1 ∈ zk_T ∧ M'.1.name = "<init>" ∧ M'.2.2.2 = none
def zk_up (f : Nat → Int) (k : Nat) (x : Int) : Nat → Int := fun j => if j = k then x else f j
theorem zk_one {D : va_G} {cl : List vw_C} {q : Nat × va_E} {H : Heap} (h : va_at D cl q H) : va_P D cl [q] H := by
  intro k x hx
  have hz : k < 1 := (List.getElem?_eq_some_iff.mp hx).1
  rw [show k = 0 by omega] at hx
  cases hx
  exact h
section ZkHeap
variable {G : zk_G} {M : zk_M} {d : Nat × Nat} {kc ks pc : Nat} {ls : List (Option zk_V)} {st : List zk_V} {h : zk_H} {Q : Option zk_V → zk_H → Prop}
theorem zk_get {k ci j index : Nat} {fs : List zk_V} {ty : FieldType} {fin : Bool} {v : zk_V} (hf : zk_F M.1.cls index ci j ty fin) (hd : decode M.2.1 pc = .ok (.getfield index, 3)) (hk : h[k]? = some (.inr (ci, fs))) (h0 : k ≠ 0) (hv : fs[j]? = some v) (kk : zk_W G M d kc ks (pc + 3) ls (v :: st) h Q) : zk_W G M d kc ks pc ls (.inr (some k) :: st) h Q := by
  intro p e R s m args below meth c X H locs cells slots mc ms lsr Qs hP hS h1 h2 h3 h4 hL hE
  obtain ⟨C, T, N, ty0, hc, hin, hty, hnm, hj, -, -, -, hl⟩ := hf
  have hw := zk_one (hP.at hk h0)
  have hv' : (fs.map (zk_rv G))[j]? = some (zk_rv G v) := by rw [List.getElem?_map, hv]; rfl
  rcases hl with hl | ⟨host, hl⟩
  · exact va_get (rest := st.map (zk_rv G)) X.1 X.2.1 X.2.2.2.2.2.2.2.1 hin X.2.2.2.2.2.1 X.2.2.2.2.2.2.2.2.1 hw 0 rfl hc j hj (X.2.2.2.2.2.2.2.1 _ hl) (fun _ h9 => h9) hv' hd (kk p e R s m args below meth c X H locs cells slots mc ms lsr Qs hP hS h1 h2 h3 h4 hL hE)
  · exact va_getN (rest := st.map (zk_rv G)) X.1 X.2.1 X.2.2.2.2.2.2.2.1 hin X.2.2.2.2.2.1 X.2.2.2.2.2.2.2.2.1 hw 0 rfl hc j hj (va_Nw.use rfl (X.2.2.2.2.2.2.2.2.2.2.2.2.2.2.2.1 _ hl)) (fun _ h9 => h9) hv' hd (kk p e R s m args below meth c X H locs cells slots mc ms lsr Qs hP hS h1 h2 h3 h4 hL hE)
theorem zk_put {k ci j index : Nat} {fs : List zk_V} {ty : FieldType} {v : zk_V} {h' : zk_H} (hf : zk_F M.1.cls index ci j ty false) (hd : decode M.2.1 pc = .ok (.putfield index, 3)) (hk : h[k]? = some (.inr (ci, fs))) (h0 : k ≠ 0) (hj2 : j < fs.length) (hn : narrow ty (zk_rv G v) = zk_rv G v) (hfit : fits ty (zk_rv G v) = true) (hh : h.set k (.inr (ci, fs.set j v)) = h') (kk : zk_W G M d kc ks (pc + 3) ls st h' Q) : zk_W G M d kc ks pc ls (v :: .inr (some k) :: st) h Q := by
  intro p e R s m args below meth c X H locs cells slots mc ms lsr Qs hP hS h1 h2 h3 h4 hL hE
  subst hh
  obtain ⟨C, T, N, ty0, hc, hin, hty, hnm, hj, hty1, hfin, -, hl⟩ := hf
  have hts := X.2.2.2.2.2.2.2.1
  have hK := X.2.2.2.2.2.2.2.2.1
  have hap := va_apart (own := M.1.cls) hts hin ty0 hty hnm hK hc
  obtain ⟨r, g1, cell, q1, q2, q3, q4⟩ := hP.at hk h0
  have hr : r = (C, T, N) := Option.some.inj (g1.symm.trans hc)
  subst hr
  obtain ⟨hS', hfc, kC, hkC, hkind⟩ := hK.1 ci _ hc
  obtain ⟨cf, kf, fi, f, hi, hsl⟩ := hS' j hj
  have hlay := hts _ (hin _ (u_in_lay hj))
  unfold u_lay at hlay
  rw [if_neg (by rw [hfin]; decide)] at hlay
  have hst := (u_facts hfc hkC (u_lays hts hin hj) hi).1
  have h6 := u_store hfc hkC hkind hlay hi (hty j hj) (by rw [hty1]; exact hn) (by rw [hty1]; exact hfit)
  have fin : ∀ H' : Heap, H'[zk_ad G k]? = some (cell.setSlot f.slot (zk_rv G v)) → H'.size = H.size → (∀ q, q ≠ zk_ad G k → H'[q]? = H[q]?) → W p (zk_gl G) e R s m args below meth c H' (locs ++ [⟨zk_ad G k, f.slot⟩]) cells slots Qs (F0 m (pc + 3) lsr (st.map (zk_rv G))) := by
    intro H' e1 e2 e3
    rw [hsl] at e1 ⊢
    refine kk p e R s m args below meth c X H' _ cells slots mc ms lsr Qs (hP.put hk h0 ?_ e2 e3) (hS.put e2 e3 (zk_ad_ge h0)) h1 h2 h3 h4 hL hE
    refine ⟨_, hc, t_OB.to (V := updV (vp_V (fs.map (zk_rv G))) j (zk_rv G v)) ⟨_, e1, q2, q3, t_set q4 hap hj (zk_rv G v)⟩ (fun i _ => ?_)⟩
    show _ = vp_V ((fs.set j v).map (zk_rv G)) i
    rw [List.map_set]
    exact vp_updV_set (by simpa using hj2) (zk_rv G v) i
  rcases hl with hl | ⟨host, hl⟩
  · exact W.putK X.1 X.2.1 (f := f) ⟨X.2.2.2.2.2.1, hts _ hl, ⟨_, _, _, hi⟩, hst⟩ (by rw [q2]; exact h6) q1 q3 (by rw [hsl]; exact k2_hasslot (q4 j hj)) (g := F0 m pc lsr (zk_rv G v :: .ref (zk_ad G k) :: st.map (zk_rv G))) rfl rfl hd fin
  · exact va_WputK X.1 X.2.1 (f := f) X.2.2.2.2.2.1 (va_Nw.use rfl (X.2.2.2.2.2.2.2.2.2.2.2.2.2.2.2.1 _ hl)) hi hst (by rw [q2]; exact h6) q1 q3 (by rw [hsl]; exact k2_hasslot (q4 j hj)) (g := F0 m pc lsr (zk_rv G v :: .ref (zk_ad G k) :: st.map (zk_rv G))) rfl rfl hd fin
/-- a final field, in a constructor -/
theorem zk_putF {k ci j index : Nat} {fs : List zk_V} {ty : FieldType} {v : zk_V} {h' : zk_H} (hf : zk_F M.1.cls index ci j ty true) (hin1 : M.1.name = "<init>") (hd : decode M.2.1 pc = .ok (.putfield index, 3)) (hk : h[k]? = some (.inr (ci, fs))) (h0 : k ≠ 0) (hj2 : j < fs.length) (hn : narrow ty (zk_rv G v) = zk_rv G v) (hfit : fits ty (zk_rv G v) = true) (hlk : ∀ (C : String) (T : u_T) (N : Nat), vwCl[ci]? = some (C, T, N) → Cond.fieldLink M.1.cls index (T j).1 (T j).2.1 (T j).2.2.1 ∈ zk_T) (hh : h.set k (.inr (ci, fs.set j v)) = h') (kk : zk_W G M d kc ks (pc + 3) ls st h' Q) : zk_W G M d kc ks pc ls (v :: .inr (some k) :: st) h Q := by
  intro p e R s m args below meth c X H locs cells slots mc ms lsr Qs hP hS h1 h2 h3 h4 hL hE
  subst hh
  obtain ⟨C, T, N, ty0, hc, hin, hty, hnm, hj, hty1, hfin, hdecl, -⟩ := hf
  have hl := hlk C T N hc
  have hdecl := hdecl rfl
  have hts := X.2.2.2.2.2.2.2.1
  have hK := X.2.2.2.2.2.2.2.2.1
  have hown := X.2.2.2.2.2.1
  have hap := va_apart (own := M.1.cls) hts hin ty0 hty hnm hK hc
  obtain ⟨r, g1, cell, q1, q2, q3, q4⟩ := hP.at hk h0
  have hr : r = (C, T, N) := Option.some.inj (g1.symm.trans hc)
  subst hr
  obtain ⟨hS', hfc, kC, hkC, hkind⟩ := hK.1 ci _ hc
  obtain ⟨cf, kf, fi, f, hi, hsl⟩ := hS' j hj
  have hlay := hts _ (hin _ (u_in_lay hj))
  unfold u_lay at hlay
  rw [if_pos hfin] at hlay
  have hst := (u_facts hfc hkC (u_lays hts hin hj) hi).1
  have hcf : m.cls = cf := by
    obtain ⟨_, _, c', _, _, _, -, -, hf', -, -, -, hown2, -⟩ := Cond.laysFinal_spec hlay
    have e1 : c' = cf := by have := hi.symm.trans hf'; simp at this; exact this.1.symm
    rw [hdecl] at hown2
    rw [← e1]; exact Option.some.inj (hown.symm.trans hown2)
  have h6 := u_fits hfc hkC hkind (Or.inr hlay) hi (hty j hj) (by rw [hty1]; exact hn) (by rw [hty1]; exact hfit)
  refine W.putFinK X.1 X.2.1 hown (hts _ hl) hi hst hcf (X.2.2.2.2.2.2.1.trans hin1) (by rw [q2]; exact h6) q1 q3 (by rw [hsl]; exact k2_hasslot (q4 j hj)) (g := F0 m pc lsr (zk_rv G v :: .ref (zk_ad G k) :: st.map (zk_rv G))) rfl rfl hd fun H' e1 e2 e3 => ?_
  rw [hsl] at e1 ⊢
  refine kk p e R s m args below meth c X H' _ cells slots mc ms lsr Qs (hP.put hk h0 ?_ e2 e3) (hS.put e2 e3 (zk_ad_ge h0)) h1 h2 h3 h4 hL hE
  refine ⟨_, hc, t_OB.to (V := updV (vp_V (fs.map (zk_rv G))) j (zk_rv G v)) ⟨_, e1, q2, q3, t_set q4 hap hj (zk_rv G v)⟩ (fun i _ => ?_)⟩
  show _ = vp_V ((fs.set j v).map (zk_rv G)) i
  rw [List.map_set]
  exact vp_updV_set (by simpa using hj2) (zk_rv G v) i
/-- an array is read: the script too -/
theorem zk_iald {k n : Nat} {f : Nat → Int} {i : Int} (hd : decode M.2.1 pc = .ok (.iaload, 1)) (hk : h[k]? = some (.inl (n, f))) (hi0 : 0 ≤ i) (hin : i < n) (hi : i < 2147483648) (kk : zk_W G M d kc ks (pc + 1) ls (.inl (f i.toNat) :: st) h Q) : zk_W G M d kc ks pc ls (.inl i :: .inr (some k) :: st) h Q := by
  intro p e R s m args below meth c X H locs cells slots mc ms lsr Qs hP hS h1 h2 h3 h4 hL hE
  have K := kk p e R s m args below meth c X H locs cells slots mc ms lsr Qs hP hS h1 h2 h3 h4 hL hE
  by_cases h0 : k = 0
  · subst h0
    have h5 := Option.some.inj (hk.symm.trans hP.2.1)
    cases h5
    have hlt : zk_gb G < s.heap.size := Nat.lt_of_lt_of_le X.2.2.2.2.2.2.2.2.2.2.1 X.2.2.2.2.2.2.2.2.2.2.2.1
    refine va_sld (rest := st.map (zk_rv G)) X.1 X.2.1 X.2.2.2.2.2.2.2.2.2.1 hlt (A := zk_A G) (Nat.not_le.mpr X.2.2.2.2.2.2.2.2.2.2.1) hS (zk_vin hi0 hin hi) hd ?_
    rw [zk_cl hi0 hi]
    have K' : W p (zk_gl G) e R s m args below meth c H locs cells slots Qs (F0 m (pc + 1) lsr (.int (Int32.ofInt (zk_gX G i.toNat).toInt) :: st.map (zk_rv G))) := K
    rw [Int32.ofInt_toInt] at K'
    exact K'
  · refine va_iald (cl := vwCl) (D := zk_gD G) (rest := st.map (zk_rv G)) (f := fun j => Int32.ofInt (f j)) X.1 X.2.1 X.2.2.2.2.2.2.2.2.1 (zk_one (hP.at hk h0)) 0 0 rfl rfl (zk_vin hi0 hin hi) hd ?_
    rw [zk_cl hi0 hi]
    exact K
theorem zk_iast {k n : Nat} {f : Nat → Int} {i x : Int} {h' : zk_H} (hd : decode M.2.1 pc = .ok (.iastore, 1)) (hk : h[k]? = some (.inl (n, f))) (h0 : k ≠ 0) (hi0 : 0 ≤ i) (hin : i < n) (hi : i < 2147483648) (hh : h.set k (.inl (n, zk_up f i.toNat x)) = h') (kk : zk_W G M d kc ks (pc + 1) ls st h' Q) : zk_W G M d kc ks pc ls (.inl x :: .inl i :: .inr (some k) :: st) h Q := by
  intro p e R s m args below meth c X H locs cells slots mc ms lsr Qs hP hS h1 h2 h3 h4 hL hE
  subst hh
  have hK := X.2.2.2.2.2.2.2.2.1
  have hA : H[zk_ad G k]? = some (vp_cell (zk_gI G) (n, .inl (fun j => Int32.ofInt (f j)))) := hP.at hk h0
  refine W.iast X.1 X.2.1 hA ((hK.2 0 _ rfl).1 n (fun j => .int (Int32.ofInt (f j)))) (fun q => by cases q) (by show ¬ (Int32.ofInt i < 0 ∨ (arrV _ _ _).slots.size ≤ _); rw [arrV_size]; exact zk_vin hi0 hin hi) (g := F0 m pc lsr (.int (Int32.ofInt x) :: .int (Int32.ofInt i) :: .ref (zk_ad G k) :: st.map (zk_rv G))) rfl rfl hd fun H1 e1 z oq => ?_
  refine kk p e R s m args below meth c X H1 _ cells slots mc ms lsr Qs (hP.put hk h0 ?_ z oq) (hS.put z oq (zk_ad_ge h0)) h1 h2 h3 h4 hL hE
  show H1[zk_ad G k]? = some (vp_cell _ _)
  rw [e1]
  rw [vp_cell_i, vp_cell_i, arrV_store]
  congr 2
  funext q
  rw [zk_cl hi0 hi]
  by_cases hq : q = i.toNat
  · simp [updV, zk_up, hq]
  · simp [updV, zk_up, hq]
theorem zk_alen {k n : Nat} {f : Nat → Int} (hd : decode M.2.1 pc = .ok (.arraylength, 1)) (hk : h[k]? = some (.inl (n, f))) (kk : zk_W G M d kc ks (pc + 1) ls (.inl (n : Int) :: st) h Q) : zk_W G M d kc ks pc ls (.inr (some k) :: st) h Q := by
  intro p e R s m args below meth c X H locs cells slots mc ms lsr Qs hP hS h1 h2 h3 h4 hL hE
  have K : W p (zk_gl G) e R s m args below meth c H locs cells slots Qs (F0 m (pc + 1) lsr (.int (Int32.ofInt (n : Int)) :: st.map (zk_rv G))) := kk p e R s m args below meth c X H locs cells slots mc ms lsr Qs hP hS h1 h2 h3 h4 hL hE
  rw [Int32.ofInt_eq_ofNat] at K
  by_cases h0 : k = 0
  · subst h0
    have h5 := Option.some.inj (hk.symm.trans hP.2.1)
    cases h5
    have hlt : zk_gb G < s.heap.size := Nat.lt_of_lt_of_le X.2.2.2.2.2.2.2.2.2.2.1 X.2.2.2.2.2.2.2.2.2.2.2.1
    exact va_slen (rest := st.map (zk_rv G)) X.1 X.2.1 X.2.2.2.2.2.2.2.2.2.1 hlt (A := zk_A G) (Nat.not_le.mpr X.2.2.2.2.2.2.2.2.2.2.1) hS hd K
  · exact va_alen (cl := vwCl) (D := zk_gD G) (rest := st.map (zk_rv G)) (x := (n, .inl (fun j => Int32.ofInt (f j)))) X.1 X.2.1 X.2.2.2.2.2.2.2.2.1 (zk_one (hP.at hk h0)) 0 0 rfl rfl rfl hd K
/-- a new array of ints -/
theorem zk_newa {n : Int} {h' : zk_H} {kc' ks' : Nat} {atype : ArrayType} (hd : decode M.2.1 pc = .ok (.newarray atype, 2)) (ha : newarray.typeOf atype = .int) (hw : Cond.arrayClass .int ∈ zk_T) (hn0 : 0 ≤ n) (hn : n ≤ 134217728) (hkc : kc = kc' + 1) (hks : ks = ks' + n.toNat) (hh : h ++ [.inl (n.toNat, fun _ => 0)] = h') (kk : zk_W G M d kc' ks' (pc + 2) ls (.inr (some h.length) :: st) h' Q) : zk_W G M d kc ks pc ls (.inl n :: st) h Q := by
  intro p e R s m args below meth c X H locs cells slots mc ms lsr Qs hP hS h1 h2 h3 h4 hL hE
  subst hh
  subst hkc
  subst hks
  have hts := X.2.2.2.2.2.2.2.1
  have hK := X.2.2.2.2.2.2.2.2.1
  refine va_newaK (N := n.toNat) X.1 X.2.1 (by rw [ha]; exact hts _ hw) (g := F0 m pc lsr (.int (Int32.ofInt n) :: st.map (zk_rv G))) rfl hd rfl (by rw [zk_0, zk_lt ⟨by omega, by omega⟩ zk_rg0]; omega) (zk_cl hn0 (by omega)) (by rw [ha]; show n.toNat * 4 ≤ _; omega) (by omega) (by omega) rfl fun H1 cA e1 z1 o1 hAr hNm => ?_
  have hcA : cA = zk_gI G := by
    have h5 : s.vm.findClass ("[" ++ (FieldType.int).toString) = some (zk_gI G) := (hK.2 0 _ rfl).2
    rw [ha] at hNm
    exact Option.some.inj (hNm.symm.trans h5)
  subst hcA
  rw [ha] at e1
  have hc : va_at (zk_gD G) vwCl (H.size, zk_ce G (.inl (n.toNat, fun _ => 0))) H1 := by
    show H1[H.size]? = some (vp_cell _ _)
    rw [e1, vp_cell_i]
    rfl
  obtain ⟨hP1, hz⟩ := hP.push hc z1 o1
  have K := kk p e R s m args below meth c X H1 locs (cells + 1) (slots + n.toNat) mc ms lsr Qs hP1 (zk_Spush hS z1 o1) (by omega) (by omega) h3 h4 hL hE
  have K' : W p (zk_gl G) e R s m args below meth c H1 locs (cells + 1) (slots + n.toNat) Qs (F0 m (pc + 2) lsr (.ref (zk_ad G h.length) :: st.map (zk_rv G))) := K
  rw [← hz] at K'
  exact K'
/-- a new object -/
theorem zk_new {index ci N : Nat} {fs : List zk_V} {h' : zk_H} {kc' ks' : Nat} (ho : zk_O M.1.cls index ci N fs) (hd : decode M.2.1 pc = .ok (.new index, 3)) (hkc : kc = kc' + 1) (hks : ks = ks' + N) (hh : h ++ [.inr (ci, fs)] = h') (kk : zk_W G M d kc' ks' (pc + 3) ls (.inr (some h.length) :: st) h' Q) : zk_W G M d kc ks pc ls st h Q := by
  intro p e R s m args below meth c X H locs cells slots mc ms lsr Qs hP hS h1 h2 h3 h4 hL hE
  subst hh
  subst hkc
  subst hks
  obtain ⟨C, T, ty0, hc, hin, hty, hw1, hw2, hw3, hfs⟩ := ho
  have hts := X.2.2.2.2.2.2.2.1
  have hKn := X.2.2.2.2.2.2.2.2.1.1 ci _ hc
  refine W.newcK X.1 X.2.1 X.2.2.2.2.2.1 (hts _ hw1) (hts _ hw2) (hts _ hw3) (g := F0 m pc lsr (st.map (zk_rv G))) rfl hd (by omega) (by omega) hKn.2.1 rfl fun H1 kC hkC e1 z1 o1 => ?_
  have hcc : va_at (zk_gD G) vwCl (H.size, zk_ce G (.inr (ci, fs))) H1 := ⟨_, hc, (u_born ty0 hts hin hKn hkC e1 hty).to (hfs G)⟩
  obtain ⟨hP1, hz⟩ := hP.push hcc z1 o1
  have K := kk p e R s m args below meth c X H1 locs (cells + 1) (slots + N) mc ms lsr Qs hP1 (zk_Spush hS z1 o1) (by omega) (by omega) h3 h4 hL hE
  have K' : W p (zk_gl G) e R s m args below meth c H1 locs (cells + 1) (slots + N) Qs (F0 m (pc + 3) lsr (.ref (zk_ad G h.length) :: st.map (zk_rv G))) := K
  rw [← hz] at K'
  exact K'
theorem zk_oinit {k index : Nat} (hd : decode M.2.1 pc = .ok (.invokespecial index, 3)) (hw : Cond.methodLink M.1.cls index Lib.objectInit ∈ zk_T) (hw2 : Cond.instanceMethod Lib.objectInit ∈ zk_T) (hw3 : Cond.code Lib.objectInit ⟨#[0xb1]⟩ 1 none ∈ zk_T) (hdp : 1 ≤ d.1 ∧ st.length + 12 ≤ d.2) (kk : zk_W G M d kc ks (pc + 3) ls st h Q) : zk_W G M d kc ks pc ls (.inr (some k) :: st) h Q := by
  intro p e R s m args below meth c X H locs cells slots mc ms lsr Qs hP hS h1 h2 h3 h4 hL hE
  have hts := X.2.2.2.2.2.2.2.1
  have hf := X.2.2.2.2.2.2.2.2.2.2.2.2.1
  have hlo := X.2.2.2.2.2.2.2.2.2.2.2.2.2.1
  refine W.objInit X.1 X.2.1 X.2.2.2.2.2.1 (hts _ hw) (hts _ hw2) (hts _ hw3) (g := F0 m pc lsr (.ref (zk_ad G k) :: st.map (zk_rv G))) rfl (hL.1.trans X.2.2.2.2.1.symm) rfl hd (by omega) (by show 2 * 0 + _ + 12 ≤ _; rw [zk_cat_sum]; omega) ?_
  exact kk p e R s m args below meth c X H locs cells slots mc ms lsr Qs hP hS h1 h2 h3 h4 hL hE
theorem zk_mmin {x y : Int} {index : Nat} (hd : decode M.2.1 pc = .ok (.invokestatic index, 3)) (hw : Cond.methodLink M.1.cls index Lib.Math.min.name ∈ zk_T) (hw2 : Cond.static Lib.Math.min.name ∈ zk_T) (hw3 : Cond.initialized "java/lang/Math" ∈ zk_T) (hw4 : Cond.code Lib.Math.min.name Lib.Math.min.code 2 (some .int) ∈ zk_T) (hdp : 1 ≤ d.1 ∧ st.length + 13 ≤ d.2) (hx : zk_rg x) (hy : zk_rg y) (kk : zk_W G M d kc ks (pc + 3) ls (.inl (min x y) :: st) h Q) : zk_W G M d kc ks pc ls (.inl y :: .inl x :: st) h Q := by
  intro p e R s m args below meth c X H locs cells slots mc ms lsr Qs hP hS h1 h2 h3 h4 hL hE
  have hts := X.2.2.2.2.2.2.2.1
  have hf := X.2.2.2.2.2.2.2.2.2.2.2.2.1
  have hlo := X.2.2.2.2.2.2.2.2.2.2.2.2.2.1
  refine va_mmin (x := Int32.ofInt x) (y := Int32.ofInt y) (rest := st.map (zk_rv G)) X.1 X.2.1 (X.2.2.2.2.1.trans hL.1.symm) X.2.2.2.2.2.1 (hts _ hw) (hts _ hw2) (hts _ hw3) (hts _ hw4) (by omega) (by rw [zk_cat_sum]; omega) (by omega) (by omega) hd ?_
  rw [show (if Int32.ofInt y < Int32.ofInt x then Int32.ofInt y else Int32.ofInt x) = Int32.ofInt (min x y) by
    by_cases hh : y < x
    · rw [if_pos ((zk_lt hy hx).mpr hh)]; congr 1; omega
    · rw [if_neg (fun z => hh ((zk_lt hy hx).mp z))]; congr 1; omega]
  exact kk p e R s m args below meth c X H locs cells slots mc ms lsr Qs hP hS h1 h2 h3 h4 hL hE
theorem zk_mmax {x y : Int} {index : Nat} (hd : decode M.2.1 pc = .ok (.invokestatic index, 3)) (hw : Cond.methodLink M.1.cls index Lib.Math.max.name ∈ zk_T) (hw2 : Cond.static Lib.Math.max.name ∈ zk_T) (hw3 : Cond.initialized "java/lang/Math" ∈ zk_T) (hw4 : Cond.code Lib.Math.max.name Lib.Math.max.code 2 (some .int) ∈ zk_T) (hdp : 1 ≤ d.1 ∧ st.length + 13 ≤ d.2) (hx : zk_rg x) (hy : zk_rg y) (kk : zk_W G M d kc ks (pc + 3) ls (.inl (max x y) :: st) h Q) : zk_W G M d kc ks pc ls (.inl y :: .inl x :: st) h Q := by
  intro p e R s m args below meth c X H locs cells slots mc ms lsr Qs hP hS h1 h2 h3 h4 hL hE
  have hts := X.2.2.2.2.2.2.2.1
  have hf := X.2.2.2.2.2.2.2.2.2.2.2.2.1
  have hlo := X.2.2.2.2.2.2.2.2.2.2.2.2.2.1
  refine va_mmax (x := Int32.ofInt x) (y := Int32.ofInt y) (rest := st.map (zk_rv G)) X.1 X.2.1 (X.2.2.2.2.1.trans hL.1.symm) X.2.2.2.2.2.1 (hts _ hw) (hts _ hw2) (hts _ hw3) (hts _ hw4) (by omega) (by rw [zk_cat_sum]; omega) (by omega) (by omega) hd ?_
  rw [show (if Int32.ofInt x < Int32.ofInt y then Int32.ofInt y else Int32.ofInt x) = Int32.ofInt (max x y) by
    by_cases hh : x < y
    · rw [if_pos ((zk_lt hx hy).mpr hh)]; congr 1; omega
    · rw [if_neg (fun z => hh ((zk_lt hx hy).mp z))]; congr 1; omega]
  exact kk p e R s m args below meth c X H locs cells slots mc ms lsr Qs hP hS h1 h2 h3 h4 hL hE
end ZkHeap
/-! calls -/
theorem zk_goodIn {y : MethodName} {b : ByteArray} {n : Nat} {r : Option FieldType} (hc : Cond.code y b n r ∈ zk_T) : GoodIn zk_T (.code y b n r :: zk_T) := by
  intro w hw
  rcases List.mem_cons.mp hw with rfl | hw
  · exact ⟨hc, Or.inl rfl⟩
  · exact ⟨hw, good_of_word (zk_good w hw)⟩
theorem zk_Xk {G : zk_G} {s U : State} {H : Heap} {locs : List Loc} (hX : va_X (zk_gb G) (zk_gL G) (zk_gX G) s s.heap) (hb : zk_gb G < zk_gB G) (hB : zk_gB G ≤ s.heap.size) (hS : va_S (zk_A G) s.heap H locs) (hU : U.heap = H) (hvm : s.vm.Alike U.vm) : va_X (zk_gb G) (zk_gL G) (zk_gX G) U U.heap := by
  have h1 : U.heap[zk_gb G]? = s.heap[zk_gb G]? := by rw [hU]; exact hS.2.1 _ (Nat.lt_of_lt_of_le hb hB) (Nat.not_le.mpr hb)
  exact (hX.kept h1).moved hvm
theorem zk_Sat {G : zk_G} {M : zk_M} {d : Nat × Nat} {p : Program} {R : Room} {s : State} {m : MethodId} {args : Array Value} {meth : Method} {c : Code} {h : zk_H} {H : Heap} {locs : List Loc} (X : zk_X G M d p R s m args meth c) (hP : zk_P G h H) (hS : va_S (zk_A G) s.heap H locs) (U : State) (hU : U.heap = H) (hW : s.WarmedH U.vm) : zk_S G h U := by
  obtain ⟨-, -, -, -, -, -, -, -, hK, hX, hb, hB, -, -, hL, hN⟩ := X
  exact ⟨by rw [hU]; exact hP, va_K.moved hW.alike hK, zk_Xk hX hb hB hS hU hW.alike, hb, hL, hN.warm hW⟩
theorem zk_blind (G : zk_G) (h : zk_H) (av : List Value) : FrameBlind (va_Pc av (zk_S G h)) := by
  intro a U g mk q
  obtain ⟨q0, q1, q2, q3, q4, q5, q6⟩ := q
  exact ⟨q0, q1, va_K.moved (u := U) (U := U.calling g mk a) (Vm.Alike.refl U.vm) q2, va_X.moved (u := U) (U := U.calling g mk a) (Vm.Alike.refl U.vm) q3, q4, q5, q6.same rfl⟩
section ZkCalls
variable {G : zk_G} {M : zk_M} {d : Nat × Nat} {kc ks pc : Nat} {ls : List (Option zk_V)} {st : List zk_V} {h : zk_H} {Q : Option zk_V → zk_H → Prop}
variable {M' : zk_M} {d' : Nat × Nat} {mc' ms' kc' ks' index n : Nat} {av : List zk_V} {Q' : Option zk_V → zk_H → Prop}
theorem zk_run {p : Program} {e : Env} {R : Room} {s : State} {m : MethodId} {args : Array Value} {below : List Frame} {meth : Method} {c : Code} (X : zk_X G M d p R s m args meth c)
    {H : Heap} {locs : List Loc} {cells slots mc ms : Nat} {lsr : Array Slot} {Qs : State → Prop} {st0 : List Value} (hS : va_S (zk_A G) s.heap H locs) (h1 : cells + kc ≤ mc) (h2 : slots + ks ≤ ms) (h3 : mc ≤ R.cells) (h4 : ms ≤ R.slots) (hL : zk_L G lsr M.2.2.1 ls) (hE : zk_E G M p e R s m args below meth c mc ms Qs Q)
    (hkc : kc = mc' + kc') (hks : ks = ms' + ks')
    (hr : va_Run p (zk_gl G) e R s m args below meth c H locs cells slots mc' ms' (F0 m pc lsr st0) (st.map (zk_rv G)) (fun st oc t => (∃ (v : Option zk_V) (h' : zk_H), oc = .returned (v.map (zk_rv G)) ∧ Q' v h' ∧ zk_S G h' t) ∧ va_F (zk_A G) st t) (zk_A G))
    (kk : ∀ (v : Option zk_V) (h' : zk_H), Q' v h' → zk_W G M d kc' ks' (pc + 3) ls (v.toList ++ st) h' Q) : W p (zk_gl G) e R s m args below meth c H locs cells slots Qs (F0 m pc lsr st0) := by
  intro T hT XT
  obtain ⟨v, st₀, t, T', L, h0, X', hL', e1, e2, ⟨⟨v', h', hv, hq, hs'⟩, hz, hk⟩, stp⟩ := hr T hT XT
  rw [h0] at hz hk
  have hv' : v = v'.map (zk_rv G) := by injection hv
  subst hv'
  have K := kk v' h' hq p e R s m args below meth c X T'.heap (locs ++ L) (cells + mc') (slots + ms') mc ms lsr Qs (by rw [e1]; exact hs'.1)
    ⟨Nat.le_trans hS.1 (by rw [e1]; exact hz), fun q g1 g2 => by rw [e1, hk q (Nat.lt_of_lt_of_le g1 hS.1) g2]; exact hS.2.1 q g1 g2, fun q hq => by
      rcases List.mem_append.mp hq with g | g
      · exact hS.2.2 q g
      · exact hL' q g⟩ (by omega) (by omega) h3 h4 hL hE
  have hst : (v'.toList ++ st).map (zk_rv G) = (v'.map (zk_rv G)).toList ++ st.map (zk_rv G) := by cases v' <;> rfl
  rw [hst] at K
  obtain ⟨t2, a1, b1⟩ := K T' rfl X'
  exact ⟨t2, stp t2 a1, b1⟩
theorem zk_callV {k ci : Nat} {fs : List zk_V} {S0 : List zk_V} (hb : zk_BV M.1.cls index ci M' n) (hd : decode M.2.1 pc = .ok (.invokevirtual index, 3)) (hk : h[k]? = some (.inr (ci, fs))) (h0 : k ≠ 0) (hn : av.length = n) (hS0 : S0 = av.reverse ++ .inr (some k) :: st) (hst : st.length ≤ 8) (hdd : d'.1 + 1 ≤ d.1 ∧ M'.2.2.1 + 19 + d'.2 ≤ d.2) (hkc : kc = mc' + kc') (hks : ks = ms' + ks')
    (hM : zk_K G M' d' mc' ms' (.inr (some k) :: av) h Q') (kk : ∀ (v : Option zk_V) (h' : zk_H), Q' v h' → zk_W G M d kc' ks' (pc + 3) ls (v.toList ++ st) h' Q) : zk_W G M d kc ks pc ls S0 h Q := by
  intro p e R s m args below meth c X H locs cells slots mc ms lsr Qs hP hS h1 h2 h3 h4 hL hE
  subst hS0
  obtain ⟨⟨hcd, hini, hmh, hpar, hlk⟩, hins, hsel, T, N, hci⟩ := hb
  have hts := X.2.2.2.2.2.2.2.1
  have hf := X.2.2.2.2.2.2.2.2.2.2.2.2.1
  have hlo := X.2.2.2.2.2.2.2.2.2.2.2.2.2.1
  have hpar' : ∀ sig, parseMethodDescriptor M'.1.desc = some sig → n = sig.parameters.length := fun sig hh => by
    rw [hh] at hpar
    exact (Option.some.inj hpar).symm
  have hpay := pay_in hts (zk_goodIn hcd)
  have hstk : (av.reverse ++ .inr (some k) :: st).map (zk_rv G) = (av.map (zk_rv G)).reverse ++ .ref (zk_ad G k) :: st.map (zk_rv G) := by rw [List.map_append, List.map_reverse]; rfl
  have hpre : PreV s H M'.1.cls (zk_ad G k) (va_Pc ((.inr (some k) :: av).map (zk_rv G)) (zk_S G h)) (av.map (zk_rv G)) :=
    ⟨zk_blind G h _, va_recv X.2.2.2.2.2.2.2.2.1 (zk_one (hP.at hk h0)) (q0 := 0) hci rfl, fun U hU hW => ⟨rfl, zk_Sat X hP hS U hU hW⟩⟩
  rw [hstk]
  rcases hlk with hlk | ⟨host, hlk⟩
  · exact zk_run X hS h1 h2 h3 h4 hL hE hkc hks (va_runV (As := av.map (zk_rv G)) (rest := st.map (zk_rv G)) (n := n) (bytes := M'.2.1) (maxL := M'.2.2.1) (ret := M'.2.2.2) ⟨X.1, X.2.1, X.2.2.2.2.1, X.2.2.2.2.2.1, hts⟩ hM
      ⟨⟨rfl, rfl, by show d'.1 + 1 ≤ R.frames; omega, by show 8 + (M'.2.2.1 + 11) + d'.2 ≤ R.locals; omega, hpay, List.mem_cons_self, hts _ hcd, hts _ hini, hmh, hpar', hts _ hlk⟩, hts _ hins, hts _ hsel⟩ hpre rfl (by rw [List.length_map]; exact hn) hL.1 rfl (lv_room (by rw [zk_cat_sum]; exact hst)) hd ⟨by omega, by omega⟩) kk
  · exact zk_run X hS h1 h2 h3 h4 hL hE hkc hks (va_runVN (As := av.map (zk_rv G)) (rest := st.map (zk_rv G)) (n := n) (bytes := M'.2.1) (maxL := M'.2.2.1) (ret := M'.2.2.2) (host := host) ⟨X.1, X.2.1, X.2.2.2.2.1, X.2.2.2.2.2.1, hts⟩ hM
      ⟨⟨⟨rfl, rfl, by show d'.1 + 1 ≤ R.frames; omega, by show 8 + (M'.2.2.1 + 11) + d'.2 ≤ R.locals; omega, hpay, List.mem_cons_self⟩, hts _ hcd, hts _ hini, hmh, hpar', va_Nw.use rfl (X.2.2.2.2.2.2.2.2.2.2.2.2.2.2.2.2 _ hlk)⟩, hts _ hins, hts _ hsel⟩ hpre rfl (by rw [List.length_map]; exact hn) hL.1 rfl (lv_room (by rw [zk_cat_sum]; exact hst)) hd ⟨by omega, by omega⟩) kk
theorem zk_callS {S0 : List zk_V} (hb : zk_BS M.1.cls index M' n) (hd : decode M.2.1 pc = .ok (.invokestatic index, 3)) (hn : av.length = n) (hS0 : S0 = av.reverse ++ st) (hst : st.length ≤ 8) (hdd : d'.1 + 1 ≤ d.1 ∧ M'.2.2.1 + 19 + d'.2 ≤ d.2) (hkc : kc = mc' + kc') (hks : ks = ms' + ks')
    (hM : zk_K G M' d' mc' ms' av h Q') (kk : ∀ (v : Option zk_V) (h' : zk_H), Q' v h' → zk_W G M d kc' ks' (pc + 3) ls (v.toList ++ st) h' Q) : zk_W G M d kc ks pc ls S0 h Q := by
  intro p e R s m args below meth c X H locs cells slots mc ms lsr Qs hP hS h1 h2 h3 h4 hL hE
  subst hS0
  obtain ⟨⟨hcd, hini, hmh, hpar, hlk⟩, hstc⟩ := hb
  have hts := X.2.2.2.2.2.2.2.1
  have hf := X.2.2.2.2.2.2.2.2.2.2.2.2.1
  have hlo := X.2.2.2.2.2.2.2.2.2.2.2.2.2.1
  have hpar' : ∀ sig, parseMethodDescriptor M'.1.desc = some sig → n = sig.parameters.length := fun sig hh => by
    rw [hh] at hpar
    exact (Option.some.inj hpar).symm
  have hpay := pay_in hts (zk_goodIn hcd)
  have hstk : (av.reverse ++ st).map (zk_rv G) = (av.map (zk_rv G)).reverse ++ st.map (zk_rv G) := by rw [List.map_append, List.map_reverse]
  have hpre : PreS s H (va_Pc (av.map (zk_rv G)) (zk_S G h)) (av.map (zk_rv G)) := ⟨zk_blind G h _, fun U hU hW => ⟨rfl, zk_Sat X hP hS U hU hW⟩⟩
  rw [hstk]
  rcases hlk with hlk | ⟨host, hlk⟩
  · exact zk_run X hS h1 h2 h3 h4 hL hE hkc hks (va_runS (As := av.map (zk_rv G)) (rest := st.map (zk_rv G)) (n := n) (bytes := M'.2.1) (maxL := M'.2.2.1) (ret := M'.2.2.2) ⟨X.1, X.2.1, X.2.2.2.2.1, X.2.2.2.2.2.1, hts⟩ hM
      ⟨⟨rfl, rfl, by show d'.1 + 1 ≤ R.frames; omega, by show 8 + (M'.2.2.1 + 11) + d'.2 ≤ R.locals; omega, hpay, List.mem_cons_self, hts _ hcd, hts _ hini, hmh, hpar', hts _ hlk⟩, hts _ hstc⟩ hpre rfl (by rw [List.length_map]; exact hn) hL.1 rfl (lv_room (by rw [zk_cat_sum]; exact hst)) hd ⟨by omega, by omega⟩) kk
  · exact zk_run X hS h1 h2 h3 h4 hL hE hkc hks (va_runSN (As := av.map (zk_rv G)) (rest := st.map (zk_rv G)) (n := n) (bytes := M'.2.1) (maxL := M'.2.2.1) (ret := M'.2.2.2) (host := host) ⟨X.1, X.2.1, X.2.2.2.2.1, X.2.2.2.2.2.1, hts⟩ hM
      ⟨⟨⟨rfl, rfl, by show d'.1 + 1 ≤ R.frames; omega, by show 8 + (M'.2.2.1 + 11) + d'.2 ≤ R.locals; omega, hpay, List.mem_cons_self⟩, hts _ hcd, hts _ hini, hmh, hpar', va_Nw.use rfl (X.2.2.2.2.2.2.2.2.2.2.2.2.2.2.2.2 _ hlk)⟩, hts _ hstc, trivial⟩ hpre rfl (by rw [List.length_map]; exact hn) hL.1 rfl (lv_room (by rw [zk_cat_sum]; exact hst)) hd ⟨by omega, by omega⟩) kk
theorem zk_callI {k : Nat} {S0 : List zk_V} (hb : zk_BI M.1.cls index M' n) (hd : decode M.2.1 pc = .ok (.invokespecial index, 3)) (hn : av.length = n) (hS0 : S0 = av.reverse ++ .inr (some k) :: st) (hst : st.length ≤ 8) (hdd : d'.1 + 1 ≤ d.1 ∧ M'.2.2.1 + 19 + d'.2 ≤ d.2) (hkc : kc = mc' + kc') (hks : ks = ms' + ks')
    (hM : zk_K G M' d' mc' ms' (.inr (some k) :: av) h Q') (kk : ∀ (v : Option zk_V) (h' : zk_H), Q' v h' → zk_W G M d kc' ks' (pc + 3) ls (v.toList ++ st) h' Q) : zk_W G M d kc ks pc ls S0 h Q := by
  intro p e R s m args below meth c X H locs cells slots mc ms lsr Qs hP hS h1 h2 h3 h4 hL hE
  subst hS0
  obtain ⟨⟨hcd, hini, hmh, hpar, hlk⟩, hins, hnm, hret⟩ := hb
  have hts := X.2.2.2.2.2.2.2.1
  have hf := X.2.2.2.2.2.2.2.2.2.2.2.2.1
  have hlo := X.2.2.2.2.2.2.2.2.2.2.2.2.2.1
  have hpar' : ∀ sig, parseMethodDescriptor M'.1.desc = some sig → n = sig.parameters.length := fun sig hh => by
    rw [hh] at hpar
    exact (Option.some.inj hpar).symm
  have hpay := pay_in hts (zk_goodIn hcd)
  rw [hret] at hcd hpay
  have hmem : Cond.code M'.1 M'.2.1 M'.2.2.1 none ∈ Cond.code M'.1 M'.2.1 M'.2.2.1 M'.2.2.2 :: zk_T := by rw [hret]; exact List.mem_cons_self
  have hstk : (av.reverse ++ .inr (some k) :: st).map (zk_rv G) = (av.map (zk_rv G)).reverse ++ .ref (zk_ad G k) :: st.map (zk_rv G) := by rw [List.map_append, List.map_reverse]; rfl
  have hpre : PreS s H (va_Pc ((.inr (some k) :: av).map (zk_rv G)) (zk_S G h)) (.ref (zk_ad G k) :: av.map (zk_rv G)) := ⟨zk_blind G h _, fun U hU hW => ⟨rfl, zk_Sat X hP hS U hU hW⟩⟩
  rw [hstk]
  rcases hlk with hlk | ⟨host, hlk⟩
  · exact zk_run X hS h1 h2 h3 h4 hL hE hkc hks (va_runI (As := av.map (zk_rv G)) (rest := st.map (zk_rv G)) (n := n) (bytes := M'.2.1) (maxL := M'.2.2.1) ⟨X.1, X.2.1, X.2.2.2.2.1, X.2.2.2.2.2.1, hts⟩ hM
      ⟨⟨rfl, rfl, by show d'.1 + 1 ≤ R.frames; omega, by show 8 + (M'.2.2.1 + 11) + d'.2 ≤ R.locals; omega, by rw [hret]; exact hpay, hmem, hts _ hcd, hts _ hini, hmh, hpar', hts _ hlk⟩, hnm, hts _ hins⟩ hpre rfl (by rw [List.length_map]; exact hn) hL.1 rfl (lv_room (by rw [zk_cat_sum]; exact hst)) hd ⟨by omega, by omega⟩) kk
  · exact zk_run X hS h1 h2 h3 h4 hL hE hkc hks (va_runIN (As := av.map (zk_rv G)) (rest := st.map (zk_rv G)) (n := n) (bytes := M'.2.1) (maxL := M'.2.2.1) (host := host) ⟨X.1, X.2.1, X.2.2.2.2.1, X.2.2.2.2.2.1, hts⟩ hM
      ⟨⟨⟨rfl, rfl, by show d'.1 + 1 ≤ R.frames; omega, by show 8 + (M'.2.2.1 + 11) + d'.2 ≤ R.locals; omega, by rw [hret]; exact hpay, hmem⟩, hts _ hcd, hts _ hini, hmh, hpar', va_Nw.use rfl (X.2.2.2.2.2.2.2.2.2.2.2.2.2.2.2.2 _ hlk)⟩, hnm, hts _ hins⟩ hpre rfl (by rw [List.length_map]; exact hn) hL.1 rfl (lv_room (by rw [zk_cat_sum]; exact hst)) hd ⟨by omega, by omega⟩) kk
end ZkCalls
/-! from a walk to a contract -/
theorem zk_args_in (G : zk_G) : ∀ (av : List zk_V) (i k : Nat) (v : zk_V), av[k]? = some v → (i + k, zk_rv G v) ∈ lv_args i (av.map (zk_rv G))
  | [], _, _, _, h => by simp at h
  | a :: l, i, 0, v, h => by
    cases h
    exact List.mem_cons_self
  | a :: l, i, k + 1, v, h => by
    refine List.mem_cons_of_mem _ ?_
    rw [if_neg (by rw [zk_rv_cat]; decide)]
    have h2 := zk_args_in G l (i + 1) k v (by simpa using h)
    rw [show i + (k + 1) = i + 1 + k by omega]
    exact h2
theorem zk_sl_len (G : zk_G) (av : List zk_V) : (lg_sl (av.map (zk_rv G))).length = av.length := by
  induction av with
  | nil => rfl
  | cons a l ih =>
    have h2 : lg_sl ((a :: l).map (zk_rv G)) = [.val (zk_rv G a)] ++ lg_sl (l.map (zk_rv G)) := by
      show (List.flatMap _ _) = _
      rw [List.map_cons, List.flatMap_cons, if_neg (by rw [zk_rv_cat]; decide)]
      rfl
    rw [h2, List.length_append, ih]
    simp
    omega
theorem zk_K.of {G : zk_G} {M : zk_M} {d : Nat × Nat} {mc ms : Nat} {av : List zk_V} {h : zk_H} {Q : Option zk_V → zk_H → Prop} (hpl : plainName M.1.cls = true) (hlen : av.length ≤ M.2.2.1) {ls : List (Option zk_V)} (hls : ls = av.map some ++ List.replicate (M.2.2.1 - av.length) none)
    (w : zk_W G M d mc ms 0 ls [] h Q) : zk_K G M d mc ms av h Q := by
  refine Met.ofW (cc := M.2.1) (maxL := M.2.2.1) (ret := M.2.2.2) hpl rfl ?_
  intro p e s m args below meth c s₁ B hml hv
  obtain ⟨rfl, hs⟩ := hv
  obtain ⟨hP, hK, hX, hb, hLs, hN⟩ := hs
  have hts0 := atoms_spec (ws := .code M.1 M.2.1 M.2.2.1 M.2.2.2 :: zk_T) B.pre
  have hts : ∀ w ∈ zk_T, w.before ((av.map (zk_rv G)).toArray) s = true := fun w hw => hts0 w (List.mem_cons_of_mem _ hw)
  have hown : s.vm.findClass M.1.cls = some m.cls := findClass_of_methodNamed B.named
  have hlocks := B.notSynchronized
  have hnm : meth.name = M.1.name := (name_of_methodNamed B.named B.method).1
  have X : zk_X G M d p ({ frames := d.1, cells := mc, slots := ms, locals := d.2 } : Room) s m ((av.map (zk_rv G)).toArray) meth c := ⟨B.exec, B.bytes, B.returns, hlocks, hml, hown, hnm, hts, hK, hX, hb, hP.lt, Nat.le_refl _, Nat.le_refl _, hLs, hN⟩
  have hl := lv_entry (av.map (zk_rv G)) (n := M.2.2.1) (by rw [zk_sl_len]; exact hlen)
  rw [lg_entry_eq]
  refine w p e _ s m _ below meth c X s.heap [] 0 0 mc ms _ _ hP va_S.rf (by omega) (by omega) (Nat.le_refl _) (Nat.le_refl _) ⟨hl.1, hl.2.1, fun k v hk => ?_⟩ ?_
  · have hk2 : av[k]? = some v := by
      rw [hls] at hk
      by_cases hkl : k < av.length
      · rw [List.getElem?_append_left (by simpa using hkl), List.getElem?_map] at hk
        cases hx : av[k]? with
        | none => rw [hx] at hk; cases hk
        | some x => rw [hx] at hk; cases hk; rfl
      · rw [List.getElem?_append_right (by simpa using hkl)] at hk
        have h7 := List.mem_of_getElem? hk
        have h8 := List.eq_of_mem_replicate h7
        cases h8
    have h3 := zk_args_in G av 0 k v hk2
    rw [Nat.zero_add] at h3
    exact hl.2.2 _ h3
  · intro v h' H' locs' pc' ls' hq hP' hS' hR
    match v, hR with
    | none, hR => exact W.vret B.exec B.bytes (B.returns.trans hR.1) (fun t ht hW => ⟨⟨none, h', rfl, hq, zk_Sat X hP' hS' t ht hW⟩, hS'.F ht⟩) hS'.2.2 hR.2
    | some (.inl z), hR =>
      obtain ⟨hd, ty, hr, hn⟩ := hR
      exact W.zret B.exec B.bytes (B.returns.trans hr) hn (fun t ht hW => ⟨⟨some (.inl z), h', rfl, hq, zk_Sat X hP' hS' t ht hW⟩, hS'.F ht⟩) hS'.2.2 hd
    | some (.inr r), hR =>
      obtain ⟨hd, rt, hr, hrt⟩ := hR
      have hv : zk_rv G (.inr r) = .null ∨ ∃ a, zk_rv G (.inr r) = .ref a := by
        cases r with
        | none => exact Or.inl rfl
        | some k => exact Or.inr ⟨_, rfl⟩
      exact W.aret B.exec B.bytes (B.returns.trans hr) hrt hv (fun t ht hW => ⟨⟨some (.inr r), h', rfl, hq, zk_Sat X hP' hS' t ht hW⟩, hS'.F ht⟩) hS'.2.2 hd
/-! weakening -/
theorem zk_W.mono {G : zk_G} {M : zk_M} {d : Nat × Nat} {kc ks pc : Nat} {ls : List (Option zk_V)} {st : List zk_V} {h : zk_H} {Q Q' : Option zk_V → zk_H → Prop} (w : zk_W G M d kc ks pc ls st h Q) (hq : ∀ v h', Q v h' → Q' v h') : zk_W G M d kc ks pc ls st h Q' :=
  fun p e R s m args below meth c X H locs cells slots mc ms lsr Qs hP hS h1 h2 h3 h4 hL hE => w p e R s m args below meth c X H locs cells slots mc ms lsr Qs hP hS h1 h2 h3 h4 hL (fun v h' H' locs' pc' ls' hq' => hE v h' H' locs' pc' ls' (hq v h' hq'))
theorem zk_W.to {G : zk_G} {M : zk_M} {d : Nat × Nat} {kc ks pc : Nat} {ls ls' : List (Option zk_V)} {st st' : List zk_V} {h h' : zk_H} {Q : Option zk_V → zk_H → Prop} (e1 : ls = ls') (e2 : st = st') (e3 : h = h') (w : zk_W G M d kc ks pc ls' st' h' Q) : zk_W G M d kc ks pc ls st h Q := by
  subst e1; subst e2; subst e3; exact w
end
section
/-! numbers alone: sums, matches, the least cost and the first best act -/
def mt_sum (f : Nat → Int) : Nat → Int
  | 0 => 1
  | n + 1 => (mt_sum f n * 31 + f n) % 65521
theorem mt_sum_rg (f : Nat → Int) (n : Nat) : 0 ≤ mt_sum f n ∧ mt_sum f n < 65521 := by
  cases n with
  | zero =>
    show (0 : Int) ≤ 1 ∧ (1 : Int) < 65521
    omega
  | succ n =>
    show 0 ≤ (mt_sum f n * 31 + f n) % 65521 ∧ (mt_sum f n * 31 + f n) % 65521 < 65521
    omega
theorem mt_sum_congr {f g : Nat → Int} : ∀ {n : Nat}, (∀ j, j < n → f j = g j) → mt_sum f n = mt_sum g n
  | 0, _ => rfl
  | n + 1, h => by
    show (mt_sum f n * 31 + f n) % 65521 = (mt_sum g n * 31 + g n) % 65521
    rw [mt_sum_congr (fun j hj => h j (by omega)), h n (by omega)]
def mt_len (f g : Nat → Int) (i j : Nat) : Nat → Nat
  | 0 => 0
  | m + 1 => if f i = g j then mt_len f g (i + 1) (j + 1) m + 1 else 0
theorem mt_len_le (f g : Nat → Int) : ∀ (m i j : Nat), mt_len f g i j m ≤ m
  | 0, _, _ => Nat.le_refl 0
  | m + 1, i, j => by
    show (if f i = g j then mt_len f g (i + 1) (j + 1) m + 1 else 0) ≤ m + 1
    have := mt_len_le f g m (i + 1) (j + 1)
    split <;> omega
theorem mt_len_eq {f g : Nat → Int} : ∀ {m i j n : Nat}, n ≤ m → (∀ t, t < n → f (i + t) = g (j + t)) → (n = m ∨ f (i + n) ≠ g (j + n)) → mt_len f g i j m = n
  | 0, i, j, n, h, _, _ => by
    have : n = 0 := by omega
    subst this
    rfl
  | m + 1, i, j, 0, h, _, h2 => by
    show (if f i = g j then mt_len f g (i + 1) (j + 1) m + 1 else 0) = 0
    have h3 : f i ≠ g j := by
      rcases h2 with h2 | h2
      · omega
      · exact h2
    rw [if_neg h3]
  | m + 1, i, j, n + 1, h, h1, h2 => by
    show (if f i = g j then mt_len f g (i + 1) (j + 1) m + 1 else 0) = n + 1
    have h3 : f i = g j := h1 0 (by omega)
    have h4 : mt_len f g (i + 1) (j + 1) m = n := by
      refine mt_len_eq (by omega) (fun t ht => ?_) ?_
      · have := h1 (t + 1) (by omega)
        rw [show i + 1 + t = i + (t + 1) by omega, show j + 1 + t = j + (t + 1) by omega]
        exact this
      · rcases h2 with h2 | h2
        · exact Or.inl (by omega)
        · refine Or.inr ?_
          rw [show i + 1 + n = i + (n + 1) by omega, show j + 1 + n = j + (n + 1) by omega]
          exact h2
    rw [if_pos h3, h4]
theorem mt_len_lt {f g : Nat → Int} : ∀ {m i j t : Nat}, t < mt_len f g i j m → f (i + t) = g (j + t)
  | 0, i, j, t, h => absurd h (Nat.not_lt_zero t)
  | m + 1, i, j, t, h => by
    have h : t < (if f i = g j then mt_len f g (i + 1) (j + 1) m + 1 else 0) := h
    split at h
    next h3 =>
      cases t with
      | zero => exact h3
      | succ t =>
        have := mt_len_lt (f := f) (g := g) (m := m) (i := i + 1) (j := j + 1) (t := t) (by omega)
        rw [show i + (t + 1) = i + 1 + t by omega, show j + (t + 1) = j + 1 + t by omega]
        exact this
    next => omega
theorem mt_le_len {f g : Nat → Int} {m i j n : Nat} (h : n ≤ m) (h1 : ∀ t, t < n → f (i + t) = g (j + t)) : n ≤ mt_len f g i j m := by
  refine Classical.byContradiction fun hc => ?_
  have h2 : mt_len f g i j m < n := by omega
  have h3 := mt_len_eq (f := f) (g := g) (m := m) (i := i) (j := j) (n := mt_len f g i j m) (mt_len_le f g m i j) (fun t ht => mt_len_lt ht)
  have h4 : mt_len f g i j m = m ∨ f (i + mt_len f g i j m) ≠ g (j + mt_len f g i j m) := by
    refine Classical.byContradiction fun hd => ?_
    have h5 : mt_len f g i j m ≠ m := fun e => hd (Or.inl e)
    have h6 : f (i + mt_len f g i j m) = g (j + mt_len f g i j m) := Classical.byContradiction fun e => hd (Or.inr e)
    have key : ∀ (m i j n : Nat), n = mt_len f g i j m → n < m → f (i + n) ≠ g (j + n) := by
      intro m
      induction m with
      | zero => intro i j n _ h; omega
      | succ m ih =>
        intro i j n hn hm
        have hn : n = (if f i = g j then mt_len f g (i + 1) (j + 1) m + 1 else 0) := hn
        split at hn
        next h3 =>
          have := ih (i + 1) (j + 1) (n - 1) (by omega) (by omega)
          rw [show i + 1 + (n - 1) = i + n by omega, show j + 1 + (n - 1) = j + n by omega] at this
          exact this
        next h3 =>
          subst hn
          exact h3
    exact key m i j _ rfl (by have := mt_len_le f g m i j; omega) h6
  rcases h4 with h4 | h4
  · omega
  · exact h4 (h1 _ h2)
/-- an act k p n that makes the bytes of N from i on -/
def mt_ok (O : Nat → Int) (nO : Nat) (N : Nat → Int) (nN i k p n : Nat) : Prop := 1 ≤ n ∧ i + n ≤ nN ∧ ((k = 0 ∧ p + n ≤ nO ∧ ∀ t, t < n → O (p + t) = N (i + t)) ∨ (k = 1 ∧ p < i ∧ ∀ t, t < n → N (p + t) = N (i + t)) ∨ (k = 2 ∧ p = 0))
def mt_c (c : Nat → Int) (s k p n : Nat) : Int := if k = 0 then (if p = s then c 0 else c 0 + c 1) else if k = 1 then c 2 else c 3 + c 4 * n
def mt_s (s k p n : Nat) : Nat := if k = 0 then p + n else s
/-- the table L is the rest -/
def mt_rest (O : Nat → Int) (nO : Nat) (N : Nat → Int) (nN : Nat) (c : Nat → Int) (L : Nat → Nat → Int) : Prop :=
  (∀ s, s ≤ nO → L nN s = 0) ∧ ∀ i s, i < nN → s ≤ nO → (∀ k p n, mt_ok O nO N nN i k p n → L i s ≤ mt_c c s k p n + L (i + n) (mt_s s k p n)) ∧ ∃ k p n, mt_ok O nO N nN i k p n ∧ L i s = mt_c c s k p n + L (i + n) (mt_s s k p n)
theorem mt_s_le {O : Nat → Int} {nO : Nat} {N : Nat → Int} {nN i s k p n : Nat} (h : mt_ok O nO N nN i k p n) (hs : s ≤ nO) : mt_s s k p n ≤ nO := by
  unfold mt_s
  obtain ⟨h1, h2, ⟨h3, h4, -⟩ | ⟨h3, -⟩ | h3⟩ := h
  · rw [if_pos h3]; exact h4
  · rw [if_neg (by omega)]; exact hs
  · rw [if_neg (by omega)]; exact hs
theorem mt_ok_congr {O O' : Nat → Int} {nO : Nat} {N N' : Nat → Int} {nN i k p n : Nat} (hO : ∀ j, j < nO → O j = O' j) (hN : ∀ j, j < nN → N j = N' j) (h : mt_ok O nO N nN i k p n) : mt_ok O' nO N' nN i k p n := by
  obtain ⟨h1, h2, h3⟩ := h
  refine ⟨h1, h2, ?_⟩
  rcases h3 with ⟨h3, h4, h5⟩ | ⟨h3, h4, h5⟩ | h3
  · exact Or.inl ⟨h3, h4, fun t ht => by rw [← hO _ (by omega), ← hN _ (by omega)]; exact h5 t ht⟩
  · exact Or.inr (Or.inl ⟨h3, h4, fun t ht => by rw [← hN (p + t) (by omega), ← hN (i + t) (by omega)]; exact h5 t ht⟩)
  · exact Or.inr (Or.inr h3)
theorem mt_rest_congr {O O' : Nat → Int} {nO : Nat} {N N' : Nat → Int} {nN : Nat} {c c' : Nat → Int} {L : Nat → Nat → Int} (hO : ∀ j, j < nO → O j = O' j) (hN : ∀ j, j < nN → N j = N' j) (hc : ∀ j, j < 5 → c j = c' j) (h : mt_rest O nO N nN c L) : mt_rest O' nO N' nN c' L := by
  have e : ∀ s k p n, mt_c c s k p n = mt_c c' s k p n := fun s k p n => by
    unfold mt_c
    rw [hc 0 (by omega), hc 1 (by omega), hc 2 (by omega), hc 3 (by omega), hc 4 (by omega)]
  refine ⟨h.1, fun i s hi hs => ⟨fun k p n hk => ?_, ?_⟩⟩
  · rw [← e]
    exact (h.2 i s hi hs).1 k p n (mt_ok_congr (fun j hj => (hO j hj).symm) (fun j hj => (hN j hj).symm) hk)
  · obtain ⟨k, p, n, h1, h2⟩ := (h.2 i s hi hs).2
    exact ⟨k, p, n, mt_ok_congr hO hN h1, by rw [← e]; exact h2⟩
theorem mt_rest_uniq {O : Nat → Int} {nO : Nat} {N : Nat → Int} {nN : Nat} {c : Nat → Int} {L L' : Nat → Nat → Int} (h : mt_rest O nO N nN c L) (h' : mt_rest O nO N nN c L') : ∀ (r i s : Nat), i + r = nN → s ≤ nO → L i s = L' i s := by
  intro r
  induction r using Nat.strongRecOn with
  | ind r ih =>
    intro i s hi hs
    by_cases h0 : r = 0
    · subst h0
      have : i = nN := by omega
      subst this
      rw [h.1 s hs, h'.1 s hs]
    · obtain ⟨a1, k, p, n, a2, a3⟩ := h.2 i s (by omega) hs
      obtain ⟨b1, k', p', n', b2, b3⟩ := h'.2 i s (by omega) hs
      have c1 := b1 k p n a2
      have c2 := a1 k' p' n' b2
      have hn : 1 ≤ n ∧ i + n ≤ nN := ⟨a2.1, a2.2.1⟩
      have hn' : 1 ≤ n' ∧ i + n' ≤ nN := ⟨b2.1, b2.2.1⟩
      have d1 := ih (r - n) (by omega) (i + n) (mt_s s k p n) (by omega) (mt_s_le a2 hs)
      have d2 := ih (r - n') (by omega) (i + n') (mt_s s k' p' n') (by omega) (mt_s_le b2 hs)
      omega
/-- the first best act -/
def mt_best (O : Nat → Int) (nO : Nat) (N : Nat → Int) (nN : Nat) (c : Nat → Int) (L : Nat → Nat → Int) (i s k p n : Nat) : Prop :=
  mt_ok O nO N nN i k p n ∧ L i s = mt_c c s k p n + L (i + n) (mt_s s k p n) ∧
    ∀ k' p' n', mt_ok O nO N nN i k' p' n' → L i s = mt_c c s k' p' n' + L (i + n') (mt_s s k' p' n') → k < k' ∨ (k = k' ∧ (n' < n ∨ (n' = n ∧ p ≤ p')))
theorem mt_best_uniq {O : Nat → Int} {nO : Nat} {N : Nat → Int} {nN : Nat} {c : Nat → Int} {L : Nat → Nat → Int} {i s k p n k' p' n' : Nat} (h : mt_best O nO N nN c L i s k p n) (h' : mt_best O nO N nN c L i s k' p' n') : k = k' ∧ p = p' ∧ n = n' := by
  have h1 := h.2.2 k' p' n' h'.1 h'.2.1
  have h2 := h'.2.2 k p n h.1 h.2.1
  omega
theorem mt_best_congr {O O' : Nat → Int} {nO : Nat} {N N' : Nat → Int} {nN : Nat} {c c' : Nat → Int} {L L' : Nat → Nat → Int} {i s k p n : Nat} (hO : ∀ j, j < nO → O j = O' j) (hN : ∀ j, j < nN → N j = N' j) (hc : ∀ j, j < 5 → c j = c' j) (hL : ∀ i s, i ≤ nN → s ≤ nO → L i s = L' i s) (hi : i ≤ nN) (hs : s ≤ nO) (h : mt_best O nO N nN c L i s k p n) : mt_best O' nO N' nN c' L' i s k p n := by
  have e : ∀ s k p n, mt_c c s k p n = mt_c c' s k p n := fun s k p n => by
    unfold mt_c
    rw [hc 0 (by omega), hc 1 (by omega), hc 2 (by omega), hc 3 (by omega), hc 4 (by omega)]
  obtain ⟨h1, h2, h3⟩ := h
  refine ⟨mt_ok_congr hO hN h1, ?_, fun k' p' n' g1 g2 => ?_⟩
  · rw [← e, ← hL i s hi hs, ← hL _ _ h1.2.1 (mt_s_le h1 hs)]
    exact h2
  · have g3 := mt_ok_congr (fun j hj => (hO j hj).symm) (fun j hj => (hN j hj).symm) g1
    refine h3 k' p' n' g3 ?_
    rw [e, hL i s hi hs, hL _ _ g3.2.1 (mt_s_le g3 hs)]
    exact g2
end
section
abbrev mC_init : zk_M := (⟨"CopyInserts", "<init>", "()V"⟩, prog_1_method_1_code, 1, none)
abbrev mR_init : zk_M := (⟨"CopyInserts$Row", "<init>", "(I)V"⟩, prog_4_method_1_code, 2, none)
abbrev mN_init : zk_M := (⟨"CopyInserts$Numbers", "<init>", "()V"⟩, prog_3_method_1_code, 1, none)
abbrev mN_setFirstOnes : zk_M := (⟨"CopyInserts$Numbers", "setFirstOnes", "()V"⟩, prog_3_method_2_code, 1, none)
abbrev mN_set : zk_M := (⟨"CopyInserts$Numbers", "set", "(IIIII)V"⟩, prog_3_method_3_code, 6, none)
abbrev mA_init : zk_M := (⟨"CopyInserts$Acts", "<init>", "()V"⟩, prog_2_method_1_code, 1, none)
abbrev mS_init : zk_M := (⟨"CopyInserts$Search", "<init>", "(LCopyInserts$Row;LCopyInserts$Row;LCopyInserts$Numbers;)V"⟩, prog_5_method_1_code, 4, none)
abbrev mC_clear : zk_M := (⟨"CopyInserts", "clear", "()I"⟩, prog_1_method_2_code, 2, (some .int))
abbrev mR_length : zk_M := (⟨"CopyInserts$Row", "length", "()I"⟩, prog_4_method_2_code, 1, (some .int))
abbrev mR_dropAll : zk_M := (⟨"CopyInserts$Row", "dropAll", "()V"⟩, prog_4_method_9_code, 1, none)
abbrev mA_begin : zk_M := (⟨"CopyInserts$Acts", "begin", "(I)V"⟩, prog_2_method_2_code, 2, none)
abbrev mS_forget : zk_M := (⟨"CopyInserts$Search", "forget", "()V"⟩, prog_5_method_2_code, 1, none)
abbrev mC_put : zk_M := (⟨"CopyInserts", "put", "(II)I"⟩, prog_1_method_3_code, 4, (some .int))
abbrev mC_isText : zk_M := (⟨"CopyInserts", "isText", "(I)Z"⟩, prog_1_method_27_code, 1, (some .boolean))
abbrev mC_isByte : zk_M := (⟨"CopyInserts", "isByte", "(I)Z"⟩, prog_1_method_28_code, 1, (some .boolean))
abbrev mC_textOf : zk_M := (⟨"CopyInserts", "textOf", "(I)LCopyInserts$Row;"⟩, prog_1_method_30_code, 2, (some (.object "CopyInserts$Row")))
abbrev mR_isFull : zk_M := (⟨"CopyInserts$Row", "isFull", "()Z"⟩, prog_4_method_3_code, 1, (some .boolean))
abbrev mR_append : zk_M := (⟨"CopyInserts$Row", "append", "(I)V"⟩, prog_4_method_7_code, 2, none)
abbrev mC_cut : zk_M := (⟨"CopyInserts", "cut", "(II)I"⟩, prog_1_method_4_code, 4, (some .int))
abbrev mR_dropLast : zk_M := (⟨"CopyInserts$Row", "dropLast", "(I)V"⟩, prog_4_method_8_code, 2, none)
abbrev mC_turn : zk_M := (⟨"CopyInserts", "turn", "()I"⟩, prog_1_method_5_code, 1, (some .int))
abbrev mR_changeFor : zk_M := (⟨"CopyInserts$Row", "changeFor", "(LCopyInserts$Row;)V"⟩, prog_4_method_10_code, 4, none)
abbrev mC_costs : zk_M := (⟨"CopyInserts", "costs", "(IIIII)I"⟩, prog_1_method_6_code, 7, (some .int))
abbrev mC_isNumber : zk_M := (⟨"CopyInserts", "isNumber", "(I)Z"⟩, prog_1_method_29_code, 1, (some .boolean))
abbrev mN_countOthers : zk_M := (⟨"CopyInserts$Numbers", "countOthers", "(IIIII)I"⟩, prog_3_method_4_code, 6, (some .int))
abbrev mN_oneIfOther : zk_M := (⟨"CopyInserts$Numbers", "oneIfOther", "(II)I"⟩, prog_3_method_5_code, 2, (some .int))
abbrev mC_plan : zk_M := (⟨"CopyInserts", "plan", "()I"⟩, prog_1_method_7_code, 2, (some .int))
abbrev mR_sum : zk_M := (⟨"CopyInserts$Row", "sum", "()I"⟩, prog_4_method_11_code, 3, (some .int))
abbrev mS_begin : zk_M := (⟨"CopyInserts$Search", "begin", "()V"⟩, prog_5_method_9_code, 1, none)
abbrev mS_workOut : zk_M := (⟨"CopyInserts$Search", "workOut", "()V"⟩, prog_5_method_4_code, 3, none)
abbrev mS_workOutPlace : zk_M := (⟨"CopyInserts$Search", "workOutPlace", "(I)V"⟩, prog_5_method_5_code, 7, none)
abbrev mS_lengthenCopies : zk_M := (⟨"CopyInserts$Search", "lengthenCopies", "(I)I"⟩, prog_5_method_6_code, 5, (some .int))
abbrev mR_get : zk_M := (⟨"CopyInserts$Row", "get", "(I)I"⟩, prog_4_method_5_code, 2, (some .int))
abbrev mR_has : zk_M := (⟨"CopyInserts$Row", "has", "(I)Z"⟩, prog_4_method_4_code, 2, (some .boolean))
abbrev mS_leastFrom : zk_M := (⟨"CopyInserts$Search", "leastFrom", "(II)I"⟩, prog_5_method_3_code, 4, (some .int))
abbrev mS_longestAgain : zk_M := (⟨"CopyInserts$Search", "longestAgain", "(I)I"⟩, prog_5_method_7_code, 4, (some .int))
abbrev mR_countSame : zk_M := (⟨"CopyInserts$Row", "countSame", "(ILCopyInserts$Row;I)I"⟩, prog_4_method_12_code, 6, (some .int))
abbrev mS_leastBehindSelf : zk_M := (⟨"CopyInserts$Search", "leastBehindSelf", "(III)I"⟩, prog_5_method_8_code, 6, (some .int))
abbrev mS_findNext : zk_M := (⟨"CopyInserts$Search", "findNext", "()Z"⟩, prog_5_method_10_code, 1, (some .boolean))
abbrev mS_choose : zk_M := (⟨"CopyInserts$Search", "choose", "(II)V"⟩, prog_5_method_16_code, 4, none)
abbrev mS_chooseCopy : zk_M := (⟨"CopyInserts$Search", "chooseCopy", "(III)V"⟩, prog_5_method_17_code, 7, none)
abbrev mN_ofCopy : zk_M := (⟨"CopyInserts$Numbers", "ofCopy", "(II)I"⟩, prog_3_method_7_code, 3, (some .int))
abbrev mS_keep : zk_M := (⟨"CopyInserts$Search", "keep", "(III)V"⟩, prog_5_method_20_code, 4, none)
abbrev mS_chooseSelf : zk_M := (⟨"CopyInserts$Search", "chooseSelf", "(III)V"⟩, prog_5_method_18_code, 7, none)
abbrev mN_ofSelf : zk_M := (⟨"CopyInserts$Numbers", "ofSelf", "()I"⟩, prog_3_method_8_code, 1, (some .int))
abbrev mS_chooseLay : zk_M := (⟨"CopyInserts$Search", "chooseLay", "(III)V"⟩, prog_5_method_19_code, 5, none)
abbrev mN_ofLay : zk_M := (⟨"CopyInserts$Numbers", "ofLay", "(I)I"⟩, prog_3_method_9_code, 2, (some .int))
abbrev mC_takeFoundAct : zk_M := (⟨"CopyInserts", "takeFoundAct", "()V"⟩, prog_1_method_32_code, 2, none)
abbrev mS_foundKind : zk_M := (⟨"CopyInserts$Search", "foundKind", "()I"⟩, prog_5_method_11_code, 1, (some .int))
abbrev mS_foundPlace : zk_M := (⟨"CopyInserts$Search", "foundPlace", "()I"⟩, prog_5_method_12_code, 1, (some .int))
abbrev mS_foundCount : zk_M := (⟨"CopyInserts$Search", "foundCount", "()I"⟩, prog_5_method_13_code, 1, (some .int))
abbrev mA_append : zk_M := (⟨"CopyInserts$Acts", "append", "(III)V"⟩, prog_2_method_12_code, 4, none)
abbrev mA_isFull : zk_M := (⟨"CopyInserts$Acts", "isFull", "()Z"⟩, prog_2_method_5_code, 1, (some .boolean))
abbrev mA_openLay : zk_M := (⟨"CopyInserts$Acts", "openLay", "()V"⟩, prog_2_method_13_code, 1, none)
abbrev mS_foundAt : zk_M := (⟨"CopyInserts$Search", "foundAt", "()I"⟩, prog_5_method_14_code, 1, (some .int))
abbrev mA_layByte : zk_M := (⟨"CopyInserts$Acts", "layByte", "(I)V"⟩, prog_2_method_15_code, 2, none)
abbrev mA_takesByte : zk_M := (⟨"CopyInserts$Acts", "takesByte", "()Z"⟩, prog_2_method_14_code, 1, (some .boolean))
abbrev mA_kind : zk_M := (⟨"CopyInserts$Acts", "kind", "(I)I"⟩, prog_2_method_7_code, 2, (some .int))
abbrev mA_has : zk_M := (⟨"CopyInserts$Acts", "has", "(I)Z"⟩, prog_2_method_6_code, 2, (some .boolean))
abbrev mA_count : zk_M := (⟨"CopyInserts$Acts", "count", "(I)I"⟩, prog_2_method_8_code, 2, (some .int))
abbrev mA_length : zk_M := (⟨"CopyInserts$Acts", "length", "()I"⟩, prog_2_method_3_code, 1, (some .int))
abbrev mC_cost : zk_M := (⟨"CopyInserts", "cost", "()I"⟩, prog_1_method_8_code, 3, (some .int))
abbrev mC_costOf : zk_M := (⟨"CopyInserts", "costOf", "(I)I"⟩, prog_1_method_31_code, 2, (some .int))
abbrev mA_place : zk_M := (⟨"CopyInserts$Acts", "place", "(I)I"⟩, prog_2_method_9_code, 2, (some .int))
abbrev mA_spotAhead : zk_M := (⟨"CopyInserts$Acts", "spotAhead", "(I)I"⟩, prog_2_method_11_code, 3, (some .int))
abbrev mC_rest : zk_M := (⟨"CopyInserts", "rest", "(II)I"⟩, prog_1_method_9_code, 3, (some .int))
abbrev mC_match : zk_M := (⟨"CopyInserts", "match", "(III)I"⟩, prog_1_method_10_code, 4, (some .int))
abbrev mC_act : zk_M := (⟨"CopyInserts", "act", "(II)I"⟩, prog_1_method_11_code, 3, (some .int))
abbrev mC_laid : zk_M := (⟨"CopyInserts", "laid", "(II)I"⟩, prog_1_method_12_code, 3, (some .int))
abbrev mA_laidByte : zk_M := (⟨"CopyInserts$Acts", "laidByte", "(II)I"⟩, prog_2_method_10_code, 3, (some .int))
abbrev mC_empty : zk_M := (⟨"CopyInserts", "empty", "()I"⟩, prog_1_method_13_code, 2, (some .int))
abbrev mC_add : zk_M := (⟨"CopyInserts", "add", "(III)I"⟩, prog_1_method_14_code, 4, (some .int))
abbrev mC_lay : zk_M := (⟨"CopyInserts", "lay", "(I)I"⟩, prog_1_method_15_code, 2, (some .int))
abbrev mC_make : zk_M := (⟨"CopyInserts", "make", "()I"⟩, prog_1_method_16_code, 2, (some .int))
abbrev mA_sum : zk_M := (⟨"CopyInserts$Acts", "sum", "()I"⟩, prog_2_method_4_code, 1, (some .int))
abbrev mC_fails : zk_M := (⟨"CopyInserts", "fails", "(I)Z"⟩, prog_1_method_33_code, 3, (some .boolean))
abbrev mC_perform : zk_M := (⟨"CopyInserts", "perform", "(I)V"⟩, prog_1_method_34_code, 3, none)
abbrev mC_byteOf : zk_M := (⟨"CopyInserts", "byteOf", "(II)I"⟩, prog_1_method_35_code, 3, (some .int))
abbrev mC_made : zk_M := (⟨"CopyInserts", "made", "(I)I"⟩, prog_1_method_17_code, 2, (some .int))
abbrev mC_isNew : zk_M := (⟨"CopyInserts", "isNew", "()I"⟩, prog_1_method_18_code, 1, (some .int))
abbrev mR_isSame : zk_M := (⟨"CopyInserts$Row", "isSame", "(LCopyInserts$Row;)Z"⟩, prog_4_method_13_code, 2, (some .boolean))
abbrev mC_write : zk_M := (⟨"CopyInserts", "write", "()I"⟩, prog_1_method_19_code, 2, (some .int))
abbrev mC_writeAct : zk_M := (⟨"CopyInserts", "writeAct", "(I)V"⟩, prog_1_method_36_code, 3, none)
abbrev mC_code : zk_M := (⟨"CopyInserts", "code", "(I)I"⟩, prog_1_method_20_code, 2, (some .int))
abbrev mC_poke : zk_M := (⟨"CopyInserts", "poke", "(II)I"⟩, prog_1_method_21_code, 4, (some .int))
abbrev mR_set : zk_M := (⟨"CopyInserts$Row", "set", "(II)V"⟩, prog_4_method_6_code, 3, none)
abbrev mC_shorten : zk_M := (⟨"CopyInserts", "shorten", "(I)I"⟩, prog_1_method_22_code, 2, (some .int))
abbrev mC_read : zk_M := (⟨"CopyInserts", "read", "()I"⟩, prog_1_method_23_code, 4, (some .int))
abbrev mC_findWrongByte : zk_M := (⟨"CopyInserts", "findWrongByte", "()I"⟩, prog_1_method_37_code, 7, (some .int))
abbrev mC_readAct : zk_M := (⟨"CopyInserts", "readAct", "(I)I"⟩, prog_1_method_38_code, 5, (some .int))
abbrev mC_moved : zk_M := (⟨"CopyInserts", "moved", "(I)I"⟩, prog_1_method_24_code, 4, (some .int))
abbrev mS_wayOfFound : zk_M := (⟨"CopyInserts$Search", "wayOfFound", "()I"⟩, prog_5_method_15_code, 1, (some .int))
abbrev mI_compare : zk_M := (⟨"java/lang/Integer", "compare", "(II)I"⟩, prog_8_method_40_code, 2, (some .int))
abbrev mC_of : zk_M := (⟨"CopyInserts", "of", "(I)I"⟩, prog_1_method_25_code, 2, (some .int))
abbrev mN_get : zk_M := (⟨"CopyInserts$Numbers", "get", "(I)I"⟩, prog_3_method_6_code, 2, (some .int))
abbrev mC_at : zk_M := (⟨"CopyInserts", "at", "(II)I"⟩, prog_1_method_26_code, 3, (some .int))
abbrev mM_init : zk_M := (⟨"CopyInsertsModel", "<init>", "()V"⟩, prog_7_method_1_code, 1, none)
abbrev mM_begin : zk_M := (⟨"CopyInsertsModel", "begin", "()V"⟩, prog_7_method_2_code, 1, none)
abbrev mM_clear : zk_M := (⟨"CopyInsertsModel", "clear", "()I"⟩, prog_7_method_3_code, 2, (some .int))
abbrev mM_put : zk_M := (⟨"CopyInsertsModel", "put", "(II)I"⟩, prog_7_method_7_code, 3, (some .int))
abbrev mM_isIn : zk_M := (⟨"CopyInsertsModel", "isIn", "(III)Z"⟩, prog_7_method_4_code, 3, (some .boolean))
abbrev mM_cut : zk_M := (⟨"CopyInsertsModel", "cut", "(II)I"⟩, prog_7_method_8_code, 3, (some .int))
abbrev mM_turn : zk_M := (⟨"CopyInsertsModel", "turn", "()I"⟩, prog_7_method_9_code, 3, (some .int))
abbrev mM_costs : zk_M := (⟨"CopyInsertsModel", "costs", "(IIIII)I"⟩, prog_7_method_10_code, 7, (some .int))
abbrev mM_plan : zk_M := (⟨"CopyInsertsModel", "plan", "()I"⟩, prog_7_method_16_code, 4, (some .int))
abbrev mM_learn : zk_M := (⟨"CopyInsertsModel", "learn", "()V"⟩, prog_7_method_13_code, 6, none)
abbrev mM_like : zk_M := (⟨"CopyInsertsModel", "like", "(III)I"⟩, prog_7_method_12_code, 5, (some .int))
abbrev mM_byteOf : zk_M := (⟨"CopyInsertsModel", "byteOf", "(II)I"⟩, prog_7_method_5_code, 3, (some .int))
abbrev mM_costOf : zk_M := (⟨"CopyInsertsModel", "costOf", "(IIII)I"⟩, prog_7_method_11_code, 5, (some .int))
abbrev mM_better : zk_M := (⟨"CopyInsertsModel", "better", "(III)V"⟩, prog_7_method_14_code, 4, none)
abbrev mM_sumOf : zk_M := (⟨"CopyInsertsModel", "sumOf", "(I)I"⟩, prog_7_method_6_code, 4, (some .int))
abbrev mM_find : zk_M := (⟨"CopyInsertsModel", "find", "(II)V"⟩, prog_7_method_15_code, 10, none)
abbrev mM_cost : zk_M := (⟨"CopyInsertsModel", "cost", "()I"⟩, prog_7_method_19_code, 3, (some .int))
abbrev mM_costAt : zk_M := (⟨"CopyInsertsModel", "costAt", "(I)I"⟩, prog_7_method_18_code, 2, (some .int))
abbrev mM_spotOf : zk_M := (⟨"CopyInsertsModel", "spotOf", "(I)I"⟩, prog_7_method_17_code, 4, (some .int))
abbrev mM_rest : zk_M := (⟨"CopyInsertsModel", "rest", "(II)I"⟩, prog_7_method_20_code, 3, (some .int))
abbrev mM_match : zk_M := (⟨"CopyInsertsModel", "match", "(III)I"⟩, prog_7_method_21_code, 4, (some .int))
abbrev mM_act : zk_M := (⟨"CopyInsertsModel", "act", "(II)I"⟩, prog_7_method_22_code, 3, (some .int))
abbrev mM_laid : zk_M := (⟨"CopyInsertsModel", "laid", "(II)I"⟩, prog_7_method_23_code, 3, (some .int))
abbrev mM_empty : zk_M := (⟨"CopyInsertsModel", "empty", "()I"⟩, prog_7_method_24_code, 2, (some .int))
abbrev mM_add : zk_M := (⟨"CopyInsertsModel", "add", "(III)I"⟩, prog_7_method_25_code, 4, (some .int))
abbrev mM_lay : zk_M := (⟨"CopyInsertsModel", "lay", "(I)I"⟩, prog_7_method_26_code, 3, (some .int))
abbrev mM_make : zk_M := (⟨"CopyInsertsModel", "make", "()I"⟩, prog_7_method_27_code, 6, (some .int))
abbrev mM_made : zk_M := (⟨"CopyInsertsModel", "made", "(I)I"⟩, prog_7_method_28_code, 2, (some .int))
abbrev mM_isNew : zk_M := (⟨"CopyInsertsModel", "isNew", "()I"⟩, prog_7_method_29_code, 3, (some .int))
abbrev mM_write : zk_M := (⟨"CopyInsertsModel", "write", "()I"⟩, prog_7_method_31_code, 3, (some .int))
abbrev mM_code1 : zk_M := (⟨"CopyInsertsModel", "code1", "(I)V"⟩, prog_7_method_30_code, 2, none)
abbrev mM_code : zk_M := (⟨"CopyInsertsModel", "code", "(I)I"⟩, prog_7_method_32_code, 2, (some .int))
abbrev mM_poke : zk_M := (⟨"CopyInsertsModel", "poke", "(II)I"⟩, prog_7_method_33_code, 4, (some .int))
abbrev mM_shorten : zk_M := (⟨"CopyInsertsModel", "shorten", "(I)I"⟩, prog_7_method_34_code, 2, (some .int))
abbrev mM_read : zk_M := (⟨"CopyInsertsModel", "read", "()I"⟩, prog_7_method_36_code, 6, (some .int))
abbrev mM_faultOf : zk_M := (⟨"CopyInsertsModel", "faultOf", "()I"⟩, prog_7_method_35_code, 6, (some .int))
abbrev mM_moved : zk_M := (⟨"CopyInsertsModel", "moved", "(I)I"⟩, prog_7_method_37_code, 6, (some .int))
abbrev mM_of : zk_M := (⟨"CopyInsertsModel", "of", "(I)I"⟩, prog_7_method_38_code, 2, (some .int))
abbrev mM_at : zk_M := (⟨"CopyInsertsModel", "at", "(II)I"⟩, prog_7_method_39_code, 3, (some .int))
abbrev mL_law : zk_M := (⟨"CopyInsertsLaw", "law", "([I)Z"⟩, code, 4, (some .boolean))
theorem zoL_7 : zk_O "CopyInsertsLaw" 7 4 7 [.inr none, .inr none, .inr none, .inr none, .inr none, .inr none, .inr none] := by
  refine ⟨zR4, zT4, zY4, rfl, zi4, zy4, zk_mem 39 (by decide +kernel) rfl, zk_mem 40 (by decide +kernel) rfl, zk_mem 31 (by decide +kernel) rfl, fun G j hj => ?_⟩
  match j, hj with
  | 0, _ => rfl
  | 1, _ => rfl
  | 2, _ => rfl
  | 3, _ => rfl
  | 4, _ => rfl
  | 5, _ => rfl
  | 6, _ => rfl
  | k + 7, h => omega
set_option maxRecDepth 20000 in
theorem zbL_9 : zk_BI "CopyInsertsLaw" 9 mC_init 0 := ⟨⟨zk_mem 43 rfl rfl, zk_mem 31 (by decide +kernel) rfl, by decide +kernel, by decide +kernel, Or.inl (zk_mem 41 (by decide +kernel) rfl)⟩, zk_mem 42 (by decide +kernel) rfl, rfl, rfl⟩
theorem zoC_9 : zk_O "CopyInserts" 9 2 2 [.inr none, .inl 0] := by
  refine ⟨zR2, zT2, zY2, rfl, zi2, zy2, zk_mem 47 (by decide +kernel) rfl, zk_mem 48 (by decide +kernel) rfl, zk_mem 32 (by decide +kernel) rfl, fun G j hj => ?_⟩
  match j, hj with
  | 0, _ => rfl
  | 1, _ => rfl
  | k + 2, h => omega
set_option maxRecDepth 20000 in
theorem zbC_11 : zk_BI "CopyInserts" 11 mR_init 1 := ⟨⟨zk_mem 51 rfl rfl, zk_mem 32 (by decide +kernel) rfl, by decide +kernel, by decide +kernel, Or.inl (zk_mem 49 (by decide +kernel) rfl)⟩, zk_mem 50 (by decide +kernel) rfl, rfl, rfl⟩
theorem zfR_15 : zk_F "CopyInserts$Row" 15 2 0 (.array .int) false := ⟨zR2, zT2, 2, zY2, rfl, zi2, zy2, zn2, by decide, rfl, rfl, fun h => absurd h (by decide), Or.inl (zk_mem 56 (by decide +kernel) rfl)⟩
theorem zfR_21 : zk_F "CopyInserts$Row" 21 2 1 (.int) false := ⟨zR2, zT2, 2, zY2, rfl, zi2, zy2, zn2, by decide, rfl, rfl, fun h => absurd h (by decide), Or.inl (zk_mem 57 (by decide +kernel) rfl)⟩
theorem zoC_27 : zk_O "CopyInserts" 27 1 5 [.inl 0, .inl 0, .inl 0, .inl 0, .inl 0] := by
  refine ⟨zR1, zT1, zY1, rfl, zi1, zy1, zk_mem 64 (by decide +kernel) rfl, zk_mem 65 (by decide +kernel) rfl, zk_mem 34 (by decide +kernel) rfl, fun G j hj => ?_⟩
  match j, hj with
  | 0, _ => rfl
  | 1, _ => rfl
  | 2, _ => rfl
  | 3, _ => rfl
  | 4, _ => rfl
  | k + 5, h => omega
set_option maxRecDepth 20000 in
theorem zbC_29 : zk_BI "CopyInserts" 29 mN_init 0 := ⟨⟨zk_mem 68 rfl rfl, zk_mem 34 (by decide +kernel) rfl, by decide +kernel, by decide +kernel, Or.inl (zk_mem 66 (by decide +kernel) rfl)⟩, zk_mem 67 (by decide +kernel) rfl, rfl, rfl⟩
set_option maxRecDepth 20000 in
theorem zbN_9 : zk_BV "CopyInserts$Numbers" 9 1 mN_setFirstOnes 0 := ⟨⟨zk_mem 73 rfl rfl, zk_mem 34 (by decide +kernel) rfl, by decide +kernel, by decide +kernel, Or.inl (zk_mem 70 (by decide +kernel) rfl)⟩, zk_mem 71 (by decide +kernel) rfl, zk_mem 72 (by decide +kernel) rfl, zT1, 5, rfl⟩
set_option maxRecDepth 20000 in
theorem zbN_14 : zk_BV "CopyInserts$Numbers" 14 1 mN_set 5 := ⟨⟨zk_mem 77 rfl rfl, zk_mem 34 (by decide +kernel) rfl, by decide +kernel, by decide +kernel, Or.inl (zk_mem 74 (by decide +kernel) rfl)⟩, zk_mem 75 (by decide +kernel) rfl, zk_mem 76 (by decide +kernel) rfl, zT1, 5, rfl⟩
theorem zfN_18 : zk_F "CopyInserts$Numbers" 18 1 0 (.int) false := ⟨zR1, zT1, 5, zY1, rfl, zi1, zy1, zn1, by decide, rfl, rfl, fun h => absurd h (by decide), Or.inl (zk_mem 78 (by decide +kernel) rfl)⟩
theorem zfS_72 : zk_F "CopyInserts$Search" 72 1 0 (.int) false := ⟨zR1, zT1, 5, zY1, rfl, zi1, zy1, zn1, by decide, rfl, rfl, fun h => absurd h (by decide), Or.inr ⟨"CopyInserts", by decide +kernel⟩⟩
theorem zfN_22 : zk_F "CopyInserts$Numbers" 22 1 1 (.int) false := ⟨zR1, zT1, 5, zY1, rfl, zi1, zy1, zn1, by decide, rfl, rfl, fun h => absurd h (by decide), Or.inl (zk_mem 80 (by decide +kernel) rfl)⟩
theorem zfS_75 : zk_F "CopyInserts$Search" 75 1 1 (.int) false := ⟨zR1, zT1, 5, zY1, rfl, zi1, zy1, zn1, by decide, rfl, rfl, fun h => absurd h (by decide), Or.inr ⟨"CopyInserts", by decide +kernel⟩⟩
theorem zfN_25 : zk_F "CopyInserts$Numbers" 25 1 2 (.int) false := ⟨zR1, zT1, 5, zY1, rfl, zi1, zy1, zn1, by decide, rfl, rfl, fun h => absurd h (by decide), Or.inl (zk_mem 82 (by decide +kernel) rfl)⟩
theorem zfS_78 : zk_F "CopyInserts$Search" 78 1 2 (.int) false := ⟨zR1, zT1, 5, zY1, rfl, zi1, zy1, zn1, by decide, rfl, rfl, fun h => absurd h (by decide), Or.inr ⟨"CopyInserts", by decide +kernel⟩⟩
theorem zfN_28 : zk_F "CopyInserts$Numbers" 28 1 3 (.int) false := ⟨zR1, zT1, 5, zY1, rfl, zi1, zy1, zn1, by decide, rfl, rfl, fun h => absurd h (by decide), Or.inl (zk_mem 84 (by decide +kernel) rfl)⟩
theorem zfS_69 : zk_F "CopyInserts$Search" 69 1 3 (.int) false := ⟨zR1, zT1, 5, zY1, rfl, zi1, zy1, zn1, by decide, rfl, rfl, fun h => absurd h (by decide), Or.inr ⟨"CopyInserts", by decide +kernel⟩⟩
theorem zfN_31 : zk_F "CopyInserts$Numbers" 31 1 4 (.int) false := ⟨zR1, zT1, 5, zY1, rfl, zi1, zy1, zn1, by decide, rfl, rfl, fun h => absurd h (by decide), Or.inl (zk_mem 86 (by decide +kernel) rfl)⟩
theorem zfS_60 : zk_F "CopyInserts$Search" 60 1 4 (.int) false := ⟨zR1, zT1, 5, zY1, rfl, zi1, zy1, zn1, by decide, rfl, rfl, fun h => absurd h (by decide), Or.inr ⟨"CopyInserts", by decide +kernel⟩⟩
theorem zoC_34 : zk_O "CopyInserts" 34 0 7 [.inr none, .inr none, .inr none, .inr none, .inr none, .inl 0, .inl 0] := by
  refine ⟨zR0, zT0, zY0, rfl, zi0, zy0, zk_mem 99 (by decide +kernel) rfl, zk_mem 100 (by decide +kernel) rfl, zk_mem 35 (by decide +kernel) rfl, fun G j hj => ?_⟩
  match j, hj with
  | 0, _ => rfl
  | 1, _ => rfl
  | 2, _ => rfl
  | 3, _ => rfl
  | 4, _ => rfl
  | 5, _ => rfl
  | 6, _ => rfl
  | k + 7, h => omega
set_option maxRecDepth 20000 in
theorem zbC_36 : zk_BI "CopyInserts" 36 mA_init 0 := ⟨⟨zk_mem 103 rfl rfl, zk_mem 35 (by decide +kernel) rfl, by decide +kernel, by decide +kernel, Or.inr ⟨"CopyInserts", by decide +kernel⟩⟩, zk_mem 102 (by decide +kernel) rfl, rfl, rfl⟩
theorem zoA_24 : zk_O "CopyInserts$Acts" 24 2 2 [.inr none, .inl 0] := by
  refine ⟨zR2, zT2, zY2, rfl, zi2, zy2, zk_mem 105 (by decide +kernel) rfl, zk_mem 48 (by decide +kernel) rfl, zk_mem 32 (by decide +kernel) rfl, fun G j hj => ?_⟩
  match j, hj with
  | 0, _ => rfl
  | 1, _ => rfl
  | k + 2, h => omega
set_option maxRecDepth 20000 in
theorem zbA_26 : zk_BI "CopyInserts$Acts" 26 mR_init 1 := ⟨⟨zk_mem 51 rfl rfl, zk_mem 32 (by decide +kernel) rfl, by decide +kernel, by decide +kernel, Or.inl (zk_mem 106 (by decide +kernel) rfl)⟩, zk_mem 50 (by decide +kernel) rfl, rfl, rfl⟩
theorem zfA_9 : zk_F "CopyInserts$Acts" 9 0 0 (.array .int) true := ⟨zR0, zT0, 7, zY0, rfl, zi0, zy0, zn0, by decide, rfl, rfl, fun _ => rfl, Or.inl (zk_mem 107 (by decide +kernel) rfl)⟩
theorem zfA_15 : zk_F "CopyInserts$Acts" 15 0 1 (.array .int) true := ⟨zR0, zT0, 7, zY0, rfl, zi0, zy0, zn0, by decide, rfl, rfl, fun _ => rfl, Or.inl (zk_mem 108 (by decide +kernel) rfl)⟩
theorem zfA_18 : zk_F "CopyInserts$Acts" 18 0 2 (.array .int) true := ⟨zR0, zT0, 7, zY0, rfl, zi0, zy0, zn0, by decide, rfl, rfl, fun _ => rfl, Or.inl (zk_mem 109 (by decide +kernel) rfl)⟩
theorem zfA_21 : zk_F "CopyInserts$Acts" 21 0 3 (.array .int) true := ⟨zR0, zT0, 7, zY0, rfl, zi0, zy0, zn0, by decide, rfl, rfl, fun _ => rfl, Or.inl (zk_mem 110 (by decide +kernel) rfl)⟩
theorem zfA_29 : zk_F "CopyInserts$Acts" 29 0 4 (.object "CopyInserts$Row") true := ⟨zR0, zT0, 7, zY0, rfl, zi0, zy0, zn0, by decide, rfl, rfl, fun _ => rfl, Or.inl (zk_mem 111 (by decide +kernel) rfl)⟩
theorem zfA_37 : zk_F "CopyInserts$Acts" 37 0 5 (.int) false := ⟨zR0, zT0, 7, zY0, rfl, zi0, zy0, zn0, by decide, rfl, rfl, fun h => absurd h (by decide), Or.inl (zk_mem 112 (by decide +kernel) rfl)⟩
theorem zfA_33 : zk_F "CopyInserts$Acts" 33 0 6 (.int) false := ⟨zR0, zT0, 7, zY0, rfl, zi0, zy0, zn0, by decide, rfl, rfl, fun h => absurd h (by decide), Or.inl (zk_mem 113 (by decide +kernel) rfl)⟩
theorem zoC_41 : zk_O "CopyInserts" 41 3 13 [.inr none, .inr none, .inr none, .inr none, .inr none, .inr none, .inl 0, .inl 0, .inl 0, .inl 0, .inl 0, .inl 0, .inl 0] := by
  refine ⟨zR3, zT3, zY3, rfl, zi3, zy3, zk_mem 129 (by decide +kernel) rfl, zk_mem 130 (by decide +kernel) rfl, zk_mem 36 (by decide +kernel) rfl, fun G j hj => ?_⟩
  match j, hj with
  | 0, _ => rfl
  | 1, _ => rfl
  | 2, _ => rfl
  | 3, _ => rfl
  | 4, _ => rfl
  | 5, _ => rfl
  | 6, _ => rfl
  | 7, _ => rfl
  | 8, _ => rfl
  | 9, _ => rfl
  | 10, _ => rfl
  | 11, _ => rfl
  | 12, _ => rfl
  | k + 13, h => omega
set_option maxRecDepth 20000 in
theorem zbC_43 : zk_BI "CopyInserts" 43 mS_init 3 := ⟨⟨zk_mem 133 rfl rfl, zk_mem 36 (by decide +kernel) rfl, by decide +kernel, by decide +kernel, Or.inl (zk_mem 131 (by decide +kernel) rfl)⟩, zk_mem 132 (by decide +kernel) rfl, rfl, rfl⟩
theorem zfS_21 : zk_F "CopyInserts$Search" 21 3 0 (.object "CopyInserts$Row") true := ⟨zR3, zT3, 13, zY3, rfl, zi3, zy3, zn3, by decide, rfl, rfl, fun _ => rfl, Or.inl (zk_mem 135 (by decide +kernel) rfl)⟩
theorem zfS_25 : zk_F "CopyInserts$Search" 25 3 1 (.object "CopyInserts$Row") true := ⟨zR3, zT3, 13, zY3, rfl, zi3, zy3, zn3, by decide, rfl, rfl, fun _ => rfl, Or.inl (zk_mem 136 (by decide +kernel) rfl)⟩
theorem zfS_28 : zk_F "CopyInserts$Search" 28 3 2 (.object "CopyInserts$Numbers") true := ⟨zR3, zT3, 13, zY3, rfl, zi3, zy3, zn3, by decide, rfl, rfl, fun _ => rfl, Or.inl (zk_mem 137 (by decide +kernel) rfl)⟩
theorem zfS_11 : zk_F "CopyInserts$Search" 11 3 3 (.array .int) true := ⟨zR3, zT3, 13, zY3, rfl, zi3, zy3, zn3, by decide, rfl, rfl, fun _ => rfl, Or.inl (zk_mem 138 (by decide +kernel) rfl)⟩
theorem zfS_15 : zk_F "CopyInserts$Search" 15 3 4 (.array .int) true := ⟨zR3, zT3, 13, zY3, rfl, zi3, zy3, zn3, by decide, rfl, rfl, fun _ => rfl, Or.inl (zk_mem 139 (by decide +kernel) rfl)⟩
theorem zfS_18 : zk_F "CopyInserts$Search" 18 3 5 (.array .int) true := ⟨zR3, zT3, 13, zY3, rfl, zi3, zy3, zn3, by decide, rfl, rfl, fun _ => rfl, Or.inl (zk_mem 140 (by decide +kernel) rfl)⟩
theorem zfS_32 : zk_F "CopyInserts$Search" 32 3 6 (.boolean) false := ⟨zR3, zT3, 13, zY3, rfl, zi3, zy3, zn3, by decide, rfl, rfl, fun h => absurd h (by decide), Or.inl (zk_mem 141 (by decide +kernel) rfl)⟩
theorem zfS_98 : zk_F "CopyInserts$Search" 98 3 7 (.int) false := ⟨zR3, zT3, 13, zY3, rfl, zi3, zy3, zn3, by decide, rfl, rfl, fun h => absurd h (by decide), Or.inl (zk_mem 142 (by decide +kernel) rfl)⟩
theorem zfS_101 : zk_F "CopyInserts$Search" 101 3 8 (.int) false := ⟨zR3, zT3, 13, zY3, rfl, zi3, zy3, zn3, by decide, rfl, rfl, fun h => absurd h (by decide), Or.inl (zk_mem 143 (by decide +kernel) rfl)⟩
theorem zfS_114 : zk_F "CopyInserts$Search" 114 3 9 (.int) false := ⟨zR3, zT3, 13, zY3, rfl, zi3, zy3, zn3, by decide, rfl, rfl, fun h => absurd h (by decide), Or.inl (zk_mem 144 (by decide +kernel) rfl)⟩
theorem zfS_117 : zk_F "CopyInserts$Search" 117 3 10 (.int) false := ⟨zR3, zT3, 13, zY3, rfl, zi3, zy3, zn3, by decide, rfl, rfl, fun h => absurd h (by decide), Or.inl (zk_mem 145 (by decide +kernel) rfl)⟩
theorem zfS_111 : zk_F "CopyInserts$Search" 111 3 11 (.int) false := ⟨zR3, zT3, 13, zY3, rfl, zi3, zy3, zn3, by decide, rfl, rfl, fun h => absurd h (by decide), Or.inl (zk_mem 146 (by decide +kernel) rfl)⟩
theorem zfS_104 : zk_F "CopyInserts$Search" 104 3 12 (.int) false := ⟨zR3, zT3, 13, zY3, rfl, zi3, zy3, zn3, by decide, rfl, rfl, fun h => absurd h (by decide), Or.inl (zk_mem 147 (by decide +kernel) rfl)⟩
theorem zfC_14 : zk_F "CopyInserts" 14 4 0 (.object "CopyInserts$Row") true := ⟨zR4, zT4, 7, zY4, rfl, zi4, zy4, zn4, by decide, rfl, rfl, fun _ => rfl, Or.inl (zk_mem 175 (by decide +kernel) rfl)⟩
theorem zfC_18 : zk_F "CopyInserts" 18 4 1 (.object "CopyInserts$Row") true := ⟨zR4, zT4, 7, zY4, rfl, zi4, zy4, zn4, by decide, rfl, rfl, fun _ => rfl, Or.inl (zk_mem 176 (by decide +kernel) rfl)⟩
theorem zfC_21 : zk_F "CopyInserts" 21 4 2 (.object "CopyInserts$Row") true := ⟨zR4, zT4, 7, zY4, rfl, zi4, zy4, zn4, by decide, rfl, rfl, fun _ => rfl, Or.inl (zk_mem 177 (by decide +kernel) rfl)⟩
theorem zfC_24 : zk_F "CopyInserts" 24 4 3 (.object "CopyInserts$Row") true := ⟨zR4, zT4, 7, zY4, rfl, zi4, zy4, zn4, by decide, rfl, rfl, fun _ => rfl, Or.inl (zk_mem 178 (by decide +kernel) rfl)⟩
theorem zfC_30 : zk_F "CopyInserts" 30 4 4 (.object "CopyInserts$Numbers") true := ⟨zR4, zT4, 7, zY4, rfl, zi4, zy4, zn4, by decide, rfl, rfl, fun _ => rfl, Or.inl (zk_mem 179 (by decide +kernel) rfl)⟩
theorem zfC_37 : zk_F "CopyInserts" 37 4 5 (.object "CopyInserts$Acts") true := ⟨zR4, zT4, 7, zY4, rfl, zi4, zy4, zn4, by decide, rfl, rfl, fun _ => rfl, Or.inl (zk_mem 180 (by decide +kernel) rfl)⟩
theorem zfC_46 : zk_F "CopyInserts" 46 4 6 (.object "CopyInserts$Search") true := ⟨zR4, zT4, 7, zY4, rfl, zi4, zy4, zn4, by decide, rfl, rfl, fun _ => rfl, Or.inl (zk_mem 181 (by decide +kernel) rfl)⟩
set_option maxRecDepth 20000 in
theorem zbL_13 : zk_BV "CopyInsertsLaw" 13 4 mC_clear 0 := ⟨⟨zk_mem 200 rfl rfl, zk_mem 31 (by decide +kernel) rfl, by decide +kernel, by decide +kernel, Or.inl (zk_mem 197 (by decide +kernel) rfl)⟩, zk_mem 198 (by decide +kernel) rfl, zk_mem 199 (by decide +kernel) rfl, zT4, 7, rfl⟩
set_option maxRecDepth 20000 in
theorem zbC_50 : zk_BV "CopyInserts" 50 2 mR_length 0 := ⟨⟨zk_mem 204 rfl rfl, zk_mem 32 (by decide +kernel) rfl, by decide +kernel, by decide +kernel, Or.inl (zk_mem 201 (by decide +kernel) rfl)⟩, zk_mem 202 (by decide +kernel) rfl, zk_mem 203 (by decide +kernel) rfl, zT2, 2, rfl⟩
set_option maxRecDepth 20000 in
theorem zbC_54 : zk_BV "CopyInserts" 54 2 mR_dropAll 0 := ⟨⟨zk_mem 208 rfl rfl, zk_mem 32 (by decide +kernel) rfl, by decide +kernel, by decide +kernel, Or.inl (zk_mem 205 (by decide +kernel) rfl)⟩, zk_mem 206 (by decide +kernel) rfl, zk_mem 207 (by decide +kernel) rfl, zT2, 2, rfl⟩
set_option maxRecDepth 20000 in
theorem zbC_57 : zk_BV "CopyInserts" 57 1 mN_setFirstOnes 0 := ⟨⟨zk_mem 73 rfl rfl, zk_mem 34 (by decide +kernel) rfl, by decide +kernel, by decide +kernel, Or.inl (zk_mem 209 (by decide +kernel) rfl)⟩, zk_mem 71 (by decide +kernel) rfl, zk_mem 72 (by decide +kernel) rfl, zT1, 5, rfl⟩
set_option maxRecDepth 20000 in
theorem zbC_60 : zk_BV "CopyInserts" 60 0 mA_begin 1 := ⟨⟨zk_mem 213 rfl rfl, zk_mem 35 (by decide +kernel) rfl, by decide +kernel, by decide +kernel, Or.inl (zk_mem 210 (by decide +kernel) rfl)⟩, zk_mem 211 (by decide +kernel) rfl, zk_mem 212 (by decide +kernel) rfl, zT0, 7, rfl⟩
set_option maxRecDepth 20000 in
theorem zbA_40 : zk_BV "CopyInserts$Acts" 40 2 mR_dropAll 0 := ⟨⟨zk_mem 208 rfl rfl, zk_mem 32 (by decide +kernel) rfl, by decide +kernel, by decide +kernel, Or.inl (zk_mem 214 (by decide +kernel) rfl)⟩, zk_mem 206 (by decide +kernel) rfl, zk_mem 207 (by decide +kernel) rfl, zT2, 2, rfl⟩
set_option maxRecDepth 20000 in
theorem zbC_63 : zk_BV "CopyInserts" 63 3 mS_forget 0 := ⟨⟨zk_mem 218 rfl rfl, zk_mem 36 (by decide +kernel) rfl, by decide +kernel, by decide +kernel, Or.inl (zk_mem 215 (by decide +kernel) rfl)⟩, zk_mem 216 (by decide +kernel) rfl, zk_mem 217 (by decide +kernel) rfl, zT3, 13, rfl⟩
set_option maxRecDepth 20000 in
theorem zbL_18 : zk_BV "CopyInsertsLaw" 18 4 mC_put 2 := ⟨⟨zk_mem 222 rfl rfl, zk_mem 31 (by decide +kernel) rfl, by decide +kernel, by decide +kernel, Or.inl (zk_mem 219 (by decide +kernel) rfl)⟩, zk_mem 220 (by decide +kernel) rfl, zk_mem 221 (by decide +kernel) rfl, zT4, 7, rfl⟩
set_option maxRecDepth 20000 in
theorem zbC_66 : zk_BS "CopyInserts" 66 mC_isText 1 := ⟨⟨zk_mem 225 rfl rfl, zk_mem 31 (by decide +kernel) rfl, by decide +kernel, by decide +kernel, Or.inl (zk_mem 223 (by decide +kernel) rfl)⟩, zk_mem 224 (by decide +kernel) rfl⟩
set_option maxRecDepth 20000 in
theorem zbC_70 : zk_BS "CopyInserts" 70 mC_isByte 1 := ⟨⟨zk_mem 228 rfl rfl, zk_mem 31 (by decide +kernel) rfl, by decide +kernel, by decide +kernel, Or.inl (zk_mem 226 (by decide +kernel) rfl)⟩, zk_mem 227 (by decide +kernel) rfl⟩
set_option maxRecDepth 20000 in
theorem zbC_73 : zk_BV "CopyInserts" 73 4 mC_textOf 1 := ⟨⟨zk_mem 232 rfl rfl, zk_mem 31 (by decide +kernel) rfl, by decide +kernel, by decide +kernel, Or.inl (zk_mem 229 (by decide +kernel) rfl)⟩, zk_mem 231 (by decide +kernel) rfl, zk_mem 0 (by decide +kernel) rfl, zT4, 7, rfl⟩
set_option maxRecDepth 20000 in
theorem zbC_77 : zk_BV "CopyInserts" 77 2 mR_isFull 0 := ⟨⟨zk_mem 236 rfl rfl, zk_mem 32 (by decide +kernel) rfl, by decide +kernel, by decide +kernel, Or.inl (zk_mem 233 (by decide +kernel) rfl)⟩, zk_mem 234 (by decide +kernel) rfl, zk_mem 235 (by decide +kernel) rfl, zT2, 2, rfl⟩
set_option maxRecDepth 20000 in
theorem zbC_81 : zk_BV "CopyInserts" 81 2 mR_append 1 := ⟨⟨zk_mem 240 rfl rfl, zk_mem 32 (by decide +kernel) rfl, by decide +kernel, by decide +kernel, Or.inl (zk_mem 237 (by decide +kernel) rfl)⟩, zk_mem 238 (by decide +kernel) rfl, zk_mem 239 (by decide +kernel) rfl, zT2, 2, rfl⟩
set_option maxRecDepth 20000 in
theorem zbR_29 : zk_BV "CopyInserts$Row" 29 2 mR_isFull 0 := ⟨⟨zk_mem 236 rfl rfl, zk_mem 32 (by decide +kernel) rfl, by decide +kernel, by decide +kernel, Or.inl (zk_mem 241 (by decide +kernel) rfl)⟩, zk_mem 234 (by decide +kernel) rfl, zk_mem 235 (by decide +kernel) rfl, zT2, 2, rfl⟩
set_option maxRecDepth 20000 in
theorem zbL_23 : zk_BV "CopyInsertsLaw" 23 4 mC_cut 2 := ⟨⟨zk_mem 245 rfl rfl, zk_mem 31 (by decide +kernel) rfl, by decide +kernel, by decide +kernel, Or.inl (zk_mem 242 (by decide +kernel) rfl)⟩, zk_mem 243 (by decide +kernel) rfl, zk_mem 244 (by decide +kernel) rfl, zT4, 7, rfl⟩
set_option maxRecDepth 20000 in
theorem zbC_84 : zk_BV "CopyInserts" 84 2 mR_dropLast 1 := ⟨⟨zk_mem 249 rfl rfl, zk_mem 32 (by decide +kernel) rfl, by decide +kernel, by decide +kernel, Or.inl (zk_mem 246 (by decide +kernel) rfl)⟩, zk_mem 247 (by decide +kernel) rfl, zk_mem 248 (by decide +kernel) rfl, zT2, 2, rfl⟩
set_option maxRecDepth 20000 in
theorem zbL_27 : zk_BV "CopyInsertsLaw" 27 4 mC_turn 0 := ⟨⟨zk_mem 256 rfl rfl, zk_mem 31 (by decide +kernel) rfl, by decide +kernel, by decide +kernel, Or.inl (zk_mem 253 (by decide +kernel) rfl)⟩, zk_mem 254 (by decide +kernel) rfl, zk_mem 255 (by decide +kernel) rfl, zT4, 7, rfl⟩
set_option maxRecDepth 20000 in
theorem zbC_87 : zk_BV "CopyInserts" 87 2 mR_changeFor 1 := ⟨⟨zk_mem 260 rfl rfl, zk_mem 32 (by decide +kernel) rfl, by decide +kernel, by decide +kernel, Or.inl (zk_mem 257 (by decide +kernel) rfl)⟩, zk_mem 258 (by decide +kernel) rfl, zk_mem 259 (by decide +kernel) rfl, zT2, 2, rfl⟩
set_option maxRecDepth 20000 in
theorem zbL_31 : zk_BV "CopyInsertsLaw" 31 4 mC_costs 5 := ⟨⟨zk_mem 264 rfl rfl, zk_mem 31 (by decide +kernel) rfl, by decide +kernel, by decide +kernel, Or.inl (zk_mem 261 (by decide +kernel) rfl)⟩, zk_mem 262 (by decide +kernel) rfl, zk_mem 263 (by decide +kernel) rfl, zT4, 7, rfl⟩
set_option maxRecDepth 20000 in
theorem zbC_91 : zk_BS "CopyInserts" 91 mC_isNumber 1 := ⟨⟨zk_mem 267 rfl rfl, zk_mem 31 (by decide +kernel) rfl, by decide +kernel, by decide +kernel, Or.inl (zk_mem 265 (by decide +kernel) rfl)⟩, zk_mem 266 (by decide +kernel) rfl⟩
set_option maxRecDepth 20000 in
theorem zbC_94 : zk_BV "CopyInserts" 94 1 mN_countOthers 5 := ⟨⟨zk_mem 271 rfl rfl, zk_mem 34 (by decide +kernel) rfl, by decide +kernel, by decide +kernel, Or.inl (zk_mem 268 (by decide +kernel) rfl)⟩, zk_mem 269 (by decide +kernel) rfl, zk_mem 270 (by decide +kernel) rfl, zT1, 5, rfl⟩
set_option maxRecDepth 20000 in
theorem zbN_34 : zk_BS "CopyInserts$Numbers" 34 mN_oneIfOther 2 := ⟨⟨zk_mem 274 rfl rfl, zk_mem 34 (by decide +kernel) rfl, by decide +kernel, by decide +kernel, Or.inl (zk_mem 272 (by decide +kernel) rfl)⟩, zk_mem 273 (by decide +kernel) rfl⟩
set_option maxRecDepth 20000 in
theorem zbC_98 : zk_BV "CopyInserts" 98 1 mN_set 5 := ⟨⟨zk_mem 77 rfl rfl, zk_mem 34 (by decide +kernel) rfl, by decide +kernel, by decide +kernel, Or.inl (zk_mem 275 (by decide +kernel) rfl)⟩, zk_mem 75 (by decide +kernel) rfl, zk_mem 76 (by decide +kernel) rfl, zT1, 5, rfl⟩
set_option maxRecDepth 20000 in
theorem zbL_36 : zk_BV "CopyInsertsLaw" 36 4 mC_plan 0 := ⟨⟨zk_mem 279 rfl rfl, zk_mem 31 (by decide +kernel) rfl, by decide +kernel, by decide +kernel, Or.inl (zk_mem 276 (by decide +kernel) rfl)⟩, zk_mem 277 (by decide +kernel) rfl, zk_mem 278 (by decide +kernel) rfl, zT4, 7, rfl⟩
set_option maxRecDepth 20000 in
theorem zbC_102 : zk_BV "CopyInserts" 102 2 mR_sum 0 := ⟨⟨zk_mem 283 rfl rfl, zk_mem 32 (by decide +kernel) rfl, by decide +kernel, by decide +kernel, Or.inl (zk_mem 280 (by decide +kernel) rfl)⟩, zk_mem 281 (by decide +kernel) rfl, zk_mem 282 (by decide +kernel) rfl, zT2, 2, rfl⟩
theorem zcR_36 : Cond.constant "CopyInserts$Row" 36 (Int32.ofInt 65521) ∈ zk_T := zk_mem 284 (by decide +kernel) rfl
set_option maxRecDepth 20000 in
theorem zbC_105 : zk_BV "CopyInserts" 105 3 mS_begin 0 := ⟨⟨zk_mem 288 rfl rfl, zk_mem 36 (by decide +kernel) rfl, by decide +kernel, by decide +kernel, Or.inl (zk_mem 285 (by decide +kernel) rfl)⟩, zk_mem 286 (by decide +kernel) rfl, zk_mem 287 (by decide +kernel) rfl, zT3, 13, rfl⟩
set_option maxRecDepth 20000 in
theorem zbS_95 : zk_BV "CopyInserts$Search" 95 3 mS_workOut 0 := ⟨⟨zk_mem 292 rfl rfl, zk_mem 36 (by decide +kernel) rfl, by decide +kernel, by decide +kernel, Or.inl (zk_mem 289 (by decide +kernel) rfl)⟩, zk_mem 290 (by decide +kernel) rfl, zk_mem 291 (by decide +kernel) rfl, zT3, 13, rfl⟩
set_option maxRecDepth 20000 in
theorem zbS_37 : zk_BV "CopyInserts$Search" 37 2 mR_length 0 := ⟨⟨zk_mem 204 rfl rfl, zk_mem 32 (by decide +kernel) rfl, by decide +kernel, by decide +kernel, Or.inl (zk_mem 293 (by decide +kernel) rfl)⟩, zk_mem 202 (by decide +kernel) rfl, zk_mem 203 (by decide +kernel) rfl, zT2, 2, rfl⟩
theorem zcS_36 : Cond.constant "CopyInserts$Search" 36 (Int32.ofInt 1000000) ∈ zk_T := zk_mem 295 (by decide +kernel) rfl
set_option maxRecDepth 20000 in
theorem zbS_49 : zk_BV "CopyInserts$Search" 49 3 mS_workOutPlace 1 := ⟨⟨zk_mem 299 rfl rfl, zk_mem 36 (by decide +kernel) rfl, by decide +kernel, by decide +kernel, Or.inl (zk_mem 296 (by decide +kernel) rfl)⟩, zk_mem 298 (by decide +kernel) rfl, zk_mem 1 (by decide +kernel) rfl, zT3, 13, rfl⟩
set_option maxRecDepth 20000 in
theorem zbS_53 : zk_BV "CopyInserts$Search" 53 3 mS_lengthenCopies 1 := ⟨⟨zk_mem 303 rfl rfl, zk_mem 36 (by decide +kernel) rfl, by decide +kernel, by decide +kernel, Or.inl (zk_mem 300 (by decide +kernel) rfl)⟩, zk_mem 302 (by decide +kernel) rfl, zk_mem 2 (by decide +kernel) rfl, zT3, 13, rfl⟩
set_option maxRecDepth 20000 in
theorem zbS_85 : zk_BV "CopyInserts$Search" 85 2 mR_get 1 := ⟨⟨zk_mem 307 rfl rfl, zk_mem 32 (by decide +kernel) rfl, by decide +kernel, by decide +kernel, Or.inl (zk_mem 304 (by decide +kernel) rfl)⟩, zk_mem 305 (by decide +kernel) rfl, zk_mem 306 (by decide +kernel) rfl, zT2, 2, rfl⟩
set_option maxRecDepth 20000 in
theorem zbR_25 : zk_BV "CopyInserts$Row" 25 2 mR_has 1 := ⟨⟨zk_mem 311 rfl rfl, zk_mem 32 (by decide +kernel) rfl, by decide +kernel, by decide +kernel, Or.inl (zk_mem 308 (by decide +kernel) rfl)⟩, zk_mem 309 (by decide +kernel) rfl, zk_mem 310 (by decide +kernel) rfl, zT2, 2, rfl⟩
set_option maxRecDepth 20000 in
theorem zbS_66 : zk_BV "CopyInserts$Search" 66 3 mS_leastFrom 2 := ⟨⟨zk_mem 315 rfl rfl, zk_mem 36 (by decide +kernel) rfl, by decide +kernel, by decide +kernel, Or.inl (zk_mem 312 (by decide +kernel) rfl)⟩, zk_mem 313 (by decide +kernel) rfl, zk_mem 314 (by decide +kernel) rfl, zT3, 13, rfl⟩
set_option maxRecDepth 20000 in
theorem zbS_57 : zk_BV "CopyInserts$Search" 57 3 mS_longestAgain 1 := ⟨⟨zk_mem 319 rfl rfl, zk_mem 36 (by decide +kernel) rfl, by decide +kernel, by decide +kernel, Or.inl (zk_mem 316 (by decide +kernel) rfl)⟩, zk_mem 318 (by decide +kernel) rfl, zk_mem 3 (by decide +kernel) rfl, zT3, 13, rfl⟩
set_option maxRecDepth 20000 in
theorem zbS_88 : zk_BV "CopyInserts$Search" 88 2 mR_countSame 3 := ⟨⟨zk_mem 323 rfl rfl, zk_mem 32 (by decide +kernel) rfl, by decide +kernel, by decide +kernel, Or.inl (zk_mem 320 (by decide +kernel) rfl)⟩, zk_mem 321 (by decide +kernel) rfl, zk_mem 322 (by decide +kernel) rfl, zT2, 2, rfl⟩
set_option maxRecDepth 20000 in
theorem zbS_81 : zk_BV "CopyInserts$Search" 81 3 mS_leastBehindSelf 3 := ⟨⟨zk_mem 328 rfl rfl, zk_mem 36 (by decide +kernel) rfl, by decide +kernel, by decide +kernel, Or.inl (zk_mem 325 (by decide +kernel) rfl)⟩, zk_mem 327 (by decide +kernel) rfl, zk_mem 4 (by decide +kernel) rfl, zT3, 13, rfl⟩
set_option maxRecDepth 20000 in
theorem zbC_107 : zk_BV "CopyInserts" 107 3 mS_findNext 0 := ⟨⟨zk_mem 332 rfl rfl, zk_mem 36 (by decide +kernel) rfl, by decide +kernel, by decide +kernel, Or.inl (zk_mem 329 (by decide +kernel) rfl)⟩, zk_mem 330 (by decide +kernel) rfl, zk_mem 331 (by decide +kernel) rfl, zT3, 13, rfl⟩
set_option maxRecDepth 20000 in
theorem zbS_107 : zk_BV "CopyInserts$Search" 107 3 mS_choose 2 := ⟨⟨zk_mem 336 rfl rfl, zk_mem 36 (by decide +kernel) rfl, by decide +kernel, by decide +kernel, Or.inl (zk_mem 333 (by decide +kernel) rfl)⟩, zk_mem 335 (by decide +kernel) rfl, zk_mem 5 (by decide +kernel) rfl, zT3, 13, rfl⟩
set_option maxRecDepth 20000 in
theorem zbS_125 : zk_BV "CopyInserts$Search" 125 3 mS_chooseCopy 3 := ⟨⟨zk_mem 340 rfl rfl, zk_mem 36 (by decide +kernel) rfl, by decide +kernel, by decide +kernel, Or.inl (zk_mem 337 (by decide +kernel) rfl)⟩, zk_mem 339 (by decide +kernel) rfl, zk_mem 6 (by decide +kernel) rfl, zT3, 13, rfl⟩
set_option maxRecDepth 20000 in
theorem zbS_135 : zk_BV "CopyInserts$Search" 135 1 mN_ofCopy 2 := ⟨⟨zk_mem 344 rfl rfl, zk_mem 34 (by decide +kernel) rfl, by decide +kernel, by decide +kernel, Or.inl (zk_mem 341 (by decide +kernel) rfl)⟩, zk_mem 342 (by decide +kernel) rfl, zk_mem 343 (by decide +kernel) rfl, zT1, 5, rfl⟩
set_option maxRecDepth 20000 in
theorem zbS_138 : zk_BV "CopyInserts$Search" 138 3 mS_keep 3 := ⟨⟨zk_mem 348 rfl rfl, zk_mem 36 (by decide +kernel) rfl, by decide +kernel, by decide +kernel, Or.inl (zk_mem 345 (by decide +kernel) rfl)⟩, zk_mem 347 (by decide +kernel) rfl, zk_mem 7 (by decide +kernel) rfl, zT3, 13, rfl⟩
set_option maxRecDepth 20000 in
theorem zbS_129 : zk_BV "CopyInserts$Search" 129 3 mS_chooseSelf 3 := ⟨⟨zk_mem 352 rfl rfl, zk_mem 36 (by decide +kernel) rfl, by decide +kernel, by decide +kernel, Or.inl (zk_mem 349 (by decide +kernel) rfl)⟩, zk_mem 351 (by decide +kernel) rfl, zk_mem 8 (by decide +kernel) rfl, zT3, 13, rfl⟩
set_option maxRecDepth 20000 in
theorem zbS_141 : zk_BV "CopyInserts$Search" 141 1 mN_ofSelf 0 := ⟨⟨zk_mem 356 rfl rfl, zk_mem 34 (by decide +kernel) rfl, by decide +kernel, by decide +kernel, Or.inl (zk_mem 353 (by decide +kernel) rfl)⟩, zk_mem 354 (by decide +kernel) rfl, zk_mem 355 (by decide +kernel) rfl, zT1, 5, rfl⟩
set_option maxRecDepth 20000 in
theorem zbS_132 : zk_BV "CopyInserts$Search" 132 3 mS_chooseLay 3 := ⟨⟨zk_mem 360 rfl rfl, zk_mem 36 (by decide +kernel) rfl, by decide +kernel, by decide +kernel, Or.inl (zk_mem 357 (by decide +kernel) rfl)⟩, zk_mem 359 (by decide +kernel) rfl, zk_mem 9 (by decide +kernel) rfl, zT3, 13, rfl⟩
set_option maxRecDepth 20000 in
theorem zbS_144 : zk_BV "CopyInserts$Search" 144 1 mN_ofLay 1 := ⟨⟨zk_mem 364 rfl rfl, zk_mem 34 (by decide +kernel) rfl, by decide +kernel, by decide +kernel, Or.inl (zk_mem 361 (by decide +kernel) rfl)⟩, zk_mem 362 (by decide +kernel) rfl, zk_mem 363 (by decide +kernel) rfl, zT1, 5, rfl⟩
set_option maxRecDepth 20000 in
theorem zbC_110 : zk_BV "CopyInserts" 110 4 mC_takeFoundAct 0 := ⟨⟨zk_mem 368 rfl rfl, zk_mem 31 (by decide +kernel) rfl, by decide +kernel, by decide +kernel, Or.inl (zk_mem 365 (by decide +kernel) rfl)⟩, zk_mem 367 (by decide +kernel) rfl, zk_mem 10 (by decide +kernel) rfl, zT4, 7, rfl⟩
set_option maxRecDepth 20000 in
theorem zbC_203 : zk_BV "CopyInserts" 203 3 mS_foundKind 0 := ⟨⟨zk_mem 372 rfl rfl, zk_mem 36 (by decide +kernel) rfl, by decide +kernel, by decide +kernel, Or.inl (zk_mem 369 (by decide +kernel) rfl)⟩, zk_mem 370 (by decide +kernel) rfl, zk_mem 371 (by decide +kernel) rfl, zT3, 13, rfl⟩
set_option maxRecDepth 20000 in
theorem zbC_206 : zk_BV "CopyInserts" 206 3 mS_foundPlace 0 := ⟨⟨zk_mem 376 rfl rfl, zk_mem 36 (by decide +kernel) rfl, by decide +kernel, by decide +kernel, Or.inl (zk_mem 373 (by decide +kernel) rfl)⟩, zk_mem 374 (by decide +kernel) rfl, zk_mem 375 (by decide +kernel) rfl, zT3, 13, rfl⟩
set_option maxRecDepth 20000 in
theorem zbC_190 : zk_BV "CopyInserts" 190 3 mS_foundCount 0 := ⟨⟨zk_mem 380 rfl rfl, zk_mem 36 (by decide +kernel) rfl, by decide +kernel, by decide +kernel, Or.inl (zk_mem 377 (by decide +kernel) rfl)⟩, zk_mem 378 (by decide +kernel) rfl, zk_mem 379 (by decide +kernel) rfl, zT3, 13, rfl⟩
set_option maxRecDepth 20000 in
theorem zbC_149 : zk_BV "CopyInserts" 149 0 mA_append 3 := ⟨⟨zk_mem 384 rfl rfl, zk_mem 35 (by decide +kernel) rfl, by decide +kernel, by decide +kernel, Or.inl (zk_mem 381 (by decide +kernel) rfl)⟩, zk_mem 382 (by decide +kernel) rfl, zk_mem 383 (by decide +kernel) rfl, zT0, 7, rfl⟩
set_option maxRecDepth 20000 in
theorem zbA_57 : zk_BV "CopyInserts$Acts" 57 0 mA_isFull 0 := ⟨⟨zk_mem 388 rfl rfl, zk_mem 35 (by decide +kernel) rfl, by decide +kernel, by decide +kernel, Or.inl (zk_mem 385 (by decide +kernel) rfl)⟩, zk_mem 386 (by decide +kernel) rfl, zk_mem 387 (by decide +kernel) rfl, zT0, 7, rfl⟩
set_option maxRecDepth 20000 in
theorem zbA_61 : zk_BV "CopyInserts$Acts" 61 2 mR_length 0 := ⟨⟨zk_mem 204 rfl rfl, zk_mem 32 (by decide +kernel) rfl, by decide +kernel, by decide +kernel, Or.inl (zk_mem 389 (by decide +kernel) rfl)⟩, zk_mem 202 (by decide +kernel) rfl, zk_mem 203 (by decide +kernel) rfl, zT2, 2, rfl⟩
set_option maxRecDepth 20000 in
theorem zbC_155 : zk_BV "CopyInserts" 155 0 mA_openLay 0 := ⟨⟨zk_mem 393 rfl rfl, zk_mem 35 (by decide +kernel) rfl, by decide +kernel, by decide +kernel, Or.inl (zk_mem 390 (by decide +kernel) rfl)⟩, zk_mem 391 (by decide +kernel) rfl, zk_mem 392 (by decide +kernel) rfl, zT0, 7, rfl⟩
set_option maxRecDepth 20000 in
theorem zbA_65 : zk_BV "CopyInserts$Acts" 65 0 mA_append 3 := ⟨⟨zk_mem 384 rfl rfl, zk_mem 35 (by decide +kernel) rfl, by decide +kernel, by decide +kernel, Or.inl (zk_mem 394 (by decide +kernel) rfl)⟩, zk_mem 382 (by decide +kernel) rfl, zk_mem 383 (by decide +kernel) rfl, zT0, 7, rfl⟩
set_option maxRecDepth 20000 in
theorem zbC_209 : zk_BV "CopyInserts" 209 3 mS_foundAt 0 := ⟨⟨zk_mem 398 rfl rfl, zk_mem 36 (by decide +kernel) rfl, by decide +kernel, by decide +kernel, Or.inl (zk_mem 395 (by decide +kernel) rfl)⟩, zk_mem 396 (by decide +kernel) rfl, zk_mem 397 (by decide +kernel) rfl, zT3, 13, rfl⟩
set_option maxRecDepth 20000 in
theorem zbC_168 : zk_BV "CopyInserts" 168 2 mR_get 1 := ⟨⟨zk_mem 307 rfl rfl, zk_mem 32 (by decide +kernel) rfl, by decide +kernel, by decide +kernel, Or.inl (zk_mem 399 (by decide +kernel) rfl)⟩, zk_mem 305 (by decide +kernel) rfl, zk_mem 306 (by decide +kernel) rfl, zT2, 2, rfl⟩
set_option maxRecDepth 20000 in
theorem zbC_158 : zk_BV "CopyInserts" 158 0 mA_layByte 1 := ⟨⟨zk_mem 403 rfl rfl, zk_mem 35 (by decide +kernel) rfl, by decide +kernel, by decide +kernel, Or.inl (zk_mem 400 (by decide +kernel) rfl)⟩, zk_mem 401 (by decide +kernel) rfl, zk_mem 402 (by decide +kernel) rfl, zT0, 7, rfl⟩
set_option maxRecDepth 20000 in
theorem zbA_75 : zk_BV "CopyInserts$Acts" 75 0 mA_takesByte 0 := ⟨⟨zk_mem 407 rfl rfl, zk_mem 35 (by decide +kernel) rfl, by decide +kernel, by decide +kernel, Or.inl (zk_mem 404 (by decide +kernel) rfl)⟩, zk_mem 405 (by decide +kernel) rfl, zk_mem 406 (by decide +kernel) rfl, zT0, 7, rfl⟩
set_option maxRecDepth 20000 in
theorem zbA_69 : zk_BV "CopyInserts$Acts" 69 0 mA_kind 1 := ⟨⟨zk_mem 411 rfl rfl, zk_mem 35 (by decide +kernel) rfl, by decide +kernel, by decide +kernel, Or.inl (zk_mem 408 (by decide +kernel) rfl)⟩, zk_mem 409 (by decide +kernel) rfl, zk_mem 410 (by decide +kernel) rfl, zT0, 7, rfl⟩
set_option maxRecDepth 20000 in
theorem zbA_43 : zk_BV "CopyInserts$Acts" 43 0 mA_has 1 := ⟨⟨zk_mem 415 rfl rfl, zk_mem 35 (by decide +kernel) rfl, by decide +kernel, by decide +kernel, Or.inl (zk_mem 412 (by decide +kernel) rfl)⟩, zk_mem 413 (by decide +kernel) rfl, zk_mem 414 (by decide +kernel) rfl, zT0, 7, rfl⟩
set_option maxRecDepth 20000 in
theorem zbA_72 : zk_BV "CopyInserts$Acts" 72 0 mA_count 1 := ⟨⟨zk_mem 419 rfl rfl, zk_mem 35 (by decide +kernel) rfl, by decide +kernel, by decide +kernel, Or.inl (zk_mem 416 (by decide +kernel) rfl)⟩, zk_mem 417 (by decide +kernel) rfl, zk_mem 418 (by decide +kernel) rfl, zT0, 7, rfl⟩
set_option maxRecDepth 20000 in
theorem zbA_78 : zk_BV "CopyInserts$Acts" 78 2 mR_append 1 := ⟨⟨zk_mem 240 rfl rfl, zk_mem 32 (by decide +kernel) rfl, by decide +kernel, by decide +kernel, Or.inl (zk_mem 420 (by decide +kernel) rfl)⟩, zk_mem 238 (by decide +kernel) rfl, zk_mem 239 (by decide +kernel) rfl, zT2, 2, rfl⟩
set_option maxRecDepth 20000 in
theorem zbC_113 : zk_BV "CopyInserts" 113 0 mA_length 0 := ⟨⟨zk_mem 424 rfl rfl, zk_mem 35 (by decide +kernel) rfl, by decide +kernel, by decide +kernel, Or.inl (zk_mem 421 (by decide +kernel) rfl)⟩, zk_mem 422 (by decide +kernel) rfl, zk_mem 423 (by decide +kernel) rfl, zT0, 7, rfl⟩
set_option maxRecDepth 20000 in
theorem zbL_40 : zk_BV "CopyInsertsLaw" 40 4 mC_cost 0 := ⟨⟨zk_mem 428 rfl rfl, zk_mem 31 (by decide +kernel) rfl, by decide +kernel, by decide +kernel, Or.inl (zk_mem 425 (by decide +kernel) rfl)⟩, zk_mem 426 (by decide +kernel) rfl, zk_mem 427 (by decide +kernel) rfl, zT4, 7, rfl⟩
set_option maxRecDepth 20000 in
theorem zbC_114 : zk_BV "CopyInserts" 114 4 mC_costOf 1 := ⟨⟨zk_mem 432 rfl rfl, zk_mem 31 (by decide +kernel) rfl, by decide +kernel, by decide +kernel, Or.inl (zk_mem 429 (by decide +kernel) rfl)⟩, zk_mem 431 (by decide +kernel) rfl, zk_mem 11 (by decide +kernel) rfl, zT4, 7, rfl⟩
set_option maxRecDepth 20000 in
theorem zbC_133 : zk_BV "CopyInserts" 133 0 mA_kind 1 := ⟨⟨zk_mem 411 rfl rfl, zk_mem 35 (by decide +kernel) rfl, by decide +kernel, by decide +kernel, Or.inl (zk_mem 433 (by decide +kernel) rfl)⟩, zk_mem 409 (by decide +kernel) rfl, zk_mem 410 (by decide +kernel) rfl, zT0, 7, rfl⟩
set_option maxRecDepth 20000 in
theorem zbC_139 : zk_BV "CopyInserts" 139 0 mA_place 1 := ⟨⟨zk_mem 437 rfl rfl, zk_mem 35 (by decide +kernel) rfl, by decide +kernel, by decide +kernel, Or.inl (zk_mem 434 (by decide +kernel) rfl)⟩, zk_mem 435 (by decide +kernel) rfl, zk_mem 436 (by decide +kernel) rfl, zT0, 7, rfl⟩
set_option maxRecDepth 20000 in
theorem zbC_142 : zk_BV "CopyInserts" 142 0 mA_spotAhead 1 := ⟨⟨zk_mem 441 rfl rfl, zk_mem 35 (by decide +kernel) rfl, by decide +kernel, by decide +kernel, Or.inl (zk_mem 438 (by decide +kernel) rfl)⟩, zk_mem 439 (by decide +kernel) rfl, zk_mem 440 (by decide +kernel) rfl, zT0, 7, rfl⟩
set_option maxRecDepth 20000 in
theorem zbC_194 : zk_BV "CopyInserts" 194 1 mN_ofCopy 2 := ⟨⟨zk_mem 344 rfl rfl, zk_mem 34 (by decide +kernel) rfl, by decide +kernel, by decide +kernel, Or.inl (zk_mem 443 (by decide +kernel) rfl)⟩, zk_mem 342 (by decide +kernel) rfl, zk_mem 343 (by decide +kernel) rfl, zT1, 5, rfl⟩
set_option maxRecDepth 20000 in
theorem zbC_197 : zk_BV "CopyInserts" 197 1 mN_ofSelf 0 := ⟨⟨zk_mem 356 rfl rfl, zk_mem 34 (by decide +kernel) rfl, by decide +kernel, by decide +kernel, Or.inl (zk_mem 444 (by decide +kernel) rfl)⟩, zk_mem 354 (by decide +kernel) rfl, zk_mem 355 (by decide +kernel) rfl, zT1, 5, rfl⟩
set_option maxRecDepth 20000 in
theorem zbC_136 : zk_BV "CopyInserts" 136 0 mA_count 1 := ⟨⟨zk_mem 419 rfl rfl, zk_mem 35 (by decide +kernel) rfl, by decide +kernel, by decide +kernel, Or.inl (zk_mem 445 (by decide +kernel) rfl)⟩, zk_mem 417 (by decide +kernel) rfl, zk_mem 418 (by decide +kernel) rfl, zT0, 7, rfl⟩
set_option maxRecDepth 20000 in
theorem zbC_200 : zk_BV "CopyInserts" 200 1 mN_ofLay 1 := ⟨⟨zk_mem 364 rfl rfl, zk_mem 34 (by decide +kernel) rfl, by decide +kernel, by decide +kernel, Or.inl (zk_mem 446 (by decide +kernel) rfl)⟩, zk_mem 362 (by decide +kernel) rfl, zk_mem 363 (by decide +kernel) rfl, zT1, 5, rfl⟩
set_option maxRecDepth 20000 in
theorem zbL_44 : zk_BV "CopyInsertsLaw" 44 4 mC_rest 2 := ⟨⟨zk_mem 450 rfl rfl, zk_mem 31 (by decide +kernel) rfl, by decide +kernel, by decide +kernel, Or.inl (zk_mem 447 (by decide +kernel) rfl)⟩, zk_mem 448 (by decide +kernel) rfl, zk_mem 449 (by decide +kernel) rfl, zT4, 7, rfl⟩
set_option maxRecDepth 20000 in
theorem zbC_118 : zk_BV "CopyInserts" 118 3 mS_workOut 0 := ⟨⟨zk_mem 292 rfl rfl, zk_mem 36 (by decide +kernel) rfl, by decide +kernel, by decide +kernel, Or.inl (zk_mem 451 (by decide +kernel) rfl)⟩, zk_mem 290 (by decide +kernel) rfl, zk_mem 291 (by decide +kernel) rfl, zT3, 13, rfl⟩
set_option maxRecDepth 20000 in
theorem zbC_121 : zk_BV "CopyInserts" 121 3 mS_leastFrom 2 := ⟨⟨zk_mem 315 rfl rfl, zk_mem 36 (by decide +kernel) rfl, by decide +kernel, by decide +kernel, Or.inl (zk_mem 452 (by decide +kernel) rfl)⟩, zk_mem 313 (by decide +kernel) rfl, zk_mem 314 (by decide +kernel) rfl, zT3, 13, rfl⟩
set_option maxRecDepth 20000 in
theorem zbL_48 : zk_BV "CopyInsertsLaw" 48 4 mC_match 3 := ⟨⟨zk_mem 456 rfl rfl, zk_mem 31 (by decide +kernel) rfl, by decide +kernel, by decide +kernel, Or.inl (zk_mem 453 (by decide +kernel) rfl)⟩, zk_mem 454 (by decide +kernel) rfl, zk_mem 455 (by decide +kernel) rfl, zT4, 7, rfl⟩
set_option maxRecDepth 20000 in
theorem zbC_125 : zk_BV "CopyInserts" 125 2 mR_has 1 := ⟨⟨zk_mem 311 rfl rfl, zk_mem 32 (by decide +kernel) rfl, by decide +kernel, by decide +kernel, Or.inl (zk_mem 457 (by decide +kernel) rfl)⟩, zk_mem 309 (by decide +kernel) rfl, zk_mem 310 (by decide +kernel) rfl, zT2, 2, rfl⟩
set_option maxRecDepth 20000 in
theorem zbC_128 : zk_BV "CopyInserts" 128 2 mR_countSame 3 := ⟨⟨zk_mem 323 rfl rfl, zk_mem 32 (by decide +kernel) rfl, by decide +kernel, by decide +kernel, Or.inl (zk_mem 458 (by decide +kernel) rfl)⟩, zk_mem 321 (by decide +kernel) rfl, zk_mem 322 (by decide +kernel) rfl, zT2, 2, rfl⟩
set_option maxRecDepth 20000 in
theorem zbL_53 : zk_BV "CopyInsertsLaw" 53 4 mC_act 2 := ⟨⟨zk_mem 462 rfl rfl, zk_mem 31 (by decide +kernel) rfl, by decide +kernel, by decide +kernel, Or.inl (zk_mem 459 (by decide +kernel) rfl)⟩, zk_mem 460 (by decide +kernel) rfl, zk_mem 461 (by decide +kernel) rfl, zT4, 7, rfl⟩
set_option maxRecDepth 20000 in
theorem zbC_132 : zk_BV "CopyInserts" 132 0 mA_has 1 := ⟨⟨zk_mem 415 rfl rfl, zk_mem 35 (by decide +kernel) rfl, by decide +kernel, by decide +kernel, Or.inl (zk_mem 463 (by decide +kernel) rfl)⟩, zk_mem 413 (by decide +kernel) rfl, zk_mem 414 (by decide +kernel) rfl, zT0, 7, rfl⟩
set_option maxRecDepth 20000 in
theorem zbL_57 : zk_BV "CopyInsertsLaw" 57 4 mC_laid 2 := ⟨⟨zk_mem 467 rfl rfl, zk_mem 31 (by decide +kernel) rfl, by decide +kernel, by decide +kernel, Or.inl (zk_mem 464 (by decide +kernel) rfl)⟩, zk_mem 465 (by decide +kernel) rfl, zk_mem 466 (by decide +kernel) rfl, zT4, 7, rfl⟩
set_option maxRecDepth 20000 in
theorem zbC_145 : zk_BV "CopyInserts" 145 0 mA_laidByte 2 := ⟨⟨zk_mem 471 rfl rfl, zk_mem 35 (by decide +kernel) rfl, by decide +kernel, by decide +kernel, Or.inl (zk_mem 468 (by decide +kernel) rfl)⟩, zk_mem 469 (by decide +kernel) rfl, zk_mem 470 (by decide +kernel) rfl, zT0, 7, rfl⟩
set_option maxRecDepth 20000 in
theorem zbA_47 : zk_BV "CopyInserts$Acts" 47 2 mR_get 1 := ⟨⟨zk_mem 307 rfl rfl, zk_mem 32 (by decide +kernel) rfl, by decide +kernel, by decide +kernel, Or.inl (zk_mem 472 (by decide +kernel) rfl)⟩, zk_mem 305 (by decide +kernel) rfl, zk_mem 306 (by decide +kernel) rfl, zT2, 2, rfl⟩
set_option maxRecDepth 20000 in
theorem zbL_61 : zk_BV "CopyInsertsLaw" 61 4 mC_empty 0 := ⟨⟨zk_mem 476 rfl rfl, zk_mem 31 (by decide +kernel) rfl, by decide +kernel, by decide +kernel, Or.inl (zk_mem 473 (by decide +kernel) rfl)⟩, zk_mem 474 (by decide +kernel) rfl, zk_mem 475 (by decide +kernel) rfl, zT4, 7, rfl⟩
set_option maxRecDepth 20000 in
theorem zbL_65 : zk_BV "CopyInsertsLaw" 65 4 mC_add 3 := ⟨⟨zk_mem 480 rfl rfl, zk_mem 31 (by decide +kernel) rfl, by decide +kernel, by decide +kernel, Or.inl (zk_mem 477 (by decide +kernel) rfl)⟩, zk_mem 478 (by decide +kernel) rfl, zk_mem 479 (by decide +kernel) rfl, zT4, 7, rfl⟩
set_option maxRecDepth 20000 in
theorem zbC_148 : zk_BV "CopyInserts" 148 0 mA_isFull 0 := ⟨⟨zk_mem 388 rfl rfl, zk_mem 35 (by decide +kernel) rfl, by decide +kernel, by decide +kernel, Or.inl (zk_mem 481 (by decide +kernel) rfl)⟩, zk_mem 386 (by decide +kernel) rfl, zk_mem 387 (by decide +kernel) rfl, zT0, 7, rfl⟩
set_option maxRecDepth 20000 in
theorem zbL_69 : zk_BV "CopyInsertsLaw" 69 4 mC_lay 1 := ⟨⟨zk_mem 485 rfl rfl, zk_mem 31 (by decide +kernel) rfl, by decide +kernel, by decide +kernel, Or.inl (zk_mem 482 (by decide +kernel) rfl)⟩, zk_mem 483 (by decide +kernel) rfl, zk_mem 484 (by decide +kernel) rfl, zT4, 7, rfl⟩
set_option maxRecDepth 20000 in
theorem zbC_152 : zk_BV "CopyInserts" 152 0 mA_takesByte 0 := ⟨⟨zk_mem 407 rfl rfl, zk_mem 35 (by decide +kernel) rfl, by decide +kernel, by decide +kernel, Or.inl (zk_mem 486 (by decide +kernel) rfl)⟩, zk_mem 405 (by decide +kernel) rfl, zk_mem 406 (by decide +kernel) rfl, zT0, 7, rfl⟩
set_option maxRecDepth 20000 in
theorem zbL_74 : zk_BV "CopyInsertsLaw" 74 4 mC_make 0 := ⟨⟨zk_mem 490 rfl rfl, zk_mem 31 (by decide +kernel) rfl, by decide +kernel, by decide +kernel, Or.inl (zk_mem 487 (by decide +kernel) rfl)⟩, zk_mem 488 (by decide +kernel) rfl, zk_mem 489 (by decide +kernel) rfl, zT4, 7, rfl⟩
set_option maxRecDepth 20000 in
theorem zbC_161 : zk_BV "CopyInserts" 161 0 mA_sum 0 := ⟨⟨zk_mem 494 rfl rfl, zk_mem 35 (by decide +kernel) rfl, by decide +kernel, by decide +kernel, Or.inl (zk_mem 491 (by decide +kernel) rfl)⟩, zk_mem 492 (by decide +kernel) rfl, zk_mem 493 (by decide +kernel) rfl, zT0, 7, rfl⟩
set_option maxRecDepth 20000 in
theorem zbC_162 : zk_BV "CopyInserts" 162 4 mC_fails 1 := ⟨⟨zk_mem 498 rfl rfl, zk_mem 31 (by decide +kernel) rfl, by decide +kernel, by decide +kernel, Or.inl (zk_mem 495 (by decide +kernel) rfl)⟩, zk_mem 497 (by decide +kernel) rfl, zk_mem 12 (by decide +kernel) rfl, zT4, 7, rfl⟩
set_option maxRecDepth 20000 in
theorem zbC_165 : zk_BV "CopyInserts" 165 4 mC_perform 1 := ⟨⟨zk_mem 502 rfl rfl, zk_mem 31 (by decide +kernel) rfl, by decide +kernel, by decide +kernel, Or.inl (zk_mem 499 (by decide +kernel) rfl)⟩, zk_mem 501 (by decide +kernel) rfl, zk_mem 13 (by decide +kernel) rfl, zT4, 7, rfl⟩
set_option maxRecDepth 20000 in
theorem zbC_212 : zk_BV "CopyInserts" 212 4 mC_byteOf 2 := ⟨⟨zk_mem 506 rfl rfl, zk_mem 31 (by decide +kernel) rfl, by decide +kernel, by decide +kernel, Or.inl (zk_mem 503 (by decide +kernel) rfl)⟩, zk_mem 505 (by decide +kernel) rfl, zk_mem 14 (by decide +kernel) rfl, zT4, 7, rfl⟩
set_option maxRecDepth 20000 in
theorem zbL_78 : zk_BV "CopyInsertsLaw" 78 4 mC_made 1 := ⟨⟨zk_mem 510 rfl rfl, zk_mem 31 (by decide +kernel) rfl, by decide +kernel, by decide +kernel, Or.inl (zk_mem 507 (by decide +kernel) rfl)⟩, zk_mem 508 (by decide +kernel) rfl, zk_mem 509 (by decide +kernel) rfl, zT4, 7, rfl⟩
set_option maxRecDepth 20000 in
theorem zbL_82 : zk_BV "CopyInsertsLaw" 82 4 mC_isNew 0 := ⟨⟨zk_mem 514 rfl rfl, zk_mem 31 (by decide +kernel) rfl, by decide +kernel, by decide +kernel, Or.inl (zk_mem 511 (by decide +kernel) rfl)⟩, zk_mem 512 (by decide +kernel) rfl, zk_mem 513 (by decide +kernel) rfl, zT4, 7, rfl⟩
set_option maxRecDepth 20000 in
theorem zbC_171 : zk_BV "CopyInserts" 171 2 mR_isSame 1 := ⟨⟨zk_mem 518 rfl rfl, zk_mem 32 (by decide +kernel) rfl, by decide +kernel, by decide +kernel, Or.inl (zk_mem 515 (by decide +kernel) rfl)⟩, zk_mem 516 (by decide +kernel) rfl, zk_mem 517 (by decide +kernel) rfl, zT2, 2, rfl⟩
set_option maxRecDepth 20000 in
theorem zbR_37 : zk_BV "CopyInserts$Row" 37 2 mR_countSame 3 := ⟨⟨zk_mem 323 rfl rfl, zk_mem 32 (by decide +kernel) rfl, by decide +kernel, by decide +kernel, Or.inl (zk_mem 519 (by decide +kernel) rfl)⟩, zk_mem 321 (by decide +kernel) rfl, zk_mem 322 (by decide +kernel) rfl, zT2, 2, rfl⟩
set_option maxRecDepth 20000 in
theorem zbL_86 : zk_BV "CopyInsertsLaw" 86 4 mC_write 0 := ⟨⟨zk_mem 523 rfl rfl, zk_mem 31 (by decide +kernel) rfl, by decide +kernel, by decide +kernel, Or.inl (zk_mem 520 (by decide +kernel) rfl)⟩, zk_mem 521 (by decide +kernel) rfl, zk_mem 522 (by decide +kernel) rfl, zT4, 7, rfl⟩
set_option maxRecDepth 20000 in
theorem zbC_175 : zk_BV "CopyInserts" 175 4 mC_writeAct 1 := ⟨⟨zk_mem 527 rfl rfl, zk_mem 31 (by decide +kernel) rfl, by decide +kernel, by decide +kernel, Or.inl (zk_mem 524 (by decide +kernel) rfl)⟩, zk_mem 526 (by decide +kernel) rfl, zk_mem 15 (by decide +kernel) rfl, zT4, 7, rfl⟩
set_option maxRecDepth 20000 in
theorem zbL_90 : zk_BV "CopyInsertsLaw" 90 4 mC_code 1 := ⟨⟨zk_mem 531 rfl rfl, zk_mem 31 (by decide +kernel) rfl, by decide +kernel, by decide +kernel, Or.inl (zk_mem 528 (by decide +kernel) rfl)⟩, zk_mem 529 (by decide +kernel) rfl, zk_mem 530 (by decide +kernel) rfl, zT4, 7, rfl⟩
set_option maxRecDepth 20000 in
theorem zbL_94 : zk_BV "CopyInsertsLaw" 94 4 mC_poke 2 := ⟨⟨zk_mem 535 rfl rfl, zk_mem 31 (by decide +kernel) rfl, by decide +kernel, by decide +kernel, Or.inl (zk_mem 532 (by decide +kernel) rfl)⟩, zk_mem 533 (by decide +kernel) rfl, zk_mem 534 (by decide +kernel) rfl, zT4, 7, rfl⟩
set_option maxRecDepth 20000 in
theorem zbC_178 : zk_BV "CopyInserts" 178 2 mR_set 2 := ⟨⟨zk_mem 539 rfl rfl, zk_mem 32 (by decide +kernel) rfl, by decide +kernel, by decide +kernel, Or.inl (zk_mem 536 (by decide +kernel) rfl)⟩, zk_mem 537 (by decide +kernel) rfl, zk_mem 538 (by decide +kernel) rfl, zT2, 2, rfl⟩
set_option maxRecDepth 20000 in
theorem zbL_98 : zk_BV "CopyInsertsLaw" 98 4 mC_shorten 1 := ⟨⟨zk_mem 543 rfl rfl, zk_mem 31 (by decide +kernel) rfl, by decide +kernel, by decide +kernel, Or.inl (zk_mem 540 (by decide +kernel) rfl)⟩, zk_mem 541 (by decide +kernel) rfl, zk_mem 542 (by decide +kernel) rfl, zT4, 7, rfl⟩
set_option maxRecDepth 20000 in
theorem zbL_102 : zk_BV "CopyInsertsLaw" 102 4 mC_read 0 := ⟨⟨zk_mem 547 rfl rfl, zk_mem 31 (by decide +kernel) rfl, by decide +kernel, by decide +kernel, Or.inl (zk_mem 544 (by decide +kernel) rfl)⟩, zk_mem 545 (by decide +kernel) rfl, zk_mem 546 (by decide +kernel) rfl, zT4, 7, rfl⟩
set_option maxRecDepth 20000 in
theorem zbC_181 : zk_BV "CopyInserts" 181 4 mC_findWrongByte 0 := ⟨⟨zk_mem 551 rfl rfl, zk_mem 31 (by decide +kernel) rfl, by decide +kernel, by decide +kernel, Or.inl (zk_mem 548 (by decide +kernel) rfl)⟩, zk_mem 550 (by decide +kernel) rfl, zk_mem 16 (by decide +kernel) rfl, zT4, 7, rfl⟩
set_option maxRecDepth 20000 in
theorem zbC_184 : zk_BV "CopyInserts" 184 4 mC_readAct 1 := ⟨⟨zk_mem 555 rfl rfl, zk_mem 31 (by decide +kernel) rfl, by decide +kernel, by decide +kernel, Or.inl (zk_mem 552 (by decide +kernel) rfl)⟩, zk_mem 554 (by decide +kernel) rfl, zk_mem 17 (by decide +kernel) rfl, zT4, 7, rfl⟩
set_option maxRecDepth 20000 in
theorem zbL_106 : zk_BV "CopyInsertsLaw" 106 4 mC_moved 1 := ⟨⟨zk_mem 559 rfl rfl, zk_mem 31 (by decide +kernel) rfl, by decide +kernel, by decide +kernel, Or.inl (zk_mem 556 (by decide +kernel) rfl)⟩, zk_mem 557 (by decide +kernel) rfl, zk_mem 558 (by decide +kernel) rfl, zT4, 7, rfl⟩
set_option maxRecDepth 20000 in
theorem zbC_187 : zk_BV "CopyInserts" 187 3 mS_wayOfFound 0 := ⟨⟨zk_mem 563 rfl rfl, zk_mem 36 (by decide +kernel) rfl, by decide +kernel, by decide +kernel, Or.inl (zk_mem 560 (by decide +kernel) rfl)⟩, zk_mem 561 (by decide +kernel) rfl, zk_mem 562 (by decide +kernel) rfl, zT3, 13, rfl⟩
set_option maxRecDepth 20000 in
theorem zbS_120 : zk_BS "CopyInserts$Search" 120 mI_compare 2 := ⟨⟨zk_mem 566 rfl rfl, zk_mem 38 (by decide +kernel) rfl, by decide +kernel, by decide +kernel, Or.inl (zk_mem 564 (by decide +kernel) rfl)⟩, zk_mem 565 (by decide +kernel) rfl⟩
set_option maxRecDepth 20000 in
theorem zbL_110 : zk_BV "CopyInsertsLaw" 110 4 mC_of 1 := ⟨⟨zk_mem 570 rfl rfl, zk_mem 31 (by decide +kernel) rfl, by decide +kernel, by decide +kernel, Or.inl (zk_mem 567 (by decide +kernel) rfl)⟩, zk_mem 568 (by decide +kernel) rfl, zk_mem 569 (by decide +kernel) rfl, zT4, 7, rfl⟩
set_option maxRecDepth 20000 in
theorem zbC_193 : zk_BV "CopyInserts" 193 1 mN_get 1 := ⟨⟨zk_mem 574 rfl rfl, zk_mem 34 (by decide +kernel) rfl, by decide +kernel, by decide +kernel, Or.inl (zk_mem 571 (by decide +kernel) rfl)⟩, zk_mem 572 (by decide +kernel) rfl, zk_mem 573 (by decide +kernel) rfl, zT1, 5, rfl⟩
set_option maxRecDepth 20000 in
theorem zbL_114 : zk_BV "CopyInsertsLaw" 114 4 mC_at 2 := ⟨⟨zk_mem 578 rfl rfl, zk_mem 31 (by decide +kernel) rfl, by decide +kernel, by decide +kernel, Or.inl (zk_mem 575 (by decide +kernel) rfl)⟩, zk_mem 576 (by decide +kernel) rfl, zk_mem 577 (by decide +kernel) rfl, zT4, 7, rfl⟩
theorem zoL_10 : zk_O "CopyInsertsLaw" 10 5 22 [.inr none, .inr none, .inl 0, .inl 0, .inl 0, .inl 0, .inl 0, .inl 0, .inr none, .inr none, .inr none, .inr none, .inl 0, .inl 0, .inr none, .inl 0, .inr none, .inl 0, .inr none, .inl 0, .inl 0, .inl 0] := by
  refine ⟨zR5, zT5, zY5, rfl, zi5, zy5, zk_mem 579 (by decide +kernel) rfl, zk_mem 580 (by decide +kernel) rfl, zk_mem 37 (by decide +kernel) rfl, fun G j hj => ?_⟩
  match j, hj with
  | 0, _ => rfl
  | 1, _ => rfl
  | 2, _ => rfl
  | 3, _ => rfl
  | 4, _ => rfl
  | 5, _ => rfl
  | 6, _ => rfl
  | 7, _ => rfl
  | 8, _ => rfl
  | 9, _ => rfl
  | 10, _ => rfl
  | 11, _ => rfl
  | 12, _ => rfl
  | 13, _ => rfl
  | 14, _ => rfl
  | 15, _ => rfl
  | 16, _ => rfl
  | 17, _ => rfl
  | 18, _ => rfl
  | 19, _ => rfl
  | 20, _ => rfl
  | 21, _ => rfl
  | k + 22, h => omega
set_option maxRecDepth 20000 in
theorem zbL_12 : zk_BI "CopyInsertsLaw" 12 mM_init 0 := ⟨⟨zk_mem 583 rfl rfl, zk_mem 37 (by decide +kernel) rfl, by decide +kernel, by decide +kernel, Or.inl (zk_mem 581 (by decide +kernel) rfl)⟩, zk_mem 582 (by decide +kernel) rfl, rfl, rfl⟩
set_option maxRecDepth 20000 in
theorem zbM_37 : zk_BV "CopyInsertsModel" 37 5 mM_begin 0 := ⟨⟨zk_mem 588 rfl rfl, zk_mem 37 (by decide +kernel) rfl, by decide +kernel, by decide +kernel, Or.inl (zk_mem 585 (by decide +kernel) rfl)⟩, zk_mem 587 (by decide +kernel) rfl, zk_mem 18 (by decide +kernel) rfl, zT5, 22, rfl⟩
theorem zfM_7 : zk_F "CopyInsertsModel" 7 5 0 (.array .int) true := ⟨zR5, zT5, 22, zY5, rfl, zi5, zy5, zn5, by decide, rfl, rfl, fun _ => rfl, Or.inl (zk_mem 589 (by decide +kernel) rfl)⟩
theorem zfM_13 : zk_F "CopyInsertsModel" 13 5 1 (.array .int) true := ⟨zR5, zT5, 22, zY5, rfl, zi5, zy5, zn5, by decide, rfl, rfl, fun _ => rfl, Or.inl (zk_mem 590 (by decide +kernel) rfl)⟩
theorem zfM_40 : zk_F "CopyInsertsModel" 40 5 2 (.int) false := ⟨zR5, zT5, 22, zY5, rfl, zi5, zy5, zn5, by decide, rfl, rfl, fun h => absurd h (by decide), Or.inl (zk_mem 591 (by decide +kernel) rfl)⟩
theorem zfM_44 : zk_F "CopyInsertsModel" 44 5 3 (.int) false := ⟨zR5, zT5, 22, zY5, rfl, zi5, zy5, zn5, by decide, rfl, rfl, fun h => absurd h (by decide), Or.inl (zk_mem 592 (by decide +kernel) rfl)⟩
theorem zfM_47 : zk_F "CopyInsertsModel" 47 5 4 (.int) false := ⟨zR5, zT5, 22, zY5, rfl, zi5, zy5, zn5, by decide, rfl, rfl, fun h => absurd h (by decide), Or.inl (zk_mem 593 (by decide +kernel) rfl)⟩
theorem zfM_50 : zk_F "CopyInsertsModel" 50 5 5 (.int) false := ⟨zR5, zT5, 22, zY5, rfl, zi5, zy5, zn5, by decide, rfl, rfl, fun h => absurd h (by decide), Or.inl (zk_mem 594 (by decide +kernel) rfl)⟩
theorem zfM_53 : zk_F "CopyInsertsModel" 53 5 6 (.int) false := ⟨zR5, zT5, 22, zY5, rfl, zi5, zy5, zn5, by decide, rfl, rfl, fun h => absurd h (by decide), Or.inl (zk_mem 595 (by decide +kernel) rfl)⟩
theorem zfM_56 : zk_F "CopyInsertsModel" 56 5 7 (.int) false := ⟨zR5, zT5, 22, zY5, rfl, zi5, zy5, zn5, by decide, rfl, rfl, fun h => absurd h (by decide), Or.inl (zk_mem 596 (by decide +kernel) rfl)⟩
theorem zfM_16 : zk_F "CopyInsertsModel" 16 5 8 (.array .int) true := ⟨zR5, zT5, 22, zY5, rfl, zi5, zy5, zn5, by decide, rfl, rfl, fun _ => rfl, Or.inl (zk_mem 597 (by decide +kernel) rfl)⟩
theorem zfM_19 : zk_F "CopyInsertsModel" 19 5 9 (.array .int) true := ⟨zR5, zT5, 22, zY5, rfl, zi5, zy5, zn5, by decide, rfl, rfl, fun _ => rfl, Or.inl (zk_mem 598 (by decide +kernel) rfl)⟩
theorem zfM_22 : zk_F "CopyInsertsModel" 22 5 10 (.array .int) true := ⟨zR5, zT5, 22, zY5, rfl, zi5, zy5, zn5, by decide, rfl, rfl, fun _ => rfl, Or.inl (zk_mem 599 (by decide +kernel) rfl)⟩
theorem zfM_25 : zk_F "CopyInsertsModel" 25 5 11 (.array .int) true := ⟨zR5, zT5, 22, zY5, rfl, zi5, zy5, zn5, by decide, rfl, rfl, fun _ => rfl, Or.inl (zk_mem 600 (by decide +kernel) rfl)⟩
theorem zfM_59 : zk_F "CopyInsertsModel" 59 5 12 (.int) false := ⟨zR5, zT5, 22, zY5, rfl, zi5, zy5, zn5, by decide, rfl, rfl, fun h => absurd h (by decide), Or.inl (zk_mem 601 (by decide +kernel) rfl)⟩
theorem zfM_62 : zk_F "CopyInsertsModel" 62 5 13 (.int) false := ⟨zR5, zT5, 22, zY5, rfl, zi5, zy5, zn5, by decide, rfl, rfl, fun h => absurd h (by decide), Or.inl (zk_mem 602 (by decide +kernel) rfl)⟩
theorem zfM_28 : zk_F "CopyInsertsModel" 28 5 14 (.array .int) true := ⟨zR5, zT5, 22, zY5, rfl, zi5, zy5, zn5, by decide, rfl, rfl, fun _ => rfl, Or.inl (zk_mem 603 (by decide +kernel) rfl)⟩
theorem zfM_65 : zk_F "CopyInsertsModel" 65 5 15 (.int) false := ⟨zR5, zT5, 22, zY5, rfl, zi5, zy5, zn5, by decide, rfl, rfl, fun h => absurd h (by decide), Or.inl (zk_mem 604 (by decide +kernel) rfl)⟩
theorem zfM_31 : zk_F "CopyInsertsModel" 31 5 16 (.array .int) true := ⟨zR5, zT5, 22, zY5, rfl, zi5, zy5, zn5, by decide, rfl, rfl, fun _ => rfl, Or.inl (zk_mem 605 (by decide +kernel) rfl)⟩
theorem zfM_68 : zk_F "CopyInsertsModel" 68 5 17 (.boolean) false := ⟨zR5, zT5, 22, zY5, rfl, zi5, zy5, zn5, by decide, rfl, rfl, fun h => absurd h (by decide), Or.inl (zk_mem 606 (by decide +kernel) rfl)⟩
theorem zfM_34 : zk_F "CopyInsertsModel" 34 5 18 (.array .int) true := ⟨zR5, zT5, 22, zY5, rfl, zi5, zy5, zn5, by decide, rfl, rfl, fun _ => rfl, Or.inl (zk_mem 607 (by decide +kernel) rfl)⟩
theorem zfM_94 : zk_F "CopyInsertsModel" 94 5 19 (.int) false := ⟨zR5, zT5, 22, zY5, rfl, zi5, zy5, zn5, by decide, rfl, rfl, fun h => absurd h (by decide), Or.inl (zk_mem 608 (by decide +kernel) rfl)⟩
theorem zfM_97 : zk_F "CopyInsertsModel" 97 5 20 (.int) false := ⟨zR5, zT5, 22, zY5, rfl, zi5, zy5, zn5, by decide, rfl, rfl, fun h => absurd h (by decide), Or.inl (zk_mem 609 (by decide +kernel) rfl)⟩
theorem zfM_100 : zk_F "CopyInsertsModel" 100 5 21 (.int) false := ⟨zR5, zT5, 22, zY5, rfl, zi5, zy5, zn5, by decide, rfl, rfl, fun h => absurd h (by decide), Or.inl (zk_mem 610 (by decide +kernel) rfl)⟩
set_option maxRecDepth 20000 in
theorem zbL_17 : zk_BV "CopyInsertsLaw" 17 5 mM_clear 0 := ⟨⟨zk_mem 659 rfl rfl, zk_mem 37 (by decide +kernel) rfl, by decide +kernel, by decide +kernel, Or.inl (zk_mem 656 (by decide +kernel) rfl)⟩, zk_mem 657 (by decide +kernel) rfl, zk_mem 658 (by decide +kernel) rfl, zT5, 22, rfl⟩
set_option maxRecDepth 20000 in
theorem zbL_22 : zk_BV "CopyInsertsLaw" 22 5 mM_put 2 := ⟨⟨zk_mem 663 rfl rfl, zk_mem 37 (by decide +kernel) rfl, by decide +kernel, by decide +kernel, Or.inl (zk_mem 660 (by decide +kernel) rfl)⟩, zk_mem 661 (by decide +kernel) rfl, zk_mem 662 (by decide +kernel) rfl, zT5, 22, rfl⟩
set_option maxRecDepth 20000 in
theorem zbM_77 : zk_BS "CopyInsertsModel" 77 mM_isIn 3 := ⟨⟨zk_mem 666 rfl rfl, zk_mem 37 (by decide +kernel) rfl, by decide +kernel, by decide +kernel, Or.inl (zk_mem 664 (by decide +kernel) rfl)⟩, zk_mem 665 (by decide +kernel) rfl⟩
set_option maxRecDepth 20000 in
theorem zbL_26 : zk_BV "CopyInsertsLaw" 26 5 mM_cut 2 := ⟨⟨zk_mem 670 rfl rfl, zk_mem 37 (by decide +kernel) rfl, by decide +kernel, by decide +kernel, Or.inl (zk_mem 667 (by decide +kernel) rfl)⟩, zk_mem 668 (by decide +kernel) rfl, zk_mem 669 (by decide +kernel) rfl, zT5, 22, rfl⟩
set_option maxRecDepth 20000 in
theorem zbL_30 : zk_BV "CopyInsertsLaw" 30 5 mM_turn 0 := ⟨⟨zk_mem 674 rfl rfl, zk_mem 37 (by decide +kernel) rfl, by decide +kernel, by decide +kernel, Or.inl (zk_mem 671 (by decide +kernel) rfl)⟩, zk_mem 672 (by decide +kernel) rfl, zk_mem 673 (by decide +kernel) rfl, zT5, 22, rfl⟩
set_option maxRecDepth 20000 in
theorem zbL_35 : zk_BV "CopyInsertsLaw" 35 5 mM_costs 5 := ⟨⟨zk_mem 678 rfl rfl, zk_mem 37 (by decide +kernel) rfl, by decide +kernel, by decide +kernel, Or.inl (zk_mem 675 (by decide +kernel) rfl)⟩, zk_mem 676 (by decide +kernel) rfl, zk_mem 677 (by decide +kernel) rfl, zT5, 22, rfl⟩
set_option maxRecDepth 20000 in
theorem zbL_39 : zk_BV "CopyInsertsLaw" 39 5 mM_plan 0 := ⟨⟨zk_mem 682 rfl rfl, zk_mem 37 (by decide +kernel) rfl, by decide +kernel, by decide +kernel, Or.inl (zk_mem 679 (by decide +kernel) rfl)⟩, zk_mem 680 (by decide +kernel) rfl, zk_mem 681 (by decide +kernel) rfl, zT5, 22, rfl⟩
set_option maxRecDepth 20000 in
theorem zbM_103 : zk_BV "CopyInsertsModel" 103 5 mM_learn 0 := ⟨⟨zk_mem 686 rfl rfl, zk_mem 37 (by decide +kernel) rfl, by decide +kernel, by decide +kernel, Or.inl (zk_mem 683 (by decide +kernel) rfl)⟩, zk_mem 685 (by decide +kernel) rfl, zk_mem 19 (by decide +kernel) rfl, zT5, 22, rfl⟩
theorem zcM_81 : Cond.constant "CopyInsertsModel" 81 (Int32.ofInt 1000000) ∈ zk_T := zk_mem 687 (by decide +kernel) rfl
set_option maxRecDepth 20000 in
theorem zbM_82 : zk_BV "CopyInsertsModel" 82 5 mM_like 3 := ⟨⟨zk_mem 691 rfl rfl, zk_mem 37 (by decide +kernel) rfl, by decide +kernel, by decide +kernel, Or.inl (zk_mem 688 (by decide +kernel) rfl)⟩, zk_mem 690 (by decide +kernel) rfl, zk_mem 20 (by decide +kernel) rfl, zT5, 22, rfl⟩
set_option maxRecDepth 20000 in
theorem zbM_72 : zk_BV "CopyInsertsModel" 72 5 mM_byteOf 2 := ⟨⟨zk_mem 695 rfl rfl, zk_mem 37 (by decide +kernel) rfl, by decide +kernel, by decide +kernel, Or.inl (zk_mem 692 (by decide +kernel) rfl)⟩, zk_mem 694 (by decide +kernel) rfl, zk_mem 21 (by decide +kernel) rfl, zT5, 22, rfl⟩
set_option maxRecDepth 20000 in
theorem zbM_86 : zk_BV "CopyInsertsModel" 86 5 mM_costOf 4 := ⟨⟨zk_mem 699 rfl rfl, zk_mem 37 (by decide +kernel) rfl, by decide +kernel, by decide +kernel, Or.inl (zk_mem 696 (by decide +kernel) rfl)⟩, zk_mem 698 (by decide +kernel) rfl, zk_mem 22 (by decide +kernel) rfl, zT5, 22, rfl⟩
set_option maxRecDepth 20000 in
theorem zbM_90 : zk_BV "CopyInsertsModel" 90 5 mM_better 3 := ⟨⟨zk_mem 703 rfl rfl, zk_mem 37 (by decide +kernel) rfl, by decide +kernel, by decide +kernel, Or.inl (zk_mem 700 (by decide +kernel) rfl)⟩, zk_mem 702 (by decide +kernel) rfl, zk_mem 23 (by decide +kernel) rfl, zT5, 22, rfl⟩
set_option maxRecDepth 20000 in
theorem zbM_106 : zk_BV "CopyInsertsModel" 106 5 mM_sumOf 1 := ⟨⟨zk_mem 707 rfl rfl, zk_mem 37 (by decide +kernel) rfl, by decide +kernel, by decide +kernel, Or.inl (zk_mem 704 (by decide +kernel) rfl)⟩, zk_mem 706 (by decide +kernel) rfl, zk_mem 24 (by decide +kernel) rfl, zT5, 22, rfl⟩
theorem zcM_76 : Cond.constant "CopyInsertsModel" 76 (Int32.ofInt 65521) ∈ zk_T := zk_mem 708 (by decide +kernel) rfl
set_option maxRecDepth 20000 in
theorem zbM_110 : zk_BV "CopyInsertsModel" 110 5 mM_find 2 := ⟨⟨zk_mem 712 rfl rfl, zk_mem 37 (by decide +kernel) rfl, by decide +kernel, by decide +kernel, Or.inl (zk_mem 709 (by decide +kernel) rfl)⟩, zk_mem 711 (by decide +kernel) rfl, zk_mem 25 (by decide +kernel) rfl, zT5, 22, rfl⟩
set_option maxRecDepth 20000 in
theorem zbL_43 : zk_BV "CopyInsertsLaw" 43 5 mM_cost 0 := ⟨⟨zk_mem 716 rfl rfl, zk_mem 37 (by decide +kernel) rfl, by decide +kernel, by decide +kernel, Or.inl (zk_mem 713 (by decide +kernel) rfl)⟩, zk_mem 714 (by decide +kernel) rfl, zk_mem 715 (by decide +kernel) rfl, zT5, 22, rfl⟩
set_option maxRecDepth 20000 in
theorem zbM_117 : zk_BV "CopyInsertsModel" 117 5 mM_costAt 1 := ⟨⟨zk_mem 720 rfl rfl, zk_mem 37 (by decide +kernel) rfl, by decide +kernel, by decide +kernel, Or.inl (zk_mem 717 (by decide +kernel) rfl)⟩, zk_mem 719 (by decide +kernel) rfl, zk_mem 26 (by decide +kernel) rfl, zT5, 22, rfl⟩
set_option maxRecDepth 20000 in
theorem zbM_114 : zk_BV "CopyInsertsModel" 114 5 mM_spotOf 1 := ⟨⟨zk_mem 724 rfl rfl, zk_mem 37 (by decide +kernel) rfl, by decide +kernel, by decide +kernel, Or.inl (zk_mem 721 (by decide +kernel) rfl)⟩, zk_mem 723 (by decide +kernel) rfl, zk_mem 27 (by decide +kernel) rfl, zT5, 22, rfl⟩
set_option maxRecDepth 20000 in
theorem zbL_47 : zk_BV "CopyInsertsLaw" 47 5 mM_rest 2 := ⟨⟨zk_mem 728 rfl rfl, zk_mem 37 (by decide +kernel) rfl, by decide +kernel, by decide +kernel, Or.inl (zk_mem 725 (by decide +kernel) rfl)⟩, zk_mem 726 (by decide +kernel) rfl, zk_mem 727 (by decide +kernel) rfl, zT5, 22, rfl⟩
set_option maxRecDepth 20000 in
theorem zbL_52 : zk_BV "CopyInsertsLaw" 52 5 mM_match 3 := ⟨⟨zk_mem 732 rfl rfl, zk_mem 37 (by decide +kernel) rfl, by decide +kernel, by decide +kernel, Or.inl (zk_mem 729 (by decide +kernel) rfl)⟩, zk_mem 730 (by decide +kernel) rfl, zk_mem 731 (by decide +kernel) rfl, zT5, 22, rfl⟩
set_option maxRecDepth 20000 in
theorem zbL_56 : zk_BV "CopyInsertsLaw" 56 5 mM_act 2 := ⟨⟨zk_mem 736 rfl rfl, zk_mem 37 (by decide +kernel) rfl, by decide +kernel, by decide +kernel, Or.inl (zk_mem 733 (by decide +kernel) rfl)⟩, zk_mem 734 (by decide +kernel) rfl, zk_mem 735 (by decide +kernel) rfl, zT5, 22, rfl⟩
set_option maxRecDepth 20000 in
theorem zbL_60 : zk_BV "CopyInsertsLaw" 60 5 mM_laid 2 := ⟨⟨zk_mem 740 rfl rfl, zk_mem 37 (by decide +kernel) rfl, by decide +kernel, by decide +kernel, Or.inl (zk_mem 737 (by decide +kernel) rfl)⟩, zk_mem 738 (by decide +kernel) rfl, zk_mem 739 (by decide +kernel) rfl, zT5, 22, rfl⟩
set_option maxRecDepth 20000 in
theorem zbL_64 : zk_BV "CopyInsertsLaw" 64 5 mM_empty 0 := ⟨⟨zk_mem 744 rfl rfl, zk_mem 37 (by decide +kernel) rfl, by decide +kernel, by decide +kernel, Or.inl (zk_mem 741 (by decide +kernel) rfl)⟩, zk_mem 742 (by decide +kernel) rfl, zk_mem 743 (by decide +kernel) rfl, zT5, 22, rfl⟩
set_option maxRecDepth 20000 in
theorem zbL_68 : zk_BV "CopyInsertsLaw" 68 5 mM_add 3 := ⟨⟨zk_mem 748 rfl rfl, zk_mem 37 (by decide +kernel) rfl, by decide +kernel, by decide +kernel, Or.inl (zk_mem 745 (by decide +kernel) rfl)⟩, zk_mem 746 (by decide +kernel) rfl, zk_mem 747 (by decide +kernel) rfl, zT5, 22, rfl⟩
set_option maxRecDepth 20000 in
theorem zbL_73 : zk_BV "CopyInsertsLaw" 73 5 mM_lay 1 := ⟨⟨zk_mem 752 rfl rfl, zk_mem 37 (by decide +kernel) rfl, by decide +kernel, by decide +kernel, Or.inl (zk_mem 749 (by decide +kernel) rfl)⟩, zk_mem 750 (by decide +kernel) rfl, zk_mem 751 (by decide +kernel) rfl, zT5, 22, rfl⟩
set_option maxRecDepth 20000 in
theorem zbL_77 : zk_BV "CopyInsertsLaw" 77 5 mM_make 0 := ⟨⟨zk_mem 756 rfl rfl, zk_mem 37 (by decide +kernel) rfl, by decide +kernel, by decide +kernel, Or.inl (zk_mem 753 (by decide +kernel) rfl)⟩, zk_mem 754 (by decide +kernel) rfl, zk_mem 755 (by decide +kernel) rfl, zT5, 22, rfl⟩
set_option maxRecDepth 20000 in
theorem zbL_81 : zk_BV "CopyInsertsLaw" 81 5 mM_made 1 := ⟨⟨zk_mem 760 rfl rfl, zk_mem 37 (by decide +kernel) rfl, by decide +kernel, by decide +kernel, Or.inl (zk_mem 757 (by decide +kernel) rfl)⟩, zk_mem 758 (by decide +kernel) rfl, zk_mem 759 (by decide +kernel) rfl, zT5, 22, rfl⟩
set_option maxRecDepth 20000 in
theorem zbL_85 : zk_BV "CopyInsertsLaw" 85 5 mM_isNew 0 := ⟨⟨zk_mem 764 rfl rfl, zk_mem 37 (by decide +kernel) rfl, by decide +kernel, by decide +kernel, Or.inl (zk_mem 761 (by decide +kernel) rfl)⟩, zk_mem 762 (by decide +kernel) rfl, zk_mem 763 (by decide +kernel) rfl, zT5, 22, rfl⟩
set_option maxRecDepth 20000 in
theorem zbL_89 : zk_BV "CopyInsertsLaw" 89 5 mM_write 0 := ⟨⟨zk_mem 768 rfl rfl, zk_mem 37 (by decide +kernel) rfl, by decide +kernel, by decide +kernel, Or.inl (zk_mem 765 (by decide +kernel) rfl)⟩, zk_mem 766 (by decide +kernel) rfl, zk_mem 767 (by decide +kernel) rfl, zT5, 22, rfl⟩
set_option maxRecDepth 20000 in
theorem zbM_120 : zk_BV "CopyInsertsModel" 120 5 mM_code1 1 := ⟨⟨zk_mem 772 rfl rfl, zk_mem 37 (by decide +kernel) rfl, by decide +kernel, by decide +kernel, Or.inl (zk_mem 769 (by decide +kernel) rfl)⟩, zk_mem 771 (by decide +kernel) rfl, zk_mem 28 (by decide +kernel) rfl, zT5, 22, rfl⟩
set_option maxRecDepth 20000 in
theorem zbL_93 : zk_BV "CopyInsertsLaw" 93 5 mM_code 1 := ⟨⟨zk_mem 776 rfl rfl, zk_mem 37 (by decide +kernel) rfl, by decide +kernel, by decide +kernel, Or.inl (zk_mem 773 (by decide +kernel) rfl)⟩, zk_mem 774 (by decide +kernel) rfl, zk_mem 775 (by decide +kernel) rfl, zT5, 22, rfl⟩
set_option maxRecDepth 20000 in
theorem zbL_97 : zk_BV "CopyInsertsLaw" 97 5 mM_poke 2 := ⟨⟨zk_mem 780 rfl rfl, zk_mem 37 (by decide +kernel) rfl, by decide +kernel, by decide +kernel, Or.inl (zk_mem 777 (by decide +kernel) rfl)⟩, zk_mem 778 (by decide +kernel) rfl, zk_mem 779 (by decide +kernel) rfl, zT5, 22, rfl⟩
set_option maxRecDepth 20000 in
theorem zbL_101 : zk_BV "CopyInsertsLaw" 101 5 mM_shorten 1 := ⟨⟨zk_mem 784 rfl rfl, zk_mem 37 (by decide +kernel) rfl, by decide +kernel, by decide +kernel, Or.inl (zk_mem 781 (by decide +kernel) rfl)⟩, zk_mem 782 (by decide +kernel) rfl, zk_mem 783 (by decide +kernel) rfl, zT5, 22, rfl⟩
set_option maxRecDepth 20000 in
theorem zbL_105 : zk_BV "CopyInsertsLaw" 105 5 mM_read 0 := ⟨⟨zk_mem 788 rfl rfl, zk_mem 37 (by decide +kernel) rfl, by decide +kernel, by decide +kernel, Or.inl (zk_mem 785 (by decide +kernel) rfl)⟩, zk_mem 786 (by decide +kernel) rfl, zk_mem 787 (by decide +kernel) rfl, zT5, 22, rfl⟩
set_option maxRecDepth 20000 in
theorem zbM_124 : zk_BV "CopyInsertsModel" 124 5 mM_faultOf 0 := ⟨⟨zk_mem 792 rfl rfl, zk_mem 37 (by decide +kernel) rfl, by decide +kernel, by decide +kernel, Or.inl (zk_mem 789 (by decide +kernel) rfl)⟩, zk_mem 791 (by decide +kernel) rfl, zk_mem 29 (by decide +kernel) rfl, zT5, 22, rfl⟩
set_option maxRecDepth 20000 in
theorem zbL_109 : zk_BV "CopyInsertsLaw" 109 5 mM_moved 1 := ⟨⟨zk_mem 796 rfl rfl, zk_mem 37 (by decide +kernel) rfl, by decide +kernel, by decide +kernel, Or.inl (zk_mem 793 (by decide +kernel) rfl)⟩, zk_mem 794 (by decide +kernel) rfl, zk_mem 795 (by decide +kernel) rfl, zT5, 22, rfl⟩
set_option maxRecDepth 20000 in
theorem zbL_113 : zk_BV "CopyInsertsLaw" 113 5 mM_of 1 := ⟨⟨zk_mem 800 rfl rfl, zk_mem 37 (by decide +kernel) rfl, by decide +kernel, by decide +kernel, Or.inl (zk_mem 797 (by decide +kernel) rfl)⟩, zk_mem 798 (by decide +kernel) rfl, zk_mem 799 (by decide +kernel) rfl, zT5, 22, rfl⟩
set_option maxRecDepth 20000 in
theorem zbL_117 : zk_BV "CopyInsertsLaw" 117 5 mM_at 2 := ⟨⟨zk_mem 804 rfl rfl, zk_mem 37 (by decide +kernel) rfl, by decide +kernel, by decide +kernel, Or.inl (zk_mem 801 (by decide +kernel) rfl)⟩, zk_mem 802 (by decide +kernel) rfl, zk_mem 803 (by decide +kernel) rfl, zT5, 22, rfl⟩
theorem zw_arr : Cond.arrayClass .int ∈ zk_T := zk_mem 63 (by decide +kernel) rfl
theorem zw_oi : Cond.instanceMethod Lib.objectInit ∈ zk_T := zk_mem 45 (by decide +kernel) rfl
theorem zw_oc : Cond.code Lib.objectInit ⟨#[0xb1]⟩ 1 none ∈ zk_T := zk_mem 46 (by decide +kernel) rfl
theorem zw_mi : Cond.initialized "java/lang/Math" ∈ zk_T := zk_mem 33 (by decide +kernel) rfl
theorem zw_maxs : Cond.static Lib.Math.max.name ∈ zk_T := zk_mem 54 (by decide +kernel) rfl
theorem zw_maxc : Cond.code Lib.Math.max.name Lib.Math.max.code 2 (some .int) ∈ zk_T := zk_mem 55 (by decide +kernel) rfl
theorem zw_mins : Cond.static Lib.Math.min.name ∈ zk_T := zk_mem 251 (by decide +kernel) rfl
theorem zw_minc : Cond.code Lib.Math.min.name Lib.Math.min.code 2 (some .int) ∈ zk_T := zk_mem 252 (by decide +kernel) rfl
theorem zlC_3 : Cond.methodLink "CopyInserts" 3 Lib.objectInit ∈ zk_T := zk_mem 44 (by decide +kernel) rfl
theorem zlR_3 : Cond.methodLink "CopyInserts$Row" 3 Lib.objectInit ∈ zk_T := zk_mem 52 (by decide +kernel) rfl
theorem zlR_9 : Cond.methodLink "CopyInserts$Row" 9 Lib.Math.max.name ∈ zk_T := zk_mem 53 (by decide +kernel) rfl
theorem zlN_3 : Cond.methodLink "CopyInserts$Numbers" 3 Lib.objectInit ∈ zk_T := zk_mem 69 (by decide +kernel) rfl
theorem zlA_3 : Cond.methodLink "CopyInserts$Acts" 3 Lib.objectInit ∈ zk_T := zk_mem 104 (by decide +kernel) rfl
theorem zlS_3 : Cond.methodLink "CopyInserts$Search" 3 Lib.objectInit ∈ zk_T := zk_mem 134 (by decide +kernel) rfl
theorem zlR_33 : Cond.methodLink "CopyInserts$Row" 33 Lib.Math.min.name ∈ zk_T := zk_mem 250 (by decide +kernel) rfl
theorem zlS_43 : Cond.methodLink "CopyInserts$Search" 43 Lib.Math.min.name ∈ zk_T := zk_mem 294 (by decide +kernel) rfl
theorem zlS_92 : Cond.methodLink "CopyInserts$Search" 92 Lib.Math.max.name ∈ zk_T := zk_mem 324 (by decide +kernel) rfl
theorem zlA_51 : Cond.methodLink "CopyInserts$Acts" 51 Lib.Math.min.name ∈ zk_T := zk_mem 442 (by decide +kernel) rfl
theorem zlM_1 : Cond.methodLink "CopyInsertsModel" 1 Lib.objectInit ∈ zk_T := zk_mem 584 (by decide +kernel) rfl
end
section
theorem dR_init_0 : decode prog_4_method_1_code 0 = .ok (.aload_n 0, 1) := by decide +kernel
theorem dR_init_1 : decode prog_4_method_1_code 1 = .ok (.invokespecial 3, 3) := by decide +kernel
theorem dR_init_4 : decode prog_4_method_1_code 4 = .ok (.aload_n 0, 1) := by decide +kernel
theorem dR_init_5 : decode prog_4_method_1_code 5 = .ok (.iconst 0, 1) := by decide +kernel
theorem dR_init_6 : decode prog_4_method_1_code 6 = .ok (.iload_n 1, 1) := by decide +kernel
theorem dR_init_7 : decode prog_4_method_1_code 7 = .ok (.invokestatic 9, 3) := by decide +kernel
theorem dR_init_10 : decode prog_4_method_1_code 10 = .ok (.newarray .int, 2) := by decide +kernel
theorem dR_init_12 : decode prog_4_method_1_code 12 = .ok (.putfield 15, 3) := by decide +kernel
theorem dR_init_15 : decode prog_4_method_1_code 15 = .ok (.return_, 1) := by decide +kernel
theorem dN_init_0 : decode prog_3_method_1_code 0 = .ok (.aload_n 0, 1) := by decide +kernel
theorem dN_init_1 : decode prog_3_method_1_code 1 = .ok (.invokespecial 3, 3) := by decide +kernel
theorem dN_init_4 : decode prog_3_method_1_code 4 = .ok (.aload_n 0, 1) := by decide +kernel
theorem dN_init_5 : decode prog_3_method_1_code 5 = .ok (.invokevirtual 9, 3) := by decide +kernel
theorem dN_init_8 : decode prog_3_method_1_code 8 = .ok (.return_, 1) := by decide +kernel
theorem dN_setFirstOnes_0 : decode prog_3_method_2_code 0 = .ok (.aload_n 0, 1) := by decide +kernel
theorem dN_setFirstOnes_1 : decode prog_3_method_2_code 1 = .ok (.iconst 4, 1) := by decide +kernel
theorem dN_setFirstOnes_2 : decode prog_3_method_2_code 2 = .ok (.iconst 2, 1) := by decide +kernel
theorem dN_setFirstOnes_3 : decode prog_3_method_2_code 3 = .ok (.iconst 4, 1) := by decide +kernel
theorem dN_setFirstOnes_4 : decode prog_3_method_2_code 4 = .ok (.iconst 2, 1) := by decide +kernel
theorem dN_setFirstOnes_5 : decode prog_3_method_2_code 5 = .ok (.iconst 3, 1) := by decide +kernel
theorem dN_setFirstOnes_6 : decode prog_3_method_2_code 6 = .ok (.invokevirtual 14, 3) := by decide +kernel
theorem dN_setFirstOnes_9 : decode prog_3_method_2_code 9 = .ok (.return_, 1) := by decide +kernel
theorem dN_set_0 : decode prog_3_method_3_code 0 = .ok (.aload_n 0, 1) := by decide +kernel
theorem dN_set_1 : decode prog_3_method_3_code 1 = .ok (.iload_n 1, 1) := by decide +kernel
theorem dN_set_2 : decode prog_3_method_3_code 2 = .ok (.putfield 18, 3) := by decide +kernel
theorem dN_set_5 : decode prog_3_method_3_code 5 = .ok (.aload_n 0, 1) := by decide +kernel
theorem dN_set_6 : decode prog_3_method_3_code 6 = .ok (.iload_n 2, 1) := by decide +kernel
theorem dN_set_7 : decode prog_3_method_3_code 7 = .ok (.putfield 22, 3) := by decide +kernel
theorem dN_set_10 : decode prog_3_method_3_code 10 = .ok (.aload_n 0, 1) := by decide +kernel
theorem dN_set_11 : decode prog_3_method_3_code 11 = .ok (.iload_n 3, 1) := by decide +kernel
theorem dN_set_12 : decode prog_3_method_3_code 12 = .ok (.putfield 25, 3) := by decide +kernel
theorem dN_set_15 : decode prog_3_method_3_code 15 = .ok (.aload_n 0, 1) := by decide +kernel
theorem dN_set_16 : decode prog_3_method_3_code 16 = .ok (.iload 4, 2) := by decide +kernel
theorem dN_set_18 : decode prog_3_method_3_code 18 = .ok (.putfield 28, 3) := by decide +kernel
theorem dN_set_21 : decode prog_3_method_3_code 21 = .ok (.aload_n 0, 1) := by decide +kernel
theorem dN_set_22 : decode prog_3_method_3_code 22 = .ok (.iload 5, 2) := by decide +kernel
theorem dN_set_24 : decode prog_3_method_3_code 24 = .ok (.putfield 31, 3) := by decide +kernel
theorem dN_set_27 : decode prog_3_method_3_code 27 = .ok (.return_, 1) := by decide +kernel
theorem dA_init_0 : decode prog_2_method_1_code 0 = .ok (.aload_n 0, 1) := by decide +kernel
theorem dA_init_1 : decode prog_2_method_1_code 1 = .ok (.invokespecial 3, 3) := by decide +kernel
theorem dA_init_4 : decode prog_2_method_1_code 4 = .ok (.aload_n 0, 1) := by decide +kernel
theorem dA_init_5 : decode prog_2_method_1_code 5 = .ok (.bipush 100, 2) := by decide +kernel
theorem dA_init_7 : decode prog_2_method_1_code 7 = .ok (.newarray .int, 2) := by decide +kernel
theorem dA_init_9 : decode prog_2_method_1_code 9 = .ok (.putfield 9, 3) := by decide +kernel
theorem dA_init_12 : decode prog_2_method_1_code 12 = .ok (.aload_n 0, 1) := by decide +kernel
theorem dA_init_13 : decode prog_2_method_1_code 13 = .ok (.bipush 100, 2) := by decide +kernel
theorem dA_init_15 : decode prog_2_method_1_code 15 = .ok (.newarray .int, 2) := by decide +kernel
theorem dA_init_17 : decode prog_2_method_1_code 17 = .ok (.putfield 15, 3) := by decide +kernel
theorem dA_init_20 : decode prog_2_method_1_code 20 = .ok (.aload_n 0, 1) := by decide +kernel
theorem dA_init_21 : decode prog_2_method_1_code 21 = .ok (.bipush 100, 2) := by decide +kernel
theorem dA_init_23 : decode prog_2_method_1_code 23 = .ok (.newarray .int, 2) := by decide +kernel
theorem dA_init_25 : decode prog_2_method_1_code 25 = .ok (.putfield 18, 3) := by decide +kernel
theorem dA_init_28 : decode prog_2_method_1_code 28 = .ok (.aload_n 0, 1) := by decide +kernel
theorem dA_init_29 : decode prog_2_method_1_code 29 = .ok (.bipush 100, 2) := by decide +kernel
theorem dA_init_31 : decode prog_2_method_1_code 31 = .ok (.newarray .int, 2) := by decide +kernel
theorem dA_init_33 : decode prog_2_method_1_code 33 = .ok (.putfield 21, 3) := by decide +kernel
theorem dA_init_36 : decode prog_2_method_1_code 36 = .ok (.aload_n 0, 1) := by decide +kernel
theorem dA_init_37 : decode prog_2_method_1_code 37 = .ok (.new 24, 3) := by decide +kernel
theorem dA_init_40 : decode prog_2_method_1_code 40 = .ok (.dup, 1) := by decide +kernel
theorem dA_init_41 : decode prog_2_method_1_code 41 = .ok (.sipush 4000, 3) := by decide +kernel
theorem dA_init_44 : decode prog_2_method_1_code 44 = .ok (.invokespecial 26, 3) := by decide +kernel
theorem dA_init_47 : decode prog_2_method_1_code 47 = .ok (.putfield 29, 3) := by decide +kernel
theorem dA_init_50 : decode prog_2_method_1_code 50 = .ok (.aload_n 0, 1) := by decide +kernel
theorem dA_init_51 : decode prog_2_method_1_code 51 = .ok (.iconst 1, 1) := by decide +kernel
theorem dA_init_52 : decode prog_2_method_1_code 52 = .ok (.putfield 33, 3) := by decide +kernel
theorem dA_init_55 : decode prog_2_method_1_code 55 = .ok (.return_, 1) := by decide +kernel
theorem dR_length_0 : decode prog_4_method_2_code 0 = .ok (.aload_n 0, 1) := by decide +kernel
theorem dR_length_1 : decode prog_4_method_2_code 1 = .ok (.getfield 21, 3) := by decide +kernel
theorem dR_length_4 : decode prog_4_method_2_code 4 = .ok (.ireturn, 1) := by decide +kernel
theorem dR_dropAll_0 : decode prog_4_method_9_code 0 = .ok (.aload_n 0, 1) := by decide +kernel
theorem dR_dropAll_1 : decode prog_4_method_9_code 1 = .ok (.iconst 0, 1) := by decide +kernel
theorem dR_dropAll_2 : decode prog_4_method_9_code 2 = .ok (.putfield 21, 3) := by decide +kernel
theorem dR_dropAll_5 : decode prog_4_method_9_code 5 = .ok (.return_, 1) := by decide +kernel
theorem dA_begin_0 : decode prog_2_method_2_code 0 = .ok (.aload_n 0, 1) := by decide +kernel
theorem dA_begin_1 : decode prog_2_method_2_code 1 = .ok (.iconst 0, 1) := by decide +kernel
theorem dA_begin_2 : decode prog_2_method_2_code 2 = .ok (.putfield 37, 3) := by decide +kernel
theorem dA_begin_5 : decode prog_2_method_2_code 5 = .ok (.aload_n 0, 1) := by decide +kernel
theorem dA_begin_6 : decode prog_2_method_2_code 6 = .ok (.getfield 29, 3) := by decide +kernel
theorem dA_begin_9 : decode prog_2_method_2_code 9 = .ok (.invokevirtual 40, 3) := by decide +kernel
theorem dA_begin_12 : decode prog_2_method_2_code 12 = .ok (.aload_n 0, 1) := by decide +kernel
theorem dA_begin_13 : decode prog_2_method_2_code 13 = .ok (.iload_n 1, 1) := by decide +kernel
theorem dA_begin_14 : decode prog_2_method_2_code 14 = .ok (.putfield 33, 3) := by decide +kernel
theorem dA_begin_17 : decode prog_2_method_2_code 17 = .ok (.return_, 1) := by decide +kernel
theorem dR_isFull_0 : decode prog_4_method_3_code 0 = .ok (.aload_n 0, 1) := by decide +kernel
theorem dR_isFull_1 : decode prog_4_method_3_code 1 = .ok (.getfield 21, 3) := by decide +kernel
theorem dR_isFull_4 : decode prog_4_method_3_code 4 = .ok (.aload_n 0, 1) := by decide +kernel
theorem dR_isFull_5 : decode prog_4_method_3_code 5 = .ok (.getfield 15, 3) := by decide +kernel
theorem dR_isFull_8 : decode prog_4_method_3_code 8 = .ok (.arraylength, 1) := by decide +kernel
theorem dR_isFull_9 : decode prog_4_method_3_code 9 = .ok (.if_icmp .lt 7, 3) := by decide +kernel
theorem dR_isFull_12 : decode prog_4_method_3_code 12 = .ok (.iconst 1, 1) := by decide +kernel
theorem dR_isFull_13 : decode prog_4_method_3_code 13 = .ok (.goto 4, 3) := by decide +kernel
theorem dR_isFull_16 : decode prog_4_method_3_code 16 = .ok (.iconst 0, 1) := by decide +kernel
theorem dR_isFull_17 : decode prog_4_method_3_code 17 = .ok (.ireturn, 1) := by decide +kernel
theorem dR_append_0 : decode prog_4_method_7_code 0 = .ok (.aload_n 0, 1) := by decide +kernel
theorem dR_append_1 : decode prog_4_method_7_code 1 = .ok (.invokevirtual 29, 3) := by decide +kernel
theorem dR_append_4 : decode prog_4_method_7_code 4 = .ok (.ifCond .ne 23, 3) := by decide +kernel
theorem dR_append_7 : decode prog_4_method_7_code 7 = .ok (.aload_n 0, 1) := by decide +kernel
theorem dR_append_8 : decode prog_4_method_7_code 8 = .ok (.getfield 15, 3) := by decide +kernel
theorem dR_append_11 : decode prog_4_method_7_code 11 = .ok (.aload_n 0, 1) := by decide +kernel
theorem dR_append_12 : decode prog_4_method_7_code 12 = .ok (.getfield 21, 3) := by decide +kernel
theorem dR_append_15 : decode prog_4_method_7_code 15 = .ok (.iload_n 1, 1) := by decide +kernel
theorem dR_append_16 : decode prog_4_method_7_code 16 = .ok (.iastore, 1) := by decide +kernel
theorem dR_append_17 : decode prog_4_method_7_code 17 = .ok (.aload_n 0, 1) := by decide +kernel
theorem dR_append_18 : decode prog_4_method_7_code 18 = .ok (.dup, 1) := by decide +kernel
theorem dR_append_19 : decode prog_4_method_7_code 19 = .ok (.getfield 21, 3) := by decide +kernel
theorem dR_append_22 : decode prog_4_method_7_code 22 = .ok (.iconst 1, 1) := by decide +kernel
theorem dR_append_23 : decode prog_4_method_7_code 23 = .ok (.iadd, 1) := by decide +kernel
theorem dR_append_24 : decode prog_4_method_7_code 24 = .ok (.putfield 21, 3) := by decide +kernel
theorem dR_append_27 : decode prog_4_method_7_code 27 = .ok (.return_, 1) := by decide +kernel
theorem dR_dropLast_0 : decode prog_4_method_8_code 0 = .ok (.aload_n 0, 1) := by decide +kernel
theorem dR_dropLast_1 : decode prog_4_method_8_code 1 = .ok (.dup, 1) := by decide +kernel
theorem dR_dropLast_2 : decode prog_4_method_8_code 2 = .ok (.getfield 21, 3) := by decide +kernel
theorem dR_dropLast_5 : decode prog_4_method_8_code 5 = .ok (.iconst 0, 1) := by decide +kernel
theorem dR_dropLast_6 : decode prog_4_method_8_code 6 = .ok (.iload_n 1, 1) := by decide +kernel
theorem dR_dropLast_7 : decode prog_4_method_8_code 7 = .ok (.aload_n 0, 1) := by decide +kernel
theorem dR_dropLast_8 : decode prog_4_method_8_code 8 = .ok (.getfield 21, 3) := by decide +kernel
theorem dR_dropLast_11 : decode prog_4_method_8_code 11 = .ok (.invokestatic 33, 3) := by decide +kernel
theorem dR_dropLast_14 : decode prog_4_method_8_code 14 = .ok (.invokestatic 9, 3) := by decide +kernel
theorem dR_dropLast_17 : decode prog_4_method_8_code 17 = .ok (.isub, 1) := by decide +kernel
theorem dR_dropLast_18 : decode prog_4_method_8_code 18 = .ok (.putfield 21, 3) := by decide +kernel
theorem dR_dropLast_21 : decode prog_4_method_8_code 21 = .ok (.return_, 1) := by decide +kernel
theorem dR_changeFor_0 : decode prog_4_method_10_code 0 = .ok (.aload_n 1, 1) := by decide +kernel
theorem dR_changeFor_1 : decode prog_4_method_10_code 1 = .ok (.getfield 15, 3) := by decide +kernel
theorem dR_changeFor_4 : decode prog_4_method_10_code 4 = .ok (.astore_n 2, 1) := by decide +kernel
theorem dR_changeFor_5 : decode prog_4_method_10_code 5 = .ok (.aload_n 1, 1) := by decide +kernel
theorem dR_changeFor_6 : decode prog_4_method_10_code 6 = .ok (.getfield 21, 3) := by decide +kernel
theorem dR_changeFor_9 : decode prog_4_method_10_code 9 = .ok (.istore_n 3, 1) := by decide +kernel
theorem dR_changeFor_10 : decode prog_4_method_10_code 10 = .ok (.aload_n 1, 1) := by decide +kernel
theorem dR_changeFor_11 : decode prog_4_method_10_code 11 = .ok (.aload_n 0, 1) := by decide +kernel
theorem dR_changeFor_12 : decode prog_4_method_10_code 12 = .ok (.getfield 15, 3) := by decide +kernel
theorem dR_changeFor_15 : decode prog_4_method_10_code 15 = .ok (.putfield 15, 3) := by decide +kernel
theorem dR_changeFor_18 : decode prog_4_method_10_code 18 = .ok (.aload_n 1, 1) := by decide +kernel
theorem dR_changeFor_19 : decode prog_4_method_10_code 19 = .ok (.aload_n 0, 1) := by decide +kernel
theorem dR_changeFor_20 : decode prog_4_method_10_code 20 = .ok (.getfield 21, 3) := by decide +kernel
theorem dR_changeFor_23 : decode prog_4_method_10_code 23 = .ok (.putfield 21, 3) := by decide +kernel
theorem dR_changeFor_26 : decode prog_4_method_10_code 26 = .ok (.aload_n 0, 1) := by decide +kernel
theorem dR_changeFor_27 : decode prog_4_method_10_code 27 = .ok (.aload_n 2, 1) := by decide +kernel
theorem dR_changeFor_28 : decode prog_4_method_10_code 28 = .ok (.putfield 15, 3) := by decide +kernel
theorem dR_changeFor_31 : decode prog_4_method_10_code 31 = .ok (.aload_n 0, 1) := by decide +kernel
theorem dR_changeFor_32 : decode prog_4_method_10_code 32 = .ok (.iload_n 3, 1) := by decide +kernel
theorem dR_changeFor_33 : decode prog_4_method_10_code 33 = .ok (.putfield 21, 3) := by decide +kernel
theorem dR_changeFor_36 : decode prog_4_method_10_code 36 = .ok (.return_, 1) := by decide +kernel
theorem dN_countOthers_0 : decode prog_3_method_4_code 0 = .ok (.aload_n 0, 1) := by decide +kernel
theorem dN_countOthers_1 : decode prog_3_method_4_code 1 = .ok (.getfield 18, 3) := by decide +kernel
theorem dN_countOthers_4 : decode prog_3_method_4_code 4 = .ok (.iload_n 1, 1) := by decide +kernel
theorem dN_countOthers_5 : decode prog_3_method_4_code 5 = .ok (.invokestatic 34, 3) := by decide +kernel
theorem dN_countOthers_8 : decode prog_3_method_4_code 8 = .ok (.aload_n 0, 1) := by decide +kernel
theorem dN_countOthers_9 : decode prog_3_method_4_code 9 = .ok (.getfield 22, 3) := by decide +kernel
theorem dN_countOthers_12 : decode prog_3_method_4_code 12 = .ok (.iload_n 2, 1) := by decide +kernel
theorem dN_countOthers_13 : decode prog_3_method_4_code 13 = .ok (.invokestatic 34, 3) := by decide +kernel
theorem dN_countOthers_16 : decode prog_3_method_4_code 16 = .ok (.iadd, 1) := by decide +kernel
theorem dN_countOthers_17 : decode prog_3_method_4_code 17 = .ok (.aload_n 0, 1) := by decide +kernel
theorem dN_countOthers_18 : decode prog_3_method_4_code 18 = .ok (.getfield 25, 3) := by decide +kernel
theorem dN_countOthers_21 : decode prog_3_method_4_code 21 = .ok (.iload_n 3, 1) := by decide +kernel
theorem dN_countOthers_22 : decode prog_3_method_4_code 22 = .ok (.invokestatic 34, 3) := by decide +kernel
theorem dN_countOthers_25 : decode prog_3_method_4_code 25 = .ok (.iadd, 1) := by decide +kernel
theorem dN_countOthers_26 : decode prog_3_method_4_code 26 = .ok (.aload_n 0, 1) := by decide +kernel
theorem dN_countOthers_27 : decode prog_3_method_4_code 27 = .ok (.getfield 28, 3) := by decide +kernel
theorem dN_countOthers_30 : decode prog_3_method_4_code 30 = .ok (.iload 4, 2) := by decide +kernel
theorem dN_countOthers_32 : decode prog_3_method_4_code 32 = .ok (.invokestatic 34, 3) := by decide +kernel
theorem dN_countOthers_35 : decode prog_3_method_4_code 35 = .ok (.iadd, 1) := by decide +kernel
theorem dN_countOthers_36 : decode prog_3_method_4_code 36 = .ok (.aload_n 0, 1) := by decide +kernel
theorem dN_countOthers_37 : decode prog_3_method_4_code 37 = .ok (.getfield 31, 3) := by decide +kernel
theorem dN_countOthers_40 : decode prog_3_method_4_code 40 = .ok (.iload 5, 2) := by decide +kernel
theorem dN_countOthers_42 : decode prog_3_method_4_code 42 = .ok (.invokestatic 34, 3) := by decide +kernel
theorem dN_countOthers_45 : decode prog_3_method_4_code 45 = .ok (.iadd, 1) := by decide +kernel
theorem dN_countOthers_46 : decode prog_3_method_4_code 46 = .ok (.ireturn, 1) := by decide +kernel
theorem dN_oneIfOther_0 : decode prog_3_method_5_code 0 = .ok (.iload_n 0, 1) := by decide +kernel
theorem dN_oneIfOther_1 : decode prog_3_method_5_code 1 = .ok (.iload_n 1, 1) := by decide +kernel
theorem dN_oneIfOther_2 : decode prog_3_method_5_code 2 = .ok (.if_icmp .ne 7, 3) := by decide +kernel
theorem dN_oneIfOther_5 : decode prog_3_method_5_code 5 = .ok (.iconst 0, 1) := by decide +kernel
theorem dN_oneIfOther_6 : decode prog_3_method_5_code 6 = .ok (.goto 4, 3) := by decide +kernel
theorem dN_oneIfOther_9 : decode prog_3_method_5_code 9 = .ok (.iconst 1, 1) := by decide +kernel
theorem dN_oneIfOther_10 : decode prog_3_method_5_code 10 = .ok (.ireturn, 1) := by decide +kernel
theorem dR_sum_0 : decode prog_4_method_11_code 0 = .ok (.iconst 1, 1) := by decide +kernel
theorem dR_sum_1 : decode prog_4_method_11_code 1 = .ok (.istore_n 1, 1) := by decide +kernel
theorem dR_sum_2 : decode prog_4_method_11_code 2 = .ok (.iconst 0, 1) := by decide +kernel
theorem dR_sum_3 : decode prog_4_method_11_code 3 = .ok (.istore_n 2, 1) := by decide +kernel
theorem dR_sum_4 : decode prog_4_method_11_code 4 = .ok (.iload_n 2, 1) := by decide +kernel
theorem dR_sum_5 : decode prog_4_method_11_code 5 = .ok (.aload_n 0, 1) := by decide +kernel
theorem dR_sum_6 : decode prog_4_method_11_code 6 = .ok (.getfield 21, 3) := by decide +kernel
theorem dR_sum_9 : decode prog_4_method_11_code 9 = .ok (.if_icmp .ge 24, 3) := by decide +kernel
theorem dR_sum_12 : decode prog_4_method_11_code 12 = .ok (.iload_n 1, 1) := by decide +kernel
theorem dR_sum_13 : decode prog_4_method_11_code 13 = .ok (.bipush 31, 2) := by decide +kernel
theorem dR_sum_15 : decode prog_4_method_11_code 15 = .ok (.imul, 1) := by decide +kernel
theorem dR_sum_16 : decode prog_4_method_11_code 16 = .ok (.aload_n 0, 1) := by decide +kernel
theorem dR_sum_17 : decode prog_4_method_11_code 17 = .ok (.getfield 15, 3) := by decide +kernel
theorem dR_sum_20 : decode prog_4_method_11_code 20 = .ok (.iload_n 2, 1) := by decide +kernel
theorem dR_sum_21 : decode prog_4_method_11_code 21 = .ok (.iaload, 1) := by decide +kernel
theorem dR_sum_22 : decode prog_4_method_11_code 22 = .ok (.iadd, 1) := by decide +kernel
theorem dR_sum_23 : decode prog_4_method_11_code 23 = .ok (.ldc 36, 2) := by decide +kernel
theorem dR_sum_25 : decode prog_4_method_11_code 25 = .ok (.irem, 1) := by decide +kernel
theorem dR_sum_26 : decode prog_4_method_11_code 26 = .ok (.istore_n 1, 1) := by decide +kernel
theorem dR_sum_27 : decode prog_4_method_11_code 27 = .ok (.iinc 2 1, 3) := by decide +kernel
theorem dR_sum_30 : decode prog_4_method_11_code 30 = .ok (.goto (-26), 3) := by decide +kernel
theorem dR_sum_33 : decode prog_4_method_11_code 33 = .ok (.iload_n 1, 1) := by decide +kernel
theorem dR_sum_34 : decode prog_4_method_11_code 34 = .ok (.ireturn, 1) := by decide +kernel
theorem dR_get_0 : decode prog_4_method_5_code 0 = .ok (.aload_n 0, 1) := by decide +kernel
theorem dR_get_1 : decode prog_4_method_5_code 1 = .ok (.iload_n 1, 1) := by decide +kernel
theorem dR_get_2 : decode prog_4_method_5_code 2 = .ok (.invokevirtual 25, 3) := by decide +kernel
theorem dR_get_5 : decode prog_4_method_5_code 5 = .ok (.ifCond .eq 12, 3) := by decide +kernel
theorem dR_get_8 : decode prog_4_method_5_code 8 = .ok (.aload_n 0, 1) := by decide +kernel
theorem dR_get_9 : decode prog_4_method_5_code 9 = .ok (.getfield 15, 3) := by decide +kernel
theorem dR_get_12 : decode prog_4_method_5_code 12 = .ok (.iload_n 1, 1) := by decide +kernel
theorem dR_get_13 : decode prog_4_method_5_code 13 = .ok (.iaload, 1) := by decide +kernel
theorem dR_get_14 : decode prog_4_method_5_code 14 = .ok (.goto 4, 3) := by decide +kernel
theorem dR_get_17 : decode prog_4_method_5_code 17 = .ok (.iconst (-1), 1) := by decide +kernel
theorem dR_get_18 : decode prog_4_method_5_code 18 = .ok (.ireturn, 1) := by decide +kernel
theorem dR_has_0 : decode prog_4_method_4_code 0 = .ok (.iload_n 1, 1) := by decide +kernel
theorem dR_has_1 : decode prog_4_method_4_code 1 = .ok (.ifCond .lt 15, 3) := by decide +kernel
theorem dR_has_4 : decode prog_4_method_4_code 4 = .ok (.iload_n 1, 1) := by decide +kernel
theorem dR_has_5 : decode prog_4_method_4_code 5 = .ok (.aload_n 0, 1) := by decide +kernel
theorem dR_has_6 : decode prog_4_method_4_code 6 = .ok (.getfield 21, 3) := by decide +kernel
theorem dR_has_9 : decode prog_4_method_4_code 9 = .ok (.if_icmp .ge 7, 3) := by decide +kernel
theorem dR_has_12 : decode prog_4_method_4_code 12 = .ok (.iconst 1, 1) := by decide +kernel
theorem dR_has_13 : decode prog_4_method_4_code 13 = .ok (.goto 4, 3) := by decide +kernel
theorem dR_has_16 : decode prog_4_method_4_code 16 = .ok (.iconst 0, 1) := by decide +kernel
theorem dR_has_17 : decode prog_4_method_4_code 17 = .ok (.ireturn, 1) := by decide +kernel
theorem dR_countSame_0 : decode prog_4_method_12_code 0 = .ok (.aload_n 0, 1) := by decide +kernel
theorem dR_countSame_1 : decode prog_4_method_12_code 1 = .ok (.iload_n 1, 1) := by decide +kernel
theorem dR_countSame_2 : decode prog_4_method_12_code 2 = .ok (.invokevirtual 25, 3) := by decide +kernel
theorem dR_countSame_5 : decode prog_4_method_12_code 5 = .ok (.ifCond .eq 11, 3) := by decide +kernel
theorem dR_countSame_8 : decode prog_4_method_12_code 8 = .ok (.aload_n 2, 1) := by decide +kernel
theorem dR_countSame_9 : decode prog_4_method_12_code 9 = .ok (.iload_n 3, 1) := by decide +kernel
theorem dR_countSame_10 : decode prog_4_method_12_code 10 = .ok (.invokevirtual 25, 3) := by decide +kernel
theorem dR_countSame_13 : decode prog_4_method_12_code 13 = .ok (.ifCond .ne 5, 3) := by decide +kernel
theorem dR_countSame_16 : decode prog_4_method_12_code 16 = .ok (.iconst 0, 1) := by decide +kernel
theorem dR_countSame_17 : decode prog_4_method_12_code 17 = .ok (.ireturn, 1) := by decide +kernel
theorem dR_countSame_18 : decode prog_4_method_12_code 18 = .ok (.aload_n 0, 1) := by decide +kernel
theorem dR_countSame_19 : decode prog_4_method_12_code 19 = .ok (.getfield 21, 3) := by decide +kernel
theorem dR_countSame_22 : decode prog_4_method_12_code 22 = .ok (.iload_n 1, 1) := by decide +kernel
theorem dR_countSame_23 : decode prog_4_method_12_code 23 = .ok (.isub, 1) := by decide +kernel
theorem dR_countSame_24 : decode prog_4_method_12_code 24 = .ok (.aload_n 2, 1) := by decide +kernel
theorem dR_countSame_25 : decode prog_4_method_12_code 25 = .ok (.getfield 21, 3) := by decide +kernel
theorem dR_countSame_28 : decode prog_4_method_12_code 28 = .ok (.iload_n 3, 1) := by decide +kernel
theorem dR_countSame_29 : decode prog_4_method_12_code 29 = .ok (.isub, 1) := by decide +kernel
theorem dR_countSame_30 : decode prog_4_method_12_code 30 = .ok (.invokestatic 33, 3) := by decide +kernel
theorem dR_countSame_33 : decode prog_4_method_12_code 33 = .ok (.istore 4, 2) := by decide +kernel
theorem dR_countSame_35 : decode prog_4_method_12_code 35 = .ok (.iconst 0, 1) := by decide +kernel
theorem dR_countSame_36 : decode prog_4_method_12_code 36 = .ok (.istore 5, 2) := by decide +kernel
theorem dR_countSame_38 : decode prog_4_method_12_code 38 = .ok (.iload 5, 2) := by decide +kernel
theorem dR_countSame_40 : decode prog_4_method_12_code 40 = .ok (.iload 4, 2) := by decide +kernel
theorem dR_countSame_42 : decode prog_4_method_12_code 42 = .ok (.if_icmp .ge 33, 3) := by decide +kernel
theorem dR_countSame_45 : decode prog_4_method_12_code 45 = .ok (.aload_n 0, 1) := by decide +kernel
theorem dR_countSame_46 : decode prog_4_method_12_code 46 = .ok (.getfield 15, 3) := by decide +kernel
theorem dR_countSame_49 : decode prog_4_method_12_code 49 = .ok (.iload_n 1, 1) := by decide +kernel
theorem dR_countSame_50 : decode prog_4_method_12_code 50 = .ok (.iload 5, 2) := by decide +kernel
theorem dR_countSame_52 : decode prog_4_method_12_code 52 = .ok (.iadd, 1) := by decide +kernel
theorem dR_countSame_53 : decode prog_4_method_12_code 53 = .ok (.iaload, 1) := by decide +kernel
theorem dR_countSame_54 : decode prog_4_method_12_code 54 = .ok (.aload_n 2, 1) := by decide +kernel
theorem dR_countSame_55 : decode prog_4_method_12_code 55 = .ok (.getfield 15, 3) := by decide +kernel
theorem dR_countSame_58 : decode prog_4_method_12_code 58 = .ok (.iload_n 3, 1) := by decide +kernel
theorem dR_countSame_59 : decode prog_4_method_12_code 59 = .ok (.iload 5, 2) := by decide +kernel
theorem dR_countSame_61 : decode prog_4_method_12_code 61 = .ok (.iadd, 1) := by decide +kernel
theorem dR_countSame_62 : decode prog_4_method_12_code 62 = .ok (.iaload, 1) := by decide +kernel
theorem dR_countSame_63 : decode prog_4_method_12_code 63 = .ok (.if_icmp .eq 6, 3) := by decide +kernel
theorem dR_countSame_66 : decode prog_4_method_12_code 66 = .ok (.iload 5, 2) := by decide +kernel
theorem dR_countSame_68 : decode prog_4_method_12_code 68 = .ok (.ireturn, 1) := by decide +kernel
theorem dR_countSame_69 : decode prog_4_method_12_code 69 = .ok (.iinc 5 1, 3) := by decide +kernel
theorem dR_countSame_72 : decode prog_4_method_12_code 72 = .ok (.goto (-34), 3) := by decide +kernel
theorem dR_countSame_75 : decode prog_4_method_12_code 75 = .ok (.iload 4, 2) := by decide +kernel
theorem dR_countSame_77 : decode prog_4_method_12_code 77 = .ok (.ireturn, 1) := by decide +kernel
theorem dN_ofCopy_0 : decode prog_3_method_7_code 0 = .ok (.iload_n 1, 1) := by decide +kernel
theorem dN_ofCopy_1 : decode prog_3_method_7_code 1 = .ok (.iload_n 2, 1) := by decide +kernel
theorem dN_ofCopy_2 : decode prog_3_method_7_code 2 = .ok (.if_icmp .ne 10, 3) := by decide +kernel
theorem dN_ofCopy_5 : decode prog_3_method_7_code 5 = .ok (.aload_n 0, 1) := by decide +kernel
theorem dN_ofCopy_6 : decode prog_3_method_7_code 6 = .ok (.getfield 18, 3) := by decide +kernel
theorem dN_ofCopy_9 : decode prog_3_method_7_code 9 = .ok (.goto 12, 3) := by decide +kernel
theorem dN_ofCopy_12 : decode prog_3_method_7_code 12 = .ok (.aload_n 0, 1) := by decide +kernel
theorem dN_ofCopy_13 : decode prog_3_method_7_code 13 = .ok (.getfield 18, 3) := by decide +kernel
theorem dN_ofCopy_16 : decode prog_3_method_7_code 16 = .ok (.aload_n 0, 1) := by decide +kernel
theorem dN_ofCopy_17 : decode prog_3_method_7_code 17 = .ok (.getfield 22, 3) := by decide +kernel
theorem dN_ofCopy_20 : decode prog_3_method_7_code 20 = .ok (.iadd, 1) := by decide +kernel
theorem dN_ofCopy_21 : decode prog_3_method_7_code 21 = .ok (.ireturn, 1) := by decide +kernel
theorem dN_ofSelf_0 : decode prog_3_method_8_code 0 = .ok (.aload_n 0, 1) := by decide +kernel
theorem dN_ofSelf_1 : decode prog_3_method_8_code 1 = .ok (.getfield 25, 3) := by decide +kernel
theorem dN_ofSelf_4 : decode prog_3_method_8_code 4 = .ok (.ireturn, 1) := by decide +kernel
theorem dN_ofLay_0 : decode prog_3_method_9_code 0 = .ok (.aload_n 0, 1) := by decide +kernel
theorem dN_ofLay_1 : decode prog_3_method_9_code 1 = .ok (.getfield 28, 3) := by decide +kernel
theorem dN_ofLay_4 : decode prog_3_method_9_code 4 = .ok (.aload_n 0, 1) := by decide +kernel
theorem dN_ofLay_5 : decode prog_3_method_9_code 5 = .ok (.getfield 31, 3) := by decide +kernel
theorem dN_ofLay_8 : decode prog_3_method_9_code 8 = .ok (.iload_n 1, 1) := by decide +kernel
theorem dN_ofLay_9 : decode prog_3_method_9_code 9 = .ok (.imul, 1) := by decide +kernel
theorem dN_ofLay_10 : decode prog_3_method_9_code 10 = .ok (.iadd, 1) := by decide +kernel
theorem dN_ofLay_11 : decode prog_3_method_9_code 11 = .ok (.ireturn, 1) := by decide +kernel
theorem dA_append_0 : decode prog_2_method_12_code 0 = .ok (.aload_n 0, 1) := by decide +kernel
theorem dA_append_1 : decode prog_2_method_12_code 1 = .ok (.invokevirtual 57, 3) := by decide +kernel
theorem dA_append_4 : decode prog_2_method_12_code 4 = .ok (.ifCond .ne 59, 3) := by decide +kernel
theorem dA_append_7 : decode prog_2_method_12_code 7 = .ok (.aload_n 0, 1) := by decide +kernel
theorem dA_append_8 : decode prog_2_method_12_code 8 = .ok (.getfield 9, 3) := by decide +kernel
theorem dA_append_11 : decode prog_2_method_12_code 11 = .ok (.aload_n 0, 1) := by decide +kernel
theorem dA_append_12 : decode prog_2_method_12_code 12 = .ok (.getfield 37, 3) := by decide +kernel
theorem dA_append_15 : decode prog_2_method_12_code 15 = .ok (.iload_n 1, 1) := by decide +kernel
theorem dA_append_16 : decode prog_2_method_12_code 16 = .ok (.iastore, 1) := by decide +kernel
theorem dA_append_17 : decode prog_2_method_12_code 17 = .ok (.aload_n 0, 1) := by decide +kernel
theorem dA_append_18 : decode prog_2_method_12_code 18 = .ok (.getfield 15, 3) := by decide +kernel
theorem dA_append_21 : decode prog_2_method_12_code 21 = .ok (.aload_n 0, 1) := by decide +kernel
theorem dA_append_22 : decode prog_2_method_12_code 22 = .ok (.getfield 37, 3) := by decide +kernel
theorem dA_append_25 : decode prog_2_method_12_code 25 = .ok (.iload_n 2, 1) := by decide +kernel
theorem dA_append_26 : decode prog_2_method_12_code 26 = .ok (.iastore, 1) := by decide +kernel
theorem dA_append_27 : decode prog_2_method_12_code 27 = .ok (.aload_n 0, 1) := by decide +kernel
theorem dA_append_28 : decode prog_2_method_12_code 28 = .ok (.getfield 18, 3) := by decide +kernel
theorem dA_append_31 : decode prog_2_method_12_code 31 = .ok (.aload_n 0, 1) := by decide +kernel
theorem dA_append_32 : decode prog_2_method_12_code 32 = .ok (.getfield 37, 3) := by decide +kernel
theorem dA_append_35 : decode prog_2_method_12_code 35 = .ok (.iload_n 3, 1) := by decide +kernel
theorem dA_append_36 : decode prog_2_method_12_code 36 = .ok (.iastore, 1) := by decide +kernel
theorem dA_append_37 : decode prog_2_method_12_code 37 = .ok (.aload_n 0, 1) := by decide +kernel
theorem dA_append_38 : decode prog_2_method_12_code 38 = .ok (.getfield 21, 3) := by decide +kernel
theorem dA_append_41 : decode prog_2_method_12_code 41 = .ok (.aload_n 0, 1) := by decide +kernel
theorem dA_append_42 : decode prog_2_method_12_code 42 = .ok (.getfield 37, 3) := by decide +kernel
theorem dA_append_45 : decode prog_2_method_12_code 45 = .ok (.aload_n 0, 1) := by decide +kernel
theorem dA_append_46 : decode prog_2_method_12_code 46 = .ok (.getfield 29, 3) := by decide +kernel
theorem dA_append_49 : decode prog_2_method_12_code 49 = .ok (.invokevirtual 61, 3) := by decide +kernel
theorem dA_append_52 : decode prog_2_method_12_code 52 = .ok (.iastore, 1) := by decide +kernel
theorem dA_append_53 : decode prog_2_method_12_code 53 = .ok (.aload_n 0, 1) := by decide +kernel
theorem dA_append_54 : decode prog_2_method_12_code 54 = .ok (.dup, 1) := by decide +kernel
theorem dA_append_55 : decode prog_2_method_12_code 55 = .ok (.getfield 37, 3) := by decide +kernel
theorem dA_append_58 : decode prog_2_method_12_code 58 = .ok (.iconst 1, 1) := by decide +kernel
theorem dA_append_59 : decode prog_2_method_12_code 59 = .ok (.iadd, 1) := by decide +kernel
theorem dA_append_60 : decode prog_2_method_12_code 60 = .ok (.putfield 37, 3) := by decide +kernel
theorem dA_append_63 : decode prog_2_method_12_code 63 = .ok (.return_, 1) := by decide +kernel
theorem dA_isFull_0 : decode prog_2_method_5_code 0 = .ok (.aload_n 0, 1) := by decide +kernel
theorem dA_isFull_1 : decode prog_2_method_5_code 1 = .ok (.getfield 37, 3) := by decide +kernel
theorem dA_isFull_4 : decode prog_2_method_5_code 4 = .ok (.bipush 100, 2) := by decide +kernel
theorem dA_isFull_6 : decode prog_2_method_5_code 6 = .ok (.if_icmp .lt 7, 3) := by decide +kernel
theorem dA_isFull_9 : decode prog_2_method_5_code 9 = .ok (.iconst 1, 1) := by decide +kernel
theorem dA_isFull_10 : decode prog_2_method_5_code 10 = .ok (.goto 4, 3) := by decide +kernel
theorem dA_isFull_13 : decode prog_2_method_5_code 13 = .ok (.iconst 0, 1) := by decide +kernel
theorem dA_isFull_14 : decode prog_2_method_5_code 14 = .ok (.ireturn, 1) := by decide +kernel
theorem dA_openLay_0 : decode prog_2_method_13_code 0 = .ok (.aload_n 0, 1) := by decide +kernel
theorem dA_openLay_1 : decode prog_2_method_13_code 1 = .ok (.iconst 2, 1) := by decide +kernel
theorem dA_openLay_2 : decode prog_2_method_13_code 2 = .ok (.iconst (-1), 1) := by decide +kernel
theorem dA_openLay_3 : decode prog_2_method_13_code 3 = .ok (.iconst 0, 1) := by decide +kernel
theorem dA_openLay_4 : decode prog_2_method_13_code 4 = .ok (.invokevirtual 65, 3) := by decide +kernel
theorem dA_openLay_7 : decode prog_2_method_13_code 7 = .ok (.return_, 1) := by decide +kernel
theorem dA_layByte_0 : decode prog_2_method_15_code 0 = .ok (.aload_n 0, 1) := by decide +kernel
theorem dA_layByte_1 : decode prog_2_method_15_code 1 = .ok (.invokevirtual 75, 3) := by decide +kernel
theorem dA_layByte_4 : decode prog_2_method_15_code 4 = .ok (.ifCond .eq 26, 3) := by decide +kernel
theorem dA_layByte_7 : decode prog_2_method_15_code 7 = .ok (.aload_n 0, 1) := by decide +kernel
theorem dA_layByte_8 : decode prog_2_method_15_code 8 = .ok (.getfield 29, 3) := by decide +kernel
theorem dA_layByte_11 : decode prog_2_method_15_code 11 = .ok (.iload_n 1, 1) := by decide +kernel
theorem dA_layByte_12 : decode prog_2_method_15_code 12 = .ok (.invokevirtual 78, 3) := by decide +kernel
theorem dA_layByte_15 : decode prog_2_method_15_code 15 = .ok (.aload_n 0, 1) := by decide +kernel
theorem dA_layByte_16 : decode prog_2_method_15_code 16 = .ok (.getfield 18, 3) := by decide +kernel
theorem dA_layByte_19 : decode prog_2_method_15_code 19 = .ok (.aload_n 0, 1) := by decide +kernel
theorem dA_layByte_20 : decode prog_2_method_15_code 20 = .ok (.getfield 37, 3) := by decide +kernel
theorem dA_layByte_23 : decode prog_2_method_15_code 23 = .ok (.iconst 1, 1) := by decide +kernel
theorem dA_layByte_24 : decode prog_2_method_15_code 24 = .ok (.isub, 1) := by decide +kernel
theorem dA_layByte_25 : decode prog_2_method_15_code 25 = .ok (.dup2, 1) := by decide +kernel
theorem dA_layByte_26 : decode prog_2_method_15_code 26 = .ok (.iaload, 1) := by decide +kernel
theorem dA_layByte_27 : decode prog_2_method_15_code 27 = .ok (.iconst 1, 1) := by decide +kernel
theorem dA_layByte_28 : decode prog_2_method_15_code 28 = .ok (.iadd, 1) := by decide +kernel
theorem dA_layByte_29 : decode prog_2_method_15_code 29 = .ok (.iastore, 1) := by decide +kernel
theorem dA_layByte_30 : decode prog_2_method_15_code 30 = .ok (.return_, 1) := by decide +kernel
theorem dA_takesByte_0 : decode prog_2_method_14_code 0 = .ok (.aload_n 0, 1) := by decide +kernel
theorem dA_takesByte_1 : decode prog_2_method_14_code 1 = .ok (.aload_n 0, 1) := by decide +kernel
theorem dA_takesByte_2 : decode prog_2_method_14_code 2 = .ok (.getfield 37, 3) := by decide +kernel
theorem dA_takesByte_5 : decode prog_2_method_14_code 5 = .ok (.iconst 1, 1) := by decide +kernel
theorem dA_takesByte_6 : decode prog_2_method_14_code 6 = .ok (.isub, 1) := by decide +kernel
theorem dA_takesByte_7 : decode prog_2_method_14_code 7 = .ok (.invokevirtual 69, 3) := by decide +kernel
theorem dA_takesByte_10 : decode prog_2_method_14_code 10 = .ok (.iconst 2, 1) := by decide +kernel
theorem dA_takesByte_11 : decode prog_2_method_14_code 11 = .ok (.if_icmp .ne 22, 3) := by decide +kernel
theorem dA_takesByte_14 : decode prog_2_method_14_code 14 = .ok (.aload_n 0, 1) := by decide +kernel
theorem dA_takesByte_15 : decode prog_2_method_14_code 15 = .ok (.aload_n 0, 1) := by decide +kernel
theorem dA_takesByte_16 : decode prog_2_method_14_code 16 = .ok (.getfield 37, 3) := by decide +kernel
theorem dA_takesByte_19 : decode prog_2_method_14_code 19 = .ok (.iconst 1, 1) := by decide +kernel
theorem dA_takesByte_20 : decode prog_2_method_14_code 20 = .ok (.isub, 1) := by decide +kernel
theorem dA_takesByte_21 : decode prog_2_method_14_code 21 = .ok (.invokevirtual 72, 3) := by decide +kernel
theorem dA_takesByte_24 : decode prog_2_method_14_code 24 = .ok (.bipush 40, 2) := by decide +kernel
theorem dA_takesByte_26 : decode prog_2_method_14_code 26 = .ok (.if_icmp .ge 7, 3) := by decide +kernel
theorem dA_takesByte_29 : decode prog_2_method_14_code 29 = .ok (.iconst 1, 1) := by decide +kernel
theorem dA_takesByte_30 : decode prog_2_method_14_code 30 = .ok (.goto 4, 3) := by decide +kernel
theorem dA_takesByte_33 : decode prog_2_method_14_code 33 = .ok (.iconst 0, 1) := by decide +kernel
theorem dA_takesByte_34 : decode prog_2_method_14_code 34 = .ok (.ireturn, 1) := by decide +kernel
theorem dA_kind_0 : decode prog_2_method_7_code 0 = .ok (.aload_n 0, 1) := by decide +kernel
theorem dA_kind_1 : decode prog_2_method_7_code 1 = .ok (.iload_n 1, 1) := by decide +kernel
theorem dA_kind_2 : decode prog_2_method_7_code 2 = .ok (.invokevirtual 43, 3) := by decide +kernel
theorem dA_kind_5 : decode prog_2_method_7_code 5 = .ok (.ifCond .eq 12, 3) := by decide +kernel
theorem dA_kind_8 : decode prog_2_method_7_code 8 = .ok (.aload_n 0, 1) := by decide +kernel
theorem dA_kind_9 : decode prog_2_method_7_code 9 = .ok (.getfield 9, 3) := by decide +kernel
theorem dA_kind_12 : decode prog_2_method_7_code 12 = .ok (.iload_n 1, 1) := by decide +kernel
theorem dA_kind_13 : decode prog_2_method_7_code 13 = .ok (.iaload, 1) := by decide +kernel
theorem dA_kind_14 : decode prog_2_method_7_code 14 = .ok (.goto 4, 3) := by decide +kernel
theorem dA_kind_17 : decode prog_2_method_7_code 17 = .ok (.iconst (-1), 1) := by decide +kernel
theorem dA_kind_18 : decode prog_2_method_7_code 18 = .ok (.ireturn, 1) := by decide +kernel
theorem dA_has_0 : decode prog_2_method_6_code 0 = .ok (.iload_n 1, 1) := by decide +kernel
theorem dA_has_1 : decode prog_2_method_6_code 1 = .ok (.ifCond .lt 15, 3) := by decide +kernel
theorem dA_has_4 : decode prog_2_method_6_code 4 = .ok (.iload_n 1, 1) := by decide +kernel
theorem dA_has_5 : decode prog_2_method_6_code 5 = .ok (.aload_n 0, 1) := by decide +kernel
theorem dA_has_6 : decode prog_2_method_6_code 6 = .ok (.getfield 37, 3) := by decide +kernel
theorem dA_has_9 : decode prog_2_method_6_code 9 = .ok (.if_icmp .ge 7, 3) := by decide +kernel
theorem dA_has_12 : decode prog_2_method_6_code 12 = .ok (.iconst 1, 1) := by decide +kernel
theorem dA_has_13 : decode prog_2_method_6_code 13 = .ok (.goto 4, 3) := by decide +kernel
theorem dA_has_16 : decode prog_2_method_6_code 16 = .ok (.iconst 0, 1) := by decide +kernel
theorem dA_has_17 : decode prog_2_method_6_code 17 = .ok (.ireturn, 1) := by decide +kernel
theorem dA_count_0 : decode prog_2_method_8_code 0 = .ok (.aload_n 0, 1) := by decide +kernel
theorem dA_count_1 : decode prog_2_method_8_code 1 = .ok (.iload_n 1, 1) := by decide +kernel
theorem dA_count_2 : decode prog_2_method_8_code 2 = .ok (.invokevirtual 43, 3) := by decide +kernel
theorem dA_count_5 : decode prog_2_method_8_code 5 = .ok (.ifCond .eq 12, 3) := by decide +kernel
theorem dA_count_8 : decode prog_2_method_8_code 8 = .ok (.aload_n 0, 1) := by decide +kernel
theorem dA_count_9 : decode prog_2_method_8_code 9 = .ok (.getfield 18, 3) := by decide +kernel
theorem dA_count_12 : decode prog_2_method_8_code 12 = .ok (.iload_n 1, 1) := by decide +kernel
theorem dA_count_13 : decode prog_2_method_8_code 13 = .ok (.iaload, 1) := by decide +kernel
theorem dA_count_14 : decode prog_2_method_8_code 14 = .ok (.goto 4, 3) := by decide +kernel
theorem dA_count_17 : decode prog_2_method_8_code 17 = .ok (.iconst 0, 1) := by decide +kernel
theorem dA_count_18 : decode prog_2_method_8_code 18 = .ok (.ireturn, 1) := by decide +kernel
theorem dA_length_0 : decode prog_2_method_3_code 0 = .ok (.aload_n 0, 1) := by decide +kernel
theorem dA_length_1 : decode prog_2_method_3_code 1 = .ok (.getfield 37, 3) := by decide +kernel
theorem dA_length_4 : decode prog_2_method_3_code 4 = .ok (.ireturn, 1) := by decide +kernel
theorem dA_place_0 : decode prog_2_method_9_code 0 = .ok (.aload_n 0, 1) := by decide +kernel
theorem dA_place_1 : decode prog_2_method_9_code 1 = .ok (.iload_n 1, 1) := by decide +kernel
theorem dA_place_2 : decode prog_2_method_9_code 2 = .ok (.invokevirtual 43, 3) := by decide +kernel
theorem dA_place_5 : decode prog_2_method_9_code 5 = .ok (.ifCond .eq 12, 3) := by decide +kernel
theorem dA_place_8 : decode prog_2_method_9_code 8 = .ok (.aload_n 0, 1) := by decide +kernel
theorem dA_place_9 : decode prog_2_method_9_code 9 = .ok (.getfield 15, 3) := by decide +kernel
theorem dA_place_12 : decode prog_2_method_9_code 12 = .ok (.iload_n 1, 1) := by decide +kernel
theorem dA_place_13 : decode prog_2_method_9_code 13 = .ok (.iaload, 1) := by decide +kernel
theorem dA_place_14 : decode prog_2_method_9_code 14 = .ok (.goto 4, 3) := by decide +kernel
theorem dA_place_17 : decode prog_2_method_9_code 17 = .ok (.iconst (-1), 1) := by decide +kernel
theorem dA_place_18 : decode prog_2_method_9_code 18 = .ok (.ireturn, 1) := by decide +kernel
theorem dA_spotAhead_0 : decode prog_2_method_11_code 0 = .ok (.iload_n 1, 1) := by decide +kernel
theorem dA_spotAhead_1 : decode prog_2_method_11_code 1 = .ok (.aload_n 0, 1) := by decide +kernel
theorem dA_spotAhead_2 : decode prog_2_method_11_code 2 = .ok (.getfield 37, 3) := by decide +kernel
theorem dA_spotAhead_5 : decode prog_2_method_11_code 5 = .ok (.invokestatic 51, 3) := by decide +kernel
theorem dA_spotAhead_8 : decode prog_2_method_11_code 8 = .ok (.iconst 1, 1) := by decide +kernel
theorem dA_spotAhead_9 : decode prog_2_method_11_code 9 = .ok (.isub, 1) := by decide +kernel
theorem dA_spotAhead_10 : decode prog_2_method_11_code 10 = .ok (.istore_n 2, 1) := by decide +kernel
theorem dA_spotAhead_11 : decode prog_2_method_11_code 11 = .ok (.iload_n 2, 1) := by decide +kernel
theorem dA_spotAhead_12 : decode prog_2_method_11_code 12 = .ok (.ifCond .lt 32, 3) := by decide +kernel
theorem dA_spotAhead_15 : decode prog_2_method_11_code 15 = .ok (.aload_n 0, 1) := by decide +kernel
theorem dA_spotAhead_16 : decode prog_2_method_11_code 16 = .ok (.getfield 9, 3) := by decide +kernel
theorem dA_spotAhead_19 : decode prog_2_method_11_code 19 = .ok (.iload_n 2, 1) := by decide +kernel
theorem dA_spotAhead_20 : decode prog_2_method_11_code 20 = .ok (.iaload, 1) := by decide +kernel
theorem dA_spotAhead_21 : decode prog_2_method_11_code 21 = .ok (.ifCond .ne 17, 3) := by decide +kernel
theorem dA_spotAhead_24 : decode prog_2_method_11_code 24 = .ok (.aload_n 0, 1) := by decide +kernel
theorem dA_spotAhead_25 : decode prog_2_method_11_code 25 = .ok (.getfield 15, 3) := by decide +kernel
theorem dA_spotAhead_28 : decode prog_2_method_11_code 28 = .ok (.iload_n 2, 1) := by decide +kernel
theorem dA_spotAhead_29 : decode prog_2_method_11_code 29 = .ok (.iaload, 1) := by decide +kernel
theorem dA_spotAhead_30 : decode prog_2_method_11_code 30 = .ok (.aload_n 0, 1) := by decide +kernel
theorem dA_spotAhead_31 : decode prog_2_method_11_code 31 = .ok (.getfield 18, 3) := by decide +kernel
theorem dA_spotAhead_34 : decode prog_2_method_11_code 34 = .ok (.iload_n 2, 1) := by decide +kernel
theorem dA_spotAhead_35 : decode prog_2_method_11_code 35 = .ok (.iaload, 1) := by decide +kernel
theorem dA_spotAhead_36 : decode prog_2_method_11_code 36 = .ok (.iadd, 1) := by decide +kernel
theorem dA_spotAhead_37 : decode prog_2_method_11_code 37 = .ok (.ireturn, 1) := by decide +kernel
theorem dA_spotAhead_38 : decode prog_2_method_11_code 38 = .ok (.iinc 2 (-1), 3) := by decide +kernel
theorem dA_spotAhead_41 : decode prog_2_method_11_code 41 = .ok (.goto (-30), 3) := by decide +kernel
theorem dA_spotAhead_44 : decode prog_2_method_11_code 44 = .ok (.iconst 0, 1) := by decide +kernel
theorem dA_spotAhead_45 : decode prog_2_method_11_code 45 = .ok (.ireturn, 1) := by decide +kernel
theorem dA_laidByte_0 : decode prog_2_method_10_code 0 = .ok (.aload_n 0, 1) := by decide +kernel
theorem dA_laidByte_1 : decode prog_2_method_10_code 1 = .ok (.iload_n 1, 1) := by decide +kernel
theorem dA_laidByte_2 : decode prog_2_method_10_code 2 = .ok (.invokevirtual 43, 3) := by decide +kernel
theorem dA_laidByte_5 : decode prog_2_method_10_code 5 = .ok (.ifCond .eq 21, 3) := by decide +kernel
theorem dA_laidByte_8 : decode prog_2_method_10_code 8 = .ok (.aload_n 0, 1) := by decide +kernel
theorem dA_laidByte_9 : decode prog_2_method_10_code 9 = .ok (.getfield 29, 3) := by decide +kernel
theorem dA_laidByte_12 : decode prog_2_method_10_code 12 = .ok (.aload_n 0, 1) := by decide +kernel
theorem dA_laidByte_13 : decode prog_2_method_10_code 13 = .ok (.getfield 21, 3) := by decide +kernel
theorem dA_laidByte_16 : decode prog_2_method_10_code 16 = .ok (.iload_n 1, 1) := by decide +kernel
theorem dA_laidByte_17 : decode prog_2_method_10_code 17 = .ok (.iaload, 1) := by decide +kernel
theorem dA_laidByte_18 : decode prog_2_method_10_code 18 = .ok (.iload_n 2, 1) := by decide +kernel
theorem dA_laidByte_19 : decode prog_2_method_10_code 19 = .ok (.iadd, 1) := by decide +kernel
theorem dA_laidByte_20 : decode prog_2_method_10_code 20 = .ok (.invokevirtual 47, 3) := by decide +kernel
theorem dA_laidByte_23 : decode prog_2_method_10_code 23 = .ok (.goto 4, 3) := by decide +kernel
theorem dA_laidByte_26 : decode prog_2_method_10_code 26 = .ok (.iconst (-1), 1) := by decide +kernel
theorem dA_laidByte_27 : decode prog_2_method_10_code 27 = .ok (.ireturn, 1) := by decide +kernel
theorem dA_sum_0 : decode prog_2_method_4_code 0 = .ok (.aload_n 0, 1) := by decide +kernel
theorem dA_sum_1 : decode prog_2_method_4_code 1 = .ok (.getfield 33, 3) := by decide +kernel
theorem dA_sum_4 : decode prog_2_method_4_code 4 = .ok (.ireturn, 1) := by decide +kernel
theorem dR_isSame_0 : decode prog_4_method_13_code 0 = .ok (.aload_n 0, 1) := by decide +kernel
theorem dR_isSame_1 : decode prog_4_method_13_code 1 = .ok (.getfield 21, 3) := by decide +kernel
theorem dR_isSame_4 : decode prog_4_method_13_code 4 = .ok (.aload_n 1, 1) := by decide +kernel
theorem dR_isSame_5 : decode prog_4_method_13_code 5 = .ok (.getfield 21, 3) := by decide +kernel
theorem dR_isSame_8 : decode prog_4_method_13_code 8 = .ok (.if_icmp .ne 21, 3) := by decide +kernel
theorem dR_isSame_11 : decode prog_4_method_13_code 11 = .ok (.aload_n 0, 1) := by decide +kernel
theorem dR_isSame_12 : decode prog_4_method_13_code 12 = .ok (.iconst 0, 1) := by decide +kernel
theorem dR_isSame_13 : decode prog_4_method_13_code 13 = .ok (.aload_n 1, 1) := by decide +kernel
theorem dR_isSame_14 : decode prog_4_method_13_code 14 = .ok (.iconst 0, 1) := by decide +kernel
theorem dR_isSame_15 : decode prog_4_method_13_code 15 = .ok (.invokevirtual 37, 3) := by decide +kernel
theorem dR_isSame_18 : decode prog_4_method_13_code 18 = .ok (.aload_n 0, 1) := by decide +kernel
theorem dR_isSame_19 : decode prog_4_method_13_code 19 = .ok (.getfield 21, 3) := by decide +kernel
theorem dR_isSame_22 : decode prog_4_method_13_code 22 = .ok (.if_icmp .ne 7, 3) := by decide +kernel
theorem dR_isSame_25 : decode prog_4_method_13_code 25 = .ok (.iconst 1, 1) := by decide +kernel
theorem dR_isSame_26 : decode prog_4_method_13_code 26 = .ok (.goto 4, 3) := by decide +kernel
theorem dR_isSame_29 : decode prog_4_method_13_code 29 = .ok (.iconst 0, 1) := by decide +kernel
theorem dR_isSame_30 : decode prog_4_method_13_code 30 = .ok (.ireturn, 1) := by decide +kernel
theorem dR_set_0 : decode prog_4_method_6_code 0 = .ok (.aload_n 0, 1) := by decide +kernel
theorem dR_set_1 : decode prog_4_method_6_code 1 = .ok (.iload_n 1, 1) := by decide +kernel
theorem dR_set_2 : decode prog_4_method_6_code 2 = .ok (.invokevirtual 25, 3) := by decide +kernel
theorem dR_set_5 : decode prog_4_method_6_code 5 = .ok (.ifCond .eq 10, 3) := by decide +kernel
theorem dR_set_8 : decode prog_4_method_6_code 8 = .ok (.aload_n 0, 1) := by decide +kernel
theorem dR_set_9 : decode prog_4_method_6_code 9 = .ok (.getfield 15, 3) := by decide +kernel
theorem dR_set_12 : decode prog_4_method_6_code 12 = .ok (.iload_n 1, 1) := by decide +kernel
theorem dR_set_13 : decode prog_4_method_6_code 13 = .ok (.iload_n 2, 1) := by decide +kernel
theorem dR_set_14 : decode prog_4_method_6_code 14 = .ok (.iastore, 1) := by decide +kernel
theorem dR_set_15 : decode prog_4_method_6_code 15 = .ok (.return_, 1) := by decide +kernel
theorem dI_compare_0 : decode prog_8_method_40_code 0 = .ok (.iload_n 0, 1) := by decide +kernel
theorem dI_compare_1 : decode prog_8_method_40_code 1 = .ok (.iload_n 1, 1) := by decide +kernel
theorem dI_compare_2 : decode prog_8_method_40_code 2 = .ok (.if_icmp .ge 7, 3) := by decide +kernel
theorem dI_compare_5 : decode prog_8_method_40_code 5 = .ok (.iconst (-1), 1) := by decide +kernel
theorem dI_compare_6 : decode prog_8_method_40_code 6 = .ok (.goto 13, 3) := by decide +kernel
theorem dI_compare_9 : decode prog_8_method_40_code 9 = .ok (.iload_n 0, 1) := by decide +kernel
theorem dI_compare_10 : decode prog_8_method_40_code 10 = .ok (.iload_n 1, 1) := by decide +kernel
theorem dI_compare_11 : decode prog_8_method_40_code 11 = .ok (.if_icmp .ne 7, 3) := by decide +kernel
theorem dI_compare_14 : decode prog_8_method_40_code 14 = .ok (.iconst 0, 1) := by decide +kernel
theorem dI_compare_15 : decode prog_8_method_40_code 15 = .ok (.goto 4, 3) := by decide +kernel
theorem dI_compare_18 : decode prog_8_method_40_code 18 = .ok (.iconst 1, 1) := by decide +kernel
theorem dI_compare_19 : decode prog_8_method_40_code 19 = .ok (.ireturn, 1) := by decide +kernel
theorem dN_get_0 : decode prog_3_method_6_code 0 = .ok (.iload_n 1, 1) := by decide +kernel
theorem dN_get_1 : decode prog_3_method_6_code 1 = .ok (.tableswitch 60 0 4 #[35, 40, 45, 50, 55], 35) := by decide +kernel
theorem dN_get_36 : decode prog_3_method_6_code 36 = .ok (.aload_n 0, 1) := by decide +kernel
theorem dN_get_37 : decode prog_3_method_6_code 37 = .ok (.getfield 18, 3) := by decide +kernel
theorem dN_get_40 : decode prog_3_method_6_code 40 = .ok (.ireturn, 1) := by decide +kernel
theorem dN_get_41 : decode prog_3_method_6_code 41 = .ok (.aload_n 0, 1) := by decide +kernel
theorem dN_get_42 : decode prog_3_method_6_code 42 = .ok (.getfield 22, 3) := by decide +kernel
theorem dN_get_45 : decode prog_3_method_6_code 45 = .ok (.ireturn, 1) := by decide +kernel
theorem dN_get_46 : decode prog_3_method_6_code 46 = .ok (.aload_n 0, 1) := by decide +kernel
theorem dN_get_47 : decode prog_3_method_6_code 47 = .ok (.getfield 25, 3) := by decide +kernel
theorem dN_get_50 : decode prog_3_method_6_code 50 = .ok (.ireturn, 1) := by decide +kernel
theorem dN_get_51 : decode prog_3_method_6_code 51 = .ok (.aload_n 0, 1) := by decide +kernel
theorem dN_get_52 : decode prog_3_method_6_code 52 = .ok (.getfield 28, 3) := by decide +kernel
theorem dN_get_55 : decode prog_3_method_6_code 55 = .ok (.ireturn, 1) := by decide +kernel
theorem dN_get_56 : decode prog_3_method_6_code 56 = .ok (.aload_n 0, 1) := by decide +kernel
theorem dN_get_57 : decode prog_3_method_6_code 57 = .ok (.getfield 31, 3) := by decide +kernel
theorem dN_get_60 : decode prog_3_method_6_code 60 = .ok (.ireturn, 1) := by decide +kernel
theorem dN_get_61 : decode prog_3_method_6_code 61 = .ok (.bipush (-2), 2) := by decide +kernel
theorem dN_get_63 : decode prog_3_method_6_code 63 = .ok (.ireturn, 1) := by decide +kernel
end
section
theorem dC_init_0 : decode prog_1_method_1_code 0 = .ok (.aload_n 0, 1) := by decide +kernel
theorem dC_init_1 : decode prog_1_method_1_code 1 = .ok (.invokespecial 3, 3) := by decide +kernel
theorem dC_init_4 : decode prog_1_method_1_code 4 = .ok (.aload_n 0, 1) := by decide +kernel
theorem dC_init_5 : decode prog_1_method_1_code 5 = .ok (.new 9, 3) := by decide +kernel
theorem dC_init_8 : decode prog_1_method_1_code 8 = .ok (.dup, 1) := by decide +kernel
theorem dC_init_9 : decode prog_1_method_1_code 9 = .ok (.bipush 40, 2) := by decide +kernel
theorem dC_init_11 : decode prog_1_method_1_code 11 = .ok (.invokespecial 11, 3) := by decide +kernel
theorem dC_init_14 : decode prog_1_method_1_code 14 = .ok (.putfield 14, 3) := by decide +kernel
theorem dC_init_17 : decode prog_1_method_1_code 17 = .ok (.aload_n 0, 1) := by decide +kernel
theorem dC_init_18 : decode prog_1_method_1_code 18 = .ok (.new 9, 3) := by decide +kernel
theorem dC_init_21 : decode prog_1_method_1_code 21 = .ok (.dup, 1) := by decide +kernel
theorem dC_init_22 : decode prog_1_method_1_code 22 = .ok (.bipush 40, 2) := by decide +kernel
theorem dC_init_24 : decode prog_1_method_1_code 24 = .ok (.invokespecial 11, 3) := by decide +kernel
theorem dC_init_27 : decode prog_1_method_1_code 27 = .ok (.putfield 18, 3) := by decide +kernel
theorem dC_init_30 : decode prog_1_method_1_code 30 = .ok (.aload_n 0, 1) := by decide +kernel
theorem dC_init_31 : decode prog_1_method_1_code 31 = .ok (.new 9, 3) := by decide +kernel
theorem dC_init_34 : decode prog_1_method_1_code 34 = .ok (.dup, 1) := by decide +kernel
theorem dC_init_35 : decode prog_1_method_1_code 35 = .ok (.bipush 80, 2) := by decide +kernel
theorem dC_init_37 : decode prog_1_method_1_code 37 = .ok (.invokespecial 11, 3) := by decide +kernel
theorem dC_init_40 : decode prog_1_method_1_code 40 = .ok (.putfield 21, 3) := by decide +kernel
theorem dC_init_43 : decode prog_1_method_1_code 43 = .ok (.aload_n 0, 1) := by decide +kernel
theorem dC_init_44 : decode prog_1_method_1_code 44 = .ok (.new 9, 3) := by decide +kernel
theorem dC_init_47 : decode prog_1_method_1_code 47 = .ok (.dup, 1) := by decide +kernel
theorem dC_init_48 : decode prog_1_method_1_code 48 = .ok (.sipush 4102, 3) := by decide +kernel
theorem dC_init_51 : decode prog_1_method_1_code 51 = .ok (.invokespecial 11, 3) := by decide +kernel
theorem dC_init_54 : decode prog_1_method_1_code 54 = .ok (.putfield 24, 3) := by decide +kernel
theorem dC_init_57 : decode prog_1_method_1_code 57 = .ok (.aload_n 0, 1) := by decide +kernel
theorem dC_init_58 : decode prog_1_method_1_code 58 = .ok (.new 27, 3) := by decide +kernel
theorem dC_init_61 : decode prog_1_method_1_code 61 = .ok (.dup, 1) := by decide +kernel
theorem dC_init_62 : decode prog_1_method_1_code 62 = .ok (.invokespecial 29, 3) := by decide +kernel
theorem dC_init_65 : decode prog_1_method_1_code 65 = .ok (.putfield 30, 3) := by decide +kernel
theorem dC_init_68 : decode prog_1_method_1_code 68 = .ok (.aload_n 0, 1) := by decide +kernel
theorem dC_init_69 : decode prog_1_method_1_code 69 = .ok (.new 34, 3) := by decide +kernel
theorem dC_init_72 : decode prog_1_method_1_code 72 = .ok (.dup, 1) := by decide +kernel
theorem dC_init_73 : decode prog_1_method_1_code 73 = .ok (.invokespecial 36, 3) := by decide +kernel
theorem dC_init_76 : decode prog_1_method_1_code 76 = .ok (.putfield 37, 3) := by decide +kernel
theorem dC_init_79 : decode prog_1_method_1_code 79 = .ok (.aload_n 0, 1) := by decide +kernel
theorem dC_init_80 : decode prog_1_method_1_code 80 = .ok (.new 41, 3) := by decide +kernel
theorem dC_init_83 : decode prog_1_method_1_code 83 = .ok (.dup, 1) := by decide +kernel
theorem dC_init_84 : decode prog_1_method_1_code 84 = .ok (.aload_n 0, 1) := by decide +kernel
theorem dC_init_85 : decode prog_1_method_1_code 85 = .ok (.getfield 14, 3) := by decide +kernel
theorem dC_init_88 : decode prog_1_method_1_code 88 = .ok (.aload_n 0, 1) := by decide +kernel
theorem dC_init_89 : decode prog_1_method_1_code 89 = .ok (.getfield 18, 3) := by decide +kernel
theorem dC_init_92 : decode prog_1_method_1_code 92 = .ok (.aload_n 0, 1) := by decide +kernel
theorem dC_init_93 : decode prog_1_method_1_code 93 = .ok (.getfield 30, 3) := by decide +kernel
theorem dC_init_96 : decode prog_1_method_1_code 96 = .ok (.invokespecial 43, 3) := by decide +kernel
theorem dC_init_99 : decode prog_1_method_1_code 99 = .ok (.putfield 46, 3) := by decide +kernel
theorem dC_init_102 : decode prog_1_method_1_code 102 = .ok (.return_, 1) := by decide +kernel
theorem dC_clear_0 : decode prog_1_method_2_code 0 = .ok (.aload_n 0, 1) := by decide +kernel
theorem dC_clear_1 : decode prog_1_method_2_code 1 = .ok (.getfield 14, 3) := by decide +kernel
theorem dC_clear_4 : decode prog_1_method_2_code 4 = .ok (.invokevirtual 50, 3) := by decide +kernel
theorem dC_clear_7 : decode prog_1_method_2_code 7 = .ok (.aload_n 0, 1) := by decide +kernel
theorem dC_clear_8 : decode prog_1_method_2_code 8 = .ok (.getfield 18, 3) := by decide +kernel
theorem dC_clear_11 : decode prog_1_method_2_code 11 = .ok (.invokevirtual 50, 3) := by decide +kernel
theorem dC_clear_14 : decode prog_1_method_2_code 14 = .ok (.iadd, 1) := by decide +kernel
theorem dC_clear_15 : decode prog_1_method_2_code 15 = .ok (.istore_n 1, 1) := by decide +kernel
theorem dC_clear_16 : decode prog_1_method_2_code 16 = .ok (.aload_n 0, 1) := by decide +kernel
theorem dC_clear_17 : decode prog_1_method_2_code 17 = .ok (.getfield 14, 3) := by decide +kernel
theorem dC_clear_20 : decode prog_1_method_2_code 20 = .ok (.invokevirtual 54, 3) := by decide +kernel
theorem dC_clear_23 : decode prog_1_method_2_code 23 = .ok (.aload_n 0, 1) := by decide +kernel
theorem dC_clear_24 : decode prog_1_method_2_code 24 = .ok (.getfield 18, 3) := by decide +kernel
theorem dC_clear_27 : decode prog_1_method_2_code 27 = .ok (.invokevirtual 54, 3) := by decide +kernel
theorem dC_clear_30 : decode prog_1_method_2_code 30 = .ok (.aload_n 0, 1) := by decide +kernel
theorem dC_clear_31 : decode prog_1_method_2_code 31 = .ok (.getfield 21, 3) := by decide +kernel
theorem dC_clear_34 : decode prog_1_method_2_code 34 = .ok (.invokevirtual 54, 3) := by decide +kernel
theorem dC_clear_37 : decode prog_1_method_2_code 37 = .ok (.aload_n 0, 1) := by decide +kernel
theorem dC_clear_38 : decode prog_1_method_2_code 38 = .ok (.getfield 24, 3) := by decide +kernel
theorem dC_clear_41 : decode prog_1_method_2_code 41 = .ok (.invokevirtual 54, 3) := by decide +kernel
theorem dC_clear_44 : decode prog_1_method_2_code 44 = .ok (.aload_n 0, 1) := by decide +kernel
theorem dC_clear_45 : decode prog_1_method_2_code 45 = .ok (.getfield 30, 3) := by decide +kernel
theorem dC_clear_48 : decode prog_1_method_2_code 48 = .ok (.invokevirtual 57, 3) := by decide +kernel
theorem dC_clear_51 : decode prog_1_method_2_code 51 = .ok (.aload_n 0, 1) := by decide +kernel
theorem dC_clear_52 : decode prog_1_method_2_code 52 = .ok (.getfield 37, 3) := by decide +kernel
theorem dC_clear_55 : decode prog_1_method_2_code 55 = .ok (.iconst 1, 1) := by decide +kernel
theorem dC_clear_56 : decode prog_1_method_2_code 56 = .ok (.invokevirtual 60, 3) := by decide +kernel
theorem dC_clear_59 : decode prog_1_method_2_code 59 = .ok (.aload_n 0, 1) := by decide +kernel
theorem dC_clear_60 : decode prog_1_method_2_code 60 = .ok (.getfield 46, 3) := by decide +kernel
theorem dC_clear_63 : decode prog_1_method_2_code 63 = .ok (.invokevirtual 63, 3) := by decide +kernel
theorem dC_clear_66 : decode prog_1_method_2_code 66 = .ok (.iload_n 1, 1) := by decide +kernel
theorem dC_clear_67 : decode prog_1_method_2_code 67 = .ok (.ireturn, 1) := by decide +kernel
theorem dC_put_0 : decode prog_1_method_3_code 0 = .ok (.iload_n 1, 1) := by decide +kernel
theorem dC_put_1 : decode prog_1_method_3_code 1 = .ok (.invokestatic 66, 3) := by decide +kernel
theorem dC_put_4 : decode prog_1_method_3_code 4 = .ok (.ifCond .eq 10, 3) := by decide +kernel
theorem dC_put_7 : decode prog_1_method_3_code 7 = .ok (.iload_n 2, 1) := by decide +kernel
theorem dC_put_8 : decode prog_1_method_3_code 8 = .ok (.invokestatic 70, 3) := by decide +kernel
theorem dC_put_11 : decode prog_1_method_3_code 11 = .ok (.ifCond .ne 6, 3) := by decide +kernel
theorem dC_put_14 : decode prog_1_method_3_code 14 = .ok (.bipush (-2), 2) := by decide +kernel
theorem dC_put_16 : decode prog_1_method_3_code 16 = .ok (.ireturn, 1) := by decide +kernel
theorem dC_put_17 : decode prog_1_method_3_code 17 = .ok (.aload_n 0, 1) := by decide +kernel
theorem dC_put_18 : decode prog_1_method_3_code 18 = .ok (.iload_n 1, 1) := by decide +kernel
theorem dC_put_19 : decode prog_1_method_3_code 19 = .ok (.invokevirtual 73, 3) := by decide +kernel
theorem dC_put_22 : decode prog_1_method_3_code 22 = .ok (.astore_n 3, 1) := by decide +kernel
theorem dC_put_23 : decode prog_1_method_3_code 23 = .ok (.aload_n 3, 1) := by decide +kernel
theorem dC_put_24 : decode prog_1_method_3_code 24 = .ok (.invokevirtual 77, 3) := by decide +kernel
theorem dC_put_27 : decode prog_1_method_3_code 27 = .ok (.ifCond .eq 6, 3) := by decide +kernel
theorem dC_put_30 : decode prog_1_method_3_code 30 = .ok (.bipush (-3), 2) := by decide +kernel
theorem dC_put_32 : decode prog_1_method_3_code 32 = .ok (.ireturn, 1) := by decide +kernel
theorem dC_put_33 : decode prog_1_method_3_code 33 = .ok (.aload_n 3, 1) := by decide +kernel
theorem dC_put_34 : decode prog_1_method_3_code 34 = .ok (.iload_n 2, 1) := by decide +kernel
theorem dC_put_35 : decode prog_1_method_3_code 35 = .ok (.invokevirtual 81, 3) := by decide +kernel
theorem dC_put_38 : decode prog_1_method_3_code 38 = .ok (.aload_n 0, 1) := by decide +kernel
theorem dC_put_39 : decode prog_1_method_3_code 39 = .ok (.getfield 46, 3) := by decide +kernel
theorem dC_put_42 : decode prog_1_method_3_code 42 = .ok (.invokevirtual 63, 3) := by decide +kernel
theorem dC_put_45 : decode prog_1_method_3_code 45 = .ok (.aload_n 3, 1) := by decide +kernel
theorem dC_put_46 : decode prog_1_method_3_code 46 = .ok (.invokevirtual 50, 3) := by decide +kernel
theorem dC_put_49 : decode prog_1_method_3_code 49 = .ok (.ireturn, 1) := by decide +kernel
theorem dC_isText_0 : decode prog_1_method_27_code 0 = .ok (.iload_n 0, 1) := by decide +kernel
theorem dC_isText_1 : decode prog_1_method_27_code 1 = .ok (.ifCond .eq 8, 3) := by decide +kernel
theorem dC_isText_4 : decode prog_1_method_27_code 4 = .ok (.iload_n 0, 1) := by decide +kernel
theorem dC_isText_5 : decode prog_1_method_27_code 5 = .ok (.iconst 1, 1) := by decide +kernel
theorem dC_isText_6 : decode prog_1_method_27_code 6 = .ok (.if_icmp .ne 7, 3) := by decide +kernel
theorem dC_isText_9 : decode prog_1_method_27_code 9 = .ok (.iconst 1, 1) := by decide +kernel
theorem dC_isText_10 : decode prog_1_method_27_code 10 = .ok (.goto 4, 3) := by decide +kernel
theorem dC_isText_13 : decode prog_1_method_27_code 13 = .ok (.iconst 0, 1) := by decide +kernel
theorem dC_isText_14 : decode prog_1_method_27_code 14 = .ok (.ireturn, 1) := by decide +kernel
theorem dC_isByte_0 : decode prog_1_method_28_code 0 = .ok (.iload_n 0, 1) := by decide +kernel
theorem dC_isByte_1 : decode prog_1_method_28_code 1 = .ok (.ifCond .lt 14, 3) := by decide +kernel
theorem dC_isByte_4 : decode prog_1_method_28_code 4 = .ok (.iload_n 0, 1) := by decide +kernel
theorem dC_isByte_5 : decode prog_1_method_28_code 5 = .ok (.sipush 255, 3) := by decide +kernel
theorem dC_isByte_8 : decode prog_1_method_28_code 8 = .ok (.if_icmp .gt 7, 3) := by decide +kernel
theorem dC_isByte_11 : decode prog_1_method_28_code 11 = .ok (.iconst 1, 1) := by decide +kernel
theorem dC_isByte_12 : decode prog_1_method_28_code 12 = .ok (.goto 4, 3) := by decide +kernel
theorem dC_isByte_15 : decode prog_1_method_28_code 15 = .ok (.iconst 0, 1) := by decide +kernel
theorem dC_isByte_16 : decode prog_1_method_28_code 16 = .ok (.ireturn, 1) := by decide +kernel
theorem dC_textOf_0 : decode prog_1_method_30_code 0 = .ok (.iload_n 1, 1) := by decide +kernel
theorem dC_textOf_1 : decode prog_1_method_30_code 1 = .ok (.ifCond .ne 10, 3) := by decide +kernel
theorem dC_textOf_4 : decode prog_1_method_30_code 4 = .ok (.aload_n 0, 1) := by decide +kernel
theorem dC_textOf_5 : decode prog_1_method_30_code 5 = .ok (.getfield 14, 3) := by decide +kernel
theorem dC_textOf_8 : decode prog_1_method_30_code 8 = .ok (.goto 7, 3) := by decide +kernel
theorem dC_textOf_11 : decode prog_1_method_30_code 11 = .ok (.aload_n 0, 1) := by decide +kernel
theorem dC_textOf_12 : decode prog_1_method_30_code 12 = .ok (.getfield 18, 3) := by decide +kernel
theorem dC_textOf_15 : decode prog_1_method_30_code 15 = .ok (.areturn, 1) := by decide +kernel
theorem dC_cut_0 : decode prog_1_method_4_code 0 = .ok (.iload_n 1, 1) := by decide +kernel
theorem dC_cut_1 : decode prog_1_method_4_code 1 = .ok (.invokestatic 66, 3) := by decide +kernel
theorem dC_cut_4 : decode prog_1_method_4_code 4 = .ok (.ifCond .ne 6, 3) := by decide +kernel
theorem dC_cut_7 : decode prog_1_method_4_code 7 = .ok (.bipush (-2), 2) := by decide +kernel
theorem dC_cut_9 : decode prog_1_method_4_code 9 = .ok (.ireturn, 1) := by decide +kernel
theorem dC_cut_10 : decode prog_1_method_4_code 10 = .ok (.aload_n 0, 1) := by decide +kernel
theorem dC_cut_11 : decode prog_1_method_4_code 11 = .ok (.iload_n 1, 1) := by decide +kernel
theorem dC_cut_12 : decode prog_1_method_4_code 12 = .ok (.invokevirtual 73, 3) := by decide +kernel
theorem dC_cut_15 : decode prog_1_method_4_code 15 = .ok (.astore_n 3, 1) := by decide +kernel
theorem dC_cut_16 : decode prog_1_method_4_code 16 = .ok (.iload_n 2, 1) := by decide +kernel
theorem dC_cut_17 : decode prog_1_method_4_code 17 = .ok (.ifCond .lt 11, 3) := by decide +kernel
theorem dC_cut_20 : decode prog_1_method_4_code 20 = .ok (.iload_n 2, 1) := by decide +kernel
theorem dC_cut_21 : decode prog_1_method_4_code 21 = .ok (.aload_n 3, 1) := by decide +kernel
theorem dC_cut_22 : decode prog_1_method_4_code 22 = .ok (.invokevirtual 50, 3) := by decide +kernel
theorem dC_cut_25 : decode prog_1_method_4_code 25 = .ok (.if_icmp .le 6, 3) := by decide +kernel
theorem dC_cut_28 : decode prog_1_method_4_code 28 = .ok (.bipush (-2), 2) := by decide +kernel
theorem dC_cut_30 : decode prog_1_method_4_code 30 = .ok (.ireturn, 1) := by decide +kernel
theorem dC_cut_31 : decode prog_1_method_4_code 31 = .ok (.aload_n 3, 1) := by decide +kernel
theorem dC_cut_32 : decode prog_1_method_4_code 32 = .ok (.iload_n 2, 1) := by decide +kernel
theorem dC_cut_33 : decode prog_1_method_4_code 33 = .ok (.invokevirtual 84, 3) := by decide +kernel
theorem dC_cut_36 : decode prog_1_method_4_code 36 = .ok (.aload_n 0, 1) := by decide +kernel
theorem dC_cut_37 : decode prog_1_method_4_code 37 = .ok (.getfield 46, 3) := by decide +kernel
theorem dC_cut_40 : decode prog_1_method_4_code 40 = .ok (.invokevirtual 63, 3) := by decide +kernel
theorem dC_cut_43 : decode prog_1_method_4_code 43 = .ok (.aload_n 3, 1) := by decide +kernel
theorem dC_cut_44 : decode prog_1_method_4_code 44 = .ok (.invokevirtual 50, 3) := by decide +kernel
theorem dC_cut_47 : decode prog_1_method_4_code 47 = .ok (.ireturn, 1) := by decide +kernel
theorem dC_turn_0 : decode prog_1_method_5_code 0 = .ok (.aload_n 0, 1) := by decide +kernel
theorem dC_turn_1 : decode prog_1_method_5_code 1 = .ok (.getfield 14, 3) := by decide +kernel
theorem dC_turn_4 : decode prog_1_method_5_code 4 = .ok (.aload_n 0, 1) := by decide +kernel
theorem dC_turn_5 : decode prog_1_method_5_code 5 = .ok (.getfield 18, 3) := by decide +kernel
theorem dC_turn_8 : decode prog_1_method_5_code 8 = .ok (.invokevirtual 87, 3) := by decide +kernel
theorem dC_turn_11 : decode prog_1_method_5_code 11 = .ok (.aload_n 0, 1) := by decide +kernel
theorem dC_turn_12 : decode prog_1_method_5_code 12 = .ok (.getfield 46, 3) := by decide +kernel
theorem dC_turn_15 : decode prog_1_method_5_code 15 = .ok (.invokevirtual 63, 3) := by decide +kernel
theorem dC_turn_18 : decode prog_1_method_5_code 18 = .ok (.aload_n 0, 1) := by decide +kernel
theorem dC_turn_19 : decode prog_1_method_5_code 19 = .ok (.getfield 14, 3) := by decide +kernel
theorem dC_turn_22 : decode prog_1_method_5_code 22 = .ok (.invokevirtual 50, 3) := by decide +kernel
theorem dC_turn_25 : decode prog_1_method_5_code 25 = .ok (.ireturn, 1) := by decide +kernel
theorem dC_costs_0 : decode prog_1_method_6_code 0 = .ok (.iload_n 1, 1) := by decide +kernel
theorem dC_costs_1 : decode prog_1_method_6_code 1 = .ok (.invokestatic 91, 3) := by decide +kernel
theorem dC_costs_4 : decode prog_1_method_6_code 4 = .ok (.ifCond .eq 33, 3) := by decide +kernel
theorem dC_costs_7 : decode prog_1_method_6_code 7 = .ok (.iload_n 2, 1) := by decide +kernel
theorem dC_costs_8 : decode prog_1_method_6_code 8 = .ok (.invokestatic 91, 3) := by decide +kernel
theorem dC_costs_11 : decode prog_1_method_6_code 11 = .ok (.ifCond .eq 26, 3) := by decide +kernel
theorem dC_costs_14 : decode prog_1_method_6_code 14 = .ok (.iload_n 3, 1) := by decide +kernel
theorem dC_costs_15 : decode prog_1_method_6_code 15 = .ok (.invokestatic 91, 3) := by decide +kernel
theorem dC_costs_18 : decode prog_1_method_6_code 18 = .ok (.ifCond .eq 19, 3) := by decide +kernel
theorem dC_costs_21 : decode prog_1_method_6_code 21 = .ok (.iload 4, 2) := by decide +kernel
theorem dC_costs_23 : decode prog_1_method_6_code 23 = .ok (.invokestatic 91, 3) := by decide +kernel
theorem dC_costs_26 : decode prog_1_method_6_code 26 = .ok (.ifCond .eq 11, 3) := by decide +kernel
theorem dC_costs_29 : decode prog_1_method_6_code 29 = .ok (.iload 5, 2) := by decide +kernel
theorem dC_costs_31 : decode prog_1_method_6_code 31 = .ok (.invokestatic 91, 3) := by decide +kernel
theorem dC_costs_34 : decode prog_1_method_6_code 34 = .ok (.ifCond .ne 6, 3) := by decide +kernel
theorem dC_costs_37 : decode prog_1_method_6_code 37 = .ok (.bipush (-2), 2) := by decide +kernel
theorem dC_costs_39 : decode prog_1_method_6_code 39 = .ok (.ireturn, 1) := by decide +kernel
theorem dC_costs_40 : decode prog_1_method_6_code 40 = .ok (.aload_n 0, 1) := by decide +kernel
theorem dC_costs_41 : decode prog_1_method_6_code 41 = .ok (.getfield 30, 3) := by decide +kernel
theorem dC_costs_44 : decode prog_1_method_6_code 44 = .ok (.iload_n 1, 1) := by decide +kernel
theorem dC_costs_45 : decode prog_1_method_6_code 45 = .ok (.iload_n 2, 1) := by decide +kernel
theorem dC_costs_46 : decode prog_1_method_6_code 46 = .ok (.iload_n 3, 1) := by decide +kernel
theorem dC_costs_47 : decode prog_1_method_6_code 47 = .ok (.iload 4, 2) := by decide +kernel
theorem dC_costs_49 : decode prog_1_method_6_code 49 = .ok (.iload 5, 2) := by decide +kernel
theorem dC_costs_51 : decode prog_1_method_6_code 51 = .ok (.invokevirtual 94, 3) := by decide +kernel
theorem dC_costs_54 : decode prog_1_method_6_code 54 = .ok (.istore 6, 2) := by decide +kernel
theorem dC_costs_56 : decode prog_1_method_6_code 56 = .ok (.aload_n 0, 1) := by decide +kernel
theorem dC_costs_57 : decode prog_1_method_6_code 57 = .ok (.getfield 30, 3) := by decide +kernel
theorem dC_costs_60 : decode prog_1_method_6_code 60 = .ok (.iload_n 1, 1) := by decide +kernel
theorem dC_costs_61 : decode prog_1_method_6_code 61 = .ok (.iload_n 2, 1) := by decide +kernel
theorem dC_costs_62 : decode prog_1_method_6_code 62 = .ok (.iload_n 3, 1) := by decide +kernel
theorem dC_costs_63 : decode prog_1_method_6_code 63 = .ok (.iload 4, 2) := by decide +kernel
theorem dC_costs_65 : decode prog_1_method_6_code 65 = .ok (.iload 5, 2) := by decide +kernel
theorem dC_costs_67 : decode prog_1_method_6_code 67 = .ok (.invokevirtual 98, 3) := by decide +kernel
theorem dC_costs_70 : decode prog_1_method_6_code 70 = .ok (.aload_n 0, 1) := by decide +kernel
theorem dC_costs_71 : decode prog_1_method_6_code 71 = .ok (.getfield 46, 3) := by decide +kernel
theorem dC_costs_74 : decode prog_1_method_6_code 74 = .ok (.invokevirtual 63, 3) := by decide +kernel
theorem dC_costs_77 : decode prog_1_method_6_code 77 = .ok (.iload 6, 2) := by decide +kernel
theorem dC_costs_79 : decode prog_1_method_6_code 79 = .ok (.ireturn, 1) := by decide +kernel
theorem dC_isNumber_0 : decode prog_1_method_29_code 0 = .ok (.iload_n 0, 1) := by decide +kernel
theorem dC_isNumber_1 : decode prog_1_method_29_code 1 = .ok (.ifCond .lt 13, 3) := by decide +kernel
theorem dC_isNumber_4 : decode prog_1_method_29_code 4 = .ok (.iload_n 0, 1) := by decide +kernel
theorem dC_isNumber_5 : decode prog_1_method_29_code 5 = .ok (.bipush 100, 2) := by decide +kernel
theorem dC_isNumber_7 : decode prog_1_method_29_code 7 = .ok (.if_icmp .gt 7, 3) := by decide +kernel
theorem dC_isNumber_10 : decode prog_1_method_29_code 10 = .ok (.iconst 1, 1) := by decide +kernel
theorem dC_isNumber_11 : decode prog_1_method_29_code 11 = .ok (.goto 4, 3) := by decide +kernel
theorem dC_isNumber_14 : decode prog_1_method_29_code 14 = .ok (.iconst 0, 1) := by decide +kernel
theorem dC_isNumber_15 : decode prog_1_method_29_code 15 = .ok (.ireturn, 1) := by decide +kernel
theorem dC_plan_0 : decode prog_1_method_7_code 0 = .ok (.aload_n 0, 1) := by decide +kernel
theorem dC_plan_1 : decode prog_1_method_7_code 1 = .ok (.getfield 37, 3) := by decide +kernel
theorem dC_plan_4 : decode prog_1_method_7_code 4 = .ok (.aload_n 0, 1) := by decide +kernel
theorem dC_plan_5 : decode prog_1_method_7_code 5 = .ok (.getfield 14, 3) := by decide +kernel
theorem dC_plan_8 : decode prog_1_method_7_code 8 = .ok (.invokevirtual 102, 3) := by decide +kernel
theorem dC_plan_11 : decode prog_1_method_7_code 11 = .ok (.invokevirtual 60, 3) := by decide +kernel
theorem dC_plan_14 : decode prog_1_method_7_code 14 = .ok (.aload_n 0, 1) := by decide +kernel
theorem dC_plan_15 : decode prog_1_method_7_code 15 = .ok (.getfield 46, 3) := by decide +kernel
theorem dC_plan_18 : decode prog_1_method_7_code 18 = .ok (.invokevirtual 105, 3) := by decide +kernel
theorem dC_plan_21 : decode prog_1_method_7_code 21 = .ok (.iconst 0, 1) := by decide +kernel
theorem dC_plan_22 : decode prog_1_method_7_code 22 = .ok (.istore_n 1, 1) := by decide +kernel
theorem dC_plan_23 : decode prog_1_method_7_code 23 = .ok (.iload_n 1, 1) := by decide +kernel
theorem dC_plan_24 : decode prog_1_method_7_code 24 = .ok (.bipush 40, 2) := by decide +kernel
theorem dC_plan_26 : decode prog_1_method_7_code 26 = .ok (.if_icmp .ge 23, 3) := by decide +kernel
theorem dC_plan_29 : decode prog_1_method_7_code 29 = .ok (.aload_n 0, 1) := by decide +kernel
theorem dC_plan_30 : decode prog_1_method_7_code 30 = .ok (.getfield 46, 3) := by decide +kernel
theorem dC_plan_33 : decode prog_1_method_7_code 33 = .ok (.invokevirtual 107, 3) := by decide +kernel
theorem dC_plan_36 : decode prog_1_method_7_code 36 = .ok (.ifCond .eq 13, 3) := by decide +kernel
theorem dC_plan_39 : decode prog_1_method_7_code 39 = .ok (.aload_n 0, 1) := by decide +kernel
theorem dC_plan_40 : decode prog_1_method_7_code 40 = .ok (.invokevirtual 110, 3) := by decide +kernel
theorem dC_plan_43 : decode prog_1_method_7_code 43 = .ok (.iinc 1 1, 3) := by decide +kernel
theorem dC_plan_46 : decode prog_1_method_7_code 46 = .ok (.goto (-23), 3) := by decide +kernel
theorem dC_plan_49 : decode prog_1_method_7_code 49 = .ok (.aload_n 0, 1) := by decide +kernel
theorem dC_plan_50 : decode prog_1_method_7_code 50 = .ok (.getfield 37, 3) := by decide +kernel
theorem dC_plan_53 : decode prog_1_method_7_code 53 = .ok (.invokevirtual 113, 3) := by decide +kernel
theorem dC_plan_56 : decode prog_1_method_7_code 56 = .ok (.ireturn, 1) := by decide +kernel
theorem dC_takeFoundAct_0 : decode prog_1_method_32_code 0 = .ok (.aload_n 0, 1) := by decide +kernel
theorem dC_takeFoundAct_1 : decode prog_1_method_32_code 1 = .ok (.getfield 46, 3) := by decide +kernel
theorem dC_takeFoundAct_4 : decode prog_1_method_32_code 4 = .ok (.invokevirtual 203, 3) := by decide +kernel
theorem dC_takeFoundAct_7 : decode prog_1_method_32_code 7 = .ok (.iconst 2, 1) := by decide +kernel
theorem dC_takeFoundAct_8 : decode prog_1_method_32_code 8 = .ok (.if_icmp .eq 32, 3) := by decide +kernel
theorem dC_takeFoundAct_11 : decode prog_1_method_32_code 11 = .ok (.aload_n 0, 1) := by decide +kernel
theorem dC_takeFoundAct_12 : decode prog_1_method_32_code 12 = .ok (.getfield 37, 3) := by decide +kernel
theorem dC_takeFoundAct_15 : decode prog_1_method_32_code 15 = .ok (.aload_n 0, 1) := by decide +kernel
theorem dC_takeFoundAct_16 : decode prog_1_method_32_code 16 = .ok (.getfield 46, 3) := by decide +kernel
theorem dC_takeFoundAct_19 : decode prog_1_method_32_code 19 = .ok (.invokevirtual 203, 3) := by decide +kernel
theorem dC_takeFoundAct_22 : decode prog_1_method_32_code 22 = .ok (.aload_n 0, 1) := by decide +kernel
theorem dC_takeFoundAct_23 : decode prog_1_method_32_code 23 = .ok (.getfield 46, 3) := by decide +kernel
theorem dC_takeFoundAct_26 : decode prog_1_method_32_code 26 = .ok (.invokevirtual 206, 3) := by decide +kernel
theorem dC_takeFoundAct_29 : decode prog_1_method_32_code 29 = .ok (.aload_n 0, 1) := by decide +kernel
theorem dC_takeFoundAct_30 : decode prog_1_method_32_code 30 = .ok (.getfield 46, 3) := by decide +kernel
theorem dC_takeFoundAct_33 : decode prog_1_method_32_code 33 = .ok (.invokevirtual 190, 3) := by decide +kernel
theorem dC_takeFoundAct_36 : decode prog_1_method_32_code 36 = .ok (.invokevirtual 149, 3) := by decide +kernel
theorem dC_takeFoundAct_39 : decode prog_1_method_32_code 39 = .ok (.return_, 1) := by decide +kernel
theorem dC_takeFoundAct_40 : decode prog_1_method_32_code 40 = .ok (.aload_n 0, 1) := by decide +kernel
theorem dC_takeFoundAct_41 : decode prog_1_method_32_code 41 = .ok (.getfield 37, 3) := by decide +kernel
theorem dC_takeFoundAct_44 : decode prog_1_method_32_code 44 = .ok (.invokevirtual 155, 3) := by decide +kernel
theorem dC_takeFoundAct_47 : decode prog_1_method_32_code 47 = .ok (.iconst 0, 1) := by decide +kernel
theorem dC_takeFoundAct_48 : decode prog_1_method_32_code 48 = .ok (.istore_n 1, 1) := by decide +kernel
theorem dC_takeFoundAct_49 : decode prog_1_method_32_code 49 = .ok (.iload_n 1, 1) := by decide +kernel
theorem dC_takeFoundAct_50 : decode prog_1_method_32_code 50 = .ok (.aload_n 0, 1) := by decide +kernel
theorem dC_takeFoundAct_51 : decode prog_1_method_32_code 51 = .ok (.getfield 46, 3) := by decide +kernel
theorem dC_takeFoundAct_54 : decode prog_1_method_32_code 54 = .ok (.invokevirtual 190, 3) := by decide +kernel
theorem dC_takeFoundAct_57 : decode prog_1_method_32_code 57 = .ok (.if_icmp .ge 32, 3) := by decide +kernel
theorem dC_takeFoundAct_60 : decode prog_1_method_32_code 60 = .ok (.aload_n 0, 1) := by decide +kernel
theorem dC_takeFoundAct_61 : decode prog_1_method_32_code 61 = .ok (.getfield 37, 3) := by decide +kernel
theorem dC_takeFoundAct_64 : decode prog_1_method_32_code 64 = .ok (.aload_n 0, 1) := by decide +kernel
theorem dC_takeFoundAct_65 : decode prog_1_method_32_code 65 = .ok (.getfield 18, 3) := by decide +kernel
theorem dC_takeFoundAct_68 : decode prog_1_method_32_code 68 = .ok (.aload_n 0, 1) := by decide +kernel
theorem dC_takeFoundAct_69 : decode prog_1_method_32_code 69 = .ok (.getfield 46, 3) := by decide +kernel
theorem dC_takeFoundAct_72 : decode prog_1_method_32_code 72 = .ok (.invokevirtual 209, 3) := by decide +kernel
theorem dC_takeFoundAct_75 : decode prog_1_method_32_code 75 = .ok (.iload_n 1, 1) := by decide +kernel
theorem dC_takeFoundAct_76 : decode prog_1_method_32_code 76 = .ok (.iadd, 1) := by decide +kernel
theorem dC_takeFoundAct_77 : decode prog_1_method_32_code 77 = .ok (.invokevirtual 168, 3) := by decide +kernel
theorem dC_takeFoundAct_80 : decode prog_1_method_32_code 80 = .ok (.invokevirtual 158, 3) := by decide +kernel
theorem dC_takeFoundAct_83 : decode prog_1_method_32_code 83 = .ok (.iinc 1 1, 3) := by decide +kernel
theorem dC_takeFoundAct_86 : decode prog_1_method_32_code 86 = .ok (.goto (-37), 3) := by decide +kernel
theorem dC_takeFoundAct_89 : decode prog_1_method_32_code 89 = .ok (.return_, 1) := by decide +kernel
theorem dC_cost_0 : decode prog_1_method_8_code 0 = .ok (.iconst 0, 1) := by decide +kernel
theorem dC_cost_1 : decode prog_1_method_8_code 1 = .ok (.istore_n 1, 1) := by decide +kernel
theorem dC_cost_2 : decode prog_1_method_8_code 2 = .ok (.iconst 0, 1) := by decide +kernel
theorem dC_cost_3 : decode prog_1_method_8_code 3 = .ok (.istore_n 2, 1) := by decide +kernel
theorem dC_cost_4 : decode prog_1_method_8_code 4 = .ok (.iload_n 2, 1) := by decide +kernel
theorem dC_cost_5 : decode prog_1_method_8_code 5 = .ok (.aload_n 0, 1) := by decide +kernel
theorem dC_cost_6 : decode prog_1_method_8_code 6 = .ok (.getfield 37, 3) := by decide +kernel
theorem dC_cost_9 : decode prog_1_method_8_code 9 = .ok (.invokevirtual 113, 3) := by decide +kernel
theorem dC_cost_12 : decode prog_1_method_8_code 12 = .ok (.if_icmp .ge 17, 3) := by decide +kernel
theorem dC_cost_15 : decode prog_1_method_8_code 15 = .ok (.iload_n 1, 1) := by decide +kernel
theorem dC_cost_16 : decode prog_1_method_8_code 16 = .ok (.aload_n 0, 1) := by decide +kernel
theorem dC_cost_17 : decode prog_1_method_8_code 17 = .ok (.iload_n 2, 1) := by decide +kernel
theorem dC_cost_18 : decode prog_1_method_8_code 18 = .ok (.invokevirtual 114, 3) := by decide +kernel
theorem dC_cost_21 : decode prog_1_method_8_code 21 = .ok (.iadd, 1) := by decide +kernel
theorem dC_cost_22 : decode prog_1_method_8_code 22 = .ok (.istore_n 1, 1) := by decide +kernel
theorem dC_cost_23 : decode prog_1_method_8_code 23 = .ok (.iinc 2 1, 3) := by decide +kernel
theorem dC_cost_26 : decode prog_1_method_8_code 26 = .ok (.goto (-22), 3) := by decide +kernel
theorem dC_cost_29 : decode prog_1_method_8_code 29 = .ok (.iload_n 1, 1) := by decide +kernel
theorem dC_cost_30 : decode prog_1_method_8_code 30 = .ok (.ireturn, 1) := by decide +kernel
theorem dC_costOf_0 : decode prog_1_method_31_code 0 = .ok (.aload_n 0, 1) := by decide +kernel
theorem dC_costOf_1 : decode prog_1_method_31_code 1 = .ok (.getfield 37, 3) := by decide +kernel
theorem dC_costOf_4 : decode prog_1_method_31_code 4 = .ok (.iload_n 1, 1) := by decide +kernel
theorem dC_costOf_5 : decode prog_1_method_31_code 5 = .ok (.invokevirtual 133, 3) := by decide +kernel
theorem dC_costOf_8 : decode prog_1_method_31_code 8 = .ok (.lookupswitch 60 #[(0, 28), (1, 52)], 28) := by decide +kernel
theorem dC_costOf_36 : decode prog_1_method_31_code 36 = .ok (.aload_n 0, 1) := by decide +kernel
theorem dC_costOf_37 : decode prog_1_method_31_code 37 = .ok (.getfield 30, 3) := by decide +kernel
theorem dC_costOf_40 : decode prog_1_method_31_code 40 = .ok (.aload_n 0, 1) := by decide +kernel
theorem dC_costOf_41 : decode prog_1_method_31_code 41 = .ok (.getfield 37, 3) := by decide +kernel
theorem dC_costOf_44 : decode prog_1_method_31_code 44 = .ok (.iload_n 1, 1) := by decide +kernel
theorem dC_costOf_45 : decode prog_1_method_31_code 45 = .ok (.invokevirtual 139, 3) := by decide +kernel
theorem dC_costOf_48 : decode prog_1_method_31_code 48 = .ok (.aload_n 0, 1) := by decide +kernel
theorem dC_costOf_49 : decode prog_1_method_31_code 49 = .ok (.getfield 37, 3) := by decide +kernel
theorem dC_costOf_52 : decode prog_1_method_31_code 52 = .ok (.iload_n 1, 1) := by decide +kernel
theorem dC_costOf_53 : decode prog_1_method_31_code 53 = .ok (.invokevirtual 142, 3) := by decide +kernel
theorem dC_costOf_56 : decode prog_1_method_31_code 56 = .ok (.invokevirtual 194, 3) := by decide +kernel
theorem dC_costOf_59 : decode prog_1_method_31_code 59 = .ok (.ireturn, 1) := by decide +kernel
theorem dC_costOf_60 : decode prog_1_method_31_code 60 = .ok (.aload_n 0, 1) := by decide +kernel
theorem dC_costOf_61 : decode prog_1_method_31_code 61 = .ok (.getfield 30, 3) := by decide +kernel
theorem dC_costOf_64 : decode prog_1_method_31_code 64 = .ok (.invokevirtual 197, 3) := by decide +kernel
theorem dC_costOf_67 : decode prog_1_method_31_code 67 = .ok (.ireturn, 1) := by decide +kernel
theorem dC_costOf_68 : decode prog_1_method_31_code 68 = .ok (.aload_n 0, 1) := by decide +kernel
theorem dC_costOf_69 : decode prog_1_method_31_code 69 = .ok (.getfield 30, 3) := by decide +kernel
theorem dC_costOf_72 : decode prog_1_method_31_code 72 = .ok (.aload_n 0, 1) := by decide +kernel
theorem dC_costOf_73 : decode prog_1_method_31_code 73 = .ok (.getfield 37, 3) := by decide +kernel
theorem dC_costOf_76 : decode prog_1_method_31_code 76 = .ok (.iload_n 1, 1) := by decide +kernel
theorem dC_costOf_77 : decode prog_1_method_31_code 77 = .ok (.invokevirtual 136, 3) := by decide +kernel
theorem dC_costOf_80 : decode prog_1_method_31_code 80 = .ok (.invokevirtual 200, 3) := by decide +kernel
theorem dC_costOf_83 : decode prog_1_method_31_code 83 = .ok (.ireturn, 1) := by decide +kernel
theorem dC_rest_0 : decode prog_1_method_9_code 0 = .ok (.iload_n 1, 1) := by decide +kernel
theorem dC_rest_1 : decode prog_1_method_9_code 1 = .ok (.ifCond .lt 29, 3) := by decide +kernel
theorem dC_rest_4 : decode prog_1_method_9_code 4 = .ok (.iload_n 1, 1) := by decide +kernel
theorem dC_rest_5 : decode prog_1_method_9_code 5 = .ok (.aload_n 0, 1) := by decide +kernel
theorem dC_rest_6 : decode prog_1_method_9_code 6 = .ok (.getfield 18, 3) := by decide +kernel
theorem dC_rest_9 : decode prog_1_method_9_code 9 = .ok (.invokevirtual 50, 3) := by decide +kernel
theorem dC_rest_12 : decode prog_1_method_9_code 12 = .ok (.if_icmp .gt 18, 3) := by decide +kernel
theorem dC_rest_15 : decode prog_1_method_9_code 15 = .ok (.iload_n 2, 1) := by decide +kernel
theorem dC_rest_16 : decode prog_1_method_9_code 16 = .ok (.ifCond .lt 14, 3) := by decide +kernel
theorem dC_rest_19 : decode prog_1_method_9_code 19 = .ok (.iload_n 2, 1) := by decide +kernel
theorem dC_rest_20 : decode prog_1_method_9_code 20 = .ok (.aload_n 0, 1) := by decide +kernel
theorem dC_rest_21 : decode prog_1_method_9_code 21 = .ok (.getfield 14, 3) := by decide +kernel
theorem dC_rest_24 : decode prog_1_method_9_code 24 = .ok (.invokevirtual 50, 3) := by decide +kernel
theorem dC_rest_27 : decode prog_1_method_9_code 27 = .ok (.if_icmp .le 6, 3) := by decide +kernel
theorem dC_rest_30 : decode prog_1_method_9_code 30 = .ok (.bipush (-2), 2) := by decide +kernel
theorem dC_rest_32 : decode prog_1_method_9_code 32 = .ok (.ireturn, 1) := by decide +kernel
theorem dC_rest_33 : decode prog_1_method_9_code 33 = .ok (.aload_n 0, 1) := by decide +kernel
theorem dC_rest_34 : decode prog_1_method_9_code 34 = .ok (.getfield 46, 3) := by decide +kernel
theorem dC_rest_37 : decode prog_1_method_9_code 37 = .ok (.invokevirtual 118, 3) := by decide +kernel
theorem dC_rest_40 : decode prog_1_method_9_code 40 = .ok (.aload_n 0, 1) := by decide +kernel
theorem dC_rest_41 : decode prog_1_method_9_code 41 = .ok (.getfield 46, 3) := by decide +kernel
theorem dC_rest_44 : decode prog_1_method_9_code 44 = .ok (.iload_n 1, 1) := by decide +kernel
theorem dC_rest_45 : decode prog_1_method_9_code 45 = .ok (.iload_n 2, 1) := by decide +kernel
theorem dC_rest_46 : decode prog_1_method_9_code 46 = .ok (.invokevirtual 121, 3) := by decide +kernel
theorem dC_rest_49 : decode prog_1_method_9_code 49 = .ok (.ireturn, 1) := by decide +kernel
theorem dC_match_0 : decode prog_1_method_10_code 0 = .ok (.iload_n 1, 1) := by decide +kernel
theorem dC_match_1 : decode prog_1_method_10_code 1 = .ok (.invokestatic 66, 3) := by decide +kernel
theorem dC_match_4 : decode prog_1_method_10_code 4 = .ok (.ifCond .eq 26, 3) := by decide +kernel
theorem dC_match_7 : decode prog_1_method_10_code 7 = .ok (.aload_n 0, 1) := by decide +kernel
theorem dC_match_8 : decode prog_1_method_10_code 8 = .ok (.iload_n 1, 1) := by decide +kernel
theorem dC_match_9 : decode prog_1_method_10_code 9 = .ok (.invokevirtual 73, 3) := by decide +kernel
theorem dC_match_12 : decode prog_1_method_10_code 12 = .ok (.iload_n 2, 1) := by decide +kernel
theorem dC_match_13 : decode prog_1_method_10_code 13 = .ok (.invokevirtual 125, 3) := by decide +kernel
theorem dC_match_16 : decode prog_1_method_10_code 16 = .ok (.ifCond .eq 14, 3) := by decide +kernel
theorem dC_match_19 : decode prog_1_method_10_code 19 = .ok (.aload_n 0, 1) := by decide +kernel
theorem dC_match_20 : decode prog_1_method_10_code 20 = .ok (.getfield 18, 3) := by decide +kernel
theorem dC_match_23 : decode prog_1_method_10_code 23 = .ok (.iload_n 3, 1) := by decide +kernel
theorem dC_match_24 : decode prog_1_method_10_code 24 = .ok (.invokevirtual 125, 3) := by decide +kernel
theorem dC_match_27 : decode prog_1_method_10_code 27 = .ok (.ifCond .ne 6, 3) := by decide +kernel
theorem dC_match_30 : decode prog_1_method_10_code 30 = .ok (.bipush (-2), 2) := by decide +kernel
theorem dC_match_32 : decode prog_1_method_10_code 32 = .ok (.ireturn, 1) := by decide +kernel
theorem dC_match_33 : decode prog_1_method_10_code 33 = .ok (.aload_n 0, 1) := by decide +kernel
theorem dC_match_34 : decode prog_1_method_10_code 34 = .ok (.iload_n 1, 1) := by decide +kernel
theorem dC_match_35 : decode prog_1_method_10_code 35 = .ok (.invokevirtual 73, 3) := by decide +kernel
theorem dC_match_38 : decode prog_1_method_10_code 38 = .ok (.iload_n 2, 1) := by decide +kernel
theorem dC_match_39 : decode prog_1_method_10_code 39 = .ok (.aload_n 0, 1) := by decide +kernel
theorem dC_match_40 : decode prog_1_method_10_code 40 = .ok (.getfield 18, 3) := by decide +kernel
theorem dC_match_43 : decode prog_1_method_10_code 43 = .ok (.iload_n 3, 1) := by decide +kernel
theorem dC_match_44 : decode prog_1_method_10_code 44 = .ok (.invokevirtual 128, 3) := by decide +kernel
theorem dC_match_47 : decode prog_1_method_10_code 47 = .ok (.ireturn, 1) := by decide +kernel
theorem dC_act_0 : decode prog_1_method_11_code 0 = .ok (.aload_n 0, 1) := by decide +kernel
theorem dC_act_1 : decode prog_1_method_11_code 1 = .ok (.getfield 37, 3) := by decide +kernel
theorem dC_act_4 : decode prog_1_method_11_code 4 = .ok (.iload_n 1, 1) := by decide +kernel
theorem dC_act_5 : decode prog_1_method_11_code 5 = .ok (.invokevirtual 132, 3) := by decide +kernel
theorem dC_act_8 : decode prog_1_method_11_code 8 = .ok (.ifCond .ne 6, 3) := by decide +kernel
theorem dC_act_11 : decode prog_1_method_11_code 11 = .ok (.bipush (-2), 2) := by decide +kernel
theorem dC_act_13 : decode prog_1_method_11_code 13 = .ok (.ireturn, 1) := by decide +kernel
theorem dC_act_14 : decode prog_1_method_11_code 14 = .ok (.iload_n 2, 1) := by decide +kernel
theorem dC_act_15 : decode prog_1_method_11_code 15 = .ok (.tableswitch 75 0 4 #[33, 42, 51, 60, 69], 33) := by decide +kernel
theorem dC_act_48 : decode prog_1_method_11_code 48 = .ok (.aload_n 0, 1) := by decide +kernel
theorem dC_act_49 : decode prog_1_method_11_code 49 = .ok (.getfield 37, 3) := by decide +kernel
theorem dC_act_52 : decode prog_1_method_11_code 52 = .ok (.iload_n 1, 1) := by decide +kernel
theorem dC_act_53 : decode prog_1_method_11_code 53 = .ok (.invokevirtual 133, 3) := by decide +kernel
theorem dC_act_56 : decode prog_1_method_11_code 56 = .ok (.ireturn, 1) := by decide +kernel
theorem dC_act_57 : decode prog_1_method_11_code 57 = .ok (.aload_n 0, 1) := by decide +kernel
theorem dC_act_58 : decode prog_1_method_11_code 58 = .ok (.getfield 37, 3) := by decide +kernel
theorem dC_act_61 : decode prog_1_method_11_code 61 = .ok (.iload_n 1, 1) := by decide +kernel
theorem dC_act_62 : decode prog_1_method_11_code 62 = .ok (.invokevirtual 136, 3) := by decide +kernel
theorem dC_act_65 : decode prog_1_method_11_code 65 = .ok (.ireturn, 1) := by decide +kernel
theorem dC_act_66 : decode prog_1_method_11_code 66 = .ok (.aload_n 0, 1) := by decide +kernel
theorem dC_act_67 : decode prog_1_method_11_code 67 = .ok (.getfield 37, 3) := by decide +kernel
theorem dC_act_70 : decode prog_1_method_11_code 70 = .ok (.iload_n 1, 1) := by decide +kernel
theorem dC_act_71 : decode prog_1_method_11_code 71 = .ok (.invokevirtual 139, 3) := by decide +kernel
theorem dC_act_74 : decode prog_1_method_11_code 74 = .ok (.ireturn, 1) := by decide +kernel
theorem dC_act_75 : decode prog_1_method_11_code 75 = .ok (.aload_n 0, 1) := by decide +kernel
theorem dC_act_76 : decode prog_1_method_11_code 76 = .ok (.getfield 37, 3) := by decide +kernel
theorem dC_act_79 : decode prog_1_method_11_code 79 = .ok (.iload_n 1, 1) := by decide +kernel
theorem dC_act_80 : decode prog_1_method_11_code 80 = .ok (.invokevirtual 142, 3) := by decide +kernel
theorem dC_act_83 : decode prog_1_method_11_code 83 = .ok (.ireturn, 1) := by decide +kernel
theorem dC_act_84 : decode prog_1_method_11_code 84 = .ok (.aload_n 0, 1) := by decide +kernel
theorem dC_act_85 : decode prog_1_method_11_code 85 = .ok (.iload_n 1, 1) := by decide +kernel
theorem dC_act_86 : decode prog_1_method_11_code 86 = .ok (.invokevirtual 114, 3) := by decide +kernel
theorem dC_act_89 : decode prog_1_method_11_code 89 = .ok (.ireturn, 1) := by decide +kernel
theorem dC_act_90 : decode prog_1_method_11_code 90 = .ok (.bipush (-2), 2) := by decide +kernel
theorem dC_act_92 : decode prog_1_method_11_code 92 = .ok (.ireturn, 1) := by decide +kernel
theorem dC_laid_0 : decode prog_1_method_12_code 0 = .ok (.aload_n 0, 1) := by decide +kernel
theorem dC_laid_1 : decode prog_1_method_12_code 1 = .ok (.getfield 37, 3) := by decide +kernel
theorem dC_laid_4 : decode prog_1_method_12_code 4 = .ok (.iload_n 1, 1) := by decide +kernel
theorem dC_laid_5 : decode prog_1_method_12_code 5 = .ok (.invokevirtual 132, 3) := by decide +kernel
theorem dC_laid_8 : decode prog_1_method_12_code 8 = .ok (.ifCond .eq 31, 3) := by decide +kernel
theorem dC_laid_11 : decode prog_1_method_12_code 11 = .ok (.aload_n 0, 1) := by decide +kernel
theorem dC_laid_12 : decode prog_1_method_12_code 12 = .ok (.getfield 37, 3) := by decide +kernel
theorem dC_laid_15 : decode prog_1_method_12_code 15 = .ok (.iload_n 1, 1) := by decide +kernel
theorem dC_laid_16 : decode prog_1_method_12_code 16 = .ok (.invokevirtual 133, 3) := by decide +kernel
theorem dC_laid_19 : decode prog_1_method_12_code 19 = .ok (.iconst 2, 1) := by decide +kernel
theorem dC_laid_20 : decode prog_1_method_12_code 20 = .ok (.if_icmp .ne 19, 3) := by decide +kernel
theorem dC_laid_23 : decode prog_1_method_12_code 23 = .ok (.iload_n 2, 1) := by decide +kernel
theorem dC_laid_24 : decode prog_1_method_12_code 24 = .ok (.ifCond .lt 15, 3) := by decide +kernel
theorem dC_laid_27 : decode prog_1_method_12_code 27 = .ok (.iload_n 2, 1) := by decide +kernel
theorem dC_laid_28 : decode prog_1_method_12_code 28 = .ok (.aload_n 0, 1) := by decide +kernel
theorem dC_laid_29 : decode prog_1_method_12_code 29 = .ok (.getfield 37, 3) := by decide +kernel
theorem dC_laid_32 : decode prog_1_method_12_code 32 = .ok (.iload_n 1, 1) := by decide +kernel
theorem dC_laid_33 : decode prog_1_method_12_code 33 = .ok (.invokevirtual 136, 3) := by decide +kernel
theorem dC_laid_36 : decode prog_1_method_12_code 36 = .ok (.if_icmp .lt 6, 3) := by decide +kernel
theorem dC_laid_39 : decode prog_1_method_12_code 39 = .ok (.bipush (-2), 2) := by decide +kernel
theorem dC_laid_41 : decode prog_1_method_12_code 41 = .ok (.ireturn, 1) := by decide +kernel
theorem dC_laid_42 : decode prog_1_method_12_code 42 = .ok (.aload_n 0, 1) := by decide +kernel
theorem dC_laid_43 : decode prog_1_method_12_code 43 = .ok (.getfield 37, 3) := by decide +kernel
theorem dC_laid_46 : decode prog_1_method_12_code 46 = .ok (.iload_n 1, 1) := by decide +kernel
theorem dC_laid_47 : decode prog_1_method_12_code 47 = .ok (.iload_n 2, 1) := by decide +kernel
theorem dC_laid_48 : decode prog_1_method_12_code 48 = .ok (.invokevirtual 145, 3) := by decide +kernel
theorem dC_laid_51 : decode prog_1_method_12_code 51 = .ok (.ireturn, 1) := by decide +kernel
theorem dC_empty_0 : decode prog_1_method_13_code 0 = .ok (.aload_n 0, 1) := by decide +kernel
theorem dC_empty_1 : decode prog_1_method_13_code 1 = .ok (.getfield 37, 3) := by decide +kernel
theorem dC_empty_4 : decode prog_1_method_13_code 4 = .ok (.invokevirtual 113, 3) := by decide +kernel
theorem dC_empty_7 : decode prog_1_method_13_code 7 = .ok (.istore_n 1, 1) := by decide +kernel
theorem dC_empty_8 : decode prog_1_method_13_code 8 = .ok (.aload_n 0, 1) := by decide +kernel
theorem dC_empty_9 : decode prog_1_method_13_code 9 = .ok (.getfield 37, 3) := by decide +kernel
theorem dC_empty_12 : decode prog_1_method_13_code 12 = .ok (.aload_n 0, 1) := by decide +kernel
theorem dC_empty_13 : decode prog_1_method_13_code 13 = .ok (.getfield 14, 3) := by decide +kernel
theorem dC_empty_16 : decode prog_1_method_13_code 16 = .ok (.invokevirtual 102, 3) := by decide +kernel
theorem dC_empty_19 : decode prog_1_method_13_code 19 = .ok (.invokevirtual 60, 3) := by decide +kernel
theorem dC_empty_22 : decode prog_1_method_13_code 22 = .ok (.iload_n 1, 1) := by decide +kernel
theorem dC_empty_23 : decode prog_1_method_13_code 23 = .ok (.ireturn, 1) := by decide +kernel
theorem dC_add_0 : decode prog_1_method_14_code 0 = .ok (.iload_n 1, 1) := by decide +kernel
theorem dC_add_1 : decode prog_1_method_14_code 1 = .ok (.ifCond .eq 11, 3) := by decide +kernel
theorem dC_add_4 : decode prog_1_method_14_code 4 = .ok (.iload_n 1, 1) := by decide +kernel
theorem dC_add_5 : decode prog_1_method_14_code 5 = .ok (.iconst 1, 1) := by decide +kernel
theorem dC_add_6 : decode prog_1_method_14_code 6 = .ok (.if_icmp .eq 6, 3) := by decide +kernel
theorem dC_add_9 : decode prog_1_method_14_code 9 = .ok (.bipush (-2), 2) := by decide +kernel
theorem dC_add_11 : decode prog_1_method_14_code 11 = .ok (.ireturn, 1) := by decide +kernel
theorem dC_add_12 : decode prog_1_method_14_code 12 = .ok (.iload_n 2, 1) := by decide +kernel
theorem dC_add_13 : decode prog_1_method_14_code 13 = .ok (.ifCond .lt 20, 3) := by decide +kernel
theorem dC_add_16 : decode prog_1_method_14_code 16 = .ok (.iload_n 2, 1) := by decide +kernel
theorem dC_add_17 : decode prog_1_method_14_code 17 = .ok (.bipush 79, 2) := by decide +kernel
theorem dC_add_19 : decode prog_1_method_14_code 19 = .ok (.if_icmp .gt 14, 3) := by decide +kernel
theorem dC_add_22 : decode prog_1_method_14_code 22 = .ok (.iload_n 3, 1) := by decide +kernel
theorem dC_add_23 : decode prog_1_method_14_code 23 = .ok (.iconst 1, 1) := by decide +kernel
theorem dC_add_24 : decode prog_1_method_14_code 24 = .ok (.if_icmp .lt 9, 3) := by decide +kernel
theorem dC_add_27 : decode prog_1_method_14_code 27 = .ok (.iload_n 3, 1) := by decide +kernel
theorem dC_add_28 : decode prog_1_method_14_code 28 = .ok (.bipush 40, 2) := by decide +kernel
theorem dC_add_30 : decode prog_1_method_14_code 30 = .ok (.if_icmp .le 6, 3) := by decide +kernel
theorem dC_add_33 : decode prog_1_method_14_code 33 = .ok (.bipush (-2), 2) := by decide +kernel
theorem dC_add_35 : decode prog_1_method_14_code 35 = .ok (.ireturn, 1) := by decide +kernel
theorem dC_add_36 : decode prog_1_method_14_code 36 = .ok (.aload_n 0, 1) := by decide +kernel
theorem dC_add_37 : decode prog_1_method_14_code 37 = .ok (.getfield 37, 3) := by decide +kernel
theorem dC_add_40 : decode prog_1_method_14_code 40 = .ok (.invokevirtual 148, 3) := by decide +kernel
theorem dC_add_43 : decode prog_1_method_14_code 43 = .ok (.ifCond .eq 6, 3) := by decide +kernel
theorem dC_add_46 : decode prog_1_method_14_code 46 = .ok (.bipush (-3), 2) := by decide +kernel
theorem dC_add_48 : decode prog_1_method_14_code 48 = .ok (.ireturn, 1) := by decide +kernel
theorem dC_add_49 : decode prog_1_method_14_code 49 = .ok (.aload_n 0, 1) := by decide +kernel
theorem dC_add_50 : decode prog_1_method_14_code 50 = .ok (.getfield 37, 3) := by decide +kernel
theorem dC_add_53 : decode prog_1_method_14_code 53 = .ok (.iload_n 1, 1) := by decide +kernel
theorem dC_add_54 : decode prog_1_method_14_code 54 = .ok (.iload_n 2, 1) := by decide +kernel
theorem dC_add_55 : decode prog_1_method_14_code 55 = .ok (.iload_n 3, 1) := by decide +kernel
theorem dC_add_56 : decode prog_1_method_14_code 56 = .ok (.invokevirtual 149, 3) := by decide +kernel
theorem dC_add_59 : decode prog_1_method_14_code 59 = .ok (.aload_n 0, 1) := by decide +kernel
theorem dC_add_60 : decode prog_1_method_14_code 60 = .ok (.getfield 37, 3) := by decide +kernel
theorem dC_add_63 : decode prog_1_method_14_code 63 = .ok (.invokevirtual 113, 3) := by decide +kernel
theorem dC_add_66 : decode prog_1_method_14_code 66 = .ok (.ireturn, 1) := by decide +kernel
theorem dC_lay_0 : decode prog_1_method_15_code 0 = .ok (.iload_n 1, 1) := by decide +kernel
theorem dC_lay_1 : decode prog_1_method_15_code 1 = .ok (.invokestatic 70, 3) := by decide +kernel
theorem dC_lay_4 : decode prog_1_method_15_code 4 = .ok (.ifCond .ne 6, 3) := by decide +kernel
theorem dC_lay_7 : decode prog_1_method_15_code 7 = .ok (.bipush (-2), 2) := by decide +kernel
theorem dC_lay_9 : decode prog_1_method_15_code 9 = .ok (.ireturn, 1) := by decide +kernel
theorem dC_lay_10 : decode prog_1_method_15_code 10 = .ok (.aload_n 0, 1) := by decide +kernel
theorem dC_lay_11 : decode prog_1_method_15_code 11 = .ok (.getfield 37, 3) := by decide +kernel
theorem dC_lay_14 : decode prog_1_method_15_code 14 = .ok (.invokevirtual 152, 3) := by decide +kernel
theorem dC_lay_17 : decode prog_1_method_15_code 17 = .ok (.ifCond .ne 23, 3) := by decide +kernel
theorem dC_lay_20 : decode prog_1_method_15_code 20 = .ok (.aload_n 0, 1) := by decide +kernel
theorem dC_lay_21 : decode prog_1_method_15_code 21 = .ok (.getfield 37, 3) := by decide +kernel
theorem dC_lay_24 : decode prog_1_method_15_code 24 = .ok (.invokevirtual 148, 3) := by decide +kernel
theorem dC_lay_27 : decode prog_1_method_15_code 27 = .ok (.ifCond .eq 6, 3) := by decide +kernel
theorem dC_lay_30 : decode prog_1_method_15_code 30 = .ok (.bipush (-3), 2) := by decide +kernel
theorem dC_lay_32 : decode prog_1_method_15_code 32 = .ok (.ireturn, 1) := by decide +kernel
theorem dC_lay_33 : decode prog_1_method_15_code 33 = .ok (.aload_n 0, 1) := by decide +kernel
theorem dC_lay_34 : decode prog_1_method_15_code 34 = .ok (.getfield 37, 3) := by decide +kernel
theorem dC_lay_37 : decode prog_1_method_15_code 37 = .ok (.invokevirtual 155, 3) := by decide +kernel
theorem dC_lay_40 : decode prog_1_method_15_code 40 = .ok (.aload_n 0, 1) := by decide +kernel
theorem dC_lay_41 : decode prog_1_method_15_code 41 = .ok (.getfield 37, 3) := by decide +kernel
theorem dC_lay_44 : decode prog_1_method_15_code 44 = .ok (.iload_n 1, 1) := by decide +kernel
theorem dC_lay_45 : decode prog_1_method_15_code 45 = .ok (.invokevirtual 158, 3) := by decide +kernel
theorem dC_lay_48 : decode prog_1_method_15_code 48 = .ok (.aload_n 0, 1) := by decide +kernel
theorem dC_lay_49 : decode prog_1_method_15_code 49 = .ok (.getfield 37, 3) := by decide +kernel
theorem dC_lay_52 : decode prog_1_method_15_code 52 = .ok (.invokevirtual 113, 3) := by decide +kernel
theorem dC_lay_55 : decode prog_1_method_15_code 55 = .ok (.ireturn, 1) := by decide +kernel
theorem dC_make_0 : decode prog_1_method_16_code 0 = .ok (.aload_n 0, 1) := by decide +kernel
theorem dC_make_1 : decode prog_1_method_16_code 1 = .ok (.getfield 14, 3) := by decide +kernel
theorem dC_make_4 : decode prog_1_method_16_code 4 = .ok (.invokevirtual 102, 3) := by decide +kernel
theorem dC_make_7 : decode prog_1_method_16_code 7 = .ok (.aload_n 0, 1) := by decide +kernel
theorem dC_make_8 : decode prog_1_method_16_code 8 = .ok (.getfield 37, 3) := by decide +kernel
theorem dC_make_11 : decode prog_1_method_16_code 11 = .ok (.invokevirtual 161, 3) := by decide +kernel
theorem dC_make_14 : decode prog_1_method_16_code 14 = .ok (.if_icmp .eq 6, 3) := by decide +kernel
theorem dC_make_17 : decode prog_1_method_16_code 17 = .ok (.bipush (-4), 2) := by decide +kernel
theorem dC_make_19 : decode prog_1_method_16_code 19 = .ok (.ireturn, 1) := by decide +kernel
theorem dC_make_20 : decode prog_1_method_16_code 20 = .ok (.aload_n 0, 1) := by decide +kernel
theorem dC_make_21 : decode prog_1_method_16_code 21 = .ok (.getfield 21, 3) := by decide +kernel
theorem dC_make_24 : decode prog_1_method_16_code 24 = .ok (.invokevirtual 54, 3) := by decide +kernel
theorem dC_make_27 : decode prog_1_method_16_code 27 = .ok (.iconst 0, 1) := by decide +kernel
theorem dC_make_28 : decode prog_1_method_16_code 28 = .ok (.istore_n 1, 1) := by decide +kernel
theorem dC_make_29 : decode prog_1_method_16_code 29 = .ok (.iload_n 1, 1) := by decide +kernel
theorem dC_make_30 : decode prog_1_method_16_code 30 = .ok (.aload_n 0, 1) := by decide +kernel
theorem dC_make_31 : decode prog_1_method_16_code 31 = .ok (.getfield 37, 3) := by decide +kernel
theorem dC_make_34 : decode prog_1_method_16_code 34 = .ok (.invokevirtual 113, 3) := by decide +kernel
theorem dC_make_37 : decode prog_1_method_16_code 37 = .ok (.if_icmp .ge 28, 3) := by decide +kernel
theorem dC_make_40 : decode prog_1_method_16_code 40 = .ok (.aload_n 0, 1) := by decide +kernel
theorem dC_make_41 : decode prog_1_method_16_code 41 = .ok (.iload_n 1, 1) := by decide +kernel
theorem dC_make_42 : decode prog_1_method_16_code 42 = .ok (.invokevirtual 162, 3) := by decide +kernel
theorem dC_make_45 : decode prog_1_method_16_code 45 = .ok (.ifCond .eq 9, 3) := by decide +kernel
theorem dC_make_48 : decode prog_1_method_16_code 48 = .ok (.sipush (-1000), 3) := by decide +kernel
theorem dC_make_51 : decode prog_1_method_16_code 51 = .ok (.iload_n 1, 1) := by decide +kernel
theorem dC_make_52 : decode prog_1_method_16_code 52 = .ok (.isub, 1) := by decide +kernel
theorem dC_make_53 : decode prog_1_method_16_code 53 = .ok (.ireturn, 1) := by decide +kernel
theorem dC_make_54 : decode prog_1_method_16_code 54 = .ok (.aload_n 0, 1) := by decide +kernel
theorem dC_make_55 : decode prog_1_method_16_code 55 = .ok (.iload_n 1, 1) := by decide +kernel
theorem dC_make_56 : decode prog_1_method_16_code 56 = .ok (.invokevirtual 165, 3) := by decide +kernel
theorem dC_make_59 : decode prog_1_method_16_code 59 = .ok (.iinc 1 1, 3) := by decide +kernel
theorem dC_make_62 : decode prog_1_method_16_code 62 = .ok (.goto (-33), 3) := by decide +kernel
theorem dC_make_65 : decode prog_1_method_16_code 65 = .ok (.aload_n 0, 1) := by decide +kernel
theorem dC_make_66 : decode prog_1_method_16_code 66 = .ok (.getfield 21, 3) := by decide +kernel
theorem dC_make_69 : decode prog_1_method_16_code 69 = .ok (.invokevirtual 50, 3) := by decide +kernel
theorem dC_make_72 : decode prog_1_method_16_code 72 = .ok (.ireturn, 1) := by decide +kernel
theorem dC_fails_0 : decode prog_1_method_33_code 0 = .ok (.aload_n 0, 1) := by decide +kernel
theorem dC_fails_1 : decode prog_1_method_33_code 1 = .ok (.getfield 37, 3) := by decide +kernel
theorem dC_fails_4 : decode prog_1_method_33_code 4 = .ok (.iload_n 1, 1) := by decide +kernel
theorem dC_fails_5 : decode prog_1_method_33_code 5 = .ok (.invokevirtual 136, 3) := by decide +kernel
theorem dC_fails_8 : decode prog_1_method_33_code 8 = .ok (.istore_n 2, 1) := by decide +kernel
theorem dC_fails_9 : decode prog_1_method_33_code 9 = .ok (.aload_n 0, 1) := by decide +kernel
theorem dC_fails_10 : decode prog_1_method_33_code 10 = .ok (.getfield 21, 3) := by decide +kernel
theorem dC_fails_13 : decode prog_1_method_33_code 13 = .ok (.invokevirtual 50, 3) := by decide +kernel
theorem dC_fails_16 : decode prog_1_method_33_code 16 = .ok (.iload_n 2, 1) := by decide +kernel
theorem dC_fails_17 : decode prog_1_method_33_code 17 = .ok (.iadd, 1) := by decide +kernel
theorem dC_fails_18 : decode prog_1_method_33_code 18 = .ok (.bipush 80, 2) := by decide +kernel
theorem dC_fails_20 : decode prog_1_method_33_code 20 = .ok (.if_icmp .le 5, 3) := by decide +kernel
theorem dC_fails_23 : decode prog_1_method_33_code 23 = .ok (.iconst 1, 1) := by decide +kernel
theorem dC_fails_24 : decode prog_1_method_33_code 24 = .ok (.ireturn, 1) := by decide +kernel
theorem dC_fails_25 : decode prog_1_method_33_code 25 = .ok (.aload_n 0, 1) := by decide +kernel
theorem dC_fails_26 : decode prog_1_method_33_code 26 = .ok (.getfield 37, 3) := by decide +kernel
theorem dC_fails_29 : decode prog_1_method_33_code 29 = .ok (.iload_n 1, 1) := by decide +kernel
theorem dC_fails_30 : decode prog_1_method_33_code 30 = .ok (.invokevirtual 133, 3) := by decide +kernel
theorem dC_fails_33 : decode prog_1_method_33_code 33 = .ok (.lookupswitch 77 #[(0, 27), (1, 53)], 27) := by decide +kernel
theorem dC_fails_60 : decode prog_1_method_33_code 60 = .ok (.aload_n 0, 1) := by decide +kernel
theorem dC_fails_61 : decode prog_1_method_33_code 61 = .ok (.getfield 37, 3) := by decide +kernel
theorem dC_fails_64 : decode prog_1_method_33_code 64 = .ok (.iload_n 1, 1) := by decide +kernel
theorem dC_fails_65 : decode prog_1_method_33_code 65 = .ok (.invokevirtual 139, 3) := by decide +kernel
theorem dC_fails_68 : decode prog_1_method_33_code 68 = .ok (.iload_n 2, 1) := by decide +kernel
theorem dC_fails_69 : decode prog_1_method_33_code 69 = .ok (.iadd, 1) := by decide +kernel
theorem dC_fails_70 : decode prog_1_method_33_code 70 = .ok (.aload_n 0, 1) := by decide +kernel
theorem dC_fails_71 : decode prog_1_method_33_code 71 = .ok (.getfield 14, 3) := by decide +kernel
theorem dC_fails_74 : decode prog_1_method_33_code 74 = .ok (.invokevirtual 50, 3) := by decide +kernel
theorem dC_fails_77 : decode prog_1_method_33_code 77 = .ok (.if_icmp .le 7, 3) := by decide +kernel
theorem dC_fails_80 : decode prog_1_method_33_code 80 = .ok (.iconst 1, 1) := by decide +kernel
theorem dC_fails_81 : decode prog_1_method_33_code 81 = .ok (.goto 4, 3) := by decide +kernel
theorem dC_fails_84 : decode prog_1_method_33_code 84 = .ok (.iconst 0, 1) := by decide +kernel
theorem dC_fails_85 : decode prog_1_method_33_code 85 = .ok (.ireturn, 1) := by decide +kernel
theorem dC_fails_86 : decode prog_1_method_33_code 86 = .ok (.aload_n 0, 1) := by decide +kernel
theorem dC_fails_87 : decode prog_1_method_33_code 87 = .ok (.getfield 37, 3) := by decide +kernel
theorem dC_fails_90 : decode prog_1_method_33_code 90 = .ok (.iload_n 1, 1) := by decide +kernel
theorem dC_fails_91 : decode prog_1_method_33_code 91 = .ok (.invokevirtual 139, 3) := by decide +kernel
theorem dC_fails_94 : decode prog_1_method_33_code 94 = .ok (.aload_n 0, 1) := by decide +kernel
theorem dC_fails_95 : decode prog_1_method_33_code 95 = .ok (.getfield 21, 3) := by decide +kernel
theorem dC_fails_98 : decode prog_1_method_33_code 98 = .ok (.invokevirtual 50, 3) := by decide +kernel
theorem dC_fails_101 : decode prog_1_method_33_code 101 = .ok (.if_icmp .lt 7, 3) := by decide +kernel
theorem dC_fails_104 : decode prog_1_method_33_code 104 = .ok (.iconst 1, 1) := by decide +kernel
theorem dC_fails_105 : decode prog_1_method_33_code 105 = .ok (.goto 4, 3) := by decide +kernel
theorem dC_fails_108 : decode prog_1_method_33_code 108 = .ok (.iconst 0, 1) := by decide +kernel
theorem dC_fails_109 : decode prog_1_method_33_code 109 = .ok (.ireturn, 1) := by decide +kernel
theorem dC_fails_110 : decode prog_1_method_33_code 110 = .ok (.iconst 0, 1) := by decide +kernel
theorem dC_fails_111 : decode prog_1_method_33_code 111 = .ok (.ireturn, 1) := by decide +kernel
theorem dC_perform_0 : decode prog_1_method_34_code 0 = .ok (.iconst 0, 1) := by decide +kernel
theorem dC_perform_1 : decode prog_1_method_34_code 1 = .ok (.istore_n 2, 1) := by decide +kernel
theorem dC_perform_2 : decode prog_1_method_34_code 2 = .ok (.iload_n 2, 1) := by decide +kernel
theorem dC_perform_3 : decode prog_1_method_34_code 3 = .ok (.aload_n 0, 1) := by decide +kernel
theorem dC_perform_4 : decode prog_1_method_34_code 4 = .ok (.getfield 37, 3) := by decide +kernel
theorem dC_perform_7 : decode prog_1_method_34_code 7 = .ok (.iload_n 1, 1) := by decide +kernel
theorem dC_perform_8 : decode prog_1_method_34_code 8 = .ok (.invokevirtual 136, 3) := by decide +kernel
theorem dC_perform_11 : decode prog_1_method_34_code 11 = .ok (.if_icmp .ge 22, 3) := by decide +kernel
theorem dC_perform_14 : decode prog_1_method_34_code 14 = .ok (.aload_n 0, 1) := by decide +kernel
theorem dC_perform_15 : decode prog_1_method_34_code 15 = .ok (.getfield 21, 3) := by decide +kernel
theorem dC_perform_18 : decode prog_1_method_34_code 18 = .ok (.aload_n 0, 1) := by decide +kernel
theorem dC_perform_19 : decode prog_1_method_34_code 19 = .ok (.iload_n 1, 1) := by decide +kernel
theorem dC_perform_20 : decode prog_1_method_34_code 20 = .ok (.iload_n 2, 1) := by decide +kernel
theorem dC_perform_21 : decode prog_1_method_34_code 21 = .ok (.invokevirtual 212, 3) := by decide +kernel
theorem dC_perform_24 : decode prog_1_method_34_code 24 = .ok (.invokevirtual 81, 3) := by decide +kernel
theorem dC_perform_27 : decode prog_1_method_34_code 27 = .ok (.iinc 2 1, 3) := by decide +kernel
theorem dC_perform_30 : decode prog_1_method_34_code 30 = .ok (.goto (-28), 3) := by decide +kernel
theorem dC_perform_33 : decode prog_1_method_34_code 33 = .ok (.return_, 1) := by decide +kernel
theorem dC_byteOf_0 : decode prog_1_method_35_code 0 = .ok (.aload_n 0, 1) := by decide +kernel
theorem dC_byteOf_1 : decode prog_1_method_35_code 1 = .ok (.getfield 37, 3) := by decide +kernel
theorem dC_byteOf_4 : decode prog_1_method_35_code 4 = .ok (.iload_n 1, 1) := by decide +kernel
theorem dC_byteOf_5 : decode prog_1_method_35_code 5 = .ok (.invokevirtual 133, 3) := by decide +kernel
theorem dC_byteOf_8 : decode prog_1_method_35_code 8 = .ok (.lookupswitch 64 #[(0, 28), (1, 46)], 28) := by decide +kernel
theorem dC_byteOf_36 : decode prog_1_method_35_code 36 = .ok (.aload_n 0, 1) := by decide +kernel
theorem dC_byteOf_37 : decode prog_1_method_35_code 37 = .ok (.getfield 14, 3) := by decide +kernel
theorem dC_byteOf_40 : decode prog_1_method_35_code 40 = .ok (.aload_n 0, 1) := by decide +kernel
theorem dC_byteOf_41 : decode prog_1_method_35_code 41 = .ok (.getfield 37, 3) := by decide +kernel
theorem dC_byteOf_44 : decode prog_1_method_35_code 44 = .ok (.iload_n 1, 1) := by decide +kernel
theorem dC_byteOf_45 : decode prog_1_method_35_code 45 = .ok (.invokevirtual 139, 3) := by decide +kernel
theorem dC_byteOf_48 : decode prog_1_method_35_code 48 = .ok (.iload_n 2, 1) := by decide +kernel
theorem dC_byteOf_49 : decode prog_1_method_35_code 49 = .ok (.iadd, 1) := by decide +kernel
theorem dC_byteOf_50 : decode prog_1_method_35_code 50 = .ok (.invokevirtual 168, 3) := by decide +kernel
theorem dC_byteOf_53 : decode prog_1_method_35_code 53 = .ok (.ireturn, 1) := by decide +kernel
theorem dC_byteOf_54 : decode prog_1_method_35_code 54 = .ok (.aload_n 0, 1) := by decide +kernel
theorem dC_byteOf_55 : decode prog_1_method_35_code 55 = .ok (.getfield 21, 3) := by decide +kernel
theorem dC_byteOf_58 : decode prog_1_method_35_code 58 = .ok (.aload_n 0, 1) := by decide +kernel
theorem dC_byteOf_59 : decode prog_1_method_35_code 59 = .ok (.getfield 37, 3) := by decide +kernel
theorem dC_byteOf_62 : decode prog_1_method_35_code 62 = .ok (.iload_n 1, 1) := by decide +kernel
theorem dC_byteOf_63 : decode prog_1_method_35_code 63 = .ok (.invokevirtual 139, 3) := by decide +kernel
theorem dC_byteOf_66 : decode prog_1_method_35_code 66 = .ok (.iload_n 2, 1) := by decide +kernel
theorem dC_byteOf_67 : decode prog_1_method_35_code 67 = .ok (.iadd, 1) := by decide +kernel
theorem dC_byteOf_68 : decode prog_1_method_35_code 68 = .ok (.invokevirtual 168, 3) := by decide +kernel
theorem dC_byteOf_71 : decode prog_1_method_35_code 71 = .ok (.ireturn, 1) := by decide +kernel
theorem dC_byteOf_72 : decode prog_1_method_35_code 72 = .ok (.aload_n 0, 1) := by decide +kernel
theorem dC_byteOf_73 : decode prog_1_method_35_code 73 = .ok (.getfield 37, 3) := by decide +kernel
theorem dC_byteOf_76 : decode prog_1_method_35_code 76 = .ok (.iload_n 1, 1) := by decide +kernel
theorem dC_byteOf_77 : decode prog_1_method_35_code 77 = .ok (.iload_n 2, 1) := by decide +kernel
theorem dC_byteOf_78 : decode prog_1_method_35_code 78 = .ok (.invokevirtual 145, 3) := by decide +kernel
theorem dC_byteOf_81 : decode prog_1_method_35_code 81 = .ok (.ireturn, 1) := by decide +kernel
theorem dC_made_0 : decode prog_1_method_17_code 0 = .ok (.aload_n 0, 1) := by decide +kernel
theorem dC_made_1 : decode prog_1_method_17_code 1 = .ok (.getfield 21, 3) := by decide +kernel
theorem dC_made_4 : decode prog_1_method_17_code 4 = .ok (.iload_n 1, 1) := by decide +kernel
theorem dC_made_5 : decode prog_1_method_17_code 5 = .ok (.invokevirtual 168, 3) := by decide +kernel
theorem dC_made_8 : decode prog_1_method_17_code 8 = .ok (.ireturn, 1) := by decide +kernel
theorem dC_isNew_0 : decode prog_1_method_18_code 0 = .ok (.aload_n 0, 1) := by decide +kernel
theorem dC_isNew_1 : decode prog_1_method_18_code 1 = .ok (.getfield 21, 3) := by decide +kernel
theorem dC_isNew_4 : decode prog_1_method_18_code 4 = .ok (.aload_n 0, 1) := by decide +kernel
theorem dC_isNew_5 : decode prog_1_method_18_code 5 = .ok (.getfield 18, 3) := by decide +kernel
theorem dC_isNew_8 : decode prog_1_method_18_code 8 = .ok (.invokevirtual 171, 3) := by decide +kernel
theorem dC_isNew_11 : decode prog_1_method_18_code 11 = .ok (.ifCond .eq 7, 3) := by decide +kernel
theorem dC_isNew_14 : decode prog_1_method_18_code 14 = .ok (.iconst 1, 1) := by decide +kernel
theorem dC_isNew_15 : decode prog_1_method_18_code 15 = .ok (.goto 4, 3) := by decide +kernel
theorem dC_isNew_18 : decode prog_1_method_18_code 18 = .ok (.iconst 0, 1) := by decide +kernel
theorem dC_isNew_19 : decode prog_1_method_18_code 19 = .ok (.ireturn, 1) := by decide +kernel
theorem dC_write_0 : decode prog_1_method_19_code 0 = .ok (.aload_n 0, 1) := by decide +kernel
theorem dC_write_1 : decode prog_1_method_19_code 1 = .ok (.getfield 24, 3) := by decide +kernel
theorem dC_write_4 : decode prog_1_method_19_code 4 = .ok (.invokevirtual 54, 3) := by decide +kernel
theorem dC_write_7 : decode prog_1_method_19_code 7 = .ok (.aload_n 0, 1) := by decide +kernel
theorem dC_write_8 : decode prog_1_method_19_code 8 = .ok (.getfield 24, 3) := by decide +kernel
theorem dC_write_11 : decode prog_1_method_19_code 11 = .ok (.aload_n 0, 1) := by decide +kernel
theorem dC_write_12 : decode prog_1_method_19_code 12 = .ok (.getfield 37, 3) := by decide +kernel
theorem dC_write_15 : decode prog_1_method_19_code 15 = .ok (.invokevirtual 161, 3) := by decide +kernel
theorem dC_write_18 : decode prog_1_method_19_code 18 = .ok (.sipush 256, 3) := by decide +kernel
theorem dC_write_21 : decode prog_1_method_19_code 21 = .ok (.idiv, 1) := by decide +kernel
theorem dC_write_22 : decode prog_1_method_19_code 22 = .ok (.invokevirtual 81, 3) := by decide +kernel
theorem dC_write_25 : decode prog_1_method_19_code 25 = .ok (.aload_n 0, 1) := by decide +kernel
theorem dC_write_26 : decode prog_1_method_19_code 26 = .ok (.getfield 24, 3) := by decide +kernel
theorem dC_write_29 : decode prog_1_method_19_code 29 = .ok (.aload_n 0, 1) := by decide +kernel
theorem dC_write_30 : decode prog_1_method_19_code 30 = .ok (.getfield 37, 3) := by decide +kernel
theorem dC_write_33 : decode prog_1_method_19_code 33 = .ok (.invokevirtual 161, 3) := by decide +kernel
theorem dC_write_36 : decode prog_1_method_19_code 36 = .ok (.sipush 256, 3) := by decide +kernel
theorem dC_write_39 : decode prog_1_method_19_code 39 = .ok (.irem, 1) := by decide +kernel
theorem dC_write_40 : decode prog_1_method_19_code 40 = .ok (.invokevirtual 81, 3) := by decide +kernel
theorem dC_write_43 : decode prog_1_method_19_code 43 = .ok (.iconst 0, 1) := by decide +kernel
theorem dC_write_44 : decode prog_1_method_19_code 44 = .ok (.istore_n 1, 1) := by decide +kernel
theorem dC_write_45 : decode prog_1_method_19_code 45 = .ok (.iload_n 1, 1) := by decide +kernel
theorem dC_write_46 : decode prog_1_method_19_code 46 = .ok (.aload_n 0, 1) := by decide +kernel
theorem dC_write_47 : decode prog_1_method_19_code 47 = .ok (.getfield 37, 3) := by decide +kernel
theorem dC_write_50 : decode prog_1_method_19_code 50 = .ok (.invokevirtual 113, 3) := by decide +kernel
theorem dC_write_53 : decode prog_1_method_19_code 53 = .ok (.if_icmp .ge 14, 3) := by decide +kernel
theorem dC_write_56 : decode prog_1_method_19_code 56 = .ok (.aload_n 0, 1) := by decide +kernel
theorem dC_write_57 : decode prog_1_method_19_code 57 = .ok (.iload_n 1, 1) := by decide +kernel
theorem dC_write_58 : decode prog_1_method_19_code 58 = .ok (.invokevirtual 175, 3) := by decide +kernel
theorem dC_write_61 : decode prog_1_method_19_code 61 = .ok (.iinc 1 1, 3) := by decide +kernel
theorem dC_write_64 : decode prog_1_method_19_code 64 = .ok (.goto (-19), 3) := by decide +kernel
theorem dC_write_67 : decode prog_1_method_19_code 67 = .ok (.aload_n 0, 1) := by decide +kernel
theorem dC_write_68 : decode prog_1_method_19_code 68 = .ok (.getfield 24, 3) := by decide +kernel
end
section
theorem dL_law_0 : decode code 0 = .ok (.new 7, 3) := by decide +kernel
theorem dL_law_3 : decode code 3 = .ok (.dup, 1) := by decide +kernel
theorem dL_law_4 : decode code 4 = .ok (.invokespecial 9, 3) := by decide +kernel
theorem dL_law_7 : decode code 7 = .ok (.astore_n 1, 1) := by decide +kernel
theorem dL_law_8 : decode code 8 = .ok (.new 10, 3) := by decide +kernel
theorem dL_law_11 : decode code 11 = .ok (.dup, 1) := by decide +kernel
theorem dL_law_12 : decode code 12 = .ok (.invokespecial 12, 3) := by decide +kernel
theorem dL_law_15 : decode code 15 = .ok (.astore_n 2, 1) := by decide +kernel
theorem dL_law_16 : decode code 16 = .ok (.iconst 0, 1) := by decide +kernel
theorem dL_law_17 : decode code 17 = .ok (.istore_n 3, 1) := by decide +kernel
theorem dL_law_18 : decode code 18 = .ok (.iload_n 3, 1) := by decide +kernel
theorem dL_law_19 : decode code 19 = .ok (.aload_n 0, 1) := by decide +kernel
theorem dL_law_20 : decode code 20 = .ok (.arraylength, 1) := by decide +kernel
theorem dL_law_21 : decode code 21 = .ok (.bipush 6, 2) := by decide +kernel
theorem dL_law_23 : decode code 23 = .ok (.isub, 1) := by decide +kernel
theorem dL_law_24 : decode code 24 = .ok (.if_icmp .gt 765, 3) := by decide +kernel
theorem dL_law_27 : decode code 27 = .ok (.aload_n 0, 1) := by decide +kernel
theorem dL_law_28 : decode code 28 = .ok (.iload_n 3, 1) := by decide +kernel
theorem dL_law_29 : decode code 29 = .ok (.iaload, 1) := by decide +kernel
theorem dL_law_30 : decode code 30 = .ok (.bipush 31, 2) := by decide +kernel
theorem dL_law_32 : decode code 32 = .ok (.iand, 1) := by decide +kernel
theorem dL_law_33 : decode code 33 = .ok (.tableswitch 750 0 24 #[115, 128, 161, 194, 207, 270, 283, 296, 329, 372, 405, 438, 451, 494, 517, 530, 553, 566, 579, 602, 635, 658, 671, 694, 717], 115) := by decide +kernel
theorem dL_law_148 : decode code 148 = .ok (.aload_n 1, 1) := by decide +kernel
theorem dL_law_149 : decode code 149 = .ok (.invokevirtual 13, 3) := by decide +kernel
theorem dL_law_152 : decode code 152 = .ok (.aload_n 2, 1) := by decide +kernel
theorem dL_law_153 : decode code 153 = .ok (.invokevirtual 17, 3) := by decide +kernel
theorem dL_law_156 : decode code 156 = .ok (.if_icmp .eq 627, 3) := by decide +kernel
theorem dL_law_159 : decode code 159 = .ok (.iconst 0, 1) := by decide +kernel
theorem dL_law_160 : decode code 160 = .ok (.ireturn, 1) := by decide +kernel
theorem dL_law_161 : decode code 161 = .ok (.aload_n 1, 1) := by decide +kernel
theorem dL_law_162 : decode code 162 = .ok (.aload_n 0, 1) := by decide +kernel
theorem dL_law_163 : decode code 163 = .ok (.iload_n 3, 1) := by decide +kernel
theorem dL_law_164 : decode code 164 = .ok (.iconst 1, 1) := by decide +kernel
theorem dL_law_165 : decode code 165 = .ok (.iadd, 1) := by decide +kernel
theorem dL_law_166 : decode code 166 = .ok (.iaload, 1) := by decide +kernel
theorem dL_law_167 : decode code 167 = .ok (.aload_n 0, 1) := by decide +kernel
theorem dL_law_168 : decode code 168 = .ok (.iload_n 3, 1) := by decide +kernel
theorem dL_law_169 : decode code 169 = .ok (.iconst 2, 1) := by decide +kernel
theorem dL_law_170 : decode code 170 = .ok (.iadd, 1) := by decide +kernel
theorem dL_law_171 : decode code 171 = .ok (.iaload, 1) := by decide +kernel
theorem dL_law_172 : decode code 172 = .ok (.invokevirtual 18, 3) := by decide +kernel
theorem dL_law_175 : decode code 175 = .ok (.aload_n 2, 1) := by decide +kernel
theorem dL_law_176 : decode code 176 = .ok (.aload_n 0, 1) := by decide +kernel
theorem dL_law_177 : decode code 177 = .ok (.iload_n 3, 1) := by decide +kernel
theorem dL_law_178 : decode code 178 = .ok (.iconst 1, 1) := by decide +kernel
theorem dL_law_179 : decode code 179 = .ok (.iadd, 1) := by decide +kernel
theorem dL_law_180 : decode code 180 = .ok (.iaload, 1) := by decide +kernel
theorem dL_law_181 : decode code 181 = .ok (.aload_n 0, 1) := by decide +kernel
theorem dL_law_182 : decode code 182 = .ok (.iload_n 3, 1) := by decide +kernel
theorem dL_law_183 : decode code 183 = .ok (.iconst 2, 1) := by decide +kernel
theorem dL_law_184 : decode code 184 = .ok (.iadd, 1) := by decide +kernel
theorem dL_law_185 : decode code 185 = .ok (.iaload, 1) := by decide +kernel
theorem dL_law_186 : decode code 186 = .ok (.invokevirtual 22, 3) := by decide +kernel
theorem dL_law_189 : decode code 189 = .ok (.if_icmp .eq 594, 3) := by decide +kernel
theorem dL_law_192 : decode code 192 = .ok (.iconst 0, 1) := by decide +kernel
theorem dL_law_193 : decode code 193 = .ok (.ireturn, 1) := by decide +kernel
theorem dL_law_194 : decode code 194 = .ok (.aload_n 1, 1) := by decide +kernel
theorem dL_law_195 : decode code 195 = .ok (.aload_n 0, 1) := by decide +kernel
theorem dL_law_196 : decode code 196 = .ok (.iload_n 3, 1) := by decide +kernel
theorem dL_law_197 : decode code 197 = .ok (.iconst 1, 1) := by decide +kernel
theorem dL_law_198 : decode code 198 = .ok (.iadd, 1) := by decide +kernel
theorem dL_law_199 : decode code 199 = .ok (.iaload, 1) := by decide +kernel
theorem dL_law_200 : decode code 200 = .ok (.aload_n 0, 1) := by decide +kernel
theorem dL_law_201 : decode code 201 = .ok (.iload_n 3, 1) := by decide +kernel
theorem dL_law_202 : decode code 202 = .ok (.iconst 2, 1) := by decide +kernel
theorem dL_law_203 : decode code 203 = .ok (.iadd, 1) := by decide +kernel
theorem dL_law_204 : decode code 204 = .ok (.iaload, 1) := by decide +kernel
theorem dL_law_205 : decode code 205 = .ok (.invokevirtual 23, 3) := by decide +kernel
theorem dL_law_208 : decode code 208 = .ok (.aload_n 2, 1) := by decide +kernel
theorem dL_law_209 : decode code 209 = .ok (.aload_n 0, 1) := by decide +kernel
theorem dL_law_210 : decode code 210 = .ok (.iload_n 3, 1) := by decide +kernel
theorem dL_law_211 : decode code 211 = .ok (.iconst 1, 1) := by decide +kernel
theorem dL_law_212 : decode code 212 = .ok (.iadd, 1) := by decide +kernel
theorem dL_law_213 : decode code 213 = .ok (.iaload, 1) := by decide +kernel
theorem dL_law_214 : decode code 214 = .ok (.aload_n 0, 1) := by decide +kernel
theorem dL_law_215 : decode code 215 = .ok (.iload_n 3, 1) := by decide +kernel
theorem dL_law_216 : decode code 216 = .ok (.iconst 2, 1) := by decide +kernel
theorem dL_law_217 : decode code 217 = .ok (.iadd, 1) := by decide +kernel
theorem dL_law_218 : decode code 218 = .ok (.iaload, 1) := by decide +kernel
theorem dL_law_219 : decode code 219 = .ok (.invokevirtual 26, 3) := by decide +kernel
theorem dL_law_222 : decode code 222 = .ok (.if_icmp .eq 561, 3) := by decide +kernel
theorem dL_law_225 : decode code 225 = .ok (.iconst 0, 1) := by decide +kernel
theorem dL_law_226 : decode code 226 = .ok (.ireturn, 1) := by decide +kernel
theorem dL_law_227 : decode code 227 = .ok (.aload_n 1, 1) := by decide +kernel
theorem dL_law_228 : decode code 228 = .ok (.invokevirtual 27, 3) := by decide +kernel
theorem dL_law_231 : decode code 231 = .ok (.aload_n 2, 1) := by decide +kernel
theorem dL_law_232 : decode code 232 = .ok (.invokevirtual 30, 3) := by decide +kernel
theorem dL_law_235 : decode code 235 = .ok (.if_icmp .eq 548, 3) := by decide +kernel
theorem dL_law_238 : decode code 238 = .ok (.iconst 0, 1) := by decide +kernel
theorem dL_law_239 : decode code 239 = .ok (.ireturn, 1) := by decide +kernel
theorem dL_law_240 : decode code 240 = .ok (.aload_n 1, 1) := by decide +kernel
theorem dL_law_241 : decode code 241 = .ok (.aload_n 0, 1) := by decide +kernel
theorem dL_law_242 : decode code 242 = .ok (.iload_n 3, 1) := by decide +kernel
theorem dL_law_243 : decode code 243 = .ok (.iconst 1, 1) := by decide +kernel
theorem dL_law_244 : decode code 244 = .ok (.iadd, 1) := by decide +kernel
theorem dL_law_245 : decode code 245 = .ok (.iaload, 1) := by decide +kernel
theorem dL_law_246 : decode code 246 = .ok (.aload_n 0, 1) := by decide +kernel
theorem dL_law_247 : decode code 247 = .ok (.iload_n 3, 1) := by decide +kernel
theorem dL_law_248 : decode code 248 = .ok (.iconst 2, 1) := by decide +kernel
theorem dL_law_249 : decode code 249 = .ok (.iadd, 1) := by decide +kernel
theorem dL_law_250 : decode code 250 = .ok (.iaload, 1) := by decide +kernel
theorem dL_law_251 : decode code 251 = .ok (.aload_n 0, 1) := by decide +kernel
theorem dL_law_252 : decode code 252 = .ok (.iload_n 3, 1) := by decide +kernel
theorem dL_law_253 : decode code 253 = .ok (.iconst 3, 1) := by decide +kernel
theorem dL_law_254 : decode code 254 = .ok (.iadd, 1) := by decide +kernel
theorem dL_law_255 : decode code 255 = .ok (.iaload, 1) := by decide +kernel
theorem dL_law_256 : decode code 256 = .ok (.aload_n 0, 1) := by decide +kernel
theorem dL_law_257 : decode code 257 = .ok (.iload_n 3, 1) := by decide +kernel
theorem dL_law_258 : decode code 258 = .ok (.iconst 4, 1) := by decide +kernel
theorem dL_law_259 : decode code 259 = .ok (.iadd, 1) := by decide +kernel
theorem dL_law_260 : decode code 260 = .ok (.iaload, 1) := by decide +kernel
theorem dL_law_261 : decode code 261 = .ok (.aload_n 0, 1) := by decide +kernel
theorem dL_law_262 : decode code 262 = .ok (.iload_n 3, 1) := by decide +kernel
theorem dL_law_263 : decode code 263 = .ok (.iconst 5, 1) := by decide +kernel
theorem dL_law_264 : decode code 264 = .ok (.iadd, 1) := by decide +kernel
theorem dL_law_265 : decode code 265 = .ok (.iaload, 1) := by decide +kernel
theorem dL_law_266 : decode code 266 = .ok (.invokevirtual 31, 3) := by decide +kernel
theorem dL_law_269 : decode code 269 = .ok (.aload_n 2, 1) := by decide +kernel
theorem dL_law_270 : decode code 270 = .ok (.aload_n 0, 1) := by decide +kernel
theorem dL_law_271 : decode code 271 = .ok (.iload_n 3, 1) := by decide +kernel
theorem dL_law_272 : decode code 272 = .ok (.iconst 1, 1) := by decide +kernel
theorem dL_law_273 : decode code 273 = .ok (.iadd, 1) := by decide +kernel
theorem dL_law_274 : decode code 274 = .ok (.iaload, 1) := by decide +kernel
theorem dL_law_275 : decode code 275 = .ok (.aload_n 0, 1) := by decide +kernel
theorem dL_law_276 : decode code 276 = .ok (.iload_n 3, 1) := by decide +kernel
theorem dL_law_277 : decode code 277 = .ok (.iconst 2, 1) := by decide +kernel
theorem dL_law_278 : decode code 278 = .ok (.iadd, 1) := by decide +kernel
theorem dL_law_279 : decode code 279 = .ok (.iaload, 1) := by decide +kernel
theorem dL_law_280 : decode code 280 = .ok (.aload_n 0, 1) := by decide +kernel
theorem dL_law_281 : decode code 281 = .ok (.iload_n 3, 1) := by decide +kernel
theorem dL_law_282 : decode code 282 = .ok (.iconst 3, 1) := by decide +kernel
theorem dL_law_283 : decode code 283 = .ok (.iadd, 1) := by decide +kernel
theorem dL_law_284 : decode code 284 = .ok (.iaload, 1) := by decide +kernel
theorem dL_law_285 : decode code 285 = .ok (.aload_n 0, 1) := by decide +kernel
theorem dL_law_286 : decode code 286 = .ok (.iload_n 3, 1) := by decide +kernel
theorem dL_law_287 : decode code 287 = .ok (.iconst 4, 1) := by decide +kernel
theorem dL_law_288 : decode code 288 = .ok (.iadd, 1) := by decide +kernel
theorem dL_law_289 : decode code 289 = .ok (.iaload, 1) := by decide +kernel
theorem dL_law_290 : decode code 290 = .ok (.aload_n 0, 1) := by decide +kernel
theorem dL_law_291 : decode code 291 = .ok (.iload_n 3, 1) := by decide +kernel
theorem dL_law_292 : decode code 292 = .ok (.iconst 5, 1) := by decide +kernel
theorem dL_law_293 : decode code 293 = .ok (.iadd, 1) := by decide +kernel
theorem dL_law_294 : decode code 294 = .ok (.iaload, 1) := by decide +kernel
theorem dL_law_295 : decode code 295 = .ok (.invokevirtual 35, 3) := by decide +kernel
theorem dL_law_298 : decode code 298 = .ok (.if_icmp .eq 485, 3) := by decide +kernel
theorem dL_law_301 : decode code 301 = .ok (.iconst 0, 1) := by decide +kernel
theorem dL_law_302 : decode code 302 = .ok (.ireturn, 1) := by decide +kernel
theorem dL_law_303 : decode code 303 = .ok (.aload_n 1, 1) := by decide +kernel
theorem dL_law_304 : decode code 304 = .ok (.invokevirtual 36, 3) := by decide +kernel
theorem dL_law_307 : decode code 307 = .ok (.aload_n 2, 1) := by decide +kernel
theorem dL_law_308 : decode code 308 = .ok (.invokevirtual 39, 3) := by decide +kernel
theorem dL_law_311 : decode code 311 = .ok (.if_icmp .eq 472, 3) := by decide +kernel
theorem dL_law_314 : decode code 314 = .ok (.iconst 0, 1) := by decide +kernel
theorem dL_law_315 : decode code 315 = .ok (.ireturn, 1) := by decide +kernel
theorem dL_law_316 : decode code 316 = .ok (.aload_n 1, 1) := by decide +kernel
theorem dL_law_317 : decode code 317 = .ok (.invokevirtual 40, 3) := by decide +kernel
theorem dL_law_320 : decode code 320 = .ok (.aload_n 2, 1) := by decide +kernel
theorem dL_law_321 : decode code 321 = .ok (.invokevirtual 43, 3) := by decide +kernel
theorem dL_law_324 : decode code 324 = .ok (.if_icmp .eq 459, 3) := by decide +kernel
theorem dL_law_327 : decode code 327 = .ok (.iconst 0, 1) := by decide +kernel
theorem dL_law_328 : decode code 328 = .ok (.ireturn, 1) := by decide +kernel
theorem dL_law_329 : decode code 329 = .ok (.aload_n 1, 1) := by decide +kernel
theorem dL_law_330 : decode code 330 = .ok (.aload_n 0, 1) := by decide +kernel
theorem dL_law_331 : decode code 331 = .ok (.iload_n 3, 1) := by decide +kernel
theorem dL_law_332 : decode code 332 = .ok (.iconst 1, 1) := by decide +kernel
theorem dL_law_333 : decode code 333 = .ok (.iadd, 1) := by decide +kernel
theorem dL_law_334 : decode code 334 = .ok (.iaload, 1) := by decide +kernel
theorem dL_law_335 : decode code 335 = .ok (.aload_n 0, 1) := by decide +kernel
theorem dL_law_336 : decode code 336 = .ok (.iload_n 3, 1) := by decide +kernel
theorem dL_law_337 : decode code 337 = .ok (.iconst 2, 1) := by decide +kernel
theorem dL_law_338 : decode code 338 = .ok (.iadd, 1) := by decide +kernel
theorem dL_law_339 : decode code 339 = .ok (.iaload, 1) := by decide +kernel
theorem dL_law_340 : decode code 340 = .ok (.invokevirtual 44, 3) := by decide +kernel
theorem dL_law_343 : decode code 343 = .ok (.aload_n 2, 1) := by decide +kernel
theorem dL_law_344 : decode code 344 = .ok (.aload_n 0, 1) := by decide +kernel
theorem dL_law_345 : decode code 345 = .ok (.iload_n 3, 1) := by decide +kernel
theorem dL_law_346 : decode code 346 = .ok (.iconst 1, 1) := by decide +kernel
theorem dL_law_347 : decode code 347 = .ok (.iadd, 1) := by decide +kernel
theorem dL_law_348 : decode code 348 = .ok (.iaload, 1) := by decide +kernel
theorem dL_law_349 : decode code 349 = .ok (.aload_n 0, 1) := by decide +kernel
theorem dL_law_350 : decode code 350 = .ok (.iload_n 3, 1) := by decide +kernel
theorem dL_law_351 : decode code 351 = .ok (.iconst 2, 1) := by decide +kernel
theorem dL_law_352 : decode code 352 = .ok (.iadd, 1) := by decide +kernel
theorem dL_law_353 : decode code 353 = .ok (.iaload, 1) := by decide +kernel
theorem dL_law_354 : decode code 354 = .ok (.invokevirtual 47, 3) := by decide +kernel
theorem dL_law_357 : decode code 357 = .ok (.if_icmp .eq 426, 3) := by decide +kernel
theorem dL_law_360 : decode code 360 = .ok (.iconst 0, 1) := by decide +kernel
theorem dL_law_361 : decode code 361 = .ok (.ireturn, 1) := by decide +kernel
theorem dL_law_362 : decode code 362 = .ok (.aload_n 1, 1) := by decide +kernel
theorem dL_law_363 : decode code 363 = .ok (.aload_n 0, 1) := by decide +kernel
theorem dL_law_364 : decode code 364 = .ok (.iload_n 3, 1) := by decide +kernel
theorem dL_law_365 : decode code 365 = .ok (.iconst 1, 1) := by decide +kernel
theorem dL_law_366 : decode code 366 = .ok (.iadd, 1) := by decide +kernel
theorem dL_law_367 : decode code 367 = .ok (.iaload, 1) := by decide +kernel
theorem dL_law_368 : decode code 368 = .ok (.aload_n 0, 1) := by decide +kernel
theorem dL_law_369 : decode code 369 = .ok (.iload_n 3, 1) := by decide +kernel
theorem dL_law_370 : decode code 370 = .ok (.iconst 2, 1) := by decide +kernel
theorem dL_law_371 : decode code 371 = .ok (.iadd, 1) := by decide +kernel
theorem dL_law_372 : decode code 372 = .ok (.iaload, 1) := by decide +kernel
theorem dL_law_373 : decode code 373 = .ok (.aload_n 0, 1) := by decide +kernel
theorem dL_law_374 : decode code 374 = .ok (.iload_n 3, 1) := by decide +kernel
theorem dL_law_375 : decode code 375 = .ok (.iconst 3, 1) := by decide +kernel
theorem dL_law_376 : decode code 376 = .ok (.iadd, 1) := by decide +kernel
theorem dL_law_377 : decode code 377 = .ok (.iaload, 1) := by decide +kernel
theorem dL_law_378 : decode code 378 = .ok (.invokevirtual 48, 3) := by decide +kernel
theorem dL_law_381 : decode code 381 = .ok (.aload_n 2, 1) := by decide +kernel
theorem dL_law_382 : decode code 382 = .ok (.aload_n 0, 1) := by decide +kernel
theorem dL_law_383 : decode code 383 = .ok (.iload_n 3, 1) := by decide +kernel
theorem dL_law_384 : decode code 384 = .ok (.iconst 1, 1) := by decide +kernel
theorem dL_law_385 : decode code 385 = .ok (.iadd, 1) := by decide +kernel
theorem dL_law_386 : decode code 386 = .ok (.iaload, 1) := by decide +kernel
theorem dL_law_387 : decode code 387 = .ok (.aload_n 0, 1) := by decide +kernel
theorem dL_law_388 : decode code 388 = .ok (.iload_n 3, 1) := by decide +kernel
theorem dL_law_389 : decode code 389 = .ok (.iconst 2, 1) := by decide +kernel
theorem dL_law_390 : decode code 390 = .ok (.iadd, 1) := by decide +kernel
theorem dL_law_391 : decode code 391 = .ok (.iaload, 1) := by decide +kernel
theorem dL_law_392 : decode code 392 = .ok (.aload_n 0, 1) := by decide +kernel
theorem dL_law_393 : decode code 393 = .ok (.iload_n 3, 1) := by decide +kernel
theorem dL_law_394 : decode code 394 = .ok (.iconst 3, 1) := by decide +kernel
theorem dL_law_395 : decode code 395 = .ok (.iadd, 1) := by decide +kernel
theorem dL_law_396 : decode code 396 = .ok (.iaload, 1) := by decide +kernel
theorem dL_law_397 : decode code 397 = .ok (.invokevirtual 52, 3) := by decide +kernel
theorem dL_law_400 : decode code 400 = .ok (.if_icmp .eq 383, 3) := by decide +kernel
theorem dL_law_403 : decode code 403 = .ok (.iconst 0, 1) := by decide +kernel
theorem dL_law_404 : decode code 404 = .ok (.ireturn, 1) := by decide +kernel
theorem dL_law_405 : decode code 405 = .ok (.aload_n 1, 1) := by decide +kernel
theorem dL_law_406 : decode code 406 = .ok (.aload_n 0, 1) := by decide +kernel
theorem dL_law_407 : decode code 407 = .ok (.iload_n 3, 1) := by decide +kernel
theorem dL_law_408 : decode code 408 = .ok (.iconst 1, 1) := by decide +kernel
theorem dL_law_409 : decode code 409 = .ok (.iadd, 1) := by decide +kernel
theorem dL_law_410 : decode code 410 = .ok (.iaload, 1) := by decide +kernel
theorem dL_law_411 : decode code 411 = .ok (.aload_n 0, 1) := by decide +kernel
theorem dL_law_412 : decode code 412 = .ok (.iload_n 3, 1) := by decide +kernel
theorem dL_law_413 : decode code 413 = .ok (.iconst 2, 1) := by decide +kernel
theorem dL_law_414 : decode code 414 = .ok (.iadd, 1) := by decide +kernel
theorem dL_law_415 : decode code 415 = .ok (.iaload, 1) := by decide +kernel
theorem dL_law_416 : decode code 416 = .ok (.invokevirtual 53, 3) := by decide +kernel
theorem dL_law_419 : decode code 419 = .ok (.aload_n 2, 1) := by decide +kernel
theorem dL_law_420 : decode code 420 = .ok (.aload_n 0, 1) := by decide +kernel
theorem dL_law_421 : decode code 421 = .ok (.iload_n 3, 1) := by decide +kernel
theorem dL_law_422 : decode code 422 = .ok (.iconst 1, 1) := by decide +kernel
theorem dL_law_423 : decode code 423 = .ok (.iadd, 1) := by decide +kernel
theorem dL_law_424 : decode code 424 = .ok (.iaload, 1) := by decide +kernel
theorem dL_law_425 : decode code 425 = .ok (.aload_n 0, 1) := by decide +kernel
theorem dL_law_426 : decode code 426 = .ok (.iload_n 3, 1) := by decide +kernel
theorem dL_law_427 : decode code 427 = .ok (.iconst 2, 1) := by decide +kernel
theorem dL_law_428 : decode code 428 = .ok (.iadd, 1) := by decide +kernel
theorem dL_law_429 : decode code 429 = .ok (.iaload, 1) := by decide +kernel
theorem dL_law_430 : decode code 430 = .ok (.invokevirtual 56, 3) := by decide +kernel
theorem dL_law_433 : decode code 433 = .ok (.if_icmp .eq 350, 3) := by decide +kernel
theorem dL_law_436 : decode code 436 = .ok (.iconst 0, 1) := by decide +kernel
theorem dL_law_437 : decode code 437 = .ok (.ireturn, 1) := by decide +kernel
theorem dL_law_438 : decode code 438 = .ok (.aload_n 1, 1) := by decide +kernel
theorem dL_law_439 : decode code 439 = .ok (.aload_n 0, 1) := by decide +kernel
theorem dL_law_440 : decode code 440 = .ok (.iload_n 3, 1) := by decide +kernel
theorem dL_law_441 : decode code 441 = .ok (.iconst 1, 1) := by decide +kernel
theorem dL_law_442 : decode code 442 = .ok (.iadd, 1) := by decide +kernel
theorem dL_law_443 : decode code 443 = .ok (.iaload, 1) := by decide +kernel
theorem dL_law_444 : decode code 444 = .ok (.aload_n 0, 1) := by decide +kernel
theorem dL_law_445 : decode code 445 = .ok (.iload_n 3, 1) := by decide +kernel
theorem dL_law_446 : decode code 446 = .ok (.iconst 2, 1) := by decide +kernel
theorem dL_law_447 : decode code 447 = .ok (.iadd, 1) := by decide +kernel
theorem dL_law_448 : decode code 448 = .ok (.iaload, 1) := by decide +kernel
theorem dL_law_449 : decode code 449 = .ok (.invokevirtual 57, 3) := by decide +kernel
theorem dL_law_452 : decode code 452 = .ok (.aload_n 2, 1) := by decide +kernel
theorem dL_law_453 : decode code 453 = .ok (.aload_n 0, 1) := by decide +kernel
theorem dL_law_454 : decode code 454 = .ok (.iload_n 3, 1) := by decide +kernel
theorem dL_law_455 : decode code 455 = .ok (.iconst 1, 1) := by decide +kernel
theorem dL_law_456 : decode code 456 = .ok (.iadd, 1) := by decide +kernel
theorem dL_law_457 : decode code 457 = .ok (.iaload, 1) := by decide +kernel
theorem dL_law_458 : decode code 458 = .ok (.aload_n 0, 1) := by decide +kernel
theorem dL_law_459 : decode code 459 = .ok (.iload_n 3, 1) := by decide +kernel
theorem dL_law_460 : decode code 460 = .ok (.iconst 2, 1) := by decide +kernel
theorem dL_law_461 : decode code 461 = .ok (.iadd, 1) := by decide +kernel
theorem dL_law_462 : decode code 462 = .ok (.iaload, 1) := by decide +kernel
theorem dL_law_463 : decode code 463 = .ok (.invokevirtual 60, 3) := by decide +kernel
theorem dL_law_466 : decode code 466 = .ok (.if_icmp .eq 317, 3) := by decide +kernel
theorem dL_law_469 : decode code 469 = .ok (.iconst 0, 1) := by decide +kernel
theorem dL_law_470 : decode code 470 = .ok (.ireturn, 1) := by decide +kernel
theorem dL_law_471 : decode code 471 = .ok (.aload_n 1, 1) := by decide +kernel
theorem dL_law_472 : decode code 472 = .ok (.invokevirtual 61, 3) := by decide +kernel
theorem dL_law_475 : decode code 475 = .ok (.aload_n 2, 1) := by decide +kernel
theorem dL_law_476 : decode code 476 = .ok (.invokevirtual 64, 3) := by decide +kernel
theorem dL_law_479 : decode code 479 = .ok (.if_icmp .eq 304, 3) := by decide +kernel
theorem dL_law_482 : decode code 482 = .ok (.iconst 0, 1) := by decide +kernel
theorem dL_law_483 : decode code 483 = .ok (.ireturn, 1) := by decide +kernel
theorem dL_law_484 : decode code 484 = .ok (.aload_n 1, 1) := by decide +kernel
theorem dL_law_485 : decode code 485 = .ok (.aload_n 0, 1) := by decide +kernel
theorem dL_law_486 : decode code 486 = .ok (.iload_n 3, 1) := by decide +kernel
theorem dL_law_487 : decode code 487 = .ok (.iconst 1, 1) := by decide +kernel
theorem dL_law_488 : decode code 488 = .ok (.iadd, 1) := by decide +kernel
theorem dL_law_489 : decode code 489 = .ok (.iaload, 1) := by decide +kernel
theorem dL_law_490 : decode code 490 = .ok (.aload_n 0, 1) := by decide +kernel
theorem dL_law_491 : decode code 491 = .ok (.iload_n 3, 1) := by decide +kernel
theorem dL_law_492 : decode code 492 = .ok (.iconst 2, 1) := by decide +kernel
theorem dL_law_493 : decode code 493 = .ok (.iadd, 1) := by decide +kernel
theorem dL_law_494 : decode code 494 = .ok (.iaload, 1) := by decide +kernel
theorem dL_law_495 : decode code 495 = .ok (.aload_n 0, 1) := by decide +kernel
theorem dL_law_496 : decode code 496 = .ok (.iload_n 3, 1) := by decide +kernel
theorem dL_law_497 : decode code 497 = .ok (.iconst 3, 1) := by decide +kernel
theorem dL_law_498 : decode code 498 = .ok (.iadd, 1) := by decide +kernel
theorem dL_law_499 : decode code 499 = .ok (.iaload, 1) := by decide +kernel
theorem dL_law_500 : decode code 500 = .ok (.invokevirtual 65, 3) := by decide +kernel
theorem dL_law_503 : decode code 503 = .ok (.aload_n 2, 1) := by decide +kernel
theorem dL_law_504 : decode code 504 = .ok (.aload_n 0, 1) := by decide +kernel
theorem dL_law_505 : decode code 505 = .ok (.iload_n 3, 1) := by decide +kernel
theorem dL_law_506 : decode code 506 = .ok (.iconst 1, 1) := by decide +kernel
theorem dL_law_507 : decode code 507 = .ok (.iadd, 1) := by decide +kernel
theorem dL_law_508 : decode code 508 = .ok (.iaload, 1) := by decide +kernel
theorem dL_law_509 : decode code 509 = .ok (.aload_n 0, 1) := by decide +kernel
theorem dL_law_510 : decode code 510 = .ok (.iload_n 3, 1) := by decide +kernel
theorem dL_law_511 : decode code 511 = .ok (.iconst 2, 1) := by decide +kernel
theorem dL_law_512 : decode code 512 = .ok (.iadd, 1) := by decide +kernel
theorem dL_law_513 : decode code 513 = .ok (.iaload, 1) := by decide +kernel
theorem dL_law_514 : decode code 514 = .ok (.aload_n 0, 1) := by decide +kernel
theorem dL_law_515 : decode code 515 = .ok (.iload_n 3, 1) := by decide +kernel
theorem dL_law_516 : decode code 516 = .ok (.iconst 3, 1) := by decide +kernel
theorem dL_law_517 : decode code 517 = .ok (.iadd, 1) := by decide +kernel
theorem dL_law_518 : decode code 518 = .ok (.iaload, 1) := by decide +kernel
theorem dL_law_519 : decode code 519 = .ok (.invokevirtual 68, 3) := by decide +kernel
theorem dL_law_522 : decode code 522 = .ok (.if_icmp .eq 261, 3) := by decide +kernel
theorem dL_law_525 : decode code 525 = .ok (.iconst 0, 1) := by decide +kernel
theorem dL_law_526 : decode code 526 = .ok (.ireturn, 1) := by decide +kernel
theorem dL_law_527 : decode code 527 = .ok (.aload_n 1, 1) := by decide +kernel
theorem dL_law_528 : decode code 528 = .ok (.aload_n 0, 1) := by decide +kernel
theorem dL_law_529 : decode code 529 = .ok (.iload_n 3, 1) := by decide +kernel
theorem dL_law_530 : decode code 530 = .ok (.iconst 1, 1) := by decide +kernel
theorem dL_law_531 : decode code 531 = .ok (.iadd, 1) := by decide +kernel
theorem dL_law_532 : decode code 532 = .ok (.iaload, 1) := by decide +kernel
theorem dL_law_533 : decode code 533 = .ok (.invokevirtual 69, 3) := by decide +kernel
theorem dL_law_536 : decode code 536 = .ok (.aload_n 2, 1) := by decide +kernel
theorem dL_law_537 : decode code 537 = .ok (.aload_n 0, 1) := by decide +kernel
theorem dL_law_538 : decode code 538 = .ok (.iload_n 3, 1) := by decide +kernel
theorem dL_law_539 : decode code 539 = .ok (.iconst 1, 1) := by decide +kernel
theorem dL_law_540 : decode code 540 = .ok (.iadd, 1) := by decide +kernel
theorem dL_law_541 : decode code 541 = .ok (.iaload, 1) := by decide +kernel
theorem dL_law_542 : decode code 542 = .ok (.invokevirtual 73, 3) := by decide +kernel
theorem dL_law_545 : decode code 545 = .ok (.if_icmp .eq 238, 3) := by decide +kernel
theorem dL_law_548 : decode code 548 = .ok (.iconst 0, 1) := by decide +kernel
theorem dL_law_549 : decode code 549 = .ok (.ireturn, 1) := by decide +kernel
theorem dL_law_550 : decode code 550 = .ok (.aload_n 1, 1) := by decide +kernel
theorem dL_law_551 : decode code 551 = .ok (.invokevirtual 74, 3) := by decide +kernel
theorem dL_law_554 : decode code 554 = .ok (.aload_n 2, 1) := by decide +kernel
theorem dL_law_555 : decode code 555 = .ok (.invokevirtual 77, 3) := by decide +kernel
theorem dL_law_558 : decode code 558 = .ok (.if_icmp .eq 225, 3) := by decide +kernel
theorem dL_law_561 : decode code 561 = .ok (.iconst 0, 1) := by decide +kernel
theorem dL_law_562 : decode code 562 = .ok (.ireturn, 1) := by decide +kernel
theorem dL_law_563 : decode code 563 = .ok (.aload_n 1, 1) := by decide +kernel
theorem dL_law_564 : decode code 564 = .ok (.aload_n 0, 1) := by decide +kernel
theorem dL_law_565 : decode code 565 = .ok (.iload_n 3, 1) := by decide +kernel
theorem dL_law_566 : decode code 566 = .ok (.iconst 1, 1) := by decide +kernel
theorem dL_law_567 : decode code 567 = .ok (.iadd, 1) := by decide +kernel
theorem dL_law_568 : decode code 568 = .ok (.iaload, 1) := by decide +kernel
theorem dL_law_569 : decode code 569 = .ok (.invokevirtual 78, 3) := by decide +kernel
theorem dL_law_572 : decode code 572 = .ok (.aload_n 2, 1) := by decide +kernel
theorem dL_law_573 : decode code 573 = .ok (.aload_n 0, 1) := by decide +kernel
theorem dL_law_574 : decode code 574 = .ok (.iload_n 3, 1) := by decide +kernel
theorem dL_law_575 : decode code 575 = .ok (.iconst 1, 1) := by decide +kernel
theorem dL_law_576 : decode code 576 = .ok (.iadd, 1) := by decide +kernel
theorem dL_law_577 : decode code 577 = .ok (.iaload, 1) := by decide +kernel
theorem dL_law_578 : decode code 578 = .ok (.invokevirtual 81, 3) := by decide +kernel
theorem dL_law_581 : decode code 581 = .ok (.if_icmp .eq 202, 3) := by decide +kernel
theorem dL_law_584 : decode code 584 = .ok (.iconst 0, 1) := by decide +kernel
theorem dL_law_585 : decode code 585 = .ok (.ireturn, 1) := by decide +kernel
theorem dL_law_586 : decode code 586 = .ok (.aload_n 1, 1) := by decide +kernel
theorem dL_law_587 : decode code 587 = .ok (.invokevirtual 82, 3) := by decide +kernel
theorem dL_law_590 : decode code 590 = .ok (.aload_n 2, 1) := by decide +kernel
theorem dL_law_591 : decode code 591 = .ok (.invokevirtual 85, 3) := by decide +kernel
theorem dL_law_594 : decode code 594 = .ok (.if_icmp .eq 189, 3) := by decide +kernel
theorem dL_law_597 : decode code 597 = .ok (.iconst 0, 1) := by decide +kernel
theorem dL_law_598 : decode code 598 = .ok (.ireturn, 1) := by decide +kernel
theorem dL_law_599 : decode code 599 = .ok (.aload_n 1, 1) := by decide +kernel
theorem dL_law_600 : decode code 600 = .ok (.invokevirtual 86, 3) := by decide +kernel
theorem dL_law_603 : decode code 603 = .ok (.aload_n 2, 1) := by decide +kernel
theorem dL_law_604 : decode code 604 = .ok (.invokevirtual 89, 3) := by decide +kernel
theorem dL_law_607 : decode code 607 = .ok (.if_icmp .eq 176, 3) := by decide +kernel
theorem dL_law_610 : decode code 610 = .ok (.iconst 0, 1) := by decide +kernel
theorem dL_law_611 : decode code 611 = .ok (.ireturn, 1) := by decide +kernel
theorem dL_law_612 : decode code 612 = .ok (.aload_n 1, 1) := by decide +kernel
theorem dL_law_613 : decode code 613 = .ok (.aload_n 0, 1) := by decide +kernel
theorem dL_law_614 : decode code 614 = .ok (.iload_n 3, 1) := by decide +kernel
theorem dL_law_615 : decode code 615 = .ok (.iconst 1, 1) := by decide +kernel
theorem dL_law_616 : decode code 616 = .ok (.iadd, 1) := by decide +kernel
theorem dL_law_617 : decode code 617 = .ok (.iaload, 1) := by decide +kernel
theorem dL_law_618 : decode code 618 = .ok (.invokevirtual 90, 3) := by decide +kernel
theorem dL_law_621 : decode code 621 = .ok (.aload_n 2, 1) := by decide +kernel
theorem dL_law_622 : decode code 622 = .ok (.aload_n 0, 1) := by decide +kernel
theorem dL_law_623 : decode code 623 = .ok (.iload_n 3, 1) := by decide +kernel
theorem dL_law_624 : decode code 624 = .ok (.iconst 1, 1) := by decide +kernel
theorem dL_law_625 : decode code 625 = .ok (.iadd, 1) := by decide +kernel
theorem dL_law_626 : decode code 626 = .ok (.iaload, 1) := by decide +kernel
theorem dL_law_627 : decode code 627 = .ok (.invokevirtual 93, 3) := by decide +kernel
theorem dL_law_630 : decode code 630 = .ok (.if_icmp .eq 153, 3) := by decide +kernel
theorem dL_law_633 : decode code 633 = .ok (.iconst 0, 1) := by decide +kernel
theorem dL_law_634 : decode code 634 = .ok (.ireturn, 1) := by decide +kernel
theorem dL_law_635 : decode code 635 = .ok (.aload_n 1, 1) := by decide +kernel
theorem dL_law_636 : decode code 636 = .ok (.aload_n 0, 1) := by decide +kernel
theorem dL_law_637 : decode code 637 = .ok (.iload_n 3, 1) := by decide +kernel
theorem dL_law_638 : decode code 638 = .ok (.iconst 1, 1) := by decide +kernel
theorem dL_law_639 : decode code 639 = .ok (.iadd, 1) := by decide +kernel
theorem dL_law_640 : decode code 640 = .ok (.iaload, 1) := by decide +kernel
theorem dL_law_641 : decode code 641 = .ok (.aload_n 0, 1) := by decide +kernel
theorem dL_law_642 : decode code 642 = .ok (.iload_n 3, 1) := by decide +kernel
theorem dL_law_643 : decode code 643 = .ok (.iconst 2, 1) := by decide +kernel
theorem dL_law_644 : decode code 644 = .ok (.iadd, 1) := by decide +kernel
theorem dL_law_645 : decode code 645 = .ok (.iaload, 1) := by decide +kernel
theorem dL_law_646 : decode code 646 = .ok (.invokevirtual 94, 3) := by decide +kernel
theorem dL_law_649 : decode code 649 = .ok (.aload_n 2, 1) := by decide +kernel
theorem dL_law_650 : decode code 650 = .ok (.aload_n 0, 1) := by decide +kernel
theorem dL_law_651 : decode code 651 = .ok (.iload_n 3, 1) := by decide +kernel
theorem dL_law_652 : decode code 652 = .ok (.iconst 1, 1) := by decide +kernel
theorem dL_law_653 : decode code 653 = .ok (.iadd, 1) := by decide +kernel
theorem dL_law_654 : decode code 654 = .ok (.iaload, 1) := by decide +kernel
theorem dL_law_655 : decode code 655 = .ok (.aload_n 0, 1) := by decide +kernel
theorem dL_law_656 : decode code 656 = .ok (.iload_n 3, 1) := by decide +kernel
theorem dL_law_657 : decode code 657 = .ok (.iconst 2, 1) := by decide +kernel
theorem dL_law_658 : decode code 658 = .ok (.iadd, 1) := by decide +kernel
theorem dL_law_659 : decode code 659 = .ok (.iaload, 1) := by decide +kernel
theorem dL_law_660 : decode code 660 = .ok (.invokevirtual 97, 3) := by decide +kernel
theorem dL_law_663 : decode code 663 = .ok (.if_icmp .eq 120, 3) := by decide +kernel
theorem dL_law_666 : decode code 666 = .ok (.iconst 0, 1) := by decide +kernel
theorem dL_law_667 : decode code 667 = .ok (.ireturn, 1) := by decide +kernel
theorem dL_law_668 : decode code 668 = .ok (.aload_n 1, 1) := by decide +kernel
theorem dL_law_669 : decode code 669 = .ok (.aload_n 0, 1) := by decide +kernel
theorem dL_law_670 : decode code 670 = .ok (.iload_n 3, 1) := by decide +kernel
theorem dL_law_671 : decode code 671 = .ok (.iconst 1, 1) := by decide +kernel
theorem dL_law_672 : decode code 672 = .ok (.iadd, 1) := by decide +kernel
theorem dL_law_673 : decode code 673 = .ok (.iaload, 1) := by decide +kernel
theorem dL_law_674 : decode code 674 = .ok (.invokevirtual 98, 3) := by decide +kernel
theorem dL_law_677 : decode code 677 = .ok (.aload_n 2, 1) := by decide +kernel
theorem dL_law_678 : decode code 678 = .ok (.aload_n 0, 1) := by decide +kernel
theorem dL_law_679 : decode code 679 = .ok (.iload_n 3, 1) := by decide +kernel
theorem dL_law_680 : decode code 680 = .ok (.iconst 1, 1) := by decide +kernel
theorem dL_law_681 : decode code 681 = .ok (.iadd, 1) := by decide +kernel
theorem dL_law_682 : decode code 682 = .ok (.iaload, 1) := by decide +kernel
theorem dL_law_683 : decode code 683 = .ok (.invokevirtual 101, 3) := by decide +kernel
theorem dL_law_686 : decode code 686 = .ok (.if_icmp .eq 97, 3) := by decide +kernel
theorem dL_law_689 : decode code 689 = .ok (.iconst 0, 1) := by decide +kernel
theorem dL_law_690 : decode code 690 = .ok (.ireturn, 1) := by decide +kernel
theorem dL_law_691 : decode code 691 = .ok (.aload_n 1, 1) := by decide +kernel
theorem dL_law_692 : decode code 692 = .ok (.invokevirtual 102, 3) := by decide +kernel
theorem dL_law_695 : decode code 695 = .ok (.aload_n 2, 1) := by decide +kernel
theorem dL_law_696 : decode code 696 = .ok (.invokevirtual 105, 3) := by decide +kernel
theorem dL_law_699 : decode code 699 = .ok (.if_icmp .eq 84, 3) := by decide +kernel
theorem dL_law_702 : decode code 702 = .ok (.iconst 0, 1) := by decide +kernel
theorem dL_law_703 : decode code 703 = .ok (.ireturn, 1) := by decide +kernel
theorem dL_law_704 : decode code 704 = .ok (.aload_n 1, 1) := by decide +kernel
theorem dL_law_705 : decode code 705 = .ok (.aload_n 0, 1) := by decide +kernel
theorem dL_law_706 : decode code 706 = .ok (.iload_n 3, 1) := by decide +kernel
theorem dL_law_707 : decode code 707 = .ok (.iconst 1, 1) := by decide +kernel
theorem dL_law_708 : decode code 708 = .ok (.iadd, 1) := by decide +kernel
theorem dL_law_709 : decode code 709 = .ok (.iaload, 1) := by decide +kernel
theorem dL_law_710 : decode code 710 = .ok (.invokevirtual 106, 3) := by decide +kernel
theorem dL_law_713 : decode code 713 = .ok (.aload_n 2, 1) := by decide +kernel
theorem dL_law_714 : decode code 714 = .ok (.aload_n 0, 1) := by decide +kernel
theorem dL_law_715 : decode code 715 = .ok (.iload_n 3, 1) := by decide +kernel
theorem dL_law_716 : decode code 716 = .ok (.iconst 1, 1) := by decide +kernel
theorem dL_law_717 : decode code 717 = .ok (.iadd, 1) := by decide +kernel
theorem dL_law_718 : decode code 718 = .ok (.iaload, 1) := by decide +kernel
theorem dL_law_719 : decode code 719 = .ok (.invokevirtual 109, 3) := by decide +kernel
theorem dL_law_722 : decode code 722 = .ok (.if_icmp .eq 61, 3) := by decide +kernel
theorem dL_law_725 : decode code 725 = .ok (.iconst 0, 1) := by decide +kernel
theorem dL_law_726 : decode code 726 = .ok (.ireturn, 1) := by decide +kernel
theorem dL_law_727 : decode code 727 = .ok (.aload_n 1, 1) := by decide +kernel
theorem dL_law_728 : decode code 728 = .ok (.aload_n 0, 1) := by decide +kernel
theorem dL_law_729 : decode code 729 = .ok (.iload_n 3, 1) := by decide +kernel
theorem dL_law_730 : decode code 730 = .ok (.iconst 1, 1) := by decide +kernel
theorem dL_law_731 : decode code 731 = .ok (.iadd, 1) := by decide +kernel
theorem dL_law_732 : decode code 732 = .ok (.iaload, 1) := by decide +kernel
theorem dL_law_733 : decode code 733 = .ok (.invokevirtual 110, 3) := by decide +kernel
theorem dL_law_736 : decode code 736 = .ok (.aload_n 2, 1) := by decide +kernel
theorem dL_law_737 : decode code 737 = .ok (.aload_n 0, 1) := by decide +kernel
theorem dL_law_738 : decode code 738 = .ok (.iload_n 3, 1) := by decide +kernel
theorem dL_law_739 : decode code 739 = .ok (.iconst 1, 1) := by decide +kernel
theorem dL_law_740 : decode code 740 = .ok (.iadd, 1) := by decide +kernel
theorem dL_law_741 : decode code 741 = .ok (.iaload, 1) := by decide +kernel
theorem dL_law_742 : decode code 742 = .ok (.invokevirtual 113, 3) := by decide +kernel
theorem dL_law_745 : decode code 745 = .ok (.if_icmp .eq 38, 3) := by decide +kernel
theorem dL_law_748 : decode code 748 = .ok (.iconst 0, 1) := by decide +kernel
theorem dL_law_749 : decode code 749 = .ok (.ireturn, 1) := by decide +kernel
theorem dL_law_750 : decode code 750 = .ok (.aload_n 1, 1) := by decide +kernel
theorem dL_law_751 : decode code 751 = .ok (.aload_n 0, 1) := by decide +kernel
theorem dL_law_752 : decode code 752 = .ok (.iload_n 3, 1) := by decide +kernel
theorem dL_law_753 : decode code 753 = .ok (.iconst 1, 1) := by decide +kernel
theorem dL_law_754 : decode code 754 = .ok (.iadd, 1) := by decide +kernel
theorem dL_law_755 : decode code 755 = .ok (.iaload, 1) := by decide +kernel
theorem dL_law_756 : decode code 756 = .ok (.aload_n 0, 1) := by decide +kernel
theorem dL_law_757 : decode code 757 = .ok (.iload_n 3, 1) := by decide +kernel
theorem dL_law_758 : decode code 758 = .ok (.iconst 2, 1) := by decide +kernel
theorem dL_law_759 : decode code 759 = .ok (.iadd, 1) := by decide +kernel
theorem dL_law_760 : decode code 760 = .ok (.iaload, 1) := by decide +kernel
theorem dL_law_761 : decode code 761 = .ok (.invokevirtual 114, 3) := by decide +kernel
theorem dL_law_764 : decode code 764 = .ok (.aload_n 2, 1) := by decide +kernel
theorem dL_law_765 : decode code 765 = .ok (.aload_n 0, 1) := by decide +kernel
theorem dL_law_766 : decode code 766 = .ok (.iload_n 3, 1) := by decide +kernel
theorem dL_law_767 : decode code 767 = .ok (.iconst 1, 1) := by decide +kernel
theorem dL_law_768 : decode code 768 = .ok (.iadd, 1) := by decide +kernel
theorem dL_law_769 : decode code 769 = .ok (.iaload, 1) := by decide +kernel
theorem dL_law_770 : decode code 770 = .ok (.aload_n 0, 1) := by decide +kernel
theorem dL_law_771 : decode code 771 = .ok (.iload_n 3, 1) := by decide +kernel
theorem dL_law_772 : decode code 772 = .ok (.iconst 2, 1) := by decide +kernel
theorem dL_law_773 : decode code 773 = .ok (.iadd, 1) := by decide +kernel
theorem dL_law_774 : decode code 774 = .ok (.iaload, 1) := by decide +kernel
theorem dL_law_775 : decode code 775 = .ok (.invokevirtual 117, 3) := by decide +kernel
theorem dL_law_778 : decode code 778 = .ok (.if_icmp .eq 5, 3) := by decide +kernel
theorem dL_law_781 : decode code 781 = .ok (.iconst 0, 1) := by decide +kernel
theorem dL_law_782 : decode code 782 = .ok (.ireturn, 1) := by decide +kernel
theorem dL_law_783 : decode code 783 = .ok (.iinc 3 6, 3) := by decide +kernel
theorem dL_law_786 : decode code 786 = .ok (.goto (-768), 3) := by decide +kernel
theorem dL_law_789 : decode code 789 = .ok (.iconst 1, 1) := by decide +kernel
theorem dL_law_790 : decode code 790 = .ok (.ireturn, 1) := by decide +kernel
end
section
theorem dM_init_0 : decode prog_7_method_1_code 0 = .ok (.aload_n 0, 1) := by decide +kernel
theorem dM_init_1 : decode prog_7_method_1_code 1 = .ok (.invokespecial 1, 3) := by decide +kernel
theorem dM_init_4 : decode prog_7_method_1_code 4 = .ok (.aload_n 0, 1) := by decide +kernel
theorem dM_init_5 : decode prog_7_method_1_code 5 = .ok (.bipush 80, 2) := by decide +kernel
theorem dM_init_7 : decode prog_7_method_1_code 7 = .ok (.newarray .int, 2) := by decide +kernel
theorem dM_init_9 : decode prog_7_method_1_code 9 = .ok (.putfield 7, 3) := by decide +kernel
theorem dM_init_12 : decode prog_7_method_1_code 12 = .ok (.aload_n 0, 1) := by decide +kernel
theorem dM_init_13 : decode prog_7_method_1_code 13 = .ok (.iconst 2, 1) := by decide +kernel
theorem dM_init_14 : decode prog_7_method_1_code 14 = .ok (.newarray .int, 2) := by decide +kernel
theorem dM_init_16 : decode prog_7_method_1_code 16 = .ok (.putfield 13, 3) := by decide +kernel
theorem dM_init_19 : decode prog_7_method_1_code 19 = .ok (.aload_n 0, 1) := by decide +kernel
theorem dM_init_20 : decode prog_7_method_1_code 20 = .ok (.bipush 100, 2) := by decide +kernel
theorem dM_init_22 : decode prog_7_method_1_code 22 = .ok (.newarray .int, 2) := by decide +kernel
theorem dM_init_24 : decode prog_7_method_1_code 24 = .ok (.putfield 16, 3) := by decide +kernel
theorem dM_init_27 : decode prog_7_method_1_code 27 = .ok (.aload_n 0, 1) := by decide +kernel
theorem dM_init_28 : decode prog_7_method_1_code 28 = .ok (.bipush 100, 2) := by decide +kernel
theorem dM_init_30 : decode prog_7_method_1_code 30 = .ok (.newarray .int, 2) := by decide +kernel
theorem dM_init_32 : decode prog_7_method_1_code 32 = .ok (.putfield 19, 3) := by decide +kernel
theorem dM_init_35 : decode prog_7_method_1_code 35 = .ok (.aload_n 0, 1) := by decide +kernel
theorem dM_init_36 : decode prog_7_method_1_code 36 = .ok (.bipush 100, 2) := by decide +kernel
theorem dM_init_38 : decode prog_7_method_1_code 38 = .ok (.newarray .int, 2) := by decide +kernel
theorem dM_init_40 : decode prog_7_method_1_code 40 = .ok (.putfield 22, 3) := by decide +kernel
theorem dM_init_43 : decode prog_7_method_1_code 43 = .ok (.aload_n 0, 1) := by decide +kernel
theorem dM_init_44 : decode prog_7_method_1_code 44 = .ok (.sipush 4000, 3) := by decide +kernel
theorem dM_init_47 : decode prog_7_method_1_code 47 = .ok (.newarray .int, 2) := by decide +kernel
theorem dM_init_49 : decode prog_7_method_1_code 49 = .ok (.putfield 25, 3) := by decide +kernel
theorem dM_init_52 : decode prog_7_method_1_code 52 = .ok (.aload_n 0, 1) := by decide +kernel
theorem dM_init_53 : decode prog_7_method_1_code 53 = .ok (.sipush 4110, 3) := by decide +kernel
theorem dM_init_56 : decode prog_7_method_1_code 56 = .ok (.newarray .int, 2) := by decide +kernel
theorem dM_init_58 : decode prog_7_method_1_code 58 = .ok (.putfield 28, 3) := by decide +kernel
theorem dM_init_61 : decode prog_7_method_1_code 61 = .ok (.aload_n 0, 1) := by decide +kernel
theorem dM_init_62 : decode prog_7_method_1_code 62 = .ok (.bipush 80, 2) := by decide +kernel
theorem dM_init_64 : decode prog_7_method_1_code 64 = .ok (.newarray .int, 2) := by decide +kernel
theorem dM_init_66 : decode prog_7_method_1_code 66 = .ok (.putfield 31, 3) := by decide +kernel
theorem dM_init_69 : decode prog_7_method_1_code 69 = .ok (.aload_n 0, 1) := by decide +kernel
theorem dM_init_70 : decode prog_7_method_1_code 70 = .ok (.sipush 1681, 3) := by decide +kernel
theorem dM_init_73 : decode prog_7_method_1_code 73 = .ok (.newarray .int, 2) := by decide +kernel
theorem dM_init_75 : decode prog_7_method_1_code 75 = .ok (.putfield 34, 3) := by decide +kernel
theorem dM_init_78 : decode prog_7_method_1_code 78 = .ok (.aload_n 0, 1) := by decide +kernel
theorem dM_init_79 : decode prog_7_method_1_code 79 = .ok (.invokevirtual 37, 3) := by decide +kernel
theorem dM_init_82 : decode prog_7_method_1_code 82 = .ok (.return_, 1) := by decide +kernel
theorem dM_begin_0 : decode prog_7_method_2_code 0 = .ok (.aload_n 0, 1) := by decide +kernel
theorem dM_begin_1 : decode prog_7_method_2_code 1 = .ok (.getfield 13, 3) := by decide +kernel
theorem dM_begin_4 : decode prog_7_method_2_code 4 = .ok (.iconst 0, 1) := by decide +kernel
theorem dM_begin_5 : decode prog_7_method_2_code 5 = .ok (.iconst 0, 1) := by decide +kernel
theorem dM_begin_6 : decode prog_7_method_2_code 6 = .ok (.iastore, 1) := by decide +kernel
theorem dM_begin_7 : decode prog_7_method_2_code 7 = .ok (.aload_n 0, 1) := by decide +kernel
theorem dM_begin_8 : decode prog_7_method_2_code 8 = .ok (.getfield 13, 3) := by decide +kernel
theorem dM_begin_11 : decode prog_7_method_2_code 11 = .ok (.iconst 1, 1) := by decide +kernel
theorem dM_begin_12 : decode prog_7_method_2_code 12 = .ok (.iconst 0, 1) := by decide +kernel
theorem dM_begin_13 : decode prog_7_method_2_code 13 = .ok (.iastore, 1) := by decide +kernel
theorem dM_begin_14 : decode prog_7_method_2_code 14 = .ok (.aload_n 0, 1) := by decide +kernel
theorem dM_begin_15 : decode prog_7_method_2_code 15 = .ok (.iconst 4, 1) := by decide +kernel
theorem dM_begin_16 : decode prog_7_method_2_code 16 = .ok (.putfield 40, 3) := by decide +kernel
theorem dM_begin_19 : decode prog_7_method_2_code 19 = .ok (.aload_n 0, 1) := by decide +kernel
theorem dM_begin_20 : decode prog_7_method_2_code 20 = .ok (.iconst 2, 1) := by decide +kernel
theorem dM_begin_21 : decode prog_7_method_2_code 21 = .ok (.putfield 44, 3) := by decide +kernel
theorem dM_begin_24 : decode prog_7_method_2_code 24 = .ok (.aload_n 0, 1) := by decide +kernel
theorem dM_begin_25 : decode prog_7_method_2_code 25 = .ok (.iconst 4, 1) := by decide +kernel
theorem dM_begin_26 : decode prog_7_method_2_code 26 = .ok (.putfield 47, 3) := by decide +kernel
theorem dM_begin_29 : decode prog_7_method_2_code 29 = .ok (.aload_n 0, 1) := by decide +kernel
theorem dM_begin_30 : decode prog_7_method_2_code 30 = .ok (.iconst 2, 1) := by decide +kernel
theorem dM_begin_31 : decode prog_7_method_2_code 31 = .ok (.putfield 50, 3) := by decide +kernel
theorem dM_begin_34 : decode prog_7_method_2_code 34 = .ok (.aload_n 0, 1) := by decide +kernel
theorem dM_begin_35 : decode prog_7_method_2_code 35 = .ok (.iconst 3, 1) := by decide +kernel
theorem dM_begin_36 : decode prog_7_method_2_code 36 = .ok (.putfield 53, 3) := by decide +kernel
theorem dM_begin_39 : decode prog_7_method_2_code 39 = .ok (.aload_n 0, 1) := by decide +kernel
theorem dM_begin_40 : decode prog_7_method_2_code 40 = .ok (.iconst 0, 1) := by decide +kernel
theorem dM_begin_41 : decode prog_7_method_2_code 41 = .ok (.putfield 56, 3) := by decide +kernel
theorem dM_begin_44 : decode prog_7_method_2_code 44 = .ok (.aload_n 0, 1) := by decide +kernel
theorem dM_begin_45 : decode prog_7_method_2_code 45 = .ok (.iconst 1, 1) := by decide +kernel
theorem dM_begin_46 : decode prog_7_method_2_code 46 = .ok (.putfield 59, 3) := by decide +kernel
theorem dM_begin_49 : decode prog_7_method_2_code 49 = .ok (.aload_n 0, 1) := by decide +kernel
theorem dM_begin_50 : decode prog_7_method_2_code 50 = .ok (.iconst 0, 1) := by decide +kernel
theorem dM_begin_51 : decode prog_7_method_2_code 51 = .ok (.putfield 62, 3) := by decide +kernel
theorem dM_begin_54 : decode prog_7_method_2_code 54 = .ok (.aload_n 0, 1) := by decide +kernel
theorem dM_begin_55 : decode prog_7_method_2_code 55 = .ok (.iconst 0, 1) := by decide +kernel
theorem dM_begin_56 : decode prog_7_method_2_code 56 = .ok (.putfield 65, 3) := by decide +kernel
theorem dM_begin_59 : decode prog_7_method_2_code 59 = .ok (.aload_n 0, 1) := by decide +kernel
theorem dM_begin_60 : decode prog_7_method_2_code 60 = .ok (.iconst 0, 1) := by decide +kernel
theorem dM_begin_61 : decode prog_7_method_2_code 61 = .ok (.putfield 68, 3) := by decide +kernel
theorem dM_begin_64 : decode prog_7_method_2_code 64 = .ok (.return_, 1) := by decide +kernel
theorem dM_clear_0 : decode prog_7_method_3_code 0 = .ok (.aload_n 0, 1) := by decide +kernel
theorem dM_clear_1 : decode prog_7_method_3_code 1 = .ok (.getfield 13, 3) := by decide +kernel
theorem dM_clear_4 : decode prog_7_method_3_code 4 = .ok (.iconst 0, 1) := by decide +kernel
theorem dM_clear_5 : decode prog_7_method_3_code 5 = .ok (.iaload, 1) := by decide +kernel
theorem dM_clear_6 : decode prog_7_method_3_code 6 = .ok (.aload_n 0, 1) := by decide +kernel
theorem dM_clear_7 : decode prog_7_method_3_code 7 = .ok (.getfield 13, 3) := by decide +kernel
theorem dM_clear_10 : decode prog_7_method_3_code 10 = .ok (.iconst 1, 1) := by decide +kernel
theorem dM_clear_11 : decode prog_7_method_3_code 11 = .ok (.iaload, 1) := by decide +kernel
theorem dM_clear_12 : decode prog_7_method_3_code 12 = .ok (.iadd, 1) := by decide +kernel
theorem dM_clear_13 : decode prog_7_method_3_code 13 = .ok (.istore_n 1, 1) := by decide +kernel
theorem dM_clear_14 : decode prog_7_method_3_code 14 = .ok (.aload_n 0, 1) := by decide +kernel
theorem dM_clear_15 : decode prog_7_method_3_code 15 = .ok (.invokevirtual 37, 3) := by decide +kernel
theorem dM_clear_18 : decode prog_7_method_3_code 18 = .ok (.iload_n 1, 1) := by decide +kernel
theorem dM_clear_19 : decode prog_7_method_3_code 19 = .ok (.ireturn, 1) := by decide +kernel
theorem dM_put_0 : decode prog_7_method_7_code 0 = .ok (.iload_n 1, 1) := by decide +kernel
theorem dM_put_1 : decode prog_7_method_7_code 1 = .ok (.iconst 0, 1) := by decide +kernel
theorem dM_put_2 : decode prog_7_method_7_code 2 = .ok (.iconst 1, 1) := by decide +kernel
theorem dM_put_3 : decode prog_7_method_7_code 3 = .ok (.invokestatic 77, 3) := by decide +kernel
theorem dM_put_6 : decode prog_7_method_7_code 6 = .ok (.ifCond .eq 14, 3) := by decide +kernel
theorem dM_put_9 : decode prog_7_method_7_code 9 = .ok (.iload_n 2, 1) := by decide +kernel
theorem dM_put_10 : decode prog_7_method_7_code 10 = .ok (.iconst 0, 1) := by decide +kernel
theorem dM_put_11 : decode prog_7_method_7_code 11 = .ok (.sipush 255, 3) := by decide +kernel
theorem dM_put_14 : decode prog_7_method_7_code 14 = .ok (.invokestatic 77, 3) := by decide +kernel
theorem dM_put_17 : decode prog_7_method_7_code 17 = .ok (.ifCond .ne 6, 3) := by decide +kernel
theorem dM_put_20 : decode prog_7_method_7_code 20 = .ok (.bipush (-2), 2) := by decide +kernel
theorem dM_put_22 : decode prog_7_method_7_code 22 = .ok (.ireturn, 1) := by decide +kernel
theorem dM_put_23 : decode prog_7_method_7_code 23 = .ok (.aload_n 0, 1) := by decide +kernel
theorem dM_put_24 : decode prog_7_method_7_code 24 = .ok (.getfield 13, 3) := by decide +kernel
theorem dM_put_27 : decode prog_7_method_7_code 27 = .ok (.iload_n 1, 1) := by decide +kernel
theorem dM_put_28 : decode prog_7_method_7_code 28 = .ok (.iaload, 1) := by decide +kernel
theorem dM_put_29 : decode prog_7_method_7_code 29 = .ok (.bipush 40, 2) := by decide +kernel
theorem dM_put_31 : decode prog_7_method_7_code 31 = .ok (.if_icmp .ne 6, 3) := by decide +kernel
theorem dM_put_34 : decode prog_7_method_7_code 34 = .ok (.bipush (-3), 2) := by decide +kernel
theorem dM_put_36 : decode prog_7_method_7_code 36 = .ok (.ireturn, 1) := by decide +kernel
theorem dM_put_37 : decode prog_7_method_7_code 37 = .ok (.aload_n 0, 1) := by decide +kernel
theorem dM_put_38 : decode prog_7_method_7_code 38 = .ok (.getfield 7, 3) := by decide +kernel
theorem dM_put_41 : decode prog_7_method_7_code 41 = .ok (.bipush 40, 2) := by decide +kernel
theorem dM_put_43 : decode prog_7_method_7_code 43 = .ok (.iload_n 1, 1) := by decide +kernel
theorem dM_put_44 : decode prog_7_method_7_code 44 = .ok (.imul, 1) := by decide +kernel
theorem dM_put_45 : decode prog_7_method_7_code 45 = .ok (.aload_n 0, 1) := by decide +kernel
theorem dM_put_46 : decode prog_7_method_7_code 46 = .ok (.getfield 13, 3) := by decide +kernel
theorem dM_put_49 : decode prog_7_method_7_code 49 = .ok (.iload_n 1, 1) := by decide +kernel
theorem dM_put_50 : decode prog_7_method_7_code 50 = .ok (.iaload, 1) := by decide +kernel
theorem dM_put_51 : decode prog_7_method_7_code 51 = .ok (.iadd, 1) := by decide +kernel
theorem dM_put_52 : decode prog_7_method_7_code 52 = .ok (.iload_n 2, 1) := by decide +kernel
theorem dM_put_53 : decode prog_7_method_7_code 53 = .ok (.iastore, 1) := by decide +kernel
theorem dM_put_54 : decode prog_7_method_7_code 54 = .ok (.aload_n 0, 1) := by decide +kernel
theorem dM_put_55 : decode prog_7_method_7_code 55 = .ok (.getfield 13, 3) := by decide +kernel
theorem dM_put_58 : decode prog_7_method_7_code 58 = .ok (.iload_n 1, 1) := by decide +kernel
theorem dM_put_59 : decode prog_7_method_7_code 59 = .ok (.dup2, 1) := by decide +kernel
theorem dM_put_60 : decode prog_7_method_7_code 60 = .ok (.iaload, 1) := by decide +kernel
theorem dM_put_61 : decode prog_7_method_7_code 61 = .ok (.iconst 1, 1) := by decide +kernel
theorem dM_put_62 : decode prog_7_method_7_code 62 = .ok (.iadd, 1) := by decide +kernel
theorem dM_put_63 : decode prog_7_method_7_code 63 = .ok (.iastore, 1) := by decide +kernel
theorem dM_put_64 : decode prog_7_method_7_code 64 = .ok (.aload_n 0, 1) := by decide +kernel
theorem dM_put_65 : decode prog_7_method_7_code 65 = .ok (.iconst 0, 1) := by decide +kernel
theorem dM_put_66 : decode prog_7_method_7_code 66 = .ok (.putfield 68, 3) := by decide +kernel
theorem dM_put_69 : decode prog_7_method_7_code 69 = .ok (.aload_n 0, 1) := by decide +kernel
theorem dM_put_70 : decode prog_7_method_7_code 70 = .ok (.getfield 13, 3) := by decide +kernel
theorem dM_put_73 : decode prog_7_method_7_code 73 = .ok (.iload_n 1, 1) := by decide +kernel
theorem dM_put_74 : decode prog_7_method_7_code 74 = .ok (.iaload, 1) := by decide +kernel
theorem dM_put_75 : decode prog_7_method_7_code 75 = .ok (.ireturn, 1) := by decide +kernel
theorem dM_isIn_0 : decode prog_7_method_4_code 0 = .ok (.iload_n 0, 1) := by decide +kernel
theorem dM_isIn_1 : decode prog_7_method_4_code 1 = .ok (.iload_n 1, 1) := by decide +kernel
theorem dM_isIn_2 : decode prog_7_method_4_code 2 = .ok (.if_icmp .lt 12, 3) := by decide +kernel
theorem dM_isIn_5 : decode prog_7_method_4_code 5 = .ok (.iload_n 0, 1) := by decide +kernel
theorem dM_isIn_6 : decode prog_7_method_4_code 6 = .ok (.iload_n 2, 1) := by decide +kernel
theorem dM_isIn_7 : decode prog_7_method_4_code 7 = .ok (.if_icmp .gt 7, 3) := by decide +kernel
theorem dM_isIn_10 : decode prog_7_method_4_code 10 = .ok (.iconst 1, 1) := by decide +kernel
theorem dM_isIn_11 : decode prog_7_method_4_code 11 = .ok (.goto 4, 3) := by decide +kernel
theorem dM_isIn_14 : decode prog_7_method_4_code 14 = .ok (.iconst 0, 1) := by decide +kernel
theorem dM_isIn_15 : decode prog_7_method_4_code 15 = .ok (.ireturn, 1) := by decide +kernel
theorem dM_cut_0 : decode prog_7_method_8_code 0 = .ok (.iload_n 1, 1) := by decide +kernel
theorem dM_cut_1 : decode prog_7_method_8_code 1 = .ok (.iconst 0, 1) := by decide +kernel
theorem dM_cut_2 : decode prog_7_method_8_code 2 = .ok (.iconst 1, 1) := by decide +kernel
theorem dM_cut_3 : decode prog_7_method_8_code 3 = .ok (.invokestatic 77, 3) := by decide +kernel
theorem dM_cut_6 : decode prog_7_method_8_code 6 = .ok (.ifCond .eq 17, 3) := by decide +kernel
theorem dM_cut_9 : decode prog_7_method_8_code 9 = .ok (.iload_n 2, 1) := by decide +kernel
theorem dM_cut_10 : decode prog_7_method_8_code 10 = .ok (.iconst 0, 1) := by decide +kernel
theorem dM_cut_11 : decode prog_7_method_8_code 11 = .ok (.aload_n 0, 1) := by decide +kernel
theorem dM_cut_12 : decode prog_7_method_8_code 12 = .ok (.getfield 13, 3) := by decide +kernel
theorem dM_cut_15 : decode prog_7_method_8_code 15 = .ok (.iload_n 1, 1) := by decide +kernel
theorem dM_cut_16 : decode prog_7_method_8_code 16 = .ok (.iaload, 1) := by decide +kernel
theorem dM_cut_17 : decode prog_7_method_8_code 17 = .ok (.invokestatic 77, 3) := by decide +kernel
theorem dM_cut_20 : decode prog_7_method_8_code 20 = .ok (.ifCond .ne 6, 3) := by decide +kernel
theorem dM_cut_23 : decode prog_7_method_8_code 23 = .ok (.bipush (-2), 2) := by decide +kernel
theorem dM_cut_25 : decode prog_7_method_8_code 25 = .ok (.ireturn, 1) := by decide +kernel
theorem dM_cut_26 : decode prog_7_method_8_code 26 = .ok (.aload_n 0, 1) := by decide +kernel
theorem dM_cut_27 : decode prog_7_method_8_code 27 = .ok (.getfield 13, 3) := by decide +kernel
theorem dM_cut_30 : decode prog_7_method_8_code 30 = .ok (.iload_n 1, 1) := by decide +kernel
theorem dM_cut_31 : decode prog_7_method_8_code 31 = .ok (.dup2, 1) := by decide +kernel
theorem dM_cut_32 : decode prog_7_method_8_code 32 = .ok (.iaload, 1) := by decide +kernel
theorem dM_cut_33 : decode prog_7_method_8_code 33 = .ok (.iload_n 2, 1) := by decide +kernel
theorem dM_cut_34 : decode prog_7_method_8_code 34 = .ok (.isub, 1) := by decide +kernel
theorem dM_cut_35 : decode prog_7_method_8_code 35 = .ok (.iastore, 1) := by decide +kernel
theorem dM_cut_36 : decode prog_7_method_8_code 36 = .ok (.aload_n 0, 1) := by decide +kernel
theorem dM_cut_37 : decode prog_7_method_8_code 37 = .ok (.iconst 0, 1) := by decide +kernel
theorem dM_cut_38 : decode prog_7_method_8_code 38 = .ok (.putfield 68, 3) := by decide +kernel
theorem dM_cut_41 : decode prog_7_method_8_code 41 = .ok (.aload_n 0, 1) := by decide +kernel
theorem dM_cut_42 : decode prog_7_method_8_code 42 = .ok (.getfield 13, 3) := by decide +kernel
theorem dM_cut_45 : decode prog_7_method_8_code 45 = .ok (.iload_n 1, 1) := by decide +kernel
theorem dM_cut_46 : decode prog_7_method_8_code 46 = .ok (.iaload, 1) := by decide +kernel
theorem dM_cut_47 : decode prog_7_method_8_code 47 = .ok (.ireturn, 1) := by decide +kernel
theorem dM_turn_0 : decode prog_7_method_9_code 0 = .ok (.iconst 0, 1) := by decide +kernel
theorem dM_turn_1 : decode prog_7_method_9_code 1 = .ok (.istore_n 1, 1) := by decide +kernel
theorem dM_turn_2 : decode prog_7_method_9_code 2 = .ok (.iload_n 1, 1) := by decide +kernel
theorem dM_turn_3 : decode prog_7_method_9_code 3 = .ok (.bipush 40, 2) := by decide +kernel
theorem dM_turn_5 : decode prog_7_method_9_code 5 = .ok (.if_icmp .ge 41, 3) := by decide +kernel
theorem dM_turn_8 : decode prog_7_method_9_code 8 = .ok (.aload_n 0, 1) := by decide +kernel
theorem dM_turn_9 : decode prog_7_method_9_code 9 = .ok (.getfield 7, 3) := by decide +kernel
theorem dM_turn_12 : decode prog_7_method_9_code 12 = .ok (.iload_n 1, 1) := by decide +kernel
theorem dM_turn_13 : decode prog_7_method_9_code 13 = .ok (.iaload, 1) := by decide +kernel
theorem dM_turn_14 : decode prog_7_method_9_code 14 = .ok (.istore_n 2, 1) := by decide +kernel
theorem dM_turn_15 : decode prog_7_method_9_code 15 = .ok (.aload_n 0, 1) := by decide +kernel
theorem dM_turn_16 : decode prog_7_method_9_code 16 = .ok (.getfield 7, 3) := by decide +kernel
theorem dM_turn_19 : decode prog_7_method_9_code 19 = .ok (.iload_n 1, 1) := by decide +kernel
theorem dM_turn_20 : decode prog_7_method_9_code 20 = .ok (.aload_n 0, 1) := by decide +kernel
theorem dM_turn_21 : decode prog_7_method_9_code 21 = .ok (.getfield 7, 3) := by decide +kernel
theorem dM_turn_24 : decode prog_7_method_9_code 24 = .ok (.bipush 40, 2) := by decide +kernel
theorem dM_turn_26 : decode prog_7_method_9_code 26 = .ok (.iload_n 1, 1) := by decide +kernel
theorem dM_turn_27 : decode prog_7_method_9_code 27 = .ok (.iadd, 1) := by decide +kernel
theorem dM_turn_28 : decode prog_7_method_9_code 28 = .ok (.iaload, 1) := by decide +kernel
theorem dM_turn_29 : decode prog_7_method_9_code 29 = .ok (.iastore, 1) := by decide +kernel
theorem dM_turn_30 : decode prog_7_method_9_code 30 = .ok (.aload_n 0, 1) := by decide +kernel
theorem dM_turn_31 : decode prog_7_method_9_code 31 = .ok (.getfield 7, 3) := by decide +kernel
theorem dM_turn_34 : decode prog_7_method_9_code 34 = .ok (.bipush 40, 2) := by decide +kernel
theorem dM_turn_36 : decode prog_7_method_9_code 36 = .ok (.iload_n 1, 1) := by decide +kernel
theorem dM_turn_37 : decode prog_7_method_9_code 37 = .ok (.iadd, 1) := by decide +kernel
theorem dM_turn_38 : decode prog_7_method_9_code 38 = .ok (.iload_n 2, 1) := by decide +kernel
theorem dM_turn_39 : decode prog_7_method_9_code 39 = .ok (.iastore, 1) := by decide +kernel
theorem dM_turn_40 : decode prog_7_method_9_code 40 = .ok (.iinc 1 1, 3) := by decide +kernel
theorem dM_turn_43 : decode prog_7_method_9_code 43 = .ok (.goto (-41), 3) := by decide +kernel
theorem dM_turn_46 : decode prog_7_method_9_code 46 = .ok (.aload_n 0, 1) := by decide +kernel
theorem dM_turn_47 : decode prog_7_method_9_code 47 = .ok (.getfield 13, 3) := by decide +kernel
theorem dM_turn_50 : decode prog_7_method_9_code 50 = .ok (.iconst 0, 1) := by decide +kernel
theorem dM_turn_51 : decode prog_7_method_9_code 51 = .ok (.iaload, 1) := by decide +kernel
theorem dM_turn_52 : decode prog_7_method_9_code 52 = .ok (.istore_n 1, 1) := by decide +kernel
theorem dM_turn_53 : decode prog_7_method_9_code 53 = .ok (.aload_n 0, 1) := by decide +kernel
theorem dM_turn_54 : decode prog_7_method_9_code 54 = .ok (.getfield 13, 3) := by decide +kernel
theorem dM_turn_57 : decode prog_7_method_9_code 57 = .ok (.iconst 0, 1) := by decide +kernel
theorem dM_turn_58 : decode prog_7_method_9_code 58 = .ok (.aload_n 0, 1) := by decide +kernel
theorem dM_turn_59 : decode prog_7_method_9_code 59 = .ok (.getfield 13, 3) := by decide +kernel
theorem dM_turn_62 : decode prog_7_method_9_code 62 = .ok (.iconst 1, 1) := by decide +kernel
theorem dM_turn_63 : decode prog_7_method_9_code 63 = .ok (.iaload, 1) := by decide +kernel
theorem dM_turn_64 : decode prog_7_method_9_code 64 = .ok (.iastore, 1) := by decide +kernel
theorem dM_turn_65 : decode prog_7_method_9_code 65 = .ok (.aload_n 0, 1) := by decide +kernel
theorem dM_turn_66 : decode prog_7_method_9_code 66 = .ok (.getfield 13, 3) := by decide +kernel
theorem dM_turn_69 : decode prog_7_method_9_code 69 = .ok (.iconst 1, 1) := by decide +kernel
theorem dM_turn_70 : decode prog_7_method_9_code 70 = .ok (.iload_n 1, 1) := by decide +kernel
theorem dM_turn_71 : decode prog_7_method_9_code 71 = .ok (.iastore, 1) := by decide +kernel
theorem dM_turn_72 : decode prog_7_method_9_code 72 = .ok (.aload_n 0, 1) := by decide +kernel
theorem dM_turn_73 : decode prog_7_method_9_code 73 = .ok (.iconst 0, 1) := by decide +kernel
theorem dM_turn_74 : decode prog_7_method_9_code 74 = .ok (.putfield 68, 3) := by decide +kernel
theorem dM_turn_77 : decode prog_7_method_9_code 77 = .ok (.aload_n 0, 1) := by decide +kernel
theorem dM_turn_78 : decode prog_7_method_9_code 78 = .ok (.getfield 13, 3) := by decide +kernel
theorem dM_turn_81 : decode prog_7_method_9_code 81 = .ok (.iconst 0, 1) := by decide +kernel
theorem dM_turn_82 : decode prog_7_method_9_code 82 = .ok (.iaload, 1) := by decide +kernel
theorem dM_turn_83 : decode prog_7_method_9_code 83 = .ok (.ireturn, 1) := by decide +kernel
theorem dM_costs_0 : decode prog_7_method_10_code 0 = .ok (.iload_n 1, 1) := by decide +kernel
theorem dM_costs_1 : decode prog_7_method_10_code 1 = .ok (.iconst 0, 1) := by decide +kernel
theorem dM_costs_2 : decode prog_7_method_10_code 2 = .ok (.bipush 100, 2) := by decide +kernel
theorem dM_costs_4 : decode prog_7_method_10_code 4 = .ok (.invokestatic 77, 3) := by decide +kernel
theorem dM_costs_7 : decode prog_7_method_10_code 7 = .ok (.ifCond .eq 45, 3) := by decide +kernel
theorem dM_costs_10 : decode prog_7_method_10_code 10 = .ok (.iload_n 2, 1) := by decide +kernel
theorem dM_costs_11 : decode prog_7_method_10_code 11 = .ok (.iconst 0, 1) := by decide +kernel
theorem dM_costs_12 : decode prog_7_method_10_code 12 = .ok (.bipush 100, 2) := by decide +kernel
theorem dM_costs_14 : decode prog_7_method_10_code 14 = .ok (.invokestatic 77, 3) := by decide +kernel
theorem dM_costs_17 : decode prog_7_method_10_code 17 = .ok (.ifCond .eq 35, 3) := by decide +kernel
theorem dM_costs_20 : decode prog_7_method_10_code 20 = .ok (.iload_n 3, 1) := by decide +kernel
theorem dM_costs_21 : decode prog_7_method_10_code 21 = .ok (.iconst 0, 1) := by decide +kernel
theorem dM_costs_22 : decode prog_7_method_10_code 22 = .ok (.bipush 100, 2) := by decide +kernel
theorem dM_costs_24 : decode prog_7_method_10_code 24 = .ok (.invokestatic 77, 3) := by decide +kernel
theorem dM_costs_27 : decode prog_7_method_10_code 27 = .ok (.ifCond .eq 25, 3) := by decide +kernel
theorem dM_costs_30 : decode prog_7_method_10_code 30 = .ok (.iload 4, 2) := by decide +kernel
theorem dM_costs_32 : decode prog_7_method_10_code 32 = .ok (.iconst 0, 1) := by decide +kernel
theorem dM_costs_33 : decode prog_7_method_10_code 33 = .ok (.bipush 100, 2) := by decide +kernel
theorem dM_costs_35 : decode prog_7_method_10_code 35 = .ok (.invokestatic 77, 3) := by decide +kernel
theorem dM_costs_38 : decode prog_7_method_10_code 38 = .ok (.ifCond .eq 14, 3) := by decide +kernel
theorem dM_costs_41 : decode prog_7_method_10_code 41 = .ok (.iload 5, 2) := by decide +kernel
theorem dM_costs_43 : decode prog_7_method_10_code 43 = .ok (.iconst 0, 1) := by decide +kernel
theorem dM_costs_44 : decode prog_7_method_10_code 44 = .ok (.bipush 100, 2) := by decide +kernel
theorem dM_costs_46 : decode prog_7_method_10_code 46 = .ok (.invokestatic 77, 3) := by decide +kernel
theorem dM_costs_49 : decode prog_7_method_10_code 49 = .ok (.ifCond .ne 6, 3) := by decide +kernel
theorem dM_costs_52 : decode prog_7_method_10_code 52 = .ok (.bipush (-2), 2) := by decide +kernel
theorem dM_costs_54 : decode prog_7_method_10_code 54 = .ok (.ireturn, 1) := by decide +kernel
theorem dM_costs_55 : decode prog_7_method_10_code 55 = .ok (.iload_n 1, 1) := by decide +kernel
theorem dM_costs_56 : decode prog_7_method_10_code 56 = .ok (.aload_n 0, 1) := by decide +kernel
theorem dM_costs_57 : decode prog_7_method_10_code 57 = .ok (.getfield 40, 3) := by decide +kernel
theorem dM_costs_60 : decode prog_7_method_10_code 60 = .ok (.if_icmp .ne 7, 3) := by decide +kernel
theorem dM_costs_63 : decode prog_7_method_10_code 63 = .ok (.iconst 0, 1) := by decide +kernel
theorem dM_costs_64 : decode prog_7_method_10_code 64 = .ok (.goto 4, 3) := by decide +kernel
theorem dM_costs_67 : decode prog_7_method_10_code 67 = .ok (.iconst 1, 1) := by decide +kernel
theorem dM_costs_68 : decode prog_7_method_10_code 68 = .ok (.iload_n 2, 1) := by decide +kernel
theorem dM_costs_69 : decode prog_7_method_10_code 69 = .ok (.aload_n 0, 1) := by decide +kernel
theorem dM_costs_70 : decode prog_7_method_10_code 70 = .ok (.getfield 44, 3) := by decide +kernel
theorem dM_costs_73 : decode prog_7_method_10_code 73 = .ok (.if_icmp .ne 7, 3) := by decide +kernel
theorem dM_costs_76 : decode prog_7_method_10_code 76 = .ok (.iconst 0, 1) := by decide +kernel
theorem dM_costs_77 : decode prog_7_method_10_code 77 = .ok (.goto 4, 3) := by decide +kernel
theorem dM_costs_80 : decode prog_7_method_10_code 80 = .ok (.iconst 1, 1) := by decide +kernel
theorem dM_costs_81 : decode prog_7_method_10_code 81 = .ok (.iadd, 1) := by decide +kernel
theorem dM_costs_82 : decode prog_7_method_10_code 82 = .ok (.iload_n 3, 1) := by decide +kernel
theorem dM_costs_83 : decode prog_7_method_10_code 83 = .ok (.aload_n 0, 1) := by decide +kernel
theorem dM_costs_84 : decode prog_7_method_10_code 84 = .ok (.getfield 47, 3) := by decide +kernel
theorem dM_costs_87 : decode prog_7_method_10_code 87 = .ok (.if_icmp .ne 7, 3) := by decide +kernel
theorem dM_costs_90 : decode prog_7_method_10_code 90 = .ok (.iconst 0, 1) := by decide +kernel
theorem dM_costs_91 : decode prog_7_method_10_code 91 = .ok (.goto 4, 3) := by decide +kernel
theorem dM_costs_94 : decode prog_7_method_10_code 94 = .ok (.iconst 1, 1) := by decide +kernel
theorem dM_costs_95 : decode prog_7_method_10_code 95 = .ok (.iadd, 1) := by decide +kernel
theorem dM_costs_96 : decode prog_7_method_10_code 96 = .ok (.iload 4, 2) := by decide +kernel
theorem dM_costs_98 : decode prog_7_method_10_code 98 = .ok (.aload_n 0, 1) := by decide +kernel
theorem dM_costs_99 : decode prog_7_method_10_code 99 = .ok (.getfield 50, 3) := by decide +kernel
theorem dM_costs_102 : decode prog_7_method_10_code 102 = .ok (.if_icmp .ne 7, 3) := by decide +kernel
theorem dM_costs_105 : decode prog_7_method_10_code 105 = .ok (.iconst 0, 1) := by decide +kernel
theorem dM_costs_106 : decode prog_7_method_10_code 106 = .ok (.goto 4, 3) := by decide +kernel
theorem dM_costs_109 : decode prog_7_method_10_code 109 = .ok (.iconst 1, 1) := by decide +kernel
theorem dM_costs_110 : decode prog_7_method_10_code 110 = .ok (.iadd, 1) := by decide +kernel
theorem dM_costs_111 : decode prog_7_method_10_code 111 = .ok (.iload 5, 2) := by decide +kernel
theorem dM_costs_113 : decode prog_7_method_10_code 113 = .ok (.aload_n 0, 1) := by decide +kernel
theorem dM_costs_114 : decode prog_7_method_10_code 114 = .ok (.getfield 53, 3) := by decide +kernel
theorem dM_costs_117 : decode prog_7_method_10_code 117 = .ok (.if_icmp .ne 7, 3) := by decide +kernel
theorem dM_costs_120 : decode prog_7_method_10_code 120 = .ok (.iconst 0, 1) := by decide +kernel
theorem dM_costs_121 : decode prog_7_method_10_code 121 = .ok (.goto 4, 3) := by decide +kernel
theorem dM_costs_124 : decode prog_7_method_10_code 124 = .ok (.iconst 1, 1) := by decide +kernel
theorem dM_costs_125 : decode prog_7_method_10_code 125 = .ok (.iadd, 1) := by decide +kernel
theorem dM_costs_126 : decode prog_7_method_10_code 126 = .ok (.istore 6, 2) := by decide +kernel
theorem dM_costs_128 : decode prog_7_method_10_code 128 = .ok (.aload_n 0, 1) := by decide +kernel
theorem dM_costs_129 : decode prog_7_method_10_code 129 = .ok (.iload_n 1, 1) := by decide +kernel
theorem dM_costs_130 : decode prog_7_method_10_code 130 = .ok (.putfield 40, 3) := by decide +kernel
theorem dM_costs_133 : decode prog_7_method_10_code 133 = .ok (.aload_n 0, 1) := by decide +kernel
theorem dM_costs_134 : decode prog_7_method_10_code 134 = .ok (.iload_n 2, 1) := by decide +kernel
theorem dM_costs_135 : decode prog_7_method_10_code 135 = .ok (.putfield 44, 3) := by decide +kernel
theorem dM_costs_138 : decode prog_7_method_10_code 138 = .ok (.aload_n 0, 1) := by decide +kernel
theorem dM_costs_139 : decode prog_7_method_10_code 139 = .ok (.iload_n 3, 1) := by decide +kernel
theorem dM_costs_140 : decode prog_7_method_10_code 140 = .ok (.putfield 47, 3) := by decide +kernel
theorem dM_costs_143 : decode prog_7_method_10_code 143 = .ok (.aload_n 0, 1) := by decide +kernel
theorem dM_costs_144 : decode prog_7_method_10_code 144 = .ok (.iload 4, 2) := by decide +kernel
theorem dM_costs_146 : decode prog_7_method_10_code 146 = .ok (.putfield 50, 3) := by decide +kernel
theorem dM_costs_149 : decode prog_7_method_10_code 149 = .ok (.aload_n 0, 1) := by decide +kernel
theorem dM_costs_150 : decode prog_7_method_10_code 150 = .ok (.iload 5, 2) := by decide +kernel
theorem dM_costs_152 : decode prog_7_method_10_code 152 = .ok (.putfield 53, 3) := by decide +kernel
theorem dM_costs_155 : decode prog_7_method_10_code 155 = .ok (.aload_n 0, 1) := by decide +kernel
theorem dM_costs_156 : decode prog_7_method_10_code 156 = .ok (.iconst 0, 1) := by decide +kernel
theorem dM_costs_157 : decode prog_7_method_10_code 157 = .ok (.putfield 68, 3) := by decide +kernel
theorem dM_costs_160 : decode prog_7_method_10_code 160 = .ok (.iload 6, 2) := by decide +kernel
theorem dM_costs_162 : decode prog_7_method_10_code 162 = .ok (.ireturn, 1) := by decide +kernel
theorem dM_plan_0 : decode prog_7_method_16_code 0 = .ok (.aload_n 0, 1) := by decide +kernel
theorem dM_plan_1 : decode prog_7_method_16_code 1 = .ok (.invokevirtual 103, 3) := by decide +kernel
theorem dM_plan_4 : decode prog_7_method_16_code 4 = .ok (.aload_n 0, 1) := by decide +kernel
theorem dM_plan_5 : decode prog_7_method_16_code 5 = .ok (.iconst 0, 1) := by decide +kernel
theorem dM_plan_6 : decode prog_7_method_16_code 6 = .ok (.putfield 56, 3) := by decide +kernel
theorem dM_plan_9 : decode prog_7_method_16_code 9 = .ok (.aload_n 0, 1) := by decide +kernel
theorem dM_plan_10 : decode prog_7_method_16_code 10 = .ok (.aload_n 0, 1) := by decide +kernel
theorem dM_plan_11 : decode prog_7_method_16_code 11 = .ok (.iconst 0, 1) := by decide +kernel
theorem dM_plan_12 : decode prog_7_method_16_code 12 = .ok (.invokevirtual 106, 3) := by decide +kernel
theorem dM_plan_15 : decode prog_7_method_16_code 15 = .ok (.putfield 59, 3) := by decide +kernel
theorem dM_plan_18 : decode prog_7_method_16_code 18 = .ok (.iconst 0, 1) := by decide +kernel
theorem dM_plan_19 : decode prog_7_method_16_code 19 = .ok (.istore_n 1, 1) := by decide +kernel
theorem dM_plan_20 : decode prog_7_method_16_code 20 = .ok (.iconst 0, 1) := by decide +kernel
theorem dM_plan_21 : decode prog_7_method_16_code 21 = .ok (.istore_n 2, 1) := by decide +kernel
theorem dM_plan_22 : decode prog_7_method_16_code 22 = .ok (.iload_n 1, 1) := by decide +kernel
theorem dM_plan_23 : decode prog_7_method_16_code 23 = .ok (.aload_n 0, 1) := by decide +kernel
theorem dM_plan_24 : decode prog_7_method_16_code 24 = .ok (.getfield 13, 3) := by decide +kernel
theorem dM_plan_27 : decode prog_7_method_16_code 27 = .ok (.iconst 1, 1) := by decide +kernel
theorem dM_plan_28 : decode prog_7_method_16_code 28 = .ok (.iaload, 1) := by decide +kernel
theorem dM_plan_29 : decode prog_7_method_16_code 29 = .ok (.if_icmp .ge 135, 3) := by decide +kernel
theorem dM_plan_32 : decode prog_7_method_16_code 32 = .ok (.aload_n 0, 1) := by decide +kernel
theorem dM_plan_33 : decode prog_7_method_16_code 33 = .ok (.iload_n 1, 1) := by decide +kernel
theorem dM_plan_34 : decode prog_7_method_16_code 34 = .ok (.iload_n 2, 1) := by decide +kernel
theorem dM_plan_35 : decode prog_7_method_16_code 35 = .ok (.invokevirtual 110, 3) := by decide +kernel
theorem dM_plan_38 : decode prog_7_method_16_code 38 = .ok (.aload_n 0, 1) := by decide +kernel
theorem dM_plan_39 : decode prog_7_method_16_code 39 = .ok (.getfield 16, 3) := by decide +kernel
theorem dM_plan_42 : decode prog_7_method_16_code 42 = .ok (.aload_n 0, 1) := by decide +kernel
theorem dM_plan_43 : decode prog_7_method_16_code 43 = .ok (.getfield 56, 3) := by decide +kernel
theorem dM_plan_46 : decode prog_7_method_16_code 46 = .ok (.aload_n 0, 1) := by decide +kernel
theorem dM_plan_47 : decode prog_7_method_16_code 47 = .ok (.getfield 94, 3) := by decide +kernel
theorem dM_plan_50 : decode prog_7_method_16_code 50 = .ok (.iastore, 1) := by decide +kernel
theorem dM_plan_51 : decode prog_7_method_16_code 51 = .ok (.aload_n 0, 1) := by decide +kernel
theorem dM_plan_52 : decode prog_7_method_16_code 52 = .ok (.getfield 19, 3) := by decide +kernel
theorem dM_plan_55 : decode prog_7_method_16_code 55 = .ok (.aload_n 0, 1) := by decide +kernel
theorem dM_plan_56 : decode prog_7_method_16_code 56 = .ok (.getfield 56, 3) := by decide +kernel
theorem dM_plan_59 : decode prog_7_method_16_code 59 = .ok (.aload_n 0, 1) := by decide +kernel
theorem dM_plan_60 : decode prog_7_method_16_code 60 = .ok (.getfield 97, 3) := by decide +kernel
theorem dM_plan_63 : decode prog_7_method_16_code 63 = .ok (.iastore, 1) := by decide +kernel
theorem dM_plan_64 : decode prog_7_method_16_code 64 = .ok (.aload_n 0, 1) := by decide +kernel
theorem dM_plan_65 : decode prog_7_method_16_code 65 = .ok (.getfield 22, 3) := by decide +kernel
theorem dM_plan_68 : decode prog_7_method_16_code 68 = .ok (.aload_n 0, 1) := by decide +kernel
theorem dM_plan_69 : decode prog_7_method_16_code 69 = .ok (.getfield 56, 3) := by decide +kernel
theorem dM_plan_72 : decode prog_7_method_16_code 72 = .ok (.aload_n 0, 1) := by decide +kernel
theorem dM_plan_73 : decode prog_7_method_16_code 73 = .ok (.getfield 100, 3) := by decide +kernel
theorem dM_plan_76 : decode prog_7_method_16_code 76 = .ok (.iastore, 1) := by decide +kernel
theorem dM_plan_77 : decode prog_7_method_16_code 77 = .ok (.iconst 0, 1) := by decide +kernel
theorem dM_plan_78 : decode prog_7_method_16_code 78 = .ok (.istore_n 3, 1) := by decide +kernel
theorem dM_plan_79 : decode prog_7_method_16_code 79 = .ok (.iload_n 3, 1) := by decide +kernel
theorem dM_plan_80 : decode prog_7_method_16_code 80 = .ok (.aload_n 0, 1) := by decide +kernel
theorem dM_plan_81 : decode prog_7_method_16_code 81 = .ok (.getfield 100, 3) := by decide +kernel
theorem dM_plan_84 : decode prog_7_method_16_code 84 = .ok (.if_icmp .ge 39, 3) := by decide +kernel
theorem dM_plan_87 : decode prog_7_method_16_code 87 = .ok (.aload_n 0, 1) := by decide +kernel
theorem dM_plan_88 : decode prog_7_method_16_code 88 = .ok (.getfield 94, 3) := by decide +kernel
theorem dM_plan_91 : decode prog_7_method_16_code 91 = .ok (.iconst 2, 1) := by decide +kernel
theorem dM_plan_92 : decode prog_7_method_16_code 92 = .ok (.if_icmp .ne 31, 3) := by decide +kernel
theorem dM_plan_95 : decode prog_7_method_16_code 95 = .ok (.aload_n 0, 1) := by decide +kernel
theorem dM_plan_96 : decode prog_7_method_16_code 96 = .ok (.getfield 25, 3) := by decide +kernel
theorem dM_plan_99 : decode prog_7_method_16_code 99 = .ok (.bipush 40, 2) := by decide +kernel
theorem dM_plan_101 : decode prog_7_method_16_code 101 = .ok (.aload_n 0, 1) := by decide +kernel
theorem dM_plan_102 : decode prog_7_method_16_code 102 = .ok (.getfield 56, 3) := by decide +kernel
theorem dM_plan_105 : decode prog_7_method_16_code 105 = .ok (.imul, 1) := by decide +kernel
theorem dM_plan_106 : decode prog_7_method_16_code 106 = .ok (.iload_n 3, 1) := by decide +kernel
theorem dM_plan_107 : decode prog_7_method_16_code 107 = .ok (.iadd, 1) := by decide +kernel
theorem dM_plan_108 : decode prog_7_method_16_code 108 = .ok (.aload_n 0, 1) := by decide +kernel
theorem dM_plan_109 : decode prog_7_method_16_code 109 = .ok (.iconst 1, 1) := by decide +kernel
theorem dM_plan_110 : decode prog_7_method_16_code 110 = .ok (.iload_n 1, 1) := by decide +kernel
theorem dM_plan_111 : decode prog_7_method_16_code 111 = .ok (.iload_n 3, 1) := by decide +kernel
theorem dM_plan_112 : decode prog_7_method_16_code 112 = .ok (.iadd, 1) := by decide +kernel
theorem dM_plan_113 : decode prog_7_method_16_code 113 = .ok (.invokevirtual 72, 3) := by decide +kernel
theorem dM_plan_116 : decode prog_7_method_16_code 116 = .ok (.iastore, 1) := by decide +kernel
theorem dM_plan_117 : decode prog_7_method_16_code 117 = .ok (.iinc 3 1, 3) := by decide +kernel
theorem dM_plan_120 : decode prog_7_method_16_code 120 = .ok (.goto (-41), 3) := by decide +kernel
theorem dM_plan_123 : decode prog_7_method_16_code 123 = .ok (.aload_n 0, 1) := by decide +kernel
theorem dM_plan_124 : decode prog_7_method_16_code 124 = .ok (.dup, 1) := by decide +kernel
theorem dM_plan_125 : decode prog_7_method_16_code 125 = .ok (.getfield 56, 3) := by decide +kernel
theorem dM_plan_128 : decode prog_7_method_16_code 128 = .ok (.iconst 1, 1) := by decide +kernel
theorem dM_plan_129 : decode prog_7_method_16_code 129 = .ok (.iadd, 1) := by decide +kernel
theorem dM_plan_130 : decode prog_7_method_16_code 130 = .ok (.putfield 56, 3) := by decide +kernel
theorem dM_plan_133 : decode prog_7_method_16_code 133 = .ok (.aload_n 0, 1) := by decide +kernel
theorem dM_plan_134 : decode prog_7_method_16_code 134 = .ok (.getfield 94, 3) := by decide +kernel
theorem dM_plan_137 : decode prog_7_method_16_code 137 = .ok (.ifCond .ne 15, 3) := by decide +kernel
theorem dM_plan_140 : decode prog_7_method_16_code 140 = .ok (.aload_n 0, 1) := by decide +kernel
theorem dM_plan_141 : decode prog_7_method_16_code 141 = .ok (.getfield 97, 3) := by decide +kernel
theorem dM_plan_144 : decode prog_7_method_16_code 144 = .ok (.aload_n 0, 1) := by decide +kernel
theorem dM_plan_145 : decode prog_7_method_16_code 145 = .ok (.getfield 100, 3) := by decide +kernel
theorem dM_plan_148 : decode prog_7_method_16_code 148 = .ok (.iadd, 1) := by decide +kernel
theorem dM_plan_149 : decode prog_7_method_16_code 149 = .ok (.goto 4, 3) := by decide +kernel
theorem dM_plan_152 : decode prog_7_method_16_code 152 = .ok (.iload_n 2, 1) := by decide +kernel
theorem dM_plan_153 : decode prog_7_method_16_code 153 = .ok (.istore_n 2, 1) := by decide +kernel
theorem dM_plan_154 : decode prog_7_method_16_code 154 = .ok (.iload_n 1, 1) := by decide +kernel
theorem dM_plan_155 : decode prog_7_method_16_code 155 = .ok (.aload_n 0, 1) := by decide +kernel
theorem dM_plan_156 : decode prog_7_method_16_code 156 = .ok (.getfield 100, 3) := by decide +kernel
theorem dM_plan_159 : decode prog_7_method_16_code 159 = .ok (.iadd, 1) := by decide +kernel
theorem dM_plan_160 : decode prog_7_method_16_code 160 = .ok (.istore_n 1, 1) := by decide +kernel
theorem dM_plan_161 : decode prog_7_method_16_code 161 = .ok (.goto (-139), 3) := by decide +kernel
theorem dM_plan_164 : decode prog_7_method_16_code 164 = .ok (.aload_n 0, 1) := by decide +kernel
theorem dM_plan_165 : decode prog_7_method_16_code 165 = .ok (.getfield 56, 3) := by decide +kernel
theorem dM_plan_168 : decode prog_7_method_16_code 168 = .ok (.ireturn, 1) := by decide +kernel
theorem dM_learn_0 : decode prog_7_method_13_code 0 = .ok (.aload_n 0, 1) := by decide +kernel
theorem dM_learn_1 : decode prog_7_method_13_code 1 = .ok (.getfield 68, 3) := by decide +kernel
theorem dM_learn_4 : decode prog_7_method_13_code 4 = .ok (.ifCond .eq 4, 3) := by decide +kernel
theorem dM_learn_7 : decode prog_7_method_13_code 7 = .ok (.return_, 1) := by decide +kernel
theorem dM_learn_8 : decode prog_7_method_13_code 8 = .ok (.aload_n 0, 1) := by decide +kernel
theorem dM_learn_9 : decode prog_7_method_13_code 9 = .ok (.iconst 1, 1) := by decide +kernel
theorem dM_learn_10 : decode prog_7_method_13_code 10 = .ok (.putfield 68, 3) := by decide +kernel
theorem dM_learn_13 : decode prog_7_method_13_code 13 = .ok (.aload_n 0, 1) := by decide +kernel
theorem dM_learn_14 : decode prog_7_method_13_code 14 = .ok (.getfield 13, 3) := by decide +kernel
theorem dM_learn_17 : decode prog_7_method_13_code 17 = .ok (.iconst 1, 1) := by decide +kernel
theorem dM_learn_18 : decode prog_7_method_13_code 18 = .ok (.iaload, 1) := by decide +kernel
theorem dM_learn_19 : decode prog_7_method_13_code 19 = .ok (.istore_n 1, 1) := by decide +kernel
theorem dM_learn_20 : decode prog_7_method_13_code 20 = .ok (.iload_n 1, 1) := by decide +kernel
theorem dM_learn_21 : decode prog_7_method_13_code 21 = .ok (.ifCond .lt 54, 3) := by decide +kernel
theorem dM_learn_24 : decode prog_7_method_13_code 24 = .ok (.iconst 0, 1) := by decide +kernel
theorem dM_learn_25 : decode prog_7_method_13_code 25 = .ok (.istore_n 2, 1) := by decide +kernel
theorem dM_learn_26 : decode prog_7_method_13_code 26 = .ok (.iload_n 2, 1) := by decide +kernel
theorem dM_learn_27 : decode prog_7_method_13_code 27 = .ok (.aload_n 0, 1) := by decide +kernel
theorem dM_learn_28 : decode prog_7_method_13_code 28 = .ok (.getfield 13, 3) := by decide +kernel
theorem dM_learn_31 : decode prog_7_method_13_code 31 = .ok (.iconst 0, 1) := by decide +kernel
theorem dM_learn_32 : decode prog_7_method_13_code 32 = .ok (.iaload, 1) := by decide +kernel
theorem dM_learn_33 : decode prog_7_method_13_code 33 = .ok (.if_icmp .gt 36, 3) := by decide +kernel
theorem dM_learn_36 : decode prog_7_method_13_code 36 = .ok (.aload_n 0, 1) := by decide +kernel
theorem dM_learn_37 : decode prog_7_method_13_code 37 = .ok (.getfield 34, 3) := by decide +kernel
theorem dM_learn_40 : decode prog_7_method_13_code 40 = .ok (.bipush 41, 2) := by decide +kernel
theorem dM_learn_42 : decode prog_7_method_13_code 42 = .ok (.iload_n 1, 1) := by decide +kernel
theorem dM_learn_43 : decode prog_7_method_13_code 43 = .ok (.imul, 1) := by decide +kernel
theorem dM_learn_44 : decode prog_7_method_13_code 44 = .ok (.iload_n 2, 1) := by decide +kernel
theorem dM_learn_45 : decode prog_7_method_13_code 45 = .ok (.iadd, 1) := by decide +kernel
theorem dM_learn_46 : decode prog_7_method_13_code 46 = .ok (.iload_n 1, 1) := by decide +kernel
theorem dM_learn_47 : decode prog_7_method_13_code 47 = .ok (.aload_n 0, 1) := by decide +kernel
theorem dM_learn_48 : decode prog_7_method_13_code 48 = .ok (.getfield 13, 3) := by decide +kernel
theorem dM_learn_51 : decode prog_7_method_13_code 51 = .ok (.iconst 1, 1) := by decide +kernel
theorem dM_learn_52 : decode prog_7_method_13_code 52 = .ok (.iaload, 1) := by decide +kernel
theorem dM_learn_53 : decode prog_7_method_13_code 53 = .ok (.if_icmp .ne 7, 3) := by decide +kernel
theorem dM_learn_56 : decode prog_7_method_13_code 56 = .ok (.iconst 0, 1) := by decide +kernel
theorem dM_learn_57 : decode prog_7_method_13_code 57 = .ok (.goto 5, 3) := by decide +kernel
theorem dM_learn_60 : decode prog_7_method_13_code 60 = .ok (.ldc 81, 2) := by decide +kernel
theorem dM_learn_62 : decode prog_7_method_13_code 62 = .ok (.iastore, 1) := by decide +kernel
theorem dM_learn_63 : decode prog_7_method_13_code 63 = .ok (.iinc 2 1, 3) := by decide +kernel
theorem dM_learn_66 : decode prog_7_method_13_code 66 = .ok (.goto (-40), 3) := by decide +kernel
theorem dM_learn_69 : decode prog_7_method_13_code 69 = .ok (.iinc 1 (-1), 3) := by decide +kernel
theorem dM_learn_72 : decode prog_7_method_13_code 72 = .ok (.goto (-52), 3) := by decide +kernel
theorem dM_learn_75 : decode prog_7_method_13_code 75 = .ok (.aload_n 0, 1) := by decide +kernel
theorem dM_learn_76 : decode prog_7_method_13_code 76 = .ok (.getfield 13, 3) := by decide +kernel
theorem dM_learn_79 : decode prog_7_method_13_code 79 = .ok (.iconst 1, 1) := by decide +kernel
theorem dM_learn_80 : decode prog_7_method_13_code 80 = .ok (.iaload, 1) := by decide +kernel
theorem dM_learn_81 : decode prog_7_method_13_code 81 = .ok (.iconst 1, 1) := by decide +kernel
theorem dM_learn_82 : decode prog_7_method_13_code 82 = .ok (.isub, 1) := by decide +kernel
theorem dM_learn_83 : decode prog_7_method_13_code 83 = .ok (.istore_n 1, 1) := by decide +kernel
theorem dM_learn_84 : decode prog_7_method_13_code 84 = .ok (.iload_n 1, 1) := by decide +kernel
theorem dM_learn_85 : decode prog_7_method_13_code 85 = .ok (.ifCond .lt 260, 3) := by decide +kernel
theorem dM_learn_88 : decode prog_7_method_13_code 88 = .ok (.iconst 0, 1) := by decide +kernel
theorem dM_learn_89 : decode prog_7_method_13_code 89 = .ok (.istore_n 2, 1) := by decide +kernel
theorem dM_learn_90 : decode prog_7_method_13_code 90 = .ok (.iload_n 2, 1) := by decide +kernel
theorem dM_learn_91 : decode prog_7_method_13_code 91 = .ok (.aload_n 0, 1) := by decide +kernel
theorem dM_learn_92 : decode prog_7_method_13_code 92 = .ok (.getfield 13, 3) := by decide +kernel
theorem dM_learn_95 : decode prog_7_method_13_code 95 = .ok (.iconst 0, 1) := by decide +kernel
theorem dM_learn_96 : decode prog_7_method_13_code 96 = .ok (.iaload, 1) := by decide +kernel
theorem dM_learn_97 : decode prog_7_method_13_code 97 = .ok (.if_icmp .ge 87, 3) := by decide +kernel
theorem dM_learn_100 : decode prog_7_method_13_code 100 = .ok (.aload_n 0, 1) := by decide +kernel
theorem dM_learn_101 : decode prog_7_method_13_code 101 = .ok (.iconst 0, 1) := by decide +kernel
theorem dM_learn_102 : decode prog_7_method_13_code 102 = .ok (.iload_n 2, 1) := by decide +kernel
theorem dM_learn_103 : decode prog_7_method_13_code 103 = .ok (.iload_n 1, 1) := by decide +kernel
theorem dM_learn_104 : decode prog_7_method_13_code 104 = .ok (.invokevirtual 82, 3) := by decide +kernel
theorem dM_learn_107 : decode prog_7_method_13_code 107 = .ok (.istore_n 3, 1) := by decide +kernel
theorem dM_learn_108 : decode prog_7_method_13_code 108 = .ok (.iconst 1, 1) := by decide +kernel
theorem dM_learn_109 : decode prog_7_method_13_code 109 = .ok (.istore 4, 2) := by decide +kernel
theorem dM_learn_111 : decode prog_7_method_13_code 111 = .ok (.iload 4, 2) := by decide +kernel
theorem dM_learn_113 : decode prog_7_method_13_code 113 = .ok (.iload_n 3, 1) := by decide +kernel
theorem dM_learn_114 : decode prog_7_method_13_code 114 = .ok (.if_icmp .gt 64, 3) := by decide +kernel
theorem dM_learn_117 : decode prog_7_method_13_code 117 = .ok (.iconst 0, 1) := by decide +kernel
theorem dM_learn_118 : decode prog_7_method_13_code 118 = .ok (.istore 5, 2) := by decide +kernel
theorem dM_learn_120 : decode prog_7_method_13_code 120 = .ok (.iload 5, 2) := by decide +kernel
theorem dM_learn_122 : decode prog_7_method_13_code 122 = .ok (.aload_n 0, 1) := by decide +kernel
theorem dM_learn_123 : decode prog_7_method_13_code 123 = .ok (.getfield 13, 3) := by decide +kernel
theorem dM_learn_126 : decode prog_7_method_13_code 126 = .ok (.iconst 0, 1) := by decide +kernel
theorem dM_learn_127 : decode prog_7_method_13_code 127 = .ok (.iaload, 1) := by decide +kernel
theorem dM_learn_128 : decode prog_7_method_13_code 128 = .ok (.if_icmp .gt 44, 3) := by decide +kernel
theorem dM_learn_131 : decode prog_7_method_13_code 131 = .ok (.aload_n 0, 1) := by decide +kernel
theorem dM_learn_132 : decode prog_7_method_13_code 132 = .ok (.iload_n 1, 1) := by decide +kernel
theorem dM_learn_133 : decode prog_7_method_13_code 133 = .ok (.iload 5, 2) := by decide +kernel
theorem dM_learn_135 : decode prog_7_method_13_code 135 = .ok (.aload_n 0, 1) := by decide +kernel
theorem dM_learn_136 : decode prog_7_method_13_code 136 = .ok (.iconst 0, 1) := by decide +kernel
theorem dM_learn_137 : decode prog_7_method_13_code 137 = .ok (.iload_n 2, 1) := by decide +kernel
theorem dM_learn_138 : decode prog_7_method_13_code 138 = .ok (.iload 4, 2) := by decide +kernel
theorem dM_learn_140 : decode prog_7_method_13_code 140 = .ok (.iload 5, 2) := by decide +kernel
theorem dM_learn_142 : decode prog_7_method_13_code 142 = .ok (.invokevirtual 86, 3) := by decide +kernel
theorem dM_learn_145 : decode prog_7_method_13_code 145 = .ok (.aload_n 0, 1) := by decide +kernel
theorem dM_learn_146 : decode prog_7_method_13_code 146 = .ok (.getfield 34, 3) := by decide +kernel
theorem dM_learn_149 : decode prog_7_method_13_code 149 = .ok (.bipush 41, 2) := by decide +kernel
theorem dM_learn_151 : decode prog_7_method_13_code 151 = .ok (.iload_n 1, 1) := by decide +kernel
theorem dM_learn_152 : decode prog_7_method_13_code 152 = .ok (.iload 4, 2) := by decide +kernel
theorem dM_learn_154 : decode prog_7_method_13_code 154 = .ok (.iadd, 1) := by decide +kernel
theorem dM_learn_155 : decode prog_7_method_13_code 155 = .ok (.imul, 1) := by decide +kernel
theorem dM_learn_156 : decode prog_7_method_13_code 156 = .ok (.iload_n 2, 1) := by decide +kernel
theorem dM_learn_157 : decode prog_7_method_13_code 157 = .ok (.iadd, 1) := by decide +kernel
theorem dM_learn_158 : decode prog_7_method_13_code 158 = .ok (.iload 4, 2) := by decide +kernel
theorem dM_learn_160 : decode prog_7_method_13_code 160 = .ok (.iadd, 1) := by decide +kernel
theorem dM_learn_161 : decode prog_7_method_13_code 161 = .ok (.iaload, 1) := by decide +kernel
theorem dM_learn_162 : decode prog_7_method_13_code 162 = .ok (.iadd, 1) := by decide +kernel
theorem dM_learn_163 : decode prog_7_method_13_code 163 = .ok (.invokevirtual 90, 3) := by decide +kernel
theorem dM_learn_166 : decode prog_7_method_13_code 166 = .ok (.iinc 5 1, 3) := by decide +kernel
theorem dM_learn_169 : decode prog_7_method_13_code 169 = .ok (.goto (-49), 3) := by decide +kernel
theorem dM_learn_172 : decode prog_7_method_13_code 172 = .ok (.iinc 4 1, 3) := by decide +kernel
theorem dM_learn_175 : decode prog_7_method_13_code 175 = .ok (.goto (-64), 3) := by decide +kernel
theorem dM_learn_178 : decode prog_7_method_13_code 178 = .ok (.iinc 2 1, 3) := by decide +kernel
theorem dM_learn_181 : decode prog_7_method_13_code 181 = .ok (.goto (-91), 3) := by decide +kernel
theorem dM_learn_184 : decode prog_7_method_13_code 184 = .ok (.iconst 0, 1) := by decide +kernel
theorem dM_learn_185 : decode prog_7_method_13_code 185 = .ok (.istore_n 2, 1) := by decide +kernel
theorem dM_learn_186 : decode prog_7_method_13_code 186 = .ok (.iload_n 2, 1) := by decide +kernel
theorem dM_learn_187 : decode prog_7_method_13_code 187 = .ok (.iload_n 1, 1) := by decide +kernel
theorem dM_learn_188 : decode prog_7_method_13_code 188 = .ok (.if_icmp .ge 85, 3) := by decide +kernel
theorem dM_learn_191 : decode prog_7_method_13_code 191 = .ok (.aload_n 0, 1) := by decide +kernel
theorem dM_learn_192 : decode prog_7_method_13_code 192 = .ok (.iconst 1, 1) := by decide +kernel
theorem dM_learn_193 : decode prog_7_method_13_code 193 = .ok (.iload_n 2, 1) := by decide +kernel
theorem dM_learn_194 : decode prog_7_method_13_code 194 = .ok (.iload_n 1, 1) := by decide +kernel
theorem dM_learn_195 : decode prog_7_method_13_code 195 = .ok (.invokevirtual 82, 3) := by decide +kernel
theorem dM_learn_198 : decode prog_7_method_13_code 198 = .ok (.istore_n 3, 1) := by decide +kernel
theorem dM_learn_199 : decode prog_7_method_13_code 199 = .ok (.iconst 1, 1) := by decide +kernel
theorem dM_learn_200 : decode prog_7_method_13_code 200 = .ok (.istore 4, 2) := by decide +kernel
theorem dM_learn_202 : decode prog_7_method_13_code 202 = .ok (.iload 4, 2) := by decide +kernel
theorem dM_learn_204 : decode prog_7_method_13_code 204 = .ok (.iload_n 3, 1) := by decide +kernel
theorem dM_learn_205 : decode prog_7_method_13_code 205 = .ok (.if_icmp .gt 62, 3) := by decide +kernel
theorem dM_learn_208 : decode prog_7_method_13_code 208 = .ok (.iconst 0, 1) := by decide +kernel
theorem dM_learn_209 : decode prog_7_method_13_code 209 = .ok (.istore 5, 2) := by decide +kernel
theorem dM_learn_211 : decode prog_7_method_13_code 211 = .ok (.iload 5, 2) := by decide +kernel
theorem dM_learn_213 : decode prog_7_method_13_code 213 = .ok (.aload_n 0, 1) := by decide +kernel
theorem dM_learn_214 : decode prog_7_method_13_code 214 = .ok (.getfield 13, 3) := by decide +kernel
theorem dM_learn_217 : decode prog_7_method_13_code 217 = .ok (.iconst 0, 1) := by decide +kernel
theorem dM_learn_218 : decode prog_7_method_13_code 218 = .ok (.iaload, 1) := by decide +kernel
theorem dM_learn_219 : decode prog_7_method_13_code 219 = .ok (.if_icmp .gt 42, 3) := by decide +kernel
theorem dM_learn_222 : decode prog_7_method_13_code 222 = .ok (.aload_n 0, 1) := by decide +kernel
theorem dM_learn_223 : decode prog_7_method_13_code 223 = .ok (.iload_n 1, 1) := by decide +kernel
theorem dM_learn_224 : decode prog_7_method_13_code 224 = .ok (.iload 5, 2) := by decide +kernel
theorem dM_learn_226 : decode prog_7_method_13_code 226 = .ok (.aload_n 0, 1) := by decide +kernel
theorem dM_learn_227 : decode prog_7_method_13_code 227 = .ok (.iconst 1, 1) := by decide +kernel
theorem dM_learn_228 : decode prog_7_method_13_code 228 = .ok (.iload_n 2, 1) := by decide +kernel
theorem dM_learn_229 : decode prog_7_method_13_code 229 = .ok (.iload 4, 2) := by decide +kernel
theorem dM_learn_231 : decode prog_7_method_13_code 231 = .ok (.iload 5, 2) := by decide +kernel
theorem dM_learn_233 : decode prog_7_method_13_code 233 = .ok (.invokevirtual 86, 3) := by decide +kernel
theorem dM_learn_236 : decode prog_7_method_13_code 236 = .ok (.aload_n 0, 1) := by decide +kernel
theorem dM_learn_237 : decode prog_7_method_13_code 237 = .ok (.getfield 34, 3) := by decide +kernel
theorem dM_learn_240 : decode prog_7_method_13_code 240 = .ok (.bipush 41, 2) := by decide +kernel
theorem dM_learn_242 : decode prog_7_method_13_code 242 = .ok (.iload_n 1, 1) := by decide +kernel
theorem dM_learn_243 : decode prog_7_method_13_code 243 = .ok (.iload 4, 2) := by decide +kernel
theorem dM_learn_245 : decode prog_7_method_13_code 245 = .ok (.iadd, 1) := by decide +kernel
theorem dM_learn_246 : decode prog_7_method_13_code 246 = .ok (.imul, 1) := by decide +kernel
theorem dM_learn_247 : decode prog_7_method_13_code 247 = .ok (.iload 5, 2) := by decide +kernel
theorem dM_learn_249 : decode prog_7_method_13_code 249 = .ok (.iadd, 1) := by decide +kernel
theorem dM_learn_250 : decode prog_7_method_13_code 250 = .ok (.iaload, 1) := by decide +kernel
theorem dM_learn_251 : decode prog_7_method_13_code 251 = .ok (.iadd, 1) := by decide +kernel
theorem dM_learn_252 : decode prog_7_method_13_code 252 = .ok (.invokevirtual 90, 3) := by decide +kernel
theorem dM_learn_255 : decode prog_7_method_13_code 255 = .ok (.iinc 5 1, 3) := by decide +kernel
theorem dM_learn_258 : decode prog_7_method_13_code 258 = .ok (.goto (-47), 3) := by decide +kernel
theorem dM_learn_261 : decode prog_7_method_13_code 261 = .ok (.iinc 4 1, 3) := by decide +kernel
theorem dM_learn_264 : decode prog_7_method_13_code 264 = .ok (.goto (-62), 3) := by decide +kernel
theorem dM_learn_267 : decode prog_7_method_13_code 267 = .ok (.iinc 2 1, 3) := by decide +kernel
theorem dM_learn_270 : decode prog_7_method_13_code 270 = .ok (.goto (-84), 3) := by decide +kernel
theorem dM_learn_273 : decode prog_7_method_13_code 273 = .ok (.iconst 1, 1) := by decide +kernel
theorem dM_learn_274 : decode prog_7_method_13_code 274 = .ok (.istore_n 2, 1) := by decide +kernel
theorem dM_learn_275 : decode prog_7_method_13_code 275 = .ok (.iload_n 2, 1) := by decide +kernel
theorem dM_learn_276 : decode prog_7_method_13_code 276 = .ok (.aload_n 0, 1) := by decide +kernel
theorem dM_learn_277 : decode prog_7_method_13_code 277 = .ok (.getfield 13, 3) := by decide +kernel
theorem dM_learn_280 : decode prog_7_method_13_code 280 = .ok (.iconst 1, 1) := by decide +kernel
theorem dM_learn_281 : decode prog_7_method_13_code 281 = .ok (.iaload, 1) := by decide +kernel
theorem dM_learn_282 : decode prog_7_method_13_code 282 = .ok (.iload_n 1, 1) := by decide +kernel
theorem dM_learn_283 : decode prog_7_method_13_code 283 = .ok (.isub, 1) := by decide +kernel
theorem dM_learn_284 : decode prog_7_method_13_code 284 = .ok (.if_icmp .gt 55, 3) := by decide +kernel
theorem dM_learn_287 : decode prog_7_method_13_code 287 = .ok (.iconst 0, 1) := by decide +kernel
theorem dM_learn_288 : decode prog_7_method_13_code 288 = .ok (.istore_n 3, 1) := by decide +kernel
theorem dM_learn_289 : decode prog_7_method_13_code 289 = .ok (.iload_n 3, 1) := by decide +kernel
theorem dM_learn_290 : decode prog_7_method_13_code 290 = .ok (.aload_n 0, 1) := by decide +kernel
theorem dM_learn_291 : decode prog_7_method_13_code 291 = .ok (.getfield 13, 3) := by decide +kernel
theorem dM_learn_294 : decode prog_7_method_13_code 294 = .ok (.iconst 0, 1) := by decide +kernel
theorem dM_learn_295 : decode prog_7_method_13_code 295 = .ok (.iaload, 1) := by decide +kernel
theorem dM_learn_296 : decode prog_7_method_13_code 296 = .ok (.if_icmp .gt 37, 3) := by decide +kernel
theorem dM_learn_299 : decode prog_7_method_13_code 299 = .ok (.aload_n 0, 1) := by decide +kernel
theorem dM_learn_300 : decode prog_7_method_13_code 300 = .ok (.iload_n 1, 1) := by decide +kernel
theorem dM_learn_301 : decode prog_7_method_13_code 301 = .ok (.iload_n 3, 1) := by decide +kernel
theorem dM_learn_302 : decode prog_7_method_13_code 302 = .ok (.aload_n 0, 1) := by decide +kernel
theorem dM_learn_303 : decode prog_7_method_13_code 303 = .ok (.iconst 2, 1) := by decide +kernel
theorem dM_learn_304 : decode prog_7_method_13_code 304 = .ok (.iconst 0, 1) := by decide +kernel
theorem dM_learn_305 : decode prog_7_method_13_code 305 = .ok (.iload_n 2, 1) := by decide +kernel
theorem dM_learn_306 : decode prog_7_method_13_code 306 = .ok (.iload_n 3, 1) := by decide +kernel
theorem dM_learn_307 : decode prog_7_method_13_code 307 = .ok (.invokevirtual 86, 3) := by decide +kernel
theorem dM_learn_310 : decode prog_7_method_13_code 310 = .ok (.aload_n 0, 1) := by decide +kernel
theorem dM_learn_311 : decode prog_7_method_13_code 311 = .ok (.getfield 34, 3) := by decide +kernel
theorem dM_learn_314 : decode prog_7_method_13_code 314 = .ok (.bipush 41, 2) := by decide +kernel
theorem dM_learn_316 : decode prog_7_method_13_code 316 = .ok (.iload_n 1, 1) := by decide +kernel
theorem dM_learn_317 : decode prog_7_method_13_code 317 = .ok (.iload_n 2, 1) := by decide +kernel
theorem dM_learn_318 : decode prog_7_method_13_code 318 = .ok (.iadd, 1) := by decide +kernel
theorem dM_learn_319 : decode prog_7_method_13_code 319 = .ok (.imul, 1) := by decide +kernel
theorem dM_learn_320 : decode prog_7_method_13_code 320 = .ok (.iload_n 3, 1) := by decide +kernel
theorem dM_learn_321 : decode prog_7_method_13_code 321 = .ok (.iadd, 1) := by decide +kernel
theorem dM_learn_322 : decode prog_7_method_13_code 322 = .ok (.iaload, 1) := by decide +kernel
theorem dM_learn_323 : decode prog_7_method_13_code 323 = .ok (.iadd, 1) := by decide +kernel
theorem dM_learn_324 : decode prog_7_method_13_code 324 = .ok (.invokevirtual 90, 3) := by decide +kernel
theorem dM_learn_327 : decode prog_7_method_13_code 327 = .ok (.iinc 3 1, 3) := by decide +kernel
theorem dM_learn_330 : decode prog_7_method_13_code 330 = .ok (.goto (-41), 3) := by decide +kernel
theorem dM_learn_333 : decode prog_7_method_13_code 333 = .ok (.iinc 2 1, 3) := by decide +kernel
theorem dM_learn_336 : decode prog_7_method_13_code 336 = .ok (.goto (-61), 3) := by decide +kernel
theorem dM_learn_339 : decode prog_7_method_13_code 339 = .ok (.iinc 1 (-1), 3) := by decide +kernel
theorem dM_learn_342 : decode prog_7_method_13_code 342 = .ok (.goto (-258), 3) := by decide +kernel
theorem dM_learn_345 : decode prog_7_method_13_code 345 = .ok (.return_, 1) := by decide +kernel
theorem dM_like_0 : decode prog_7_method_12_code 0 = .ok (.iconst 0, 1) := by decide +kernel
theorem dM_like_1 : decode prog_7_method_12_code 1 = .ok (.istore 4, 2) := by decide +kernel
theorem dM_like_3 : decode prog_7_method_12_code 3 = .ok (.iload_n 2, 1) := by decide +kernel
theorem dM_like_4 : decode prog_7_method_12_code 4 = .ok (.iload 4, 2) := by decide +kernel
theorem dM_like_6 : decode prog_7_method_12_code 6 = .ok (.iadd, 1) := by decide +kernel
theorem dM_like_7 : decode prog_7_method_12_code 7 = .ok (.aload_n 0, 1) := by decide +kernel
theorem dM_like_8 : decode prog_7_method_12_code 8 = .ok (.getfield 13, 3) := by decide +kernel
theorem dM_like_11 : decode prog_7_method_12_code 11 = .ok (.iload_n 1, 1) := by decide +kernel
theorem dM_like_12 : decode prog_7_method_12_code 12 = .ok (.iaload, 1) := by decide +kernel
theorem dM_like_13 : decode prog_7_method_12_code 13 = .ok (.if_icmp .ge 43, 3) := by decide +kernel
theorem dM_like_16 : decode prog_7_method_12_code 16 = .ok (.iload_n 3, 1) := by decide +kernel
theorem dM_like_17 : decode prog_7_method_12_code 17 = .ok (.iload 4, 2) := by decide +kernel
theorem dM_like_19 : decode prog_7_method_12_code 19 = .ok (.iadd, 1) := by decide +kernel
theorem dM_like_20 : decode prog_7_method_12_code 20 = .ok (.aload_n 0, 1) := by decide +kernel
theorem dM_like_21 : decode prog_7_method_12_code 21 = .ok (.getfield 13, 3) := by decide +kernel
theorem dM_like_24 : decode prog_7_method_12_code 24 = .ok (.iconst 1, 1) := by decide +kernel
theorem dM_like_25 : decode prog_7_method_12_code 25 = .ok (.iaload, 1) := by decide +kernel
theorem dM_like_26 : decode prog_7_method_12_code 26 = .ok (.if_icmp .ge 30, 3) := by decide +kernel
theorem dM_like_29 : decode prog_7_method_12_code 29 = .ok (.aload_n 0, 1) := by decide +kernel
theorem dM_like_30 : decode prog_7_method_12_code 30 = .ok (.iload_n 1, 1) := by decide +kernel
theorem dM_like_31 : decode prog_7_method_12_code 31 = .ok (.iload_n 2, 1) := by decide +kernel
theorem dM_like_32 : decode prog_7_method_12_code 32 = .ok (.iload 4, 2) := by decide +kernel
theorem dM_like_34 : decode prog_7_method_12_code 34 = .ok (.iadd, 1) := by decide +kernel
theorem dM_like_35 : decode prog_7_method_12_code 35 = .ok (.invokevirtual 72, 3) := by decide +kernel
theorem dM_like_38 : decode prog_7_method_12_code 38 = .ok (.aload_n 0, 1) := by decide +kernel
theorem dM_like_39 : decode prog_7_method_12_code 39 = .ok (.iconst 1, 1) := by decide +kernel
theorem dM_like_40 : decode prog_7_method_12_code 40 = .ok (.iload_n 3, 1) := by decide +kernel
theorem dM_like_41 : decode prog_7_method_12_code 41 = .ok (.iload 4, 2) := by decide +kernel
theorem dM_like_43 : decode prog_7_method_12_code 43 = .ok (.iadd, 1) := by decide +kernel
theorem dM_like_44 : decode prog_7_method_12_code 44 = .ok (.invokevirtual 72, 3) := by decide +kernel
theorem dM_like_47 : decode prog_7_method_12_code 47 = .ok (.if_icmp .ne 9, 3) := by decide +kernel
theorem dM_like_50 : decode prog_7_method_12_code 50 = .ok (.iinc 4 1, 3) := by decide +kernel
theorem dM_like_53 : decode prog_7_method_12_code 53 = .ok (.goto (-50), 3) := by decide +kernel
theorem dM_like_56 : decode prog_7_method_12_code 56 = .ok (.iload 4, 2) := by decide +kernel
theorem dM_like_58 : decode prog_7_method_12_code 58 = .ok (.ireturn, 1) := by decide +kernel
theorem dM_byteOf_0 : decode prog_7_method_5_code 0 = .ok (.aload_n 0, 1) := by decide +kernel
theorem dM_byteOf_1 : decode prog_7_method_5_code 1 = .ok (.getfield 7, 3) := by decide +kernel
theorem dM_byteOf_4 : decode prog_7_method_5_code 4 = .ok (.bipush 40, 2) := by decide +kernel
theorem dM_byteOf_6 : decode prog_7_method_5_code 6 = .ok (.iload_n 1, 1) := by decide +kernel
theorem dM_byteOf_7 : decode prog_7_method_5_code 7 = .ok (.imul, 1) := by decide +kernel
theorem dM_byteOf_8 : decode prog_7_method_5_code 8 = .ok (.iload_n 2, 1) := by decide +kernel
theorem dM_byteOf_9 : decode prog_7_method_5_code 9 = .ok (.iadd, 1) := by decide +kernel
theorem dM_byteOf_10 : decode prog_7_method_5_code 10 = .ok (.iaload, 1) := by decide +kernel
theorem dM_byteOf_11 : decode prog_7_method_5_code 11 = .ok (.ireturn, 1) := by decide +kernel
theorem dM_costOf_0 : decode prog_7_method_11_code 0 = .ok (.iload_n 1, 1) := by decide +kernel
theorem dM_costOf_1 : decode prog_7_method_11_code 1 = .ok (.ifCond .ne 23, 3) := by decide +kernel
theorem dM_costOf_4 : decode prog_7_method_11_code 4 = .ok (.aload_n 0, 1) := by decide +kernel
theorem dM_costOf_5 : decode prog_7_method_11_code 5 = .ok (.getfield 40, 3) := by decide +kernel
theorem dM_costOf_8 : decode prog_7_method_11_code 8 = .ok (.iload_n 2, 1) := by decide +kernel
theorem dM_costOf_9 : decode prog_7_method_11_code 9 = .ok (.iload 4, 2) := by decide +kernel
theorem dM_costOf_11 : decode prog_7_method_11_code 11 = .ok (.if_icmp .ne 7, 3) := by decide +kernel
theorem dM_costOf_14 : decode prog_7_method_11_code 14 = .ok (.iconst 0, 1) := by decide +kernel
theorem dM_costOf_15 : decode prog_7_method_11_code 15 = .ok (.goto 7, 3) := by decide +kernel
theorem dM_costOf_18 : decode prog_7_method_11_code 18 = .ok (.aload_n 0, 1) := by decide +kernel
theorem dM_costOf_19 : decode prog_7_method_11_code 19 = .ok (.getfield 44, 3) := by decide +kernel
theorem dM_costOf_22 : decode prog_7_method_11_code 22 = .ok (.iadd, 1) := by decide +kernel
theorem dM_costOf_23 : decode prog_7_method_11_code 23 = .ok (.ireturn, 1) := by decide +kernel
theorem dM_costOf_24 : decode prog_7_method_11_code 24 = .ok (.iload_n 1, 1) := by decide +kernel
theorem dM_costOf_25 : decode prog_7_method_11_code 25 = .ok (.iconst 1, 1) := by decide +kernel
theorem dM_costOf_26 : decode prog_7_method_11_code 26 = .ok (.if_icmp .ne 10, 3) := by decide +kernel
theorem dM_costOf_29 : decode prog_7_method_11_code 29 = .ok (.aload_n 0, 1) := by decide +kernel
theorem dM_costOf_30 : decode prog_7_method_11_code 30 = .ok (.getfield 47, 3) := by decide +kernel
theorem dM_costOf_33 : decode prog_7_method_11_code 33 = .ok (.goto 14, 3) := by decide +kernel
theorem dM_costOf_36 : decode prog_7_method_11_code 36 = .ok (.aload_n 0, 1) := by decide +kernel
theorem dM_costOf_37 : decode prog_7_method_11_code 37 = .ok (.getfield 50, 3) := by decide +kernel
theorem dM_costOf_40 : decode prog_7_method_11_code 40 = .ok (.aload_n 0, 1) := by decide +kernel
theorem dM_costOf_41 : decode prog_7_method_11_code 41 = .ok (.getfield 53, 3) := by decide +kernel
theorem dM_costOf_44 : decode prog_7_method_11_code 44 = .ok (.iload_n 3, 1) := by decide +kernel
theorem dM_costOf_45 : decode prog_7_method_11_code 45 = .ok (.imul, 1) := by decide +kernel
theorem dM_costOf_46 : decode prog_7_method_11_code 46 = .ok (.iadd, 1) := by decide +kernel
end
section
theorem dS_init_0 : decode prog_5_method_1_code 0 = .ok (.aload_n 0, 1) := by decide +kernel
theorem dS_init_1 : decode prog_5_method_1_code 1 = .ok (.invokespecial 3, 3) := by decide +kernel
theorem dS_init_4 : decode prog_5_method_1_code 4 = .ok (.aload_n 0, 1) := by decide +kernel
theorem dS_init_5 : decode prog_5_method_1_code 5 = .ok (.sipush 1681, 3) := by decide +kernel
theorem dS_init_8 : decode prog_5_method_1_code 8 = .ok (.newarray .int, 2) := by decide +kernel
theorem dS_init_10 : decode prog_5_method_1_code 10 = .ok (.putfield 11, 3) := by decide +kernel
theorem dS_init_13 : decode prog_5_method_1_code 13 = .ok (.aload_n 0, 1) := by decide +kernel
theorem dS_init_14 : decode prog_5_method_1_code 14 = .ok (.bipush 41, 2) := by decide +kernel
theorem dS_init_16 : decode prog_5_method_1_code 16 = .ok (.newarray .int, 2) := by decide +kernel
theorem dS_init_18 : decode prog_5_method_1_code 18 = .ok (.putfield 15, 3) := by decide +kernel
theorem dS_init_21 : decode prog_5_method_1_code 21 = .ok (.aload_n 0, 1) := by decide +kernel
theorem dS_init_22 : decode prog_5_method_1_code 22 = .ok (.bipush 41, 2) := by decide +kernel
theorem dS_init_24 : decode prog_5_method_1_code 24 = .ok (.newarray .int, 2) := by decide +kernel
theorem dS_init_26 : decode prog_5_method_1_code 26 = .ok (.putfield 18, 3) := by decide +kernel
theorem dS_init_29 : decode prog_5_method_1_code 29 = .ok (.aload_n 0, 1) := by decide +kernel
theorem dS_init_30 : decode prog_5_method_1_code 30 = .ok (.aload_n 1, 1) := by decide +kernel
theorem dS_init_31 : decode prog_5_method_1_code 31 = .ok (.putfield 21, 3) := by decide +kernel
theorem dS_init_34 : decode prog_5_method_1_code 34 = .ok (.aload_n 0, 1) := by decide +kernel
theorem dS_init_35 : decode prog_5_method_1_code 35 = .ok (.aload_n 2, 1) := by decide +kernel
theorem dS_init_36 : decode prog_5_method_1_code 36 = .ok (.putfield 25, 3) := by decide +kernel
theorem dS_init_39 : decode prog_5_method_1_code 39 = .ok (.aload_n 0, 1) := by decide +kernel
theorem dS_init_40 : decode prog_5_method_1_code 40 = .ok (.aload_n 3, 1) := by decide +kernel
theorem dS_init_41 : decode prog_5_method_1_code 41 = .ok (.putfield 28, 3) := by decide +kernel
theorem dS_init_44 : decode prog_5_method_1_code 44 = .ok (.return_, 1) := by decide +kernel
theorem dS_forget_0 : decode prog_5_method_2_code 0 = .ok (.aload_n 0, 1) := by decide +kernel
theorem dS_forget_1 : decode prog_5_method_2_code 1 = .ok (.iconst 0, 1) := by decide +kernel
theorem dS_forget_2 : decode prog_5_method_2_code 2 = .ok (.putfield 32, 3) := by decide +kernel
theorem dS_forget_5 : decode prog_5_method_2_code 5 = .ok (.return_, 1) := by decide +kernel
theorem dS_begin_0 : decode prog_5_method_9_code 0 = .ok (.aload_n 0, 1) := by decide +kernel
theorem dS_begin_1 : decode prog_5_method_9_code 1 = .ok (.invokevirtual 95, 3) := by decide +kernel
theorem dS_begin_4 : decode prog_5_method_9_code 4 = .ok (.aload_n 0, 1) := by decide +kernel
theorem dS_begin_5 : decode prog_5_method_9_code 5 = .ok (.iconst 0, 1) := by decide +kernel
theorem dS_begin_6 : decode prog_5_method_9_code 6 = .ok (.putfield 98, 3) := by decide +kernel
theorem dS_begin_9 : decode prog_5_method_9_code 9 = .ok (.aload_n 0, 1) := by decide +kernel
theorem dS_begin_10 : decode prog_5_method_9_code 10 = .ok (.iconst 0, 1) := by decide +kernel
theorem dS_begin_11 : decode prog_5_method_9_code 11 = .ok (.putfield 101, 3) := by decide +kernel
theorem dS_begin_14 : decode prog_5_method_9_code 14 = .ok (.return_, 1) := by decide +kernel
theorem dS_workOut_0 : decode prog_5_method_4_code 0 = .ok (.aload_n 0, 1) := by decide +kernel
theorem dS_workOut_1 : decode prog_5_method_4_code 1 = .ok (.getfield 32, 3) := by decide +kernel
theorem dS_workOut_4 : decode prog_5_method_4_code 4 = .ok (.ifCond .eq 4, 3) := by decide +kernel
theorem dS_workOut_7 : decode prog_5_method_4_code 7 = .ok (.return_, 1) := by decide +kernel
theorem dS_workOut_8 : decode prog_5_method_4_code 8 = .ok (.aload_n 0, 1) := by decide +kernel
theorem dS_workOut_9 : decode prog_5_method_4_code 9 = .ok (.getfield 25, 3) := by decide +kernel
theorem dS_workOut_12 : decode prog_5_method_4_code 12 = .ok (.invokevirtual 37, 3) := by decide +kernel
theorem dS_workOut_15 : decode prog_5_method_4_code 15 = .ok (.bipush 40, 2) := by decide +kernel
theorem dS_workOut_17 : decode prog_5_method_4_code 17 = .ok (.invokestatic 43, 3) := by decide +kernel
theorem dS_workOut_20 : decode prog_5_method_4_code 20 = .ok (.istore_n 1, 1) := by decide +kernel
theorem dS_workOut_21 : decode prog_5_method_4_code 21 = .ok (.iconst 0, 1) := by decide +kernel
theorem dS_workOut_22 : decode prog_5_method_4_code 22 = .ok (.istore_n 2, 1) := by decide +kernel
theorem dS_workOut_23 : decode prog_5_method_4_code 23 = .ok (.iload_n 2, 1) := by decide +kernel
theorem dS_workOut_24 : decode prog_5_method_4_code 24 = .ok (.bipush 41, 2) := by decide +kernel
theorem dS_workOut_26 : decode prog_5_method_4_code 26 = .ok (.if_icmp .ge 37, 3) := by decide +kernel
theorem dS_workOut_29 : decode prog_5_method_4_code 29 = .ok (.aload_n 0, 1) := by decide +kernel
theorem dS_workOut_30 : decode prog_5_method_4_code 30 = .ok (.getfield 11, 3) := by decide +kernel
theorem dS_workOut_33 : decode prog_5_method_4_code 33 = .ok (.iload_n 1, 1) := by decide +kernel
theorem dS_workOut_34 : decode prog_5_method_4_code 34 = .ok (.bipush 41, 2) := by decide +kernel
theorem dS_workOut_36 : decode prog_5_method_4_code 36 = .ok (.imul, 1) := by decide +kernel
theorem dS_workOut_37 : decode prog_5_method_4_code 37 = .ok (.iload_n 2, 1) := by decide +kernel
theorem dS_workOut_38 : decode prog_5_method_4_code 38 = .ok (.iadd, 1) := by decide +kernel
theorem dS_workOut_39 : decode prog_5_method_4_code 39 = .ok (.iconst 0, 1) := by decide +kernel
theorem dS_workOut_40 : decode prog_5_method_4_code 40 = .ok (.iastore, 1) := by decide +kernel
theorem dS_workOut_41 : decode prog_5_method_4_code 41 = .ok (.aload_n 0, 1) := by decide +kernel
theorem dS_workOut_42 : decode prog_5_method_4_code 42 = .ok (.getfield 15, 3) := by decide +kernel
theorem dS_workOut_45 : decode prog_5_method_4_code 45 = .ok (.iload_n 2, 1) := by decide +kernel
theorem dS_workOut_46 : decode prog_5_method_4_code 46 = .ok (.ldc 36, 2) := by decide +kernel
theorem dS_workOut_48 : decode prog_5_method_4_code 48 = .ok (.iastore, 1) := by decide +kernel
theorem dS_workOut_49 : decode prog_5_method_4_code 49 = .ok (.aload_n 0, 1) := by decide +kernel
theorem dS_workOut_50 : decode prog_5_method_4_code 50 = .ok (.getfield 18, 3) := by decide +kernel
theorem dS_workOut_53 : decode prog_5_method_4_code 53 = .ok (.iload_n 2, 1) := by decide +kernel
theorem dS_workOut_54 : decode prog_5_method_4_code 54 = .ok (.ldc 36, 2) := by decide +kernel
theorem dS_workOut_56 : decode prog_5_method_4_code 56 = .ok (.iastore, 1) := by decide +kernel
theorem dS_workOut_57 : decode prog_5_method_4_code 57 = .ok (.iinc 2 1, 3) := by decide +kernel
theorem dS_workOut_60 : decode prog_5_method_4_code 60 = .ok (.goto (-37), 3) := by decide +kernel
theorem dS_workOut_63 : decode prog_5_method_4_code 63 = .ok (.iload_n 1, 1) := by decide +kernel
theorem dS_workOut_64 : decode prog_5_method_4_code 64 = .ok (.iconst 1, 1) := by decide +kernel
theorem dS_workOut_65 : decode prog_5_method_4_code 65 = .ok (.isub, 1) := by decide +kernel
theorem dS_workOut_66 : decode prog_5_method_4_code 66 = .ok (.istore_n 2, 1) := by decide +kernel
theorem dS_workOut_67 : decode prog_5_method_4_code 67 = .ok (.iload_n 2, 1) := by decide +kernel
theorem dS_workOut_68 : decode prog_5_method_4_code 68 = .ok (.ifCond .lt 14, 3) := by decide +kernel
theorem dS_workOut_71 : decode prog_5_method_4_code 71 = .ok (.aload_n 0, 1) := by decide +kernel
theorem dS_workOut_72 : decode prog_5_method_4_code 72 = .ok (.iload_n 2, 1) := by decide +kernel
theorem dS_workOut_73 : decode prog_5_method_4_code 73 = .ok (.invokevirtual 49, 3) := by decide +kernel
theorem dS_workOut_76 : decode prog_5_method_4_code 76 = .ok (.iinc 2 (-1), 3) := by decide +kernel
theorem dS_workOut_79 : decode prog_5_method_4_code 79 = .ok (.goto (-12), 3) := by decide +kernel
theorem dS_workOut_82 : decode prog_5_method_4_code 82 = .ok (.aload_n 0, 1) := by decide +kernel
theorem dS_workOut_83 : decode prog_5_method_4_code 83 = .ok (.iconst 1, 1) := by decide +kernel
theorem dS_workOut_84 : decode prog_5_method_4_code 84 = .ok (.putfield 32, 3) := by decide +kernel
theorem dS_workOut_87 : decode prog_5_method_4_code 87 = .ok (.return_, 1) := by decide +kernel
theorem dS_workOutPlace_0 : decode prog_5_method_5_code 0 = .ok (.aload_n 0, 1) := by decide +kernel
theorem dS_workOutPlace_1 : decode prog_5_method_5_code 1 = .ok (.iload_n 1, 1) := by decide +kernel
theorem dS_workOutPlace_2 : decode prog_5_method_5_code 2 = .ok (.invokevirtual 53, 3) := by decide +kernel
theorem dS_workOutPlace_5 : decode prog_5_method_5_code 5 = .ok (.istore_n 2, 1) := by decide +kernel
theorem dS_workOutPlace_6 : decode prog_5_method_5_code 6 = .ok (.aload_n 0, 1) := by decide +kernel
theorem dS_workOutPlace_7 : decode prog_5_method_5_code 7 = .ok (.iload_n 1, 1) := by decide +kernel
theorem dS_workOutPlace_8 : decode prog_5_method_5_code 8 = .ok (.invokevirtual 57, 3) := by decide +kernel
theorem dS_workOutPlace_11 : decode prog_5_method_5_code 11 = .ok (.istore_n 3, 1) := by decide +kernel
theorem dS_workOutPlace_12 : decode prog_5_method_5_code 12 = .ok (.aload_n 0, 1) := by decide +kernel
theorem dS_workOutPlace_13 : decode prog_5_method_5_code 13 = .ok (.getfield 21, 3) := by decide +kernel
theorem dS_workOutPlace_16 : decode prog_5_method_5_code 16 = .ok (.invokevirtual 37, 3) := by decide +kernel
theorem dS_workOutPlace_19 : decode prog_5_method_5_code 19 = .ok (.bipush 40, 2) := by decide +kernel
theorem dS_workOutPlace_21 : decode prog_5_method_5_code 21 = .ok (.invokestatic 43, 3) := by decide +kernel
theorem dS_workOutPlace_24 : decode prog_5_method_5_code 24 = .ok (.istore 4, 2) := by decide +kernel
theorem dS_workOutPlace_26 : decode prog_5_method_5_code 26 = .ok (.iconst 0, 1) := by decide +kernel
theorem dS_workOutPlace_27 : decode prog_5_method_5_code 27 = .ok (.istore 5, 2) := by decide +kernel
theorem dS_workOutPlace_29 : decode prog_5_method_5_code 29 = .ok (.iload 5, 2) := by decide +kernel
theorem dS_workOutPlace_31 : decode prog_5_method_5_code 31 = .ok (.iload 4, 2) := by decide +kernel
theorem dS_workOutPlace_33 : decode prog_5_method_5_code 33 = .ok (.if_icmp .gt 143, 3) := by decide +kernel
theorem dS_workOutPlace_36 : decode prog_5_method_5_code 36 = .ok (.aload_n 0, 1) := by decide +kernel
theorem dS_workOutPlace_37 : decode prog_5_method_5_code 37 = .ok (.getfield 18, 3) := by decide +kernel
theorem dS_workOutPlace_40 : decode prog_5_method_5_code 40 = .ok (.iload 5, 2) := by decide +kernel
theorem dS_workOutPlace_42 : decode prog_5_method_5_code 42 = .ok (.aload_n 0, 1) := by decide +kernel
theorem dS_workOutPlace_43 : decode prog_5_method_5_code 43 = .ok (.getfield 28, 3) := by decide +kernel
theorem dS_workOutPlace_46 : decode prog_5_method_5_code 46 = .ok (.getfield 60, 3) := by decide +kernel
theorem dS_workOutPlace_49 : decode prog_5_method_5_code 49 = .ok (.aload_n 0, 1) := by decide +kernel
theorem dS_workOutPlace_50 : decode prog_5_method_5_code 50 = .ok (.iload_n 1, 1) := by decide +kernel
theorem dS_workOutPlace_51 : decode prog_5_method_5_code 51 = .ok (.iconst 1, 1) := by decide +kernel
theorem dS_workOutPlace_52 : decode prog_5_method_5_code 52 = .ok (.iadd, 1) := by decide +kernel
theorem dS_workOutPlace_53 : decode prog_5_method_5_code 53 = .ok (.iload 5, 2) := by decide +kernel
theorem dS_workOutPlace_55 : decode prog_5_method_5_code 55 = .ok (.invokevirtual 66, 3) := by decide +kernel
theorem dS_workOutPlace_58 : decode prog_5_method_5_code 58 = .ok (.aload_n 0, 1) := by decide +kernel
theorem dS_workOutPlace_59 : decode prog_5_method_5_code 59 = .ok (.getfield 18, 3) := by decide +kernel
theorem dS_workOutPlace_62 : decode prog_5_method_5_code 62 = .ok (.iload 5, 2) := by decide +kernel
theorem dS_workOutPlace_64 : decode prog_5_method_5_code 64 = .ok (.iaload, 1) := by decide +kernel
theorem dS_workOutPlace_65 : decode prog_5_method_5_code 65 = .ok (.invokestatic 43, 3) := by decide +kernel
theorem dS_workOutPlace_68 : decode prog_5_method_5_code 68 = .ok (.iadd, 1) := by decide +kernel
theorem dS_workOutPlace_69 : decode prog_5_method_5_code 69 = .ok (.iastore, 1) := by decide +kernel
theorem dS_workOutPlace_70 : decode prog_5_method_5_code 70 = .ok (.aload_n 0, 1) := by decide +kernel
theorem dS_workOutPlace_71 : decode prog_5_method_5_code 71 = .ok (.getfield 28, 3) := by decide +kernel
theorem dS_workOutPlace_74 : decode prog_5_method_5_code 74 = .ok (.getfield 69, 3) := by decide +kernel
theorem dS_workOutPlace_77 : decode prog_5_method_5_code 77 = .ok (.aload_n 0, 1) := by decide +kernel
theorem dS_workOutPlace_78 : decode prog_5_method_5_code 78 = .ok (.getfield 18, 3) := by decide +kernel
theorem dS_workOutPlace_81 : decode prog_5_method_5_code 81 = .ok (.iload 5, 2) := by decide +kernel
theorem dS_workOutPlace_83 : decode prog_5_method_5_code 83 = .ok (.iaload, 1) := by decide +kernel
theorem dS_workOutPlace_84 : decode prog_5_method_5_code 84 = .ok (.iadd, 1) := by decide +kernel
theorem dS_workOutPlace_85 : decode prog_5_method_5_code 85 = .ok (.istore 6, 2) := by decide +kernel
theorem dS_workOutPlace_87 : decode prog_5_method_5_code 87 = .ok (.iload 6, 2) := by decide +kernel
theorem dS_workOutPlace_89 : decode prog_5_method_5_code 89 = .ok (.aload_n 0, 1) := by decide +kernel
theorem dS_workOutPlace_90 : decode prog_5_method_5_code 90 = .ok (.getfield 28, 3) := by decide +kernel
theorem dS_workOutPlace_93 : decode prog_5_method_5_code 93 = .ok (.getfield 72, 3) := by decide +kernel
theorem dS_workOutPlace_96 : decode prog_5_method_5_code 96 = .ok (.aload_n 0, 1) := by decide +kernel
theorem dS_workOutPlace_97 : decode prog_5_method_5_code 97 = .ok (.getfield 15, 3) := by decide +kernel
theorem dS_workOutPlace_100 : decode prog_5_method_5_code 100 = .ok (.iload 5, 2) := by decide +kernel
theorem dS_workOutPlace_102 : decode prog_5_method_5_code 102 = .ok (.iaload, 1) := by decide +kernel
theorem dS_workOutPlace_103 : decode prog_5_method_5_code 103 = .ok (.iadd, 1) := by decide +kernel
theorem dS_workOutPlace_104 : decode prog_5_method_5_code 104 = .ok (.invokestatic 43, 3) := by decide +kernel
theorem dS_workOutPlace_107 : decode prog_5_method_5_code 107 = .ok (.istore 6, 2) := by decide +kernel
theorem dS_workOutPlace_109 : decode prog_5_method_5_code 109 = .ok (.iload 6, 2) := by decide +kernel
theorem dS_workOutPlace_111 : decode prog_5_method_5_code 111 = .ok (.aload_n 0, 1) := by decide +kernel
theorem dS_workOutPlace_112 : decode prog_5_method_5_code 112 = .ok (.getfield 28, 3) := by decide +kernel
theorem dS_workOutPlace_115 : decode prog_5_method_5_code 115 = .ok (.getfield 72, 3) := by decide +kernel
theorem dS_workOutPlace_118 : decode prog_5_method_5_code 118 = .ok (.aload_n 0, 1) := by decide +kernel
theorem dS_workOutPlace_119 : decode prog_5_method_5_code 119 = .ok (.getfield 28, 3) := by decide +kernel
theorem dS_workOutPlace_122 : decode prog_5_method_5_code 122 = .ok (.getfield 75, 3) := by decide +kernel
theorem dS_workOutPlace_125 : decode prog_5_method_5_code 125 = .ok (.iadd, 1) := by decide +kernel
theorem dS_workOutPlace_126 : decode prog_5_method_5_code 126 = .ok (.iload_n 2, 1) := by decide +kernel
theorem dS_workOutPlace_127 : decode prog_5_method_5_code 127 = .ok (.iadd, 1) := by decide +kernel
theorem dS_workOutPlace_128 : decode prog_5_method_5_code 128 = .ok (.invokestatic 43, 3) := by decide +kernel
theorem dS_workOutPlace_131 : decode prog_5_method_5_code 131 = .ok (.istore 6, 2) := by decide +kernel
theorem dS_workOutPlace_133 : decode prog_5_method_5_code 133 = .ok (.iload 6, 2) := by decide +kernel
theorem dS_workOutPlace_135 : decode prog_5_method_5_code 135 = .ok (.aload_n 0, 1) := by decide +kernel
theorem dS_workOutPlace_136 : decode prog_5_method_5_code 136 = .ok (.getfield 28, 3) := by decide +kernel
theorem dS_workOutPlace_139 : decode prog_5_method_5_code 139 = .ok (.getfield 78, 3) := by decide +kernel
theorem dS_workOutPlace_142 : decode prog_5_method_5_code 142 = .ok (.aload_n 0, 1) := by decide +kernel
theorem dS_workOutPlace_143 : decode prog_5_method_5_code 143 = .ok (.iload_n 1, 1) := by decide +kernel
theorem dS_workOutPlace_144 : decode prog_5_method_5_code 144 = .ok (.iload 5, 2) := by decide +kernel
theorem dS_workOutPlace_146 : decode prog_5_method_5_code 146 = .ok (.iload_n 3, 1) := by decide +kernel
theorem dS_workOutPlace_147 : decode prog_5_method_5_code 147 = .ok (.invokevirtual 81, 3) := by decide +kernel
theorem dS_workOutPlace_150 : decode prog_5_method_5_code 150 = .ok (.iadd, 1) := by decide +kernel
theorem dS_workOutPlace_151 : decode prog_5_method_5_code 151 = .ok (.invokestatic 43, 3) := by decide +kernel
theorem dS_workOutPlace_154 : decode prog_5_method_5_code 154 = .ok (.istore 6, 2) := by decide +kernel
theorem dS_workOutPlace_156 : decode prog_5_method_5_code 156 = .ok (.aload_n 0, 1) := by decide +kernel
theorem dS_workOutPlace_157 : decode prog_5_method_5_code 157 = .ok (.getfield 11, 3) := by decide +kernel
theorem dS_workOutPlace_160 : decode prog_5_method_5_code 160 = .ok (.iload_n 1, 1) := by decide +kernel
theorem dS_workOutPlace_161 : decode prog_5_method_5_code 161 = .ok (.bipush 41, 2) := by decide +kernel
theorem dS_workOutPlace_163 : decode prog_5_method_5_code 163 = .ok (.imul, 1) := by decide +kernel
theorem dS_workOutPlace_164 : decode prog_5_method_5_code 164 = .ok (.iload 5, 2) := by decide +kernel
theorem dS_workOutPlace_166 : decode prog_5_method_5_code 166 = .ok (.iadd, 1) := by decide +kernel
theorem dS_workOutPlace_167 : decode prog_5_method_5_code 167 = .ok (.iload 6, 2) := by decide +kernel
theorem dS_workOutPlace_169 : decode prog_5_method_5_code 169 = .ok (.iastore, 1) := by decide +kernel
theorem dS_workOutPlace_170 : decode prog_5_method_5_code 170 = .ok (.iinc 5 1, 3) := by decide +kernel
theorem dS_workOutPlace_173 : decode prog_5_method_5_code 173 = .ok (.goto (-144), 3) := by decide +kernel
theorem dS_workOutPlace_176 : decode prog_5_method_5_code 176 = .ok (.return_, 1) := by decide +kernel
theorem dS_lengthenCopies_0 : decode prog_5_method_6_code 0 = .ok (.ldc 36, 2) := by decide +kernel
theorem dS_lengthenCopies_2 : decode prog_5_method_6_code 2 = .ok (.istore_n 2, 1) := by decide +kernel
theorem dS_lengthenCopies_3 : decode prog_5_method_6_code 3 = .ok (.aload_n 0, 1) := by decide +kernel
theorem dS_lengthenCopies_4 : decode prog_5_method_6_code 4 = .ok (.getfield 21, 3) := by decide +kernel
theorem dS_lengthenCopies_7 : decode prog_5_method_6_code 7 = .ok (.invokevirtual 37, 3) := by decide +kernel
theorem dS_lengthenCopies_10 : decode prog_5_method_6_code 10 = .ok (.bipush 40, 2) := by decide +kernel
theorem dS_lengthenCopies_12 : decode prog_5_method_6_code 12 = .ok (.invokestatic 43, 3) := by decide +kernel
theorem dS_lengthenCopies_15 : decode prog_5_method_6_code 15 = .ok (.istore_n 3, 1) := by decide +kernel
theorem dS_lengthenCopies_16 : decode prog_5_method_6_code 16 = .ok (.iconst 0, 1) := by decide +kernel
theorem dS_lengthenCopies_17 : decode prog_5_method_6_code 17 = .ok (.istore 4, 2) := by decide +kernel
theorem dS_lengthenCopies_19 : decode prog_5_method_6_code 19 = .ok (.iload 4, 2) := by decide +kernel
theorem dS_lengthenCopies_21 : decode prog_5_method_6_code 21 = .ok (.iload_n 3, 1) := by decide +kernel
theorem dS_lengthenCopies_22 : decode prog_5_method_6_code 22 = .ok (.if_icmp .ge 76, 3) := by decide +kernel
theorem dS_lengthenCopies_25 : decode prog_5_method_6_code 25 = .ok (.aload_n 0, 1) := by decide +kernel
theorem dS_lengthenCopies_26 : decode prog_5_method_6_code 26 = .ok (.getfield 15, 3) := by decide +kernel
theorem dS_lengthenCopies_29 : decode prog_5_method_6_code 29 = .ok (.iload 4, 2) := by decide +kernel
theorem dS_lengthenCopies_31 : decode prog_5_method_6_code 31 = .ok (.aload_n 0, 1) := by decide +kernel
theorem dS_lengthenCopies_32 : decode prog_5_method_6_code 32 = .ok (.getfield 21, 3) := by decide +kernel
theorem dS_lengthenCopies_35 : decode prog_5_method_6_code 35 = .ok (.iload 4, 2) := by decide +kernel
theorem dS_lengthenCopies_37 : decode prog_5_method_6_code 37 = .ok (.invokevirtual 85, 3) := by decide +kernel
theorem dS_lengthenCopies_40 : decode prog_5_method_6_code 40 = .ok (.aload_n 0, 1) := by decide +kernel
theorem dS_lengthenCopies_41 : decode prog_5_method_6_code 41 = .ok (.getfield 25, 3) := by decide +kernel
theorem dS_lengthenCopies_44 : decode prog_5_method_6_code 44 = .ok (.iload_n 1, 1) := by decide +kernel
theorem dS_lengthenCopies_45 : decode prog_5_method_6_code 45 = .ok (.invokevirtual 85, 3) := by decide +kernel
theorem dS_lengthenCopies_48 : decode prog_5_method_6_code 48 = .ok (.if_icmp .ne 29, 3) := by decide +kernel
theorem dS_lengthenCopies_51 : decode prog_5_method_6_code 51 = .ok (.aload_n 0, 1) := by decide +kernel
theorem dS_lengthenCopies_52 : decode prog_5_method_6_code 52 = .ok (.iload_n 1, 1) := by decide +kernel
theorem dS_lengthenCopies_53 : decode prog_5_method_6_code 53 = .ok (.iconst 1, 1) := by decide +kernel
theorem dS_lengthenCopies_54 : decode prog_5_method_6_code 54 = .ok (.iadd, 1) := by decide +kernel
theorem dS_lengthenCopies_55 : decode prog_5_method_6_code 55 = .ok (.iload 4, 2) := by decide +kernel
theorem dS_lengthenCopies_57 : decode prog_5_method_6_code 57 = .ok (.iconst 1, 1) := by decide +kernel
theorem dS_lengthenCopies_58 : decode prog_5_method_6_code 58 = .ok (.iadd, 1) := by decide +kernel
theorem dS_lengthenCopies_59 : decode prog_5_method_6_code 59 = .ok (.invokevirtual 66, 3) := by decide +kernel
theorem dS_lengthenCopies_62 : decode prog_5_method_6_code 62 = .ok (.aload_n 0, 1) := by decide +kernel
theorem dS_lengthenCopies_63 : decode prog_5_method_6_code 63 = .ok (.getfield 15, 3) := by decide +kernel
theorem dS_lengthenCopies_66 : decode prog_5_method_6_code 66 = .ok (.iload 4, 2) := by decide +kernel
theorem dS_lengthenCopies_68 : decode prog_5_method_6_code 68 = .ok (.iconst 1, 1) := by decide +kernel
theorem dS_lengthenCopies_69 : decode prog_5_method_6_code 69 = .ok (.iadd, 1) := by decide +kernel
theorem dS_lengthenCopies_70 : decode prog_5_method_6_code 70 = .ok (.iaload, 1) := by decide +kernel
theorem dS_lengthenCopies_71 : decode prog_5_method_6_code 71 = .ok (.invokestatic 43, 3) := by decide +kernel
theorem dS_lengthenCopies_74 : decode prog_5_method_6_code 74 = .ok (.goto 5, 3) := by decide +kernel
theorem dS_lengthenCopies_77 : decode prog_5_method_6_code 77 = .ok (.ldc 36, 2) := by decide +kernel
theorem dS_lengthenCopies_79 : decode prog_5_method_6_code 79 = .ok (.iastore, 1) := by decide +kernel
theorem dS_lengthenCopies_80 : decode prog_5_method_6_code 80 = .ok (.iload_n 2, 1) := by decide +kernel
theorem dS_lengthenCopies_81 : decode prog_5_method_6_code 81 = .ok (.aload_n 0, 1) := by decide +kernel
theorem dS_lengthenCopies_82 : decode prog_5_method_6_code 82 = .ok (.getfield 15, 3) := by decide +kernel
theorem dS_lengthenCopies_85 : decode prog_5_method_6_code 85 = .ok (.iload 4, 2) := by decide +kernel
theorem dS_lengthenCopies_87 : decode prog_5_method_6_code 87 = .ok (.iaload, 1) := by decide +kernel
theorem dS_lengthenCopies_88 : decode prog_5_method_6_code 88 = .ok (.invokestatic 43, 3) := by decide +kernel
theorem dS_lengthenCopies_91 : decode prog_5_method_6_code 91 = .ok (.istore_n 2, 1) := by decide +kernel
theorem dS_lengthenCopies_92 : decode prog_5_method_6_code 92 = .ok (.iinc 4 1, 3) := by decide +kernel
theorem dS_lengthenCopies_95 : decode prog_5_method_6_code 95 = .ok (.goto (-76), 3) := by decide +kernel
theorem dS_lengthenCopies_98 : decode prog_5_method_6_code 98 = .ok (.iload_n 2, 1) := by decide +kernel
theorem dS_lengthenCopies_99 : decode prog_5_method_6_code 99 = .ok (.ireturn, 1) := by decide +kernel
theorem dS_leastFrom_0 : decode prog_5_method_3_code 0 = .ok (.iload_n 1, 1) := by decide +kernel
theorem dS_leastFrom_1 : decode prog_5_method_3_code 1 = .ok (.ifCond .lt 23, 3) := by decide +kernel
theorem dS_leastFrom_4 : decode prog_5_method_3_code 4 = .ok (.iload_n 1, 1) := by decide +kernel
theorem dS_leastFrom_5 : decode prog_5_method_3_code 5 = .ok (.bipush 41, 2) := by decide +kernel
theorem dS_leastFrom_7 : decode prog_5_method_3_code 7 = .ok (.if_icmp .ge 17, 3) := by decide +kernel
theorem dS_leastFrom_10 : decode prog_5_method_3_code 10 = .ok (.iload_n 2, 1) := by decide +kernel
theorem dS_leastFrom_11 : decode prog_5_method_3_code 11 = .ok (.ifCond .lt 13, 3) := by decide +kernel
theorem dS_leastFrom_14 : decode prog_5_method_3_code 14 = .ok (.iload_n 2, 1) := by decide +kernel
theorem dS_leastFrom_15 : decode prog_5_method_3_code 15 = .ok (.bipush 41, 2) := by decide +kernel
theorem dS_leastFrom_17 : decode prog_5_method_3_code 17 = .ok (.if_icmp .ge 7, 3) := by decide +kernel
theorem dS_leastFrom_20 : decode prog_5_method_3_code 20 = .ok (.iconst 1, 1) := by decide +kernel
theorem dS_leastFrom_21 : decode prog_5_method_3_code 21 = .ok (.goto 4, 3) := by decide +kernel
theorem dS_leastFrom_24 : decode prog_5_method_3_code 24 = .ok (.iconst 0, 1) := by decide +kernel
theorem dS_leastFrom_25 : decode prog_5_method_3_code 25 = .ok (.istore_n 3, 1) := by decide +kernel
theorem dS_leastFrom_26 : decode prog_5_method_3_code 26 = .ok (.iload_n 3, 1) := by decide +kernel
theorem dS_leastFrom_27 : decode prog_5_method_3_code 27 = .ok (.ifCond .eq 17, 3) := by decide +kernel
theorem dS_leastFrom_30 : decode prog_5_method_3_code 30 = .ok (.aload_n 0, 1) := by decide +kernel
theorem dS_leastFrom_31 : decode prog_5_method_3_code 31 = .ok (.getfield 11, 3) := by decide +kernel
theorem dS_leastFrom_34 : decode prog_5_method_3_code 34 = .ok (.iload_n 1, 1) := by decide +kernel
theorem dS_leastFrom_35 : decode prog_5_method_3_code 35 = .ok (.bipush 41, 2) := by decide +kernel
theorem dS_leastFrom_37 : decode prog_5_method_3_code 37 = .ok (.imul, 1) := by decide +kernel
theorem dS_leastFrom_38 : decode prog_5_method_3_code 38 = .ok (.iload_n 2, 1) := by decide +kernel
theorem dS_leastFrom_39 : decode prog_5_method_3_code 39 = .ok (.iadd, 1) := by decide +kernel
theorem dS_leastFrom_40 : decode prog_5_method_3_code 40 = .ok (.iaload, 1) := by decide +kernel
theorem dS_leastFrom_41 : decode prog_5_method_3_code 41 = .ok (.goto 5, 3) := by decide +kernel
theorem dS_leastFrom_44 : decode prog_5_method_3_code 44 = .ok (.ldc 36, 2) := by decide +kernel
theorem dS_leastFrom_46 : decode prog_5_method_3_code 46 = .ok (.ireturn, 1) := by decide +kernel
theorem dS_longestAgain_0 : decode prog_5_method_7_code 0 = .ok (.iconst 0, 1) := by decide +kernel
theorem dS_longestAgain_1 : decode prog_5_method_7_code 1 = .ok (.istore_n 2, 1) := by decide +kernel
theorem dS_longestAgain_2 : decode prog_5_method_7_code 2 = .ok (.iconst 0, 1) := by decide +kernel
theorem dS_longestAgain_3 : decode prog_5_method_7_code 3 = .ok (.istore_n 3, 1) := by decide +kernel
theorem dS_longestAgain_4 : decode prog_5_method_7_code 4 = .ok (.iload_n 3, 1) := by decide +kernel
theorem dS_longestAgain_5 : decode prog_5_method_7_code 5 = .ok (.iload_n 1, 1) := by decide +kernel
theorem dS_longestAgain_6 : decode prog_5_method_7_code 6 = .ok (.if_icmp .ge 27, 3) := by decide +kernel
theorem dS_longestAgain_9 : decode prog_5_method_7_code 9 = .ok (.iload_n 2, 1) := by decide +kernel
theorem dS_longestAgain_10 : decode prog_5_method_7_code 10 = .ok (.aload_n 0, 1) := by decide +kernel
theorem dS_longestAgain_11 : decode prog_5_method_7_code 11 = .ok (.getfield 25, 3) := by decide +kernel
theorem dS_longestAgain_14 : decode prog_5_method_7_code 14 = .ok (.iload_n 3, 1) := by decide +kernel
theorem dS_longestAgain_15 : decode prog_5_method_7_code 15 = .ok (.aload_n 0, 1) := by decide +kernel
theorem dS_longestAgain_16 : decode prog_5_method_7_code 16 = .ok (.getfield 25, 3) := by decide +kernel
theorem dS_longestAgain_19 : decode prog_5_method_7_code 19 = .ok (.iload_n 1, 1) := by decide +kernel
theorem dS_longestAgain_20 : decode prog_5_method_7_code 20 = .ok (.invokevirtual 88, 3) := by decide +kernel
theorem dS_longestAgain_23 : decode prog_5_method_7_code 23 = .ok (.invokestatic 92, 3) := by decide +kernel
theorem dS_longestAgain_26 : decode prog_5_method_7_code 26 = .ok (.istore_n 2, 1) := by decide +kernel
theorem dS_longestAgain_27 : decode prog_5_method_7_code 27 = .ok (.iinc 3 1, 3) := by decide +kernel
theorem dS_longestAgain_30 : decode prog_5_method_7_code 30 = .ok (.goto (-26), 3) := by decide +kernel
theorem dS_longestAgain_33 : decode prog_5_method_7_code 33 = .ok (.iload_n 2, 1) := by decide +kernel
theorem dS_longestAgain_34 : decode prog_5_method_7_code 34 = .ok (.ireturn, 1) := by decide +kernel
theorem dS_leastBehindSelf_0 : decode prog_5_method_8_code 0 = .ok (.ldc 36, 2) := by decide +kernel
theorem dS_leastBehindSelf_2 : decode prog_5_method_8_code 2 = .ok (.istore 4, 2) := by decide +kernel
theorem dS_leastBehindSelf_4 : decode prog_5_method_8_code 4 = .ok (.iconst 1, 1) := by decide +kernel
theorem dS_leastBehindSelf_5 : decode prog_5_method_8_code 5 = .ok (.istore 5, 2) := by decide +kernel
theorem dS_leastBehindSelf_7 : decode prog_5_method_8_code 7 = .ok (.iload 5, 2) := by decide +kernel
theorem dS_leastBehindSelf_9 : decode prog_5_method_8_code 9 = .ok (.iload_n 3, 1) := by decide +kernel
theorem dS_leastBehindSelf_10 : decode prog_5_method_8_code 10 = .ok (.if_icmp .gt 25, 3) := by decide +kernel
theorem dS_leastBehindSelf_13 : decode prog_5_method_8_code 13 = .ok (.iload 4, 2) := by decide +kernel
theorem dS_leastBehindSelf_15 : decode prog_5_method_8_code 15 = .ok (.aload_n 0, 1) := by decide +kernel
theorem dS_leastBehindSelf_16 : decode prog_5_method_8_code 16 = .ok (.iload_n 1, 1) := by decide +kernel
theorem dS_leastBehindSelf_17 : decode prog_5_method_8_code 17 = .ok (.iload 5, 2) := by decide +kernel
theorem dS_leastBehindSelf_19 : decode prog_5_method_8_code 19 = .ok (.iadd, 1) := by decide +kernel
theorem dS_leastBehindSelf_20 : decode prog_5_method_8_code 20 = .ok (.iload_n 2, 1) := by decide +kernel
theorem dS_leastBehindSelf_21 : decode prog_5_method_8_code 21 = .ok (.invokevirtual 66, 3) := by decide +kernel
theorem dS_leastBehindSelf_24 : decode prog_5_method_8_code 24 = .ok (.invokestatic 43, 3) := by decide +kernel
theorem dS_leastBehindSelf_27 : decode prog_5_method_8_code 27 = .ok (.istore 4, 2) := by decide +kernel
theorem dS_leastBehindSelf_29 : decode prog_5_method_8_code 29 = .ok (.iinc 5 1, 3) := by decide +kernel
theorem dS_leastBehindSelf_32 : decode prog_5_method_8_code 32 = .ok (.goto (-25), 3) := by decide +kernel
theorem dS_leastBehindSelf_35 : decode prog_5_method_8_code 35 = .ok (.iload 4, 2) := by decide +kernel
theorem dS_leastBehindSelf_37 : decode prog_5_method_8_code 37 = .ok (.ireturn, 1) := by decide +kernel
theorem dS_findNext_0 : decode prog_5_method_10_code 0 = .ok (.aload_n 0, 1) := by decide +kernel
theorem dS_findNext_1 : decode prog_5_method_10_code 1 = .ok (.getfield 98, 3) := by decide +kernel
theorem dS_findNext_4 : decode prog_5_method_10_code 4 = .ok (.aload_n 0, 1) := by decide +kernel
theorem dS_findNext_5 : decode prog_5_method_10_code 5 = .ok (.getfield 25, 3) := by decide +kernel
theorem dS_findNext_8 : decode prog_5_method_10_code 8 = .ok (.invokevirtual 37, 3) := by decide +kernel
theorem dS_findNext_11 : decode prog_5_method_10_code 11 = .ok (.if_icmp .lt 5, 3) := by decide +kernel
theorem dS_findNext_14 : decode prog_5_method_10_code 14 = .ok (.iconst 0, 1) := by decide +kernel
theorem dS_findNext_15 : decode prog_5_method_10_code 15 = .ok (.ireturn, 1) := by decide +kernel
theorem dS_findNext_16 : decode prog_5_method_10_code 16 = .ok (.aload_n 0, 1) := by decide +kernel
theorem dS_findNext_17 : decode prog_5_method_10_code 17 = .ok (.aload_n 0, 1) := by decide +kernel
theorem dS_findNext_18 : decode prog_5_method_10_code 18 = .ok (.getfield 101, 3) := by decide +kernel
theorem dS_findNext_21 : decode prog_5_method_10_code 21 = .ok (.putfield 104, 3) := by decide +kernel
theorem dS_findNext_24 : decode prog_5_method_10_code 24 = .ok (.aload_n 0, 1) := by decide +kernel
theorem dS_findNext_25 : decode prog_5_method_10_code 25 = .ok (.aload_n 0, 1) := by decide +kernel
theorem dS_findNext_26 : decode prog_5_method_10_code 26 = .ok (.getfield 98, 3) := by decide +kernel
theorem dS_findNext_29 : decode prog_5_method_10_code 29 = .ok (.aload_n 0, 1) := by decide +kernel
theorem dS_findNext_30 : decode prog_5_method_10_code 30 = .ok (.getfield 101, 3) := by decide +kernel
theorem dS_findNext_33 : decode prog_5_method_10_code 33 = .ok (.invokevirtual 107, 3) := by decide +kernel
theorem dS_findNext_36 : decode prog_5_method_10_code 36 = .ok (.aload_n 0, 1) := by decide +kernel
theorem dS_findNext_37 : decode prog_5_method_10_code 37 = .ok (.dup, 1) := by decide +kernel
theorem dS_findNext_38 : decode prog_5_method_10_code 38 = .ok (.getfield 98, 3) := by decide +kernel
theorem dS_findNext_41 : decode prog_5_method_10_code 41 = .ok (.aload_n 0, 1) := by decide +kernel
theorem dS_findNext_42 : decode prog_5_method_10_code 42 = .ok (.getfield 111, 3) := by decide +kernel
theorem dS_findNext_45 : decode prog_5_method_10_code 45 = .ok (.iadd, 1) := by decide +kernel
theorem dS_findNext_46 : decode prog_5_method_10_code 46 = .ok (.putfield 98, 3) := by decide +kernel
theorem dS_findNext_49 : decode prog_5_method_10_code 49 = .ok (.aload_n 0, 1) := by decide +kernel
theorem dS_findNext_50 : decode prog_5_method_10_code 50 = .ok (.getfield 114, 3) := by decide +kernel
theorem dS_findNext_53 : decode prog_5_method_10_code 53 = .ok (.ifCond .ne 16, 3) := by decide +kernel
theorem dS_findNext_56 : decode prog_5_method_10_code 56 = .ok (.aload_n 0, 1) := by decide +kernel
theorem dS_findNext_57 : decode prog_5_method_10_code 57 = .ok (.aload_n 0, 1) := by decide +kernel
theorem dS_findNext_58 : decode prog_5_method_10_code 58 = .ok (.getfield 117, 3) := by decide +kernel
theorem dS_findNext_61 : decode prog_5_method_10_code 61 = .ok (.aload_n 0, 1) := by decide +kernel
theorem dS_findNext_62 : decode prog_5_method_10_code 62 = .ok (.getfield 111, 3) := by decide +kernel
theorem dS_findNext_65 : decode prog_5_method_10_code 65 = .ok (.iadd, 1) := by decide +kernel
theorem dS_findNext_66 : decode prog_5_method_10_code 66 = .ok (.putfield 101, 3) := by decide +kernel
theorem dS_findNext_69 : decode prog_5_method_10_code 69 = .ok (.aload_n 0, 1) := by decide +kernel
theorem dS_findNext_70 : decode prog_5_method_10_code 70 = .ok (.getfield 111, 3) := by decide +kernel
theorem dS_findNext_73 : decode prog_5_method_10_code 73 = .ok (.ifCond .le 7, 3) := by decide +kernel
theorem dS_findNext_76 : decode prog_5_method_10_code 76 = .ok (.iconst 1, 1) := by decide +kernel
theorem dS_findNext_77 : decode prog_5_method_10_code 77 = .ok (.goto 4, 3) := by decide +kernel
theorem dS_findNext_80 : decode prog_5_method_10_code 80 = .ok (.iconst 0, 1) := by decide +kernel
theorem dS_findNext_81 : decode prog_5_method_10_code 81 = .ok (.ireturn, 1) := by decide +kernel
theorem dS_choose_0 : decode prog_5_method_16_code 0 = .ok (.aload_n 0, 1) := by decide +kernel
theorem dS_choose_1 : decode prog_5_method_16_code 1 = .ok (.iload_n 1, 1) := by decide +kernel
theorem dS_choose_2 : decode prog_5_method_16_code 2 = .ok (.iload_n 2, 1) := by decide +kernel
theorem dS_choose_3 : decode prog_5_method_16_code 3 = .ok (.invokevirtual 66, 3) := by decide +kernel
theorem dS_choose_6 : decode prog_5_method_16_code 6 = .ok (.istore_n 3, 1) := by decide +kernel
theorem dS_choose_7 : decode prog_5_method_16_code 7 = .ok (.aload_n 0, 1) := by decide +kernel
theorem dS_choose_8 : decode prog_5_method_16_code 8 = .ok (.iconst 0, 1) := by decide +kernel
theorem dS_choose_9 : decode prog_5_method_16_code 9 = .ok (.putfield 111, 3) := by decide +kernel
theorem dS_choose_12 : decode prog_5_method_16_code 12 = .ok (.aload_n 0, 1) := by decide +kernel
theorem dS_choose_13 : decode prog_5_method_16_code 13 = .ok (.iload_n 1, 1) := by decide +kernel
theorem dS_choose_14 : decode prog_5_method_16_code 14 = .ok (.iload_n 2, 1) := by decide +kernel
theorem dS_choose_15 : decode prog_5_method_16_code 15 = .ok (.iload_n 3, 1) := by decide +kernel
theorem dS_choose_16 : decode prog_5_method_16_code 16 = .ok (.invokevirtual 125, 3) := by decide +kernel
theorem dS_choose_19 : decode prog_5_method_16_code 19 = .ok (.aload_n 0, 1) := by decide +kernel
theorem dS_choose_20 : decode prog_5_method_16_code 20 = .ok (.getfield 111, 3) := by decide +kernel
theorem dS_choose_23 : decode prog_5_method_16_code 23 = .ok (.ifCond .ne 10, 3) := by decide +kernel
theorem dS_choose_26 : decode prog_5_method_16_code 26 = .ok (.aload_n 0, 1) := by decide +kernel
theorem dS_choose_27 : decode prog_5_method_16_code 27 = .ok (.iload_n 1, 1) := by decide +kernel
theorem dS_choose_28 : decode prog_5_method_16_code 28 = .ok (.iload_n 2, 1) := by decide +kernel
theorem dS_choose_29 : decode prog_5_method_16_code 29 = .ok (.iload_n 3, 1) := by decide +kernel
theorem dS_choose_30 : decode prog_5_method_16_code 30 = .ok (.invokevirtual 129, 3) := by decide +kernel
theorem dS_choose_33 : decode prog_5_method_16_code 33 = .ok (.aload_n 0, 1) := by decide +kernel
theorem dS_choose_34 : decode prog_5_method_16_code 34 = .ok (.getfield 111, 3) := by decide +kernel
theorem dS_choose_37 : decode prog_5_method_16_code 37 = .ok (.ifCond .ne 10, 3) := by decide +kernel
theorem dS_choose_40 : decode prog_5_method_16_code 40 = .ok (.aload_n 0, 1) := by decide +kernel
theorem dS_choose_41 : decode prog_5_method_16_code 41 = .ok (.iload_n 1, 1) := by decide +kernel
theorem dS_choose_42 : decode prog_5_method_16_code 42 = .ok (.iload_n 2, 1) := by decide +kernel
theorem dS_choose_43 : decode prog_5_method_16_code 43 = .ok (.iload_n 3, 1) := by decide +kernel
theorem dS_choose_44 : decode prog_5_method_16_code 44 = .ok (.invokevirtual 132, 3) := by decide +kernel
theorem dS_choose_47 : decode prog_5_method_16_code 47 = .ok (.return_, 1) := by decide +kernel
theorem dS_chooseCopy_0 : decode prog_5_method_17_code 0 = .ok (.iconst 0, 1) := by decide +kernel
theorem dS_chooseCopy_1 : decode prog_5_method_17_code 1 = .ok (.istore 4, 2) := by decide +kernel
theorem dS_chooseCopy_3 : decode prog_5_method_17_code 3 = .ok (.iload 4, 2) := by decide +kernel
theorem dS_chooseCopy_5 : decode prog_5_method_17_code 5 = .ok (.aload_n 0, 1) := by decide +kernel
theorem dS_chooseCopy_6 : decode prog_5_method_17_code 6 = .ok (.getfield 21, 3) := by decide +kernel
theorem dS_chooseCopy_9 : decode prog_5_method_17_code 9 = .ok (.invokevirtual 37, 3) := by decide +kernel
theorem dS_chooseCopy_12 : decode prog_5_method_17_code 12 = .ok (.if_icmp .ge 81, 3) := by decide +kernel
theorem dS_chooseCopy_15 : decode prog_5_method_17_code 15 = .ok (.iload_n 3, 1) := by decide +kernel
theorem dS_chooseCopy_16 : decode prog_5_method_17_code 16 = .ok (.aload_n 0, 1) := by decide +kernel
theorem dS_chooseCopy_17 : decode prog_5_method_17_code 17 = .ok (.getfield 28, 3) := by decide +kernel
theorem dS_chooseCopy_20 : decode prog_5_method_17_code 20 = .ok (.iload 4, 2) := by decide +kernel
theorem dS_chooseCopy_22 : decode prog_5_method_17_code 22 = .ok (.iload_n 2, 1) := by decide +kernel
theorem dS_chooseCopy_23 : decode prog_5_method_17_code 23 = .ok (.invokevirtual 135, 3) := by decide +kernel
theorem dS_chooseCopy_26 : decode prog_5_method_17_code 26 = .ok (.isub, 1) := by decide +kernel
theorem dS_chooseCopy_27 : decode prog_5_method_17_code 27 = .ok (.istore 5, 2) := by decide +kernel
theorem dS_chooseCopy_29 : decode prog_5_method_17_code 29 = .ok (.aload_n 0, 1) := by decide +kernel
theorem dS_chooseCopy_30 : decode prog_5_method_17_code 30 = .ok (.getfield 21, 3) := by decide +kernel
theorem dS_chooseCopy_33 : decode prog_5_method_17_code 33 = .ok (.iload 4, 2) := by decide +kernel
theorem dS_chooseCopy_35 : decode prog_5_method_17_code 35 = .ok (.aload_n 0, 1) := by decide +kernel
theorem dS_chooseCopy_36 : decode prog_5_method_17_code 36 = .ok (.getfield 25, 3) := by decide +kernel
theorem dS_chooseCopy_39 : decode prog_5_method_17_code 39 = .ok (.iload_n 1, 1) := by decide +kernel
theorem dS_chooseCopy_40 : decode prog_5_method_17_code 40 = .ok (.invokevirtual 88, 3) := by decide +kernel
theorem dS_chooseCopy_43 : decode prog_5_method_17_code 43 = .ok (.istore 6, 2) := by decide +kernel
theorem dS_chooseCopy_45 : decode prog_5_method_17_code 45 = .ok (.iload 6, 2) := by decide +kernel
theorem dS_chooseCopy_47 : decode prog_5_method_17_code 47 = .ok (.aload_n 0, 1) := by decide +kernel
theorem dS_chooseCopy_48 : decode prog_5_method_17_code 48 = .ok (.getfield 111, 3) := by decide +kernel
theorem dS_chooseCopy_51 : decode prog_5_method_17_code 51 = .ok (.if_icmp .le 36, 3) := by decide +kernel
theorem dS_chooseCopy_54 : decode prog_5_method_17_code 54 = .ok (.aload_n 0, 1) := by decide +kernel
theorem dS_chooseCopy_55 : decode prog_5_method_17_code 55 = .ok (.iload_n 1, 1) := by decide +kernel
theorem dS_chooseCopy_56 : decode prog_5_method_17_code 56 = .ok (.iload 6, 2) := by decide +kernel
theorem dS_chooseCopy_58 : decode prog_5_method_17_code 58 = .ok (.iadd, 1) := by decide +kernel
theorem dS_chooseCopy_59 : decode prog_5_method_17_code 59 = .ok (.iload 4, 2) := by decide +kernel
theorem dS_chooseCopy_61 : decode prog_5_method_17_code 61 = .ok (.iload 6, 2) := by decide +kernel
theorem dS_chooseCopy_63 : decode prog_5_method_17_code 63 = .ok (.iadd, 1) := by decide +kernel
theorem dS_chooseCopy_64 : decode prog_5_method_17_code 64 = .ok (.invokevirtual 66, 3) := by decide +kernel
theorem dS_chooseCopy_67 : decode prog_5_method_17_code 67 = .ok (.iload 5, 2) := by decide +kernel
theorem dS_chooseCopy_69 : decode prog_5_method_17_code 69 = .ok (.if_icmp .ne 12, 3) := by decide +kernel
theorem dS_chooseCopy_72 : decode prog_5_method_17_code 72 = .ok (.aload_n 0, 1) := by decide +kernel
theorem dS_chooseCopy_73 : decode prog_5_method_17_code 73 = .ok (.iconst 0, 1) := by decide +kernel
theorem dS_chooseCopy_74 : decode prog_5_method_17_code 74 = .ok (.iload 4, 2) := by decide +kernel
theorem dS_chooseCopy_76 : decode prog_5_method_17_code 76 = .ok (.iload 6, 2) := by decide +kernel
theorem dS_chooseCopy_78 : decode prog_5_method_17_code 78 = .ok (.invokevirtual 138, 3) := by decide +kernel
theorem dS_chooseCopy_81 : decode prog_5_method_17_code 81 = .ok (.iinc 6 (-1), 3) := by decide +kernel
theorem dS_chooseCopy_84 : decode prog_5_method_17_code 84 = .ok (.goto (-39), 3) := by decide +kernel
theorem dS_chooseCopy_87 : decode prog_5_method_17_code 87 = .ok (.iinc 4 1, 3) := by decide +kernel
theorem dS_chooseCopy_90 : decode prog_5_method_17_code 90 = .ok (.goto (-87), 3) := by decide +kernel
theorem dS_chooseCopy_93 : decode prog_5_method_17_code 93 = .ok (.return_, 1) := by decide +kernel
theorem dS_keep_0 : decode prog_5_method_20_code 0 = .ok (.aload_n 0, 1) := by decide +kernel
theorem dS_keep_1 : decode prog_5_method_20_code 1 = .ok (.iload_n 1, 1) := by decide +kernel
theorem dS_keep_2 : decode prog_5_method_20_code 2 = .ok (.putfield 114, 3) := by decide +kernel
theorem dS_keep_5 : decode prog_5_method_20_code 5 = .ok (.aload_n 0, 1) := by decide +kernel
theorem dS_keep_6 : decode prog_5_method_20_code 6 = .ok (.iload_n 2, 1) := by decide +kernel
theorem dS_keep_7 : decode prog_5_method_20_code 7 = .ok (.putfield 117, 3) := by decide +kernel
theorem dS_keep_10 : decode prog_5_method_20_code 10 = .ok (.aload_n 0, 1) := by decide +kernel
theorem dS_keep_11 : decode prog_5_method_20_code 11 = .ok (.iload_n 3, 1) := by decide +kernel
theorem dS_keep_12 : decode prog_5_method_20_code 12 = .ok (.putfield 111, 3) := by decide +kernel
theorem dS_keep_15 : decode prog_5_method_20_code 15 = .ok (.return_, 1) := by decide +kernel
theorem dS_chooseSelf_0 : decode prog_5_method_18_code 0 = .ok (.iload_n 3, 1) := by decide +kernel
theorem dS_chooseSelf_1 : decode prog_5_method_18_code 1 = .ok (.aload_n 0, 1) := by decide +kernel
theorem dS_chooseSelf_2 : decode prog_5_method_18_code 2 = .ok (.getfield 28, 3) := by decide +kernel
theorem dS_chooseSelf_5 : decode prog_5_method_18_code 5 = .ok (.invokevirtual 141, 3) := by decide +kernel
theorem dS_chooseSelf_8 : decode prog_5_method_18_code 8 = .ok (.isub, 1) := by decide +kernel
theorem dS_chooseSelf_9 : decode prog_5_method_18_code 9 = .ok (.istore 4, 2) := by decide +kernel
theorem dS_chooseSelf_11 : decode prog_5_method_18_code 11 = .ok (.iconst 0, 1) := by decide +kernel
theorem dS_chooseSelf_12 : decode prog_5_method_18_code 12 = .ok (.istore 5, 2) := by decide +kernel
theorem dS_chooseSelf_14 : decode prog_5_method_18_code 14 = .ok (.iload 5, 2) := by decide +kernel
theorem dS_chooseSelf_16 : decode prog_5_method_18_code 16 = .ok (.iload_n 1, 1) := by decide +kernel
theorem dS_chooseSelf_17 : decode prog_5_method_18_code 17 = .ok (.if_icmp .ge 63, 3) := by decide +kernel
theorem dS_chooseSelf_20 : decode prog_5_method_18_code 20 = .ok (.aload_n 0, 1) := by decide +kernel
theorem dS_chooseSelf_21 : decode prog_5_method_18_code 21 = .ok (.getfield 25, 3) := by decide +kernel
theorem dS_chooseSelf_24 : decode prog_5_method_18_code 24 = .ok (.iload 5, 2) := by decide +kernel
theorem dS_chooseSelf_26 : decode prog_5_method_18_code 26 = .ok (.aload_n 0, 1) := by decide +kernel
theorem dS_chooseSelf_27 : decode prog_5_method_18_code 27 = .ok (.getfield 25, 3) := by decide +kernel
theorem dS_chooseSelf_30 : decode prog_5_method_18_code 30 = .ok (.iload_n 1, 1) := by decide +kernel
theorem dS_chooseSelf_31 : decode prog_5_method_18_code 31 = .ok (.invokevirtual 88, 3) := by decide +kernel
theorem dS_chooseSelf_34 : decode prog_5_method_18_code 34 = .ok (.istore 6, 2) := by decide +kernel
theorem dS_chooseSelf_36 : decode prog_5_method_18_code 36 = .ok (.iload 6, 2) := by decide +kernel
theorem dS_chooseSelf_38 : decode prog_5_method_18_code 38 = .ok (.aload_n 0, 1) := by decide +kernel
theorem dS_chooseSelf_39 : decode prog_5_method_18_code 39 = .ok (.getfield 111, 3) := by decide +kernel
theorem dS_chooseSelf_42 : decode prog_5_method_18_code 42 = .ok (.if_icmp .le 32, 3) := by decide +kernel
theorem dS_chooseSelf_45 : decode prog_5_method_18_code 45 = .ok (.aload_n 0, 1) := by decide +kernel
theorem dS_chooseSelf_46 : decode prog_5_method_18_code 46 = .ok (.iload_n 1, 1) := by decide +kernel
theorem dS_chooseSelf_47 : decode prog_5_method_18_code 47 = .ok (.iload 6, 2) := by decide +kernel
theorem dS_chooseSelf_49 : decode prog_5_method_18_code 49 = .ok (.iadd, 1) := by decide +kernel
theorem dS_chooseSelf_50 : decode prog_5_method_18_code 50 = .ok (.iload_n 2, 1) := by decide +kernel
theorem dS_chooseSelf_51 : decode prog_5_method_18_code 51 = .ok (.invokevirtual 66, 3) := by decide +kernel
theorem dS_chooseSelf_54 : decode prog_5_method_18_code 54 = .ok (.iload 4, 2) := by decide +kernel
theorem dS_chooseSelf_56 : decode prog_5_method_18_code 56 = .ok (.if_icmp .ne 12, 3) := by decide +kernel
theorem dS_chooseSelf_59 : decode prog_5_method_18_code 59 = .ok (.aload_n 0, 1) := by decide +kernel
theorem dS_chooseSelf_60 : decode prog_5_method_18_code 60 = .ok (.iconst 1, 1) := by decide +kernel
theorem dS_chooseSelf_61 : decode prog_5_method_18_code 61 = .ok (.iload 5, 2) := by decide +kernel
theorem dS_chooseSelf_63 : decode prog_5_method_18_code 63 = .ok (.iload 6, 2) := by decide +kernel
theorem dS_chooseSelf_65 : decode prog_5_method_18_code 65 = .ok (.invokevirtual 138, 3) := by decide +kernel
theorem dS_chooseSelf_68 : decode prog_5_method_18_code 68 = .ok (.iinc 6 (-1), 3) := by decide +kernel
theorem dS_chooseSelf_71 : decode prog_5_method_18_code 71 = .ok (.goto (-35), 3) := by decide +kernel
theorem dS_chooseSelf_74 : decode prog_5_method_18_code 74 = .ok (.iinc 5 1, 3) := by decide +kernel
theorem dS_chooseSelf_77 : decode prog_5_method_18_code 77 = .ok (.goto (-63), 3) := by decide +kernel
theorem dS_chooseSelf_80 : decode prog_5_method_18_code 80 = .ok (.return_, 1) := by decide +kernel
theorem dS_chooseLay_0 : decode prog_5_method_19_code 0 = .ok (.aload_n 0, 1) := by decide +kernel
theorem dS_chooseLay_1 : decode prog_5_method_19_code 1 = .ok (.getfield 25, 3) := by decide +kernel
theorem dS_chooseLay_4 : decode prog_5_method_19_code 4 = .ok (.invokevirtual 37, 3) := by decide +kernel
theorem dS_chooseLay_7 : decode prog_5_method_19_code 7 = .ok (.iload_n 1, 1) := by decide +kernel
theorem dS_chooseLay_8 : decode prog_5_method_19_code 8 = .ok (.isub, 1) := by decide +kernel
theorem dS_chooseLay_9 : decode prog_5_method_19_code 9 = .ok (.istore 4, 2) := by decide +kernel
theorem dS_chooseLay_11 : decode prog_5_method_19_code 11 = .ok (.iload 4, 2) := by decide +kernel
theorem dS_chooseLay_13 : decode prog_5_method_19_code 13 = .ok (.aload_n 0, 1) := by decide +kernel
theorem dS_chooseLay_14 : decode prog_5_method_19_code 14 = .ok (.getfield 111, 3) := by decide +kernel
theorem dS_chooseLay_17 : decode prog_5_method_19_code 17 = .ok (.if_icmp .le 40, 3) := by decide +kernel
theorem dS_chooseLay_20 : decode prog_5_method_19_code 20 = .ok (.aload_n 0, 1) := by decide +kernel
theorem dS_chooseLay_21 : decode prog_5_method_19_code 21 = .ok (.iload_n 1, 1) := by decide +kernel
theorem dS_chooseLay_22 : decode prog_5_method_19_code 22 = .ok (.iload 4, 2) := by decide +kernel
theorem dS_chooseLay_24 : decode prog_5_method_19_code 24 = .ok (.iadd, 1) := by decide +kernel
theorem dS_chooseLay_25 : decode prog_5_method_19_code 25 = .ok (.iload_n 2, 1) := by decide +kernel
theorem dS_chooseLay_26 : decode prog_5_method_19_code 26 = .ok (.invokevirtual 66, 3) := by decide +kernel
theorem dS_chooseLay_29 : decode prog_5_method_19_code 29 = .ok (.iload_n 3, 1) := by decide +kernel
theorem dS_chooseLay_30 : decode prog_5_method_19_code 30 = .ok (.aload_n 0, 1) := by decide +kernel
theorem dS_chooseLay_31 : decode prog_5_method_19_code 31 = .ok (.getfield 28, 3) := by decide +kernel
theorem dS_chooseLay_34 : decode prog_5_method_19_code 34 = .ok (.iload 4, 2) := by decide +kernel
theorem dS_chooseLay_36 : decode prog_5_method_19_code 36 = .ok (.invokevirtual 144, 3) := by decide +kernel
theorem dS_chooseLay_39 : decode prog_5_method_19_code 39 = .ok (.isub, 1) := by decide +kernel
theorem dS_chooseLay_40 : decode prog_5_method_19_code 40 = .ok (.if_icmp .ne 11, 3) := by decide +kernel
theorem dS_chooseLay_43 : decode prog_5_method_19_code 43 = .ok (.aload_n 0, 1) := by decide +kernel
theorem dS_chooseLay_44 : decode prog_5_method_19_code 44 = .ok (.iconst 2, 1) := by decide +kernel
theorem dS_chooseLay_45 : decode prog_5_method_19_code 45 = .ok (.iconst (-1), 1) := by decide +kernel
theorem dS_chooseLay_46 : decode prog_5_method_19_code 46 = .ok (.iload 4, 2) := by decide +kernel
theorem dS_chooseLay_48 : decode prog_5_method_19_code 48 = .ok (.invokevirtual 138, 3) := by decide +kernel
theorem dS_chooseLay_51 : decode prog_5_method_19_code 51 = .ok (.iinc 4 (-1), 3) := by decide +kernel
theorem dS_chooseLay_54 : decode prog_5_method_19_code 54 = .ok (.goto (-43), 3) := by decide +kernel
theorem dS_chooseLay_57 : decode prog_5_method_19_code 57 = .ok (.return_, 1) := by decide +kernel
theorem dS_foundKind_0 : decode prog_5_method_11_code 0 = .ok (.aload_n 0, 1) := by decide +kernel
theorem dS_foundKind_1 : decode prog_5_method_11_code 1 = .ok (.getfield 114, 3) := by decide +kernel
theorem dS_foundKind_4 : decode prog_5_method_11_code 4 = .ok (.ireturn, 1) := by decide +kernel
theorem dS_foundPlace_0 : decode prog_5_method_12_code 0 = .ok (.aload_n 0, 1) := by decide +kernel
theorem dS_foundPlace_1 : decode prog_5_method_12_code 1 = .ok (.getfield 117, 3) := by decide +kernel
theorem dS_foundPlace_4 : decode prog_5_method_12_code 4 = .ok (.ireturn, 1) := by decide +kernel
theorem dS_foundCount_0 : decode prog_5_method_13_code 0 = .ok (.aload_n 0, 1) := by decide +kernel
theorem dS_foundCount_1 : decode prog_5_method_13_code 1 = .ok (.getfield 111, 3) := by decide +kernel
theorem dS_foundCount_4 : decode prog_5_method_13_code 4 = .ok (.ireturn, 1) := by decide +kernel
theorem dS_foundAt_0 : decode prog_5_method_14_code 0 = .ok (.aload_n 0, 1) := by decide +kernel
theorem dS_foundAt_1 : decode prog_5_method_14_code 1 = .ok (.getfield 98, 3) := by decide +kernel
theorem dS_foundAt_4 : decode prog_5_method_14_code 4 = .ok (.aload_n 0, 1) := by decide +kernel
theorem dS_foundAt_5 : decode prog_5_method_14_code 5 = .ok (.getfield 111, 3) := by decide +kernel
theorem dS_foundAt_8 : decode prog_5_method_14_code 8 = .ok (.isub, 1) := by decide +kernel
theorem dS_foundAt_9 : decode prog_5_method_14_code 9 = .ok (.ireturn, 1) := by decide +kernel
theorem dS_wayOfFound_0 : decode prog_5_method_15_code 0 = .ok (.aload_n 0, 1) := by decide +kernel
theorem dS_wayOfFound_1 : decode prog_5_method_15_code 1 = .ok (.getfield 114, 3) := by decide +kernel
theorem dS_wayOfFound_4 : decode prog_5_method_15_code 4 = .ok (.ifCond .ne 17, 3) := by decide +kernel
theorem dS_wayOfFound_7 : decode prog_5_method_15_code 7 = .ok (.iconst 1, 1) := by decide +kernel
theorem dS_wayOfFound_8 : decode prog_5_method_15_code 8 = .ok (.aload_n 0, 1) := by decide +kernel
theorem dS_wayOfFound_9 : decode prog_5_method_15_code 9 = .ok (.getfield 117, 3) := by decide +kernel
theorem dS_wayOfFound_12 : decode prog_5_method_15_code 12 = .ok (.aload_n 0, 1) := by decide +kernel
theorem dS_wayOfFound_13 : decode prog_5_method_15_code 13 = .ok (.getfield 104, 3) := by decide +kernel
theorem dS_wayOfFound_16 : decode prog_5_method_15_code 16 = .ok (.invokestatic 120, 3) := by decide +kernel
theorem dS_wayOfFound_19 : decode prog_5_method_15_code 19 = .ok (.iadd, 1) := by decide +kernel
theorem dS_wayOfFound_20 : decode prog_5_method_15_code 20 = .ok (.ireturn, 1) := by decide +kernel
theorem dS_wayOfFound_21 : decode prog_5_method_15_code 21 = .ok (.aload_n 0, 1) := by decide +kernel
theorem dS_wayOfFound_22 : decode prog_5_method_15_code 22 = .ok (.getfield 114, 3) := by decide +kernel
theorem dS_wayOfFound_25 : decode prog_5_method_15_code 25 = .ok (.iconst 1, 1) := by decide +kernel
theorem dS_wayOfFound_26 : decode prog_5_method_15_code 26 = .ok (.if_icmp .ne 7, 3) := by decide +kernel
theorem dS_wayOfFound_29 : decode prog_5_method_15_code 29 = .ok (.iconst 3, 1) := by decide +kernel
theorem dS_wayOfFound_30 : decode prog_5_method_15_code 30 = .ok (.goto 4, 3) := by decide +kernel
theorem dS_wayOfFound_33 : decode prog_5_method_15_code 33 = .ok (.iconst 4, 1) := by decide +kernel
theorem dS_wayOfFound_34 : decode prog_5_method_15_code 34 = .ok (.ireturn, 1) := by decide +kernel
end
section
theorem dC_write_71 : decode prog_1_method_19_code 71 = .ok (.invokevirtual 50, 3) := by decide +kernel
theorem dC_write_74 : decode prog_1_method_19_code 74 = .ok (.ireturn, 1) := by decide +kernel
theorem dC_writeAct_0 : decode prog_1_method_36_code 0 = .ok (.aload_n 0, 1) := by decide +kernel
theorem dC_writeAct_1 : decode prog_1_method_36_code 1 = .ok (.getfield 24, 3) := by decide +kernel
theorem dC_writeAct_4 : decode prog_1_method_36_code 4 = .ok (.bipush 64, 2) := by decide +kernel
theorem dC_writeAct_6 : decode prog_1_method_36_code 6 = .ok (.aload_n 0, 1) := by decide +kernel
theorem dC_writeAct_7 : decode prog_1_method_36_code 7 = .ok (.getfield 37, 3) := by decide +kernel
theorem dC_writeAct_10 : decode prog_1_method_36_code 10 = .ok (.iload_n 1, 1) := by decide +kernel
theorem dC_writeAct_11 : decode prog_1_method_36_code 11 = .ok (.invokevirtual 133, 3) := by decide +kernel
theorem dC_writeAct_14 : decode prog_1_method_36_code 14 = .ok (.imul, 1) := by decide +kernel
theorem dC_writeAct_15 : decode prog_1_method_36_code 15 = .ok (.aload_n 0, 1) := by decide +kernel
theorem dC_writeAct_16 : decode prog_1_method_36_code 16 = .ok (.getfield 37, 3) := by decide +kernel
theorem dC_writeAct_19 : decode prog_1_method_36_code 19 = .ok (.iload_n 1, 1) := by decide +kernel
theorem dC_writeAct_20 : decode prog_1_method_36_code 20 = .ok (.invokevirtual 136, 3) := by decide +kernel
theorem dC_writeAct_23 : decode prog_1_method_36_code 23 = .ok (.iadd, 1) := by decide +kernel
theorem dC_writeAct_24 : decode prog_1_method_36_code 24 = .ok (.invokevirtual 81, 3) := by decide +kernel
theorem dC_writeAct_27 : decode prog_1_method_36_code 27 = .ok (.aload_n 0, 1) := by decide +kernel
theorem dC_writeAct_28 : decode prog_1_method_36_code 28 = .ok (.getfield 37, 3) := by decide +kernel
theorem dC_writeAct_31 : decode prog_1_method_36_code 31 = .ok (.iload_n 1, 1) := by decide +kernel
theorem dC_writeAct_32 : decode prog_1_method_36_code 32 = .ok (.invokevirtual 133, 3) := by decide +kernel
theorem dC_writeAct_35 : decode prog_1_method_36_code 35 = .ok (.iconst 2, 1) := by decide +kernel
theorem dC_writeAct_36 : decode prog_1_method_36_code 36 = .ok (.if_icmp .eq 19, 3) := by decide +kernel
theorem dC_writeAct_39 : decode prog_1_method_36_code 39 = .ok (.aload_n 0, 1) := by decide +kernel
theorem dC_writeAct_40 : decode prog_1_method_36_code 40 = .ok (.getfield 24, 3) := by decide +kernel
theorem dC_writeAct_43 : decode prog_1_method_36_code 43 = .ok (.aload_n 0, 1) := by decide +kernel
theorem dC_writeAct_44 : decode prog_1_method_36_code 44 = .ok (.getfield 37, 3) := by decide +kernel
theorem dC_writeAct_47 : decode prog_1_method_36_code 47 = .ok (.iload_n 1, 1) := by decide +kernel
theorem dC_writeAct_48 : decode prog_1_method_36_code 48 = .ok (.invokevirtual 139, 3) := by decide +kernel
theorem dC_writeAct_51 : decode prog_1_method_36_code 51 = .ok (.invokevirtual 81, 3) := by decide +kernel
theorem dC_writeAct_54 : decode prog_1_method_36_code 54 = .ok (.return_, 1) := by decide +kernel
theorem dC_writeAct_55 : decode prog_1_method_36_code 55 = .ok (.iconst 0, 1) := by decide +kernel
theorem dC_writeAct_56 : decode prog_1_method_36_code 56 = .ok (.istore_n 2, 1) := by decide +kernel
theorem dC_writeAct_57 : decode prog_1_method_36_code 57 = .ok (.iload_n 2, 1) := by decide +kernel
theorem dC_writeAct_58 : decode prog_1_method_36_code 58 = .ok (.aload_n 0, 1) := by decide +kernel
theorem dC_writeAct_59 : decode prog_1_method_36_code 59 = .ok (.getfield 37, 3) := by decide +kernel
theorem dC_writeAct_62 : decode prog_1_method_36_code 62 = .ok (.iload_n 1, 1) := by decide +kernel
theorem dC_writeAct_63 : decode prog_1_method_36_code 63 = .ok (.invokevirtual 136, 3) := by decide +kernel
theorem dC_writeAct_66 : decode prog_1_method_36_code 66 = .ok (.if_icmp .ge 25, 3) := by decide +kernel
theorem dC_writeAct_69 : decode prog_1_method_36_code 69 = .ok (.aload_n 0, 1) := by decide +kernel
theorem dC_writeAct_70 : decode prog_1_method_36_code 70 = .ok (.getfield 24, 3) := by decide +kernel
theorem dC_writeAct_73 : decode prog_1_method_36_code 73 = .ok (.aload_n 0, 1) := by decide +kernel
theorem dC_writeAct_74 : decode prog_1_method_36_code 74 = .ok (.getfield 37, 3) := by decide +kernel
theorem dC_writeAct_77 : decode prog_1_method_36_code 77 = .ok (.iload_n 1, 1) := by decide +kernel
theorem dC_writeAct_78 : decode prog_1_method_36_code 78 = .ok (.iload_n 2, 1) := by decide +kernel
theorem dC_writeAct_79 : decode prog_1_method_36_code 79 = .ok (.invokevirtual 145, 3) := by decide +kernel
theorem dC_writeAct_82 : decode prog_1_method_36_code 82 = .ok (.invokevirtual 81, 3) := by decide +kernel
theorem dC_writeAct_85 : decode prog_1_method_36_code 85 = .ok (.iinc 2 1, 3) := by decide +kernel
theorem dC_writeAct_88 : decode prog_1_method_36_code 88 = .ok (.goto (-31), 3) := by decide +kernel
theorem dC_writeAct_91 : decode prog_1_method_36_code 91 = .ok (.return_, 1) := by decide +kernel
theorem dC_code_0 : decode prog_1_method_20_code 0 = .ok (.aload_n 0, 1) := by decide +kernel
theorem dC_code_1 : decode prog_1_method_20_code 1 = .ok (.getfield 24, 3) := by decide +kernel
theorem dC_code_4 : decode prog_1_method_20_code 4 = .ok (.iload_n 1, 1) := by decide +kernel
theorem dC_code_5 : decode prog_1_method_20_code 5 = .ok (.invokevirtual 168, 3) := by decide +kernel
theorem dC_code_8 : decode prog_1_method_20_code 8 = .ok (.ireturn, 1) := by decide +kernel
theorem dC_poke_0 : decode prog_1_method_21_code 0 = .ok (.aload_n 0, 1) := by decide +kernel
theorem dC_poke_1 : decode prog_1_method_21_code 1 = .ok (.getfield 24, 3) := by decide +kernel
theorem dC_poke_4 : decode prog_1_method_21_code 4 = .ok (.iload_n 1, 1) := by decide +kernel
theorem dC_poke_5 : decode prog_1_method_21_code 5 = .ok (.invokevirtual 125, 3) := by decide +kernel
theorem dC_poke_8 : decode prog_1_method_21_code 8 = .ok (.ifCond .eq 10, 3) := by decide +kernel
theorem dC_poke_11 : decode prog_1_method_21_code 11 = .ok (.iload_n 2, 1) := by decide +kernel
theorem dC_poke_12 : decode prog_1_method_21_code 12 = .ok (.invokestatic 70, 3) := by decide +kernel
theorem dC_poke_15 : decode prog_1_method_21_code 15 = .ok (.ifCond .ne 6, 3) := by decide +kernel
theorem dC_poke_18 : decode prog_1_method_21_code 18 = .ok (.bipush (-2), 2) := by decide +kernel
theorem dC_poke_20 : decode prog_1_method_21_code 20 = .ok (.ireturn, 1) := by decide +kernel
theorem dC_poke_21 : decode prog_1_method_21_code 21 = .ok (.aload_n 0, 1) := by decide +kernel
theorem dC_poke_22 : decode prog_1_method_21_code 22 = .ok (.getfield 24, 3) := by decide +kernel
theorem dC_poke_25 : decode prog_1_method_21_code 25 = .ok (.iload_n 1, 1) := by decide +kernel
theorem dC_poke_26 : decode prog_1_method_21_code 26 = .ok (.invokevirtual 168, 3) := by decide +kernel
theorem dC_poke_29 : decode prog_1_method_21_code 29 = .ok (.istore_n 3, 1) := by decide +kernel
theorem dC_poke_30 : decode prog_1_method_21_code 30 = .ok (.aload_n 0, 1) := by decide +kernel
theorem dC_poke_31 : decode prog_1_method_21_code 31 = .ok (.getfield 24, 3) := by decide +kernel
theorem dC_poke_34 : decode prog_1_method_21_code 34 = .ok (.iload_n 1, 1) := by decide +kernel
theorem dC_poke_35 : decode prog_1_method_21_code 35 = .ok (.iload_n 2, 1) := by decide +kernel
theorem dC_poke_36 : decode prog_1_method_21_code 36 = .ok (.invokevirtual 178, 3) := by decide +kernel
theorem dC_poke_39 : decode prog_1_method_21_code 39 = .ok (.iload_n 3, 1) := by decide +kernel
theorem dC_poke_40 : decode prog_1_method_21_code 40 = .ok (.ireturn, 1) := by decide +kernel
theorem dC_shorten_0 : decode prog_1_method_22_code 0 = .ok (.iload_n 1, 1) := by decide +kernel
theorem dC_shorten_1 : decode prog_1_method_22_code 1 = .ok (.ifCond .lt 14, 3) := by decide +kernel
theorem dC_shorten_4 : decode prog_1_method_22_code 4 = .ok (.iload_n 1, 1) := by decide +kernel
theorem dC_shorten_5 : decode prog_1_method_22_code 5 = .ok (.aload_n 0, 1) := by decide +kernel
theorem dC_shorten_6 : decode prog_1_method_22_code 6 = .ok (.getfield 24, 3) := by decide +kernel
theorem dC_shorten_9 : decode prog_1_method_22_code 9 = .ok (.invokevirtual 50, 3) := by decide +kernel
theorem dC_shorten_12 : decode prog_1_method_22_code 12 = .ok (.if_icmp .le 6, 3) := by decide +kernel
theorem dC_shorten_15 : decode prog_1_method_22_code 15 = .ok (.bipush (-2), 2) := by decide +kernel
theorem dC_shorten_17 : decode prog_1_method_22_code 17 = .ok (.ireturn, 1) := by decide +kernel
theorem dC_shorten_18 : decode prog_1_method_22_code 18 = .ok (.aload_n 0, 1) := by decide +kernel
theorem dC_shorten_19 : decode prog_1_method_22_code 19 = .ok (.getfield 24, 3) := by decide +kernel
theorem dC_shorten_22 : decode prog_1_method_22_code 22 = .ok (.iload_n 1, 1) := by decide +kernel
theorem dC_shorten_23 : decode prog_1_method_22_code 23 = .ok (.invokevirtual 84, 3) := by decide +kernel
theorem dC_shorten_26 : decode prog_1_method_22_code 26 = .ok (.aload_n 0, 1) := by decide +kernel
theorem dC_shorten_27 : decode prog_1_method_22_code 27 = .ok (.getfield 24, 3) := by decide +kernel
theorem dC_shorten_30 : decode prog_1_method_22_code 30 = .ok (.invokevirtual 50, 3) := by decide +kernel
theorem dC_shorten_33 : decode prog_1_method_22_code 33 = .ok (.ireturn, 1) := by decide +kernel
theorem dC_read_0 : decode prog_1_method_23_code 0 = .ok (.aload_n 0, 1) := by decide +kernel
theorem dC_read_1 : decode prog_1_method_23_code 1 = .ok (.invokevirtual 181, 3) := by decide +kernel
theorem dC_read_4 : decode prog_1_method_23_code 4 = .ok (.istore_n 1, 1) := by decide +kernel
theorem dC_read_5 : decode prog_1_method_23_code 5 = .ok (.iload_n 1, 1) := by decide +kernel
theorem dC_read_6 : decode prog_1_method_23_code 6 = .ok (.iconst (-1), 1) := by decide +kernel
theorem dC_read_7 : decode prog_1_method_23_code 7 = .ok (.if_icmp .eq 9, 3) := by decide +kernel
theorem dC_read_10 : decode prog_1_method_23_code 10 = .ok (.sipush (-1000), 3) := by decide +kernel
theorem dC_read_13 : decode prog_1_method_23_code 13 = .ok (.iload_n 1, 1) := by decide +kernel
theorem dC_read_14 : decode prog_1_method_23_code 14 = .ok (.isub, 1) := by decide +kernel
theorem dC_read_15 : decode prog_1_method_23_code 15 = .ok (.ireturn, 1) := by decide +kernel
theorem dC_read_16 : decode prog_1_method_23_code 16 = .ok (.aload_n 0, 1) := by decide +kernel
theorem dC_read_17 : decode prog_1_method_23_code 17 = .ok (.getfield 37, 3) := by decide +kernel
theorem dC_read_20 : decode prog_1_method_23_code 20 = .ok (.aload_n 0, 1) := by decide +kernel
theorem dC_read_21 : decode prog_1_method_23_code 21 = .ok (.getfield 24, 3) := by decide +kernel
theorem dC_read_24 : decode prog_1_method_23_code 24 = .ok (.iconst 0, 1) := by decide +kernel
theorem dC_read_25 : decode prog_1_method_23_code 25 = .ok (.invokevirtual 168, 3) := by decide +kernel
theorem dC_read_28 : decode prog_1_method_23_code 28 = .ok (.sipush 256, 3) := by decide +kernel
theorem dC_read_31 : decode prog_1_method_23_code 31 = .ok (.imul, 1) := by decide +kernel
theorem dC_read_32 : decode prog_1_method_23_code 32 = .ok (.aload_n 0, 1) := by decide +kernel
theorem dC_read_33 : decode prog_1_method_23_code 33 = .ok (.getfield 24, 3) := by decide +kernel
theorem dC_read_36 : decode prog_1_method_23_code 36 = .ok (.iconst 1, 1) := by decide +kernel
theorem dC_read_37 : decode prog_1_method_23_code 37 = .ok (.invokevirtual 168, 3) := by decide +kernel
theorem dC_read_40 : decode prog_1_method_23_code 40 = .ok (.iadd, 1) := by decide +kernel
theorem dC_read_41 : decode prog_1_method_23_code 41 = .ok (.invokevirtual 60, 3) := by decide +kernel
theorem dC_read_44 : decode prog_1_method_23_code 44 = .ok (.iconst 2, 1) := by decide +kernel
theorem dC_read_45 : decode prog_1_method_23_code 45 = .ok (.istore_n 2, 1) := by decide +kernel
theorem dC_read_46 : decode prog_1_method_23_code 46 = .ok (.iconst 0, 1) := by decide +kernel
theorem dC_read_47 : decode prog_1_method_23_code 47 = .ok (.istore_n 3, 1) := by decide +kernel
theorem dC_read_48 : decode prog_1_method_23_code 48 = .ok (.iload_n 3, 1) := by decide +kernel
theorem dC_read_49 : decode prog_1_method_23_code 49 = .ok (.bipush 100, 2) := by decide +kernel
theorem dC_read_51 : decode prog_1_method_23_code 51 = .ok (.if_icmp .ge 26, 3) := by decide +kernel
theorem dC_read_54 : decode prog_1_method_23_code 54 = .ok (.iload_n 2, 1) := by decide +kernel
theorem dC_read_55 : decode prog_1_method_23_code 55 = .ok (.aload_n 0, 1) := by decide +kernel
theorem dC_read_56 : decode prog_1_method_23_code 56 = .ok (.getfield 24, 3) := by decide +kernel
theorem dC_read_59 : decode prog_1_method_23_code 59 = .ok (.invokevirtual 50, 3) := by decide +kernel
theorem dC_read_62 : decode prog_1_method_23_code 62 = .ok (.if_icmp .ge 15, 3) := by decide +kernel
theorem dC_read_65 : decode prog_1_method_23_code 65 = .ok (.aload_n 0, 1) := by decide +kernel
theorem dC_read_66 : decode prog_1_method_23_code 66 = .ok (.iload_n 2, 1) := by decide +kernel
theorem dC_read_67 : decode prog_1_method_23_code 67 = .ok (.invokevirtual 184, 3) := by decide +kernel
theorem dC_read_70 : decode prog_1_method_23_code 70 = .ok (.istore_n 2, 1) := by decide +kernel
theorem dC_read_71 : decode prog_1_method_23_code 71 = .ok (.iinc 3 1, 3) := by decide +kernel
theorem dC_read_74 : decode prog_1_method_23_code 74 = .ok (.goto (-26), 3) := by decide +kernel
theorem dC_read_77 : decode prog_1_method_23_code 77 = .ok (.aload_n 0, 1) := by decide +kernel
theorem dC_read_78 : decode prog_1_method_23_code 78 = .ok (.getfield 37, 3) := by decide +kernel
theorem dC_read_81 : decode prog_1_method_23_code 81 = .ok (.invokevirtual 113, 3) := by decide +kernel
theorem dC_read_84 : decode prog_1_method_23_code 84 = .ok (.ireturn, 1) := by decide +kernel
theorem dC_findWrongByte_0 : decode prog_1_method_37_code 0 = .ok (.aload_n 0, 1) := by decide +kernel
theorem dC_findWrongByte_1 : decode prog_1_method_37_code 1 = .ok (.getfield 24, 3) := by decide +kernel
theorem dC_findWrongByte_4 : decode prog_1_method_37_code 4 = .ok (.invokevirtual 50, 3) := by decide +kernel
theorem dC_findWrongByte_7 : decode prog_1_method_37_code 7 = .ok (.istore_n 1, 1) := by decide +kernel
theorem dC_findWrongByte_8 : decode prog_1_method_37_code 8 = .ok (.iload_n 1, 1) := by decide +kernel
theorem dC_findWrongByte_9 : decode prog_1_method_37_code 9 = .ok (.iconst 2, 1) := by decide +kernel
theorem dC_findWrongByte_10 : decode prog_1_method_37_code 10 = .ok (.if_icmp .ge 5, 3) := by decide +kernel
theorem dC_findWrongByte_13 : decode prog_1_method_37_code 13 = .ok (.iload_n 1, 1) := by decide +kernel
theorem dC_findWrongByte_14 : decode prog_1_method_37_code 14 = .ok (.ireturn, 1) := by decide +kernel
theorem dC_findWrongByte_15 : decode prog_1_method_37_code 15 = .ok (.iconst 2, 1) := by decide +kernel
theorem dC_findWrongByte_16 : decode prog_1_method_37_code 16 = .ok (.istore_n 2, 1) := by decide +kernel
theorem dC_findWrongByte_17 : decode prog_1_method_37_code 17 = .ok (.iconst 0, 1) := by decide +kernel
theorem dC_findWrongByte_18 : decode prog_1_method_37_code 18 = .ok (.istore_n 3, 1) := by decide +kernel
theorem dC_findWrongByte_19 : decode prog_1_method_37_code 19 = .ok (.iload_n 3, 1) := by decide +kernel
theorem dC_findWrongByte_20 : decode prog_1_method_37_code 20 = .ok (.bipush 100, 2) := by decide +kernel
theorem dC_findWrongByte_22 : decode prog_1_method_37_code 22 = .ok (.if_icmp .ge 115, 3) := by decide +kernel
theorem dC_findWrongByte_25 : decode prog_1_method_37_code 25 = .ok (.iload_n 2, 1) := by decide +kernel
theorem dC_findWrongByte_26 : decode prog_1_method_37_code 26 = .ok (.iload_n 1, 1) := by decide +kernel
theorem dC_findWrongByte_27 : decode prog_1_method_37_code 27 = .ok (.if_icmp .ge 110, 3) := by decide +kernel
theorem dC_findWrongByte_30 : decode prog_1_method_37_code 30 = .ok (.aload_n 0, 1) := by decide +kernel
theorem dC_findWrongByte_31 : decode prog_1_method_37_code 31 = .ok (.getfield 24, 3) := by decide +kernel
theorem dC_findWrongByte_34 : decode prog_1_method_37_code 34 = .ok (.iload_n 2, 1) := by decide +kernel
theorem dC_findWrongByte_35 : decode prog_1_method_37_code 35 = .ok (.invokevirtual 168, 3) := by decide +kernel
theorem dC_findWrongByte_38 : decode prog_1_method_37_code 38 = .ok (.bipush 64, 2) := by decide +kernel
theorem dC_findWrongByte_40 : decode prog_1_method_37_code 40 = .ok (.idiv, 1) := by decide +kernel
theorem dC_findWrongByte_41 : decode prog_1_method_37_code 41 = .ok (.istore 4, 2) := by decide +kernel
theorem dC_findWrongByte_43 : decode prog_1_method_37_code 43 = .ok (.aload_n 0, 1) := by decide +kernel
theorem dC_findWrongByte_44 : decode prog_1_method_37_code 44 = .ok (.getfield 24, 3) := by decide +kernel
theorem dC_findWrongByte_47 : decode prog_1_method_37_code 47 = .ok (.iload_n 2, 1) := by decide +kernel
theorem dC_findWrongByte_48 : decode prog_1_method_37_code 48 = .ok (.invokevirtual 168, 3) := by decide +kernel
theorem dC_findWrongByte_51 : decode prog_1_method_37_code 51 = .ok (.bipush 64, 2) := by decide +kernel
theorem dC_findWrongByte_53 : decode prog_1_method_37_code 53 = .ok (.irem, 1) := by decide +kernel
theorem dC_findWrongByte_54 : decode prog_1_method_37_code 54 = .ok (.istore 5, 2) := by decide +kernel
theorem dC_findWrongByte_56 : decode prog_1_method_37_code 56 = .ok (.iload 4, 2) := by decide +kernel
theorem dC_findWrongByte_58 : decode prog_1_method_37_code 58 = .ok (.iconst 2, 1) := by decide +kernel
theorem dC_findWrongByte_59 : decode prog_1_method_37_code 59 = .ok (.if_icmp .gt 16, 3) := by decide +kernel
theorem dC_findWrongByte_62 : decode prog_1_method_37_code 62 = .ok (.iload 5, 2) := by decide +kernel
theorem dC_findWrongByte_64 : decode prog_1_method_37_code 64 = .ok (.iconst 1, 1) := by decide +kernel
theorem dC_findWrongByte_65 : decode prog_1_method_37_code 65 = .ok (.if_icmp .lt 10, 3) := by decide +kernel
theorem dC_findWrongByte_68 : decode prog_1_method_37_code 68 = .ok (.iload 5, 2) := by decide +kernel
theorem dC_findWrongByte_70 : decode prog_1_method_37_code 70 = .ok (.bipush 40, 2) := by decide +kernel
theorem dC_findWrongByte_72 : decode prog_1_method_37_code 72 = .ok (.if_icmp .le 5, 3) := by decide +kernel
theorem dC_findWrongByte_75 : decode prog_1_method_37_code 75 = .ok (.iload_n 2, 1) := by decide +kernel
theorem dC_findWrongByte_76 : decode prog_1_method_37_code 76 = .ok (.ireturn, 1) := by decide +kernel
theorem dC_findWrongByte_77 : decode prog_1_method_37_code 77 = .ok (.iload_n 2, 1) := by decide +kernel
theorem dC_findWrongByte_78 : decode prog_1_method_37_code 78 = .ok (.iconst 1, 1) := by decide +kernel
theorem dC_findWrongByte_79 : decode prog_1_method_37_code 79 = .ok (.iadd, 1) := by decide +kernel
theorem dC_findWrongByte_80 : decode prog_1_method_37_code 80 = .ok (.iload 4, 2) := by decide +kernel
theorem dC_findWrongByte_82 : decode prog_1_method_37_code 82 = .ok (.iconst 2, 1) := by decide +kernel
theorem dC_findWrongByte_83 : decode prog_1_method_37_code 83 = .ok (.if_icmp .ne 8, 3) := by decide +kernel
theorem dC_findWrongByte_86 : decode prog_1_method_37_code 86 = .ok (.iload 5, 2) := by decide +kernel
theorem dC_findWrongByte_88 : decode prog_1_method_37_code 88 = .ok (.goto 4, 3) := by decide +kernel
theorem dC_findWrongByte_91 : decode prog_1_method_37_code 91 = .ok (.iconst 1, 1) := by decide +kernel
theorem dC_findWrongByte_92 : decode prog_1_method_37_code 92 = .ok (.iadd, 1) := by decide +kernel
theorem dC_findWrongByte_93 : decode prog_1_method_37_code 93 = .ok (.istore 6, 2) := by decide +kernel
theorem dC_findWrongByte_95 : decode prog_1_method_37_code 95 = .ok (.iload 6, 2) := by decide +kernel
theorem dC_findWrongByte_97 : decode prog_1_method_37_code 97 = .ok (.iload_n 1, 1) := by decide +kernel
theorem dC_findWrongByte_98 : decode prog_1_method_37_code 98 = .ok (.if_icmp .le 5, 3) := by decide +kernel
theorem dC_findWrongByte_101 : decode prog_1_method_37_code 101 = .ok (.iload_n 1, 1) := by decide +kernel
theorem dC_findWrongByte_102 : decode prog_1_method_37_code 102 = .ok (.ireturn, 1) := by decide +kernel
theorem dC_findWrongByte_103 : decode prog_1_method_37_code 103 = .ok (.iload 4, 2) := by decide +kernel
theorem dC_findWrongByte_105 : decode prog_1_method_37_code 105 = .ok (.iconst 2, 1) := by decide +kernel
theorem dC_findWrongByte_106 : decode prog_1_method_37_code 106 = .ok (.if_icmp .eq 22, 3) := by decide +kernel
theorem dC_findWrongByte_109 : decode prog_1_method_37_code 109 = .ok (.aload_n 0, 1) := by decide +kernel
theorem dC_findWrongByte_110 : decode prog_1_method_37_code 110 = .ok (.getfield 24, 3) := by decide +kernel
theorem dC_findWrongByte_113 : decode prog_1_method_37_code 113 = .ok (.iload_n 2, 1) := by decide +kernel
theorem dC_findWrongByte_114 : decode prog_1_method_37_code 114 = .ok (.iconst 1, 1) := by decide +kernel
theorem dC_findWrongByte_115 : decode prog_1_method_37_code 115 = .ok (.iadd, 1) := by decide +kernel
theorem dC_findWrongByte_116 : decode prog_1_method_37_code 116 = .ok (.invokevirtual 168, 3) := by decide +kernel
theorem dC_findWrongByte_119 : decode prog_1_method_37_code 119 = .ok (.bipush 79, 2) := by decide +kernel
theorem dC_findWrongByte_121 : decode prog_1_method_37_code 121 = .ok (.if_icmp .le 7, 3) := by decide +kernel
theorem dC_findWrongByte_124 : decode prog_1_method_37_code 124 = .ok (.iload_n 2, 1) := by decide +kernel
theorem dC_findWrongByte_125 : decode prog_1_method_37_code 125 = .ok (.iconst 1, 1) := by decide +kernel
theorem dC_findWrongByte_126 : decode prog_1_method_37_code 126 = .ok (.iadd, 1) := by decide +kernel
theorem dC_findWrongByte_127 : decode prog_1_method_37_code 127 = .ok (.ireturn, 1) := by decide +kernel
theorem dC_findWrongByte_128 : decode prog_1_method_37_code 128 = .ok (.iload 6, 2) := by decide +kernel
theorem dC_findWrongByte_130 : decode prog_1_method_37_code 130 = .ok (.istore_n 2, 1) := by decide +kernel
theorem dC_findWrongByte_131 : decode prog_1_method_37_code 131 = .ok (.iinc 3 1, 3) := by decide +kernel
theorem dC_findWrongByte_134 : decode prog_1_method_37_code 134 = .ok (.goto (-115), 3) := by decide +kernel
theorem dC_findWrongByte_137 : decode prog_1_method_37_code 137 = .ok (.iload_n 2, 1) := by decide +kernel
theorem dC_findWrongByte_138 : decode prog_1_method_37_code 138 = .ok (.iload_n 1, 1) := by decide +kernel
theorem dC_findWrongByte_139 : decode prog_1_method_37_code 139 = .ok (.if_icmp .ge 7, 3) := by decide +kernel
theorem dC_findWrongByte_142 : decode prog_1_method_37_code 142 = .ok (.iload_n 2, 1) := by decide +kernel
theorem dC_findWrongByte_143 : decode prog_1_method_37_code 143 = .ok (.goto 4, 3) := by decide +kernel
theorem dC_findWrongByte_146 : decode prog_1_method_37_code 146 = .ok (.iconst (-1), 1) := by decide +kernel
theorem dC_findWrongByte_147 : decode prog_1_method_37_code 147 = .ok (.ireturn, 1) := by decide +kernel
theorem dC_readAct_0 : decode prog_1_method_38_code 0 = .ok (.aload_n 0, 1) := by decide +kernel
theorem dC_readAct_1 : decode prog_1_method_38_code 1 = .ok (.getfield 24, 3) := by decide +kernel
theorem dC_readAct_4 : decode prog_1_method_38_code 4 = .ok (.iload_n 1, 1) := by decide +kernel
theorem dC_readAct_5 : decode prog_1_method_38_code 5 = .ok (.invokevirtual 168, 3) := by decide +kernel
theorem dC_readAct_8 : decode prog_1_method_38_code 8 = .ok (.bipush 64, 2) := by decide +kernel
theorem dC_readAct_10 : decode prog_1_method_38_code 10 = .ok (.idiv, 1) := by decide +kernel
theorem dC_readAct_11 : decode prog_1_method_38_code 11 = .ok (.istore_n 2, 1) := by decide +kernel
theorem dC_readAct_12 : decode prog_1_method_38_code 12 = .ok (.aload_n 0, 1) := by decide +kernel
theorem dC_readAct_13 : decode prog_1_method_38_code 13 = .ok (.getfield 24, 3) := by decide +kernel
theorem dC_readAct_16 : decode prog_1_method_38_code 16 = .ok (.iload_n 1, 1) := by decide +kernel
theorem dC_readAct_17 : decode prog_1_method_38_code 17 = .ok (.invokevirtual 168, 3) := by decide +kernel
theorem dC_readAct_20 : decode prog_1_method_38_code 20 = .ok (.bipush 64, 2) := by decide +kernel
theorem dC_readAct_22 : decode prog_1_method_38_code 22 = .ok (.irem, 1) := by decide +kernel
theorem dC_readAct_23 : decode prog_1_method_38_code 23 = .ok (.istore_n 3, 1) := by decide +kernel
theorem dC_readAct_24 : decode prog_1_method_38_code 24 = .ok (.iload_n 2, 1) := by decide +kernel
theorem dC_readAct_25 : decode prog_1_method_38_code 25 = .ok (.iconst 2, 1) := by decide +kernel
theorem dC_readAct_26 : decode prog_1_method_38_code 26 = .ok (.if_icmp .eq 26, 3) := by decide +kernel
theorem dC_readAct_29 : decode prog_1_method_38_code 29 = .ok (.aload_n 0, 1) := by decide +kernel
theorem dC_readAct_30 : decode prog_1_method_38_code 30 = .ok (.getfield 37, 3) := by decide +kernel
theorem dC_readAct_33 : decode prog_1_method_38_code 33 = .ok (.iload_n 2, 1) := by decide +kernel
theorem dC_readAct_34 : decode prog_1_method_38_code 34 = .ok (.aload_n 0, 1) := by decide +kernel
theorem dC_readAct_35 : decode prog_1_method_38_code 35 = .ok (.getfield 24, 3) := by decide +kernel
theorem dC_readAct_38 : decode prog_1_method_38_code 38 = .ok (.iload_n 1, 1) := by decide +kernel
theorem dC_readAct_39 : decode prog_1_method_38_code 39 = .ok (.iconst 1, 1) := by decide +kernel
theorem dC_readAct_40 : decode prog_1_method_38_code 40 = .ok (.iadd, 1) := by decide +kernel
theorem dC_readAct_41 : decode prog_1_method_38_code 41 = .ok (.invokevirtual 168, 3) := by decide +kernel
theorem dC_readAct_44 : decode prog_1_method_38_code 44 = .ok (.iload_n 3, 1) := by decide +kernel
theorem dC_readAct_45 : decode prog_1_method_38_code 45 = .ok (.invokevirtual 149, 3) := by decide +kernel
theorem dC_readAct_48 : decode prog_1_method_38_code 48 = .ok (.iload_n 1, 1) := by decide +kernel
theorem dC_readAct_49 : decode prog_1_method_38_code 49 = .ok (.iconst 2, 1) := by decide +kernel
theorem dC_readAct_50 : decode prog_1_method_38_code 50 = .ok (.iadd, 1) := by decide +kernel
theorem dC_readAct_51 : decode prog_1_method_38_code 51 = .ok (.ireturn, 1) := by decide +kernel
theorem dC_readAct_52 : decode prog_1_method_38_code 52 = .ok (.aload_n 0, 1) := by decide +kernel
theorem dC_readAct_53 : decode prog_1_method_38_code 53 = .ok (.getfield 37, 3) := by decide +kernel
theorem dC_readAct_56 : decode prog_1_method_38_code 56 = .ok (.invokevirtual 155, 3) := by decide +kernel
theorem dC_readAct_59 : decode prog_1_method_38_code 59 = .ok (.iconst 1, 1) := by decide +kernel
theorem dC_readAct_60 : decode prog_1_method_38_code 60 = .ok (.istore 4, 2) := by decide +kernel
theorem dC_readAct_62 : decode prog_1_method_38_code 62 = .ok (.iload 4, 2) := by decide +kernel
theorem dC_readAct_64 : decode prog_1_method_38_code 64 = .ok (.iload_n 3, 1) := by decide +kernel
theorem dC_readAct_65 : decode prog_1_method_38_code 65 = .ok (.if_icmp .gt 27, 3) := by decide +kernel
theorem dC_readAct_68 : decode prog_1_method_38_code 68 = .ok (.aload_n 0, 1) := by decide +kernel
theorem dC_readAct_69 : decode prog_1_method_38_code 69 = .ok (.getfield 37, 3) := by decide +kernel
theorem dC_readAct_72 : decode prog_1_method_38_code 72 = .ok (.aload_n 0, 1) := by decide +kernel
theorem dC_readAct_73 : decode prog_1_method_38_code 73 = .ok (.getfield 24, 3) := by decide +kernel
theorem dC_readAct_76 : decode prog_1_method_38_code 76 = .ok (.iload_n 1, 1) := by decide +kernel
theorem dC_readAct_77 : decode prog_1_method_38_code 77 = .ok (.iload 4, 2) := by decide +kernel
theorem dC_readAct_79 : decode prog_1_method_38_code 79 = .ok (.iadd, 1) := by decide +kernel
theorem dC_readAct_80 : decode prog_1_method_38_code 80 = .ok (.invokevirtual 168, 3) := by decide +kernel
theorem dC_readAct_83 : decode prog_1_method_38_code 83 = .ok (.invokevirtual 158, 3) := by decide +kernel
theorem dC_readAct_86 : decode prog_1_method_38_code 86 = .ok (.iinc 4 1, 3) := by decide +kernel
theorem dC_readAct_89 : decode prog_1_method_38_code 89 = .ok (.goto (-27), 3) := by decide +kernel
theorem dC_readAct_92 : decode prog_1_method_38_code 92 = .ok (.iload_n 1, 1) := by decide +kernel
theorem dC_readAct_93 : decode prog_1_method_38_code 93 = .ok (.iconst 1, 1) := by decide +kernel
theorem dC_readAct_94 : decode prog_1_method_38_code 94 = .ok (.iadd, 1) := by decide +kernel
theorem dC_readAct_95 : decode prog_1_method_38_code 95 = .ok (.iload_n 3, 1) := by decide +kernel
theorem dC_readAct_96 : decode prog_1_method_38_code 96 = .ok (.iadd, 1) := by decide +kernel
theorem dC_readAct_97 : decode prog_1_method_38_code 97 = .ok (.ireturn, 1) := by decide +kernel
theorem dC_moved_0 : decode prog_1_method_24_code 0 = .ok (.iload_n 1, 1) := by decide +kernel
theorem dC_moved_1 : decode prog_1_method_24_code 1 = .ok (.ifCond .lt 8, 3) := by decide +kernel
theorem dC_moved_4 : decode prog_1_method_24_code 4 = .ok (.iload_n 1, 1) := by decide +kernel
theorem dC_moved_5 : decode prog_1_method_24_code 5 = .ok (.iconst 4, 1) := by decide +kernel
theorem dC_moved_6 : decode prog_1_method_24_code 6 = .ok (.if_icmp .le 6, 3) := by decide +kernel
theorem dC_moved_9 : decode prog_1_method_24_code 9 = .ok (.bipush (-2), 2) := by decide +kernel
theorem dC_moved_11 : decode prog_1_method_24_code 11 = .ok (.ireturn, 1) := by decide +kernel
theorem dC_moved_12 : decode prog_1_method_24_code 12 = .ok (.iconst 0, 1) := by decide +kernel
theorem dC_moved_13 : decode prog_1_method_24_code 13 = .ok (.istore_n 2, 1) := by decide +kernel
theorem dC_moved_14 : decode prog_1_method_24_code 14 = .ok (.aload_n 0, 1) := by decide +kernel
theorem dC_moved_15 : decode prog_1_method_24_code 15 = .ok (.getfield 46, 3) := by decide +kernel
theorem dC_moved_18 : decode prog_1_method_24_code 18 = .ok (.invokevirtual 105, 3) := by decide +kernel
theorem dC_moved_21 : decode prog_1_method_24_code 21 = .ok (.iconst 0, 1) := by decide +kernel
theorem dC_moved_22 : decode prog_1_method_24_code 22 = .ok (.istore_n 3, 1) := by decide +kernel
theorem dC_moved_23 : decode prog_1_method_24_code 23 = .ok (.iload_n 3, 1) := by decide +kernel
theorem dC_moved_24 : decode prog_1_method_24_code 24 = .ok (.bipush 40, 2) := by decide +kernel
theorem dC_moved_26 : decode prog_1_method_24_code 26 = .ok (.if_icmp .ge 40, 3) := by decide +kernel
theorem dC_moved_29 : decode prog_1_method_24_code 29 = .ok (.aload_n 0, 1) := by decide +kernel
theorem dC_moved_30 : decode prog_1_method_24_code 30 = .ok (.getfield 46, 3) := by decide +kernel
theorem dC_moved_33 : decode prog_1_method_24_code 33 = .ok (.invokevirtual 107, 3) := by decide +kernel
theorem dC_moved_36 : decode prog_1_method_24_code 36 = .ok (.ifCond .eq 30, 3) := by decide +kernel
theorem dC_moved_39 : decode prog_1_method_24_code 39 = .ok (.aload_n 0, 1) := by decide +kernel
theorem dC_moved_40 : decode prog_1_method_24_code 40 = .ok (.getfield 46, 3) := by decide +kernel
theorem dC_moved_43 : decode prog_1_method_24_code 43 = .ok (.invokevirtual 187, 3) := by decide +kernel
theorem dC_moved_46 : decode prog_1_method_24_code 46 = .ok (.iload_n 1, 1) := by decide +kernel
theorem dC_moved_47 : decode prog_1_method_24_code 47 = .ok (.if_icmp .ne 13, 3) := by decide +kernel
theorem dC_moved_50 : decode prog_1_method_24_code 50 = .ok (.iload_n 2, 1) := by decide +kernel
theorem dC_moved_51 : decode prog_1_method_24_code 51 = .ok (.aload_n 0, 1) := by decide +kernel
theorem dC_moved_52 : decode prog_1_method_24_code 52 = .ok (.getfield 46, 3) := by decide +kernel
theorem dC_moved_55 : decode prog_1_method_24_code 55 = .ok (.invokevirtual 190, 3) := by decide +kernel
theorem dC_moved_58 : decode prog_1_method_24_code 58 = .ok (.iadd, 1) := by decide +kernel
theorem dC_moved_59 : decode prog_1_method_24_code 59 = .ok (.istore_n 2, 1) := by decide +kernel
theorem dC_moved_60 : decode prog_1_method_24_code 60 = .ok (.iinc 3 1, 3) := by decide +kernel
theorem dC_moved_63 : decode prog_1_method_24_code 63 = .ok (.goto (-40), 3) := by decide +kernel
theorem dC_moved_66 : decode prog_1_method_24_code 66 = .ok (.iload_n 2, 1) := by decide +kernel
theorem dC_moved_67 : decode prog_1_method_24_code 67 = .ok (.ireturn, 1) := by decide +kernel
theorem dC_of_0 : decode prog_1_method_25_code 0 = .ok (.iload_n 1, 1) := by decide +kernel
theorem dC_of_1 : decode prog_1_method_25_code 1 = .ok (.tableswitch 111 0 7 #[47, 55, 63, 71, 79, 87, 95, 103], 47) := by decide +kernel
theorem dC_of_48 : decode prog_1_method_25_code 48 = .ok (.aload_n 0, 1) := by decide +kernel
theorem dC_of_49 : decode prog_1_method_25_code 49 = .ok (.getfield 14, 3) := by decide +kernel
theorem dC_of_52 : decode prog_1_method_25_code 52 = .ok (.invokevirtual 50, 3) := by decide +kernel
theorem dC_of_55 : decode prog_1_method_25_code 55 = .ok (.ireturn, 1) := by decide +kernel
theorem dC_of_56 : decode prog_1_method_25_code 56 = .ok (.aload_n 0, 1) := by decide +kernel
theorem dC_of_57 : decode prog_1_method_25_code 57 = .ok (.getfield 18, 3) := by decide +kernel
theorem dC_of_60 : decode prog_1_method_25_code 60 = .ok (.invokevirtual 50, 3) := by decide +kernel
theorem dC_of_63 : decode prog_1_method_25_code 63 = .ok (.ireturn, 1) := by decide +kernel
theorem dC_of_64 : decode prog_1_method_25_code 64 = .ok (.aload_n 0, 1) := by decide +kernel
theorem dC_of_65 : decode prog_1_method_25_code 65 = .ok (.getfield 37, 3) := by decide +kernel
theorem dC_of_68 : decode prog_1_method_25_code 68 = .ok (.invokevirtual 113, 3) := by decide +kernel
theorem dC_of_71 : decode prog_1_method_25_code 71 = .ok (.ireturn, 1) := by decide +kernel
theorem dC_of_72 : decode prog_1_method_25_code 72 = .ok (.aload_n 0, 1) := by decide +kernel
theorem dC_of_73 : decode prog_1_method_25_code 73 = .ok (.getfield 24, 3) := by decide +kernel
theorem dC_of_76 : decode prog_1_method_25_code 76 = .ok (.invokevirtual 50, 3) := by decide +kernel
theorem dC_of_79 : decode prog_1_method_25_code 79 = .ok (.ireturn, 1) := by decide +kernel
theorem dC_of_80 : decode prog_1_method_25_code 80 = .ok (.aload_n 0, 1) := by decide +kernel
theorem dC_of_81 : decode prog_1_method_25_code 81 = .ok (.getfield 21, 3) := by decide +kernel
theorem dC_of_84 : decode prog_1_method_25_code 84 = .ok (.invokevirtual 50, 3) := by decide +kernel
theorem dC_of_87 : decode prog_1_method_25_code 87 = .ok (.ireturn, 1) := by decide +kernel
theorem dC_of_88 : decode prog_1_method_25_code 88 = .ok (.aload_n 0, 1) := by decide +kernel
theorem dC_of_89 : decode prog_1_method_25_code 89 = .ok (.getfield 14, 3) := by decide +kernel
theorem dC_of_92 : decode prog_1_method_25_code 92 = .ok (.invokevirtual 102, 3) := by decide +kernel
theorem dC_of_95 : decode prog_1_method_25_code 95 = .ok (.ireturn, 1) := by decide +kernel
theorem dC_of_96 : decode prog_1_method_25_code 96 = .ok (.aload_n 0, 1) := by decide +kernel
theorem dC_of_97 : decode prog_1_method_25_code 97 = .ok (.getfield 18, 3) := by decide +kernel
theorem dC_of_100 : decode prog_1_method_25_code 100 = .ok (.invokevirtual 102, 3) := by decide +kernel
theorem dC_of_103 : decode prog_1_method_25_code 103 = .ok (.ireturn, 1) := by decide +kernel
theorem dC_of_104 : decode prog_1_method_25_code 104 = .ok (.aload_n 0, 1) := by decide +kernel
theorem dC_of_105 : decode prog_1_method_25_code 105 = .ok (.getfield 37, 3) := by decide +kernel
theorem dC_of_108 : decode prog_1_method_25_code 108 = .ok (.invokevirtual 161, 3) := by decide +kernel
theorem dC_of_111 : decode prog_1_method_25_code 111 = .ok (.ireturn, 1) := by decide +kernel
theorem dC_of_112 : decode prog_1_method_25_code 112 = .ok (.aload_n 0, 1) := by decide +kernel
theorem dC_of_113 : decode prog_1_method_25_code 113 = .ok (.getfield 30, 3) := by decide +kernel
theorem dC_of_116 : decode prog_1_method_25_code 116 = .ok (.iload_n 1, 1) := by decide +kernel
theorem dC_of_117 : decode prog_1_method_25_code 117 = .ok (.bipush 8, 2) := by decide +kernel
theorem dC_of_119 : decode prog_1_method_25_code 119 = .ok (.isub, 1) := by decide +kernel
theorem dC_of_120 : decode prog_1_method_25_code 120 = .ok (.invokevirtual 193, 3) := by decide +kernel
theorem dC_of_123 : decode prog_1_method_25_code 123 = .ok (.ireturn, 1) := by decide +kernel
theorem dC_at_0 : decode prog_1_method_26_code 0 = .ok (.iload_n 1, 1) := by decide +kernel
theorem dC_at_1 : decode prog_1_method_26_code 1 = .ok (.invokestatic 66, 3) := by decide +kernel
theorem dC_at_4 : decode prog_1_method_26_code 4 = .ok (.ifCond .eq 15, 3) := by decide +kernel
theorem dC_at_7 : decode prog_1_method_26_code 7 = .ok (.aload_n 0, 1) := by decide +kernel
theorem dC_at_8 : decode prog_1_method_26_code 8 = .ok (.iload_n 1, 1) := by decide +kernel
theorem dC_at_9 : decode prog_1_method_26_code 9 = .ok (.invokevirtual 73, 3) := by decide +kernel
theorem dC_at_12 : decode prog_1_method_26_code 12 = .ok (.iload_n 2, 1) := by decide +kernel
theorem dC_at_13 : decode prog_1_method_26_code 13 = .ok (.invokevirtual 125, 3) := by decide +kernel
theorem dC_at_16 : decode prog_1_method_26_code 16 = .ok (.ifCond .ne 6, 3) := by decide +kernel
theorem dC_at_19 : decode prog_1_method_26_code 19 = .ok (.bipush (-2), 2) := by decide +kernel
theorem dC_at_21 : decode prog_1_method_26_code 21 = .ok (.ireturn, 1) := by decide +kernel
theorem dC_at_22 : decode prog_1_method_26_code 22 = .ok (.aload_n 0, 1) := by decide +kernel
theorem dC_at_23 : decode prog_1_method_26_code 23 = .ok (.iload_n 1, 1) := by decide +kernel
theorem dC_at_24 : decode prog_1_method_26_code 24 = .ok (.invokevirtual 73, 3) := by decide +kernel
theorem dC_at_27 : decode prog_1_method_26_code 27 = .ok (.iload_n 2, 1) := by decide +kernel
theorem dC_at_28 : decode prog_1_method_26_code 28 = .ok (.invokevirtual 168, 3) := by decide +kernel
theorem dC_at_31 : decode prog_1_method_26_code 31 = .ok (.ireturn, 1) := by decide +kernel
end
section
theorem dM_costOf_47 : decode prog_7_method_11_code 47 = .ok (.ireturn, 1) := by decide +kernel
theorem dM_better_0 : decode prog_7_method_14_code 0 = .ok (.iload_n 3, 1) := by decide +kernel
theorem dM_better_1 : decode prog_7_method_14_code 1 = .ok (.aload_n 0, 1) := by decide +kernel
theorem dM_better_2 : decode prog_7_method_14_code 2 = .ok (.getfield 34, 3) := by decide +kernel
theorem dM_better_5 : decode prog_7_method_14_code 5 = .ok (.bipush 41, 2) := by decide +kernel
theorem dM_better_7 : decode prog_7_method_14_code 7 = .ok (.iload_n 1, 1) := by decide +kernel
theorem dM_better_8 : decode prog_7_method_14_code 8 = .ok (.imul, 1) := by decide +kernel
theorem dM_better_9 : decode prog_7_method_14_code 9 = .ok (.iload_n 2, 1) := by decide +kernel
theorem dM_better_10 : decode prog_7_method_14_code 10 = .ok (.iadd, 1) := by decide +kernel
theorem dM_better_11 : decode prog_7_method_14_code 11 = .ok (.iaload, 1) := by decide +kernel
theorem dM_better_12 : decode prog_7_method_14_code 12 = .ok (.if_icmp .ge 15, 3) := by decide +kernel
theorem dM_better_15 : decode prog_7_method_14_code 15 = .ok (.aload_n 0, 1) := by decide +kernel
theorem dM_better_16 : decode prog_7_method_14_code 16 = .ok (.getfield 34, 3) := by decide +kernel
theorem dM_better_19 : decode prog_7_method_14_code 19 = .ok (.bipush 41, 2) := by decide +kernel
theorem dM_better_21 : decode prog_7_method_14_code 21 = .ok (.iload_n 1, 1) := by decide +kernel
theorem dM_better_22 : decode prog_7_method_14_code 22 = .ok (.imul, 1) := by decide +kernel
theorem dM_better_23 : decode prog_7_method_14_code 23 = .ok (.iload_n 2, 1) := by decide +kernel
theorem dM_better_24 : decode prog_7_method_14_code 24 = .ok (.iadd, 1) := by decide +kernel
theorem dM_better_25 : decode prog_7_method_14_code 25 = .ok (.iload_n 3, 1) := by decide +kernel
theorem dM_better_26 : decode prog_7_method_14_code 26 = .ok (.iastore, 1) := by decide +kernel
theorem dM_better_27 : decode prog_7_method_14_code 27 = .ok (.return_, 1) := by decide +kernel
theorem dM_sumOf_0 : decode prog_7_method_6_code 0 = .ok (.iconst 1, 1) := by decide +kernel
theorem dM_sumOf_1 : decode prog_7_method_6_code 1 = .ok (.istore_n 2, 1) := by decide +kernel
theorem dM_sumOf_2 : decode prog_7_method_6_code 2 = .ok (.iconst 0, 1) := by decide +kernel
theorem dM_sumOf_3 : decode prog_7_method_6_code 3 = .ok (.istore_n 3, 1) := by decide +kernel
theorem dM_sumOf_4 : decode prog_7_method_6_code 4 = .ok (.iload_n 3, 1) := by decide +kernel
theorem dM_sumOf_5 : decode prog_7_method_6_code 5 = .ok (.aload_n 0, 1) := by decide +kernel
theorem dM_sumOf_6 : decode prog_7_method_6_code 6 = .ok (.getfield 13, 3) := by decide +kernel
theorem dM_sumOf_9 : decode prog_7_method_6_code 9 = .ok (.iload_n 1, 1) := by decide +kernel
theorem dM_sumOf_10 : decode prog_7_method_6_code 10 = .ok (.iaload, 1) := by decide +kernel
theorem dM_sumOf_11 : decode prog_7_method_6_code 11 = .ok (.if_icmp .ge 24, 3) := by decide +kernel
theorem dM_sumOf_14 : decode prog_7_method_6_code 14 = .ok (.bipush 31, 2) := by decide +kernel
theorem dM_sumOf_16 : decode prog_7_method_6_code 16 = .ok (.iload_n 2, 1) := by decide +kernel
theorem dM_sumOf_17 : decode prog_7_method_6_code 17 = .ok (.imul, 1) := by decide +kernel
theorem dM_sumOf_18 : decode prog_7_method_6_code 18 = .ok (.aload_n 0, 1) := by decide +kernel
theorem dM_sumOf_19 : decode prog_7_method_6_code 19 = .ok (.iload_n 1, 1) := by decide +kernel
theorem dM_sumOf_20 : decode prog_7_method_6_code 20 = .ok (.iload_n 3, 1) := by decide +kernel
theorem dM_sumOf_21 : decode prog_7_method_6_code 21 = .ok (.invokevirtual 72, 3) := by decide +kernel
theorem dM_sumOf_24 : decode prog_7_method_6_code 24 = .ok (.iadd, 1) := by decide +kernel
theorem dM_sumOf_25 : decode prog_7_method_6_code 25 = .ok (.ldc 76, 2) := by decide +kernel
theorem dM_sumOf_27 : decode prog_7_method_6_code 27 = .ok (.irem, 1) := by decide +kernel
theorem dM_sumOf_28 : decode prog_7_method_6_code 28 = .ok (.istore_n 2, 1) := by decide +kernel
theorem dM_sumOf_29 : decode prog_7_method_6_code 29 = .ok (.iinc 3 1, 3) := by decide +kernel
theorem dM_sumOf_32 : decode prog_7_method_6_code 32 = .ok (.goto (-28), 3) := by decide +kernel
theorem dM_sumOf_35 : decode prog_7_method_6_code 35 = .ok (.iload_n 2, 1) := by decide +kernel
theorem dM_sumOf_36 : decode prog_7_method_6_code 36 = .ok (.ireturn, 1) := by decide +kernel
theorem dM_find_0 : decode prog_7_method_15_code 0 = .ok (.aload_n 0, 1) := by decide +kernel
theorem dM_find_1 : decode prog_7_method_15_code 1 = .ok (.getfield 34, 3) := by decide +kernel
theorem dM_find_4 : decode prog_7_method_15_code 4 = .ok (.bipush 41, 2) := by decide +kernel
theorem dM_find_6 : decode prog_7_method_15_code 6 = .ok (.iload_n 1, 1) := by decide +kernel
theorem dM_find_7 : decode prog_7_method_15_code 7 = .ok (.imul, 1) := by decide +kernel
theorem dM_find_8 : decode prog_7_method_15_code 8 = .ok (.iload_n 2, 1) := by decide +kernel
theorem dM_find_9 : decode prog_7_method_15_code 9 = .ok (.iadd, 1) := by decide +kernel
theorem dM_find_10 : decode prog_7_method_15_code 10 = .ok (.iaload, 1) := by decide +kernel
theorem dM_find_11 : decode prog_7_method_15_code 11 = .ok (.istore_n 3, 1) := by decide +kernel
theorem dM_find_12 : decode prog_7_method_15_code 12 = .ok (.iconst 0, 1) := by decide +kernel
theorem dM_find_13 : decode prog_7_method_15_code 13 = .ok (.istore 4, 2) := by decide +kernel
theorem dM_find_15 : decode prog_7_method_15_code 15 = .ok (.iload 4, 2) := by decide +kernel
theorem dM_find_17 : decode prog_7_method_15_code 17 = .ok (.iconst 2, 1) := by decide +kernel
theorem dM_find_18 : decode prog_7_method_15_code 18 = .ok (.if_icmp .gt 180, 3) := by decide +kernel
theorem dM_find_21 : decode prog_7_method_15_code 21 = .ok (.aload_n 0, 1) := by decide +kernel
theorem dM_find_22 : decode prog_7_method_15_code 22 = .ok (.getfield 13, 3) := by decide +kernel
theorem dM_find_25 : decode prog_7_method_15_code 25 = .ok (.iconst 1, 1) := by decide +kernel
theorem dM_find_26 : decode prog_7_method_15_code 26 = .ok (.iaload, 1) := by decide +kernel
theorem dM_find_27 : decode prog_7_method_15_code 27 = .ok (.iload_n 1, 1) := by decide +kernel
theorem dM_find_28 : decode prog_7_method_15_code 28 = .ok (.isub, 1) := by decide +kernel
theorem dM_find_29 : decode prog_7_method_15_code 29 = .ok (.istore 5, 2) := by decide +kernel
theorem dM_find_31 : decode prog_7_method_15_code 31 = .ok (.iload 5, 2) := by decide +kernel
theorem dM_find_33 : decode prog_7_method_15_code 33 = .ok (.ifCond .le 159, 3) := by decide +kernel
theorem dM_find_36 : decode prog_7_method_15_code 36 = .ok (.iload 4, 2) := by decide +kernel
theorem dM_find_38 : decode prog_7_method_15_code 38 = .ok (.ifCond .ne 12, 3) := by decide +kernel
theorem dM_find_41 : decode prog_7_method_15_code 41 = .ok (.aload_n 0, 1) := by decide +kernel
theorem dM_find_42 : decode prog_7_method_15_code 42 = .ok (.getfield 13, 3) := by decide +kernel
theorem dM_find_45 : decode prog_7_method_15_code 45 = .ok (.iconst 0, 1) := by decide +kernel
theorem dM_find_46 : decode prog_7_method_15_code 46 = .ok (.iaload, 1) := by decide +kernel
theorem dM_find_47 : decode prog_7_method_15_code 47 = .ok (.goto 14, 3) := by decide +kernel
theorem dM_find_50 : decode prog_7_method_15_code 50 = .ok (.iload 4, 2) := by decide +kernel
theorem dM_find_52 : decode prog_7_method_15_code 52 = .ok (.iconst 1, 1) := by decide +kernel
theorem dM_find_53 : decode prog_7_method_15_code 53 = .ok (.if_icmp .ne 7, 3) := by decide +kernel
theorem dM_find_56 : decode prog_7_method_15_code 56 = .ok (.iload_n 1, 1) := by decide +kernel
theorem dM_find_57 : decode prog_7_method_15_code 57 = .ok (.goto 4, 3) := by decide +kernel
theorem dM_find_60 : decode prog_7_method_15_code 60 = .ok (.iconst 1, 1) := by decide +kernel
theorem dM_find_61 : decode prog_7_method_15_code 61 = .ok (.istore 6, 2) := by decide +kernel
theorem dM_find_63 : decode prog_7_method_15_code 63 = .ok (.iconst 0, 1) := by decide +kernel
theorem dM_find_64 : decode prog_7_method_15_code 64 = .ok (.istore 7, 2) := by decide +kernel
theorem dM_find_66 : decode prog_7_method_15_code 66 = .ok (.iload 7, 2) := by decide +kernel
theorem dM_find_68 : decode prog_7_method_15_code 68 = .ok (.iload 6, 2) := by decide +kernel
theorem dM_find_70 : decode prog_7_method_15_code 70 = .ok (.if_icmp .ge 116, 3) := by decide +kernel
theorem dM_find_73 : decode prog_7_method_15_code 73 = .ok (.iload 4, 2) := by decide +kernel
theorem dM_find_75 : decode prog_7_method_15_code 75 = .ok (.iconst 2, 1) := by decide +kernel
theorem dM_find_76 : decode prog_7_method_15_code 76 = .ok (.if_icmp .eq 17, 3) := by decide +kernel
theorem dM_find_79 : decode prog_7_method_15_code 79 = .ok (.aload_n 0, 1) := by decide +kernel
theorem dM_find_80 : decode prog_7_method_15_code 80 = .ok (.iload 4, 2) := by decide +kernel
theorem dM_find_82 : decode prog_7_method_15_code 82 = .ok (.iload 7, 2) := by decide +kernel
theorem dM_find_84 : decode prog_7_method_15_code 84 = .ok (.iload_n 1, 1) := by decide +kernel
theorem dM_find_85 : decode prog_7_method_15_code 85 = .ok (.invokevirtual 82, 3) := by decide +kernel
theorem dM_find_88 : decode prog_7_method_15_code 88 = .ok (.iload 5, 2) := by decide +kernel
theorem dM_find_90 : decode prog_7_method_15_code 90 = .ok (.if_icmp .lt 7, 3) := by decide +kernel
theorem dM_find_93 : decode prog_7_method_15_code 93 = .ok (.iconst 1, 1) := by decide +kernel
theorem dM_find_94 : decode prog_7_method_15_code 94 = .ok (.goto 4, 3) := by decide +kernel
theorem dM_find_97 : decode prog_7_method_15_code 97 = .ok (.iconst 0, 1) := by decide +kernel
theorem dM_find_98 : decode prog_7_method_15_code 98 = .ok (.istore 8, 2) := by decide +kernel
theorem dM_find_100 : decode prog_7_method_15_code 100 = .ok (.iload 8, 2) := by decide +kernel
theorem dM_find_102 : decode prog_7_method_15_code 102 = .ok (.ifCond .eq 28, 3) := by decide +kernel
theorem dM_find_105 : decode prog_7_method_15_code 105 = .ok (.bipush 41, 2) := by decide +kernel
theorem dM_find_107 : decode prog_7_method_15_code 107 = .ok (.iload_n 1, 1) := by decide +kernel
theorem dM_find_108 : decode prog_7_method_15_code 108 = .ok (.iload 5, 2) := by decide +kernel
theorem dM_find_110 : decode prog_7_method_15_code 110 = .ok (.iadd, 1) := by decide +kernel
theorem dM_find_111 : decode prog_7_method_15_code 111 = .ok (.imul, 1) := by decide +kernel
theorem dM_find_112 : decode prog_7_method_15_code 112 = .ok (.iload 4, 2) := by decide +kernel
theorem dM_find_114 : decode prog_7_method_15_code 114 = .ok (.ifCond .ne 11, 3) := by decide +kernel
theorem dM_find_117 : decode prog_7_method_15_code 117 = .ok (.iload 7, 2) := by decide +kernel
theorem dM_find_119 : decode prog_7_method_15_code 119 = .ok (.iload 5, 2) := by decide +kernel
theorem dM_find_121 : decode prog_7_method_15_code 121 = .ok (.iadd, 1) := by decide +kernel
theorem dM_find_122 : decode prog_7_method_15_code 122 = .ok (.goto 4, 3) := by decide +kernel
theorem dM_find_125 : decode prog_7_method_15_code 125 = .ok (.iload_n 2, 1) := by decide +kernel
theorem dM_find_126 : decode prog_7_method_15_code 126 = .ok (.iadd, 1) := by decide +kernel
theorem dM_find_127 : decode prog_7_method_15_code 127 = .ok (.goto 4, 3) := by decide +kernel
theorem dM_find_130 : decode prog_7_method_15_code 130 = .ok (.iconst 0, 1) := by decide +kernel
theorem dM_find_131 : decode prog_7_method_15_code 131 = .ok (.istore 9, 2) := by decide +kernel
theorem dM_find_133 : decode prog_7_method_15_code 133 = .ok (.iload 8, 2) := by decide +kernel
theorem dM_find_135 : decode prog_7_method_15_code 135 = .ok (.ifCond .eq 45, 3) := by decide +kernel
theorem dM_find_138 : decode prog_7_method_15_code 138 = .ok (.aload_n 0, 1) := by decide +kernel
theorem dM_find_139 : decode prog_7_method_15_code 139 = .ok (.iload 4, 2) := by decide +kernel
theorem dM_find_141 : decode prog_7_method_15_code 141 = .ok (.iload 7, 2) := by decide +kernel
theorem dM_find_143 : decode prog_7_method_15_code 143 = .ok (.iload 5, 2) := by decide +kernel
theorem dM_find_145 : decode prog_7_method_15_code 145 = .ok (.iload_n 2, 1) := by decide +kernel
theorem dM_find_146 : decode prog_7_method_15_code 146 = .ok (.invokevirtual 86, 3) := by decide +kernel
theorem dM_find_149 : decode prog_7_method_15_code 149 = .ok (.aload_n 0, 1) := by decide +kernel
theorem dM_find_150 : decode prog_7_method_15_code 150 = .ok (.getfield 34, 3) := by decide +kernel
theorem dM_find_153 : decode prog_7_method_15_code 153 = .ok (.iload 9, 2) := by decide +kernel
theorem dM_find_155 : decode prog_7_method_15_code 155 = .ok (.iaload, 1) := by decide +kernel
theorem dM_find_156 : decode prog_7_method_15_code 156 = .ok (.iadd, 1) := by decide +kernel
theorem dM_find_157 : decode prog_7_method_15_code 157 = .ok (.iload_n 3, 1) := by decide +kernel
theorem dM_find_158 : decode prog_7_method_15_code 158 = .ok (.if_icmp .ne 22, 3) := by decide +kernel
theorem dM_find_161 : decode prog_7_method_15_code 161 = .ok (.aload_n 0, 1) := by decide +kernel
theorem dM_find_162 : decode prog_7_method_15_code 162 = .ok (.iload 4, 2) := by decide +kernel
theorem dM_find_164 : decode prog_7_method_15_code 164 = .ok (.putfield 94, 3) := by decide +kernel
theorem dM_find_167 : decode prog_7_method_15_code 167 = .ok (.aload_n 0, 1) := by decide +kernel
theorem dM_find_168 : decode prog_7_method_15_code 168 = .ok (.iload 7, 2) := by decide +kernel
theorem dM_find_170 : decode prog_7_method_15_code 170 = .ok (.putfield 97, 3) := by decide +kernel
theorem dM_find_173 : decode prog_7_method_15_code 173 = .ok (.aload_n 0, 1) := by decide +kernel
theorem dM_find_174 : decode prog_7_method_15_code 174 = .ok (.iload 5, 2) := by decide +kernel
theorem dM_find_176 : decode prog_7_method_15_code 176 = .ok (.putfield 100, 3) := by decide +kernel
theorem dM_find_179 : decode prog_7_method_15_code 179 = .ok (.return_, 1) := by decide +kernel
theorem dM_find_180 : decode prog_7_method_15_code 180 = .ok (.iinc 7 1, 3) := by decide +kernel
theorem dM_find_183 : decode prog_7_method_15_code 183 = .ok (.goto (-117), 3) := by decide +kernel
theorem dM_find_186 : decode prog_7_method_15_code 186 = .ok (.iinc 5 (-1), 3) := by decide +kernel
theorem dM_find_189 : decode prog_7_method_15_code 189 = .ok (.goto (-158), 3) := by decide +kernel
theorem dM_find_192 : decode prog_7_method_15_code 192 = .ok (.iinc 4 1, 3) := by decide +kernel
theorem dM_find_195 : decode prog_7_method_15_code 195 = .ok (.goto (-180), 3) := by decide +kernel
theorem dM_find_198 : decode prog_7_method_15_code 198 = .ok (.return_, 1) := by decide +kernel
theorem dM_cost_0 : decode prog_7_method_19_code 0 = .ok (.iconst 0, 1) := by decide +kernel
theorem dM_cost_1 : decode prog_7_method_19_code 1 = .ok (.istore_n 1, 1) := by decide +kernel
theorem dM_cost_2 : decode prog_7_method_19_code 2 = .ok (.iconst 0, 1) := by decide +kernel
theorem dM_cost_3 : decode prog_7_method_19_code 3 = .ok (.istore_n 2, 1) := by decide +kernel
theorem dM_cost_4 : decode prog_7_method_19_code 4 = .ok (.iload_n 2, 1) := by decide +kernel
theorem dM_cost_5 : decode prog_7_method_19_code 5 = .ok (.aload_n 0, 1) := by decide +kernel
theorem dM_cost_6 : decode prog_7_method_19_code 6 = .ok (.getfield 56, 3) := by decide +kernel
theorem dM_cost_9 : decode prog_7_method_19_code 9 = .ok (.if_icmp .ge 17, 3) := by decide +kernel
theorem dM_cost_12 : decode prog_7_method_19_code 12 = .ok (.iload_n 1, 1) := by decide +kernel
theorem dM_cost_13 : decode prog_7_method_19_code 13 = .ok (.aload_n 0, 1) := by decide +kernel
theorem dM_cost_14 : decode prog_7_method_19_code 14 = .ok (.iload_n 2, 1) := by decide +kernel
theorem dM_cost_15 : decode prog_7_method_19_code 15 = .ok (.invokevirtual 117, 3) := by decide +kernel
theorem dM_cost_18 : decode prog_7_method_19_code 18 = .ok (.iadd, 1) := by decide +kernel
theorem dM_cost_19 : decode prog_7_method_19_code 19 = .ok (.istore_n 1, 1) := by decide +kernel
theorem dM_cost_20 : decode prog_7_method_19_code 20 = .ok (.iinc 2 1, 3) := by decide +kernel
theorem dM_cost_23 : decode prog_7_method_19_code 23 = .ok (.goto (-19), 3) := by decide +kernel
theorem dM_cost_26 : decode prog_7_method_19_code 26 = .ok (.iload_n 1, 1) := by decide +kernel
theorem dM_cost_27 : decode prog_7_method_19_code 27 = .ok (.ireturn, 1) := by decide +kernel
theorem dM_costAt_0 : decode prog_7_method_18_code 0 = .ok (.aload_n 0, 1) := by decide +kernel
theorem dM_costAt_1 : decode prog_7_method_18_code 1 = .ok (.aload_n 0, 1) := by decide +kernel
theorem dM_costAt_2 : decode prog_7_method_18_code 2 = .ok (.getfield 16, 3) := by decide +kernel
theorem dM_costAt_5 : decode prog_7_method_18_code 5 = .ok (.iload_n 1, 1) := by decide +kernel
theorem dM_costAt_6 : decode prog_7_method_18_code 6 = .ok (.iaload, 1) := by decide +kernel
theorem dM_costAt_7 : decode prog_7_method_18_code 7 = .ok (.aload_n 0, 1) := by decide +kernel
theorem dM_costAt_8 : decode prog_7_method_18_code 8 = .ok (.getfield 19, 3) := by decide +kernel
theorem dM_costAt_11 : decode prog_7_method_18_code 11 = .ok (.iload_n 1, 1) := by decide +kernel
theorem dM_costAt_12 : decode prog_7_method_18_code 12 = .ok (.iaload, 1) := by decide +kernel
theorem dM_costAt_13 : decode prog_7_method_18_code 13 = .ok (.aload_n 0, 1) := by decide +kernel
theorem dM_costAt_14 : decode prog_7_method_18_code 14 = .ok (.getfield 22, 3) := by decide +kernel
theorem dM_costAt_17 : decode prog_7_method_18_code 17 = .ok (.iload_n 1, 1) := by decide +kernel
theorem dM_costAt_18 : decode prog_7_method_18_code 18 = .ok (.iaload, 1) := by decide +kernel
theorem dM_costAt_19 : decode prog_7_method_18_code 19 = .ok (.aload_n 0, 1) := by decide +kernel
theorem dM_costAt_20 : decode prog_7_method_18_code 20 = .ok (.iload_n 1, 1) := by decide +kernel
theorem dM_costAt_21 : decode prog_7_method_18_code 21 = .ok (.invokevirtual 114, 3) := by decide +kernel
theorem dM_costAt_24 : decode prog_7_method_18_code 24 = .ok (.invokevirtual 86, 3) := by decide +kernel
theorem dM_costAt_27 : decode prog_7_method_18_code 27 = .ok (.ireturn, 1) := by decide +kernel
theorem dM_spotOf_0 : decode prog_7_method_17_code 0 = .ok (.iconst 0, 1) := by decide +kernel
theorem dM_spotOf_1 : decode prog_7_method_17_code 1 = .ok (.istore_n 2, 1) := by decide +kernel
theorem dM_spotOf_2 : decode prog_7_method_17_code 2 = .ok (.iconst 0, 1) := by decide +kernel
theorem dM_spotOf_3 : decode prog_7_method_17_code 3 = .ok (.istore_n 3, 1) := by decide +kernel
theorem dM_spotOf_4 : decode prog_7_method_17_code 4 = .ok (.iload_n 3, 1) := by decide +kernel
theorem dM_spotOf_5 : decode prog_7_method_17_code 5 = .ok (.iload_n 1, 1) := by decide +kernel
theorem dM_spotOf_6 : decode prog_7_method_17_code 6 = .ok (.if_icmp .ge 36, 3) := by decide +kernel
theorem dM_spotOf_9 : decode prog_7_method_17_code 9 = .ok (.aload_n 0, 1) := by decide +kernel
theorem dM_spotOf_10 : decode prog_7_method_17_code 10 = .ok (.getfield 16, 3) := by decide +kernel
theorem dM_spotOf_13 : decode prog_7_method_17_code 13 = .ok (.iload_n 3, 1) := by decide +kernel
theorem dM_spotOf_14 : decode prog_7_method_17_code 14 = .ok (.iaload, 1) := by decide +kernel
theorem dM_spotOf_15 : decode prog_7_method_17_code 15 = .ok (.ifCond .ne 19, 3) := by decide +kernel
theorem dM_spotOf_18 : decode prog_7_method_17_code 18 = .ok (.aload_n 0, 1) := by decide +kernel
theorem dM_spotOf_19 : decode prog_7_method_17_code 19 = .ok (.getfield 19, 3) := by decide +kernel
theorem dM_spotOf_22 : decode prog_7_method_17_code 22 = .ok (.iload_n 3, 1) := by decide +kernel
theorem dM_spotOf_23 : decode prog_7_method_17_code 23 = .ok (.iaload, 1) := by decide +kernel
theorem dM_spotOf_24 : decode prog_7_method_17_code 24 = .ok (.aload_n 0, 1) := by decide +kernel
theorem dM_spotOf_25 : decode prog_7_method_17_code 25 = .ok (.getfield 22, 3) := by decide +kernel
theorem dM_spotOf_28 : decode prog_7_method_17_code 28 = .ok (.iload_n 3, 1) := by decide +kernel
theorem dM_spotOf_29 : decode prog_7_method_17_code 29 = .ok (.iaload, 1) := by decide +kernel
theorem dM_spotOf_30 : decode prog_7_method_17_code 30 = .ok (.iadd, 1) := by decide +kernel
theorem dM_spotOf_31 : decode prog_7_method_17_code 31 = .ok (.goto 4, 3) := by decide +kernel
theorem dM_spotOf_34 : decode prog_7_method_17_code 34 = .ok (.iload_n 2, 1) := by decide +kernel
theorem dM_spotOf_35 : decode prog_7_method_17_code 35 = .ok (.istore_n 2, 1) := by decide +kernel
theorem dM_spotOf_36 : decode prog_7_method_17_code 36 = .ok (.iinc 3 1, 3) := by decide +kernel
theorem dM_spotOf_39 : decode prog_7_method_17_code 39 = .ok (.goto (-35), 3) := by decide +kernel
theorem dM_spotOf_42 : decode prog_7_method_17_code 42 = .ok (.iload_n 2, 1) := by decide +kernel
theorem dM_spotOf_43 : decode prog_7_method_17_code 43 = .ok (.ireturn, 1) := by decide +kernel
theorem dM_rest_0 : decode prog_7_method_20_code 0 = .ok (.iload_n 1, 1) := by decide +kernel
theorem dM_rest_1 : decode prog_7_method_20_code 1 = .ok (.iconst 0, 1) := by decide +kernel
theorem dM_rest_2 : decode prog_7_method_20_code 2 = .ok (.aload_n 0, 1) := by decide +kernel
theorem dM_rest_3 : decode prog_7_method_20_code 3 = .ok (.getfield 13, 3) := by decide +kernel
theorem dM_rest_6 : decode prog_7_method_20_code 6 = .ok (.iconst 1, 1) := by decide +kernel
theorem dM_rest_7 : decode prog_7_method_20_code 7 = .ok (.iaload, 1) := by decide +kernel
theorem dM_rest_8 : decode prog_7_method_20_code 8 = .ok (.invokestatic 77, 3) := by decide +kernel
theorem dM_rest_11 : decode prog_7_method_20_code 11 = .ok (.ifCond .eq 17, 3) := by decide +kernel
theorem dM_rest_14 : decode prog_7_method_20_code 14 = .ok (.iload_n 2, 1) := by decide +kernel
theorem dM_rest_15 : decode prog_7_method_20_code 15 = .ok (.iconst 0, 1) := by decide +kernel
theorem dM_rest_16 : decode prog_7_method_20_code 16 = .ok (.aload_n 0, 1) := by decide +kernel
theorem dM_rest_17 : decode prog_7_method_20_code 17 = .ok (.getfield 13, 3) := by decide +kernel
theorem dM_rest_20 : decode prog_7_method_20_code 20 = .ok (.iconst 0, 1) := by decide +kernel
theorem dM_rest_21 : decode prog_7_method_20_code 21 = .ok (.iaload, 1) := by decide +kernel
theorem dM_rest_22 : decode prog_7_method_20_code 22 = .ok (.invokestatic 77, 3) := by decide +kernel
theorem dM_rest_25 : decode prog_7_method_20_code 25 = .ok (.ifCond .ne 6, 3) := by decide +kernel
theorem dM_rest_28 : decode prog_7_method_20_code 28 = .ok (.bipush (-2), 2) := by decide +kernel
theorem dM_rest_30 : decode prog_7_method_20_code 30 = .ok (.ireturn, 1) := by decide +kernel
theorem dM_rest_31 : decode prog_7_method_20_code 31 = .ok (.aload_n 0, 1) := by decide +kernel
theorem dM_rest_32 : decode prog_7_method_20_code 32 = .ok (.invokevirtual 103, 3) := by decide +kernel
theorem dM_rest_35 : decode prog_7_method_20_code 35 = .ok (.aload_n 0, 1) := by decide +kernel
theorem dM_rest_36 : decode prog_7_method_20_code 36 = .ok (.getfield 34, 3) := by decide +kernel
theorem dM_rest_39 : decode prog_7_method_20_code 39 = .ok (.bipush 41, 2) := by decide +kernel
theorem dM_rest_41 : decode prog_7_method_20_code 41 = .ok (.iload_n 1, 1) := by decide +kernel
theorem dM_rest_42 : decode prog_7_method_20_code 42 = .ok (.imul, 1) := by decide +kernel
theorem dM_rest_43 : decode prog_7_method_20_code 43 = .ok (.iload_n 2, 1) := by decide +kernel
theorem dM_rest_44 : decode prog_7_method_20_code 44 = .ok (.iadd, 1) := by decide +kernel
theorem dM_rest_45 : decode prog_7_method_20_code 45 = .ok (.iaload, 1) := by decide +kernel
theorem dM_rest_46 : decode prog_7_method_20_code 46 = .ok (.ireturn, 1) := by decide +kernel
theorem dM_match_0 : decode prog_7_method_21_code 0 = .ok (.iload_n 1, 1) := by decide +kernel
theorem dM_match_1 : decode prog_7_method_21_code 1 = .ok (.iconst 0, 1) := by decide +kernel
theorem dM_match_2 : decode prog_7_method_21_code 2 = .ok (.iconst 1, 1) := by decide +kernel
theorem dM_match_3 : decode prog_7_method_21_code 3 = .ok (.invokestatic 77, 3) := by decide +kernel
theorem dM_match_6 : decode prog_7_method_21_code 6 = .ok (.ifCond .eq 35, 3) := by decide +kernel
theorem dM_match_9 : decode prog_7_method_21_code 9 = .ok (.iload_n 2, 1) := by decide +kernel
theorem dM_match_10 : decode prog_7_method_21_code 10 = .ok (.iconst 0, 1) := by decide +kernel
theorem dM_match_11 : decode prog_7_method_21_code 11 = .ok (.aload_n 0, 1) := by decide +kernel
theorem dM_match_12 : decode prog_7_method_21_code 12 = .ok (.getfield 13, 3) := by decide +kernel
theorem dM_match_15 : decode prog_7_method_21_code 15 = .ok (.iload_n 1, 1) := by decide +kernel
theorem dM_match_16 : decode prog_7_method_21_code 16 = .ok (.iaload, 1) := by decide +kernel
theorem dM_match_17 : decode prog_7_method_21_code 17 = .ok (.iconst 1, 1) := by decide +kernel
theorem dM_match_18 : decode prog_7_method_21_code 18 = .ok (.isub, 1) := by decide +kernel
theorem dM_match_19 : decode prog_7_method_21_code 19 = .ok (.invokestatic 77, 3) := by decide +kernel
theorem dM_match_22 : decode prog_7_method_21_code 22 = .ok (.ifCond .eq 19, 3) := by decide +kernel
theorem dM_match_25 : decode prog_7_method_21_code 25 = .ok (.iload_n 3, 1) := by decide +kernel
theorem dM_match_26 : decode prog_7_method_21_code 26 = .ok (.iconst 0, 1) := by decide +kernel
theorem dM_match_27 : decode prog_7_method_21_code 27 = .ok (.aload_n 0, 1) := by decide +kernel
theorem dM_match_28 : decode prog_7_method_21_code 28 = .ok (.getfield 13, 3) := by decide +kernel
theorem dM_match_31 : decode prog_7_method_21_code 31 = .ok (.iconst 1, 1) := by decide +kernel
theorem dM_match_32 : decode prog_7_method_21_code 32 = .ok (.iaload, 1) := by decide +kernel
theorem dM_match_33 : decode prog_7_method_21_code 33 = .ok (.iconst 1, 1) := by decide +kernel
theorem dM_match_34 : decode prog_7_method_21_code 34 = .ok (.isub, 1) := by decide +kernel
theorem dM_match_35 : decode prog_7_method_21_code 35 = .ok (.invokestatic 77, 3) := by decide +kernel
theorem dM_match_38 : decode prog_7_method_21_code 38 = .ok (.ifCond .ne 6, 3) := by decide +kernel
theorem dM_match_41 : decode prog_7_method_21_code 41 = .ok (.bipush (-2), 2) := by decide +kernel
theorem dM_match_43 : decode prog_7_method_21_code 43 = .ok (.ireturn, 1) := by decide +kernel
theorem dM_match_44 : decode prog_7_method_21_code 44 = .ok (.aload_n 0, 1) := by decide +kernel
theorem dM_match_45 : decode prog_7_method_21_code 45 = .ok (.iload_n 1, 1) := by decide +kernel
theorem dM_match_46 : decode prog_7_method_21_code 46 = .ok (.iload_n 2, 1) := by decide +kernel
theorem dM_match_47 : decode prog_7_method_21_code 47 = .ok (.iload_n 3, 1) := by decide +kernel
theorem dM_match_48 : decode prog_7_method_21_code 48 = .ok (.invokevirtual 82, 3) := by decide +kernel
theorem dM_match_51 : decode prog_7_method_21_code 51 = .ok (.ireturn, 1) := by decide +kernel
theorem dM_act_0 : decode prog_7_method_22_code 0 = .ok (.iload_n 1, 1) := by decide +kernel
theorem dM_act_1 : decode prog_7_method_22_code 1 = .ok (.iconst 0, 1) := by decide +kernel
theorem dM_act_2 : decode prog_7_method_22_code 2 = .ok (.aload_n 0, 1) := by decide +kernel
theorem dM_act_3 : decode prog_7_method_22_code 3 = .ok (.getfield 56, 3) := by decide +kernel
theorem dM_act_6 : decode prog_7_method_22_code 6 = .ok (.iconst 1, 1) := by decide +kernel
theorem dM_act_7 : decode prog_7_method_22_code 7 = .ok (.isub, 1) := by decide +kernel
theorem dM_act_8 : decode prog_7_method_22_code 8 = .ok (.invokestatic 77, 3) := by decide +kernel
theorem dM_act_11 : decode prog_7_method_22_code 11 = .ok (.ifCond .eq 12, 3) := by decide +kernel
theorem dM_act_14 : decode prog_7_method_22_code 14 = .ok (.iload_n 2, 1) := by decide +kernel
theorem dM_act_15 : decode prog_7_method_22_code 15 = .ok (.iconst 0, 1) := by decide +kernel
theorem dM_act_16 : decode prog_7_method_22_code 16 = .ok (.iconst 4, 1) := by decide +kernel
theorem dM_act_17 : decode prog_7_method_22_code 17 = .ok (.invokestatic 77, 3) := by decide +kernel
theorem dM_act_20 : decode prog_7_method_22_code 20 = .ok (.ifCond .ne 6, 3) := by decide +kernel
theorem dM_act_23 : decode prog_7_method_22_code 23 = .ok (.bipush (-2), 2) := by decide +kernel
theorem dM_act_25 : decode prog_7_method_22_code 25 = .ok (.ireturn, 1) := by decide +kernel
theorem dM_act_26 : decode prog_7_method_22_code 26 = .ok (.iload_n 2, 1) := by decide +kernel
theorem dM_act_27 : decode prog_7_method_22_code 27 = .ok (.tableswitch 70 0 3 #[29, 36, 43, 64], 29) := by decide +kernel
theorem dM_act_56 : decode prog_7_method_22_code 56 = .ok (.aload_n 0, 1) := by decide +kernel
theorem dM_act_57 : decode prog_7_method_22_code 57 = .ok (.getfield 16, 3) := by decide +kernel
theorem dM_act_60 : decode prog_7_method_22_code 60 = .ok (.iload_n 1, 1) := by decide +kernel
theorem dM_act_61 : decode prog_7_method_22_code 61 = .ok (.iaload, 1) := by decide +kernel
theorem dM_act_62 : decode prog_7_method_22_code 62 = .ok (.ireturn, 1) := by decide +kernel
theorem dM_act_63 : decode prog_7_method_22_code 63 = .ok (.aload_n 0, 1) := by decide +kernel
theorem dM_act_64 : decode prog_7_method_22_code 64 = .ok (.getfield 22, 3) := by decide +kernel
theorem dM_act_67 : decode prog_7_method_22_code 67 = .ok (.iload_n 1, 1) := by decide +kernel
theorem dM_act_68 : decode prog_7_method_22_code 68 = .ok (.iaload, 1) := by decide +kernel
theorem dM_act_69 : decode prog_7_method_22_code 69 = .ok (.ireturn, 1) := by decide +kernel
theorem dM_act_70 : decode prog_7_method_22_code 70 = .ok (.aload_n 0, 1) := by decide +kernel
theorem dM_act_71 : decode prog_7_method_22_code 71 = .ok (.getfield 16, 3) := by decide +kernel
theorem dM_act_74 : decode prog_7_method_22_code 74 = .ok (.iload_n 1, 1) := by decide +kernel
theorem dM_act_75 : decode prog_7_method_22_code 75 = .ok (.iaload, 1) := by decide +kernel
theorem dM_act_76 : decode prog_7_method_22_code 76 = .ok (.iconst 2, 1) := by decide +kernel
theorem dM_act_77 : decode prog_7_method_22_code 77 = .ok (.if_icmp .ne 7, 3) := by decide +kernel
theorem dM_act_80 : decode prog_7_method_22_code 80 = .ok (.iconst (-1), 1) := by decide +kernel
theorem dM_act_81 : decode prog_7_method_22_code 81 = .ok (.goto 9, 3) := by decide +kernel
theorem dM_act_84 : decode prog_7_method_22_code 84 = .ok (.aload_n 0, 1) := by decide +kernel
theorem dM_act_85 : decode prog_7_method_22_code 85 = .ok (.getfield 19, 3) := by decide +kernel
theorem dM_act_88 : decode prog_7_method_22_code 88 = .ok (.iload_n 1, 1) := by decide +kernel
theorem dM_act_89 : decode prog_7_method_22_code 89 = .ok (.iaload, 1) := by decide +kernel
theorem dM_act_90 : decode prog_7_method_22_code 90 = .ok (.ireturn, 1) := by decide +kernel
theorem dM_act_91 : decode prog_7_method_22_code 91 = .ok (.aload_n 0, 1) := by decide +kernel
theorem dM_act_92 : decode prog_7_method_22_code 92 = .ok (.iload_n 1, 1) := by decide +kernel
theorem dM_act_93 : decode prog_7_method_22_code 93 = .ok (.invokevirtual 114, 3) := by decide +kernel
theorem dM_act_96 : decode prog_7_method_22_code 96 = .ok (.ireturn, 1) := by decide +kernel
theorem dM_act_97 : decode prog_7_method_22_code 97 = .ok (.aload_n 0, 1) := by decide +kernel
theorem dM_act_98 : decode prog_7_method_22_code 98 = .ok (.iload_n 1, 1) := by decide +kernel
theorem dM_act_99 : decode prog_7_method_22_code 99 = .ok (.invokevirtual 117, 3) := by decide +kernel
theorem dM_act_102 : decode prog_7_method_22_code 102 = .ok (.ireturn, 1) := by decide +kernel
theorem dM_laid_0 : decode prog_7_method_23_code 0 = .ok (.iload_n 1, 1) := by decide +kernel
theorem dM_laid_1 : decode prog_7_method_23_code 1 = .ok (.iconst 0, 1) := by decide +kernel
theorem dM_laid_2 : decode prog_7_method_23_code 2 = .ok (.aload_n 0, 1) := by decide +kernel
theorem dM_laid_3 : decode prog_7_method_23_code 3 = .ok (.getfield 56, 3) := by decide +kernel
theorem dM_laid_6 : decode prog_7_method_23_code 6 = .ok (.iconst 1, 1) := by decide +kernel
theorem dM_laid_7 : decode prog_7_method_23_code 7 = .ok (.isub, 1) := by decide +kernel
theorem dM_laid_8 : decode prog_7_method_23_code 8 = .ok (.invokestatic 77, 3) := by decide +kernel
theorem dM_laid_11 : decode prog_7_method_23_code 11 = .ok (.ifCond .eq 43, 3) := by decide +kernel
theorem dM_laid_14 : decode prog_7_method_23_code 14 = .ok (.aload_n 0, 1) := by decide +kernel
theorem dM_laid_15 : decode prog_7_method_23_code 15 = .ok (.getfield 16, 3) := by decide +kernel
theorem dM_laid_18 : decode prog_7_method_23_code 18 = .ok (.iload_n 1, 1) := by decide +kernel
theorem dM_laid_19 : decode prog_7_method_23_code 19 = .ok (.iaload, 1) := by decide +kernel
theorem dM_laid_20 : decode prog_7_method_23_code 20 = .ok (.iconst 2, 1) := by decide +kernel
theorem dM_laid_21 : decode prog_7_method_23_code 21 = .ok (.if_icmp .ne 33, 3) := by decide +kernel
theorem dM_laid_24 : decode prog_7_method_23_code 24 = .ok (.iload_n 2, 1) := by decide +kernel
theorem dM_laid_25 : decode prog_7_method_23_code 25 = .ok (.iconst 0, 1) := by decide +kernel
theorem dM_laid_26 : decode prog_7_method_23_code 26 = .ok (.aload_n 0, 1) := by decide +kernel
theorem dM_laid_27 : decode prog_7_method_23_code 27 = .ok (.getfield 22, 3) := by decide +kernel
theorem dM_laid_30 : decode prog_7_method_23_code 30 = .ok (.iload_n 1, 1) := by decide +kernel
theorem dM_laid_31 : decode prog_7_method_23_code 31 = .ok (.iaload, 1) := by decide +kernel
theorem dM_laid_32 : decode prog_7_method_23_code 32 = .ok (.iconst 1, 1) := by decide +kernel
theorem dM_laid_33 : decode prog_7_method_23_code 33 = .ok (.isub, 1) := by decide +kernel
theorem dM_laid_34 : decode prog_7_method_23_code 34 = .ok (.invokestatic 77, 3) := by decide +kernel
theorem dM_laid_37 : decode prog_7_method_23_code 37 = .ok (.ifCond .eq 17, 3) := by decide +kernel
theorem dM_laid_40 : decode prog_7_method_23_code 40 = .ok (.aload_n 0, 1) := by decide +kernel
theorem dM_laid_41 : decode prog_7_method_23_code 41 = .ok (.getfield 25, 3) := by decide +kernel
theorem dM_laid_44 : decode prog_7_method_23_code 44 = .ok (.bipush 40, 2) := by decide +kernel
theorem dM_laid_46 : decode prog_7_method_23_code 46 = .ok (.iload_n 1, 1) := by decide +kernel
theorem dM_laid_47 : decode prog_7_method_23_code 47 = .ok (.imul, 1) := by decide +kernel
theorem dM_laid_48 : decode prog_7_method_23_code 48 = .ok (.iload_n 2, 1) := by decide +kernel
theorem dM_laid_49 : decode prog_7_method_23_code 49 = .ok (.iadd, 1) := by decide +kernel
theorem dM_laid_50 : decode prog_7_method_23_code 50 = .ok (.iaload, 1) := by decide +kernel
theorem dM_laid_51 : decode prog_7_method_23_code 51 = .ok (.goto 5, 3) := by decide +kernel
theorem dM_laid_54 : decode prog_7_method_23_code 54 = .ok (.bipush (-2), 2) := by decide +kernel
theorem dM_laid_56 : decode prog_7_method_23_code 56 = .ok (.ireturn, 1) := by decide +kernel
theorem dM_empty_0 : decode prog_7_method_24_code 0 = .ok (.aload_n 0, 1) := by decide +kernel
theorem dM_empty_1 : decode prog_7_method_24_code 1 = .ok (.getfield 56, 3) := by decide +kernel
theorem dM_empty_4 : decode prog_7_method_24_code 4 = .ok (.istore_n 1, 1) := by decide +kernel
theorem dM_empty_5 : decode prog_7_method_24_code 5 = .ok (.aload_n 0, 1) := by decide +kernel
theorem dM_empty_6 : decode prog_7_method_24_code 6 = .ok (.iconst 0, 1) := by decide +kernel
theorem dM_empty_7 : decode prog_7_method_24_code 7 = .ok (.putfield 56, 3) := by decide +kernel
theorem dM_empty_10 : decode prog_7_method_24_code 10 = .ok (.aload_n 0, 1) := by decide +kernel
theorem dM_empty_11 : decode prog_7_method_24_code 11 = .ok (.aload_n 0, 1) := by decide +kernel
theorem dM_empty_12 : decode prog_7_method_24_code 12 = .ok (.iconst 0, 1) := by decide +kernel
theorem dM_empty_13 : decode prog_7_method_24_code 13 = .ok (.invokevirtual 106, 3) := by decide +kernel
theorem dM_empty_16 : decode prog_7_method_24_code 16 = .ok (.putfield 59, 3) := by decide +kernel
theorem dM_empty_19 : decode prog_7_method_24_code 19 = .ok (.iload_n 1, 1) := by decide +kernel
theorem dM_empty_20 : decode prog_7_method_24_code 20 = .ok (.ireturn, 1) := by decide +kernel
theorem dM_add_0 : decode prog_7_method_25_code 0 = .ok (.iload_n 1, 1) := by decide +kernel
theorem dM_add_1 : decode prog_7_method_25_code 1 = .ok (.iconst 0, 1) := by decide +kernel
theorem dM_add_2 : decode prog_7_method_25_code 2 = .ok (.iconst 1, 1) := by decide +kernel
theorem dM_add_3 : decode prog_7_method_25_code 3 = .ok (.invokestatic 77, 3) := by decide +kernel
theorem dM_add_6 : decode prog_7_method_25_code 6 = .ok (.ifCond .eq 23, 3) := by decide +kernel
theorem dM_add_9 : decode prog_7_method_25_code 9 = .ok (.iload_n 2, 1) := by decide +kernel
theorem dM_add_10 : decode prog_7_method_25_code 10 = .ok (.iconst 0, 1) := by decide +kernel
theorem dM_add_11 : decode prog_7_method_25_code 11 = .ok (.bipush 79, 2) := by decide +kernel
theorem dM_add_13 : decode prog_7_method_25_code 13 = .ok (.invokestatic 77, 3) := by decide +kernel
theorem dM_add_16 : decode prog_7_method_25_code 16 = .ok (.ifCond .eq 13, 3) := by decide +kernel
theorem dM_add_19 : decode prog_7_method_25_code 19 = .ok (.iload_n 3, 1) := by decide +kernel
theorem dM_add_20 : decode prog_7_method_25_code 20 = .ok (.iconst 1, 1) := by decide +kernel
theorem dM_add_21 : decode prog_7_method_25_code 21 = .ok (.bipush 40, 2) := by decide +kernel
theorem dM_add_23 : decode prog_7_method_25_code 23 = .ok (.invokestatic 77, 3) := by decide +kernel
theorem dM_add_26 : decode prog_7_method_25_code 26 = .ok (.ifCond .ne 6, 3) := by decide +kernel
theorem dM_add_29 : decode prog_7_method_25_code 29 = .ok (.bipush (-2), 2) := by decide +kernel
theorem dM_add_31 : decode prog_7_method_25_code 31 = .ok (.ireturn, 1) := by decide +kernel
theorem dM_add_32 : decode prog_7_method_25_code 32 = .ok (.aload_n 0, 1) := by decide +kernel
theorem dM_add_33 : decode prog_7_method_25_code 33 = .ok (.getfield 56, 3) := by decide +kernel
theorem dM_add_36 : decode prog_7_method_25_code 36 = .ok (.bipush 100, 2) := by decide +kernel
theorem dM_add_38 : decode prog_7_method_25_code 38 = .ok (.if_icmp .ne 6, 3) := by decide +kernel
theorem dM_add_41 : decode prog_7_method_25_code 41 = .ok (.bipush (-3), 2) := by decide +kernel
theorem dM_add_43 : decode prog_7_method_25_code 43 = .ok (.ireturn, 1) := by decide +kernel
theorem dM_add_44 : decode prog_7_method_25_code 44 = .ok (.aload_n 0, 1) := by decide +kernel
theorem dM_add_45 : decode prog_7_method_25_code 45 = .ok (.getfield 16, 3) := by decide +kernel
theorem dM_add_48 : decode prog_7_method_25_code 48 = .ok (.aload_n 0, 1) := by decide +kernel
theorem dM_add_49 : decode prog_7_method_25_code 49 = .ok (.getfield 56, 3) := by decide +kernel
theorem dM_add_52 : decode prog_7_method_25_code 52 = .ok (.iload_n 1, 1) := by decide +kernel
theorem dM_add_53 : decode prog_7_method_25_code 53 = .ok (.iastore, 1) := by decide +kernel
theorem dM_add_54 : decode prog_7_method_25_code 54 = .ok (.aload_n 0, 1) := by decide +kernel
theorem dM_add_55 : decode prog_7_method_25_code 55 = .ok (.getfield 19, 3) := by decide +kernel
theorem dM_add_58 : decode prog_7_method_25_code 58 = .ok (.aload_n 0, 1) := by decide +kernel
theorem dM_add_59 : decode prog_7_method_25_code 59 = .ok (.getfield 56, 3) := by decide +kernel
theorem dM_add_62 : decode prog_7_method_25_code 62 = .ok (.iload_n 2, 1) := by decide +kernel
theorem dM_add_63 : decode prog_7_method_25_code 63 = .ok (.iastore, 1) := by decide +kernel
theorem dM_add_64 : decode prog_7_method_25_code 64 = .ok (.aload_n 0, 1) := by decide +kernel
theorem dM_add_65 : decode prog_7_method_25_code 65 = .ok (.getfield 22, 3) := by decide +kernel
theorem dM_add_68 : decode prog_7_method_25_code 68 = .ok (.aload_n 0, 1) := by decide +kernel
theorem dM_add_69 : decode prog_7_method_25_code 69 = .ok (.getfield 56, 3) := by decide +kernel
theorem dM_add_72 : decode prog_7_method_25_code 72 = .ok (.iload_n 3, 1) := by decide +kernel
theorem dM_add_73 : decode prog_7_method_25_code 73 = .ok (.iastore, 1) := by decide +kernel
theorem dM_add_74 : decode prog_7_method_25_code 74 = .ok (.aload_n 0, 1) := by decide +kernel
theorem dM_add_75 : decode prog_7_method_25_code 75 = .ok (.dup, 1) := by decide +kernel
theorem dM_add_76 : decode prog_7_method_25_code 76 = .ok (.getfield 56, 3) := by decide +kernel
theorem dM_add_79 : decode prog_7_method_25_code 79 = .ok (.iconst 1, 1) := by decide +kernel
theorem dM_add_80 : decode prog_7_method_25_code 80 = .ok (.iadd, 1) := by decide +kernel
theorem dM_add_81 : decode prog_7_method_25_code 81 = .ok (.putfield 56, 3) := by decide +kernel
theorem dM_add_84 : decode prog_7_method_25_code 84 = .ok (.aload_n 0, 1) := by decide +kernel
theorem dM_add_85 : decode prog_7_method_25_code 85 = .ok (.getfield 56, 3) := by decide +kernel
theorem dM_add_88 : decode prog_7_method_25_code 88 = .ok (.ireturn, 1) := by decide +kernel
theorem dM_lay_0 : decode prog_7_method_26_code 0 = .ok (.iload_n 1, 1) := by decide +kernel
theorem dM_lay_1 : decode prog_7_method_26_code 1 = .ok (.iconst 0, 1) := by decide +kernel
theorem dM_lay_2 : decode prog_7_method_26_code 2 = .ok (.sipush 255, 3) := by decide +kernel
theorem dM_lay_5 : decode prog_7_method_26_code 5 = .ok (.invokestatic 77, 3) := by decide +kernel
theorem dM_lay_8 : decode prog_7_method_26_code 8 = .ok (.ifCond .ne 6, 3) := by decide +kernel
theorem dM_lay_11 : decode prog_7_method_26_code 11 = .ok (.bipush (-2), 2) := by decide +kernel
theorem dM_lay_13 : decode prog_7_method_26_code 13 = .ok (.ireturn, 1) := by decide +kernel
theorem dM_lay_14 : decode prog_7_method_26_code 14 = .ok (.aload_n 0, 1) := by decide +kernel
theorem dM_lay_15 : decode prog_7_method_26_code 15 = .ok (.getfield 56, 3) := by decide +kernel
theorem dM_lay_18 : decode prog_7_method_26_code 18 = .ok (.ifCond .le 38, 3) := by decide +kernel
theorem dM_lay_21 : decode prog_7_method_26_code 21 = .ok (.aload_n 0, 1) := by decide +kernel
theorem dM_lay_22 : decode prog_7_method_26_code 22 = .ok (.getfield 16, 3) := by decide +kernel
theorem dM_lay_25 : decode prog_7_method_26_code 25 = .ok (.aload_n 0, 1) := by decide +kernel
theorem dM_lay_26 : decode prog_7_method_26_code 26 = .ok (.getfield 56, 3) := by decide +kernel
theorem dM_lay_29 : decode prog_7_method_26_code 29 = .ok (.iconst 1, 1) := by decide +kernel
theorem dM_lay_30 : decode prog_7_method_26_code 30 = .ok (.isub, 1) := by decide +kernel
theorem dM_lay_31 : decode prog_7_method_26_code 31 = .ok (.iaload, 1) := by decide +kernel
theorem dM_lay_32 : decode prog_7_method_26_code 32 = .ok (.iconst 2, 1) := by decide +kernel
theorem dM_lay_33 : decode prog_7_method_26_code 33 = .ok (.if_icmp .ne 23, 3) := by decide +kernel
theorem dM_lay_36 : decode prog_7_method_26_code 36 = .ok (.aload_n 0, 1) := by decide +kernel
theorem dM_lay_37 : decode prog_7_method_26_code 37 = .ok (.getfield 22, 3) := by decide +kernel
theorem dM_lay_40 : decode prog_7_method_26_code 40 = .ok (.aload_n 0, 1) := by decide +kernel
theorem dM_lay_41 : decode prog_7_method_26_code 41 = .ok (.getfield 56, 3) := by decide +kernel
theorem dM_lay_44 : decode prog_7_method_26_code 44 = .ok (.iconst 1, 1) := by decide +kernel
theorem dM_lay_45 : decode prog_7_method_26_code 45 = .ok (.isub, 1) := by decide +kernel
theorem dM_lay_46 : decode prog_7_method_26_code 46 = .ok (.iaload, 1) := by decide +kernel
theorem dM_lay_47 : decode prog_7_method_26_code 47 = .ok (.bipush 40, 2) := by decide +kernel
theorem dM_lay_49 : decode prog_7_method_26_code 49 = .ok (.if_icmp .ge 7, 3) := by decide +kernel
theorem dM_lay_52 : decode prog_7_method_26_code 52 = .ok (.iconst 1, 1) := by decide +kernel
theorem dM_lay_53 : decode prog_7_method_26_code 53 = .ok (.goto 4, 3) := by decide +kernel
theorem dM_lay_56 : decode prog_7_method_26_code 56 = .ok (.iconst 0, 1) := by decide +kernel
theorem dM_lay_57 : decode prog_7_method_26_code 57 = .ok (.istore_n 2, 1) := by decide +kernel
theorem dM_lay_58 : decode prog_7_method_26_code 58 = .ok (.iload_n 2, 1) := by decide +kernel
theorem dM_lay_59 : decode prog_7_method_26_code 59 = .ok (.ifCond .ne 55, 3) := by decide +kernel
theorem dM_lay_62 : decode prog_7_method_26_code 62 = .ok (.aload_n 0, 1) := by decide +kernel
theorem dM_lay_63 : decode prog_7_method_26_code 63 = .ok (.getfield 56, 3) := by decide +kernel
theorem dM_lay_66 : decode prog_7_method_26_code 66 = .ok (.bipush 100, 2) := by decide +kernel
theorem dM_lay_68 : decode prog_7_method_26_code 68 = .ok (.if_icmp .ne 6, 3) := by decide +kernel
theorem dM_lay_71 : decode prog_7_method_26_code 71 = .ok (.bipush (-3), 2) := by decide +kernel
theorem dM_lay_73 : decode prog_7_method_26_code 73 = .ok (.ireturn, 1) := by decide +kernel
theorem dM_lay_74 : decode prog_7_method_26_code 74 = .ok (.aload_n 0, 1) := by decide +kernel
theorem dM_lay_75 : decode prog_7_method_26_code 75 = .ok (.getfield 16, 3) := by decide +kernel
theorem dM_lay_78 : decode prog_7_method_26_code 78 = .ok (.aload_n 0, 1) := by decide +kernel
theorem dM_lay_79 : decode prog_7_method_26_code 79 = .ok (.getfield 56, 3) := by decide +kernel
theorem dM_lay_82 : decode prog_7_method_26_code 82 = .ok (.iconst 2, 1) := by decide +kernel
theorem dM_lay_83 : decode prog_7_method_26_code 83 = .ok (.iastore, 1) := by decide +kernel
theorem dM_lay_84 : decode prog_7_method_26_code 84 = .ok (.aload_n 0, 1) := by decide +kernel
theorem dM_lay_85 : decode prog_7_method_26_code 85 = .ok (.getfield 19, 3) := by decide +kernel
theorem dM_lay_88 : decode prog_7_method_26_code 88 = .ok (.aload_n 0, 1) := by decide +kernel
theorem dM_lay_89 : decode prog_7_method_26_code 89 = .ok (.getfield 56, 3) := by decide +kernel
theorem dM_lay_92 : decode prog_7_method_26_code 92 = .ok (.iconst 0, 1) := by decide +kernel
theorem dM_lay_93 : decode prog_7_method_26_code 93 = .ok (.iastore, 1) := by decide +kernel
theorem dM_lay_94 : decode prog_7_method_26_code 94 = .ok (.aload_n 0, 1) := by decide +kernel
theorem dM_lay_95 : decode prog_7_method_26_code 95 = .ok (.getfield 22, 3) := by decide +kernel
theorem dM_lay_98 : decode prog_7_method_26_code 98 = .ok (.aload_n 0, 1) := by decide +kernel
theorem dM_lay_99 : decode prog_7_method_26_code 99 = .ok (.getfield 56, 3) := by decide +kernel
theorem dM_lay_102 : decode prog_7_method_26_code 102 = .ok (.iconst 0, 1) := by decide +kernel
theorem dM_lay_103 : decode prog_7_method_26_code 103 = .ok (.iastore, 1) := by decide +kernel
theorem dM_lay_104 : decode prog_7_method_26_code 104 = .ok (.aload_n 0, 1) := by decide +kernel
theorem dM_lay_105 : decode prog_7_method_26_code 105 = .ok (.dup, 1) := by decide +kernel
theorem dM_lay_106 : decode prog_7_method_26_code 106 = .ok (.getfield 56, 3) := by decide +kernel
theorem dM_lay_109 : decode prog_7_method_26_code 109 = .ok (.iconst 1, 1) := by decide +kernel
theorem dM_lay_110 : decode prog_7_method_26_code 110 = .ok (.iadd, 1) := by decide +kernel
theorem dM_lay_111 : decode prog_7_method_26_code 111 = .ok (.putfield 56, 3) := by decide +kernel
theorem dM_lay_114 : decode prog_7_method_26_code 114 = .ok (.aload_n 0, 1) := by decide +kernel
theorem dM_lay_115 : decode prog_7_method_26_code 115 = .ok (.getfield 25, 3) := by decide +kernel
theorem dM_lay_118 : decode prog_7_method_26_code 118 = .ok (.bipush 40, 2) := by decide +kernel
theorem dM_lay_120 : decode prog_7_method_26_code 120 = .ok (.aload_n 0, 1) := by decide +kernel
theorem dM_lay_121 : decode prog_7_method_26_code 121 = .ok (.getfield 56, 3) := by decide +kernel
theorem dM_lay_124 : decode prog_7_method_26_code 124 = .ok (.iconst 1, 1) := by decide +kernel
theorem dM_lay_125 : decode prog_7_method_26_code 125 = .ok (.isub, 1) := by decide +kernel
theorem dM_lay_126 : decode prog_7_method_26_code 126 = .ok (.imul, 1) := by decide +kernel
theorem dM_lay_127 : decode prog_7_method_26_code 127 = .ok (.aload_n 0, 1) := by decide +kernel
theorem dM_lay_128 : decode prog_7_method_26_code 128 = .ok (.getfield 22, 3) := by decide +kernel
theorem dM_lay_131 : decode prog_7_method_26_code 131 = .ok (.aload_n 0, 1) := by decide +kernel
theorem dM_lay_132 : decode prog_7_method_26_code 132 = .ok (.getfield 56, 3) := by decide +kernel
theorem dM_lay_135 : decode prog_7_method_26_code 135 = .ok (.iconst 1, 1) := by decide +kernel
theorem dM_lay_136 : decode prog_7_method_26_code 136 = .ok (.isub, 1) := by decide +kernel
theorem dM_lay_137 : decode prog_7_method_26_code 137 = .ok (.iaload, 1) := by decide +kernel
theorem dM_lay_138 : decode prog_7_method_26_code 138 = .ok (.iadd, 1) := by decide +kernel
theorem dM_lay_139 : decode prog_7_method_26_code 139 = .ok (.iload_n 1, 1) := by decide +kernel
theorem dM_lay_140 : decode prog_7_method_26_code 140 = .ok (.iastore, 1) := by decide +kernel
theorem dM_lay_141 : decode prog_7_method_26_code 141 = .ok (.aload_n 0, 1) := by decide +kernel
theorem dM_lay_142 : decode prog_7_method_26_code 142 = .ok (.getfield 22, 3) := by decide +kernel
theorem dM_lay_145 : decode prog_7_method_26_code 145 = .ok (.aload_n 0, 1) := by decide +kernel
theorem dM_lay_146 : decode prog_7_method_26_code 146 = .ok (.getfield 56, 3) := by decide +kernel
theorem dM_lay_149 : decode prog_7_method_26_code 149 = .ok (.iconst 1, 1) := by decide +kernel
theorem dM_lay_150 : decode prog_7_method_26_code 150 = .ok (.isub, 1) := by decide +kernel
theorem dM_lay_151 : decode prog_7_method_26_code 151 = .ok (.dup2, 1) := by decide +kernel
theorem dM_lay_152 : decode prog_7_method_26_code 152 = .ok (.iaload, 1) := by decide +kernel
theorem dM_lay_153 : decode prog_7_method_26_code 153 = .ok (.iconst 1, 1) := by decide +kernel
theorem dM_lay_154 : decode prog_7_method_26_code 154 = .ok (.iadd, 1) := by decide +kernel
theorem dM_lay_155 : decode prog_7_method_26_code 155 = .ok (.iastore, 1) := by decide +kernel
theorem dM_lay_156 : decode prog_7_method_26_code 156 = .ok (.aload_n 0, 1) := by decide +kernel
theorem dM_lay_157 : decode prog_7_method_26_code 157 = .ok (.getfield 56, 3) := by decide +kernel
theorem dM_lay_160 : decode prog_7_method_26_code 160 = .ok (.ireturn, 1) := by decide +kernel
theorem dM_make_0 : decode prog_7_method_27_code 0 = .ok (.aload_n 0, 1) := by decide +kernel
theorem dM_make_1 : decode prog_7_method_27_code 1 = .ok (.getfield 59, 3) := by decide +kernel
theorem dM_make_4 : decode prog_7_method_27_code 4 = .ok (.aload_n 0, 1) := by decide +kernel
theorem dM_make_5 : decode prog_7_method_27_code 5 = .ok (.iconst 0, 1) := by decide +kernel
theorem dM_make_6 : decode prog_7_method_27_code 6 = .ok (.invokevirtual 106, 3) := by decide +kernel
theorem dM_make_9 : decode prog_7_method_27_code 9 = .ok (.if_icmp .eq 6, 3) := by decide +kernel
theorem dM_make_12 : decode prog_7_method_27_code 12 = .ok (.bipush (-4), 2) := by decide +kernel
theorem dM_make_14 : decode prog_7_method_27_code 14 = .ok (.ireturn, 1) := by decide +kernel
theorem dM_make_15 : decode prog_7_method_27_code 15 = .ok (.aload_n 0, 1) := by decide +kernel
theorem dM_make_16 : decode prog_7_method_27_code 16 = .ok (.iconst 0, 1) := by decide +kernel
theorem dM_make_17 : decode prog_7_method_27_code 17 = .ok (.putfield 65, 3) := by decide +kernel
theorem dM_make_20 : decode prog_7_method_27_code 20 = .ok (.iconst 0, 1) := by decide +kernel
theorem dM_make_21 : decode prog_7_method_27_code 21 = .ok (.istore_n 1, 1) := by decide +kernel
theorem dM_make_22 : decode prog_7_method_27_code 22 = .ok (.iload_n 1, 1) := by decide +kernel
theorem dM_make_23 : decode prog_7_method_27_code 23 = .ok (.aload_n 0, 1) := by decide +kernel
theorem dM_make_24 : decode prog_7_method_27_code 24 = .ok (.getfield 56, 3) := by decide +kernel
theorem dM_make_27 : decode prog_7_method_27_code 27 = .ok (.if_icmp .ge 180, 3) := by decide +kernel
theorem dM_make_30 : decode prog_7_method_27_code 30 = .ok (.aload_n 0, 1) := by decide +kernel
theorem dM_make_31 : decode prog_7_method_27_code 31 = .ok (.getfield 19, 3) := by decide +kernel
theorem dM_make_34 : decode prog_7_method_27_code 34 = .ok (.iload_n 1, 1) := by decide +kernel
theorem dM_make_35 : decode prog_7_method_27_code 35 = .ok (.iaload, 1) := by decide +kernel
theorem dM_make_36 : decode prog_7_method_27_code 36 = .ok (.istore_n 2, 1) := by decide +kernel
theorem dM_make_37 : decode prog_7_method_27_code 37 = .ok (.aload_n 0, 1) := by decide +kernel
theorem dM_make_38 : decode prog_7_method_27_code 38 = .ok (.getfield 22, 3) := by decide +kernel
theorem dM_make_41 : decode prog_7_method_27_code 41 = .ok (.iload_n 1, 1) := by decide +kernel
theorem dM_make_42 : decode prog_7_method_27_code 42 = .ok (.iaload, 1) := by decide +kernel
theorem dM_make_43 : decode prog_7_method_27_code 43 = .ok (.istore_n 3, 1) := by decide +kernel
theorem dM_make_44 : decode prog_7_method_27_code 44 = .ok (.aload_n 0, 1) := by decide +kernel
theorem dM_make_45 : decode prog_7_method_27_code 45 = .ok (.getfield 65, 3) := by decide +kernel
theorem dM_make_48 : decode prog_7_method_27_code 48 = .ok (.iload_n 3, 1) := by decide +kernel
theorem dM_make_49 : decode prog_7_method_27_code 49 = .ok (.iadd, 1) := by decide +kernel
theorem dM_make_50 : decode prog_7_method_27_code 50 = .ok (.bipush 80, 2) := by decide +kernel
theorem dM_make_52 : decode prog_7_method_27_code 52 = .ok (.if_icmp .gt 42, 3) := by decide +kernel
theorem dM_make_55 : decode prog_7_method_27_code 55 = .ok (.aload_n 0, 1) := by decide +kernel
theorem dM_make_56 : decode prog_7_method_27_code 56 = .ok (.getfield 16, 3) := by decide +kernel
theorem dM_make_59 : decode prog_7_method_27_code 59 = .ok (.iload_n 1, 1) := by decide +kernel
theorem dM_make_60 : decode prog_7_method_27_code 60 = .ok (.iaload, 1) := by decide +kernel
theorem dM_make_61 : decode prog_7_method_27_code 61 = .ok (.ifCond .ne 15, 3) := by decide +kernel
theorem dM_make_64 : decode prog_7_method_27_code 64 = .ok (.iload_n 2, 1) := by decide +kernel
theorem dM_make_65 : decode prog_7_method_27_code 65 = .ok (.iload_n 3, 1) := by decide +kernel
theorem dM_make_66 : decode prog_7_method_27_code 66 = .ok (.iadd, 1) := by decide +kernel
theorem dM_make_67 : decode prog_7_method_27_code 67 = .ok (.aload_n 0, 1) := by decide +kernel
theorem dM_make_68 : decode prog_7_method_27_code 68 = .ok (.getfield 13, 3) := by decide +kernel
theorem dM_make_71 : decode prog_7_method_27_code 71 = .ok (.iconst 0, 1) := by decide +kernel
theorem dM_make_72 : decode prog_7_method_27_code 72 = .ok (.iaload, 1) := by decide +kernel
theorem dM_make_73 : decode prog_7_method_27_code 73 = .ok (.if_icmp .gt 21, 3) := by decide +kernel
theorem dM_make_76 : decode prog_7_method_27_code 76 = .ok (.aload_n 0, 1) := by decide +kernel
theorem dM_make_77 : decode prog_7_method_27_code 77 = .ok (.getfield 16, 3) := by decide +kernel
theorem dM_make_80 : decode prog_7_method_27_code 80 = .ok (.iload_n 1, 1) := by decide +kernel
theorem dM_make_81 : decode prog_7_method_27_code 81 = .ok (.iaload, 1) := by decide +kernel
theorem dM_make_82 : decode prog_7_method_27_code 82 = .ok (.iconst 1, 1) := by decide +kernel
theorem dM_make_83 : decode prog_7_method_27_code 83 = .ok (.if_icmp .ne 15, 3) := by decide +kernel
theorem dM_make_86 : decode prog_7_method_27_code 86 = .ok (.iload_n 2, 1) := by decide +kernel
theorem dM_make_87 : decode prog_7_method_27_code 87 = .ok (.aload_n 0, 1) := by decide +kernel
theorem dM_make_88 : decode prog_7_method_27_code 88 = .ok (.getfield 65, 3) := by decide +kernel
theorem dM_make_91 : decode prog_7_method_27_code 91 = .ok (.if_icmp .lt 7, 3) := by decide +kernel
theorem dM_make_94 : decode prog_7_method_27_code 94 = .ok (.iconst 1, 1) := by decide +kernel
theorem dM_make_95 : decode prog_7_method_27_code 95 = .ok (.goto 4, 3) := by decide +kernel
theorem dM_make_98 : decode prog_7_method_27_code 98 = .ok (.iconst 0, 1) := by decide +kernel
theorem dM_make_99 : decode prog_7_method_27_code 99 = .ok (.istore 4, 2) := by decide +kernel
theorem dM_make_101 : decode prog_7_method_27_code 101 = .ok (.iload 4, 2) := by decide +kernel
theorem dM_make_103 : decode prog_7_method_27_code 103 = .ok (.ifCond .eq 9, 3) := by decide +kernel
theorem dM_make_106 : decode prog_7_method_27_code 106 = .ok (.sipush (-1000), 3) := by decide +kernel
theorem dM_make_109 : decode prog_7_method_27_code 109 = .ok (.iload_n 1, 1) := by decide +kernel
theorem dM_make_110 : decode prog_7_method_27_code 110 = .ok (.isub, 1) := by decide +kernel
theorem dM_make_111 : decode prog_7_method_27_code 111 = .ok (.ireturn, 1) := by decide +kernel
theorem dM_make_112 : decode prog_7_method_27_code 112 = .ok (.iconst 0, 1) := by decide +kernel
theorem dM_make_113 : decode prog_7_method_27_code 113 = .ok (.istore 5, 2) := by decide +kernel
theorem dM_make_115 : decode prog_7_method_27_code 115 = .ok (.iload 5, 2) := by decide +kernel
theorem dM_make_117 : decode prog_7_method_27_code 117 = .ok (.iload_n 3, 1) := by decide +kernel
theorem dM_make_118 : decode prog_7_method_27_code 118 = .ok (.if_icmp .ge 83, 3) := by decide +kernel
theorem dM_make_121 : decode prog_7_method_27_code 121 = .ok (.aload_n 0, 1) := by decide +kernel
theorem dM_make_122 : decode prog_7_method_27_code 122 = .ok (.getfield 31, 3) := by decide +kernel
theorem dM_make_125 : decode prog_7_method_27_code 125 = .ok (.aload_n 0, 1) := by decide +kernel
theorem dM_make_126 : decode prog_7_method_27_code 126 = .ok (.getfield 65, 3) := by decide +kernel
theorem dM_make_129 : decode prog_7_method_27_code 129 = .ok (.aload_n 0, 1) := by decide +kernel
theorem dM_make_130 : decode prog_7_method_27_code 130 = .ok (.getfield 16, 3) := by decide +kernel
theorem dM_make_133 : decode prog_7_method_27_code 133 = .ok (.iload_n 1, 1) := by decide +kernel
theorem dM_make_134 : decode prog_7_method_27_code 134 = .ok (.iaload, 1) := by decide +kernel
theorem dM_make_135 : decode prog_7_method_27_code 135 = .ok (.ifCond .ne 15, 3) := by decide +kernel
theorem dM_make_138 : decode prog_7_method_27_code 138 = .ok (.aload_n 0, 1) := by decide +kernel
theorem dM_make_139 : decode prog_7_method_27_code 139 = .ok (.iconst 0, 1) := by decide +kernel
theorem dM_make_140 : decode prog_7_method_27_code 140 = .ok (.iload_n 2, 1) := by decide +kernel
theorem dM_make_141 : decode prog_7_method_27_code 141 = .ok (.iload 5, 2) := by decide +kernel
theorem dM_make_143 : decode prog_7_method_27_code 143 = .ok (.iadd, 1) := by decide +kernel
theorem dM_make_144 : decode prog_7_method_27_code 144 = .ok (.invokevirtual 72, 3) := by decide +kernel
theorem dM_make_147 : decode prog_7_method_27_code 147 = .ok (.goto 37, 3) := by decide +kernel
theorem dM_make_150 : decode prog_7_method_27_code 150 = .ok (.aload_n 0, 1) := by decide +kernel
theorem dM_make_151 : decode prog_7_method_27_code 151 = .ok (.getfield 16, 3) := by decide +kernel
theorem dM_make_154 : decode prog_7_method_27_code 154 = .ok (.iload_n 1, 1) := by decide +kernel
theorem dM_make_155 : decode prog_7_method_27_code 155 = .ok (.iaload, 1) := by decide +kernel
theorem dM_make_156 : decode prog_7_method_27_code 156 = .ok (.iconst 1, 1) := by decide +kernel
theorem dM_make_157 : decode prog_7_method_27_code 157 = .ok (.if_icmp .ne 15, 3) := by decide +kernel
theorem dM_make_160 : decode prog_7_method_27_code 160 = .ok (.aload_n 0, 1) := by decide +kernel
theorem dM_make_161 : decode prog_7_method_27_code 161 = .ok (.getfield 31, 3) := by decide +kernel
theorem dM_make_164 : decode prog_7_method_27_code 164 = .ok (.iload_n 2, 1) := by decide +kernel
theorem dM_make_165 : decode prog_7_method_27_code 165 = .ok (.iload 5, 2) := by decide +kernel
theorem dM_make_167 : decode prog_7_method_27_code 167 = .ok (.iadd, 1) := by decide +kernel
theorem dM_make_168 : decode prog_7_method_27_code 168 = .ok (.iaload, 1) := by decide +kernel
theorem dM_make_169 : decode prog_7_method_27_code 169 = .ok (.goto 15, 3) := by decide +kernel
theorem dM_make_172 : decode prog_7_method_27_code 172 = .ok (.aload_n 0, 1) := by decide +kernel
theorem dM_make_173 : decode prog_7_method_27_code 173 = .ok (.getfield 25, 3) := by decide +kernel
theorem dM_make_176 : decode prog_7_method_27_code 176 = .ok (.bipush 40, 2) := by decide +kernel
theorem dM_make_178 : decode prog_7_method_27_code 178 = .ok (.iload_n 1, 1) := by decide +kernel
theorem dM_make_179 : decode prog_7_method_27_code 179 = .ok (.imul, 1) := by decide +kernel
theorem dM_make_180 : decode prog_7_method_27_code 180 = .ok (.iload 5, 2) := by decide +kernel
theorem dM_make_182 : decode prog_7_method_27_code 182 = .ok (.iadd, 1) := by decide +kernel
theorem dM_make_183 : decode prog_7_method_27_code 183 = .ok (.iaload, 1) := by decide +kernel
theorem dM_make_184 : decode prog_7_method_27_code 184 = .ok (.iastore, 1) := by decide +kernel
theorem dM_make_185 : decode prog_7_method_27_code 185 = .ok (.aload_n 0, 1) := by decide +kernel
theorem dM_make_186 : decode prog_7_method_27_code 186 = .ok (.dup, 1) := by decide +kernel
theorem dM_make_187 : decode prog_7_method_27_code 187 = .ok (.getfield 65, 3) := by decide +kernel
theorem dM_make_190 : decode prog_7_method_27_code 190 = .ok (.iconst 1, 1) := by decide +kernel
theorem dM_make_191 : decode prog_7_method_27_code 191 = .ok (.iadd, 1) := by decide +kernel
theorem dM_make_192 : decode prog_7_method_27_code 192 = .ok (.putfield 65, 3) := by decide +kernel
theorem dM_make_195 : decode prog_7_method_27_code 195 = .ok (.iinc 5 1, 3) := by decide +kernel
theorem dM_make_198 : decode prog_7_method_27_code 198 = .ok (.goto (-83), 3) := by decide +kernel
theorem dM_make_201 : decode prog_7_method_27_code 201 = .ok (.iinc 1 1, 3) := by decide +kernel
theorem dM_make_204 : decode prog_7_method_27_code 204 = .ok (.goto (-182), 3) := by decide +kernel
theorem dM_make_207 : decode prog_7_method_27_code 207 = .ok (.aload_n 0, 1) := by decide +kernel
theorem dM_make_208 : decode prog_7_method_27_code 208 = .ok (.getfield 65, 3) := by decide +kernel
theorem dM_make_211 : decode prog_7_method_27_code 211 = .ok (.ireturn, 1) := by decide +kernel
theorem dM_made_0 : decode prog_7_method_28_code 0 = .ok (.iload_n 1, 1) := by decide +kernel
theorem dM_made_1 : decode prog_7_method_28_code 1 = .ok (.iconst 0, 1) := by decide +kernel
theorem dM_made_2 : decode prog_7_method_28_code 2 = .ok (.aload_n 0, 1) := by decide +kernel
theorem dM_made_3 : decode prog_7_method_28_code 3 = .ok (.getfield 65, 3) := by decide +kernel
theorem dM_made_6 : decode prog_7_method_28_code 6 = .ok (.iconst 1, 1) := by decide +kernel
theorem dM_made_7 : decode prog_7_method_28_code 7 = .ok (.isub, 1) := by decide +kernel
theorem dM_made_8 : decode prog_7_method_28_code 8 = .ok (.invokestatic 77, 3) := by decide +kernel
theorem dM_made_11 : decode prog_7_method_28_code 11 = .ok (.ifCond .eq 12, 3) := by decide +kernel
theorem dM_made_14 : decode prog_7_method_28_code 14 = .ok (.aload_n 0, 1) := by decide +kernel
theorem dM_made_15 : decode prog_7_method_28_code 15 = .ok (.getfield 31, 3) := by decide +kernel
theorem dM_made_18 : decode prog_7_method_28_code 18 = .ok (.iload_n 1, 1) := by decide +kernel
theorem dM_made_19 : decode prog_7_method_28_code 19 = .ok (.iaload, 1) := by decide +kernel
theorem dM_made_20 : decode prog_7_method_28_code 20 = .ok (.goto 4, 3) := by decide +kernel
theorem dM_made_23 : decode prog_7_method_28_code 23 = .ok (.iconst (-1), 1) := by decide +kernel
theorem dM_made_24 : decode prog_7_method_28_code 24 = .ok (.ireturn, 1) := by decide +kernel
theorem dM_isNew_0 : decode prog_7_method_29_code 0 = .ok (.aload_n 0, 1) := by decide +kernel
theorem dM_isNew_1 : decode prog_7_method_29_code 1 = .ok (.getfield 65, 3) := by decide +kernel
theorem dM_isNew_4 : decode prog_7_method_29_code 4 = .ok (.aload_n 0, 1) := by decide +kernel
theorem dM_isNew_5 : decode prog_7_method_29_code 5 = .ok (.getfield 13, 3) := by decide +kernel
theorem dM_isNew_8 : decode prog_7_method_29_code 8 = .ok (.iconst 1, 1) := by decide +kernel
theorem dM_isNew_9 : decode prog_7_method_29_code 9 = .ok (.iaload, 1) := by decide +kernel
theorem dM_isNew_10 : decode prog_7_method_29_code 10 = .ok (.if_icmp .eq 5, 3) := by decide +kernel
theorem dM_isNew_13 : decode prog_7_method_29_code 13 = .ok (.iconst 0, 1) := by decide +kernel
theorem dM_isNew_14 : decode prog_7_method_29_code 14 = .ok (.ireturn, 1) := by decide +kernel
theorem dM_isNew_15 : decode prog_7_method_29_code 15 = .ok (.iconst 1, 1) := by decide +kernel
theorem dM_isNew_16 : decode prog_7_method_29_code 16 = .ok (.istore_n 1, 1) := by decide +kernel
theorem dM_isNew_17 : decode prog_7_method_29_code 17 = .ok (.iconst 0, 1) := by decide +kernel
theorem dM_isNew_18 : decode prog_7_method_29_code 18 = .ok (.istore_n 2, 1) := by decide +kernel
theorem dM_isNew_19 : decode prog_7_method_29_code 19 = .ok (.iload_n 2, 1) := by decide +kernel
theorem dM_isNew_20 : decode prog_7_method_29_code 20 = .ok (.aload_n 0, 1) := by decide +kernel
theorem dM_isNew_21 : decode prog_7_method_29_code 21 = .ok (.getfield 65, 3) := by decide +kernel
theorem dM_isNew_24 : decode prog_7_method_29_code 24 = .ok (.if_icmp .ge 30, 3) := by decide +kernel
theorem dM_isNew_27 : decode prog_7_method_29_code 27 = .ok (.aload_n 0, 1) := by decide +kernel
theorem dM_isNew_28 : decode prog_7_method_29_code 28 = .ok (.getfield 31, 3) := by decide +kernel
theorem dM_isNew_31 : decode prog_7_method_29_code 31 = .ok (.iload_n 2, 1) := by decide +kernel
theorem dM_isNew_32 : decode prog_7_method_29_code 32 = .ok (.iaload, 1) := by decide +kernel
theorem dM_isNew_33 : decode prog_7_method_29_code 33 = .ok (.aload_n 0, 1) := by decide +kernel
theorem dM_isNew_34 : decode prog_7_method_29_code 34 = .ok (.iconst 1, 1) := by decide +kernel
theorem dM_isNew_35 : decode prog_7_method_29_code 35 = .ok (.iload_n 2, 1) := by decide +kernel
theorem dM_isNew_36 : decode prog_7_method_29_code 36 = .ok (.invokevirtual 72, 3) := by decide +kernel
theorem dM_isNew_39 : decode prog_7_method_29_code 39 = .ok (.if_icmp .ne 7, 3) := by decide +kernel
theorem dM_isNew_42 : decode prog_7_method_29_code 42 = .ok (.iload_n 1, 1) := by decide +kernel
theorem dM_isNew_43 : decode prog_7_method_29_code 43 = .ok (.goto 4, 3) := by decide +kernel
theorem dM_isNew_46 : decode prog_7_method_29_code 46 = .ok (.iconst 0, 1) := by decide +kernel
theorem dM_isNew_47 : decode prog_7_method_29_code 47 = .ok (.istore_n 1, 1) := by decide +kernel
theorem dM_isNew_48 : decode prog_7_method_29_code 48 = .ok (.iinc 2 1, 3) := by decide +kernel
theorem dM_isNew_51 : decode prog_7_method_29_code 51 = .ok (.goto (-32), 3) := by decide +kernel
theorem dM_isNew_54 : decode prog_7_method_29_code 54 = .ok (.iload_n 1, 1) := by decide +kernel
theorem dM_isNew_55 : decode prog_7_method_29_code 55 = .ok (.ireturn, 1) := by decide +kernel
theorem dM_write_0 : decode prog_7_method_31_code 0 = .ok (.aload_n 0, 1) := by decide +kernel
theorem dM_write_1 : decode prog_7_method_31_code 1 = .ok (.iconst 0, 1) := by decide +kernel
theorem dM_write_2 : decode prog_7_method_31_code 2 = .ok (.putfield 62, 3) := by decide +kernel
theorem dM_write_5 : decode prog_7_method_31_code 5 = .ok (.aload_n 0, 1) := by decide +kernel
theorem dM_write_6 : decode prog_7_method_31_code 6 = .ok (.aload_n 0, 1) := by decide +kernel
theorem dM_write_7 : decode prog_7_method_31_code 7 = .ok (.getfield 59, 3) := by decide +kernel
theorem dM_write_10 : decode prog_7_method_31_code 10 = .ok (.sipush 256, 3) := by decide +kernel
theorem dM_write_13 : decode prog_7_method_31_code 13 = .ok (.idiv, 1) := by decide +kernel
theorem dM_write_14 : decode prog_7_method_31_code 14 = .ok (.invokevirtual 120, 3) := by decide +kernel
end
section
theorem dM_write_17 : decode prog_7_method_31_code 17 = .ok (.aload_n 0, 1) := by decide +kernel
theorem dM_write_18 : decode prog_7_method_31_code 18 = .ok (.aload_n 0, 1) := by decide +kernel
theorem dM_write_19 : decode prog_7_method_31_code 19 = .ok (.getfield 59, 3) := by decide +kernel
theorem dM_write_22 : decode prog_7_method_31_code 22 = .ok (.sipush 256, 3) := by decide +kernel
theorem dM_write_25 : decode prog_7_method_31_code 25 = .ok (.irem, 1) := by decide +kernel
theorem dM_write_26 : decode prog_7_method_31_code 26 = .ok (.invokevirtual 120, 3) := by decide +kernel
theorem dM_write_29 : decode prog_7_method_31_code 29 = .ok (.iconst 0, 1) := by decide +kernel
theorem dM_write_30 : decode prog_7_method_31_code 30 = .ok (.istore_n 1, 1) := by decide +kernel
theorem dM_write_31 : decode prog_7_method_31_code 31 = .ok (.iload_n 1, 1) := by decide +kernel
theorem dM_write_32 : decode prog_7_method_31_code 32 = .ok (.aload_n 0, 1) := by decide +kernel
theorem dM_write_33 : decode prog_7_method_31_code 33 = .ok (.getfield 56, 3) := by decide +kernel
theorem dM_write_36 : decode prog_7_method_31_code 36 = .ok (.if_icmp .ge 85, 3) := by decide +kernel
theorem dM_write_39 : decode prog_7_method_31_code 39 = .ok (.aload_n 0, 1) := by decide +kernel
theorem dM_write_40 : decode prog_7_method_31_code 40 = .ok (.bipush 64, 2) := by decide +kernel
theorem dM_write_42 : decode prog_7_method_31_code 42 = .ok (.aload_n 0, 1) := by decide +kernel
theorem dM_write_43 : decode prog_7_method_31_code 43 = .ok (.getfield 16, 3) := by decide +kernel
theorem dM_write_46 : decode prog_7_method_31_code 46 = .ok (.iload_n 1, 1) := by decide +kernel
theorem dM_write_47 : decode prog_7_method_31_code 47 = .ok (.iaload, 1) := by decide +kernel
theorem dM_write_48 : decode prog_7_method_31_code 48 = .ok (.imul, 1) := by decide +kernel
theorem dM_write_49 : decode prog_7_method_31_code 49 = .ok (.aload_n 0, 1) := by decide +kernel
theorem dM_write_50 : decode prog_7_method_31_code 50 = .ok (.getfield 22, 3) := by decide +kernel
theorem dM_write_53 : decode prog_7_method_31_code 53 = .ok (.iload_n 1, 1) := by decide +kernel
theorem dM_write_54 : decode prog_7_method_31_code 54 = .ok (.iaload, 1) := by decide +kernel
theorem dM_write_55 : decode prog_7_method_31_code 55 = .ok (.iadd, 1) := by decide +kernel
theorem dM_write_56 : decode prog_7_method_31_code 56 = .ok (.invokevirtual 120, 3) := by decide +kernel
theorem dM_write_59 : decode prog_7_method_31_code 59 = .ok (.aload_n 0, 1) := by decide +kernel
theorem dM_write_60 : decode prog_7_method_31_code 60 = .ok (.getfield 16, 3) := by decide +kernel
theorem dM_write_63 : decode prog_7_method_31_code 63 = .ok (.iload_n 1, 1) := by decide +kernel
theorem dM_write_64 : decode prog_7_method_31_code 64 = .ok (.iaload, 1) := by decide +kernel
theorem dM_write_65 : decode prog_7_method_31_code 65 = .ok (.iconst 2, 1) := by decide +kernel
theorem dM_write_66 : decode prog_7_method_31_code 66 = .ok (.if_icmp .ne 39, 3) := by decide +kernel
theorem dM_write_69 : decode prog_7_method_31_code 69 = .ok (.iconst 0, 1) := by decide +kernel
theorem dM_write_70 : decode prog_7_method_31_code 70 = .ok (.istore_n 2, 1) := by decide +kernel
theorem dM_write_71 : decode prog_7_method_31_code 71 = .ok (.iload_n 2, 1) := by decide +kernel
theorem dM_write_72 : decode prog_7_method_31_code 72 = .ok (.aload_n 0, 1) := by decide +kernel
theorem dM_write_73 : decode prog_7_method_31_code 73 = .ok (.getfield 22, 3) := by decide +kernel
theorem dM_write_76 : decode prog_7_method_31_code 76 = .ok (.iload_n 1, 1) := by decide +kernel
theorem dM_write_77 : decode prog_7_method_31_code 77 = .ok (.iaload, 1) := by decide +kernel
theorem dM_write_78 : decode prog_7_method_31_code 78 = .ok (.if_icmp .ge 24, 3) := by decide +kernel
theorem dM_write_81 : decode prog_7_method_31_code 81 = .ok (.aload_n 0, 1) := by decide +kernel
theorem dM_write_82 : decode prog_7_method_31_code 82 = .ok (.aload_n 0, 1) := by decide +kernel
theorem dM_write_83 : decode prog_7_method_31_code 83 = .ok (.getfield 25, 3) := by decide +kernel
theorem dM_write_86 : decode prog_7_method_31_code 86 = .ok (.bipush 40, 2) := by decide +kernel
theorem dM_write_88 : decode prog_7_method_31_code 88 = .ok (.iload_n 1, 1) := by decide +kernel
theorem dM_write_89 : decode prog_7_method_31_code 89 = .ok (.imul, 1) := by decide +kernel
theorem dM_write_90 : decode prog_7_method_31_code 90 = .ok (.iload_n 2, 1) := by decide +kernel
theorem dM_write_91 : decode prog_7_method_31_code 91 = .ok (.iadd, 1) := by decide +kernel
theorem dM_write_92 : decode prog_7_method_31_code 92 = .ok (.iaload, 1) := by decide +kernel
theorem dM_write_93 : decode prog_7_method_31_code 93 = .ok (.invokevirtual 120, 3) := by decide +kernel
theorem dM_write_96 : decode prog_7_method_31_code 96 = .ok (.iinc 2 1, 3) := by decide +kernel
theorem dM_write_99 : decode prog_7_method_31_code 99 = .ok (.goto (-28), 3) := by decide +kernel
theorem dM_write_102 : decode prog_7_method_31_code 102 = .ok (.goto 13, 3) := by decide +kernel
theorem dM_write_105 : decode prog_7_method_31_code 105 = .ok (.aload_n 0, 1) := by decide +kernel
theorem dM_write_106 : decode prog_7_method_31_code 106 = .ok (.aload_n 0, 1) := by decide +kernel
theorem dM_write_107 : decode prog_7_method_31_code 107 = .ok (.getfield 19, 3) := by decide +kernel
theorem dM_write_110 : decode prog_7_method_31_code 110 = .ok (.iload_n 1, 1) := by decide +kernel
theorem dM_write_111 : decode prog_7_method_31_code 111 = .ok (.iaload, 1) := by decide +kernel
theorem dM_write_112 : decode prog_7_method_31_code 112 = .ok (.invokevirtual 120, 3) := by decide +kernel
theorem dM_write_115 : decode prog_7_method_31_code 115 = .ok (.iinc 1 1, 3) := by decide +kernel
theorem dM_write_118 : decode prog_7_method_31_code 118 = .ok (.goto (-87), 3) := by decide +kernel
theorem dM_write_121 : decode prog_7_method_31_code 121 = .ok (.aload_n 0, 1) := by decide +kernel
theorem dM_write_122 : decode prog_7_method_31_code 122 = .ok (.getfield 62, 3) := by decide +kernel
theorem dM_write_125 : decode prog_7_method_31_code 125 = .ok (.ireturn, 1) := by decide +kernel
theorem dM_code1_0 : decode prog_7_method_30_code 0 = .ok (.aload_n 0, 1) := by decide +kernel
theorem dM_code1_1 : decode prog_7_method_30_code 1 = .ok (.getfield 28, 3) := by decide +kernel
theorem dM_code1_4 : decode prog_7_method_30_code 4 = .ok (.aload_n 0, 1) := by decide +kernel
theorem dM_code1_5 : decode prog_7_method_30_code 5 = .ok (.getfield 62, 3) := by decide +kernel
theorem dM_code1_8 : decode prog_7_method_30_code 8 = .ok (.iload_n 1, 1) := by decide +kernel
theorem dM_code1_9 : decode prog_7_method_30_code 9 = .ok (.iastore, 1) := by decide +kernel
theorem dM_code1_10 : decode prog_7_method_30_code 10 = .ok (.aload_n 0, 1) := by decide +kernel
theorem dM_code1_11 : decode prog_7_method_30_code 11 = .ok (.dup, 1) := by decide +kernel
theorem dM_code1_12 : decode prog_7_method_30_code 12 = .ok (.getfield 62, 3) := by decide +kernel
theorem dM_code1_15 : decode prog_7_method_30_code 15 = .ok (.iconst 1, 1) := by decide +kernel
theorem dM_code1_16 : decode prog_7_method_30_code 16 = .ok (.iadd, 1) := by decide +kernel
theorem dM_code1_17 : decode prog_7_method_30_code 17 = .ok (.putfield 62, 3) := by decide +kernel
theorem dM_code1_20 : decode prog_7_method_30_code 20 = .ok (.return_, 1) := by decide +kernel
theorem dM_code_0 : decode prog_7_method_32_code 0 = .ok (.iload_n 1, 1) := by decide +kernel
theorem dM_code_1 : decode prog_7_method_32_code 1 = .ok (.iconst 0, 1) := by decide +kernel
theorem dM_code_2 : decode prog_7_method_32_code 2 = .ok (.aload_n 0, 1) := by decide +kernel
theorem dM_code_3 : decode prog_7_method_32_code 3 = .ok (.getfield 62, 3) := by decide +kernel
theorem dM_code_6 : decode prog_7_method_32_code 6 = .ok (.iconst 1, 1) := by decide +kernel
theorem dM_code_7 : decode prog_7_method_32_code 7 = .ok (.isub, 1) := by decide +kernel
theorem dM_code_8 : decode prog_7_method_32_code 8 = .ok (.invokestatic 77, 3) := by decide +kernel
theorem dM_code_11 : decode prog_7_method_32_code 11 = .ok (.ifCond .eq 12, 3) := by decide +kernel
theorem dM_code_14 : decode prog_7_method_32_code 14 = .ok (.aload_n 0, 1) := by decide +kernel
theorem dM_code_15 : decode prog_7_method_32_code 15 = .ok (.getfield 28, 3) := by decide +kernel
theorem dM_code_18 : decode prog_7_method_32_code 18 = .ok (.iload_n 1, 1) := by decide +kernel
theorem dM_code_19 : decode prog_7_method_32_code 19 = .ok (.iaload, 1) := by decide +kernel
theorem dM_code_20 : decode prog_7_method_32_code 20 = .ok (.goto 4, 3) := by decide +kernel
theorem dM_code_23 : decode prog_7_method_32_code 23 = .ok (.iconst (-1), 1) := by decide +kernel
theorem dM_code_24 : decode prog_7_method_32_code 24 = .ok (.ireturn, 1) := by decide +kernel
theorem dM_poke_0 : decode prog_7_method_33_code 0 = .ok (.iload_n 1, 1) := by decide +kernel
theorem dM_poke_1 : decode prog_7_method_33_code 1 = .ok (.iconst 0, 1) := by decide +kernel
theorem dM_poke_2 : decode prog_7_method_33_code 2 = .ok (.aload_n 0, 1) := by decide +kernel
theorem dM_poke_3 : decode prog_7_method_33_code 3 = .ok (.getfield 62, 3) := by decide +kernel
theorem dM_poke_6 : decode prog_7_method_33_code 6 = .ok (.iconst 1, 1) := by decide +kernel
theorem dM_poke_7 : decode prog_7_method_33_code 7 = .ok (.isub, 1) := by decide +kernel
theorem dM_poke_8 : decode prog_7_method_33_code 8 = .ok (.invokestatic 77, 3) := by decide +kernel
theorem dM_poke_11 : decode prog_7_method_33_code 11 = .ok (.ifCond .eq 14, 3) := by decide +kernel
theorem dM_poke_14 : decode prog_7_method_33_code 14 = .ok (.iload_n 2, 1) := by decide +kernel
theorem dM_poke_15 : decode prog_7_method_33_code 15 = .ok (.iconst 0, 1) := by decide +kernel
theorem dM_poke_16 : decode prog_7_method_33_code 16 = .ok (.sipush 255, 3) := by decide +kernel
theorem dM_poke_19 : decode prog_7_method_33_code 19 = .ok (.invokestatic 77, 3) := by decide +kernel
theorem dM_poke_22 : decode prog_7_method_33_code 22 = .ok (.ifCond .ne 6, 3) := by decide +kernel
theorem dM_poke_25 : decode prog_7_method_33_code 25 = .ok (.bipush (-2), 2) := by decide +kernel
theorem dM_poke_27 : decode prog_7_method_33_code 27 = .ok (.ireturn, 1) := by decide +kernel
theorem dM_poke_28 : decode prog_7_method_33_code 28 = .ok (.aload_n 0, 1) := by decide +kernel
theorem dM_poke_29 : decode prog_7_method_33_code 29 = .ok (.getfield 28, 3) := by decide +kernel
theorem dM_poke_32 : decode prog_7_method_33_code 32 = .ok (.iload_n 1, 1) := by decide +kernel
theorem dM_poke_33 : decode prog_7_method_33_code 33 = .ok (.iaload, 1) := by decide +kernel
theorem dM_poke_34 : decode prog_7_method_33_code 34 = .ok (.istore_n 3, 1) := by decide +kernel
theorem dM_poke_35 : decode prog_7_method_33_code 35 = .ok (.aload_n 0, 1) := by decide +kernel
theorem dM_poke_36 : decode prog_7_method_33_code 36 = .ok (.getfield 28, 3) := by decide +kernel
theorem dM_poke_39 : decode prog_7_method_33_code 39 = .ok (.iload_n 1, 1) := by decide +kernel
theorem dM_poke_40 : decode prog_7_method_33_code 40 = .ok (.iload_n 2, 1) := by decide +kernel
theorem dM_poke_41 : decode prog_7_method_33_code 41 = .ok (.iastore, 1) := by decide +kernel
theorem dM_poke_42 : decode prog_7_method_33_code 42 = .ok (.iload_n 3, 1) := by decide +kernel
theorem dM_poke_43 : decode prog_7_method_33_code 43 = .ok (.ireturn, 1) := by decide +kernel
theorem dM_shorten_0 : decode prog_7_method_34_code 0 = .ok (.iload_n 1, 1) := by decide +kernel
theorem dM_shorten_1 : decode prog_7_method_34_code 1 = .ok (.iconst 0, 1) := by decide +kernel
theorem dM_shorten_2 : decode prog_7_method_34_code 2 = .ok (.aload_n 0, 1) := by decide +kernel
theorem dM_shorten_3 : decode prog_7_method_34_code 3 = .ok (.getfield 62, 3) := by decide +kernel
theorem dM_shorten_6 : decode prog_7_method_34_code 6 = .ok (.invokestatic 77, 3) := by decide +kernel
theorem dM_shorten_9 : decode prog_7_method_34_code 9 = .ok (.ifCond .ne 6, 3) := by decide +kernel
theorem dM_shorten_12 : decode prog_7_method_34_code 12 = .ok (.bipush (-2), 2) := by decide +kernel
theorem dM_shorten_14 : decode prog_7_method_34_code 14 = .ok (.ireturn, 1) := by decide +kernel
theorem dM_shorten_15 : decode prog_7_method_34_code 15 = .ok (.aload_n 0, 1) := by decide +kernel
theorem dM_shorten_16 : decode prog_7_method_34_code 16 = .ok (.dup, 1) := by decide +kernel
theorem dM_shorten_17 : decode prog_7_method_34_code 17 = .ok (.getfield 62, 3) := by decide +kernel
theorem dM_shorten_20 : decode prog_7_method_34_code 20 = .ok (.iload_n 1, 1) := by decide +kernel
theorem dM_shorten_21 : decode prog_7_method_34_code 21 = .ok (.isub, 1) := by decide +kernel
theorem dM_shorten_22 : decode prog_7_method_34_code 22 = .ok (.putfield 62, 3) := by decide +kernel
theorem dM_shorten_25 : decode prog_7_method_34_code 25 = .ok (.aload_n 0, 1) := by decide +kernel
theorem dM_shorten_26 : decode prog_7_method_34_code 26 = .ok (.getfield 62, 3) := by decide +kernel
theorem dM_shorten_29 : decode prog_7_method_34_code 29 = .ok (.ireturn, 1) := by decide +kernel
theorem dM_read_0 : decode prog_7_method_36_code 0 = .ok (.aload_n 0, 1) := by decide +kernel
theorem dM_read_1 : decode prog_7_method_36_code 1 = .ok (.invokevirtual 124, 3) := by decide +kernel
theorem dM_read_4 : decode prog_7_method_36_code 4 = .ok (.istore_n 1, 1) := by decide +kernel
theorem dM_read_5 : decode prog_7_method_36_code 5 = .ok (.iload_n 1, 1) := by decide +kernel
theorem dM_read_6 : decode prog_7_method_36_code 6 = .ok (.iconst (-1), 1) := by decide +kernel
theorem dM_read_7 : decode prog_7_method_36_code 7 = .ok (.if_icmp .eq 9, 3) := by decide +kernel
theorem dM_read_10 : decode prog_7_method_36_code 10 = .ok (.sipush (-1000), 3) := by decide +kernel
theorem dM_read_13 : decode prog_7_method_36_code 13 = .ok (.iload_n 1, 1) := by decide +kernel
theorem dM_read_14 : decode prog_7_method_36_code 14 = .ok (.isub, 1) := by decide +kernel
theorem dM_read_15 : decode prog_7_method_36_code 15 = .ok (.ireturn, 1) := by decide +kernel
theorem dM_read_16 : decode prog_7_method_36_code 16 = .ok (.aload_n 0, 1) := by decide +kernel
theorem dM_read_17 : decode prog_7_method_36_code 17 = .ok (.sipush 256, 3) := by decide +kernel
theorem dM_read_20 : decode prog_7_method_36_code 20 = .ok (.aload_n 0, 1) := by decide +kernel
theorem dM_read_21 : decode prog_7_method_36_code 21 = .ok (.getfield 28, 3) := by decide +kernel
theorem dM_read_24 : decode prog_7_method_36_code 24 = .ok (.iconst 0, 1) := by decide +kernel
theorem dM_read_25 : decode prog_7_method_36_code 25 = .ok (.iaload, 1) := by decide +kernel
theorem dM_read_26 : decode prog_7_method_36_code 26 = .ok (.imul, 1) := by decide +kernel
theorem dM_read_27 : decode prog_7_method_36_code 27 = .ok (.aload_n 0, 1) := by decide +kernel
theorem dM_read_28 : decode prog_7_method_36_code 28 = .ok (.getfield 28, 3) := by decide +kernel
theorem dM_read_31 : decode prog_7_method_36_code 31 = .ok (.iconst 1, 1) := by decide +kernel
theorem dM_read_32 : decode prog_7_method_36_code 32 = .ok (.iaload, 1) := by decide +kernel
theorem dM_read_33 : decode prog_7_method_36_code 33 = .ok (.iadd, 1) := by decide +kernel
theorem dM_read_34 : decode prog_7_method_36_code 34 = .ok (.putfield 59, 3) := by decide +kernel
theorem dM_read_37 : decode prog_7_method_36_code 37 = .ok (.aload_n 0, 1) := by decide +kernel
theorem dM_read_38 : decode prog_7_method_36_code 38 = .ok (.iconst 0, 1) := by decide +kernel
theorem dM_read_39 : decode prog_7_method_36_code 39 = .ok (.putfield 56, 3) := by decide +kernel
theorem dM_read_42 : decode prog_7_method_36_code 42 = .ok (.iconst 2, 1) := by decide +kernel
theorem dM_read_43 : decode prog_7_method_36_code 43 = .ok (.istore_n 2, 1) := by decide +kernel
theorem dM_read_44 : decode prog_7_method_36_code 44 = .ok (.iload_n 2, 1) := by decide +kernel
theorem dM_read_45 : decode prog_7_method_36_code 45 = .ok (.aload_n 0, 1) := by decide +kernel
theorem dM_read_46 : decode prog_7_method_36_code 46 = .ok (.getfield 62, 3) := by decide +kernel
theorem dM_read_49 : decode prog_7_method_36_code 49 = .ok (.if_icmp .ge 147, 3) := by decide +kernel
theorem dM_read_52 : decode prog_7_method_36_code 52 = .ok (.aload_n 0, 1) := by decide +kernel
theorem dM_read_53 : decode prog_7_method_36_code 53 = .ok (.getfield 28, 3) := by decide +kernel
theorem dM_read_56 : decode prog_7_method_36_code 56 = .ok (.iload_n 2, 1) := by decide +kernel
theorem dM_read_57 : decode prog_7_method_36_code 57 = .ok (.iaload, 1) := by decide +kernel
theorem dM_read_58 : decode prog_7_method_36_code 58 = .ok (.bipush 64, 2) := by decide +kernel
theorem dM_read_60 : decode prog_7_method_36_code 60 = .ok (.idiv, 1) := by decide +kernel
theorem dM_read_61 : decode prog_7_method_36_code 61 = .ok (.istore_n 3, 1) := by decide +kernel
theorem dM_read_62 : decode prog_7_method_36_code 62 = .ok (.aload_n 0, 1) := by decide +kernel
theorem dM_read_63 : decode prog_7_method_36_code 63 = .ok (.getfield 28, 3) := by decide +kernel
theorem dM_read_66 : decode prog_7_method_36_code 66 = .ok (.iload_n 2, 1) := by decide +kernel
theorem dM_read_67 : decode prog_7_method_36_code 67 = .ok (.iaload, 1) := by decide +kernel
theorem dM_read_68 : decode prog_7_method_36_code 68 = .ok (.bipush 64, 2) := by decide +kernel
theorem dM_read_70 : decode prog_7_method_36_code 70 = .ok (.irem, 1) := by decide +kernel
theorem dM_read_71 : decode prog_7_method_36_code 71 = .ok (.istore 4, 2) := by decide +kernel
theorem dM_read_73 : decode prog_7_method_36_code 73 = .ok (.aload_n 0, 1) := by decide +kernel
theorem dM_read_74 : decode prog_7_method_36_code 74 = .ok (.getfield 16, 3) := by decide +kernel
theorem dM_read_77 : decode prog_7_method_36_code 77 = .ok (.aload_n 0, 1) := by decide +kernel
theorem dM_read_78 : decode prog_7_method_36_code 78 = .ok (.getfield 56, 3) := by decide +kernel
theorem dM_read_81 : decode prog_7_method_36_code 81 = .ok (.iload_n 3, 1) := by decide +kernel
theorem dM_read_82 : decode prog_7_method_36_code 82 = .ok (.iastore, 1) := by decide +kernel
theorem dM_read_83 : decode prog_7_method_36_code 83 = .ok (.aload_n 0, 1) := by decide +kernel
theorem dM_read_84 : decode prog_7_method_36_code 84 = .ok (.getfield 22, 3) := by decide +kernel
theorem dM_read_87 : decode prog_7_method_36_code 87 = .ok (.aload_n 0, 1) := by decide +kernel
theorem dM_read_88 : decode prog_7_method_36_code 88 = .ok (.getfield 56, 3) := by decide +kernel
theorem dM_read_91 : decode prog_7_method_36_code 91 = .ok (.iload 4, 2) := by decide +kernel
theorem dM_read_93 : decode prog_7_method_36_code 93 = .ok (.iastore, 1) := by decide +kernel
theorem dM_read_94 : decode prog_7_method_36_code 94 = .ok (.aload_n 0, 1) := by decide +kernel
theorem dM_read_95 : decode prog_7_method_36_code 95 = .ok (.getfield 19, 3) := by decide +kernel
theorem dM_read_98 : decode prog_7_method_36_code 98 = .ok (.aload_n 0, 1) := by decide +kernel
theorem dM_read_99 : decode prog_7_method_36_code 99 = .ok (.getfield 56, 3) := by decide +kernel
theorem dM_read_102 : decode prog_7_method_36_code 102 = .ok (.iload_n 3, 1) := by decide +kernel
theorem dM_read_103 : decode prog_7_method_36_code 103 = .ok (.iconst 2, 1) := by decide +kernel
theorem dM_read_104 : decode prog_7_method_36_code 104 = .ok (.if_icmp .ne 7, 3) := by decide +kernel
theorem dM_read_107 : decode prog_7_method_36_code 107 = .ok (.iconst 0, 1) := by decide +kernel
theorem dM_read_108 : decode prog_7_method_36_code 108 = .ok (.goto 11, 3) := by decide +kernel
theorem dM_read_111 : decode prog_7_method_36_code 111 = .ok (.aload_n 0, 1) := by decide +kernel
theorem dM_read_112 : decode prog_7_method_36_code 112 = .ok (.getfield 28, 3) := by decide +kernel
theorem dM_read_115 : decode prog_7_method_36_code 115 = .ok (.iload_n 2, 1) := by decide +kernel
theorem dM_read_116 : decode prog_7_method_36_code 116 = .ok (.iconst 1, 1) := by decide +kernel
theorem dM_read_117 : decode prog_7_method_36_code 117 = .ok (.iadd, 1) := by decide +kernel
theorem dM_read_118 : decode prog_7_method_36_code 118 = .ok (.iaload, 1) := by decide +kernel
theorem dM_read_119 : decode prog_7_method_36_code 119 = .ok (.iastore, 1) := by decide +kernel
theorem dM_read_120 : decode prog_7_method_36_code 120 = .ok (.iconst 0, 1) := by decide +kernel
theorem dM_read_121 : decode prog_7_method_36_code 121 = .ok (.istore 5, 2) := by decide +kernel
theorem dM_read_123 : decode prog_7_method_36_code 123 = .ok (.iload 5, 2) := by decide +kernel
theorem dM_read_125 : decode prog_7_method_36_code 125 = .ok (.iload 4, 2) := by decide +kernel
theorem dM_read_127 : decode prog_7_method_36_code 127 = .ok (.if_icmp .ge 40, 3) := by decide +kernel
theorem dM_read_130 : decode prog_7_method_36_code 130 = .ok (.iload_n 3, 1) := by decide +kernel
theorem dM_read_131 : decode prog_7_method_36_code 131 = .ok (.iconst 2, 1) := by decide +kernel
theorem dM_read_132 : decode prog_7_method_36_code 132 = .ok (.if_icmp .ne 35, 3) := by decide +kernel
theorem dM_read_135 : decode prog_7_method_36_code 135 = .ok (.aload_n 0, 1) := by decide +kernel
theorem dM_read_136 : decode prog_7_method_36_code 136 = .ok (.getfield 25, 3) := by decide +kernel
theorem dM_read_139 : decode prog_7_method_36_code 139 = .ok (.bipush 40, 2) := by decide +kernel
theorem dM_read_141 : decode prog_7_method_36_code 141 = .ok (.aload_n 0, 1) := by decide +kernel
theorem dM_read_142 : decode prog_7_method_36_code 142 = .ok (.getfield 56, 3) := by decide +kernel
theorem dM_read_145 : decode prog_7_method_36_code 145 = .ok (.imul, 1) := by decide +kernel
theorem dM_read_146 : decode prog_7_method_36_code 146 = .ok (.iload 5, 2) := by decide +kernel
theorem dM_read_148 : decode prog_7_method_36_code 148 = .ok (.iadd, 1) := by decide +kernel
theorem dM_read_149 : decode prog_7_method_36_code 149 = .ok (.aload_n 0, 1) := by decide +kernel
theorem dM_read_150 : decode prog_7_method_36_code 150 = .ok (.getfield 28, 3) := by decide +kernel
theorem dM_read_153 : decode prog_7_method_36_code 153 = .ok (.iload_n 2, 1) := by decide +kernel
theorem dM_read_154 : decode prog_7_method_36_code 154 = .ok (.iconst 1, 1) := by decide +kernel
theorem dM_read_155 : decode prog_7_method_36_code 155 = .ok (.iadd, 1) := by decide +kernel
theorem dM_read_156 : decode prog_7_method_36_code 156 = .ok (.iload 5, 2) := by decide +kernel
theorem dM_read_158 : decode prog_7_method_36_code 158 = .ok (.iadd, 1) := by decide +kernel
theorem dM_read_159 : decode prog_7_method_36_code 159 = .ok (.iaload, 1) := by decide +kernel
theorem dM_read_160 : decode prog_7_method_36_code 160 = .ok (.iastore, 1) := by decide +kernel
theorem dM_read_161 : decode prog_7_method_36_code 161 = .ok (.iinc 5 1, 3) := by decide +kernel
theorem dM_read_164 : decode prog_7_method_36_code 164 = .ok (.goto (-41), 3) := by decide +kernel
theorem dM_read_167 : decode prog_7_method_36_code 167 = .ok (.iload_n 2, 1) := by decide +kernel
theorem dM_read_168 : decode prog_7_method_36_code 168 = .ok (.iconst 1, 1) := by decide +kernel
theorem dM_read_169 : decode prog_7_method_36_code 169 = .ok (.iload_n 3, 1) := by decide +kernel
theorem dM_read_170 : decode prog_7_method_36_code 170 = .ok (.iconst 2, 1) := by decide +kernel
theorem dM_read_171 : decode prog_7_method_36_code 171 = .ok (.if_icmp .ne 8, 3) := by decide +kernel
theorem dM_read_174 : decode prog_7_method_36_code 174 = .ok (.iload 4, 2) := by decide +kernel
theorem dM_read_176 : decode prog_7_method_36_code 176 = .ok (.goto 4, 3) := by decide +kernel
theorem dM_read_179 : decode prog_7_method_36_code 179 = .ok (.iconst 1, 1) := by decide +kernel
theorem dM_read_180 : decode prog_7_method_36_code 180 = .ok (.iadd, 1) := by decide +kernel
theorem dM_read_181 : decode prog_7_method_36_code 181 = .ok (.iadd, 1) := by decide +kernel
theorem dM_read_182 : decode prog_7_method_36_code 182 = .ok (.istore_n 2, 1) := by decide +kernel
theorem dM_read_183 : decode prog_7_method_36_code 183 = .ok (.aload_n 0, 1) := by decide +kernel
theorem dM_read_184 : decode prog_7_method_36_code 184 = .ok (.dup, 1) := by decide +kernel
theorem dM_read_185 : decode prog_7_method_36_code 185 = .ok (.getfield 56, 3) := by decide +kernel
theorem dM_read_188 : decode prog_7_method_36_code 188 = .ok (.iconst 1, 1) := by decide +kernel
theorem dM_read_189 : decode prog_7_method_36_code 189 = .ok (.iadd, 1) := by decide +kernel
theorem dM_read_190 : decode prog_7_method_36_code 190 = .ok (.putfield 56, 3) := by decide +kernel
theorem dM_read_193 : decode prog_7_method_36_code 193 = .ok (.goto (-149), 3) := by decide +kernel
theorem dM_read_196 : decode prog_7_method_36_code 196 = .ok (.aload_n 0, 1) := by decide +kernel
theorem dM_read_197 : decode prog_7_method_36_code 197 = .ok (.getfield 56, 3) := by decide +kernel
theorem dM_read_200 : decode prog_7_method_36_code 200 = .ok (.ireturn, 1) := by decide +kernel
theorem dM_faultOf_0 : decode prog_7_method_35_code 0 = .ok (.aload_n 0, 1) := by decide +kernel
theorem dM_faultOf_1 : decode prog_7_method_35_code 1 = .ok (.getfield 62, 3) := by decide +kernel
theorem dM_faultOf_4 : decode prog_7_method_35_code 4 = .ok (.iconst 2, 1) := by decide +kernel
theorem dM_faultOf_5 : decode prog_7_method_35_code 5 = .ok (.if_icmp .ge 8, 3) := by decide +kernel
theorem dM_faultOf_8 : decode prog_7_method_35_code 8 = .ok (.aload_n 0, 1) := by decide +kernel
theorem dM_faultOf_9 : decode prog_7_method_35_code 9 = .ok (.getfield 62, 3) := by decide +kernel
theorem dM_faultOf_12 : decode prog_7_method_35_code 12 = .ok (.ireturn, 1) := by decide +kernel
theorem dM_faultOf_13 : decode prog_7_method_35_code 13 = .ok (.iconst 2, 1) := by decide +kernel
theorem dM_faultOf_14 : decode prog_7_method_35_code 14 = .ok (.istore_n 1, 1) := by decide +kernel
theorem dM_faultOf_15 : decode prog_7_method_35_code 15 = .ok (.iconst 0, 1) := by decide +kernel
theorem dM_faultOf_16 : decode prog_7_method_35_code 16 = .ok (.istore_n 2, 1) := by decide +kernel
theorem dM_faultOf_17 : decode prog_7_method_35_code 17 = .ok (.iload_n 1, 1) := by decide +kernel
theorem dM_faultOf_18 : decode prog_7_method_35_code 18 = .ok (.aload_n 0, 1) := by decide +kernel
theorem dM_faultOf_19 : decode prog_7_method_35_code 19 = .ok (.getfield 62, 3) := by decide +kernel
theorem dM_faultOf_22 : decode prog_7_method_35_code 22 = .ok (.if_icmp .ge 111, 3) := by decide +kernel
theorem dM_faultOf_25 : decode prog_7_method_35_code 25 = .ok (.aload_n 0, 1) := by decide +kernel
theorem dM_faultOf_26 : decode prog_7_method_35_code 26 = .ok (.getfield 28, 3) := by decide +kernel
theorem dM_faultOf_29 : decode prog_7_method_35_code 29 = .ok (.iload_n 1, 1) := by decide +kernel
theorem dM_faultOf_30 : decode prog_7_method_35_code 30 = .ok (.iaload, 1) := by decide +kernel
theorem dM_faultOf_31 : decode prog_7_method_35_code 31 = .ok (.bipush 64, 2) := by decide +kernel
theorem dM_faultOf_33 : decode prog_7_method_35_code 33 = .ok (.idiv, 1) := by decide +kernel
theorem dM_faultOf_34 : decode prog_7_method_35_code 34 = .ok (.istore_n 3, 1) := by decide +kernel
theorem dM_faultOf_35 : decode prog_7_method_35_code 35 = .ok (.aload_n 0, 1) := by decide +kernel
theorem dM_faultOf_36 : decode prog_7_method_35_code 36 = .ok (.getfield 28, 3) := by decide +kernel
theorem dM_faultOf_39 : decode prog_7_method_35_code 39 = .ok (.iload_n 1, 1) := by decide +kernel
theorem dM_faultOf_40 : decode prog_7_method_35_code 40 = .ok (.iaload, 1) := by decide +kernel
theorem dM_faultOf_41 : decode prog_7_method_35_code 41 = .ok (.bipush 64, 2) := by decide +kernel
theorem dM_faultOf_43 : decode prog_7_method_35_code 43 = .ok (.irem, 1) := by decide +kernel
theorem dM_faultOf_44 : decode prog_7_method_35_code 44 = .ok (.istore 4, 2) := by decide +kernel
theorem dM_faultOf_46 : decode prog_7_method_35_code 46 = .ok (.iload_n 2, 1) := by decide +kernel
theorem dM_faultOf_47 : decode prog_7_method_35_code 47 = .ok (.bipush 100, 2) := by decide +kernel
theorem dM_faultOf_49 : decode prog_7_method_35_code 49 = .ok (.if_icmp .eq 20, 3) := by decide +kernel
theorem dM_faultOf_52 : decode prog_7_method_35_code 52 = .ok (.iload_n 3, 1) := by decide +kernel
theorem dM_faultOf_53 : decode prog_7_method_35_code 53 = .ok (.iconst 2, 1) := by decide +kernel
theorem dM_faultOf_54 : decode prog_7_method_35_code 54 = .ok (.if_icmp .gt 15, 3) := by decide +kernel
theorem dM_faultOf_57 : decode prog_7_method_35_code 57 = .ok (.iload 4, 2) := by decide +kernel
theorem dM_faultOf_59 : decode prog_7_method_35_code 59 = .ok (.ifCond .eq 10, 3) := by decide +kernel
theorem dM_faultOf_62 : decode prog_7_method_35_code 62 = .ok (.iload 4, 2) := by decide +kernel
theorem dM_faultOf_64 : decode prog_7_method_35_code 64 = .ok (.bipush 40, 2) := by decide +kernel
theorem dM_faultOf_66 : decode prog_7_method_35_code 66 = .ok (.if_icmp .le 5, 3) := by decide +kernel
theorem dM_faultOf_69 : decode prog_7_method_35_code 69 = .ok (.iload_n 1, 1) := by decide +kernel
theorem dM_faultOf_70 : decode prog_7_method_35_code 70 = .ok (.ireturn, 1) := by decide +kernel
theorem dM_faultOf_71 : decode prog_7_method_35_code 71 = .ok (.iload_n 1, 1) := by decide +kernel
theorem dM_faultOf_72 : decode prog_7_method_35_code 72 = .ok (.iconst 1, 1) := by decide +kernel
theorem dM_faultOf_73 : decode prog_7_method_35_code 73 = .ok (.iadd, 1) := by decide +kernel
theorem dM_faultOf_74 : decode prog_7_method_35_code 74 = .ok (.iload_n 3, 1) := by decide +kernel
theorem dM_faultOf_75 : decode prog_7_method_35_code 75 = .ok (.iconst 2, 1) := by decide +kernel
theorem dM_faultOf_76 : decode prog_7_method_35_code 76 = .ok (.if_icmp .ne 8, 3) := by decide +kernel
theorem dM_faultOf_79 : decode prog_7_method_35_code 79 = .ok (.iload 4, 2) := by decide +kernel
theorem dM_faultOf_81 : decode prog_7_method_35_code 81 = .ok (.goto 4, 3) := by decide +kernel
theorem dM_faultOf_84 : decode prog_7_method_35_code 84 = .ok (.iconst 1, 1) := by decide +kernel
theorem dM_faultOf_85 : decode prog_7_method_35_code 85 = .ok (.iadd, 1) := by decide +kernel
theorem dM_faultOf_86 : decode prog_7_method_35_code 86 = .ok (.istore 5, 2) := by decide +kernel
theorem dM_faultOf_88 : decode prog_7_method_35_code 88 = .ok (.iload 5, 2) := by decide +kernel
theorem dM_faultOf_90 : decode prog_7_method_35_code 90 = .ok (.aload_n 0, 1) := by decide +kernel
theorem dM_faultOf_91 : decode prog_7_method_35_code 91 = .ok (.getfield 62, 3) := by decide +kernel
theorem dM_faultOf_94 : decode prog_7_method_35_code 94 = .ok (.if_icmp .le 8, 3) := by decide +kernel
theorem dM_faultOf_97 : decode prog_7_method_35_code 97 = .ok (.aload_n 0, 1) := by decide +kernel
theorem dM_faultOf_98 : decode prog_7_method_35_code 98 = .ok (.getfield 62, 3) := by decide +kernel
theorem dM_faultOf_101 : decode prog_7_method_35_code 101 = .ok (.ireturn, 1) := by decide +kernel
theorem dM_faultOf_102 : decode prog_7_method_35_code 102 = .ok (.iload_n 3, 1) := by decide +kernel
theorem dM_faultOf_103 : decode prog_7_method_35_code 103 = .ok (.iconst 2, 1) := by decide +kernel
theorem dM_faultOf_104 : decode prog_7_method_35_code 104 = .ok (.if_icmp .ge 20, 3) := by decide +kernel
theorem dM_faultOf_107 : decode prog_7_method_35_code 107 = .ok (.aload_n 0, 1) := by decide +kernel
theorem dM_faultOf_108 : decode prog_7_method_35_code 108 = .ok (.getfield 28, 3) := by decide +kernel
theorem dM_faultOf_111 : decode prog_7_method_35_code 111 = .ok (.iload_n 1, 1) := by decide +kernel
theorem dM_faultOf_112 : decode prog_7_method_35_code 112 = .ok (.iconst 1, 1) := by decide +kernel
theorem dM_faultOf_113 : decode prog_7_method_35_code 113 = .ok (.iadd, 1) := by decide +kernel
theorem dM_faultOf_114 : decode prog_7_method_35_code 114 = .ok (.iaload, 1) := by decide +kernel
theorem dM_faultOf_115 : decode prog_7_method_35_code 115 = .ok (.bipush 79, 2) := by decide +kernel
theorem dM_faultOf_117 : decode prog_7_method_35_code 117 = .ok (.if_icmp .le 7, 3) := by decide +kernel
theorem dM_faultOf_120 : decode prog_7_method_35_code 120 = .ok (.iload_n 1, 1) := by decide +kernel
theorem dM_faultOf_121 : decode prog_7_method_35_code 121 = .ok (.iconst 1, 1) := by decide +kernel
theorem dM_faultOf_122 : decode prog_7_method_35_code 122 = .ok (.iadd, 1) := by decide +kernel
theorem dM_faultOf_123 : decode prog_7_method_35_code 123 = .ok (.ireturn, 1) := by decide +kernel
theorem dM_faultOf_124 : decode prog_7_method_35_code 124 = .ok (.iload 5, 2) := by decide +kernel
theorem dM_faultOf_126 : decode prog_7_method_35_code 126 = .ok (.istore_n 1, 1) := by decide +kernel
theorem dM_faultOf_127 : decode prog_7_method_35_code 127 = .ok (.iinc 2 1, 3) := by decide +kernel
theorem dM_faultOf_130 : decode prog_7_method_35_code 130 = .ok (.goto (-113), 3) := by decide +kernel
theorem dM_faultOf_133 : decode prog_7_method_35_code 133 = .ok (.iconst (-1), 1) := by decide +kernel
theorem dM_faultOf_134 : decode prog_7_method_35_code 134 = .ok (.ireturn, 1) := by decide +kernel
theorem dM_moved_0 : decode prog_7_method_37_code 0 = .ok (.iload_n 1, 1) := by decide +kernel
theorem dM_moved_1 : decode prog_7_method_37_code 1 = .ok (.iconst 0, 1) := by decide +kernel
theorem dM_moved_2 : decode prog_7_method_37_code 2 = .ok (.iconst 4, 1) := by decide +kernel
theorem dM_moved_3 : decode prog_7_method_37_code 3 = .ok (.invokestatic 77, 3) := by decide +kernel
theorem dM_moved_6 : decode prog_7_method_37_code 6 = .ok (.ifCond .ne 6, 3) := by decide +kernel
theorem dM_moved_9 : decode prog_7_method_37_code 9 = .ok (.bipush (-2), 2) := by decide +kernel
theorem dM_moved_11 : decode prog_7_method_37_code 11 = .ok (.ireturn, 1) := by decide +kernel
theorem dM_moved_12 : decode prog_7_method_37_code 12 = .ok (.aload_n 0, 1) := by decide +kernel
theorem dM_moved_13 : decode prog_7_method_37_code 13 = .ok (.invokevirtual 103, 3) := by decide +kernel
theorem dM_moved_16 : decode prog_7_method_37_code 16 = .ok (.iconst 0, 1) := by decide +kernel
theorem dM_moved_17 : decode prog_7_method_37_code 17 = .ok (.istore_n 2, 1) := by decide +kernel
theorem dM_moved_18 : decode prog_7_method_37_code 18 = .ok (.iconst 0, 1) := by decide +kernel
theorem dM_moved_19 : decode prog_7_method_37_code 19 = .ok (.istore_n 3, 1) := by decide +kernel
theorem dM_moved_20 : decode prog_7_method_37_code 20 = .ok (.iconst 0, 1) := by decide +kernel
theorem dM_moved_21 : decode prog_7_method_37_code 21 = .ok (.istore 4, 2) := by decide +kernel
theorem dM_moved_23 : decode prog_7_method_37_code 23 = .ok (.iload_n 3, 1) := by decide +kernel
theorem dM_moved_24 : decode prog_7_method_37_code 24 = .ok (.aload_n 0, 1) := by decide +kernel
theorem dM_moved_25 : decode prog_7_method_37_code 25 = .ok (.getfield 13, 3) := by decide +kernel
theorem dM_moved_28 : decode prog_7_method_37_code 28 = .ok (.iconst 1, 1) := by decide +kernel
theorem dM_moved_29 : decode prog_7_method_37_code 29 = .ok (.iaload, 1) := by decide +kernel
theorem dM_moved_30 : decode prog_7_method_37_code 30 = .ok (.if_icmp .ge 112, 3) := by decide +kernel
theorem dM_moved_33 : decode prog_7_method_37_code 33 = .ok (.aload_n 0, 1) := by decide +kernel
theorem dM_moved_34 : decode prog_7_method_37_code 34 = .ok (.iload_n 3, 1) := by decide +kernel
theorem dM_moved_35 : decode prog_7_method_37_code 35 = .ok (.iload 4, 2) := by decide +kernel
theorem dM_moved_37 : decode prog_7_method_37_code 37 = .ok (.invokevirtual 110, 3) := by decide +kernel
theorem dM_moved_40 : decode prog_7_method_37_code 40 = .ok (.aload_n 0, 1) := by decide +kernel
theorem dM_moved_41 : decode prog_7_method_37_code 41 = .ok (.getfield 94, 3) := by decide +kernel
theorem dM_moved_44 : decode prog_7_method_37_code 44 = .ok (.ifCond .ne 33, 3) := by decide +kernel
theorem dM_moved_47 : decode prog_7_method_37_code 47 = .ok (.aload_n 0, 1) := by decide +kernel
theorem dM_moved_48 : decode prog_7_method_37_code 48 = .ok (.getfield 97, 3) := by decide +kernel
theorem dM_moved_51 : decode prog_7_method_37_code 51 = .ok (.iload 4, 2) := by decide +kernel
theorem dM_moved_53 : decode prog_7_method_37_code 53 = .ok (.if_icmp .ge 7, 3) := by decide +kernel
theorem dM_moved_56 : decode prog_7_method_37_code 56 = .ok (.iconst 0, 1) := by decide +kernel
theorem dM_moved_57 : decode prog_7_method_37_code 57 = .ok (.goto 33, 3) := by decide +kernel
theorem dM_moved_60 : decode prog_7_method_37_code 60 = .ok (.aload_n 0, 1) := by decide +kernel
theorem dM_moved_61 : decode prog_7_method_37_code 61 = .ok (.getfield 97, 3) := by decide +kernel
theorem dM_moved_64 : decode prog_7_method_37_code 64 = .ok (.iload 4, 2) := by decide +kernel
theorem dM_moved_66 : decode prog_7_method_37_code 66 = .ok (.if_icmp .ne 7, 3) := by decide +kernel
theorem dM_moved_69 : decode prog_7_method_37_code 69 = .ok (.iconst 1, 1) := by decide +kernel
theorem dM_moved_70 : decode prog_7_method_37_code 70 = .ok (.goto 20, 3) := by decide +kernel
theorem dM_moved_73 : decode prog_7_method_37_code 73 = .ok (.iconst 2, 1) := by decide +kernel
theorem dM_moved_74 : decode prog_7_method_37_code 74 = .ok (.goto 16, 3) := by decide +kernel
theorem dM_moved_77 : decode prog_7_method_37_code 77 = .ok (.aload_n 0, 1) := by decide +kernel
theorem dM_moved_78 : decode prog_7_method_37_code 78 = .ok (.getfield 94, 3) := by decide +kernel
theorem dM_moved_81 : decode prog_7_method_37_code 81 = .ok (.iconst 1, 1) := by decide +kernel
theorem dM_moved_82 : decode prog_7_method_37_code 82 = .ok (.if_icmp .ne 7, 3) := by decide +kernel
theorem dM_moved_85 : decode prog_7_method_37_code 85 = .ok (.iconst 3, 1) := by decide +kernel
theorem dM_moved_86 : decode prog_7_method_37_code 86 = .ok (.goto 4, 3) := by decide +kernel
theorem dM_moved_89 : decode prog_7_method_37_code 89 = .ok (.iconst 4, 1) := by decide +kernel
theorem dM_moved_90 : decode prog_7_method_37_code 90 = .ok (.istore 5, 2) := by decide +kernel
theorem dM_moved_92 : decode prog_7_method_37_code 92 = .ok (.iload_n 2, 1) := by decide +kernel
theorem dM_moved_93 : decode prog_7_method_37_code 93 = .ok (.iload 5, 2) := by decide +kernel
theorem dM_moved_95 : decode prog_7_method_37_code 95 = .ok (.iload_n 1, 1) := by decide +kernel
theorem dM_moved_96 : decode prog_7_method_37_code 96 = .ok (.if_icmp .ne 10, 3) := by decide +kernel
theorem dM_moved_99 : decode prog_7_method_37_code 99 = .ok (.aload_n 0, 1) := by decide +kernel
theorem dM_moved_100 : decode prog_7_method_37_code 100 = .ok (.getfield 100, 3) := by decide +kernel
theorem dM_moved_103 : decode prog_7_method_37_code 103 = .ok (.goto 4, 3) := by decide +kernel
theorem dM_moved_106 : decode prog_7_method_37_code 106 = .ok (.iconst 0, 1) := by decide +kernel
theorem dM_moved_107 : decode prog_7_method_37_code 107 = .ok (.iadd, 1) := by decide +kernel
theorem dM_moved_108 : decode prog_7_method_37_code 108 = .ok (.istore_n 2, 1) := by decide +kernel
theorem dM_moved_109 : decode prog_7_method_37_code 109 = .ok (.aload_n 0, 1) := by decide +kernel
theorem dM_moved_110 : decode prog_7_method_37_code 110 = .ok (.getfield 94, 3) := by decide +kernel
theorem dM_moved_113 : decode prog_7_method_37_code 113 = .ok (.ifCond .ne 15, 3) := by decide +kernel
theorem dM_moved_116 : decode prog_7_method_37_code 116 = .ok (.aload_n 0, 1) := by decide +kernel
theorem dM_moved_117 : decode prog_7_method_37_code 117 = .ok (.getfield 97, 3) := by decide +kernel
theorem dM_moved_120 : decode prog_7_method_37_code 120 = .ok (.aload_n 0, 1) := by decide +kernel
theorem dM_moved_121 : decode prog_7_method_37_code 121 = .ok (.getfield 100, 3) := by decide +kernel
theorem dM_moved_124 : decode prog_7_method_37_code 124 = .ok (.iadd, 1) := by decide +kernel
theorem dM_moved_125 : decode prog_7_method_37_code 125 = .ok (.goto 5, 3) := by decide +kernel
theorem dM_moved_128 : decode prog_7_method_37_code 128 = .ok (.iload 4, 2) := by decide +kernel
theorem dM_moved_130 : decode prog_7_method_37_code 130 = .ok (.istore 4, 2) := by decide +kernel
theorem dM_moved_132 : decode prog_7_method_37_code 132 = .ok (.iload_n 3, 1) := by decide +kernel
theorem dM_moved_133 : decode prog_7_method_37_code 133 = .ok (.aload_n 0, 1) := by decide +kernel
theorem dM_moved_134 : decode prog_7_method_37_code 134 = .ok (.getfield 100, 3) := by decide +kernel
theorem dM_moved_137 : decode prog_7_method_37_code 137 = .ok (.iadd, 1) := by decide +kernel
theorem dM_moved_138 : decode prog_7_method_37_code 138 = .ok (.istore_n 3, 1) := by decide +kernel
theorem dM_moved_139 : decode prog_7_method_37_code 139 = .ok (.goto (-116), 3) := by decide +kernel
theorem dM_moved_142 : decode prog_7_method_37_code 142 = .ok (.iload_n 2, 1) := by decide +kernel
theorem dM_moved_143 : decode prog_7_method_37_code 143 = .ok (.ireturn, 1) := by decide +kernel
theorem dM_of_0 : decode prog_7_method_38_code 0 = .ok (.iload_n 1, 1) := by decide +kernel
theorem dM_of_1 : decode prog_7_method_38_code 1 = .ok (.tableswitch 138 0 12 #[67, 74, 81, 86, 91, 96, 102, 108, 113, 118, 123, 128, 133], 67) := by decide +kernel
theorem dM_of_68 : decode prog_7_method_38_code 68 = .ok (.aload_n 0, 1) := by decide +kernel
theorem dM_of_69 : decode prog_7_method_38_code 69 = .ok (.getfield 13, 3) := by decide +kernel
theorem dM_of_72 : decode prog_7_method_38_code 72 = .ok (.iconst 0, 1) := by decide +kernel
theorem dM_of_73 : decode prog_7_method_38_code 73 = .ok (.iaload, 1) := by decide +kernel
theorem dM_of_74 : decode prog_7_method_38_code 74 = .ok (.ireturn, 1) := by decide +kernel
theorem dM_of_75 : decode prog_7_method_38_code 75 = .ok (.aload_n 0, 1) := by decide +kernel
theorem dM_of_76 : decode prog_7_method_38_code 76 = .ok (.getfield 13, 3) := by decide +kernel
theorem dM_of_79 : decode prog_7_method_38_code 79 = .ok (.iconst 1, 1) := by decide +kernel
theorem dM_of_80 : decode prog_7_method_38_code 80 = .ok (.iaload, 1) := by decide +kernel
theorem dM_of_81 : decode prog_7_method_38_code 81 = .ok (.ireturn, 1) := by decide +kernel
theorem dM_of_82 : decode prog_7_method_38_code 82 = .ok (.aload_n 0, 1) := by decide +kernel
theorem dM_of_83 : decode prog_7_method_38_code 83 = .ok (.getfield 56, 3) := by decide +kernel
theorem dM_of_86 : decode prog_7_method_38_code 86 = .ok (.ireturn, 1) := by decide +kernel
theorem dM_of_87 : decode prog_7_method_38_code 87 = .ok (.aload_n 0, 1) := by decide +kernel
theorem dM_of_88 : decode prog_7_method_38_code 88 = .ok (.getfield 62, 3) := by decide +kernel
theorem dM_of_91 : decode prog_7_method_38_code 91 = .ok (.ireturn, 1) := by decide +kernel
theorem dM_of_92 : decode prog_7_method_38_code 92 = .ok (.aload_n 0, 1) := by decide +kernel
theorem dM_of_93 : decode prog_7_method_38_code 93 = .ok (.getfield 65, 3) := by decide +kernel
theorem dM_of_96 : decode prog_7_method_38_code 96 = .ok (.ireturn, 1) := by decide +kernel
theorem dM_of_97 : decode prog_7_method_38_code 97 = .ok (.aload_n 0, 1) := by decide +kernel
theorem dM_of_98 : decode prog_7_method_38_code 98 = .ok (.iconst 0, 1) := by decide +kernel
theorem dM_of_99 : decode prog_7_method_38_code 99 = .ok (.invokevirtual 106, 3) := by decide +kernel
theorem dM_of_102 : decode prog_7_method_38_code 102 = .ok (.ireturn, 1) := by decide +kernel
theorem dM_of_103 : decode prog_7_method_38_code 103 = .ok (.aload_n 0, 1) := by decide +kernel
theorem dM_of_104 : decode prog_7_method_38_code 104 = .ok (.iconst 1, 1) := by decide +kernel
theorem dM_of_105 : decode prog_7_method_38_code 105 = .ok (.invokevirtual 106, 3) := by decide +kernel
theorem dM_of_108 : decode prog_7_method_38_code 108 = .ok (.ireturn, 1) := by decide +kernel
theorem dM_of_109 : decode prog_7_method_38_code 109 = .ok (.aload_n 0, 1) := by decide +kernel
theorem dM_of_110 : decode prog_7_method_38_code 110 = .ok (.getfield 59, 3) := by decide +kernel
theorem dM_of_113 : decode prog_7_method_38_code 113 = .ok (.ireturn, 1) := by decide +kernel
theorem dM_of_114 : decode prog_7_method_38_code 114 = .ok (.aload_n 0, 1) := by decide +kernel
theorem dM_of_115 : decode prog_7_method_38_code 115 = .ok (.getfield 40, 3) := by decide +kernel
theorem dM_of_118 : decode prog_7_method_38_code 118 = .ok (.ireturn, 1) := by decide +kernel
theorem dM_of_119 : decode prog_7_method_38_code 119 = .ok (.aload_n 0, 1) := by decide +kernel
theorem dM_of_120 : decode prog_7_method_38_code 120 = .ok (.getfield 44, 3) := by decide +kernel
theorem dM_of_123 : decode prog_7_method_38_code 123 = .ok (.ireturn, 1) := by decide +kernel
theorem dM_of_124 : decode prog_7_method_38_code 124 = .ok (.aload_n 0, 1) := by decide +kernel
theorem dM_of_125 : decode prog_7_method_38_code 125 = .ok (.getfield 47, 3) := by decide +kernel
theorem dM_of_128 : decode prog_7_method_38_code 128 = .ok (.ireturn, 1) := by decide +kernel
theorem dM_of_129 : decode prog_7_method_38_code 129 = .ok (.aload_n 0, 1) := by decide +kernel
theorem dM_of_130 : decode prog_7_method_38_code 130 = .ok (.getfield 50, 3) := by decide +kernel
theorem dM_of_133 : decode prog_7_method_38_code 133 = .ok (.ireturn, 1) := by decide +kernel
theorem dM_of_134 : decode prog_7_method_38_code 134 = .ok (.aload_n 0, 1) := by decide +kernel
theorem dM_of_135 : decode prog_7_method_38_code 135 = .ok (.getfield 53, 3) := by decide +kernel
theorem dM_of_138 : decode prog_7_method_38_code 138 = .ok (.ireturn, 1) := by decide +kernel
theorem dM_of_139 : decode prog_7_method_38_code 139 = .ok (.bipush (-2), 2) := by decide +kernel
theorem dM_of_141 : decode prog_7_method_38_code 141 = .ok (.ireturn, 1) := by decide +kernel
theorem dM_at_0 : decode prog_7_method_39_code 0 = .ok (.iload_n 1, 1) := by decide +kernel
theorem dM_at_1 : decode prog_7_method_39_code 1 = .ok (.iconst 0, 1) := by decide +kernel
theorem dM_at_2 : decode prog_7_method_39_code 2 = .ok (.iconst 1, 1) := by decide +kernel
theorem dM_at_3 : decode prog_7_method_39_code 3 = .ok (.invokestatic 77, 3) := by decide +kernel
theorem dM_at_6 : decode prog_7_method_39_code 6 = .ok (.ifCond .eq 28, 3) := by decide +kernel
theorem dM_at_9 : decode prog_7_method_39_code 9 = .ok (.iload_n 2, 1) := by decide +kernel
theorem dM_at_10 : decode prog_7_method_39_code 10 = .ok (.iconst 0, 1) := by decide +kernel
theorem dM_at_11 : decode prog_7_method_39_code 11 = .ok (.aload_n 0, 1) := by decide +kernel
theorem dM_at_12 : decode prog_7_method_39_code 12 = .ok (.getfield 13, 3) := by decide +kernel
theorem dM_at_15 : decode prog_7_method_39_code 15 = .ok (.iload_n 1, 1) := by decide +kernel
theorem dM_at_16 : decode prog_7_method_39_code 16 = .ok (.iaload, 1) := by decide +kernel
theorem dM_at_17 : decode prog_7_method_39_code 17 = .ok (.iconst 1, 1) := by decide +kernel
theorem dM_at_18 : decode prog_7_method_39_code 18 = .ok (.isub, 1) := by decide +kernel
theorem dM_at_19 : decode prog_7_method_39_code 19 = .ok (.invokestatic 77, 3) := by decide +kernel
theorem dM_at_22 : decode prog_7_method_39_code 22 = .ok (.ifCond .eq 12, 3) := by decide +kernel
theorem dM_at_25 : decode prog_7_method_39_code 25 = .ok (.aload_n 0, 1) := by decide +kernel
theorem dM_at_26 : decode prog_7_method_39_code 26 = .ok (.iload_n 1, 1) := by decide +kernel
theorem dM_at_27 : decode prog_7_method_39_code 27 = .ok (.iload_n 2, 1) := by decide +kernel
theorem dM_at_28 : decode prog_7_method_39_code 28 = .ok (.invokevirtual 72, 3) := by decide +kernel
theorem dM_at_31 : decode prog_7_method_39_code 31 = .ok (.goto 5, 3) := by decide +kernel
theorem dM_at_34 : decode prog_7_method_39_code 34 = .ok (.bipush (-2), 2) := by decide +kernel
theorem dM_at_36 : decode prog_7_method_39_code 36 = .ok (.ireturn, 1) := by decide +kernel
end
section
/-! the cells of the class and of the reference, as lists -/
def zk_ua (α : Nat → Nat → Int) (k : Nat) (f : Nat → Int) : Nat → Nat → Int := fun j => if j = k then f else α j
/-- the class: σ its numbers, α its arrays; sw: the arrays of OLD and NEW are changed for one another -/
def zk_mk (G : zk_G) (sw : Bool) (σ : Nat → Int) (α : Nat → Nat → Int) (t : zk_H) : zk_H :=
  zk_scr G ::
  .inr (4, [.inr (some 2), .inr (some 4), .inr (some 6), .inr (some 8), .inr (some 10), .inr (some 11), .inr (some 18)]) ::
  .inr (2, [.inr (some (bif sw then 5 else 3)), .inl (σ 0)]) ::
  .inl (40, bif sw then α 1 else α 0) ::
  .inr (2, [.inr (some (bif sw then 3 else 5)), .inl (σ 1)]) ::
  .inl (40, bif sw then α 0 else α 1) ::
  .inr (2, [.inr (some 7), .inl (σ 2)]) ::
  .inl (80, α 2) ::
  .inr (2, [.inr (some 9), .inl (σ 3)]) ::
  .inl (4102, α 3) ::
  .inr (1, [.inl (σ 5), .inl (σ 6), .inl (σ 7), .inl (σ 8), .inl (σ 9)]) ::
  .inr (0, [.inr (some 12), .inr (some 13), .inr (some 14), .inr (some 15), .inr (some 16), .inl (σ 10), .inl (σ 11)]) ::
  .inl (100, α 5) :: .inl (100, α 6) :: .inl (100, α 7) :: .inl (100, α 8) ::
  .inr (2, [.inr (some 17), .inl (σ 4)]) ::
  .inl (4000, α 4) ::
  .inr (3, [.inr (some 2), .inr (some 4), .inr (some 10), .inr (some 19), .inr (some 20), .inr (some 21), .inl (σ 12), .inl (σ 13), .inl (σ 14), .inl (σ 15), .inl (σ 16), .inl (σ 17), .inl (σ 18)]) ::
  .inl (1681, α 9) :: .inl (41, α 10) :: .inl (41, α 11) :: t
/-- the reference: τ its numbers, β its arrays -/
def zk_md (τ : Nat → Int) (β : Nat → Nat → Int) (t : zk_H) : zk_H :=
  .inr (5, [.inr (some 23), .inr (some 24), .inl (τ 0), .inl (τ 1), .inl (τ 2), .inl (τ 3), .inl (τ 4), .inl (τ 5), .inr (some 25), .inr (some 26), .inr (some 27), .inr (some 28), .inl (τ 6), .inl (τ 7), .inr (some 29), .inl (τ 8), .inr (some 30), .inl (τ 9), .inr (some 31), .inl (τ 10), .inl (τ 11), .inl (τ 12)]) ::
  .inl (80, β 0) :: .inl (2, β 1) :: .inl (100, β 2) :: .inl (100, β 3) :: .inl (100, β 4) :: .inl (4000, β 5) :: .inl (4110, β 6) :: .inl (80, β 7) :: .inl (1681, β 8) :: t
/-- the rows: 0 OLD, 1 NEW, 2 what is made, 3 CODE, 4 what is laid -/
def zr_p (q : Nat) : Nat := match q with
  | 0 => 2
  | 1 => 4
  | 2 => 6
  | 3 => 8
  | _ => 16
def zr_a (sw : Bool) (q : Nat) : Nat := match q with
  | 0 => bif sw then 5 else 3
  | 1 => bif sw then 3 else 5
  | 2 => 7
  | 3 => 9
  | _ => 17
def zr_N (q : Nat) : Nat := match q with
  | 0 => 40
  | 1 => 40
  | 2 => 80
  | 3 => 4102
  | _ => 4000
/-- the five numbers -/
def zs_c (σ : Nat → Int) : Nat → Int := fun j => match j with
  | 0 => σ 5
  | 1 => σ 6
  | 2 => σ 7
  | 3 => σ 8
  | _ => σ 9
section ZkState
variable {G : zk_G} {sw : Bool} {σ : Nat → Int} {α : Nat → Nat → Int} {t : zk_H} {q : Nat}
theorem zr_p0 : zr_p q ≠ 0 := by
  unfold zr_p
  split <;> decide
theorem zr_a0 : zr_a sw q ≠ 0 := by
  unfold zr_a
  cases sw <;> split <;> decide
theorem zr_Nle : zr_N q ≤ 4102 := by
  unfold zr_N
  split <;> decide
theorem mk_row (hq : q < 5) : (zk_mk G sw σ α t)[zr_p q]? = some (.inr (2, [.inr (some (zr_a sw q)), .inl (σ q)])) := by
  match q, hq with
  | 0, _ => rfl
  | 1, _ => rfl
  | 2, _ => rfl
  | 3, _ => rfl
  | 4, _ => rfl
theorem mk_arr (hq : q < 5) : (zk_mk G sw σ α t)[zr_a sw q]? = some (.inl (zr_N q, α q)) := by
  match q, hq with
  | 0, _ => cases sw <;> rfl
  | 1, _ => cases sw <;> rfl
  | 2, _ => rfl
  | 3, _ => rfl
  | 4, _ => rfl
theorem mk_srow (hq : q < 5) {n : Int} : (zk_mk G sw σ α t).set (zr_p q) (.inr (2, [.inr (some (zr_a sw q)), .inl n])) = zk_mk G sw (zk_up σ q n) α t := by
  match q, hq with
  | 0, _ => rfl
  | 1, _ => rfl
  | 2, _ => rfl
  | 3, _ => rfl
  | 4, _ => rfl
theorem mk_sarr (hq : q < 5) {f : Nat → Int} : (zk_mk G sw σ α t).set (zr_a sw q) (.inl (zr_N q, f)) = zk_mk G sw σ (zk_ua α q f) t := by
  match q, hq with
  | 0, _ => cases sw <;> rfl
  | 1, _ => cases sw <;> rfl
  | 2, _ => rfl
  | 3, _ => rfl
  | 4, _ => rfl
end ZkState
end
section
set_option maxRecDepth 100000 in
set_option maxHeartbeats 4000000 in
theorem kR_length (G : zk_G) (sw : Bool) (σ : Nat → Int) (α : Nat → Nat → Int) (t : zk_H) {q : Nat} (hq : q < 5) : zk_K G mR_length (0, 0) 0 0 [.inr (some (zr_p q))] (zk_mk G sw σ α t) (fun v h' => h' = (zk_mk G sw σ α t) ∧ v = some (.inl (σ q))) := by
  refine zk_K.of (ls := [some (.inr (some (zr_p q)))]) (by decide +kernel) (Nat.le_of_ble_eq_true rfl) rfl ?_
  refine zk_aload_n dR_length_0 rfl ?_
  refine zk_get zfR_21 dR_length_1 (mk_row hq) zr_p0 rfl ?_
  exact zk_iret dR_length_4 rfl ⟨rfl, rfl⟩

set_option maxRecDepth 100000 in
set_option maxHeartbeats 4000000 in
theorem kR_isFull (G : zk_G) (sw : Bool) (σ : Nat → Int) (α : Nat → Nat → Int) (t : zk_H) {q : Nat} (hq : q < 5) (hnq : 0 ≤ σ q ∧ σ q ≤ (zr_N q : Int)) : zk_K G mR_isFull (0, 0) 0 0 [.inr (some (zr_p q))] (zk_mk G sw σ α t) (fun v h' => h' = (zk_mk G sw σ α t) ∧ ((((zr_N q : Int) ≤ σ q) ∧ v = some (.inl 1)) ∨ ((σ q < (zr_N q : Int)) ∧ v = some (.inl 0)))) := by
  have hNq : zr_N q ≤ 4102 := zr_Nle
  refine zk_K.of (ls := [some (.inr (some (zr_p q)))]) (by decide +kernel) (Nat.le_of_ble_eq_true rfl) rfl ?_
  refine zk_aload_n dR_isFull_0 rfl ?_
  refine zk_get zfR_21 dR_isFull_1 (mk_row hq) zr_p0 rfl ?_
  refine zk_aload_n dR_isFull_4 rfl ?_
  refine zk_get zfR_15 dR_isFull_5 (mk_row hq) zr_p0 rfl ?_
  refine zk_alen dR_isFull_8 (mk_arr hq) ?_
  refine zk_icmp_lt (tgt := 16) dR_isFull_9 (by decide) ⟨by omega, by omega⟩ ⟨by omega, by omega⟩ (fun h9 => ?_) (fun h9 => ?_)
  · skip
    refine zk_iconst dR_isFull_16 ?_
    exact zk_zret dR_isFull_17 rfl (by decide) ⟨rfl, Or.inr ⟨h9, rfl⟩⟩
  · skip
    refine zk_iconst dR_isFull_12 ?_
    refine zk_goto (tgt := 17) dR_isFull_13 (by decide) ?_
    exact zk_zret dR_isFull_17 rfl (by decide) ⟨rfl, Or.inl ⟨h9, rfl⟩⟩

set_option maxRecDepth 100000 in
set_option maxHeartbeats 4000000 in
theorem kR_has (G : zk_G) (sw : Bool) (σ : Nat → Int) (α : Nat → Nat → Int) (t : zk_H) {q : Nat} (hq : q < 5) (hnq : 0 ≤ σ q ∧ σ q ≤ (zr_N q : Int)) {i : Int} (hi : zk_rg i) : zk_K G mR_has (0, 0) 0 0 [.inr (some (zr_p q)), .inl i] (zk_mk G sw σ α t) (fun v h' => h' = (zk_mk G sw σ α t) ∧ (((0 ≤ i ∧ i < σ q) ∧ v = some (.inl 1)) ∨ ((¬ (0 ≤ i ∧ i < σ q)) ∧ v = some (.inl 0)))) := by
  have hNq : zr_N q ≤ 4102 := zr_Nle
  refine zk_K.of (ls := [some (.inr (some (zr_p q))), some (.inl i)]) (by decide +kernel) (Nat.le_of_ble_eq_true rfl) rfl ?_
  refine zk_iload_n dR_has_0 rfl ?_
  refine zk_if_lt (tgt := 16) dR_has_1 (by decide) hi (fun h1 => ?_) (fun h1 => ?_)
  · skip
    refine zk_iconst dR_has_16 ?_
    exact zk_zret dR_has_17 rfl (by decide) ⟨rfl, Or.inr ⟨by omega, rfl⟩⟩
  · skip
    refine zk_iload_n dR_has_4 rfl ?_
    refine zk_aload_n dR_has_5 rfl ?_
    refine zk_get zfR_21 dR_has_6 (mk_row hq) zr_p0 rfl ?_
    refine zk_icmp_ge (tgt := 16) dR_has_9 (by decide) hi ⟨by omega, by omega⟩ (fun h9 => ?_) (fun h9 => ?_)
    · skip
      refine zk_iconst dR_has_16 ?_
      exact zk_zret dR_has_17 rfl (by decide) ⟨rfl, Or.inr ⟨by omega, rfl⟩⟩
    · skip
      refine zk_iconst dR_has_12 ?_
      refine zk_goto (tgt := 17) dR_has_13 (by decide) ?_
      exact zk_zret dR_has_17 rfl (by decide) ⟨rfl, Or.inl ⟨⟨h1, h9⟩, rfl⟩⟩

set_option maxRecDepth 100000 in
set_option maxHeartbeats 4000000 in
theorem kR_get (G : zk_G) (sw : Bool) (σ : Nat → Int) (α : Nat → Nat → Int) (t : zk_H) {q : Nat} (hq : q < 5) (hnq : 0 ≤ σ q ∧ σ q ≤ (zr_N q : Int)) {i : Int} (hi : zk_rg i) : zk_K G mR_get (1, 21) 0 0 [.inr (some (zr_p q)), .inl i] (zk_mk G sw σ α t) (fun v h' => h' = (zk_mk G sw σ α t) ∧ (((0 ≤ i ∧ i < σ q) ∧ v = some (.inl (α q i.toNat))) ∨ ((¬ (0 ≤ i ∧ i < σ q)) ∧ v = some (.inl (-1))))) := by
  have hNq : zr_N q ≤ 4102 := zr_Nle
  refine zk_K.of (ls := [some (.inr (some (zr_p q))), some (.inl i)]) (by decide +kernel) (Nat.le_of_ble_eq_true rfl) rfl ?_
  refine zk_aload_n dR_get_0 rfl ?_
  refine zk_iload_n dR_get_1 rfl ?_
  refine zk_callV (av := [.inl i]) (st := []) (d' := (0, 0)) (kc' := 0) (ks' := 0) zbR_25 dR_get_2 (mk_row hq) zr_p0 rfl rfl (Nat.le_of_ble_eq_true rfl) ⟨by decide, by decide⟩ rfl rfl (kR_has G sw σ α t hq hnq hi) (fun v9 h9 q9 => ?_)
  rcases q9 with ⟨rfl, ⟨hc2, rfl⟩ | ⟨hc2, rfl⟩⟩
  · skip
    refine zk_W.to (ls' := [some (.inr (some (zr_p q))), some (.inl i)]) (st' := [.inl 1]) (h' := (zk_mk G sw σ α t)) rfl rfl rfl ?_
    refine zk_if_eq (tgt := 17) dR_get_5 (by decide) ⟨by decide, by decide⟩ (fun h5 => ?_) (fun h5 => ?_)
    · skip
      exact absurd h5 (by decide)
    · skip
      refine zk_aload_n dR_get_8 rfl ?_
      refine zk_get zfR_15 dR_get_9 (mk_row hq) zr_p0 rfl ?_
      refine zk_iload_n dR_get_12 rfl ?_
      refine zk_iald dR_get_13 (mk_arr hq) (by omega) (by omega) (by omega) ?_
      refine zk_goto (tgt := 18) dR_get_14 (by decide) ?_
      exact zk_iret dR_get_18 rfl ⟨rfl, Or.inl ⟨hc2, rfl⟩⟩
  · skip
    refine zk_W.to (ls' := [some (.inr (some (zr_p q))), some (.inl i)]) (st' := [.inl 0]) (h' := (zk_mk G sw σ α t)) rfl rfl rfl ?_
    refine zk_if_eq (tgt := 17) dR_get_5 (by decide) ⟨by decide, by decide⟩ (fun h5 => ?_) (fun h5 => ?_)
    · skip
      refine zk_iconst dR_get_17 ?_
      exact zk_iret dR_get_18 rfl ⟨rfl, Or.inr ⟨hc2, rfl⟩⟩
    · skip
      exact absurd h5 (by decide)

set_option maxRecDepth 100000 in
set_option maxHeartbeats 4000000 in
theorem kR_set (G : zk_G) (sw : Bool) (σ : Nat → Int) (α : Nat → Nat → Int) (t : zk_H) {q : Nat} (hq : q < 5) (hnq : 0 ≤ σ q ∧ σ q ≤ (zr_N q : Int)) {i x : Int} (hi : zk_rg i) : zk_K G mR_set (1, 21) 0 0 [.inr (some (zr_p q)), .inl i, .inl x] (zk_mk G sw σ α t) (fun v h' => v = none ∧ (((0 ≤ i ∧ i < σ q) ∧ h' = zk_mk G sw σ (zk_ua α q (zk_up (α q) i.toNat x)) t) ∨ ((¬ (0 ≤ i ∧ i < σ q)) ∧ h' = zk_mk G sw σ α t))) := by
  have hNq : zr_N q ≤ 4102 := zr_Nle
  refine zk_K.of (ls := [some (.inr (some (zr_p q))), some (.inl i), some (.inl x)]) (by decide +kernel) (Nat.le_of_ble_eq_true rfl) rfl ?_
  refine zk_aload_n dR_set_0 rfl ?_
  refine zk_iload_n dR_set_1 rfl ?_
  refine zk_callV (av := [.inl i]) (st := []) (d' := (0, 0)) (kc' := 0) (ks' := 0) zbR_25 dR_set_2 (mk_row hq) zr_p0 rfl rfl (Nat.le_of_ble_eq_true rfl) ⟨by decide, by decide⟩ rfl rfl (kR_has G sw σ α t hq hnq hi) (fun v9 h9 q9 => ?_)
  rcases q9 with ⟨rfl, ⟨hc2, rfl⟩ | ⟨hc2, rfl⟩⟩
  · skip
    refine zk_W.to (ls' := [some (.inr (some (zr_p q))), some (.inl i), some (.inl x)]) (st' := [.inl 1]) (h' := (zk_mk G sw σ α t)) rfl rfl rfl ?_
    refine zk_if_eq (tgt := 15) dR_set_5 (by decide) ⟨by decide, by decide⟩ (fun h5 => ?_) (fun h5 => ?_)
    · skip
      exact absurd h5 (by decide)
    · skip
      refine zk_aload_n dR_set_8 rfl ?_
      refine zk_get zfR_15 dR_set_9 (mk_row hq) zr_p0 rfl ?_
      refine zk_iload_n dR_set_12 rfl ?_
      refine zk_iload_n dR_set_13 rfl ?_
      refine zk_iast dR_set_14 (mk_arr hq) zr_a0 (by omega) (by omega) (by omega) (mk_sarr hq) ?_
      exact zk_ret dR_set_15 rfl ⟨rfl, Or.inl ⟨hc2, rfl⟩⟩
  · skip
    refine zk_W.to (ls' := [some (.inr (some (zr_p q))), some (.inl i), some (.inl x)]) (st' := [.inl 0]) (h' := (zk_mk G sw σ α t)) rfl rfl rfl ?_
    refine zk_if_eq (tgt := 15) dR_set_5 (by decide) ⟨by decide, by decide⟩ (fun h5 => ?_) (fun h5 => ?_)
    · skip
      exact zk_ret dR_set_15 rfl ⟨rfl, Or.inr ⟨hc2, rfl⟩⟩
    · skip
      exact absurd h5 (by decide)

set_option maxRecDepth 100000 in
set_option maxHeartbeats 4000000 in
theorem kR_append (G : zk_G) (sw : Bool) (σ : Nat → Int) (α : Nat → Nat → Int) (t : zk_H) {q : Nat} (hq : q < 5) (hnq : 0 ≤ σ q ∧ σ q ≤ (zr_N q : Int)) {x : Int} : zk_K G mR_append (1, 20) 0 0 [.inr (some (zr_p q)), .inl x] (zk_mk G sw σ α t) (fun v h' => v = none ∧ ((σ q < (zr_N q : Int) ∧ h' = zk_mk G sw (zk_up σ q (σ q + 1)) (zk_ua α q (zk_up (α q) (σ q).toNat x)) t) ∨ (((zr_N q : Int) ≤ σ q) ∧ h' = zk_mk G sw σ α t))) := by
  have hNq : zr_N q ≤ 4102 := zr_Nle
  refine zk_K.of (ls := [some (.inr (some (zr_p q))), some (.inl x)]) (by decide +kernel) (Nat.le_of_ble_eq_true rfl) rfl ?_
  refine zk_aload_n dR_append_0 rfl ?_
  refine zk_callV (av := []) (st := []) (d' := (0, 0)) (kc' := 0) (ks' := 0) zbR_29 dR_append_1 (mk_row hq) zr_p0 rfl rfl (Nat.le_of_ble_eq_true rfl) ⟨by decide, by decide⟩ rfl rfl (kR_isFull G sw σ α t hq hnq) (fun v9 h9 q9 => ?_)
  rcases q9 with ⟨rfl, ⟨hc1, rfl⟩ | ⟨hc1, rfl⟩⟩
  · skip
    refine zk_W.to (ls' := [some (.inr (some (zr_p q))), some (.inl x)]) (st' := [.inl 1]) (h' := (zk_mk G sw σ α t)) rfl rfl rfl ?_
    refine zk_if_ne (tgt := 27) dR_append_4 (by decide) ⟨by decide, by decide⟩ (fun h4 => ?_) (fun h4 => ?_)
    · skip
      exact zk_ret dR_append_27 rfl ⟨rfl, Or.inr ⟨hc1, rfl⟩⟩
    · skip
      exact absurd h4 (by decide)
  · skip
    refine zk_W.to (ls' := [some (.inr (some (zr_p q))), some (.inl x)]) (st' := [.inl 0]) (h' := (zk_mk G sw σ α t)) rfl rfl rfl ?_
    refine zk_if_ne (tgt := 27) dR_append_4 (by decide) ⟨by decide, by decide⟩ (fun h4 => ?_) (fun h4 => ?_)
    · skip
      exact absurd h4 (by decide)
    · skip
      refine zk_aload_n dR_append_7 rfl ?_
      refine zk_get zfR_15 dR_append_8 (mk_row hq) zr_p0 rfl ?_
      refine zk_aload_n dR_append_11 rfl ?_
      refine zk_get zfR_21 dR_append_12 (mk_row hq) zr_p0 rfl ?_
      refine zk_iload_n dR_append_15 rfl ?_
      refine zk_iast dR_append_16 (mk_arr hq) zr_a0 (by omega) (by omega) (by omega) (mk_sarr hq) ?_
      refine zk_aload_n dR_append_17 rfl ?_
      refine zk_dup dR_append_18 ?_
      refine zk_get zfR_21 dR_append_19 (mk_row hq) zr_p0 rfl ?_
      refine zk_iconst dR_append_22 ?_
      refine zk_iadd dR_append_23 ?_
      refine zk_put zfR_21 dR_append_24 (mk_row hq) zr_p0 (Nat.le_of_ble_eq_true rfl) rfl rfl (mk_srow hq) ?_
      exact zk_ret dR_append_27 rfl ⟨rfl, Or.inl ⟨hc1, rfl⟩⟩

set_option maxRecDepth 100000 in
set_option maxHeartbeats 4000000 in
theorem kR_dropLast (G : zk_G) (sw : Bool) (σ : Nat → Int) (α : Nat → Nat → Int) (t : zk_H) {q : Nat} (hq : q < 5) (hnq : 0 ≤ σ q ∧ σ q ≤ (zr_N q : Int)) {n : Int} (hn : zk_rg n) : zk_K G mR_dropLast (1, 18) 0 0 [.inr (some (zr_p q)), .inl n] (zk_mk G sw σ α t) (fun v h' => v = none ∧ h' = zk_mk G sw (zk_up σ q (σ q - max 0 (min n (σ q)))) α t) := by
  have hNq : zr_N q ≤ 4102 := zr_Nle
  have hn1 := hn.1
  have hn2 := hn.2
  refine zk_K.of (ls := [some (.inr (some (zr_p q))), some (.inl n)]) (by decide +kernel) (Nat.le_of_ble_eq_true rfl) rfl ?_
  refine zk_aload_n dR_dropLast_0 rfl ?_
  refine zk_dup dR_dropLast_1 ?_
  refine zk_get zfR_21 dR_dropLast_2 (mk_row hq) zr_p0 rfl ?_
  refine zk_iconst dR_dropLast_5 ?_
  refine zk_iload_n dR_dropLast_6 rfl ?_
  refine zk_aload_n dR_dropLast_7 rfl ?_
  refine zk_get zfR_21 dR_dropLast_8 (mk_row hq) zr_p0 rfl ?_
  refine zk_mmin dR_dropLast_11 zlR_33 zw_mins zw_mi zw_minc ⟨by decide, Nat.le_of_ble_eq_true rfl⟩ hn ⟨by omega, by omega⟩ ?_
  refine zk_mmax dR_dropLast_14 zlR_9 zw_maxs zw_mi zw_maxc ⟨by decide, Nat.le_of_ble_eq_true rfl⟩ ⟨by decide, by decide⟩ ⟨by omega, by omega⟩ ?_
  refine zk_isub dR_dropLast_17 ?_
  refine zk_put zfR_21 dR_dropLast_18 (mk_row hq) zr_p0 (Nat.le_of_ble_eq_true rfl) rfl rfl (mk_srow hq) ?_
  exact zk_ret dR_dropLast_21 rfl ⟨rfl, rfl⟩

set_option maxRecDepth 100000 in
set_option maxHeartbeats 4000000 in
theorem kR_dropAll (G : zk_G) (sw : Bool) (σ : Nat → Int) (α : Nat → Nat → Int) (t : zk_H) {q : Nat} (hq : q < 5) : zk_K G mR_dropAll (0, 0) 0 0 [.inr (some (zr_p q))] (zk_mk G sw σ α t) (fun v h' => v = none ∧ h' = zk_mk G sw (zk_up σ q 0) α t) := by
  refine zk_K.of (ls := [some (.inr (some (zr_p q)))]) (by decide +kernel) (Nat.le_of_ble_eq_true rfl) rfl ?_
  refine zk_aload_n dR_dropAll_0 rfl ?_
  refine zk_iconst dR_dropAll_1 ?_
  refine zk_put zfR_21 dR_dropAll_2 (mk_row hq) zr_p0 (Nat.le_of_ble_eq_true rfl) rfl rfl (mk_srow hq) ?_
  exact zk_ret dR_dropAll_5 rfl ⟨rfl, rfl⟩

set_option maxRecDepth 100000 in
set_option maxHeartbeats 4000000 in
theorem wR_sum (G : zk_G) (sw : Bool) (σ : Nat → Int) (α : Nat → Nat → Int) (t : zk_H) {q : Nat} (hq : q < 5) (hnq : 0 ≤ σ q ∧ σ q ≤ (zr_N q : Int)) (hv : ∀ j, 0 ≤ α q j ∧ α q j ≤ 255) : ∀ (n i : Nat), (i : Int) ≤ σ q → σ q < (i : Int) + n → zk_W G mR_sum (0, 0) 0 0 4 [some (.inr (some (zr_p q))), some (.inl (mt_sum (α q) i)), some (.inl (i : Int))] [] (zk_mk G sw σ α t) (fun v h' => h' = (zk_mk G sw σ α t) ∧ v = some (.inl (mt_sum (α q) (σ q).toNat))) := by
  intro n
  induction n with
  | zero =>
    intro i h1 h2
    omega
  | succ n ih =>
    intro i h1 h2
    have hNq : zr_N q ≤ 4102 := zr_Nle
    have hs := mt_sum_rg (α q) i
    have hvi := hv ((i : Int)).toNat
    have hin : ((i : Int)).toNat = i := rfl
    refine zk_iload_n dR_sum_4 rfl ?_
    refine zk_aload_n dR_sum_5 rfl ?_
    refine zk_get zfR_21 dR_sum_6 (mk_row hq) zr_p0 rfl ?_
    refine zk_icmp_ge (tgt := 33) dR_sum_9 (by decide) ⟨by omega, by omega⟩ ⟨by omega, by omega⟩ (fun h9 => ?_) (fun h9 => ?_)
    · skip
      refine zk_iload_n dR_sum_33 rfl ?_
      have he : i = (σ q).toNat := by omega
      subst he
      exact zk_iret dR_sum_34 rfl ⟨rfl, rfl⟩
    · skip
      refine zk_iload_n dR_sum_12 rfl ?_
      refine zk_bipush dR_sum_13 (by decide) ?_
      refine zk_imul dR_sum_15 ?_
      refine zk_aload_n dR_sum_16 rfl ?_
      refine zk_get zfR_15 dR_sum_17 (mk_row hq) zr_p0 rfl ?_
      refine zk_iload_n dR_sum_20 rfl ?_
      refine zk_iald dR_sum_21 (mk_arr hq) (by omega) (by omega) (by omega) ?_
      refine zk_iadd dR_sum_22 ?_
      refine zk_ldc (z := 65521) dR_sum_23 zcR_36 ?_
      refine zk_irem dR_sum_25 (by omega) ⟨by omega, by omega⟩ (by omega) ⟨by decide, by decide⟩ ?_
      refine zk_istore_n (ls' := [some (.inr (some (zr_p q))), some (.inl ((((mt_sum (α q) i) * 31) + (α q (i : Int).toNat)) % 65521)), some (.inl (i : Int))]) dR_sum_26 (by decide) rfl ?_
      refine zk_iinc (ls' := [some (.inr (some (zr_p q))), some (.inl ((((mt_sum (α q) i) * 31) + (α q (i : Int).toNat)) % 65521)), some (.inl ((i : Int) + 1))]) dR_sum_27 rfl (by decide) rfl ?_
      refine zk_goto (tgt := 4) dR_sum_30 (by decide) ?_
      have e1 : (mt_sum (α q) i * 31 + α q ((i : Int)).toNat) % 65521 = mt_sum (α q) (i + 1) := rfl
      have e2 : (i : Int) + 1 = ((i + 1 : Nat) : Int) := by omega
      rw [e1, e2]
      exact ih (i + 1) (by omega) (by omega)

set_option maxRecDepth 100000 in
set_option maxHeartbeats 4000000 in
theorem kR_sum (G : zk_G) (sw : Bool) (σ : Nat → Int) (α : Nat → Nat → Int) (t : zk_H) {q : Nat} (hq : q < 5) (hnq : 0 ≤ σ q ∧ σ q ≤ (zr_N q : Int)) (hv : ∀ j, 0 ≤ α q j ∧ α q j ≤ 255) : zk_K G mR_sum (0, 0) 0 0 [.inr (some (zr_p q))] (zk_mk G sw σ α t) (fun v h' => h' = (zk_mk G sw σ α t) ∧ v = some (.inl (mt_sum (α q) (σ q).toNat))) := by
  refine zk_K.of (ls := [some (.inr (some (zr_p q))), none, none]) (by decide +kernel) (Nat.le_of_ble_eq_true rfl) rfl ?_
  refine zk_iconst dR_sum_0 ?_
  refine zk_istore_n (ls' := [some (.inr (some (zr_p q))), some (.inl 1), none]) dR_sum_1 (by decide) rfl ?_
  refine zk_iconst dR_sum_2 ?_
  refine zk_istore_n (ls' := [some (.inr (some (zr_p q))), some (.inl 1), some (.inl 0)]) dR_sum_3 (by decide) rfl ?_
  exact wR_sum G sw σ α t hq hnq hv (σ q + 1).toNat 0 (by omega) (by omega)

set_option maxRecDepth 100000 in
set_option maxHeartbeats 4000000 in
theorem wR_countSame (G : zk_G) (sw : Bool) (σ : Nat → Int) (α : Nat → Nat → Int) (t : zk_H) {q : Nat} (hq : q < 5) {r : Nat} (hr : r < 5) (hnq : 0 ≤ σ q ∧ σ q ≤ (zr_N q : Int)) (hnr : 0 ≤ σ r ∧ σ r ≤ (zr_N r : Int)) (hv : ∀ j, 0 ≤ α q j ∧ α q j ≤ 255) (hw : ∀ j, 0 ≤ α r j ∧ α r j ≤ 255) {i j : Int} (hi : 0 ≤ i ∧ i < σ q) (hj : 0 ≤ j ∧ j < σ r) : ∀ (k n : Nat), (n : Int) ≤ min (σ q - i) (σ r - j) → min (σ q - i) (σ r - j) < (n : Int) + k → (∀ s, s < n → α q (i.toNat + s) = α r (j.toNat + s)) → zk_W G mR_countSame (1, 21) 0 0 38 [some (.inr (some (zr_p q))), some (.inl i), some (.inr (some (zr_p r))), some (.inl j), some (.inl (min (σ q - i) (σ r - j))), some (.inl (n : Int))] [] (zk_mk G sw σ α t) (fun v h' => h' = (zk_mk G sw σ α t) ∧ v = some (.inl (if (0 ≤ i ∧ i < σ q) ∧ (0 ≤ j ∧ j < σ r) then (mt_len (α q) (α r) i.toNat j.toNat (min (σ q - i) (σ r - j)).toNat : Int) else 0))) := by
  intro k
  induction k with
  | zero =>
    intro n h1 h2
    omega
  | succ k ih =>
    intro n g1 g2 g3
    have hNq : zr_N q ≤ 4102 := zr_Nle
    have hNr : zr_N r ≤ 4102 := zr_Nle
    have hvi := hv (i + (n : Int)).toNat
    have hwi := hw (j + (n : Int)).toNat
    have ei : (i + (n : Int)).toNat = i.toNat + n := by omega
    have ej : (j + (n : Int)).toNat = j.toNat + n := by omega
    refine zk_iload dR_countSame_38 rfl ?_
    refine zk_iload dR_countSame_40 rfl ?_
    refine zk_icmp_ge (tgt := 75) dR_countSame_42 (by decide) ⟨by omega, by omega⟩ ⟨by omega, by omega⟩ (fun h42 => ?_) (fun h42 => ?_)
    · skip
      refine zk_iload dR_countSame_75 rfl ?_
      refine zk_iret dR_countSame_77 rfl ⟨rfl, ?_⟩
      rw [if_pos ⟨hi, hj⟩, mt_len_eq (n := n) (by omega) g3 (Or.inl (by omega))]
      congr 2
      omega
    · skip
      refine zk_aload_n dR_countSame_45 rfl ?_
      refine zk_get zfR_15 dR_countSame_46 (mk_row hq) zr_p0 rfl ?_
      refine zk_iload_n dR_countSame_49 rfl ?_
      refine zk_iload dR_countSame_50 rfl ?_
      refine zk_iadd dR_countSame_52 ?_
      refine zk_iald dR_countSame_53 (mk_arr hq) (by omega) (by omega) (by omega) ?_
      refine zk_aload_n dR_countSame_54 rfl ?_
      refine zk_get zfR_15 dR_countSame_55 (mk_row hr) zr_p0 rfl ?_
      refine zk_iload_n dR_countSame_58 rfl ?_
      refine zk_iload dR_countSame_59 rfl ?_
      refine zk_iadd dR_countSame_61 ?_
      refine zk_iald dR_countSame_62 (mk_arr hr) (by omega) (by omega) (by omega) ?_
      refine zk_icmp_eq (tgt := 69) dR_countSame_63 (by decide) ⟨by omega, by omega⟩ ⟨by omega, by omega⟩ (fun h63 => ?_) (fun h63 => ?_)
      · skip
        refine zk_iinc (ls' := [some (.inr (some (zr_p q))), some (.inl i), some (.inr (some (zr_p r))), some (.inl j), some (.inl (min (σ q - i) (σ r - j))), some (.inl ((n : Int) + 1))]) dR_countSame_69 rfl (by decide) rfl ?_
        refine zk_goto (tgt := 38) dR_countSame_72 (by decide) ?_
        have e2 : (n : Int) + 1 = ((n + 1 : Nat) : Int) := by omega
        rw [e2]
        refine ih (n + 1) (by omega) (by omega) (fun s hs => ?_)
        by_cases he : s < n
        · exact g3 s he
        · have hsn : s = n := by omega
          subst hsn
          rw [← ei, ← ej]
          exact h63
      · skip
        refine zk_iload dR_countSame_66 rfl ?_
        refine zk_iret dR_countSame_68 rfl ⟨rfl, ?_⟩
        rw [if_pos ⟨hi, hj⟩, mt_len_eq (n := n) (by omega) g3 (Or.inr (by rw [← ei, ← ej]; exact h63))]

set_option maxRecDepth 100000 in
set_option maxHeartbeats 4000000 in
theorem kR_countSame (G : zk_G) (sw : Bool) (σ : Nat → Int) (α : Nat → Nat → Int) (t : zk_H) {q : Nat} (hq : q < 5) {r : Nat} (hr : r < 5) (hnq : 0 ≤ σ q ∧ σ q ≤ (zr_N q : Int)) (hnr : 0 ≤ σ r ∧ σ r ≤ (zr_N r : Int)) (hv : ∀ j, 0 ≤ α q j ∧ α q j ≤ 255) (hw : ∀ j, 0 ≤ α r j ∧ α r j ≤ 255) {i j : Int} (hri : zk_rg i) (hrj : zk_rg j) : zk_K G mR_countSame (1, 21) 0 0 [.inr (some (zr_p q)), .inl i, .inr (some (zr_p r)), .inl j] (zk_mk G sw σ α t) (fun v h' => h' = (zk_mk G sw σ α t) ∧ v = some (.inl (if (0 ≤ i ∧ i < σ q) ∧ (0 ≤ j ∧ j < σ r) then (mt_len (α q) (α r) i.toNat j.toNat (min (σ q - i) (σ r - j)).toNat : Int) else 0))) := by
  have hNq : zr_N q ≤ 4102 := zr_Nle
  have hNr : zr_N r ≤ 4102 := zr_Nle
  refine zk_K.of (ls := [some (.inr (some (zr_p q))), some (.inl i), some (.inr (some (zr_p r))), some (.inl j), none, none]) (by decide +kernel) (Nat.le_of_ble_eq_true rfl) rfl ?_
  refine zk_aload_n dR_countSame_0 rfl ?_
  refine zk_iload_n dR_countSame_1 rfl ?_
  refine zk_callV (av := [.inl i]) (st := []) (d' := (0, 0)) (kc' := 0) (ks' := 0) zbR_25 dR_countSame_2 (mk_row hq) zr_p0 rfl rfl (Nat.le_of_ble_eq_true rfl) ⟨by decide, by decide⟩ rfl rfl (kR_has G sw σ α t hq hnq hri) (fun v9 h9 q9 => ?_)
  rcases q9 with ⟨rfl, ⟨hc2, rfl⟩ | ⟨hc2, rfl⟩⟩
  · skip
    refine zk_W.to (ls' := [some (.inr (some (zr_p q))), some (.inl i), some (.inr (some (zr_p r))), some (.inl j), none, none]) (st' := [.inl 1]) (h' := (zk_mk G sw σ α t)) rfl rfl rfl ?_
    refine zk_if_eq (tgt := 16) dR_countSame_5 (by decide) ⟨by decide, by decide⟩ (fun h5 => ?_) (fun h5 => ?_)
    · skip
      exact absurd h5 (by decide)
    · skip
      refine zk_aload_n dR_countSame_8 rfl ?_
      refine zk_iload_n dR_countSame_9 rfl ?_
      refine zk_callV (av := [.inl j]) (st := []) (d' := (0, 0)) (kc' := 0) (ks' := 0) zbR_25 dR_countSame_10 (mk_row hr) zr_p0 rfl rfl (Nat.le_of_ble_eq_true rfl) ⟨by decide, by decide⟩ rfl rfl (kR_has G sw σ α t hr hnr hrj) (fun v9 h9 q9 => ?_)
      rcases q9 with ⟨rfl, ⟨hc10, rfl⟩ | ⟨hc10, rfl⟩⟩
      · skip
        refine zk_W.to (ls' := [some (.inr (some (zr_p q))), some (.inl i), some (.inr (some (zr_p r))), some (.inl j), none, none]) (st' := [.inl 1]) (h' := (zk_mk G sw σ α t)) rfl rfl rfl ?_
        refine zk_if_ne (tgt := 18) dR_countSame_13 (by decide) ⟨by decide, by decide⟩ (fun h13 => ?_) (fun h13 => ?_)
        · skip
          refine zk_aload_n dR_countSame_18 rfl ?_
          refine zk_get zfR_21 dR_countSame_19 (mk_row hq) zr_p0 rfl ?_
          refine zk_iload_n dR_countSame_22 rfl ?_
          refine zk_isub dR_countSame_23 ?_
          refine zk_aload_n dR_countSame_24 rfl ?_
          refine zk_get zfR_21 dR_countSame_25 (mk_row hr) zr_p0 rfl ?_
          refine zk_iload_n dR_countSame_28 rfl ?_
          refine zk_isub dR_countSame_29 ?_
          refine zk_mmin dR_countSame_30 zlR_33 zw_mins zw_mi zw_minc ⟨by decide, Nat.le_of_ble_eq_true rfl⟩ ⟨by omega, by omega⟩ ⟨by omega, by omega⟩ ?_
          refine zk_istore (ls' := [some (.inr (some (zr_p q))), some (.inl i), some (.inr (some (zr_p r))), some (.inl j), some (.inl (min ((σ q) - i) ((σ r) - j))), none]) dR_countSame_33 (by decide) rfl ?_
          refine zk_iconst dR_countSame_35 ?_
          refine zk_istore (ls' := [some (.inr (some (zr_p q))), some (.inl i), some (.inr (some (zr_p r))), some (.inl j), some (.inl (min ((σ q) - i) ((σ r) - j))), some (.inl 0)]) dR_countSame_36 (by decide) rfl ?_
          exact wR_countSame G sw σ α t hq hr hnq hnr hv hw hc2 hc10 (min (σ q - i) (σ r - j) + 1).toNat 0 (by omega) (by omega) (fun s hs => absurd hs (Nat.not_lt_zero s))
        · skip
          exact absurd h13 (by decide)
      · skip
        refine zk_W.to (ls' := [some (.inr (some (zr_p q))), some (.inl i), some (.inr (some (zr_p r))), some (.inl j), none, none]) (st' := [.inl 0]) (h' := (zk_mk G sw σ α t)) rfl rfl rfl ?_
        refine zk_if_ne (tgt := 18) dR_countSame_13 (by decide) ⟨by decide, by decide⟩ (fun h13 => ?_) (fun h13 => ?_)
        · skip
          exact absurd h13 (by decide)
        · skip
          refine zk_iconst dR_countSame_16 ?_
          refine zk_iret dR_countSame_17 rfl ⟨rfl, ?_⟩
          rw [if_neg (fun hh => absurd hh (by omega))]
  · skip
    refine zk_W.to (ls' := [some (.inr (some (zr_p q))), some (.inl i), some (.inr (some (zr_p r))), some (.inl j), none, none]) (st' := [.inl 0]) (h' := (zk_mk G sw σ α t)) rfl rfl rfl ?_
    refine zk_if_eq (tgt := 16) dR_countSame_5 (by decide) ⟨by decide, by decide⟩ (fun h5 => ?_) (fun h5 => ?_)
    · skip
      refine zk_iconst dR_countSame_16 ?_
      refine zk_iret dR_countSame_17 rfl ⟨rfl, ?_⟩
      rw [if_neg (fun hh => absurd hh (by omega))]
    · skip
      exact absurd h5 (by decide)
end
section
set_option maxRecDepth 100000 in
set_option maxHeartbeats 4000000 in
theorem kN_set (G : zk_G) (sw : Bool) (σ : Nat → Int) (α : Nat → Nat → Int) (t : zk_H) (x0 x1 x2 x3 x4 : Int) : zk_K G mN_set (0, 0) 0 0 [.inr (some 10), .inl x0, .inl x1, .inl x2, .inl x3, .inl x4] (zk_mk G sw σ α t) (fun v h' => v = none ∧ h' = zk_mk G sw (zk_up (zk_up (zk_up (zk_up (zk_up σ 5 x0) 6 x1) 7 x2) 8 x3) 9 x4) α t) := by
  refine zk_K.of (ls := [some (.inr (some 10)), some (.inl x0), some (.inl x1), some (.inl x2), some (.inl x3), some (.inl x4)]) (by decide +kernel) (Nat.le_of_ble_eq_true rfl) rfl ?_
  refine zk_aload_n dN_set_0 rfl ?_
  refine zk_iload_n dN_set_1 rfl ?_
  refine zk_put zfN_18 dN_set_2 (h' := (zk_mk G sw (zk_up σ 5 x0) α t)) rfl (by decide) (Nat.le_of_ble_eq_true rfl) rfl rfl rfl ?_
  refine zk_aload_n dN_set_5 rfl ?_
  refine zk_iload_n dN_set_6 rfl ?_
  refine zk_put zfN_22 dN_set_7 (h' := (zk_mk G sw (zk_up (zk_up σ 5 x0) 6 x1) α t)) rfl (by decide) (Nat.le_of_ble_eq_true rfl) rfl rfl rfl ?_
  refine zk_aload_n dN_set_10 rfl ?_
  refine zk_iload_n dN_set_11 rfl ?_
  refine zk_put zfN_25 dN_set_12 (h' := (zk_mk G sw (zk_up (zk_up (zk_up σ 5 x0) 6 x1) 7 x2) α t)) rfl (by decide) (Nat.le_of_ble_eq_true rfl) rfl rfl rfl ?_
  refine zk_aload_n dN_set_15 rfl ?_
  refine zk_iload dN_set_16 rfl ?_
  refine zk_put zfN_28 dN_set_18 (h' := (zk_mk G sw (zk_up (zk_up (zk_up (zk_up σ 5 x0) 6 x1) 7 x2) 8 x3) α t)) rfl (by decide) (Nat.le_of_ble_eq_true rfl) rfl rfl rfl ?_
  refine zk_aload_n dN_set_21 rfl ?_
  refine zk_iload dN_set_22 rfl ?_
  refine zk_put zfN_31 dN_set_24 (h' := (zk_mk G sw (zk_up (zk_up (zk_up (zk_up (zk_up σ 5 x0) 6 x1) 7 x2) 8 x3) 9 x4) α t)) rfl (by decide) (Nat.le_of_ble_eq_true rfl) rfl rfl rfl ?_
  exact zk_ret dN_set_27 rfl ⟨rfl, rfl⟩

set_option maxRecDepth 100000 in
set_option maxHeartbeats 4000000 in
theorem kN_setFirstOnes (G : zk_G) (sw : Bool) (σ : Nat → Int) (α : Nat → Nat → Int) (t : zk_H) : zk_K G mN_setFirstOnes (1, 25) 0 0 [.inr (some 10)] (zk_mk G sw σ α t) (fun v h' => v = none ∧ h' = zk_mk G sw (zk_up (zk_up (zk_up (zk_up (zk_up σ 5 4) 6 2) 7 4) 8 2) 9 3) α t) := by
  refine zk_K.of (ls := [some (.inr (some 10))]) (by decide +kernel) (Nat.le_of_ble_eq_true rfl) rfl ?_
  refine zk_aload_n dN_setFirstOnes_0 rfl ?_
  refine zk_iconst dN_setFirstOnes_1 ?_
  refine zk_iconst dN_setFirstOnes_2 ?_
  refine zk_iconst dN_setFirstOnes_3 ?_
  refine zk_iconst dN_setFirstOnes_4 ?_
  refine zk_iconst dN_setFirstOnes_5 ?_
  refine zk_callV (av := [.inl 4, .inl 2, .inl 4, .inl 2, .inl 3]) (st := []) (d' := (0, 0)) (kc' := 0) (ks' := 0) zbN_14 dN_setFirstOnes_6 rfl (by decide) rfl rfl (Nat.le_of_ble_eq_true rfl) ⟨by decide, by decide⟩ rfl rfl (kN_set G sw σ α t 4 2 4 2 3) (fun v9 h9 q9 => ?_)
  obtain ⟨rfl, rfl⟩ := q9
  refine zk_W.to (ls' := [some (.inr (some 10))]) (st' := []) (h' := (zk_mk G sw (zk_up (zk_up (zk_up (zk_up (zk_up σ 5 4) 6 2) 7 4) 8 2) 9 3) α t)) rfl rfl rfl ?_
  exact zk_ret dN_setFirstOnes_9 rfl ⟨rfl, rfl⟩

set_option maxRecDepth 100000 in
set_option maxHeartbeats 4000000 in
theorem kN_oneIfOther (G : zk_G) (sw : Bool) (σ : Nat → Int) (α : Nat → Nat → Int) (t : zk_H) {a b : Int} (h1 : zk_rg a) (h2 : zk_rg b) : zk_K G mN_oneIfOther (0, 0) 0 0 [.inl a, .inl b] (zk_mk G sw σ α t) (fun v h' => h' = (zk_mk G sw σ α t) ∧ v = some (.inl (if a = b then 0 else 1))) := by
  refine zk_K.of (ls := [some (.inl a), some (.inl b)]) (by decide +kernel) (Nat.le_of_ble_eq_true rfl) rfl ?_
  refine zk_iload_n dN_oneIfOther_0 rfl ?_
  refine zk_iload_n dN_oneIfOther_1 rfl ?_
  refine zk_icmp_ne (tgt := 9) dN_oneIfOther_2 (by decide) h1 h2 (fun h2' => ?_) (fun h2' => ?_)
  · skip
    refine zk_iconst dN_oneIfOther_9 ?_
    refine zk_iret dN_oneIfOther_10 rfl ⟨rfl, ?_⟩
    rw [if_neg h2']
  · skip
    refine zk_iconst dN_oneIfOther_5 ?_
    refine zk_goto (tgt := 10) dN_oneIfOther_6 (by decide) ?_
    refine zk_iret dN_oneIfOther_10 rfl ⟨rfl, ?_⟩
    rw [if_pos h2']

set_option maxRecDepth 100000 in
set_option maxHeartbeats 4000000 in
theorem kN_countOthers (G : zk_G) (sw : Bool) (σ : Nat → Int) (α : Nat → Nat → Int) (t : zk_H) (hc : ∀ j, j < 5 → 0 ≤ zs_c σ j ∧ zs_c σ j ≤ 100) (x0 x1 x2 x3 x4 : Int) (hx0 : zk_rg x0) (hx1 : zk_rg x1) (hx2 : zk_rg x2) (hx3 : zk_rg x3) (hx4 : zk_rg x4) : zk_K G mN_countOthers (1, 21) 0 0 [.inr (some 10), .inl x0, .inl x1, .inl x2, .inl x3, .inl x4] (zk_mk G sw σ α t) (fun v h' => h' = (zk_mk G sw σ α t) ∧ v = some (.inl ((((((if σ 5 = x0 then 0 else 1) + (if σ 6 = x1 then 0 else 1)) + (if σ 7 = x2 then 0 else 1)) + (if σ 8 = x3 then 0 else 1)) + (if σ 9 = x4 then 0 else 1))))) := by
  refine zk_K.of (ls := [some (.inr (some 10)), some (.inl x0), some (.inl x1), some (.inl x2), some (.inl x3), some (.inl x4)]) (by decide +kernel) (Nat.le_of_ble_eq_true rfl) rfl ?_
  refine zk_aload_n dN_countOthers_0 rfl ?_
  refine zk_get zfN_18 dN_countOthers_1 (v := .inl (σ 5)) rfl (by decide) rfl ?_
  refine zk_iload_n dN_countOthers_4 rfl ?_
  refine zk_callS (av := [.inl (σ 5), .inl x0]) (st := []) (d' := (0, 0)) (kc' := 0) (ks' := 0) zbN_34 dN_countOthers_5 rfl rfl (Nat.le_of_ble_eq_true rfl) ⟨by decide, by decide⟩ rfl rfl (kN_oneIfOther G sw σ α t ⟨by have h9 : 0 ≤ σ 5 ∧ σ 5 ≤ 100 := hc 0 (by decide); omega, by have h9 : 0 ≤ σ 5 ∧ σ 5 ≤ 100 := hc 0 (by decide); omega⟩ hx0) (fun v9 h9 q9 => ?_)
  obtain ⟨rfl, rfl⟩ := q9
  refine zk_W.to (ls' := [some (.inr (some 10)), some (.inl x0), some (.inl x1), some (.inl x2), some (.inl x3), some (.inl x4)]) (st' := [.inl (if σ 5 = x0 then 0 else 1)]) (h' := (zk_mk G sw σ α t)) rfl rfl rfl ?_
  refine zk_aload_n dN_countOthers_8 rfl ?_
  refine zk_get zfN_22 dN_countOthers_9 (v := .inl (σ 6)) rfl (by decide) rfl ?_
  refine zk_iload_n dN_countOthers_12 rfl ?_
  refine zk_callS (av := [.inl (σ 6), .inl x1]) (st := [.inl (if σ 5 = x0 then 0 else 1)]) (d' := (0, 0)) (kc' := 0) (ks' := 0) zbN_34 dN_countOthers_13 rfl rfl (Nat.le_of_ble_eq_true rfl) ⟨by decide, by decide⟩ rfl rfl (kN_oneIfOther G sw σ α t ⟨by have h9 : 0 ≤ σ 6 ∧ σ 6 ≤ 100 := hc 1 (by decide); omega, by have h9 : 0 ≤ σ 6 ∧ σ 6 ≤ 100 := hc 1 (by decide); omega⟩ hx1) (fun v9 h9 q9 => ?_)
  obtain ⟨rfl, rfl⟩ := q9
  refine zk_W.to (ls' := [some (.inr (some 10)), some (.inl x0), some (.inl x1), some (.inl x2), some (.inl x3), some (.inl x4)]) (st' := [.inl (if σ 6 = x1 then 0 else 1), .inl (if σ 5 = x0 then 0 else 1)]) (h' := (zk_mk G sw σ α t)) rfl rfl rfl ?_
  refine zk_iadd dN_countOthers_16 ?_
  refine zk_aload_n dN_countOthers_17 rfl ?_
  refine zk_get zfN_25 dN_countOthers_18 (v := .inl (σ 7)) rfl (by decide) rfl ?_
  refine zk_iload_n dN_countOthers_21 rfl ?_
  refine zk_callS (av := [.inl (σ 7), .inl x2]) (st := [.inl ((if σ 5 = x0 then 0 else 1) + (if σ 6 = x1 then 0 else 1))]) (d' := (0, 0)) (kc' := 0) (ks' := 0) zbN_34 dN_countOthers_22 rfl rfl (Nat.le_of_ble_eq_true rfl) ⟨by decide, by decide⟩ rfl rfl (kN_oneIfOther G sw σ α t ⟨by have h9 : 0 ≤ σ 7 ∧ σ 7 ≤ 100 := hc 2 (by decide); omega, by have h9 : 0 ≤ σ 7 ∧ σ 7 ≤ 100 := hc 2 (by decide); omega⟩ hx2) (fun v9 h9 q9 => ?_)
  obtain ⟨rfl, rfl⟩ := q9
  refine zk_W.to (ls' := [some (.inr (some 10)), some (.inl x0), some (.inl x1), some (.inl x2), some (.inl x3), some (.inl x4)]) (st' := [.inl (if σ 7 = x2 then 0 else 1), .inl ((if σ 5 = x0 then 0 else 1) + (if σ 6 = x1 then 0 else 1))]) (h' := (zk_mk G sw σ α t)) rfl rfl rfl ?_
  refine zk_iadd dN_countOthers_25 ?_
  refine zk_aload_n dN_countOthers_26 rfl ?_
  refine zk_get zfN_28 dN_countOthers_27 (v := .inl (σ 8)) rfl (by decide) rfl ?_
  refine zk_iload dN_countOthers_30 rfl ?_
  refine zk_callS (av := [.inl (σ 8), .inl x3]) (st := [.inl (((if σ 5 = x0 then 0 else 1) + (if σ 6 = x1 then 0 else 1)) + (if σ 7 = x2 then 0 else 1))]) (d' := (0, 0)) (kc' := 0) (ks' := 0) zbN_34 dN_countOthers_32 rfl rfl (Nat.le_of_ble_eq_true rfl) ⟨by decide, by decide⟩ rfl rfl (kN_oneIfOther G sw σ α t ⟨by have h9 : 0 ≤ σ 8 ∧ σ 8 ≤ 100 := hc 3 (by decide); omega, by have h9 : 0 ≤ σ 8 ∧ σ 8 ≤ 100 := hc 3 (by decide); omega⟩ hx3) (fun v9 h9 q9 => ?_)
  obtain ⟨rfl, rfl⟩ := q9
  refine zk_W.to (ls' := [some (.inr (some 10)), some (.inl x0), some (.inl x1), some (.inl x2), some (.inl x3), some (.inl x4)]) (st' := [.inl (if σ 8 = x3 then 0 else 1), .inl (((if σ 5 = x0 then 0 else 1) + (if σ 6 = x1 then 0 else 1)) + (if σ 7 = x2 then 0 else 1))]) (h' := (zk_mk G sw σ α t)) rfl rfl rfl ?_
  refine zk_iadd dN_countOthers_35 ?_
  refine zk_aload_n dN_countOthers_36 rfl ?_
  refine zk_get zfN_31 dN_countOthers_37 (v := .inl (σ 9)) rfl (by decide) rfl ?_
  refine zk_iload dN_countOthers_40 rfl ?_
  refine zk_callS (av := [.inl (σ 9), .inl x4]) (st := [.inl ((((if σ 5 = x0 then 0 else 1) + (if σ 6 = x1 then 0 else 1)) + (if σ 7 = x2 then 0 else 1)) + (if σ 8 = x3 then 0 else 1))]) (d' := (0, 0)) (kc' := 0) (ks' := 0) zbN_34 dN_countOthers_42 rfl rfl (Nat.le_of_ble_eq_true rfl) ⟨by decide, by decide⟩ rfl rfl (kN_oneIfOther G sw σ α t ⟨by have h9 : 0 ≤ σ 9 ∧ σ 9 ≤ 100 := hc 4 (by decide); omega, by have h9 : 0 ≤ σ 9 ∧ σ 9 ≤ 100 := hc 4 (by decide); omega⟩ hx4) (fun v9 h9 q9 => ?_)
  obtain ⟨rfl, rfl⟩ := q9
  refine zk_W.to (ls' := [some (.inr (some 10)), some (.inl x0), some (.inl x1), some (.inl x2), some (.inl x3), some (.inl x4)]) (st' := [.inl (if σ 9 = x4 then 0 else 1), .inl ((((if σ 5 = x0 then 0 else 1) + (if σ 6 = x1 then 0 else 1)) + (if σ 7 = x2 then 0 else 1)) + (if σ 8 = x3 then 0 else 1))]) (h' := (zk_mk G sw σ α t)) rfl rfl rfl ?_
  refine zk_iadd dN_countOthers_45 ?_
  exact zk_iret dN_countOthers_46 rfl ⟨rfl, rfl⟩

set_option maxRecDepth 100000 in
set_option maxHeartbeats 4000000 in
theorem kN_get (G : zk_G) (sw : Bool) (σ : Nat → Int) (α : Nat → Nat → Int) (t : zk_H) {i : Int} (hi : zk_rg i) : zk_K G mN_get (0, 0) 0 0 [.inr (some 10), .inl i] (zk_mk G sw σ α t) (fun v h' => h' = (zk_mk G sw σ α t) ∧ v = some (.inl (if 0 ≤ i ∧ i ≤ 4 then σ (5 + i.toNat) else -2))) := by
  refine zk_K.of (ls := [some (.inr (some 10)), some (.inl i)]) (by decide +kernel) (Nat.le_of_ble_eq_true rfl) rfl ?_
  refine zk_iload_n dN_get_0 rfl ?_
  by_cases h1_0 : i = 0
  · skip
    refine zk_tableIn (tgt := 36) dN_get_1 hi (by omega) (by omega) (by rw [h1_0]; rfl) (by decide) ?_
    refine zk_aload_n dN_get_36 rfl ?_
    refine zk_get zfN_18 dN_get_37 (v := .inl (σ 5)) rfl (by decide) rfl ?_
    refine zk_iret dN_get_40 rfl ⟨rfl, ?_⟩
    first | (rw [h1_0]; rfl) | (rw [h1_1]; rfl) | (rw [h1_2]; rfl) | (rw [h1_3]; rfl) | (rw [h1_4]; rfl) | (rw [if_neg (by omega)])
  by_cases h1_1 : i = 1
  · skip
    refine zk_tableIn (tgt := 41) dN_get_1 hi (by omega) (by omega) (by rw [h1_1]; rfl) (by decide) ?_
    refine zk_aload_n dN_get_41 rfl ?_
    refine zk_get zfN_22 dN_get_42 (v := .inl (σ 6)) rfl (by decide) rfl ?_
    refine zk_iret dN_get_45 rfl ⟨rfl, ?_⟩
    first | (rw [h1_0]; rfl) | (rw [h1_1]; rfl) | (rw [h1_2]; rfl) | (rw [h1_3]; rfl) | (rw [h1_4]; rfl) | (rw [if_neg (by omega)])
  by_cases h1_2 : i = 2
  · skip
    refine zk_tableIn (tgt := 46) dN_get_1 hi (by omega) (by omega) (by rw [h1_2]; rfl) (by decide) ?_
    refine zk_aload_n dN_get_46 rfl ?_
    refine zk_get zfN_25 dN_get_47 (v := .inl (σ 7)) rfl (by decide) rfl ?_
    refine zk_iret dN_get_50 rfl ⟨rfl, ?_⟩
    first | (rw [h1_0]; rfl) | (rw [h1_1]; rfl) | (rw [h1_2]; rfl) | (rw [h1_3]; rfl) | (rw [h1_4]; rfl) | (rw [if_neg (by omega)])
  by_cases h1_3 : i = 3
  · skip
    refine zk_tableIn (tgt := 51) dN_get_1 hi (by omega) (by omega) (by rw [h1_3]; rfl) (by decide) ?_
    refine zk_aload_n dN_get_51 rfl ?_
    refine zk_get zfN_28 dN_get_52 (v := .inl (σ 8)) rfl (by decide) rfl ?_
    refine zk_iret dN_get_55 rfl ⟨rfl, ?_⟩
    first | (rw [h1_0]; rfl) | (rw [h1_1]; rfl) | (rw [h1_2]; rfl) | (rw [h1_3]; rfl) | (rw [h1_4]; rfl) | (rw [if_neg (by omega)])
  by_cases h1_4 : i = 4
  · skip
    refine zk_tableIn (tgt := 56) dN_get_1 hi (by omega) (by omega) (by rw [h1_4]; rfl) (by decide) ?_
    refine zk_aload_n dN_get_56 rfl ?_
    refine zk_get zfN_31 dN_get_57 (v := .inl (σ 9)) rfl (by decide) rfl ?_
    refine zk_iret dN_get_60 rfl ⟨rfl, ?_⟩
    first | (rw [h1_0]; rfl) | (rw [h1_1]; rfl) | (rw [h1_2]; rfl) | (rw [h1_3]; rfl) | (rw [h1_4]; rfl) | (rw [if_neg (by omega)])
  refine zk_tableOut (tgt := 61) dN_get_1 hi (by omega) (by decide) ?_
  refine zk_bipush dN_get_61 (by decide) ?_
  refine zk_iret dN_get_63 rfl ⟨rfl, ?_⟩
  first | (rw [h1_0]; rfl) | (rw [h1_1]; rfl) | (rw [h1_2]; rfl) | (rw [h1_3]; rfl) | (rw [h1_4]; rfl) | (rw [if_neg (by omega)])

set_option maxRecDepth 100000 in
set_option maxHeartbeats 4000000 in
theorem kN_ofCopy (G : zk_G) (sw : Bool) (σ : Nat → Int) (α : Nat → Nat → Int) (t : zk_H) {p s : Int} (hp : zk_rg p) (hs' : zk_rg s) : zk_K G mN_ofCopy (0, 0) 0 0 [.inr (some 10), .inl p, .inl s] (zk_mk G sw σ α t) (fun v h' => h' = (zk_mk G sw σ α t) ∧ v = some (.inl (if p = s then σ 5 else σ 5 + σ 6))) := by
  refine zk_K.of (ls := [some (.inr (some 10)), some (.inl p), some (.inl s)]) (by decide +kernel) (Nat.le_of_ble_eq_true rfl) rfl ?_
  refine zk_iload_n dN_ofCopy_0 rfl ?_
  refine zk_iload_n dN_ofCopy_1 rfl ?_
  refine zk_icmp_ne (tgt := 12) dN_ofCopy_2 (by decide) hp hs' (fun h2 => ?_) (fun h2 => ?_)
  · skip
    refine zk_aload_n dN_ofCopy_12 rfl ?_
    refine zk_get zfN_18 dN_ofCopy_13 (v := .inl (σ 5)) rfl (by decide) rfl ?_
    refine zk_aload_n dN_ofCopy_16 rfl ?_
    refine zk_get zfN_22 dN_ofCopy_17 (v := .inl (σ 6)) rfl (by decide) rfl ?_
    refine zk_iadd dN_ofCopy_20 ?_
    refine zk_iret dN_ofCopy_21 rfl ⟨rfl, ?_⟩
    rw [if_neg h2]
  · skip
    refine zk_aload_n dN_ofCopy_5 rfl ?_
    refine zk_get zfN_18 dN_ofCopy_6 (v := .inl (σ 5)) rfl (by decide) rfl ?_
    refine zk_goto (tgt := 21) dN_ofCopy_9 (by decide) ?_
    refine zk_iret dN_ofCopy_21 rfl ⟨rfl, ?_⟩
    rw [if_pos h2]

set_option maxRecDepth 100000 in
set_option maxHeartbeats 4000000 in
theorem kN_ofSelf (G : zk_G) (sw : Bool) (σ : Nat → Int) (α : Nat → Nat → Int) (t : zk_H) : zk_K G mN_ofSelf (0, 0) 0 0 [.inr (some 10)] (zk_mk G sw σ α t) (fun v h' => h' = (zk_mk G sw σ α t) ∧ v = some (.inl (σ 7))) := by
  refine zk_K.of (ls := [some (.inr (some 10))]) (by decide +kernel) (Nat.le_of_ble_eq_true rfl) rfl ?_
  refine zk_aload_n dN_ofSelf_0 rfl ?_
  refine zk_get zfN_25 dN_ofSelf_1 (v := .inl (σ 7)) rfl (by decide) rfl ?_
  exact zk_iret dN_ofSelf_4 rfl ⟨rfl, rfl⟩

set_option maxRecDepth 100000 in
set_option maxHeartbeats 4000000 in
theorem kN_ofLay (G : zk_G) (sw : Bool) (σ : Nat → Int) (α : Nat → Nat → Int) (t : zk_H) {n : Int} : zk_K G mN_ofLay (0, 0) 0 0 [.inr (some 10), .inl n] (zk_mk G sw σ α t) (fun v h' => h' = (zk_mk G sw σ α t) ∧ v = some (.inl (σ 8 + σ 9 * n))) := by
  refine zk_K.of (ls := [some (.inr (some 10)), some (.inl n)]) (by decide +kernel) (Nat.le_of_ble_eq_true rfl) rfl ?_
  refine zk_aload_n dN_ofLay_0 rfl ?_
  refine zk_get zfN_28 dN_ofLay_1 (v := .inl (σ 8)) rfl (by decide) rfl ?_
  refine zk_aload_n dN_ofLay_4 rfl ?_
  refine zk_get zfN_31 dN_ofLay_5 (v := .inl (σ 9)) rfl (by decide) rfl ?_
  refine zk_iload_n dN_ofLay_8 rfl ?_
  refine zk_imul dN_ofLay_9 ?_
  refine zk_iadd dN_ofLay_10 ?_
  exact zk_iret dN_ofLay_11 rfl ⟨rfl, rfl⟩

set_option maxRecDepth 100000 in
set_option maxHeartbeats 4000000 in
theorem kA_begin (G : zk_G) (sw : Bool) (σ : Nat → Int) (α : Nat → Nat → Int) (t : zk_H) {x : Int} : zk_K G mA_begin (1, 20) 0 0 [.inr (some 11), .inl x] (zk_mk G sw σ α t) (fun v h' => v = none ∧ h' = zk_mk G sw (zk_up (zk_up (zk_up σ 10 0) 4 0) 11 x) α t) := by
  refine zk_K.of (ls := [some (.inr (some 11)), some (.inl x)]) (by decide +kernel) (Nat.le_of_ble_eq_true rfl) rfl ?_
  refine zk_aload_n dA_begin_0 rfl ?_
  refine zk_iconst dA_begin_1 ?_
  refine zk_put zfA_37 dA_begin_2 (h' := (zk_mk G sw (zk_up σ 10 0) α t)) rfl (by decide) (Nat.le_of_ble_eq_true rfl) rfl rfl rfl ?_
  refine zk_aload_n dA_begin_5 rfl ?_
  refine zk_get zfA_29 dA_begin_6 (v := .inr (some 16)) rfl (by decide) rfl ?_
  refine zk_callV (av := []) (st := []) (d' := (0, 0)) (kc' := 0) (ks' := 0) zbA_40 dA_begin_9 rfl (by decide) rfl rfl (Nat.le_of_ble_eq_true rfl) ⟨by decide, by decide⟩ rfl rfl (kR_dropAll G sw (zk_up σ 10 0) α t (q := 4) (by decide)) (fun v9 h9 q9 => ?_)
  obtain ⟨rfl, rfl⟩ := q9
  refine zk_W.to (ls' := [some (.inr (some 11)), some (.inl x)]) (st' := []) (h' := (zk_mk G sw (zk_up (zk_up σ 10 0) 4 0) α t)) rfl rfl rfl ?_
  refine zk_aload_n dA_begin_12 rfl ?_
  refine zk_iload_n dA_begin_13 rfl ?_
  refine zk_put zfA_33 dA_begin_14 (h' := (zk_mk G sw (zk_up (zk_up (zk_up σ 10 0) 4 0) 11 x) α t)) rfl (by decide) (Nat.le_of_ble_eq_true rfl) rfl rfl rfl ?_
  exact zk_ret dA_begin_17 rfl ⟨rfl, rfl⟩

set_option maxRecDepth 100000 in
set_option maxHeartbeats 4000000 in
theorem kA_length (G : zk_G) (sw : Bool) (σ : Nat → Int) (α : Nat → Nat → Int) (t : zk_H) : zk_K G mA_length (0, 0) 0 0 [.inr (some 11)] (zk_mk G sw σ α t) (fun v h' => h' = (zk_mk G sw σ α t) ∧ v = some (.inl (σ 10))) := by
  refine zk_K.of (ls := [some (.inr (some 11))]) (by decide +kernel) (Nat.le_of_ble_eq_true rfl) rfl ?_
  refine zk_aload_n dA_length_0 rfl ?_
  refine zk_get zfA_37 dA_length_1 (v := .inl (σ 10)) rfl (by decide) rfl ?_
  exact zk_iret dA_length_4 rfl ⟨rfl, rfl⟩

set_option maxRecDepth 100000 in
set_option maxHeartbeats 4000000 in
theorem kA_sum (G : zk_G) (sw : Bool) (σ : Nat → Int) (α : Nat → Nat → Int) (t : zk_H) : zk_K G mA_sum (0, 0) 0 0 [.inr (some 11)] (zk_mk G sw σ α t) (fun v h' => h' = (zk_mk G sw σ α t) ∧ v = some (.inl (σ 11))) := by
  refine zk_K.of (ls := [some (.inr (some 11))]) (by decide +kernel) (Nat.le_of_ble_eq_true rfl) rfl ?_
  refine zk_aload_n dA_sum_0 rfl ?_
  refine zk_get zfA_33 dA_sum_1 (v := .inl (σ 11)) rfl (by decide) rfl ?_
  exact zk_iret dA_sum_4 rfl ⟨rfl, rfl⟩

set_option maxRecDepth 100000 in
set_option maxHeartbeats 4000000 in
theorem kA_isFull (G : zk_G) (sw : Bool) (σ : Nat → Int) (α : Nat → Nat → Int) (t : zk_H) (hs : zk_rg (σ 10)) : zk_K G mA_isFull (0, 0) 0 0 [.inr (some 11)] (zk_mk G sw σ α t) (fun v h' => h' = (zk_mk G sw σ α t) ∧ ((100 ≤ σ 10 ∧ v = some (.inl 1)) ∨ (σ 10 < 100 ∧ v = some (.inl 0)))) := by
  refine zk_K.of (ls := [some (.inr (some 11))]) (by decide +kernel) (Nat.le_of_ble_eq_true rfl) rfl ?_
  refine zk_aload_n dA_isFull_0 rfl ?_
  refine zk_get zfA_37 dA_isFull_1 (v := .inl (σ 10)) rfl (by decide) rfl ?_
  refine zk_bipush dA_isFull_4 (by decide) ?_
  refine zk_icmp_lt (tgt := 13) dA_isFull_6 (by decide) hs ⟨by decide, by decide⟩ (fun h6 => ?_) (fun h6 => ?_)
  · skip
    refine zk_iconst dA_isFull_13 ?_
    exact zk_zret dA_isFull_14 rfl (by decide) ⟨rfl, Or.inr ⟨h6, rfl⟩⟩
  · skip
    refine zk_iconst dA_isFull_9 ?_
    refine zk_goto (tgt := 14) dA_isFull_10 (by decide) ?_
    exact zk_zret dA_isFull_14 rfl (by decide) ⟨rfl, Or.inl ⟨h6, rfl⟩⟩

set_option maxRecDepth 100000 in
set_option maxHeartbeats 4000000 in
theorem kA_has (G : zk_G) (sw : Bool) (σ : Nat → Int) (α : Nat → Nat → Int) (t : zk_H) (hs : zk_rg (σ 10)) {k : Int} (hk : zk_rg k) : zk_K G mA_has (0, 0) 0 0 [.inr (some 11), .inl k] (zk_mk G sw σ α t) (fun v h' => h' = (zk_mk G sw σ α t) ∧ (((0 ≤ k ∧ k < σ 10) ∧ v = some (.inl 1)) ∨ ((¬ (0 ≤ k ∧ k < σ 10)) ∧ v = some (.inl 0)))) := by
  refine zk_K.of (ls := [some (.inr (some 11)), some (.inl k)]) (by decide +kernel) (Nat.le_of_ble_eq_true rfl) rfl ?_
  refine zk_iload_n dA_has_0 rfl ?_
  refine zk_if_lt (tgt := 16) dA_has_1 (by decide) hk (fun h1 => ?_) (fun h1 => ?_)
  · skip
    refine zk_iconst dA_has_16 ?_
    exact zk_zret dA_has_17 rfl (by decide) ⟨rfl, Or.inr ⟨by omega, rfl⟩⟩
  · skip
    refine zk_iload_n dA_has_4 rfl ?_
    refine zk_aload_n dA_has_5 rfl ?_
    refine zk_get zfA_37 dA_has_6 (v := .inl (σ 10)) rfl (by decide) rfl ?_
    refine zk_icmp_ge (tgt := 16) dA_has_9 (by decide) hk hs (fun h9 => ?_) (fun h9 => ?_)
    · skip
      refine zk_iconst dA_has_16 ?_
      exact zk_zret dA_has_17 rfl (by decide) ⟨rfl, Or.inr ⟨by omega, rfl⟩⟩
    · skip
      refine zk_iconst dA_has_12 ?_
      refine zk_goto (tgt := 17) dA_has_13 (by decide) ?_
      exact zk_zret dA_has_17 rfl (by decide) ⟨rfl, Or.inl ⟨⟨h1, h9⟩, rfl⟩⟩

set_option maxRecDepth 100000 in
set_option maxHeartbeats 4000000 in
theorem kA_kind (G : zk_G) (sw : Bool) (σ : Nat → Int) (α : Nat → Nat → Int) (t : zk_H) (hs : 0 ≤ σ 10 ∧ σ 10 ≤ 100) {k : Int} (hk : zk_rg k) : zk_K G mA_kind (1, 21) 0 0 [.inr (some 11), .inl k] (zk_mk G sw σ α t) (fun v h' => h' = (zk_mk G sw σ α t) ∧ (((0 ≤ k ∧ k < σ 10) ∧ v = some (.inl (α 5 k.toNat))) ∨ ((¬ (0 ≤ k ∧ k < σ 10)) ∧ v = some (.inl (-1))))) := by
  refine zk_K.of (ls := [some (.inr (some 11)), some (.inl k)]) (by decide +kernel) (Nat.le_of_ble_eq_true rfl) rfl ?_
  refine zk_aload_n dA_kind_0 rfl ?_
  refine zk_iload_n dA_kind_1 rfl ?_
  refine zk_callV (av := [.inl k]) (st := []) (d' := (0, 0)) (kc' := 0) (ks' := 0) zbA_43 dA_kind_2 rfl (by decide) rfl rfl (Nat.le_of_ble_eq_true rfl) ⟨by decide, by decide⟩ rfl rfl (kA_has G sw σ α t ⟨by omega, by omega⟩ hk) (fun v9 h9 q9 => ?_)
  rcases q9 with ⟨rfl, ⟨hc2, rfl⟩ | ⟨hc2, rfl⟩⟩
  · skip
    refine zk_W.to (ls' := [some (.inr (some 11)), some (.inl k)]) (st' := [.inl 1]) (h' := (zk_mk G sw σ α t)) rfl rfl rfl ?_
    refine zk_if_eq (tgt := 17) dA_kind_5 (by decide) ⟨by decide, by decide⟩ (fun h5 => ?_) (fun h5 => ?_)
    · skip
      exact absurd h5 (by decide)
    · skip
      refine zk_aload_n dA_kind_8 rfl ?_
      refine zk_get zfA_9 dA_kind_9 (v := .inr (some 12)) rfl (by decide) rfl ?_
      refine zk_iload_n dA_kind_12 rfl ?_
      refine zk_iald dA_kind_13 (n := 100) (f := α 5) rfl (by omega) (by omega) (by omega) ?_
      refine zk_goto (tgt := 18) dA_kind_14 (by decide) ?_
      exact zk_iret dA_kind_18 rfl ⟨rfl, Or.inl ⟨hc2, rfl⟩⟩
  · skip
    refine zk_W.to (ls' := [some (.inr (some 11)), some (.inl k)]) (st' := [.inl 0]) (h' := (zk_mk G sw σ α t)) rfl rfl rfl ?_
    refine zk_if_eq (tgt := 17) dA_kind_5 (by decide) ⟨by decide, by decide⟩ (fun h5 => ?_) (fun h5 => ?_)
    · skip
      refine zk_iconst dA_kind_17 ?_
      exact zk_iret dA_kind_18 rfl ⟨rfl, Or.inr ⟨hc2, rfl⟩⟩
    · skip
      exact absurd h5 (by decide)

set_option maxRecDepth 100000 in
set_option maxHeartbeats 4000000 in
theorem kA_count (G : zk_G) (sw : Bool) (σ : Nat → Int) (α : Nat → Nat → Int) (t : zk_H) (hs : 0 ≤ σ 10 ∧ σ 10 ≤ 100) {k : Int} (hk : zk_rg k) : zk_K G mA_count (1, 21) 0 0 [.inr (some 11), .inl k] (zk_mk G sw σ α t) (fun v h' => h' = (zk_mk G sw σ α t) ∧ (((0 ≤ k ∧ k < σ 10) ∧ v = some (.inl (α 7 k.toNat))) ∨ ((¬ (0 ≤ k ∧ k < σ 10)) ∧ v = some (.inl 0)))) := by
  refine zk_K.of (ls := [some (.inr (some 11)), some (.inl k)]) (by decide +kernel) (Nat.le_of_ble_eq_true rfl) rfl ?_
  refine zk_aload_n dA_count_0 rfl ?_
  refine zk_iload_n dA_count_1 rfl ?_
  refine zk_callV (av := [.inl k]) (st := []) (d' := (0, 0)) (kc' := 0) (ks' := 0) zbA_43 dA_count_2 rfl (by decide) rfl rfl (Nat.le_of_ble_eq_true rfl) ⟨by decide, by decide⟩ rfl rfl (kA_has G sw σ α t ⟨by omega, by omega⟩ hk) (fun v9 h9 q9 => ?_)
  rcases q9 with ⟨rfl, ⟨hc2, rfl⟩ | ⟨hc2, rfl⟩⟩
  · skip
    refine zk_W.to (ls' := [some (.inr (some 11)), some (.inl k)]) (st' := [.inl 1]) (h' := (zk_mk G sw σ α t)) rfl rfl rfl ?_
    refine zk_if_eq (tgt := 17) dA_count_5 (by decide) ⟨by decide, by decide⟩ (fun h5 => ?_) (fun h5 => ?_)
    · skip
      exact absurd h5 (by decide)
    · skip
      refine zk_aload_n dA_count_8 rfl ?_
      refine zk_get zfA_18 dA_count_9 (v := .inr (some 14)) rfl (by decide) rfl ?_
      refine zk_iload_n dA_count_12 rfl ?_
      refine zk_iald dA_count_13 (n := 100) (f := α 7) rfl (by omega) (by omega) (by omega) ?_
      refine zk_goto (tgt := 18) dA_count_14 (by decide) ?_
      exact zk_iret dA_count_18 rfl ⟨rfl, Or.inl ⟨hc2, rfl⟩⟩
  · skip
    refine zk_W.to (ls' := [some (.inr (some 11)), some (.inl k)]) (st' := [.inl 0]) (h' := (zk_mk G sw σ α t)) rfl rfl rfl ?_
    refine zk_if_eq (tgt := 17) dA_count_5 (by decide) ⟨by decide, by decide⟩ (fun h5 => ?_) (fun h5 => ?_)
    · skip
      refine zk_iconst dA_count_17 ?_
      exact zk_iret dA_count_18 rfl ⟨rfl, Or.inr ⟨hc2, rfl⟩⟩
    · skip
      exact absurd h5 (by decide)

set_option maxRecDepth 100000 in
set_option maxHeartbeats 4000000 in
theorem kA_place (G : zk_G) (sw : Bool) (σ : Nat → Int) (α : Nat → Nat → Int) (t : zk_H) (hs : 0 ≤ σ 10 ∧ σ 10 ≤ 100) {k : Int} (hk : zk_rg k) : zk_K G mA_place (1, 21) 0 0 [.inr (some 11), .inl k] (zk_mk G sw σ α t) (fun v h' => h' = (zk_mk G sw σ α t) ∧ (((0 ≤ k ∧ k < σ 10) ∧ v = some (.inl (α 6 k.toNat))) ∨ ((¬ (0 ≤ k ∧ k < σ 10)) ∧ v = some (.inl (-1))))) := by
  refine zk_K.of (ls := [some (.inr (some 11)), some (.inl k)]) (by decide +kernel) (Nat.le_of_ble_eq_true rfl) rfl ?_
  refine zk_aload_n dA_place_0 rfl ?_
  refine zk_iload_n dA_place_1 rfl ?_
  refine zk_callV (av := [.inl k]) (st := []) (d' := (0, 0)) (kc' := 0) (ks' := 0) zbA_43 dA_place_2 rfl (by decide) rfl rfl (Nat.le_of_ble_eq_true rfl) ⟨by decide, by decide⟩ rfl rfl (kA_has G sw σ α t ⟨by omega, by omega⟩ hk) (fun v9 h9 q9 => ?_)
  rcases q9 with ⟨rfl, ⟨hc2, rfl⟩ | ⟨hc2, rfl⟩⟩
  · skip
    refine zk_W.to (ls' := [some (.inr (some 11)), some (.inl k)]) (st' := [.inl 1]) (h' := (zk_mk G sw σ α t)) rfl rfl rfl ?_
    refine zk_if_eq (tgt := 17) dA_place_5 (by decide) ⟨by decide, by decide⟩ (fun h5 => ?_) (fun h5 => ?_)
    · skip
      exact absurd h5 (by decide)
    · skip
      refine zk_aload_n dA_place_8 rfl ?_
      refine zk_get zfA_15 dA_place_9 (v := .inr (some 13)) rfl (by decide) rfl ?_
      refine zk_iload_n dA_place_12 rfl ?_
      refine zk_iald dA_place_13 (n := 100) (f := α 6) rfl (by omega) (by omega) (by omega) ?_
      refine zk_goto (tgt := 18) dA_place_14 (by decide) ?_
      exact zk_iret dA_place_18 rfl ⟨rfl, Or.inl ⟨hc2, rfl⟩⟩
  · skip
    refine zk_W.to (ls' := [some (.inr (some 11)), some (.inl k)]) (st' := [.inl 0]) (h' := (zk_mk G sw σ α t)) rfl rfl rfl ?_
    refine zk_if_eq (tgt := 17) dA_place_5 (by decide) ⟨by decide, by decide⟩ (fun h5 => ?_) (fun h5 => ?_)
    · skip
      refine zk_iconst dA_place_17 ?_
      exact zk_iret dA_place_18 rfl ⟨rfl, Or.inr ⟨hc2, rfl⟩⟩
    · skip
      exact absurd h5 (by decide)

set_option maxRecDepth 100000 in
set_option maxHeartbeats 4000000 in
theorem kA_laidByte (G : zk_G) (sw : Bool) (σ : Nat → Int) (α : Nat → Nat → Int) (t : zk_H) (hs : 0 ≤ σ 10 ∧ σ 10 ≤ 100) (hn4 : 0 ≤ σ 4 ∧ σ 4 ≤ (zr_N 4 : Int)) {k i : Int} (hk : 0 ≤ k ∧ k < σ 10) (hi : 0 ≤ α 8 k.toNat + i ∧ α 8 k.toNat + i < σ 4) : zk_K G mA_laidByte (2, 42) 0 0 [.inr (some 11), .inl k, .inl i] (zk_mk G sw σ α t) (fun v h' => h' = (zk_mk G sw σ α t) ∧ v = some (.inl (α 4 (α 8 k.toNat + i).toNat))) := by
  have hN4 : (zr_N 4 : Int) = 4000 := rfl
  refine zk_K.of (ls := [some (.inr (some 11)), some (.inl k), some (.inl i)]) (by decide +kernel) (Nat.le_of_ble_eq_true rfl) rfl ?_
  refine zk_aload_n dA_laidByte_0 rfl ?_
  refine zk_iload_n dA_laidByte_1 rfl ?_
  refine zk_callV (av := [.inl k]) (st := []) (d' := (0, 0)) (kc' := 0) (ks' := 0) zbA_43 dA_laidByte_2 rfl (by decide) rfl rfl (Nat.le_of_ble_eq_true rfl) ⟨by decide, by decide⟩ rfl rfl (kA_has G sw σ α t ⟨by omega, by omega⟩ ⟨by omega, by omega⟩) (fun v9 h9 q9 => ?_)
  rcases q9 with ⟨rfl, ⟨hc2, rfl⟩ | ⟨hc2, rfl⟩⟩
  · skip
    refine zk_W.to (ls' := [some (.inr (some 11)), some (.inl k), some (.inl i)]) (st' := [.inl 1]) (h' := (zk_mk G sw σ α t)) rfl rfl rfl ?_
    refine zk_if_eq (tgt := 26) dA_laidByte_5 (by decide) ⟨by decide, by decide⟩ (fun h5 => ?_) (fun h5 => ?_)
    · skip
      exact absurd h5 (by decide)
    · skip
      refine zk_aload_n dA_laidByte_8 rfl ?_
      refine zk_get zfA_29 dA_laidByte_9 (v := .inr (some 16)) rfl (by decide) rfl ?_
      refine zk_aload_n dA_laidByte_12 rfl ?_
      refine zk_get zfA_21 dA_laidByte_13 (v := .inr (some 15)) rfl (by decide) rfl ?_
      refine zk_iload_n dA_laidByte_16 rfl ?_
      refine zk_iald dA_laidByte_17 (n := 100) (f := α 8) rfl (by omega) (by omega) (by omega) ?_
      refine zk_iload_n dA_laidByte_18 rfl ?_
      refine zk_iadd dA_laidByte_19 ?_
      refine zk_callV (av := [.inl ((α 8 k.toNat) + i)]) (st := []) (d' := (1, 21)) (kc' := 0) (ks' := 0) zbA_47 dA_laidByte_20 rfl (by decide) rfl rfl (Nat.le_of_ble_eq_true rfl) ⟨by decide, by decide⟩ rfl rfl (kR_get G sw σ α t (q := 4) (by decide) hn4 ⟨by omega, by omega⟩) (fun v9 h9 q9 => ?_)
      rcases q9 with ⟨rfl, ⟨hc20, rfl⟩ | ⟨hc20, rfl⟩⟩
      · skip
        refine zk_W.to (ls' := [some (.inr (some 11)), some (.inl k), some (.inl i)]) (st' := [.inl (α 4 ((α 8 k.toNat) + i).toNat)]) (h' := (zk_mk G sw σ α t)) rfl rfl rfl ?_
        refine zk_goto (tgt := 27) dA_laidByte_23 (by decide) ?_
        exact zk_iret dA_laidByte_27 rfl ⟨rfl, rfl⟩
      · skip
        refine zk_W.to (ls' := [some (.inr (some 11)), some (.inl k), some (.inl i)]) (st' := [.inl (-1)]) (h' := (zk_mk G sw σ α t)) rfl rfl rfl ?_
        refine zk_goto (tgt := 27) dA_laidByte_23 (by decide) ?_
        first | exact absurd hk hc2 | exact absurd hi hc20
  · skip
    refine zk_W.to (ls' := [some (.inr (some 11)), some (.inl k), some (.inl i)]) (st' := [.inl 0]) (h' := (zk_mk G sw σ α t)) rfl rfl rfl ?_
    refine zk_if_eq (tgt := 26) dA_laidByte_5 (by decide) ⟨by decide, by decide⟩ (fun h5 => ?_) (fun h5 => ?_)
    · skip
      refine zk_iconst dA_laidByte_26 ?_
      first | exact absurd hk hc2 | exact absurd hi hc20
    · skip
      exact absurd h5 (by decide)

def mt_spot (K P C : Nat → Int) : Nat → Int
  | 0 => 0
  | n + 1 => if K n = 0 then P n + C n else mt_spot K P C n

set_option maxRecDepth 100000 in
set_option maxHeartbeats 4000000 in
theorem wA_spotAhead (G : zk_G) (sw : Bool) (σ : Nat → Int) (α : Nat → Nat → Int) (t : zk_H) (ha : ∀ q j, q < 9 → zk_rg (α q j)) (hs : 0 ≤ σ 10 ∧ σ 10 ≤ 100) {k : Int} : ∀ (n : Nat), (n : Int) ≤ σ 10 → mt_spot (α 5) (α 6) (α 7) n = mt_spot (α 5) (α 6) (α 7) k.toNat → zk_W G mA_spotAhead (1, 18) 0 0 11 [some (.inr (some 11)), some (.inl k), some (.inl ((n : Int) - 1))] [] (zk_mk G sw σ α t) (fun v h' => h' = (zk_mk G sw σ α t) ∧ v = some (.inl (mt_spot (α 5) (α 6) (α 7) k.toNat))) := by
  intro n
  induction n with
  | zero =>
    intro g1 g2
    refine zk_iload_n dA_spotAhead_11 rfl ?_
    refine zk_if_lt (tgt := 44) dA_spotAhead_12 (by decide) ⟨by omega, by omega⟩ (fun h12 => ?_) (fun h12 => ?_)
    · skip
      refine zk_iconst dA_spotAhead_44 ?_
      exact zk_iret dA_spotAhead_45 rfl ⟨rfl, by rw [← g2]; rfl⟩
    · skip
      exfalso; omega
  | succ n ih =>
    intro g1 g2
    have en : (((n + 1 : Nat) : Int) - 1).toNat = n := by omega
    have hk := ha 5 (((n + 1 : Nat) : Int) - 1).toNat (by decide)
    refine zk_iload_n dA_spotAhead_11 rfl ?_
    refine zk_if_lt (tgt := 44) dA_spotAhead_12 (by decide) ⟨by omega, by omega⟩ (fun h12 => ?_) (fun h12 => ?_)
    · skip
      exfalso; omega
    · skip
      refine zk_aload_n dA_spotAhead_15 rfl ?_
      refine zk_get zfA_9 dA_spotAhead_16 (v := .inr (some 12)) rfl (by decide) rfl ?_
      refine zk_iload_n dA_spotAhead_19 rfl ?_
      refine zk_iald dA_spotAhead_20 (n := 100) (f := α 5) rfl (by omega) (by omega) (by omega) ?_
      refine zk_if_ne (tgt := 38) dA_spotAhead_21 (by decide) hk (fun h21 => ?_) (fun h21 => ?_)
      · skip
        refine zk_iinc (ls' := [some (.inr (some 11)), some (.inl k), some (.inl (((n + 1 : Nat) : Int) - 1 + (-1)))]) dA_spotAhead_38 rfl (by decide) rfl ?_
        refine zk_goto (tgt := 11) dA_spotAhead_41 (by decide) ?_
        have e2 : ((n + 1 : Nat) : Int) - 1 + (-1) = (n : Int) - 1 := by omega
        rw [e2]
        refine ih (by omega) ?_
        rw [← g2]
        rw [en] at h21
        show _ = (if α 5 n = 0 then α 6 n + α 7 n else mt_spot (α 5) (α 6) (α 7) n)
        rw [if_neg h21]
      · skip
        refine zk_aload_n dA_spotAhead_24 rfl ?_
        refine zk_get zfA_15 dA_spotAhead_25 (v := .inr (some 13)) rfl (by decide) rfl ?_
        refine zk_iload_n dA_spotAhead_28 rfl ?_
        refine zk_iald dA_spotAhead_29 (n := 100) (f := α 6) rfl (by omega) (by omega) (by omega) ?_
        refine zk_aload_n dA_spotAhead_30 rfl ?_
        refine zk_get zfA_18 dA_spotAhead_31 (v := .inr (some 14)) rfl (by decide) rfl ?_
        refine zk_iload_n dA_spotAhead_34 rfl ?_
        refine zk_iald dA_spotAhead_35 (n := 100) (f := α 7) rfl (by omega) (by omega) (by omega) ?_
        refine zk_iadd dA_spotAhead_36 ?_
        refine zk_iret dA_spotAhead_37 rfl ⟨rfl, ?_⟩
        rw [en] at h21
        rw [← g2, en]
        show _ = some (Sum.inl (if α 5 n = 0 then α 6 n + α 7 n else mt_spot (α 5) (α 6) (α 7) n))
        rw [if_pos h21]

set_option maxRecDepth 100000 in
set_option maxHeartbeats 4000000 in
theorem kA_spotAhead (G : zk_G) (sw : Bool) (σ : Nat → Int) (α : Nat → Nat → Int) (t : zk_H) (ha : ∀ q j, q < 9 → zk_rg (α q j)) (hs : 0 ≤ σ 10 ∧ σ 10 ≤ 100) {k : Int} (hk : 0 ≤ k ∧ k ≤ σ 10) : zk_K G mA_spotAhead (1, 18) 0 0 [.inr (some 11), .inl k] (zk_mk G sw σ α t) (fun v h' => h' = (zk_mk G sw σ α t) ∧ v = some (.inl (mt_spot (α 5) (α 6) (α 7) k.toNat))) := by
  refine zk_K.of (ls := [some (.inr (some 11)), some (.inl k), none]) (by decide +kernel) (Nat.le_of_ble_eq_true rfl) rfl ?_
  refine zk_iload_n dA_spotAhead_0 rfl ?_
  refine zk_aload_n dA_spotAhead_1 rfl ?_
  refine zk_get zfA_37 dA_spotAhead_2 (v := .inl (σ 10)) rfl (by decide) rfl ?_
  refine zk_mmin dA_spotAhead_5 zlA_51 zw_mins zw_mi zw_minc ⟨by decide, Nat.le_of_ble_eq_true rfl⟩ ⟨by omega, by omega⟩ ⟨by omega, by omega⟩ ?_
  refine zk_iconst dA_spotAhead_8 ?_
  refine zk_isub dA_spotAhead_9 ?_
  refine zk_istore_n (ls' := [some (.inr (some 11)), some (.inl k), some (.inl ((min k (σ 10)) - 1))]) dA_spotAhead_10 (by decide) rfl ?_
  have e1 : min k (σ 10) - 1 = ((k.toNat : Nat) : Int) - 1 := by omega
  rw [e1]
  exact wA_spotAhead G sw σ α t ha hs k.toNat (by omega) rfl

set_option maxRecDepth 100000 in
set_option maxHeartbeats 4000000 in
theorem kA_append (G : zk_G) (sw : Bool) (σ : Nat → Int) (α : Nat → Nat → Int) (t : zk_H) (hs : 0 ≤ σ 10 ∧ σ 10 ≤ 100) (hf : σ 10 < 100) {x p n : Int} : zk_K G mA_append (1, 20) 0 0 [.inr (some 11), .inl x, .inl p, .inl n] (zk_mk G sw σ α t) (fun v h' => v = none ∧ h' = zk_mk G sw (zk_up σ 10 (σ 10 + 1)) (zk_ua (zk_ua (zk_ua (zk_ua α 5 (zk_up (α 5) (σ 10).toNat x)) 6 (zk_up (α 6) (σ 10).toNat p)) 7 (zk_up (α 7) (σ 10).toNat n)) 8 (zk_up (α 8) (σ 10).toNat (σ 4))) t) := by
  refine zk_K.of (ls := [some (.inr (some 11)), some (.inl x), some (.inl p), some (.inl n)]) (by decide +kernel) (Nat.le_of_ble_eq_true rfl) rfl ?_
  refine zk_aload_n dA_append_0 rfl ?_
  refine zk_callV (av := []) (st := []) (d' := (0, 0)) (kc' := 0) (ks' := 0) zbA_57 dA_append_1 rfl (by decide) rfl rfl (Nat.le_of_ble_eq_true rfl) ⟨by decide, by decide⟩ rfl rfl (kA_isFull G sw σ α t ⟨by omega, by omega⟩) (fun v9 h9 q9 => ?_)
  rcases q9 with ⟨rfl, ⟨hc1, rfl⟩ | ⟨hc1, rfl⟩⟩
  · skip
    refine zk_W.to (ls' := [some (.inr (some 11)), some (.inl x), some (.inl p), some (.inl n)]) (st' := [.inl 1]) (h' := (zk_mk G sw σ α t)) rfl rfl rfl ?_
    refine zk_if_ne (tgt := 63) dA_append_4 (by decide) ⟨by decide, by decide⟩ (fun h4 => ?_) (fun h4 => ?_)
    · skip
      exfalso; omega
    · skip
      exact absurd h4 (by decide)
  · skip
    refine zk_W.to (ls' := [some (.inr (some 11)), some (.inl x), some (.inl p), some (.inl n)]) (st' := [.inl 0]) (h' := (zk_mk G sw σ α t)) rfl rfl rfl ?_
    refine zk_if_ne (tgt := 63) dA_append_4 (by decide) ⟨by decide, by decide⟩ (fun h4 => ?_) (fun h4 => ?_)
    · skip
      exact absurd h4 (by decide)
    · skip
      refine zk_aload_n dA_append_7 rfl ?_
      refine zk_get zfA_9 dA_append_8 (v := .inr (some 12)) rfl (by decide) rfl ?_
      refine zk_aload_n dA_append_11 rfl ?_
      refine zk_get zfA_37 dA_append_12 (v := .inl (σ 10)) rfl (by decide) rfl ?_
      refine zk_iload_n dA_append_15 rfl ?_
      refine zk_iast dA_append_16 (n := 100) (f := α 5) (h' := (zk_mk G sw σ (zk_ua α 5 (zk_up (α 5) (σ 10).toNat x)) t)) rfl (by decide) (by omega) (by omega) (by omega) rfl ?_
      refine zk_aload_n dA_append_17 rfl ?_
      refine zk_get zfA_15 dA_append_18 (v := .inr (some 13)) rfl (by decide) rfl ?_
      refine zk_aload_n dA_append_21 rfl ?_
      refine zk_get zfA_37 dA_append_22 (v := .inl (σ 10)) rfl (by decide) rfl ?_
      refine zk_iload_n dA_append_25 rfl ?_
      refine zk_iast dA_append_26 (n := 100) (f := α 6) (h' := (zk_mk G sw σ (zk_ua (zk_ua α 5 (zk_up (α 5) (σ 10).toNat x)) 6 (zk_up (α 6) (σ 10).toNat p)) t)) rfl (by decide) (by omega) (by omega) (by omega) rfl ?_
      refine zk_aload_n dA_append_27 rfl ?_
      refine zk_get zfA_18 dA_append_28 (v := .inr (some 14)) rfl (by decide) rfl ?_
      refine zk_aload_n dA_append_31 rfl ?_
      refine zk_get zfA_37 dA_append_32 (v := .inl (σ 10)) rfl (by decide) rfl ?_
      refine zk_iload_n dA_append_35 rfl ?_
      refine zk_iast dA_append_36 (n := 100) (f := α 7) (h' := (zk_mk G sw σ (zk_ua (zk_ua (zk_ua α 5 (zk_up (α 5) (σ 10).toNat x)) 6 (zk_up (α 6) (σ 10).toNat p)) 7 (zk_up (α 7) (σ 10).toNat n)) t)) rfl (by decide) (by omega) (by omega) (by omega) rfl ?_
      refine zk_aload_n dA_append_37 rfl ?_
      refine zk_get zfA_21 dA_append_38 (v := .inr (some 15)) rfl (by decide) rfl ?_
      refine zk_aload_n dA_append_41 rfl ?_
      refine zk_get zfA_37 dA_append_42 (v := .inl (σ 10)) rfl (by decide) rfl ?_
      refine zk_aload_n dA_append_45 rfl ?_
      refine zk_get zfA_29 dA_append_46 (v := .inr (some 16)) rfl (by decide) rfl ?_
      refine zk_callV (av := []) (st := [.inl (σ 10), .inr (some 15)]) (d' := (0, 0)) (kc' := 0) (ks' := 0) zbA_61 dA_append_49 rfl (by decide) rfl rfl (Nat.le_of_ble_eq_true rfl) ⟨by decide, by decide⟩ rfl rfl (kR_length G sw σ (zk_ua (zk_ua (zk_ua α 5 (zk_up (α 5) (σ 10).toNat x)) 6 (zk_up (α 6) (σ 10).toNat p)) 7 (zk_up (α 7) (σ 10).toNat n)) t (q := 4) (by decide)) (fun v9 h9 q9 => ?_)
      obtain ⟨rfl, rfl⟩ := q9
      refine zk_W.to (ls' := [some (.inr (some 11)), some (.inl x), some (.inl p), some (.inl n)]) (st' := [.inl (σ 4), .inl (σ 10), .inr (some 15)]) (h' := (zk_mk G sw σ (zk_ua (zk_ua (zk_ua α 5 (zk_up (α 5) (σ 10).toNat x)) 6 (zk_up (α 6) (σ 10).toNat p)) 7 (zk_up (α 7) (σ 10).toNat n)) t)) rfl rfl rfl ?_
      refine zk_iast dA_append_52 (n := 100) (f := α 8) (h' := (zk_mk G sw σ (zk_ua (zk_ua (zk_ua (zk_ua α 5 (zk_up (α 5) (σ 10).toNat x)) 6 (zk_up (α 6) (σ 10).toNat p)) 7 (zk_up (α 7) (σ 10).toNat n)) 8 (zk_up (α 8) (σ 10).toNat (σ 4))) t)) rfl (by decide) (by omega) (by omega) (by omega) rfl ?_
      refine zk_aload_n dA_append_53 rfl ?_
      refine zk_dup dA_append_54 ?_
      refine zk_get zfA_37 dA_append_55 (v := .inl (σ 10)) rfl (by decide) rfl ?_
      refine zk_iconst dA_append_58 ?_
      refine zk_iadd dA_append_59 ?_
      refine zk_put zfA_37 dA_append_60 (h' := (zk_mk G sw (zk_up σ 10 ((σ 10) + 1)) (zk_ua (zk_ua (zk_ua (zk_ua α 5 (zk_up (α 5) (σ 10).toNat x)) 6 (zk_up (α 6) (σ 10).toNat p)) 7 (zk_up (α 7) (σ 10).toNat n)) 8 (zk_up (α 8) (σ 10).toNat (σ 4))) t)) rfl (by decide) (Nat.le_of_ble_eq_true rfl) rfl rfl rfl ?_
      exact zk_ret dA_append_63 rfl ⟨rfl, rfl⟩

set_option maxRecDepth 100000 in
set_option maxHeartbeats 4000000 in
theorem kA_openLay (G : zk_G) (sw : Bool) (σ : Nat → Int) (α : Nat → Nat → Int) (t : zk_H) (hs10 : 0 ≤ σ 10 ∧ σ 10 ≤ 100) (hf10 : σ 10 < 100) : zk_K G mA_openLay (2, 43) 0 0 [.inr (some 11)] (zk_mk G sw σ α t) (fun v h' => v = none ∧ h' = zk_mk G sw (zk_up σ 10 (σ 10 + 1)) (zk_ua (zk_ua (zk_ua (zk_ua α 5 (zk_up (α 5) (σ 10).toNat 2)) 6 (zk_up (α 6) (σ 10).toNat (-1))) 7 (zk_up (α 7) (σ 10).toNat 0)) 8 (zk_up (α 8) (σ 10).toNat (σ 4))) t) := by
  refine zk_K.of (ls := [some (.inr (some 11))]) (by decide +kernel) (Nat.le_of_ble_eq_true rfl) rfl ?_
  refine zk_aload_n dA_openLay_0 rfl ?_
  refine zk_iconst dA_openLay_1 ?_
  refine zk_iconst dA_openLay_2 ?_
  refine zk_iconst dA_openLay_3 ?_
  refine zk_callV (av := [.inl 2, .inl (-1), .inl 0]) (st := []) (d' := (1, 20)) (kc' := 0) (ks' := 0) zbA_65 dA_openLay_4 rfl (by decide) rfl rfl (Nat.le_of_ble_eq_true rfl) ⟨by decide, by decide⟩ rfl rfl (kA_append G sw σ α t hs10 hf10) (fun v9 h9 q9 => ?_)
  obtain ⟨rfl, rfl⟩ := q9
  refine zk_W.to (ls' := [some (.inr (some 11))]) (st' := []) (h' := (zk_mk G sw (zk_up σ 10 (σ 10 + 1)) (zk_ua (zk_ua (zk_ua (zk_ua α 5 (zk_up (α 5) (σ 10).toNat 2)) 6 (zk_up (α 6) (σ 10).toNat (-1))) 7 (zk_up (α 7) (σ 10).toNat 0)) 8 (zk_up (α 8) (σ 10).toNat (σ 4))) t)) rfl rfl rfl ?_
  exact zk_ret dA_openLay_7 rfl ⟨rfl, rfl⟩

/-- the last act is a LAY of less than 40 -/
def zk_tk (σ : Nat → Int) (α : Nat → Nat → Int) : Prop := 0 < σ 10 ∧ α 5 (σ 10 - 1).toNat = 2 ∧ α 7 (σ 10 - 1).toNat < 40

set_option maxRecDepth 100000 in
set_option maxHeartbeats 4000000 in
theorem kA_takesByte (G : zk_G) (sw : Bool) (σ : Nat → Int) (α : Nat → Nat → Int) (t : zk_H) (hs10 : 0 ≤ σ 10 ∧ σ 10 ≤ 100) (ha : ∀ q j, q < 9 → zk_rg (α q j)) : zk_K G mA_takesByte (2, 42) 0 0 [.inr (some 11)] (zk_mk G sw σ α t) (fun v h' => h' = (zk_mk G sw σ α t) ∧ ((zk_tk σ α ∧ v = some (.inl 1)) ∨ ((¬ zk_tk σ α) ∧ v = some (.inl 0)))) := by
  refine zk_K.of (ls := [some (.inr (some 11))]) (by decide +kernel) (Nat.le_of_ble_eq_true rfl) rfl ?_
  refine zk_aload_n dA_takesByte_0 rfl ?_
  refine zk_aload_n dA_takesByte_1 rfl ?_
  refine zk_get zfA_37 dA_takesByte_2 (v := .inl (σ 10)) rfl (by decide) rfl ?_
  refine zk_iconst dA_takesByte_5 ?_
  refine zk_isub dA_takesByte_6 ?_
  refine zk_callV (av := [.inl ((σ 10) - 1)]) (st := []) (d' := (1, 21)) (kc' := 0) (ks' := 0) zbA_69 dA_takesByte_7 rfl (by decide) rfl rfl (Nat.le_of_ble_eq_true rfl) ⟨by decide, by decide⟩ rfl rfl (kA_kind G sw σ α t hs10 ⟨by omega, by omega⟩) (fun v9 h9 q9 => ?_)
  rcases q9 with ⟨rfl, ⟨hc7, rfl⟩ | ⟨hc7, rfl⟩⟩
  · skip
    refine zk_W.to (ls' := [some (.inr (some 11))]) (st' := [.inl (α 5 ((σ 10) - 1).toNat)]) (h' := (zk_mk G sw σ α t)) rfl rfl rfl ?_
    refine zk_iconst dA_takesByte_10 ?_
    refine zk_icmp_ne (tgt := 33) dA_takesByte_11 (by decide) (ha _ _ (by decide)) ⟨by decide, by decide⟩ (fun h11 => ?_) (fun h11 => ?_)
    · skip
      refine zk_iconst dA_takesByte_33 ?_
      refine zk_zret dA_takesByte_34 rfl (by decide) ⟨rfl, Or.inr ⟨fun hh => ?_, rfl⟩⟩
      have g1 := hh.1
      have g2 := hh.2.1
      have g3 := hh.2.2
      first | (exfalso; omega) | exact absurd g2 h11 | exact absurd g3 (by omega)
    · skip
      refine zk_aload_n dA_takesByte_14 rfl ?_
      refine zk_aload_n dA_takesByte_15 rfl ?_
      refine zk_get zfA_37 dA_takesByte_16 (v := .inl (σ 10)) rfl (by decide) rfl ?_
      refine zk_iconst dA_takesByte_19 ?_
      refine zk_isub dA_takesByte_20 ?_
      refine zk_callV (av := [.inl ((σ 10) - 1)]) (st := []) (d' := (1, 21)) (kc' := 0) (ks' := 0) zbA_72 dA_takesByte_21 rfl (by decide) rfl rfl (Nat.le_of_ble_eq_true rfl) ⟨by decide, by decide⟩ rfl rfl (kA_count G sw σ α t hs10 ⟨by omega, by omega⟩) (fun v9 h9 q9 => ?_)
      rcases q9 with ⟨rfl, ⟨hc21, rfl⟩ | ⟨hc21, rfl⟩⟩
      · skip
        refine zk_W.to (ls' := [some (.inr (some 11))]) (st' := [.inl (α 7 ((σ 10) - 1).toNat)]) (h' := (zk_mk G sw σ α t)) rfl rfl rfl ?_
        refine zk_bipush dA_takesByte_24 (by decide) ?_
        refine zk_icmp_ge (tgt := 33) dA_takesByte_26 (by decide) (ha _ _ (by decide)) ⟨by decide, by decide⟩ (fun h26 => ?_) (fun h26 => ?_)
        · skip
          refine zk_iconst dA_takesByte_33 ?_
          refine zk_zret dA_takesByte_34 rfl (by decide) ⟨rfl, Or.inr ⟨fun hh => ?_, rfl⟩⟩
          have g1 := hh.1
          have g2 := hh.2.1
          have g3 := hh.2.2
          first | (exfalso; omega) | exact absurd g2 h11 | exact absurd g3 (by omega)
        · skip
          refine zk_iconst dA_takesByte_29 ?_
          refine zk_goto (tgt := 34) dA_takesByte_30 (by decide) ?_
          first | exact zk_zret dA_takesByte_34 rfl (by decide) ⟨rfl, Or.inl ⟨⟨by omega, h11, h26⟩, rfl⟩⟩ | (exfalso; omega)
      · skip
        refine zk_W.to (ls' := [some (.inr (some 11))]) (st' := [.inl 0]) (h' := (zk_mk G sw σ α t)) rfl rfl rfl ?_
        refine zk_bipush dA_takesByte_24 (by decide) ?_
        refine zk_icmp_ge (tgt := 33) dA_takesByte_26 (by decide) ⟨by decide, by decide⟩ ⟨by decide, by decide⟩ (fun h26 => ?_) (fun h26 => ?_)
        · skip
          exact absurd h26 (by decide)
        · skip
          refine zk_iconst dA_takesByte_29 ?_
          refine zk_goto (tgt := 34) dA_takesByte_30 (by decide) ?_
          first | exact zk_zret dA_takesByte_34 rfl (by decide) ⟨rfl, Or.inl ⟨⟨by omega, h11, h26⟩, rfl⟩⟩ | (exfalso; omega)
  · skip
    refine zk_W.to (ls' := [some (.inr (some 11))]) (st' := [.inl (-1)]) (h' := (zk_mk G sw σ α t)) rfl rfl rfl ?_
    refine zk_iconst dA_takesByte_10 ?_
    refine zk_icmp_ne (tgt := 33) dA_takesByte_11 (by decide) ⟨by decide, by decide⟩ ⟨by decide, by decide⟩ (fun h11 => ?_) (fun h11 => ?_)
    · skip
      refine zk_iconst dA_takesByte_33 ?_
      refine zk_zret dA_takesByte_34 rfl (by decide) ⟨rfl, Or.inr ⟨fun hh => ?_, rfl⟩⟩
      have g1 := hh.1
      have g2 := hh.2.1
      have g3 := hh.2.2
      first | (exfalso; omega) | exact absurd g2 h11 | exact absurd g3 (by omega)
    · skip
      exact absurd h11 (by decide)

set_option maxRecDepth 100000 in
set_option maxHeartbeats 4000000 in
theorem kA_layByte (G : zk_G) (sw : Bool) (σ : Nat → Int) (α : Nat → Nat → Int) (t : zk_H) (hs10 : 0 ≤ σ 10 ∧ σ 10 ≤ 100) (ha : ∀ q j, q < 9 → zk_rg (α q j)) (hn4 : 0 ≤ σ 4 ∧ σ 4 ≤ (zr_N 4 : Int)) (hk : zk_tk σ α) (h4 : σ 4 < 4000) {x : Int} : zk_K G mA_layByte (3, 62) 0 0 [.inr (some 11), .inl x] (zk_mk G sw σ α t) (fun v h' => v = none ∧ h' = zk_mk G sw (zk_up σ 4 (σ 4 + 1)) (zk_ua (zk_ua α 4 (zk_up (α 4) (σ 4).toNat x)) 7 (zk_up (α 7) (σ 10 - 1).toNat (α 7 (σ 10 - 1).toNat + 1))) t) := by
  have hk1 := hk.1
  refine zk_K.of (ls := [some (.inr (some 11)), some (.inl x)]) (by decide +kernel) (Nat.le_of_ble_eq_true rfl) rfl ?_
  refine zk_aload_n dA_layByte_0 rfl ?_
  refine zk_callV (av := []) (st := []) (d' := (2, 42)) (kc' := 0) (ks' := 0) zbA_75 dA_layByte_1 rfl (by decide) rfl rfl (Nat.le_of_ble_eq_true rfl) ⟨by decide, by decide⟩ rfl rfl (kA_takesByte G sw σ α t hs10 ha) (fun v9 h9 q9 => ?_)
  rcases q9 with ⟨rfl, ⟨hc1, rfl⟩ | ⟨hc1, rfl⟩⟩
  · skip
    refine zk_W.to (ls' := [some (.inr (some 11)), some (.inl x)]) (st' := [.inl 1]) (h' := (zk_mk G sw σ α t)) rfl rfl rfl ?_
    refine zk_if_eq (tgt := 30) dA_layByte_4 (by decide) ⟨by decide, by decide⟩ (fun h4 => ?_) (fun h4 => ?_)
    · skip
      exact absurd h4 (by decide)
    · skip
      refine zk_aload_n dA_layByte_7 rfl ?_
      refine zk_get zfA_29 dA_layByte_8 (v := .inr (some 16)) rfl (by decide) rfl ?_
      refine zk_iload_n dA_layByte_11 rfl ?_
      refine zk_callV (av := [.inl x]) (st := []) (d' := (1, 20)) (kc' := 0) (ks' := 0) zbA_78 dA_layByte_12 rfl (by decide) rfl rfl (Nat.le_of_ble_eq_true rfl) ⟨by decide, by decide⟩ rfl rfl (kR_append G sw σ α t (q := 4) (by decide) hn4) (fun v9 h9 q9 => ?_)
      rcases q9 with ⟨rfl, ⟨hc12, rfl⟩ | ⟨hc12, rfl⟩⟩
      · skip
        refine zk_W.to (ls' := [some (.inr (some 11)), some (.inl x)]) (st' := []) (h' := (zk_mk G sw (zk_up σ 4 (σ 4 + 1)) (zk_ua α 4 (zk_up (α 4) (σ 4).toNat x)) t)) rfl rfl rfl ?_
        refine zk_aload_n dA_layByte_15 rfl ?_
        refine zk_get zfA_18 dA_layByte_16 (v := .inr (some 14)) rfl (by decide) rfl ?_
        refine zk_aload_n dA_layByte_19 rfl ?_
        refine zk_get zfA_37 dA_layByte_20 (v := .inl (σ 10)) rfl (by decide) rfl ?_
        refine zk_iconst dA_layByte_23 ?_
        refine zk_isub dA_layByte_24 ?_
        refine zk_dup2 dA_layByte_25 ?_
        refine zk_iald dA_layByte_26 (n := 100) (f := α 7) rfl (by omega) (by omega) (by omega) ?_
        refine zk_iconst dA_layByte_27 ?_
        refine zk_iadd dA_layByte_28 ?_
        refine zk_iast dA_layByte_29 (n := 100) (f := α 7) (h' := (zk_mk G sw (zk_up σ 4 (σ 4 + 1)) (zk_ua (zk_ua α 4 (zk_up (α 4) (σ 4).toNat x)) 7 (zk_up (α 7) ((σ 10) - 1).toNat ((α 7 ((σ 10) - 1).toNat) + 1))) t)) rfl (by decide) (by omega) (by omega) (by omega) rfl ?_
        exact zk_ret dA_layByte_30 rfl ⟨rfl, rfl⟩
      · skip
        refine zk_W.to (ls' := [some (.inr (some 11)), some (.inl x)]) (st' := []) (h' := (zk_mk G sw σ α t)) rfl rfl rfl ?_
        refine zk_aload_n dA_layByte_15 rfl ?_
        refine zk_get zfA_18 dA_layByte_16 (v := .inr (some 14)) rfl (by decide) rfl ?_
        refine zk_aload_n dA_layByte_19 rfl ?_
        refine zk_get zfA_37 dA_layByte_20 (v := .inl (σ 10)) rfl (by decide) rfl ?_
        refine zk_iconst dA_layByte_23 ?_
        refine zk_isub dA_layByte_24 ?_
        refine zk_dup2 dA_layByte_25 ?_
        refine zk_iald dA_layByte_26 (n := 100) (f := α 7) rfl (by omega) (by omega) (by omega) ?_
        refine zk_iconst dA_layByte_27 ?_
        refine zk_iadd dA_layByte_28 ?_
        refine zk_iast dA_layByte_29 (n := 100) (f := α 7) (h' := (zk_mk G sw σ (zk_ua α 7 (zk_up (α 7) ((σ 10) - 1).toNat ((α 7 ((σ 10) - 1).toNat) + 1))) t)) rfl (by decide) (by omega) (by omega) (by omega) rfl ?_
        first | exact absurd hk hc1 | (have hN4 : (zr_N 4 : Int) = 4000 := rfl; exfalso; omega)
  · skip
    refine zk_W.to (ls' := [some (.inr (some 11)), some (.inl x)]) (st' := [.inl 0]) (h' := (zk_mk G sw σ α t)) rfl rfl rfl ?_
    refine zk_if_eq (tgt := 30) dA_layByte_4 (by decide) ⟨by decide, by decide⟩ (fun h4 => ?_) (fun h4 => ?_)
    · skip
      first | exact absurd hk hc1 | (have hN4 : (zr_N 4 : Int) = 4000 := rfl; exfalso; omega)
    · skip
      exact absurd h4 (by decide)
end
section
/-! the table of rests, from the end of NEW on: what a place adds -/
def mt_tb (f : Nat → Int) (i s : Nat) : Int := f (41 * i + s)
/-- the longest match of what is made ahead -/
def mt_la (N : Nat → Int) (nN i : Nat) : Nat → Nat
  | 0 => 0
  | p + 1 => max (mt_la N nN i p) (mt_len N N p i (nN - i))
theorem mt_la_ge {N : Nat → Int} {nN i : Nat} : ∀ {q p : Nat}, p < q → mt_len N N p i (nN - i) ≤ mt_la N nN i q
  | 0, p, h => absurd h (Nat.not_lt_zero p)
  | q + 1, p, h => by
    show mt_len N N p i (nN - i) ≤ max (mt_la N nN i q) (mt_len N N q i (nN - i))
    by_cases e : p = q
    · subst e; omega
    · have := mt_la_ge (N := N) (nN := nN) (i := i) (q := q) (p := p) (by omega)
      omega
theorem mt_la_ex {N : Nat → Int} {nN i : Nat} : ∀ {q : Nat}, mt_la N nN i q = 0 ∨ ∃ p, p < q ∧ mt_la N nN i q = mt_len N N p i (nN - i)
  | 0 => Or.inl rfl
  | q + 1 => by
    show max (mt_la N nN i q) (mt_len N N q i (nN - i)) = 0 ∨ ∃ p, p < q + 1 ∧ max (mt_la N nN i q) (mt_len N N q i (nN - i)) = mt_len N N p i (nN - i)
    by_cases e : mt_la N nN i q ≤ mt_len N N q i (nN - i)
    · exact Or.inr ⟨q, by omega, by omega⟩
    · rcases mt_la_ex (N := N) (nN := nN) (i := i) (q := q) with h | ⟨p, h1, h2⟩
      · omega
      · exact Or.inr ⟨p, by omega, by omega⟩
theorem mt_la_le {N : Nat → Int} {nN i q : Nat} : mt_la N nN i q ≤ nN - i := by
  rcases mt_la_ex (N := N) (nN := nN) (i := i) (q := q) with h | ⟨p, -, h⟩
  · omega
  · rw [h]; exact mt_len_le _ _ _ _ _
/-- the least rest behind a SELF -/
def mt_ls (f : Nat → Int) (i s : Nat) : Nat → Int
  | 0 => 1000000
  | n + 1 => min (mt_ls f i s n) (mt_tb f (i + n + 1) s)
theorem mt_ls_le {f : Nat → Int} {i s : Nat} : ∀ {m n : Nat}, 1 ≤ n → n ≤ m → mt_ls f i s m ≤ mt_tb f (i + n) s
  | 0, n, h, h2 => by omega
  | m + 1, n, h, h2 => by
    show min (mt_ls f i s m) (mt_tb f (i + m + 1) s) ≤ mt_tb f (i + n) s
    by_cases e : n = m + 1
    · subst e
      rw [show i + (m + 1) = i + m + 1 by omega]
      omega
    · have := mt_ls_le (f := f) (i := i) (s := s) (m := m) (n := n) h (by omega)
      omega
theorem mt_ls_ex {f : Nat → Int} {i s : Nat} : ∀ {m : Nat}, mt_ls f i s m = 1000000 ∨ ∃ n, 1 ≤ n ∧ n ≤ m ∧ mt_ls f i s m = mt_tb f (i + n) s
  | 0 => Or.inl rfl
  | m + 1 => by
    show min (mt_ls f i s m) (mt_tb f (i + m + 1) s) = 1000000 ∨ ∃ n, 1 ≤ n ∧ n ≤ m + 1 ∧ min (mt_ls f i s m) (mt_tb f (i + m + 1) s) = mt_tb f (i + n) s
    by_cases e : mt_ls f i s m ≤ mt_tb f (i + m + 1) s
    · rcases mt_ls_ex (f := f) (i := i) (s := s) (m := m) with h | ⟨n, h1, h2, h3⟩
      · exact Or.inl (by omega)
      · exact Or.inr ⟨n, h1, by omega, by omega⟩
    · exact Or.inr ⟨m + 1, by omega, by omega, by rw [show i + (m + 1) = i + m + 1 by omega]; omega⟩
theorem mt_ls_rg {f : Nat → Int} {i s m B : Nat} (hB : B ≤ 1000000) (h : ∀ n, 1 ≤ n → n ≤ m → 0 ≤ mt_tb f (i + n) s ∧ mt_tb f (i + n) s ≤ B) : 0 ≤ mt_ls f i s m ∧ mt_ls f i s m ≤ 1000000 := by
  rcases mt_ls_ex (f := f) (i := i) (s := s) (m := m) with h1 | ⟨n, h1, h2, h3⟩
  · omega
  · have := h n h1 h2
    omega
/-- the least of a row -/
def mt_ml (g : Nat → Int) : Nat → Int
  | 0 => 1000000
  | p + 1 => min (mt_ml g p) (g p)
theorem mt_ml_le {g : Nat → Int} : ∀ {m p : Nat}, p < m → mt_ml g m ≤ g p
  | 0, p, h => absurd h (Nat.not_lt_zero p)
  | m + 1, p, h => by
    show min (mt_ml g m) (g m) ≤ g p
    by_cases e : p = m
    · subst e; omega
    · have := mt_ml_le (g := g) (m := m) (p := p) (by omega)
      omega
theorem mt_ml_ex {g : Nat → Int} : ∀ {m : Nat}, mt_ml g m = 1000000 ∨ ∃ p, p < m ∧ mt_ml g m = g p
  | 0 => Or.inl rfl
  | m + 1 => by
    show min (mt_ml g m) (g m) = 1000000 ∨ ∃ p, p < m + 1 ∧ min (mt_ml g m) (g m) = g p
    by_cases e : mt_ml g m ≤ g m
    · rcases mt_ml_ex (g := g) (m := m) with h | ⟨p, h1, h2⟩
      · exact Or.inl (by omega)
      · exact Or.inr ⟨p, by omega, by omega⟩
    · exact Or.inr ⟨m, by omega, by omega⟩
theorem mt_ml_congr {g g' : Nat → Int} : ∀ {m : Nat}, (∀ p, p < m → g p = g' p) → mt_ml g m = mt_ml g' m
  | 0, _ => rfl
  | m + 1, h => by
    show min (mt_ml g m) (g m) = min (mt_ml g' m) (g' m)
    rw [mt_ml_congr (fun p hp => h p (by omega)), h m (by omega)]
def mt_nb (O N f b : Nat → Int) (i p : Nat) : Int := if O p = N i then min (mt_tb f (i + 1) (p + 1)) (b (p + 1)) else 1000000
def mt_b' (O : Nat → Int) (nO : Nat) (N f b : Nat → Int) (i : Nat) : Nat → Int := fun p => if p < nO then mt_nb O N f b i p else b p
def mt_ne (c f e : Nat → Int) (i s : Nat) : Int := c 4 + min (mt_tb f (i + 1) s) (e s)
def mt_bs (O : Nat → Int) (nO : Nat) (N : Nat → Int) (nN : Nat) (c f b e : Nat → Int) (i s : Nat) : Int :=
  min (min (min (c 3 + mt_ne c f e i s) (c 0 + mt_b' O nO N f b i s)) (c 0 + c 1 + mt_ml (mt_b' O nO N f b i) nO)) (c 2 + mt_ls f i s (mt_la N nN i i))
/-- what holds with the rows from i on worked out: f the table, b and e the rows behind copies and behind lays -/
def mt_in (O : Nat → Int) (nO : Nat) (N : Nat → Int) (nN : Nat) (c f b e : Nat → Int) (i : Nat) : Prop :=
  i ≤ nN ∧ (∀ s, s ≤ nO → mt_tb f nN s = 0) ∧
  (∀ i' s, i ≤ i' → i' < nN → s ≤ nO → (∀ k p n, mt_ok O nO N nN i' k p n → mt_tb f i' s ≤ mt_c c s k p n + mt_tb f (i' + n) (mt_s s k p n)) ∧ ∃ k p n, mt_ok O nO N nN i' k p n ∧ mt_tb f i' s = mt_c c s k p n + mt_tb f (i' + n) (mt_s s k p n)) ∧
  (∀ i' s, i ≤ i' → i' ≤ nN → s ≤ nO → 0 ≤ mt_tb f i' s ∧ mt_tb f i' s ≤ 4100) ∧
  (∀ p, p ≤ nO → (0 ≤ b p ∧ b p ≤ 1000000) ∧ (∀ n, mt_ok O nO N nN i 0 p n → b p ≤ mt_tb f (i + n) (p + n)) ∧ (b p = 1000000 ∨ ∃ n, mt_ok O nO N nN i 0 p n ∧ b p = mt_tb f (i + n) (p + n))) ∧
  (∀ s, s ≤ nO → (0 ≤ e s ∧ e s ≤ 1000000) ∧ (∀ n, 1 ≤ n → i + n ≤ nN → e s ≤ c 4 * n + mt_tb f (i + n) s) ∧ (e s = 1000000 ∨ ∃ n, 1 ≤ n ∧ i + n ≤ nN ∧ e s = c 4 * n + mt_tb f (i + n) s))
theorem mt_in_rest {O : Nat → Int} {nO : Nat} {N : Nat → Int} {nN : Nat} {c f b e : Nat → Int} (h : mt_in O nO N nN c f b e 0) : mt_rest O nO N nN c (mt_tb f) :=
  ⟨h.2.1, fun i s hi hs => h.2.2.1 i s (Nat.zero_le i) hi hs⟩
theorem mt_in_last {O : Nat → Int} {nO : Nat} {N : Nat → Int} {nN : Nat} {c f b e : Nat → Int} (h1 : ∀ s, s ≤ nO → mt_tb f nN s = 0) (h2 : ∀ s, s ≤ nO → b s = 1000000) (h3 : ∀ s, s ≤ nO → e s = 1000000) : mt_in O nO N nN c f b e nN := by
  refine ⟨Nat.le_refl _, h1, fun i' s g1 g2 => by omega, fun i' s g1 g2 g3 => ?_, fun p hp => ⟨by rw [h2 p hp]; omega, fun n hn => ?_, Or.inl (h2 p hp)⟩, fun s hs => ⟨by rw [h3 s hs]; omega, fun n g1 g2 => by omega, Or.inl (h3 s hs)⟩⟩
  · rw [show i' = nN by omega, h1 s g3]
    omega
  · have := hn.1
    have := hn.2.1
    omega
theorem mt_in_step {O : Nat → Int} {nO : Nat} {N : Nat → Int} {nN : Nat} {c f b e f' b' e' : Nat → Int} {i : Nat} (hO : nO ≤ 40) (hN : nN ≤ 40) (hc : ∀ j, j < 5 → 0 ≤ c j ∧ c j ≤ 100) (h : mt_in O nO N nN c f b e (i + 1))
    (hb : ∀ p, p ≤ nO → b' p = mt_b' O nO N f b i p) (he : ∀ s, s ≤ nO → e' s = mt_ne c f e i s) (hf : ∀ s, s ≤ nO → mt_tb f' i s = mt_bs O nO N nN c f b e i s) (hk : ∀ i' s, i < i' → i' ≤ nN → s ≤ nO → mt_tb f' i' s = mt_tb f i' s) : mt_in O nO N nN c f' b' e' i := by
  obtain ⟨a1, a2, a3, a4, a5, a6⟩ := h
  have c0 := hc 0 (by omega)
  have c1 := hc 1 (by omega)
  have c2 := hc 2 (by omega)
  have c3 := hc 3 (by omega)
  have c4 := hc 4 (by omega)
  -- behind copies
  have B : ∀ p, p ≤ nO → (0 ≤ b' p ∧ b' p ≤ 1000000) ∧ (∀ n, mt_ok O nO N nN i 0 p n → b' p ≤ mt_tb f (i + n) (p + n)) ∧ (b' p = 1000000 ∨ ∃ n, mt_ok O nO N nN i 0 p n ∧ b' p = mt_tb f (i + n) (p + n)) := by
    intro p hp
    rw [hb p hp]
    unfold mt_b'
    by_cases hpn : p < nO
    · rw [if_pos hpn]
      unfold mt_nb
      obtain ⟨g1, g2, g3⟩ := a5 (p + 1) (by omega)
      have g4 := a4 (i + 1) (p + 1) (by omega) (by omega) (by omega)
      by_cases hx : O p = N i
      · rw [if_pos hx]
        refine ⟨by omega, fun n hn => ?_, ?_⟩
        · obtain ⟨n1, n2, n3⟩ := hn
          rcases n3 with ⟨-, n4, n5⟩ | ⟨n4, -⟩ | ⟨n4, -⟩
          · by_cases hn1 : n = 1
            · subst hn1; omega
            · have := g2 (n - 1) ⟨by omega, by omega, Or.inl ⟨rfl, by omega, fun t ht => ?_⟩⟩
              · rw [show i + 1 + (n - 1) = i + n by omega, show p + 1 + (n - 1) = p + n by omega] at this
                omega
              · have := n5 (t + 1) (by omega)
                rw [show p + 1 + t = p + (t + 1) by omega, show i + 1 + t = i + (t + 1) by omega]
                exact this
          · omega
          · omega
        · have one : mt_ok O nO N nN i 0 p 1 := ⟨by omega, by omega, Or.inl ⟨rfl, by omega, fun t ht => by rw [show t = 0 by omega]; exact hx⟩⟩
          by_cases hm : mt_tb f (i + 1) (p + 1) ≤ b (p + 1)
          · exact Or.inr ⟨1, one, by omega⟩
          · rcases g3 with g3 | ⟨n, g5, g6⟩
            · omega
            · refine Or.inr ⟨n + 1, ⟨by omega, ?_, Or.inl ⟨rfl, ?_, ?_⟩⟩, ?_⟩
              · have := g5.2.1; omega
              · obtain ⟨-, -, ⟨-, n4, -⟩ | ⟨n4, -⟩ | ⟨n4, -⟩⟩ := g5 <;> omega
              · obtain ⟨-, -, ⟨-, -, n5⟩ | ⟨n4, -⟩ | ⟨n4, -⟩⟩ := g5
                · intro t ht
                  cases t with
                  | zero => exact hx
                  | succ t =>
                    have := n5 t (by omega)
                    rw [show p + (t + 1) = p + 1 + t by omega, show i + (t + 1) = i + 1 + t by omega]
                    exact this
                · omega
                · omega
              · rw [show i + (n + 1) = i + 1 + n by omega, show p + (n + 1) = p + 1 + n by omega]
                omega
      · rw [if_neg hx]
        refine ⟨by omega, fun n hn => ?_, Or.inl rfl⟩
        obtain ⟨n1, -, ⟨-, -, n5⟩ | ⟨n4, -⟩ | ⟨n4, -⟩⟩ := hn
        · exact absurd (n5 0 (by omega)) hx
        · omega
        · omega
    · rw [if_neg hpn]
      have hpe : p = nO := by omega
      obtain ⟨g1, g2, g3⟩ := a5 p (by omega)
      refine ⟨g1, fun n hn => ?_, ?_⟩
      · obtain ⟨n1, -, ⟨-, n4, -⟩ | ⟨n4, -⟩ | ⟨n4, -⟩⟩ := hn <;> omega
      · rcases g3 with g3 | ⟨n, g5, -⟩
        · exact Or.inl g3
        · obtain ⟨n1, -, ⟨-, n4, -⟩ | ⟨n4, -⟩ | ⟨n4, -⟩⟩ := g5 <;> omega
  -- behind lays
  have E : ∀ s, s ≤ nO → (0 ≤ e' s ∧ e' s ≤ 4200) ∧ (∀ n, 1 ≤ n → i + n ≤ nN → e' s ≤ c 4 * n + mt_tb f (i + n) s) ∧ ∃ n, 1 ≤ n ∧ i + n ≤ nN ∧ e' s = c 4 * n + mt_tb f (i + n) s := by
    intro s hs
    rw [he s hs]
    unfold mt_ne
    obtain ⟨g1, g2, g3⟩ := a6 s hs
    have g4 := a4 (i + 1) s (by omega) (by omega) hs
    refine ⟨by omega, fun n n1 n2 => ?_, ?_⟩
    · by_cases hn1 : n = 1
      · subst hn1
        have : c 4 * ((1 : Nat) : Int) = c 4 := by rw [show ((1 : Nat) : Int) = 1 from rfl, Int.mul_one]
        omega
      · have g5 := g2 (n - 1) (by omega) (by omega)
        rw [show i + 1 + (n - 1) = i + n by omega] at g5
        have : c 4 * (n : Int) = c 4 * ((n - 1 : Nat) : Int) + c 4 := by
          rw [show (n : Int) = ((n - 1 : Nat) : Int) + 1 by omega, Int.mul_add, Int.mul_one]
        omega
    · by_cases hm : mt_tb f (i + 1) s ≤ e s
      · refine ⟨1, by omega, by omega, ?_⟩
        have : c 4 * ((1 : Nat) : Int) = c 4 := by rw [show ((1 : Nat) : Int) = 1 from rfl, Int.mul_one]
        omega
      · rcases g3 with g3 | ⟨n, n1, n2, n3⟩
        · omega
        · refine ⟨n + 1, by omega, by omega, ?_⟩
          rw [show i + (n + 1) = i + 1 + n by omega]
          have : c 4 * ((n + 1 : Nat) : Int) = c 4 * (n : Int) + c 4 := by rw [show ((n + 1 : Nat) : Int) = (n : Int) + 1 by omega, Int.mul_add, Int.mul_one]
          omega
  -- a place's best
  have A : ∀ s, s ≤ nO → (∀ k p n, mt_ok O nO N nN i k p n → mt_tb f' i s ≤ mt_c c s k p n + mt_tb f (i + n) (mt_s s k p n)) ∧ (0 ≤ mt_tb f' i s) ∧ ∃ k p n, mt_ok O nO N nN i k p n ∧ mt_tb f' i s = mt_c c s k p n + mt_tb f (i + n) (mt_s s k p n) := by
    intro s hs
    have ef := hf s hs
    have ee := he s hs
    obtain ⟨e1, e2, n0, e3, e4, e5⟩ := E s hs
    obtain ⟨b1, b2, b3⟩ := B s hs
    have eb := hb s hs
    unfold mt_bs at ef
    rw [← ee, ← eb] at ef
    have low : ∀ k p n, mt_ok O nO N nN i k p n → mt_tb f' i s ≤ mt_c c s k p n + mt_tb f (i + n) (mt_s s k p n) := by
      intro k p n hn
      clear b3
      unfold mt_c mt_s
      have hn' := hn
      obtain ⟨n1, n2, ⟨n3, n4, n5⟩ | ⟨n3, n4, n5⟩ | ⟨n3, -⟩⟩ := hn
      · subst n3
        rw [if_pos rfl, if_pos rfl]
        by_cases hps : p = s
        · subst hps
          rw [if_pos rfl]
          have := b2 n hn'
          omega
        · rw [if_neg hps]
          have g1 := (B p (by omega)).2.1 n hn'
          have g2 := mt_ml_le (g := mt_b' O nO N f b i) (m := nO) (p := p) (by omega)
          rw [← hb p (by omega)] at g2
          omega
      · subst n3
        rw [if_neg (by decide), if_pos rfl, if_neg (by decide)]
        have g1 := mt_le_len (f := N) (g := N) (m := nN - i) (i := p) (j := i) (n := n) (by omega) n5
        have g2 := mt_la_ge (N := N) (nN := nN) (i := i) (q := i) (p := p) n4
        have g3 := mt_ls_le (f := f) (i := i) (s := s) (m := mt_la N nN i i) (n := n) n1 (by omega)
        omega
      · subst n3
        rw [if_neg (by decide), if_neg (by decide), if_neg (by decide)]
        have := e2 n n1 n2
        omega
    have lsr := mt_ls_rg (f := f) (i := i) (s := s) (m := mt_la N nN i i) (B := 4100) (by omega) (fun n n1 n2 => by
      have := mt_la_le (N := N) (nN := nN) (i := i) (q := i)
      exact a4 (i + n) s (by omega) (by omega) hs)
    have mlr : 0 ≤ mt_ml (mt_b' O nO N f b i) nO := by
      rcases mt_ml_ex (g := mt_b' O nO N f b i) (m := nO) with g | ⟨p, g1, g2⟩
      · omega
      · rw [g2, ← hb p (by omega)]
        have := (B p (by omega)).1
        omega
    refine ⟨low, by omega, ?_⟩
    by_cases k1 : mt_tb f' i s = c 3 + e' s
    · refine ⟨2, 0, n0, ⟨e3, e4, Or.inr (Or.inr ⟨rfl, rfl⟩)⟩, ?_⟩
      unfold mt_c mt_s
      rw [if_neg (by decide), if_neg (by decide), if_neg (by decide)]
      omega
    by_cases k2 : mt_tb f' i s = c 0 + b' s
    · rcases b3 with b3 | ⟨n, b4, b5⟩
      · omega
      · refine ⟨0, s, n, b4, ?_⟩
        unfold mt_c mt_s
        rw [if_pos rfl, if_pos rfl, if_pos rfl]
        omega
    by_cases k3 : mt_tb f' i s = c 0 + c 1 + mt_ml (mt_b' O nO N f b i) nO
    · rcases mt_ml_ex (g := mt_b' O nO N f b i) (m := nO) with g | ⟨p, g1, g2⟩
      · omega
      · rw [← hb p (by omega)] at g2
        rcases (B p (by omega)).2.2 with b6 | ⟨n, b7, b8⟩
        · omega
        · have hl := low 0 p n b7
          refine ⟨0, p, n, b7, ?_⟩
          unfold mt_c mt_s at hl ⊢
          rw [if_pos rfl, if_pos rfl] at hl ⊢
          by_cases hps : p = s
          · rw [if_pos hps] at hl ⊢
            omega
          · rw [if_neg hps] at hl ⊢
            omega
    · clear b3
      have k4 : mt_tb f' i s = c 2 + mt_ls f i s (mt_la N nN i i) := by omega
      rcases mt_ls_ex (f := f) (i := i) (s := s) (m := mt_la N nN i i) with g | ⟨n, g1, g2, g3⟩
      · omega
      · rcases mt_la_ex (N := N) (nN := nN) (i := i) (q := i) with g4 | ⟨p, g4, g5⟩
        · omega
        · refine ⟨1, p, n, ⟨g1, ?_, Or.inr (Or.inl ⟨rfl, g4, fun t ht => mt_len_lt (m := nN - i) (by omega)⟩)⟩, ?_⟩
          · have := mt_la_le (N := N) (nN := nN) (i := i) (q := i)
            omega
          · unfold mt_c mt_s
            rw [if_neg (by decide), if_pos rfl, if_neg (by decide)]
            omega
  have up : ∀ s, s ≤ nO → mt_tb f' i s ≤ 4100 := by
    intro s hs
    have hl := (A s hs).1 2 0 (nN - i) ⟨by omega, by omega, Or.inr (Or.inr ⟨rfl, rfl⟩)⟩
    unfold mt_c mt_s at hl
    rw [if_neg (by decide), if_neg (by decide), if_neg (by decide), show i + (nN - i) = nN by omega, a2 s hs] at hl
    have hm : c 4 * ((nN - i : Nat) : Int) ≤ 100 * 40 := by
      have h1 : c 4 * ((nN - i : Nat) : Int) ≤ 100 * ((nN - i : Nat) : Int) := Int.mul_le_mul_of_nonneg_right c4.2 (by omega)
      omega
    omega
  have hs' : ∀ i' n s k p, mt_ok O nO N nN i' k p n → i ≤ i' → s ≤ nO → mt_tb f' (i' + n) (mt_s s k p n) = mt_tb f (i' + n) (mt_s s k p n) := by
    intro i' n s k p hn hi hs
    have := hn.1
    exact hk (i' + n) _ (by omega) hn.2.1 (mt_s_le hn hs)
  refine ⟨by omega, fun s hs => ?_, fun i' s g1 g2 g3 => ?_, fun i' s g1 g2 g3 => ?_, fun p hp => ?_, fun s hs => ?_⟩
  · rw [hk nN s (by omega) (Nat.le_refl _) hs]
    exact a2 s hs
  · by_cases hii : i' = i
    · subst hii
      obtain ⟨x1, -, k, p, n, x2, x3⟩ := A s g3
      refine ⟨fun k p n hn => ?_, k, p, n, x2, ?_⟩
      · rw [hs' i' n s k p hn (Nat.le_refl _) g3]
        exact x1 k p n hn
      · rw [hs' i' n s k p x2 (Nat.le_refl _) g3]
        exact x3
    · obtain ⟨x1, k, p, n, x2, x3⟩ := a3 i' s (by omega) g2 g3
      refine ⟨fun k p n hn => ?_, k, p, n, x2, ?_⟩
      · rw [hs' i' n s k p hn g1 g3, hk i' s (by omega) (by omega) g3]
        exact x1 k p n hn
      · rw [hs' i' n s k p x2 g1 g3, hk i' s (by omega) (by omega) g3]
        exact x3
  · by_cases hii : i' = i
    · subst hii
      exact ⟨(A s g3).2.1, up s g3⟩
    · rw [hk i' s (by omega) g2 g3]
      exact a4 i' s (by omega) g2 g3
  · obtain ⟨b1, b2, b3⟩ := B p hp
    refine ⟨b1, fun n hn => ?_, ?_⟩
    · have := hs' i n p 0 p hn (Nat.le_refl _) hp
      have e0 : mt_s p 0 p n = p + n := rfl
      rw [e0] at this
      rw [this]
      exact b2 n hn
    · rcases b3 with b3 | ⟨n, b4, b5⟩
      · exact Or.inl b3
      · refine Or.inr ⟨n, b4, ?_⟩
        have := hs' i n p 0 p b4 (Nat.le_refl _) hp
        have e0 : mt_s p 0 p n = p + n := rfl
        rw [e0] at this
        rw [this]
        exact b5
  · obtain ⟨e1, e2, n, e3, e4, e5⟩ := E s hs
    refine ⟨by omega, fun n n1 n2 => ?_, Or.inr ⟨n, e3, e4, ?_⟩⟩
    · rw [hk (i + n) s (by omega) n2 hs]
      exact e2 n n1 n2
    · rw [hk (i + n) s (by omega) e4 hs]
      exact e5
end
section
theorem zk_ua_ua (α : Nat → Nat → Int) (k : Nat) (f g : Nat → Int) : zk_ua (zk_ua α k f) k g = zk_ua α k g := by
  funext j
  unfold zk_ua
  split <;> rfl
theorem zk_up_up (α : Nat → Int) (k : Nat) (f g : Int) : zk_up (zk_up α k f) k g = zk_up α k g := by
  funext j
  unfold zk_up
  split <;> rfl
theorem zk_ua_self (α : Nat → Nat → Int) (k : Nat) : zk_ua α k (α k) = α := by
  funext j
  unfold zk_ua
  split
  next h => rw [h]
  next => rfl
theorem zk_up_self (f : Nat → Int) (k : Nat) : zk_up f k (f k) = f := by
  funext j
  unfold zk_up
  split
  next h => rw [h]
  next => rfl
def mt_bp (O N f b : Nat → Int) (i p : Nat) : Nat → Int := fun j => if j < p then mt_nb O N f b i j else b j
theorem mt_bp_0 (O N f b : Nat → Int) (i : Nat) : mt_bp O N f b i 0 = b := by
  funext j
  unfold mt_bp
  rw [if_neg (Nat.not_lt_zero j)]
theorem mt_bp_up (O N f b : Nat → Int) (i p : Nat) : zk_up (mt_bp O N f b i p) p (mt_nb O N f b i p) = mt_bp O N f b i (p + 1) := by
  funext j
  unfold zk_up mt_bp
  by_cases h : j = p
  · subst h
    rw [if_pos rfl, if_pos (by omega)]
  · rw [if_neg h]
    by_cases h2 : j < p
    · rw [if_pos h2, if_pos (by omega)]
    · rw [if_neg h2, if_neg (by omega)]
def mt_es (c f e : Nat → Int) (i s : Nat) : Nat → Int := fun j => if j < s then mt_ne c f e i j else e j
theorem mt_es_0 (c f e : Nat → Int) (i : Nat) : mt_es c f e i 0 = e := by
  funext j
  unfold mt_es
  rw [if_neg (Nat.not_lt_zero j)]
theorem mt_es_up (c f e : Nat → Int) (i s : Nat) : zk_up (mt_es c f e i s) s (mt_ne c f e i s) = mt_es c f e i (s + 1) := by
  funext j
  unfold zk_up mt_es
  by_cases h : j = s
  · subst h
    rw [if_pos rfl, if_pos (by omega)]
  · rw [if_neg h]
    by_cases h2 : j < s
    · rw [if_pos h2, if_pos (by omega)]
    · rw [if_neg h2, if_neg (by omega)]
def mt_fs (g : Nat → Int) (f : Nat → Int) (i s : Nat) : Nat → Int := fun j => if 41 * i ≤ j ∧ j < 41 * i + s then g (j - 41 * i) else f j
theorem mt_fs_0 (g f : Nat → Int) (i : Nat) : mt_fs g f i 0 = f := by
  funext j
  unfold mt_fs
  rw [if_neg (by omega)]
theorem mt_fs_up (g f : Nat → Int) (i s : Nat) : zk_up (mt_fs g f i s) (41 * i + s) (g s) = mt_fs g f i (s + 1) := by
  funext j
  unfold zk_up mt_fs
  by_cases h : j = 41 * i + s
  · subst h
    rw [if_pos rfl, if_pos (by omega), show 41 * i + s - 41 * i = s by omega]
  · rw [if_neg h]
    by_cases h2 : 41 * i ≤ j ∧ j < 41 * i + s
    · rw [if_pos h2, if_pos (by omega)]
    · rw [if_neg h2, if_neg (by omega)]
theorem mt_fs_tb {g f : Nat → Int} {i s i' s' : Nat} (h : i < i') (hs : s ≤ 41) : mt_tb (mt_fs g f i s) i' s' = mt_tb f i' s' := by
  unfold mt_tb mt_fs
  rw [if_neg (by omega)]
theorem mt_fs_tbi {g f : Nat → Int} {i s s' : Nat} (h : s' < s) : mt_tb (mt_fs g f i s) i s' = g s' := by
  unfold mt_tb mt_fs
  rw [if_pos (by omega), show 41 * i + s' - 41 * i = s' by omega]
theorem mt_ls_congr {f f' : Nat → Int} {i s : Nat} : ∀ {m : Nat}, (∀ n, 1 ≤ n → n ≤ m → mt_tb f (i + n) s = mt_tb f' (i + n) s) → mt_ls f i s m = mt_ls f' i s m
  | 0, _ => rfl
  | m + 1, h => by
    show min (mt_ls f i s m) (mt_tb f (i + m + 1) s) = min (mt_ls f' i s m) (mt_tb f' (i + m + 1) s)
    rw [mt_ls_congr (fun n h1 h2 => h n h1 (by omega)), show i + m + 1 = i + (m + 1) by omega, h (m + 1) (by omega) (by omega)]

set_option maxRecDepth 100000 in
set_option maxHeartbeats 4000000 in
theorem kS_leastFrom (G : zk_G) (sw : Bool) (σ : Nat → Int) (α : Nat → Nat → Int) (t : zk_H) {i s : Int} (hi : 0 ≤ i ∧ i ≤ 40) (hs : 0 ≤ s ∧ s ≤ 40) : zk_K G mS_leastFrom (0, 0) 0 0 [.inr (some 18), .inl i, .inl s] (zk_mk G sw σ α t) (fun v h' => h' = (zk_mk G sw σ α t) ∧ v = some (.inl (α 9 (i * 41 + s).toNat))) := by
  refine zk_K.of (ls := [some (.inr (some 18)), some (.inl i), some (.inl s), none]) (by decide +kernel) (Nat.le_of_ble_eq_true rfl) rfl ?_
  refine zk_iload_n dS_leastFrom_0 rfl ?_
  refine zk_if_lt (tgt := 24) dS_leastFrom_1 (by decide) ⟨by omega, by omega⟩ (fun h1 => ?_) (fun h1 => ?_)
  · skip
    exfalso; omega
  · skip
    refine zk_iload_n dS_leastFrom_4 rfl ?_
    refine zk_bipush dS_leastFrom_5 (by decide) ?_
    refine zk_icmp_ge (tgt := 24) dS_leastFrom_7 (by decide) ⟨by omega, by omega⟩ ⟨by decide, by decide⟩ (fun h7 => ?_) (fun h7 => ?_)
    · skip
      exfalso; omega
    · skip
      refine zk_iload_n dS_leastFrom_10 rfl ?_
      refine zk_if_lt (tgt := 24) dS_leastFrom_11 (by decide) ⟨by omega, by omega⟩ (fun h11 => ?_) (fun h11 => ?_)
      · skip
        exfalso; omega
      · skip
        refine zk_iload_n dS_leastFrom_14 rfl ?_
        refine zk_bipush dS_leastFrom_15 (by decide) ?_
        refine zk_icmp_ge (tgt := 24) dS_leastFrom_17 (by decide) ⟨by omega, by omega⟩ ⟨by decide, by decide⟩ (fun h17 => ?_) (fun h17 => ?_)
        · skip
          exfalso; omega
        · skip
          refine zk_iconst dS_leastFrom_20 ?_
          refine zk_goto (tgt := 25) dS_leastFrom_21 (by decide) ?_
          refine zk_istore_n (ls' := [some (.inr (some 18)), some (.inl i), some (.inl s), some (.inl 1)]) dS_leastFrom_25 (by decide) rfl ?_
          refine zk_iload_n dS_leastFrom_26 rfl ?_
          refine zk_if_eq (tgt := 44) dS_leastFrom_27 (by decide) ⟨by decide, by decide⟩ (fun h27 => ?_) (fun h27 => ?_)
          · skip
            exact absurd h27 (by decide)
          · skip
            refine zk_aload_n dS_leastFrom_30 rfl ?_
            refine zk_get zfS_11 dS_leastFrom_31 (v := .inr (some 19)) rfl (by decide) rfl ?_
            refine zk_iload_n dS_leastFrom_34 rfl ?_
            refine zk_bipush dS_leastFrom_35 (by decide) ?_
            refine zk_imul dS_leastFrom_37 ?_
            refine zk_iload_n dS_leastFrom_38 rfl ?_
            refine zk_iadd dS_leastFrom_39 ?_
            refine zk_iald dS_leastFrom_40 (n := 1681) (f := α 9) rfl (by omega) (by omega) (by omega) ?_
            refine zk_goto (tgt := 46) dS_leastFrom_41 (by decide) ?_
            exact zk_iret dS_leastFrom_46 rfl ⟨rfl, rfl⟩

set_option maxRecDepth 100000 in
set_option maxHeartbeats 4000000 in
theorem wS_longestAgain (G : zk_G) (sw : Bool) (σ : Nat → Int) (α : Nat → Nat → Int) (t : zk_H) (hn0 : 0 ≤ σ 0 ∧ σ 0 ≤ (zr_N 0 : Int)) (hn1 : 0 ≤ σ 1 ∧ σ 1 ≤ (zr_N 1 : Int)) (hv0 : ∀ j, 0 ≤ α 0 j ∧ α 0 j ≤ 255) (hv1 : ∀ j, 0 ≤ α 1 j ∧ α 1 j ≤ 255) {i : Nat} (hi : (i : Int) < σ 1) : ∀ (k : Nat) (p : Nat), (p ≤ i) → (i < p + k) → zk_W G mS_longestAgain (2, 46) 0 0 4 [some (.inr (some 18)), some (.inl (i : Int)), some (.inl ((mt_la (α 1) (σ 1).toNat i p : Int))), some (.inl (p : Int))] [] (zk_mk G sw σ α t) (fun v h' => h' = (zk_mk G sw σ α t) ∧ v = some (.inl (mt_la (α 1) (σ 1).toNat i i : Int))) := by
  intro k
  induction k with
  | zero =>
    intro p g1 g2
    exfalso
    omega
  | succ k ih =>
    intro p g1 g2
    have eN0 : (zr_N 0 : Int) = 40 := rfl
    have eN1 : (zr_N 1 : Int) = 40 := rfl
    have hl1 := mt_la_le (N := α 1) (nN := (σ 1).toNat) (i := i) (q := p)
    have hl2 := mt_len_le (α 1) (α 1) ((σ 1).toNat - i) p i
    refine zk_iload_n dS_longestAgain_4 rfl ?_
    refine zk_iload_n dS_longestAgain_5 rfl ?_
    refine zk_icmp_ge (tgt := 33) dS_longestAgain_6 (by decide) ⟨by omega, by omega⟩ ⟨by omega, by omega⟩ (fun h6 => ?_) (fun h6 => ?_)
    · skip
      refine zk_iload_n dS_longestAgain_33 rfl ?_
      have ep : p = i := by omega
      subst ep
      exact zk_iret dS_longestAgain_34 rfl ⟨rfl, rfl⟩
    · skip
      refine zk_iload_n dS_longestAgain_9 rfl ?_
      refine zk_aload_n dS_longestAgain_10 rfl ?_
      refine zk_get zfS_25 dS_longestAgain_11 (v := .inr (some 4)) rfl (by decide) rfl ?_
      refine zk_iload_n dS_longestAgain_14 rfl ?_
      refine zk_aload_n dS_longestAgain_15 rfl ?_
      refine zk_get zfS_25 dS_longestAgain_16 (v := .inr (some 4)) rfl (by decide) rfl ?_
      refine zk_iload_n dS_longestAgain_19 rfl ?_
      refine zk_callV (av := [.inl (p : Int), .inr (some 4), .inl (i : Int)]) (st := [.inl ((mt_la (α 1) (σ 1).toNat i p : Int))]) (d' := (1, 21)) (kc' := 0) (ks' := 0) zbS_88 dS_longestAgain_20 rfl (by decide) rfl rfl (Nat.le_of_ble_eq_true rfl) ⟨by decide, by decide⟩ rfl rfl (kR_countSame G sw σ α t (q := 1) (by decide) (r := 1) (by decide) hn1 hn1 hv1 hv1 (i := (p : Int)) (j := (i : Int)) ⟨by omega, by omega⟩ ⟨by omega, by omega⟩) (fun v9 h9 q9 => ?_)
      obtain ⟨rfl, rfl⟩ := q9
      refine zk_W.to (ls' := [some (.inr (some 18)), some (.inl (i : Int)), some (.inl ((mt_la (α 1) (σ 1).toNat i p : Int))), some (.inl (p : Int))]) (st' := [.inl (if (0 ≤ (p : Int) ∧ (p : Int) < σ 1) ∧ (0 ≤ (i : Int) ∧ (i : Int) < σ 1) then (mt_len (α 1) (α 1) p i (min (σ 1 - (p : Int)) (σ 1 - (i : Int))).toNat : Int) else 0), .inl ((mt_la (α 1) (σ 1).toNat i p : Int))]) (h' := (zk_mk G sw σ α t)) rfl rfl rfl ?_
      have ecs20 : (min (σ 1 - (p : Int)) (σ 1 - (i : Int))).toNat = (σ 1).toNat - i := by omega
      rw [if_pos (⟨⟨by omega, by omega⟩, ⟨by omega, by omega⟩⟩ : (0 ≤ (p : Int) ∧ (p : Int) < σ 1) ∧ (0 ≤ (i : Int) ∧ (i : Int) < σ 1)), ecs20]
      refine zk_mmax dS_longestAgain_23 zlS_92 zw_maxs zw_mi zw_maxc ⟨by decide, Nat.le_of_ble_eq_true rfl⟩ ⟨by omega, by omega⟩ ⟨by omega, by omega⟩ ?_
      refine zk_istore_n (ls' := [some (.inr (some 18)), some (.inl (i : Int)), some (.inl (max ((mt_la (α 1) (σ 1).toNat i p : Int)) ((mt_len (α 1) (α 1) p i ((σ 1).toNat - i) : Int)))), some (.inl (p : Int))]) dS_longestAgain_26 (by decide) rfl ?_
      refine zk_iinc (ls' := [some (.inr (some 18)), some (.inl (i : Int)), some (.inl (max ((mt_la (α 1) (σ 1).toNat i p : Int)) ((mt_len (α 1) (α 1) p i ((σ 1).toNat - i) : Int)))), some (.inl ((p : Int) + 1))]) dS_longestAgain_27 rfl (by decide) rfl ?_
      refine zk_goto (tgt := 4) dS_longestAgain_30 (by decide) ?_
      have e1 : max ((mt_la (α 1) (σ 1).toNat i p : Int)) ((mt_len (α 1) (α 1) p i ((σ 1).toNat - i) : Int)) = (mt_la (α 1) (σ 1).toNat i (p + 1) : Int) := by
        show _ = ((max (mt_la (α 1) (σ 1).toNat i p) (mt_len (α 1) (α 1) p i ((σ 1).toNat - i)) : Nat) : Int)
        omega
      have e2 : (p : Int) + 1 = ((p + 1 : Nat) : Int) := by omega
      rw [e1, e2]
      exact ih (p + 1) (by omega) (by omega)

set_option maxRecDepth 100000 in
set_option maxHeartbeats 4000000 in
theorem kS_longestAgain (G : zk_G) (sw : Bool) (σ : Nat → Int) (α : Nat → Nat → Int) (t : zk_H) (hn0 : 0 ≤ σ 0 ∧ σ 0 ≤ (zr_N 0 : Int)) (hn1 : 0 ≤ σ 1 ∧ σ 1 ≤ (zr_N 1 : Int)) (hv0 : ∀ j, 0 ≤ α 0 j ∧ α 0 j ≤ 255) (hv1 : ∀ j, 0 ≤ α 1 j ∧ α 1 j ≤ 255) {i : Nat} (hi : (i : Int) < σ 1) : zk_K G mS_longestAgain (2, 46) 0 0 [.inr (some 18), .inl (i : Int)] (zk_mk G sw σ α t) (fun v h' => h' = (zk_mk G sw σ α t) ∧ v = some (.inl (mt_la (α 1) (σ 1).toNat i i : Int))) := by
  refine zk_K.of (ls := [some (.inr (some 18)), some (.inl (i : Int)), none, none]) (by decide +kernel) (Nat.le_of_ble_eq_true rfl) rfl ?_
  refine zk_iconst dS_longestAgain_0 ?_
  refine zk_istore_n (ls' := [some (.inr (some 18)), some (.inl (i : Int)), some (.inl 0), none]) dS_longestAgain_1 (by decide) rfl ?_
  refine zk_iconst dS_longestAgain_2 ?_
  refine zk_istore_n (ls' := [some (.inr (some 18)), some (.inl (i : Int)), some (.inl 0), some (.inl 0)]) dS_longestAgain_3 (by decide) rfl ?_
  exact wS_longestAgain G sw σ α t hn0 hn1 hv0 hv1 hi (i + 1) 0 (Nat.zero_le i) (by omega)

set_option maxRecDepth 100000 in
set_option maxHeartbeats 4000000 in
theorem wS_leastBehindSelf (G : zk_G) (sw : Bool) (σ : Nat → Int) (α : Nat → Nat → Int) (t : zk_H) {i s m : Nat} (hs : s ≤ 40) (hm : i + m ≤ 40) (hL : ∀ n, 1 ≤ n → n ≤ m → 0 ≤ mt_tb (α 9) (i + n) s ∧ mt_tb (α 9) (i + n) s ≤ 4100) : ∀ (k : Nat) (n : Nat), (n ≤ m) → (m < n + k) → zk_W G mS_leastBehindSelf (1, 23) 0 0 7 [some (.inr (some 18)), some (.inl (i : Int)), some (.inl (s : Int)), some (.inl (m : Int)), some (.inl (mt_ls (α 9) i s n)), some (.inl ((n : Int) + 1))] [] (zk_mk G sw σ α t) (fun v h' => h' = (zk_mk G sw σ α t) ∧ v = some (.inl (mt_ls (α 9) i s m))) := by
  intro k
  induction k with
  | zero =>
    intro n g1 g2
    exfalso
    omega
  | succ k ih =>
    intro n g1 g2
    have ei : (((i : Int) + ((n : Int) + 1)) * 41 + (s : Int)).toNat = 41 * (i + n + 1) + s := by omega
    have hr := mt_ls_rg (f := α 9) (i := i) (s := s) (m := n) (B := 4100) (by omega) (fun n' a b => hL n' a (by omega))
    have hq : n + 1 ≤ m → 0 ≤ α 9 (((i : Int) + ((n : Int) + 1)) * 41 + (s : Int)).toNat ∧ α 9 (((i : Int) + ((n : Int) + 1)) * 41 + (s : Int)).toNat ≤ 4100 := fun hx => by rw [ei]; exact hL (n + 1) (by omega) hx
    refine zk_iload dS_leastBehindSelf_7 rfl ?_
    refine zk_iload_n dS_leastBehindSelf_9 rfl ?_
    refine zk_icmp_gt (tgt := 35) dS_leastBehindSelf_10 (by decide) ⟨by omega, by omega⟩ ⟨by omega, by omega⟩ (fun h10 => ?_) (fun h10 => ?_)
    · skip
      refine zk_iload dS_leastBehindSelf_35 rfl ?_
      have en : n = m := by omega
      subst en
      exact zk_iret dS_leastBehindSelf_37 rfl ⟨rfl, rfl⟩
    · skip
      refine zk_iload dS_leastBehindSelf_13 rfl ?_
      refine zk_aload_n dS_leastBehindSelf_15 rfl ?_
      refine zk_iload_n dS_leastBehindSelf_16 rfl ?_
      refine zk_iload dS_leastBehindSelf_17 rfl ?_
      refine zk_iadd dS_leastBehindSelf_19 ?_
      refine zk_iload_n dS_leastBehindSelf_20 rfl ?_
      refine zk_callV (av := [.inl ((i : Int) + ((n : Int) + 1)), .inl (s : Int)]) (st := [.inl (mt_ls (α 9) i s n)]) (d' := (0, 0)) (kc' := 0) (ks' := 0) zbS_66 dS_leastBehindSelf_21 rfl (by decide) rfl rfl (Nat.le_of_ble_eq_true rfl) ⟨by decide, by decide⟩ rfl rfl (kS_leastFrom G sw σ α t ⟨by omega, by omega⟩ ⟨by omega, by omega⟩) (fun v9 h9 q9 => ?_)
      obtain ⟨rfl, rfl⟩ := q9
      refine zk_W.to (ls' := [some (.inr (some 18)), some (.inl (i : Int)), some (.inl (s : Int)), some (.inl (m : Int)), some (.inl (mt_ls (α 9) i s n)), some (.inl ((n : Int) + 1))]) (st' := [.inl (α 9 (((i : Int) + ((n : Int) + 1)) * 41 + (s : Int)).toNat), .inl (mt_ls (α 9) i s n)]) (h' := (zk_mk G sw σ α t)) rfl rfl rfl ?_
      refine zk_mmin dS_leastBehindSelf_24 zlS_43 zw_mins zw_mi zw_minc ⟨by decide, Nat.le_of_ble_eq_true rfl⟩ ⟨by omega, by omega⟩ ⟨by have := hq (by omega); omega, by have := hq (by omega); omega⟩ ?_
      refine zk_istore (ls' := [some (.inr (some 18)), some (.inl (i : Int)), some (.inl (s : Int)), some (.inl (m : Int)), some (.inl (min (mt_ls (α 9) i s n) (α 9 (((i : Int) + ((n : Int) + 1)) * 41 + (s : Int)).toNat))), some (.inl ((n : Int) + 1))]) dS_leastBehindSelf_27 (by decide) rfl ?_
      refine zk_iinc (ls' := [some (.inr (some 18)), some (.inl (i : Int)), some (.inl (s : Int)), some (.inl (m : Int)), some (.inl (min (mt_ls (α 9) i s n) (α 9 (((i : Int) + ((n : Int) + 1)) * 41 + (s : Int)).toNat))), some (.inl ((n : Int) + 1 + 1))]) dS_leastBehindSelf_29 rfl (by decide) rfl ?_
      refine zk_goto (tgt := 7) dS_leastBehindSelf_32 (by decide) ?_
      have e1 : min (mt_ls (α 9) i s n) (α 9 (((i : Int) + ((n : Int) + 1)) * 41 + (s : Int)).toNat) = mt_ls (α 9) i s (n + 1) := by
        rw [ei]
        rfl
      have e2 : (n : Int) + 1 + 1 = ((n + 1 : Nat) : Int) + 1 := by omega
      rw [e1, e2]
      exact ih (n + 1) (by omega) (by omega)

set_option maxRecDepth 100000 in
set_option maxHeartbeats 4000000 in
theorem kS_leastBehindSelf (G : zk_G) (sw : Bool) (σ : Nat → Int) (α : Nat → Nat → Int) (t : zk_H) {i s m : Nat} (hs : s ≤ 40) (hm : i + m ≤ 40) (hL : ∀ n, 1 ≤ n → n ≤ m → 0 ≤ mt_tb (α 9) (i + n) s ∧ mt_tb (α 9) (i + n) s ≤ 4100) : zk_K G mS_leastBehindSelf (1, 23) 0 0 [.inr (some 18), .inl (i : Int), .inl (s : Int), .inl (m : Int)] (zk_mk G sw σ α t) (fun v h' => h' = (zk_mk G sw σ α t) ∧ v = some (.inl (mt_ls (α 9) i s m))) := by
  refine zk_K.of (ls := [some (.inr (some 18)), some (.inl (i : Int)), some (.inl (s : Int)), some (.inl (m : Int)), none, none]) (by decide +kernel) (Nat.le_of_ble_eq_true rfl) rfl ?_
  refine zk_ldc (z := 1000000) dS_leastBehindSelf_0 zcS_36 ?_
  refine zk_istore (ls' := [some (.inr (some 18)), some (.inl (i : Int)), some (.inl (s : Int)), some (.inl (m : Int)), some (.inl 1000000), none]) dS_leastBehindSelf_2 (by decide) rfl ?_
  refine zk_iconst dS_leastBehindSelf_4 ?_
  refine zk_istore (ls' := [some (.inr (some 18)), some (.inl (i : Int)), some (.inl (s : Int)), some (.inl (m : Int)), some (.inl 1000000), some (.inl 1)]) dS_leastBehindSelf_5 (by decide) rfl ?_
  exact wS_leastBehindSelf G sw σ α t hs hm hL (m + 1) 0 (Nat.zero_le m) (by omega)

set_option maxRecDepth 100000 in
set_option maxHeartbeats 4000000 in
theorem wS_lengthenCopies (G : zk_G) (sw : Bool) (σ : Nat → Int) (α : Nat → Nat → Int) (t : zk_H) (hn0 : 0 ≤ σ 0 ∧ σ 0 ≤ (zr_N 0 : Int)) (hn1 : 0 ≤ σ 1 ∧ σ 1 ≤ (zr_N 1 : Int)) (hv0 : ∀ j, 0 ≤ α 0 j ∧ α 0 j ≤ 255) (hv1 : ∀ j, 0 ≤ α 1 j ∧ α 1 j ≤ 255) {i : Nat} (hi : (i : Int) < σ 1) (hL : ∀ s, s ≤ (σ 0).toNat → 0 ≤ mt_tb (α 9) (i + 1) s ∧ mt_tb (α 9) (i + 1) s ≤ 4100) (hb : ∀ p, p ≤ (σ 0).toNat → 0 ≤ α 10 p ∧ α 10 p ≤ 1000000) : ∀ (k : Nat) (p : Nat), (p ≤ (σ 0).toNat) → ((σ 0).toNat < p + k) → zk_W G mS_lengthenCopies (2, 42) 0 0 19 [some (.inr (some 18)), some (.inl (i : Int)), some (.inl (mt_ml (mt_bp (α 0) (α 1) (α 9) (α 10) i (σ 0).toNat) p)), some (.inl (min (σ 0) 40)), some (.inl (p : Int))] [] (zk_mk G sw σ (zk_ua α 10 (mt_bp (α 0) (α 1) (α 9) (α 10) i p)) t) (fun v h' => h' = zk_mk G sw σ (zk_ua α 10 (mt_bp (α 0) (α 1) (α 9) (α 10) i (σ 0).toNat)) t ∧ v = some (.inl (mt_ml (mt_bp (α 0) (α 1) (α 9) (α 10) i (σ 0).toNat) (σ 0).toNat))) := by
  intro k
  induction k with
  | zero =>
    intro p g1 g2
    exfalso
    omega
  | succ k ih =>
    intro p g1 g2
    have eN0 : (zr_N 0 : Int) = 40 := rfl
    have eN1 : (zr_N 1 : Int) = 40 := rfl
    have ei : (((i : Int) + 1) * 41 + ((p : Int) + 1)).toNat = 41 * (i + 1) + (p + 1) := by omega
    have eb : (mt_bp (α 0) (α 1) (α 9) (α 10) i p) ((p : Int) + 1).toNat = α 10 (p + 1) := by
      rw [show ((p : Int) + 1).toNat = p + 1 by omega]
      unfold mt_bp
      rw [if_neg (by omega)]
    have hq1 : p < (σ 0).toNat → 0 ≤ α 9 (((i : Int) + 1) * 41 + ((p : Int) + 1)).toNat ∧ α 9 (((i : Int) + 1) * 41 + ((p : Int) + 1)).toNat ≤ 4100 := fun hx => by rw [ei]; exact hL (p + 1) (by omega)
    have hq2 : p < (σ 0).toNat → 0 ≤ (mt_bp (α 0) (α 1) (α 9) (α 10) i p) ((p : Int) + 1).toNat ∧ (mt_bp (α 0) (α 1) (α 9) (α 10) i p) ((p : Int) + 1).toNat ≤ 1000000 := fun hx => by rw [eb]; exact hb (p + 1) (by omega)
    have hml : zk_rg (mt_ml (mt_bp (α 0) (α 1) (α 9) (α 10) i (σ 0).toNat) p) := by
      rcases mt_ml_ex (g := mt_bp (α 0) (α 1) (α 9) (α 10) i (σ 0).toNat) (m := p) with g | ⟨p', g3, g4⟩
      · rw [g]; exact ⟨by omega, by omega⟩
      · rw [g4]
        show zk_rg (if p' < (σ 0).toNat then mt_nb (α 0) (α 1) (α 9) (α 10) i p' else α 10 p')
        rw [if_pos (by omega)]
        unfold mt_nb
        have a1 := hL (p' + 1) (by omega)
        have a2 := hb (p' + 1) (by omega)
        split
        · exact ⟨by omega, by omega⟩
        · exact ⟨by omega, by omega⟩
    refine zk_iload dS_lengthenCopies_19 rfl ?_
    refine zk_iload_n dS_lengthenCopies_21 rfl ?_
    refine zk_icmp_ge (tgt := 98) dS_lengthenCopies_22 (by decide) ⟨by omega, by omega⟩ ⟨by omega, by omega⟩ (fun h22 => ?_) (fun h22 => ?_)
    · skip
      refine zk_iload_n dS_lengthenCopies_98 rfl ?_
      have en : p = (σ 0).toNat := by omega
      subst en
      exact zk_iret dS_lengthenCopies_99 rfl ⟨rfl, rfl⟩
    · skip
      refine zk_aload_n dS_lengthenCopies_25 rfl ?_
      refine zk_get zfS_15 dS_lengthenCopies_26 (v := .inr (some 20)) rfl (by decide) rfl ?_
      refine zk_iload dS_lengthenCopies_29 rfl ?_
      refine zk_aload_n dS_lengthenCopies_31 rfl ?_
      refine zk_get zfS_21 dS_lengthenCopies_32 (v := .inr (some 2)) rfl (by decide) rfl ?_
      refine zk_iload dS_lengthenCopies_35 rfl ?_
      refine zk_callV (av := [.inl (p : Int)]) (st := [.inl (p : Int), .inr (some 20)]) (d' := (1, 21)) (kc' := 0) (ks' := 0) zbS_85 dS_lengthenCopies_37 rfl (by decide) rfl rfl (Nat.le_of_ble_eq_true rfl) ⟨by decide, by decide⟩ rfl rfl (kR_get G sw σ (zk_ua α 10 (mt_bp (α 0) (α 1) (α 9) (α 10) i p)) t (q := 0) (by decide) hn0 ⟨by omega, by omega⟩) (fun v9 h9 q9 => ?_)
      rcases q9 with ⟨rfl, ⟨hc37, rfl⟩ | ⟨hc37, rfl⟩⟩
      · skip
        refine zk_W.to (ls' := [some (.inr (some 18)), some (.inl (i : Int)), some (.inl (mt_ml (mt_bp (α 0) (α 1) (α 9) (α 10) i (σ 0).toNat) p)), some (.inl (min (σ 0) 40)), some (.inl (p : Int))]) (st' := [.inl (α 0 p), .inl (p : Int), .inr (some 20)]) (h' := (zk_mk G sw σ (zk_ua α 10 (mt_bp (α 0) (α 1) (α 9) (α 10) i p)) t)) rfl rfl rfl ?_
        refine zk_aload_n dS_lengthenCopies_40 rfl ?_
        refine zk_get zfS_25 dS_lengthenCopies_41 (v := .inr (some 4)) rfl (by decide) rfl ?_
        refine zk_iload_n dS_lengthenCopies_44 rfl ?_
        refine zk_callV (av := [.inl (i : Int)]) (st := [.inl (α 0 p), .inl (p : Int), .inr (some 20)]) (d' := (1, 21)) (kc' := 0) (ks' := 0) zbS_85 dS_lengthenCopies_45 rfl (by decide) rfl rfl (Nat.le_of_ble_eq_true rfl) ⟨by decide, by decide⟩ rfl rfl (kR_get G sw σ (zk_ua α 10 (mt_bp (α 0) (α 1) (α 9) (α 10) i p)) t (q := 1) (by decide) hn1 ⟨by omega, by omega⟩) (fun v9 h9 q9 => ?_)
        rcases q9 with ⟨rfl, ⟨hc45, rfl⟩ | ⟨hc45, rfl⟩⟩
        · skip
          refine zk_W.to (ls' := [some (.inr (some 18)), some (.inl (i : Int)), some (.inl (mt_ml (mt_bp (α 0) (α 1) (α 9) (α 10) i (σ 0).toNat) p)), some (.inl (min (σ 0) 40)), some (.inl (p : Int))]) (st' := [.inl (α 1 i), .inl (α 0 p), .inl (p : Int), .inr (some 20)]) (h' := (zk_mk G sw σ (zk_ua α 10 (mt_bp (α 0) (α 1) (α 9) (α 10) i p)) t)) rfl rfl rfl ?_
          refine zk_icmp_ne (tgt := 77) dS_lengthenCopies_48 (by decide) ⟨by have := hv0 p; omega, by have := hv0 p; omega⟩ ⟨by have := hv1 i; omega, by have := hv1 i; omega⟩ (fun h48 => ?_) (fun h48 => ?_)
          · skip
            refine zk_ldc (z := 1000000) dS_lengthenCopies_77 zcS_36 ?_
            refine zk_iast dS_lengthenCopies_79 (n := 41) (f := mt_bp (α 0) (α 1) (α 9) (α 10) i p) (h' := (zk_mk G sw σ (zk_ua (zk_ua α 10 (mt_bp (α 0) (α 1) (α 9) (α 10) i p)) 10 (zk_up (mt_bp (α 0) (α 1) (α 9) (α 10) i p) (p : Int).toNat 1000000)) t)) rfl (by decide) (by omega) (by omega) (by omega) rfl ?_
            have hup : zk_rg ((zk_up (mt_bp (α 0) (α 1) (α 9) (α 10) i p) (p : Int).toNat 1000000) ((p : Int)).toNat) := by
              show zk_rg (zk_up _ p _ p)
              unfold zk_up
              rw [if_pos rfl]
              exact ⟨by omega, by omega⟩
            refine zk_iload_n dS_lengthenCopies_80 rfl ?_
            refine zk_aload_n dS_lengthenCopies_81 rfl ?_
            refine zk_get zfS_15 dS_lengthenCopies_82 (v := .inr (some 20)) rfl (by decide) rfl ?_
            refine zk_iload dS_lengthenCopies_85 rfl ?_
            refine zk_iald dS_lengthenCopies_87 (n := 41) (f := zk_up (mt_bp (α 0) (α 1) (α 9) (α 10) i p) (p : Int).toNat 1000000) rfl (by omega) (by omega) (by omega) ?_
            refine zk_mmin dS_lengthenCopies_88 zlS_43 zw_mins zw_mi zw_minc ⟨by decide, Nat.le_of_ble_eq_true rfl⟩ hml hup ?_
            refine zk_istore_n (ls' := [some (.inr (some 18)), some (.inl (i : Int)), some (.inl (min (mt_ml (mt_bp (α 0) (α 1) (α 9) (α 10) i (σ 0).toNat) p) ((zk_up (mt_bp (α 0) (α 1) (α 9) (α 10) i p) (p : Int).toNat 1000000) (p : Int).toNat))), some (.inl (min (σ 0) 40)), some (.inl (p : Int))]) dS_lengthenCopies_91 (by decide) rfl ?_
            refine zk_iinc (ls' := [some (.inr (some 18)), some (.inl (i : Int)), some (.inl (min (mt_ml (mt_bp (α 0) (α 1) (α 9) (α 10) i (σ 0).toNat) p) ((zk_up (mt_bp (α 0) (α 1) (α 9) (α 10) i p) (p : Int).toNat 1000000) (p : Int).toNat))), some (.inl (min (σ 0) 40)), some (.inl ((p : Int) + 1))]) dS_lengthenCopies_92 rfl (by decide) rfl ?_
            refine zk_goto (tgt := 19) dS_lengthenCopies_95 (by decide) ?_
            have ev : 1000000 = mt_nb (α 0) (α 1) (α 9) (α 10) i p := by
              unfold mt_nb
              rw [if_neg h48]
            have em : min (mt_ml (mt_bp (α 0) (α 1) (α 9) (α 10) i (σ 0).toNat) p) ((zk_up (mt_bp (α 0) (α 1) (α 9) (α 10) i p) (p : Int).toNat 1000000) (p : Int).toNat) = mt_ml (mt_bp (α 0) (α 1) (α 9) (α 10) i (σ 0).toNat) (p + 1) := by
              show min (mt_ml (mt_bp (α 0) (α 1) (α 9) (α 10) i (σ 0).toNat) p) _ = min (mt_ml (mt_bp (α 0) (α 1) (α 9) (α 10) i (σ 0).toNat) p) ((mt_bp (α 0) (α 1) (α 9) (α 10) i (σ 0).toNat) p)
              congr 1
              show zk_up _ p _ p = _
              unfold zk_up
              rw [if_pos rfl, ev]
              show _ = if p < (σ 0).toNat then _ else _
              rw [if_pos (by omega)]
            have e2 : (p : Int) + 1 = ((p + 1 : Nat) : Int) := by omega
            rw [em, zk_ua_ua, ev, show ((p : Int)).toNat = p from rfl, mt_bp_up, e2]
            exact ih (p + 1) (by omega) (by omega)
          · skip
            refine zk_aload_n dS_lengthenCopies_51 rfl ?_
            refine zk_iload_n dS_lengthenCopies_52 rfl ?_
            refine zk_iconst dS_lengthenCopies_53 ?_
            refine zk_iadd dS_lengthenCopies_54 ?_
            refine zk_iload dS_lengthenCopies_55 rfl ?_
            refine zk_iconst dS_lengthenCopies_57 ?_
            refine zk_iadd dS_lengthenCopies_58 ?_
            refine zk_callV (av := [.inl ((i : Int) + 1), .inl ((p : Int) + 1)]) (st := [.inl (p : Int), .inr (some 20)]) (d' := (0, 0)) (kc' := 0) (ks' := 0) zbS_66 dS_lengthenCopies_59 rfl (by decide) rfl rfl (Nat.le_of_ble_eq_true rfl) ⟨by decide, by decide⟩ rfl rfl (kS_leastFrom G sw σ (zk_ua α 10 (mt_bp (α 0) (α 1) (α 9) (α 10) i p)) t ⟨by omega, by omega⟩ ⟨by omega, by omega⟩) (fun v9 h9 q9 => ?_)
            obtain ⟨rfl, rfl⟩ := q9
            refine zk_W.to (ls' := [some (.inr (some 18)), some (.inl (i : Int)), some (.inl (mt_ml (mt_bp (α 0) (α 1) (α 9) (α 10) i (σ 0).toNat) p)), some (.inl (min (σ 0) 40)), some (.inl (p : Int))]) (st' := [.inl (α 9 (((i : Int) + 1) * 41 + ((p : Int) + 1)).toNat), .inl (p : Int), .inr (some 20)]) (h' := (zk_mk G sw σ (zk_ua α 10 (mt_bp (α 0) (α 1) (α 9) (α 10) i p)) t)) rfl rfl rfl ?_
            refine zk_aload_n dS_lengthenCopies_62 rfl ?_
            refine zk_get zfS_15 dS_lengthenCopies_63 (v := .inr (some 20)) rfl (by decide) rfl ?_
            refine zk_iload dS_lengthenCopies_66 rfl ?_
            refine zk_iconst dS_lengthenCopies_68 ?_
            refine zk_iadd dS_lengthenCopies_69 ?_
            refine zk_iald dS_lengthenCopies_70 (n := 41) (f := mt_bp (α 0) (α 1) (α 9) (α 10) i p) rfl (by omega) (by omega) (by omega) ?_
            refine zk_mmin dS_lengthenCopies_71 zlS_43 zw_mins zw_mi zw_minc ⟨by decide, Nat.le_of_ble_eq_true rfl⟩ ⟨by have := hq1 (by omega); omega, by have := hq1 (by omega); omega⟩ ⟨by have := hq2 (by omega); omega, by have := hq2 (by omega); omega⟩ ?_
            refine zk_goto (tgt := 79) dS_lengthenCopies_74 (by decide) ?_
            refine zk_iast dS_lengthenCopies_79 (n := 41) (f := mt_bp (α 0) (α 1) (α 9) (α 10) i p) (h' := (zk_mk G sw σ (zk_ua (zk_ua α 10 (mt_bp (α 0) (α 1) (α 9) (α 10) i p)) 10 (zk_up (mt_bp (α 0) (α 1) (α 9) (α 10) i p) (p : Int).toNat (min (α 9 (((i : Int) + 1) * 41 + ((p : Int) + 1)).toNat) ((mt_bp (α 0) (α 1) (α 9) (α 10) i p) ((p : Int) + 1).toNat)))) t)) rfl (by decide) (by omega) (by omega) (by omega) rfl ?_
            have hup : zk_rg ((zk_up (mt_bp (α 0) (α 1) (α 9) (α 10) i p) (p : Int).toNat (min (α 9 (((i : Int) + 1) * 41 + ((p : Int) + 1)).toNat) ((mt_bp (α 0) (α 1) (α 9) (α 10) i p) ((p : Int) + 1).toNat))) ((p : Int)).toNat) := by
              show zk_rg (zk_up _ p _ p)
              unfold zk_up
              rw [if_pos rfl]
              have a1 := hq1 (by omega)
              have a2 := hq2 (by omega)
              exact ⟨by omega, by omega⟩
            refine zk_iload_n dS_lengthenCopies_80 rfl ?_
            refine zk_aload_n dS_lengthenCopies_81 rfl ?_
            refine zk_get zfS_15 dS_lengthenCopies_82 (v := .inr (some 20)) rfl (by decide) rfl ?_
            refine zk_iload dS_lengthenCopies_85 rfl ?_
            refine zk_iald dS_lengthenCopies_87 (n := 41) (f := zk_up (mt_bp (α 0) (α 1) (α 9) (α 10) i p) (p : Int).toNat (min (α 9 (((i : Int) + 1) * 41 + ((p : Int) + 1)).toNat) ((mt_bp (α 0) (α 1) (α 9) (α 10) i p) ((p : Int) + 1).toNat))) rfl (by omega) (by omega) (by omega) ?_
            refine zk_mmin dS_lengthenCopies_88 zlS_43 zw_mins zw_mi zw_minc ⟨by decide, Nat.le_of_ble_eq_true rfl⟩ hml hup ?_
            refine zk_istore_n (ls' := [some (.inr (some 18)), some (.inl (i : Int)), some (.inl (min (mt_ml (mt_bp (α 0) (α 1) (α 9) (α 10) i (σ 0).toNat) p) ((zk_up (mt_bp (α 0) (α 1) (α 9) (α 10) i p) (p : Int).toNat (min (α 9 (((i : Int) + 1) * 41 + ((p : Int) + 1)).toNat) ((mt_bp (α 0) (α 1) (α 9) (α 10) i p) ((p : Int) + 1).toNat))) (p : Int).toNat))), some (.inl (min (σ 0) 40)), some (.inl (p : Int))]) dS_lengthenCopies_91 (by decide) rfl ?_
            refine zk_iinc (ls' := [some (.inr (some 18)), some (.inl (i : Int)), some (.inl (min (mt_ml (mt_bp (α 0) (α 1) (α 9) (α 10) i (σ 0).toNat) p) ((zk_up (mt_bp (α 0) (α 1) (α 9) (α 10) i p) (p : Int).toNat (min (α 9 (((i : Int) + 1) * 41 + ((p : Int) + 1)).toNat) ((mt_bp (α 0) (α 1) (α 9) (α 10) i p) ((p : Int) + 1).toNat))) (p : Int).toNat))), some (.inl (min (σ 0) 40)), some (.inl ((p : Int) + 1))]) dS_lengthenCopies_92 rfl (by decide) rfl ?_
            refine zk_goto (tgt := 19) dS_lengthenCopies_95 (by decide) ?_
            have ev : (min (α 9 (((i : Int) + 1) * 41 + ((p : Int) + 1)).toNat) ((mt_bp (α 0) (α 1) (α 9) (α 10) i p) ((p : Int) + 1).toNat)) = mt_nb (α 0) (α 1) (α 9) (α 10) i p := by
              unfold mt_nb
              rw [if_pos h48, ei, eb]
              rfl
            have em : min (mt_ml (mt_bp (α 0) (α 1) (α 9) (α 10) i (σ 0).toNat) p) ((zk_up (mt_bp (α 0) (α 1) (α 9) (α 10) i p) (p : Int).toNat (min (α 9 (((i : Int) + 1) * 41 + ((p : Int) + 1)).toNat) ((mt_bp (α 0) (α 1) (α 9) (α 10) i p) ((p : Int) + 1).toNat))) (p : Int).toNat) = mt_ml (mt_bp (α 0) (α 1) (α 9) (α 10) i (σ 0).toNat) (p + 1) := by
              show min (mt_ml (mt_bp (α 0) (α 1) (α 9) (α 10) i (σ 0).toNat) p) _ = min (mt_ml (mt_bp (α 0) (α 1) (α 9) (α 10) i (σ 0).toNat) p) ((mt_bp (α 0) (α 1) (α 9) (α 10) i (σ 0).toNat) p)
              congr 1
              show zk_up _ p _ p = _
              unfold zk_up
              rw [if_pos rfl, ev]
              show _ = if p < (σ 0).toNat then _ else _
              rw [if_pos (by omega)]
            have e2 : (p : Int) + 1 = ((p + 1 : Nat) : Int) := by omega
            rw [em, zk_ua_ua, ev, show ((p : Int)).toNat = p from rfl, mt_bp_up, e2]
            exact ih (p + 1) (by omega) (by omega)
        · skip
          exact absurd (⟨by omega, by omega⟩ : 0 ≤ (i : Int) ∧ (i : Int) < σ 1) hc45
      · skip
        exact absurd (⟨by omega, by omega⟩ : 0 ≤ (p : Int) ∧ (p : Int) < σ 0) hc37

set_option maxRecDepth 100000 in
set_option maxHeartbeats 4000000 in
theorem kS_lengthenCopies (G : zk_G) (sw : Bool) (σ : Nat → Int) (α : Nat → Nat → Int) (t : zk_H) (hn0 : 0 ≤ σ 0 ∧ σ 0 ≤ (zr_N 0 : Int)) (hn1 : 0 ≤ σ 1 ∧ σ 1 ≤ (zr_N 1 : Int)) (hv0 : ∀ j, 0 ≤ α 0 j ∧ α 0 j ≤ 255) (hv1 : ∀ j, 0 ≤ α 1 j ∧ α 1 j ≤ 255) {i : Nat} (hi : (i : Int) < σ 1) (hL : ∀ s, s ≤ (σ 0).toNat → 0 ≤ mt_tb (α 9) (i + 1) s ∧ mt_tb (α 9) (i + 1) s ≤ 4100) (hb : ∀ p, p ≤ (σ 0).toNat → 0 ≤ α 10 p ∧ α 10 p ≤ 1000000) : zk_K G mS_lengthenCopies (2, 42) 0 0 [.inr (some 18), .inl (i : Int)] (zk_mk G sw σ α t) (fun v h' => h' = zk_mk G sw σ (zk_ua α 10 (mt_bp (α 0) (α 1) (α 9) (α 10) i (σ 0).toNat)) t ∧ v = some (.inl (mt_ml (mt_bp (α 0) (α 1) (α 9) (α 10) i (σ 0).toNat) (σ 0).toNat))) := by
  have eN0 : (zr_N 0 : Int) = 40 := rfl
  have eN1 : (zr_N 1 : Int) = 40 := rfl
  refine zk_K.of (ls := [some (.inr (some 18)), some (.inl (i : Int)), none, none, none]) (by decide +kernel) (Nat.le_of_ble_eq_true rfl) rfl ?_
  refine zk_ldc (z := 1000000) dS_lengthenCopies_0 zcS_36 ?_
  refine zk_istore_n (ls' := [some (.inr (some 18)), some (.inl (i : Int)), some (.inl 1000000), none, none]) dS_lengthenCopies_2 (by decide) rfl ?_
  refine zk_aload_n dS_lengthenCopies_3 rfl ?_
  refine zk_get zfS_21 dS_lengthenCopies_4 (v := .inr (some 2)) rfl (by decide) rfl ?_
  refine zk_callV (av := []) (st := []) (d' := (0, 0)) (kc' := 0) (ks' := 0) zbS_37 dS_lengthenCopies_7 rfl (by decide) rfl rfl (Nat.le_of_ble_eq_true rfl) ⟨by decide, by decide⟩ rfl rfl (kR_length G sw σ α t (q := 0) (by decide)) (fun v9 h9 q9 => ?_)
  obtain ⟨rfl, rfl⟩ := q9
  refine zk_W.to (ls' := [some (.inr (some 18)), some (.inl (i : Int)), some (.inl 1000000), none, none]) (st' := [.inl (σ 0)]) (h' := (zk_mk G sw σ α t)) rfl rfl rfl ?_
  refine zk_bipush dS_lengthenCopies_10 (by decide) ?_
  refine zk_mmin dS_lengthenCopies_12 zlS_43 zw_mins zw_mi zw_minc ⟨by decide, Nat.le_of_ble_eq_true rfl⟩ ⟨by omega, by omega⟩ ⟨by decide, by decide⟩ ?_
  refine zk_istore_n (ls' := [some (.inr (some 18)), some (.inl (i : Int)), some (.inl 1000000), some (.inl (min (σ 0) 40)), none]) dS_lengthenCopies_15 (by decide) rfl ?_
  refine zk_iconst dS_lengthenCopies_16 ?_
  refine zk_istore (ls' := [some (.inr (some 18)), some (.inl (i : Int)), some (.inl 1000000), some (.inl (min (σ 0) 40)), some (.inl 0)]) dS_lengthenCopies_17 (by decide) rfl ?_
  have e := wS_lengthenCopies G sw σ α t hn0 hn1 hv0 hv1 hi hL hb ((σ 0).toNat + 1) 0 (Nat.zero_le _) (by omega)
  rw [mt_bp_0, zk_ua_self] at e
  exact e
end
section
theorem zk_W.drop (i : Nat) {G : zk_G} {M : zk_M} {d : Nat × Nat} {kc ks pc : Nat} {ls ls' : List (Option zk_V)} {st : List zk_V} {h : zk_H} {Q : Option zk_V → zk_H → Prop} (e1 : ls.set i none = ls') (w : zk_W G M d kc ks pc ls' st h Q) : zk_W G M d kc ks pc ls st h Q := by
  intro p e R s m args below meth c X H locs cells slots mc ms lsr Qs hP hS h1 h2 h3 h4 hL hE
  refine w p e R s m args below meth c X H locs cells slots mc ms lsr Qs hP hS h1 h2 h3 h4 ⟨hL.1, hL.2.1, fun k v hk => hL.2.2 k v ?_⟩ hE
  rw [← e1] at hk
  by_cases hki : i = k
  · subst hki
    have hl : i < ls.length := by
      have := (List.getElem?_eq_some_iff.mp hk).1
      simpa using this
    rw [List.getElem?_set_self hl] at hk
    cases hk
  · rw [List.getElem?_set_ne hki] at hk
    exact hk
/-- the table is known -/
def zs_T (σ : Nat → Int) (α : Nat → Nat → Int) : Prop := mt_rest (α 0) (σ 0).toNat (α 1) (σ 1).toNat (zs_c σ) (mt_tb (α 9)) ∧ ∀ i s, i ≤ (σ 1).toNat → s ≤ (σ 0).toNat → 0 ≤ mt_tb (α 9) i s ∧ mt_tb (α 9) i s ≤ 4100
def zs_b (σ : Nat → Int) (α : Nat → Nat → Int) (i : Nat) : Nat → Int := mt_bp (α 0) (α 1) (α 9) (α 10) i (σ 0).toNat
def zs_g (σ : Nat → Int) (α : Nat → Nat → Int) (i : Nat) : Nat → Int := mt_bs (α 0) (σ 0).toNat (α 1) (σ 1).toNat (zs_c σ) (α 9) (α 10) (α 11) i
def zs_al (σ : Nat → Int) (α : Nat → Nat → Int) (i s : Nat) : Nat → Nat → Int := zk_ua (zk_ua (zk_ua α 10 (zs_b σ α i)) 11 (mt_es (zs_c σ) (α 9) (α 11) i s)) 9 (mt_fs (zs_g σ α i) (α 9) i s)
theorem zs_al_up (σ : Nat → Int) (α : Nat → Nat → Int) (i s : Nat) : zk_ua (zk_ua (zs_al σ α i s) 11 (mt_es (zs_c σ) (α 9) (α 11) i (s + 1))) 9 (mt_fs (zs_g σ α i) (α 9) i (s + 1)) = zs_al σ α i (s + 1) := by
  funext j
  unfold zs_al zk_ua
  (repeat' split) <;> first | rfl | (exfalso; omega)
theorem zs_al_0 (σ : Nat → Int) (α : Nat → Nat → Int) (i : Nat) : zs_al σ α i 0 = zk_ua α 10 (zs_b σ α i) := by
  funext j
  unfold zs_al zk_ua
  rw [mt_es_0, mt_fs_0]
  by_cases h9 : j = 9
  · rw [if_pos h9, h9, if_neg (by decide)]
  · rw [if_neg h9]
    by_cases h11 : j = 11
    · rw [if_pos h11, h11, if_neg (by decide)]
    · rw [if_neg h11]

set_option maxRecDepth 100000 in
set_option maxHeartbeats 4000000 in
theorem wS_workOutPlace (G : zk_G) (sw : Bool) (σ : Nat → Int) (α : Nat → Nat → Int) (t : zk_H) (hn0 : 0 ≤ σ 0 ∧ σ 0 ≤ (zr_N 0 : Int)) (hn1 : 0 ≤ σ 1 ∧ σ 1 ≤ (zr_N 1 : Int)) (hv0 : ∀ j, 0 ≤ α 0 j ∧ α 0 j ≤ 255) (hv1 : ∀ j, 0 ≤ α 1 j ∧ α 1 j ≤ 255) (hc : ∀ j, j < 5 → 0 ≤ zs_c σ j ∧ zs_c σ j ≤ 100) {i : Nat} (hi : (i : Int) < σ 1) (hL : ∀ i' s, i < i' → i' ≤ (σ 1).toNat → s ≤ (σ 0).toNat → 0 ≤ mt_tb (α 9) i' s ∧ mt_tb (α 9) i' s ≤ 4100) (hb : ∀ p, p ≤ (σ 0).toNat → 0 ≤ α 10 p ∧ α 10 p ≤ 1000000) (he : ∀ s, s ≤ (σ 0).toNat → 0 ≤ α 11 s ∧ α 11 s ≤ 1000000) : ∀ (k : Nat) (s : Nat), (s ≤ (σ 0).toNat + 1) → ((σ 0).toNat + 1 < s + k) → zk_W G mS_workOutPlace (3, 69) 0 0 29 [some (.inr (some 18)), some (.inl (i : Int)), some (.inl (mt_ml (zs_b σ α i) (σ 0).toNat)), some (.inl ((mt_la (α 1) (σ 1).toNat i i : Int))), some (.inl (min (σ 0) 40)), some (.inl (s : Int)), none] [] (zk_mk G sw σ (zs_al σ α i s) t) (fun v h' => v = none ∧ h' = zk_mk G sw σ (zs_al σ α i ((σ 0).toNat + 1)) t) := by
  intro k
  induction k with
  | zero =>
    intro s g1 g2
    exfalso
    omega
  | succ k ih =>
    intro s g1 g2
    have eN0 : (zr_N 0 : Int) = 40 := rfl
    have eN1 : (zr_N 1 : Int) = 40 := rfl
    have c0 : 0 ≤ σ 5 ∧ σ 5 ≤ 100 := hc 0 (by decide)
    have c1 : 0 ≤ σ 6 ∧ σ 6 ≤ 100 := hc 1 (by decide)
    have c2 : 0 ≤ σ 7 ∧ σ 7 ≤ 100 := hc 2 (by decide)
    have c3 : 0 ≤ σ 8 ∧ σ 8 ≤ 100 := hc 3 (by decide)
    have c4 : 0 ≤ σ 9 ∧ σ 9 ≤ 100 := hc 4 (by decide)
    have eX : (mt_fs (zs_g σ α i) (α 9) i s) (((i : Int) + 1) * 41 + (s : Int)).toNat = mt_tb (α 9) (i + 1) s := by
      rw [show (((i : Int) + 1) * 41 + (s : Int)).toNat = 41 * (i + 1) + s by omega]
      exact mt_fs_tb (i := i) (i' := i + 1) (s' := s) (by omega) (by omega)
    have eY : (mt_es (zs_c σ) (α 9) (α 11) i s) ((s : Int)).toNat = α 11 s := by
      show (if s < s then _ else _) = _
      rw [if_neg (Nat.lt_irrefl s)]
      rfl
    have eE : (mt_es (zs_c σ) (α 9) (α 11) i (s + 1)) ((s : Int)).toNat = mt_ne (zs_c σ) (α 9) (α 11) i s := by
      show (if s < s + 1 then _ else _) = _
      rw [if_pos (Nat.lt_succ_self s)]
      rfl
    have fX : 0 ≤ (mt_fs (zs_g σ α i) (α 9) i s) (((i : Int) + 1) * 41 + (s : Int)).toNat ∧ (mt_fs (zs_g σ α i) (α 9) i s) (((i : Int) + 1) * 41 + (s : Int)).toNat ≤ 4100 ∨ (σ 0).toNat < s := by
      by_cases hx : s ≤ (σ 0).toNat
      · rw [eX]; exact Or.inl (hL (i + 1) s (by omega) (by omega) hx)
      · exact Or.inr (by omega)
    have fY : 0 ≤ (mt_es (zs_c σ) (α 9) (α 11) i s) ((s : Int)).toNat ∧ (mt_es (zs_c σ) (α 9) (α 11) i s) ((s : Int)).toNat ≤ 1000000 ∨ (σ 0).toNat < s := by
      by_cases hx : s ≤ (σ 0).toNat
      · rw [eY]; exact Or.inl (he s hx)
      · exact Or.inr (by omega)
    have fE : 0 ≤ (mt_es (zs_c σ) (α 9) (α 11) i (s + 1)) ((s : Int)).toNat ∧ (mt_es (zs_c σ) (α 9) (α 11) i (s + 1)) ((s : Int)).toNat ≤ 4200 ∨ (σ 0).toNat < s := by
      by_cases hx : s ≤ (σ 0).toNat
      · rw [eE]
        have a1 := hL (i + 1) s (by omega) (by omega) hx
        have a2 := he s hx
        show 0 ≤ σ 9 + min _ _ ∧ σ 9 + min _ _ ≤ 4200 ∨ _
        exact Or.inl (by omega)
      · exact Or.inr (by omega)
    have nbr : ∀ p, p ≤ (σ 0).toNat → 0 ≤ (zs_b σ α i) p ∧ (zs_b σ α i) p ≤ 1000000 := by
      intro p hp
      show 0 ≤ (if p < (σ 0).toNat then mt_nb (α 0) (α 1) (α 9) (α 10) i p else α 10 p) ∧ (if p < (σ 0).toNat then mt_nb (α 0) (α 1) (α 9) (α 10) i p else α 10 p) ≤ 1000000
      split
      next hx =>
        have a1 := hL (i + 1) (p + 1) (by omega) (by omega) (by omega)
        have a2 := hb (p + 1) (by omega)
        unfold mt_nb
        split
        · omega
        · omega
      next hx => exact hb p hp
    have fB : 0 ≤ (zs_b σ α i) ((s : Int)).toNat ∧ (zs_b σ α i) ((s : Int)).toNat ≤ 1000000 ∨ (σ 0).toNat < s := by
      by_cases hx : s ≤ (σ 0).toNat
      · exact Or.inl (nbr s hx)
      · exact Or.inr (by omega)
    have fel : 0 ≤ mt_ml (zs_b σ α i) (σ 0).toNat ∧ mt_ml (zs_b σ α i) (σ 0).toNat ≤ 1000000 := by
      rcases mt_ml_ex (g := zs_b σ α i) (m := (σ 0).toNat) with g | ⟨p', g3, g4⟩
      · omega
      · have := nbr p' (by omega)
        omega
    have hla := mt_la_le (N := α 1) (nN := (σ 1).toNat) (i := i) (q := i)
    have fls : 0 ≤ mt_ls (α 9) i s (mt_la (α 1) (σ 1).toNat i i) ∧ mt_ls (α 9) i s (mt_la (α 1) (σ 1).toNat i i) ≤ 1000000 ∨ (σ 0).toNat < s := by
      by_cases hx : s ≤ (σ 0).toNat
      · exact Or.inl (mt_ls_rg (B := 4100) (by omega) (fun n a b => hL (i + n) s (by omega) (by omega) hx))
      · exact Or.inr (by omega)
    refine zk_iload dS_workOutPlace_29 rfl ?_
    refine zk_iload dS_workOutPlace_31 rfl ?_
    refine zk_icmp_gt (tgt := 176) dS_workOutPlace_33 (by decide) ⟨by omega, by omega⟩ ⟨by omega, by omega⟩ (fun h33 => ?_) (fun h33 => ?_)
    · skip
      have en : s = (σ 0).toNat + 1 := by omega
      subst en
      exact zk_ret dS_workOutPlace_176 rfl ⟨rfl, rfl⟩
    · skip
      refine zk_aload_n dS_workOutPlace_36 rfl ?_
      refine zk_get zfS_18 dS_workOutPlace_37 (v := .inr (some 21)) rfl (by decide) rfl ?_
      refine zk_iload dS_workOutPlace_40 rfl ?_
      refine zk_aload_n dS_workOutPlace_42 rfl ?_
      refine zk_get zfS_28 dS_workOutPlace_43 (v := .inr (some 10)) rfl (by decide) rfl ?_
      refine zk_get zfS_60 dS_workOutPlace_46 (v := .inl (σ 9)) rfl (by decide) rfl ?_
      refine zk_aload_n dS_workOutPlace_49 rfl ?_
      refine zk_iload_n dS_workOutPlace_50 rfl ?_
      refine zk_iconst dS_workOutPlace_51 ?_
      refine zk_iadd dS_workOutPlace_52 ?_
      refine zk_iload dS_workOutPlace_53 rfl ?_
      refine zk_callV (av := [.inl ((i : Int) + 1), .inl (s : Int)]) (st := [.inl (σ 9), .inl (s : Int), .inr (some 21)]) (d' := (0, 0)) (kc' := 0) (ks' := 0) zbS_66 dS_workOutPlace_55 rfl (by decide) rfl rfl (Nat.le_of_ble_eq_true rfl) ⟨by decide, by decide⟩ rfl rfl (kS_leastFrom G sw σ (zs_al σ α i s) t ⟨by omega, by omega⟩ ⟨by omega, by omega⟩) (fun v9 h9 q9 => ?_)
      obtain ⟨rfl, rfl⟩ := q9
      refine zk_W.to (ls' := [some (.inr (some 18)), some (.inl (i : Int)), some (.inl (mt_ml (zs_b σ α i) (σ 0).toNat)), some (.inl ((mt_la (α 1) (σ 1).toNat i i : Int))), some (.inl (min (σ 0) 40)), some (.inl (s : Int)), none]) (st' := [.inl ((mt_fs (zs_g σ α i) (α 9) i s) (((i : Int) + 1) * 41 + (s : Int)).toNat), .inl (σ 9), .inl (s : Int), .inr (some 21)]) (h' := (zk_mk G sw σ (zs_al σ α i s) t)) rfl rfl rfl ?_
      refine zk_aload_n dS_workOutPlace_58 rfl ?_
      refine zk_get zfS_18 dS_workOutPlace_59 (v := .inr (some 21)) rfl (by decide) rfl ?_
      refine zk_iload dS_workOutPlace_62 rfl ?_
      refine zk_iald dS_workOutPlace_64 (n := 41) (f := mt_es (zs_c σ) (α 9) (α 11) i s) rfl (by omega) (by omega) (by omega) ?_
      refine zk_mmin dS_workOutPlace_65 zlS_43 zw_mins zw_mi zw_minc ⟨by decide, Nat.le_of_ble_eq_true rfl⟩ ⟨by omega, by omega⟩ ⟨by omega, by omega⟩ ?_
      refine zk_iadd dS_workOutPlace_68 ?_
      refine zk_iast dS_workOutPlace_69 (n := 41) (f := mt_es (zs_c σ) (α 9) (α 11) i s) (h' := (zk_mk G sw σ (zk_ua (zs_al σ α i s) 11 (zk_up (mt_es (zs_c σ) (α 9) (α 11) i s) (s : Int).toNat ((σ 9) + (min ((mt_fs (zs_g σ α i) (α 9) i s) (((i : Int) + 1) * 41 + (s : Int)).toNat) ((mt_es (zs_c σ) (α 9) (α 11) i s) (s : Int).toNat))))) t)) rfl (by decide) (by omega) (by omega) (by omega) rfl ?_
      have ev : ((σ 9) + (min ((mt_fs (zs_g σ α i) (α 9) i s) (((i : Int) + 1) * 41 + (s : Int)).toNat) ((mt_es (zs_c σ) (α 9) (α 11) i s) (s : Int).toNat))) = mt_ne (zs_c σ) (α 9) (α 11) i s := by
        rw [eX, eY]
        rfl
      rw [ev, show ((s : Int)).toNat = s from rfl, mt_es_up]
      refine zk_aload_n dS_workOutPlace_70 rfl ?_
      refine zk_get zfS_28 dS_workOutPlace_71 (v := .inr (some 10)) rfl (by decide) rfl ?_
      refine zk_get zfS_69 dS_workOutPlace_74 (v := .inl (σ 8)) rfl (by decide) rfl ?_
      refine zk_aload_n dS_workOutPlace_77 rfl ?_
      refine zk_get zfS_18 dS_workOutPlace_78 (v := .inr (some 21)) rfl (by decide) rfl ?_
      refine zk_iload dS_workOutPlace_81 rfl ?_
      refine zk_iald dS_workOutPlace_83 (n := 41) (f := mt_es (zs_c σ) (α 9) (α 11) i (s + 1)) rfl (by omega) (by omega) (by omega) ?_
      refine zk_iadd dS_workOutPlace_84 ?_
      refine zk_istore (ls' := [some (.inr (some 18)), some (.inl (i : Int)), some (.inl (mt_ml (zs_b σ α i) (σ 0).toNat)), some (.inl ((mt_la (α 1) (σ 1).toNat i i : Int))), some (.inl (min (σ 0) 40)), some (.inl (s : Int)), some (.inl ((σ 8) + ((mt_es (zs_c σ) (α 9) (α 11) i (s + 1)) (s : Int).toNat)))]) dS_workOutPlace_85 (by decide) rfl ?_
      refine zk_iload dS_workOutPlace_87 rfl ?_
      refine zk_aload_n dS_workOutPlace_89 rfl ?_
      refine zk_get zfS_28 dS_workOutPlace_90 (v := .inr (some 10)) rfl (by decide) rfl ?_
      refine zk_get zfS_72 dS_workOutPlace_93 (v := .inl (σ 5)) rfl (by decide) rfl ?_
      refine zk_aload_n dS_workOutPlace_96 rfl ?_
      refine zk_get zfS_15 dS_workOutPlace_97 (v := .inr (some 20)) rfl (by decide) rfl ?_
      refine zk_iload dS_workOutPlace_100 rfl ?_
      refine zk_iald dS_workOutPlace_102 (n := 41) (f := zs_b σ α i) rfl (by omega) (by omega) (by omega) ?_
      refine zk_iadd dS_workOutPlace_103 ?_
      refine zk_mmin dS_workOutPlace_104 zlS_43 zw_mins zw_mi zw_minc ⟨by decide, Nat.le_of_ble_eq_true rfl⟩ ⟨by omega, by omega⟩ ⟨by omega, by omega⟩ ?_
      refine zk_istore (ls' := [some (.inr (some 18)), some (.inl (i : Int)), some (.inl (mt_ml (zs_b σ α i) (σ 0).toNat)), some (.inl ((mt_la (α 1) (σ 1).toNat i i : Int))), some (.inl (min (σ 0) 40)), some (.inl (s : Int)), some (.inl (min ((σ 8) + ((mt_es (zs_c σ) (α 9) (α 11) i (s + 1)) (s : Int).toNat)) ((σ 5) + ((zs_b σ α i) (s : Int).toNat))))]) dS_workOutPlace_107 (by decide) rfl ?_
      refine zk_iload dS_workOutPlace_109 rfl ?_
      refine zk_aload_n dS_workOutPlace_111 rfl ?_
      refine zk_get zfS_28 dS_workOutPlace_112 (v := .inr (some 10)) rfl (by decide) rfl ?_
      refine zk_get zfS_72 dS_workOutPlace_115 (v := .inl (σ 5)) rfl (by decide) rfl ?_
      refine zk_aload_n dS_workOutPlace_118 rfl ?_
      refine zk_get zfS_28 dS_workOutPlace_119 (v := .inr (some 10)) rfl (by decide) rfl ?_
      refine zk_get zfS_75 dS_workOutPlace_122 (v := .inl (σ 6)) rfl (by decide) rfl ?_
      refine zk_iadd dS_workOutPlace_125 ?_
      refine zk_iload_n dS_workOutPlace_126 rfl ?_
      refine zk_iadd dS_workOutPlace_127 ?_
      refine zk_mmin dS_workOutPlace_128 zlS_43 zw_mins zw_mi zw_minc ⟨by decide, Nat.le_of_ble_eq_true rfl⟩ ⟨by omega, by omega⟩ ⟨by omega, by omega⟩ ?_
      refine zk_istore (ls' := [some (.inr (some 18)), some (.inl (i : Int)), some (.inl (mt_ml (zs_b σ α i) (σ 0).toNat)), some (.inl ((mt_la (α 1) (σ 1).toNat i i : Int))), some (.inl (min (σ 0) 40)), some (.inl (s : Int)), some (.inl (min (min ((σ 8) + ((mt_es (zs_c σ) (α 9) (α 11) i (s + 1)) (s : Int).toNat)) ((σ 5) + ((zs_b σ α i) (s : Int).toNat))) (((σ 5) + (σ 6)) + (mt_ml (zs_b σ α i) (σ 0).toNat))))]) dS_workOutPlace_131 (by decide) rfl ?_
      refine zk_iload dS_workOutPlace_133 rfl ?_
      refine zk_aload_n dS_workOutPlace_135 rfl ?_
      refine zk_get zfS_28 dS_workOutPlace_136 (v := .inr (some 10)) rfl (by decide) rfl ?_
      refine zk_get zfS_78 dS_workOutPlace_139 (v := .inl (σ 7)) rfl (by decide) rfl ?_
      refine zk_aload_n dS_workOutPlace_142 rfl ?_
      refine zk_iload_n dS_workOutPlace_143 rfl ?_
      refine zk_iload dS_workOutPlace_144 rfl ?_
      refine zk_iload_n dS_workOutPlace_146 rfl ?_
      refine zk_callV (av := [.inl (i : Int), .inl (s : Int), .inl ((mt_la (α 1) (σ 1).toNat i i : Int))]) (st := [.inl (σ 7), .inl (min (min ((σ 8) + ((mt_es (zs_c σ) (α 9) (α 11) i (s + 1)) (s : Int).toNat)) ((σ 5) + ((zs_b σ α i) (s : Int).toNat))) (((σ 5) + (σ 6)) + (mt_ml (zs_b σ α i) (σ 0).toNat)))]) (d' := (1, 23)) (kc' := 0) (ks' := 0) zbS_81 dS_workOutPlace_147 rfl (by decide) rfl rfl (Nat.le_of_ble_eq_true rfl) ⟨by decide, by decide⟩ rfl rfl (kS_leastBehindSelf G sw σ (zk_ua (zs_al σ α i s) 11 (mt_es (zs_c σ) (α 9) (α 11) i (s + 1))) t (i := i) (s := s) (m := mt_la (α 1) (σ 1).toNat i i) (by omega) (by omega) (fun n a b => by show 0 ≤ mt_tb (mt_fs (zs_g σ α i) (α 9) i s) (i + n) s ∧ mt_tb (mt_fs (zs_g σ α i) (α 9) i s) (i + n) s ≤ 4100; rw [mt_fs_tb (by omega) (by omega)]; exact hL (i + n) s (by omega) (by omega) (by omega))) (fun v9 h9 q9 => ?_)
      obtain ⟨rfl, hv9⟩ := q9
      subst hv9
      have els : mt_ls (mt_fs (zs_g σ α i) (α 9) i s) i s (mt_la (α 1) (σ 1).toNat i i) = mt_ls (α 9) i s (mt_la (α 1) (σ 1).toNat i i) := mt_ls_congr (fun n a b => mt_fs_tb (by omega) (by omega))
      refine zk_W.to (ls' := [some (.inr (some 18)), some (.inl (i : Int)), some (.inl (mt_ml (zs_b σ α i) (σ 0).toNat)), some (.inl ((mt_la (α 1) (σ 1).toNat i i : Int))), some (.inl (min (σ 0) 40)), some (.inl (s : Int)), some (.inl (min (min ((σ 8) + ((mt_es (zs_c σ) (α 9) (α 11) i (s + 1)) (s : Int).toNat)) ((σ 5) + ((zs_b σ α i) (s : Int).toNat))) (((σ 5) + (σ 6)) + (mt_ml (zs_b σ α i) (σ 0).toNat))))]) (st' := [.inl (mt_ls (mt_fs (zs_g σ α i) (α 9) i s) i s (mt_la (α 1) (σ 1).toNat i i)), .inl (σ 7), .inl (min (min ((σ 8) + ((mt_es (zs_c σ) (α 9) (α 11) i (s + 1)) (s : Int).toNat)) ((σ 5) + ((zs_b σ α i) (s : Int).toNat))) (((σ 5) + (σ 6)) + (mt_ml (zs_b σ α i) (σ 0).toNat)))]) (h' := (zk_mk G sw σ (zk_ua (zs_al σ α i s) 11 (mt_es (zs_c σ) (α 9) (α 11) i (s + 1))) t)) rfl rfl rfl ?_
      rw [els]
      refine zk_W.to (ls' := [some (.inr (some 18)), some (.inl (i : Int)), some (.inl (mt_ml (zs_b σ α i) (σ 0).toNat)), some (.inl ((mt_la (α 1) (σ 1).toNat i i : Int))), some (.inl (min (σ 0) 40)), some (.inl (s : Int)), some (.inl (min (min ((σ 8) + ((mt_es (zs_c σ) (α 9) (α 11) i (s + 1)) (s : Int).toNat)) ((σ 5) + ((zs_b σ α i) (s : Int).toNat))) (((σ 5) + (σ 6)) + (mt_ml (zs_b σ α i) (σ 0).toNat))))]) (st' := [.inl (mt_ls (α 9) i s (mt_la (α 1) (σ 1).toNat i i)), .inl (σ 7), .inl (min (min ((σ 8) + ((mt_es (zs_c σ) (α 9) (α 11) i (s + 1)) (s : Int).toNat)) ((σ 5) + ((zs_b σ α i) (s : Int).toNat))) (((σ 5) + (σ 6)) + (mt_ml (zs_b σ α i) (σ 0).toNat)))]) (h' := (zk_mk G sw σ (zk_ua (zs_al σ α i s) 11 (mt_es (zs_c σ) (α 9) (α 11) i (s + 1))) t)) rfl rfl rfl ?_
      refine zk_iadd dS_workOutPlace_150 ?_
      refine zk_mmin dS_workOutPlace_151 zlS_43 zw_mins zw_mi zw_minc ⟨by decide, Nat.le_of_ble_eq_true rfl⟩ ⟨by omega, by omega⟩ ⟨by omega, by omega⟩ ?_
      refine zk_istore (ls' := [some (.inr (some 18)), some (.inl (i : Int)), some (.inl (mt_ml (zs_b σ α i) (σ 0).toNat)), some (.inl ((mt_la (α 1) (σ 1).toNat i i : Int))), some (.inl (min (σ 0) 40)), some (.inl (s : Int)), some (.inl (min (min (min ((σ 8) + ((mt_es (zs_c σ) (α 9) (α 11) i (s + 1)) (s : Int).toNat)) ((σ 5) + ((zs_b σ α i) (s : Int).toNat))) (((σ 5) + (σ 6)) + (mt_ml (zs_b σ α i) (σ 0).toNat))) ((σ 7) + (mt_ls (α 9) i s (mt_la (α 1) (σ 1).toNat i i)))))]) dS_workOutPlace_154 (by decide) rfl ?_
      refine zk_aload_n dS_workOutPlace_156 rfl ?_
      refine zk_get zfS_11 dS_workOutPlace_157 (v := .inr (some 19)) rfl (by decide) rfl ?_
      refine zk_iload_n dS_workOutPlace_160 rfl ?_
      refine zk_bipush dS_workOutPlace_161 (by decide) ?_
      refine zk_imul dS_workOutPlace_163 ?_
      refine zk_iload dS_workOutPlace_164 rfl ?_
      refine zk_iadd dS_workOutPlace_166 ?_
      refine zk_iload dS_workOutPlace_167 rfl ?_
      refine zk_iast dS_workOutPlace_169 (n := 1681) (f := mt_fs (zs_g σ α i) (α 9) i s) (h' := (zk_mk G sw σ (zk_ua (zk_ua (zs_al σ α i s) 11 (mt_es (zs_c σ) (α 9) (α 11) i (s + 1))) 9 (zk_up (mt_fs (zs_g σ α i) (α 9) i s) (((i : Int) * 41) + (s : Int)).toNat (min (min (min ((σ 8) + ((mt_es (zs_c σ) (α 9) (α 11) i (s + 1)) (s : Int).toNat)) ((σ 5) + ((zs_b σ α i) (s : Int).toNat))) (((σ 5) + (σ 6)) + (mt_ml (zs_b σ α i) (σ 0).toNat))) ((σ 7) + (mt_ls (α 9) i s (mt_la (α 1) (σ 1).toNat i i)))))) t)) rfl (by decide) (by omega) (by omega) (by omega) rfl ?_
      refine zk_iinc (ls' := [some (.inr (some 18)), some (.inl (i : Int)), some (.inl (mt_ml (zs_b σ α i) (σ 0).toNat)), some (.inl ((mt_la (α 1) (σ 1).toNat i i : Int))), some (.inl (min (σ 0) 40)), some (.inl ((s : Int) + 1)), some (.inl (min (min (min ((σ 8) + ((mt_es (zs_c σ) (α 9) (α 11) i (s + 1)) (s : Int).toNat)) ((σ 5) + ((zs_b σ α i) (s : Int).toNat))) (((σ 5) + (σ 6)) + (mt_ml (zs_b σ α i) (σ 0).toNat))) ((σ 7) + (mt_ls (α 9) i s (mt_la (α 1) (σ 1).toNat i i)))))]) dS_workOutPlace_170 rfl (by decide) rfl ?_
      refine zk_goto (tgt := 29) dS_workOutPlace_173 (by decide) ?_
      have eg : (min (min (min ((σ 8) + ((mt_es (zs_c σ) (α 9) (α 11) i (s + 1)) (s : Int).toNat)) ((σ 5) + ((zs_b σ α i) (s : Int).toNat))) (((σ 5) + (σ 6)) + (mt_ml (zs_b σ α i) (σ 0).toNat))) ((σ 7) + (mt_ls (α 9) i s (mt_la (α 1) (σ 1).toNat i i)))) = zs_g σ α i s := by
        rw [eE]
        rfl
      have e2 : (s : Int) + 1 = ((s + 1 : Nat) : Int) := by omega
      rw [eg, show ((i : Int) * 41 + (s : Int)).toNat = 41 * i + s by omega, mt_fs_up, zs_al_up, e2]
      refine zk_W.drop 6 rfl ?_
      exact ih (s + 1) (by omega) (by omega)

set_option maxRecDepth 100000 in
set_option maxHeartbeats 4000000 in
theorem kS_workOutPlace (G : zk_G) (sw : Bool) (σ : Nat → Int) (α : Nat → Nat → Int) (t : zk_H) (hn0 : 0 ≤ σ 0 ∧ σ 0 ≤ (zr_N 0 : Int)) (hn1 : 0 ≤ σ 1 ∧ σ 1 ≤ (zr_N 1 : Int)) (hv0 : ∀ j, 0 ≤ α 0 j ∧ α 0 j ≤ 255) (hv1 : ∀ j, 0 ≤ α 1 j ∧ α 1 j ≤ 255) (hc : ∀ j, j < 5 → 0 ≤ zs_c σ j ∧ zs_c σ j ≤ 100) {i : Nat} (hi : (i : Int) < σ 1) (hL : ∀ i' s, i < i' → i' ≤ (σ 1).toNat → s ≤ (σ 0).toNat → 0 ≤ mt_tb (α 9) i' s ∧ mt_tb (α 9) i' s ≤ 4100) (hb : ∀ p, p ≤ (σ 0).toNat → 0 ≤ α 10 p ∧ α 10 p ≤ 1000000) (he : ∀ s, s ≤ (σ 0).toNat → 0 ≤ α 11 s ∧ α 11 s ≤ 1000000) : zk_K G mS_workOutPlace (3, 69) 0 0 [.inr (some 18), .inl (i : Int)] (zk_mk G sw σ α t) (fun v h' => v = none ∧ h' = zk_mk G sw σ (zs_al σ α i ((σ 0).toNat + 1)) t) := by
  have eN0 : (zr_N 0 : Int) = 40 := rfl
  have eN1 : (zr_N 1 : Int) = 40 := rfl
  refine zk_K.of (ls := [some (.inr (some 18)), some (.inl (i : Int)), none, none, none, none, none]) (by decide +kernel) (Nat.le_of_ble_eq_true rfl) rfl ?_
  refine zk_aload_n dS_workOutPlace_0 rfl ?_
  refine zk_iload_n dS_workOutPlace_1 rfl ?_
  refine zk_callV (av := [.inl (i : Int)]) (st := []) (d' := (2, 42)) (kc' := 0) (ks' := 0) zbS_53 dS_workOutPlace_2 rfl (by decide) rfl rfl (Nat.le_of_ble_eq_true rfl) ⟨by decide, by decide⟩ rfl rfl (kS_lengthenCopies G sw σ α t hn0 hn1 hv0 hv1 (i := i) hi (fun s a => hL (i + 1) s (by omega) (by omega) a) hb) (fun v9 h9 q9 => ?_)
  obtain ⟨rfl, rfl⟩ := q9
  refine zk_W.to (ls' := [some (.inr (some 18)), some (.inl (i : Int)), none, none, none, none, none]) (st' := [.inl (mt_ml (zs_b σ α i) (σ 0).toNat)]) (h' := (zk_mk G sw σ (zk_ua α 10 (zs_b σ α i)) t)) rfl rfl rfl ?_
  refine zk_istore_n (ls' := [some (.inr (some 18)), some (.inl (i : Int)), some (.inl (mt_ml (zs_b σ α i) (σ 0).toNat)), none, none, none, none]) dS_workOutPlace_5 (by decide) rfl ?_
  refine zk_aload_n dS_workOutPlace_6 rfl ?_
  refine zk_iload_n dS_workOutPlace_7 rfl ?_
  refine zk_callV (av := [.inl (i : Int)]) (st := []) (d' := (2, 46)) (kc' := 0) (ks' := 0) zbS_57 dS_workOutPlace_8 rfl (by decide) rfl rfl (Nat.le_of_ble_eq_true rfl) ⟨by decide, by decide⟩ rfl rfl (kS_longestAgain G sw σ (zk_ua α 10 (zs_b σ α i)) t hn0 hn1 hv0 hv1 (i := i) hi) (fun v9 h9 q9 => ?_)
  obtain ⟨rfl, rfl⟩ := q9
  refine zk_W.to (ls' := [some (.inr (some 18)), some (.inl (i : Int)), some (.inl (mt_ml (zs_b σ α i) (σ 0).toNat)), none, none, none, none]) (st' := [.inl ((mt_la (α 1) (σ 1).toNat i i : Int))]) (h' := (zk_mk G sw σ (zk_ua α 10 (zs_b σ α i)) t)) rfl rfl rfl ?_
  refine zk_istore_n (ls' := [some (.inr (some 18)), some (.inl (i : Int)), some (.inl (mt_ml (zs_b σ α i) (σ 0).toNat)), some (.inl ((mt_la (α 1) (σ 1).toNat i i : Int))), none, none, none]) dS_workOutPlace_11 (by decide) rfl ?_
  refine zk_aload_n dS_workOutPlace_12 rfl ?_
  refine zk_get zfS_21 dS_workOutPlace_13 (v := .inr (some 2)) rfl (by decide) rfl ?_
  refine zk_callV (av := []) (st := []) (d' := (0, 0)) (kc' := 0) (ks' := 0) zbS_37 dS_workOutPlace_16 rfl (by decide) rfl rfl (Nat.le_of_ble_eq_true rfl) ⟨by decide, by decide⟩ rfl rfl (kR_length G sw σ (zk_ua α 10 (zs_b σ α i)) t (q := 0) (by decide)) (fun v9 h9 q9 => ?_)
  obtain ⟨rfl, rfl⟩ := q9
  refine zk_W.to (ls' := [some (.inr (some 18)), some (.inl (i : Int)), some (.inl (mt_ml (zs_b σ α i) (σ 0).toNat)), some (.inl ((mt_la (α 1) (σ 1).toNat i i : Int))), none, none, none]) (st' := [.inl (σ 0)]) (h' := (zk_mk G sw σ (zk_ua α 10 (zs_b σ α i)) t)) rfl rfl rfl ?_
  refine zk_bipush dS_workOutPlace_19 (by decide) ?_
  refine zk_mmin dS_workOutPlace_21 zlS_43 zw_mins zw_mi zw_minc ⟨by decide, Nat.le_of_ble_eq_true rfl⟩ ⟨by omega, by omega⟩ ⟨by decide, by decide⟩ ?_
  refine zk_istore (ls' := [some (.inr (some 18)), some (.inl (i : Int)), some (.inl (mt_ml (zs_b σ α i) (σ 0).toNat)), some (.inl ((mt_la (α 1) (σ 1).toNat i i : Int))), some (.inl (min (σ 0) 40)), none, none]) dS_workOutPlace_24 (by decide) rfl ?_
  refine zk_iconst dS_workOutPlace_26 ?_
  refine zk_istore (ls' := [some (.inr (some 18)), some (.inl (i : Int)), some (.inl (mt_ml (zs_b σ α i) (σ 0).toNat)), some (.inl ((mt_la (α 1) (σ 1).toNat i i : Int))), some (.inl (min (σ 0) 40)), some (.inl 0), none]) dS_workOutPlace_27 (by decide) rfl ?_
  have e := wS_workOutPlace G sw σ α t hn0 hn1 hv0 hv1 hc hi hL hb he ((σ 0).toNat + 2) 0 (Nat.zero_le _) (by omega)
  rw [zs_al_0] at e
  exact e

def mt_nv (b : Nat → Int) (s : Nat) : Nat → Int := fun j => if j < s then 1000000 else b j
theorem mt_nv_0 (b : Nat → Int) : mt_nv b 0 = b := by
  funext j
  unfold mt_nv
  rw [if_neg (Nat.not_lt_zero j)]
theorem mt_nv_up (b : Nat → Int) (s : Nat) : zk_up (mt_nv b s) s 1000000 = mt_nv b (s + 1) := by
  funext j
  unfold zk_up mt_nv
  by_cases h : j = s
  · subst h
    rw [if_pos rfl, if_pos (by omega)]
  · rw [if_neg h]
    by_cases h2 : j < s
    · rw [if_pos h2, if_pos (by omega)]
    · rw [if_neg h2, if_neg (by omega)]
/-- the three arrays of the search -/
def zs_3 (α : Nat → Nat → Int) (f b e : Nat → Int) : Nat → Nat → Int := zk_ua (zk_ua (zk_ua α 9 f) 10 b) 11 e
theorem zs_3_up (α : Nat → Nat → Int) (f b e f' b' e' : Nat → Int) : zk_ua (zk_ua (zk_ua (zs_3 α f b e) 9 f') 10 b') 11 e' = zs_3 α f' b' e' := by
  funext j
  unfold zs_3 zk_ua
  (repeat' split) <;> first | rfl | (exfalso; omega)
theorem zs_3_al (σ : Nat → Int) (α : Nat → Nat → Int) (f b e : Nat → Int) (i s : Nat) : zs_al σ (zs_3 α f b e) i s = zs_3 α (mt_fs (zs_g σ (zs_3 α f b e) i) f i s) (zs_b σ (zs_3 α f b e) i) (mt_es (zs_c σ) f e i s) := by
  funext j
  unfold zs_al
  show zk_ua (zk_ua (zk_ua (zs_3 α f b e) 10 _) 11 (mt_es (zs_c σ) f e i s)) 9 (mt_fs _ f i s) j = _
  generalize zs_g σ (zs_3 α f b e) i = g1
  generalize zs_b σ (zs_3 α f b e) i = b1
  unfold zs_3 zk_ua
  (repeat' split) <;> first | rfl | (exfalso; omega)
theorem zs_3_self (α : Nat → Nat → Int) : zs_3 α (α 9) (α 10) (α 11) = α := by
  unfold zs_3
  rw [zk_ua_self]
  have h : zk_ua α 10 (α 10) = α := zk_ua_self α 10
  rw [h, zk_ua_self]

set_option maxRecDepth 100000 in
set_option maxHeartbeats 4000000 in
theorem wS_workOut2 (G : zk_G) (sw : Bool) (σ : Nat → Int) (α : Nat → Nat → Int) (t : zk_H) (hn0 : 0 ≤ σ 0 ∧ σ 0 ≤ (zr_N 0 : Int)) (hn1 : 0 ≤ σ 1 ∧ σ 1 ≤ (zr_N 1 : Int)) (hv0 : ∀ j, 0 ≤ α 0 j ∧ α 0 j ≤ 255) (hv1 : ∀ j, 0 ≤ α 1 j ∧ α 1 j ≤ 255) (hc : ∀ j, j < 5 → 0 ≤ zs_c σ j ∧ zs_c σ j ≤ 100) (h12 : σ 12 = 0) : ∀ (n : Nat) (f b e : Nat → Int), mt_in (α 0) (σ 0).toNat (α 1) (σ 1).toNat (zs_c σ) f b e n → zk_W G mS_workOut (4, 95) 0 0 67 [some (.inr (some 18)), some (.inl (min (σ 1) 40)), some (.inl ((n : Int) - 1))] [] (zk_mk G sw σ (zs_3 α f b e) t) (fun v h' => v = none ∧ ∃ f b e, zs_T σ (zs_3 α f b e) ∧ h' = zk_mk G sw (zk_up σ 12 1) (zs_3 α f b e) t) := by
  intro n
  induction n with
  | zero =>
    intro f b e hin
    have eN0 : (zr_N 0 : Int) = 40 := rfl
    have eN1 : (zr_N 1 : Int) = 40 := rfl
    refine zk_iload_n dS_workOut_67 rfl ?_
    refine zk_if_lt (tgt := 82) dS_workOut_68 (by decide) ⟨by omega, by omega⟩ (fun h68 => ?_) (fun h68 => ?_)
    · skip
      refine zk_aload_n dS_workOut_82 rfl ?_
      refine zk_iconst dS_workOut_83 ?_
      refine zk_put zfS_32 dS_workOut_84 (h' := (zk_mk G sw (zk_up σ 12 1) (zs_3 α f b e) t)) rfl (by decide) (Nat.le_of_ble_eq_true rfl) rfl rfl rfl ?_
      exact zk_ret dS_workOut_87 rfl ⟨rfl, f, b, e, ⟨mt_in_rest hin, fun i s hi hs => hin.2.2.2.1 i s (Nat.zero_le i) hi hs⟩, rfl⟩
    · skip
      exfalso; omega
  | succ n ih =>
    intro f b e hin
    have eN0 : (zr_N 0 : Int) = 40 := rfl
    have eN1 : (zr_N 1 : Int) = 40 := rfl
    have hle := hin.1
    have en : ((n + 1 : Nat) : Int) - 1 = (n : Int) := by omega
    rw [en]
    refine zk_iload_n dS_workOut_67 rfl ?_
    refine zk_if_lt (tgt := 82) dS_workOut_68 (by decide) ⟨by omega, by omega⟩ (fun h68 => ?_) (fun h68 => ?_)
    · skip
      exfalso; omega
    · skip
      refine zk_aload_n dS_workOut_71 rfl ?_
      refine zk_iload_n dS_workOut_72 rfl ?_
      refine zk_callV (av := [.inl (n : Int)]) (st := []) (d' := (3, 69)) (kc' := 0) (ks' := 0) zbS_49 dS_workOut_73 rfl (by decide) rfl rfl (Nat.le_of_ble_eq_true rfl) ⟨by decide, by decide⟩ rfl rfl (kS_workOutPlace G sw σ (zs_3 α f b e) t hn0 hn1 hv0 hv1 hc (i := n) (by omega) (fun i' s x y z => hin.2.2.2.1 i' s (by omega) y z) (fun p x => (hin.2.2.2.2.1 p x).1) (fun s x => (hin.2.2.2.2.2 s x).1)) (fun v9 h9 q9 => ?_)
      obtain ⟨rfl, rfl⟩ := q9
      rw [zs_3_al]
      have hnx : mt_in (α 0) (σ 0).toNat (α 1) (σ 1).toNat (zs_c σ) (mt_fs (zs_g σ (zs_3 α f b e) n) f n ((σ 0).toNat + 1)) (zs_b σ (zs_3 α f b e) n) (mt_es (zs_c σ) f e n ((σ 0).toNat + 1)) n := by
        refine mt_in_step (f := f) (b := b) (e := e) (by omega) (by omega) hc hin (fun p hp => rfl) (fun s hs => ?_) (fun s hs => mt_fs_tbi (by omega)) (fun i' s x y z => mt_fs_tb x (by omega))
        show (if s < (σ 0).toNat + 1 then _ else _) = _
        rw [if_pos (by omega)]
      generalize mt_fs (zs_g σ (zs_3 α f b e) n) f n ((σ 0).toNat + 1) = f' at hnx ⊢
      generalize zs_b σ (zs_3 α f b e) n = b' at hnx ⊢
      generalize mt_es (zs_c σ) f e n ((σ 0).toNat + 1) = e' at hnx ⊢
      refine zk_W.to (ls' := [some (.inr (some 18)), some (.inl (min (σ 1) 40)), some (.inl (n : Int))]) (st' := []) (h' := (zk_mk G sw σ (zs_3 α f' b' e') t)) rfl rfl rfl ?_
      refine zk_iinc (ls' := [some (.inr (some 18)), some (.inl (min (σ 1) 40)), some (.inl ((n : Int) + (-1)))]) dS_workOut_76 rfl (by decide) rfl ?_
      refine zk_goto (tgt := 67) dS_workOut_79 (by decide) ?_
      have e3 : (n : Int) + (-1) = (n : Int) - 1 := by omega
      rw [e3]
      exact ih f' b' e' hnx

set_option maxRecDepth 100000 in
set_option maxHeartbeats 4000000 in
theorem wS_workOut1 (G : zk_G) (sw : Bool) (σ : Nat → Int) (α : Nat → Nat → Int) (t : zk_H) (hn0 : 0 ≤ σ 0 ∧ σ 0 ≤ (zr_N 0 : Int)) (hn1 : 0 ≤ σ 1 ∧ σ 1 ≤ (zr_N 1 : Int)) (hv0 : ∀ j, 0 ≤ α 0 j ∧ α 0 j ≤ 255) (hv1 : ∀ j, 0 ≤ α 1 j ∧ α 1 j ≤ 255) (hc : ∀ j, j < 5 → 0 ≤ zs_c σ j ∧ zs_c σ j ≤ 100) (h12 : σ 12 = 0) : ∀ (k : Nat) (s : Nat), (s ≤ 41) → (41 < s + k) → zk_W G mS_workOut (4, 95) 0 0 23 [some (.inr (some 18)), some (.inl (min (σ 1) 40)), some (.inl (s : Int))] [] (zk_mk G sw σ (zs_3 α (mt_fs (fun _ => 0) (α 9) (σ 1).toNat s) (mt_nv (α 10) s) (mt_nv (α 11) s)) t) (fun v h' => v = none ∧ ∃ f b e, zs_T σ (zs_3 α f b e) ∧ h' = zk_mk G sw (zk_up σ 12 1) (zs_3 α f b e) t) := by
  intro k
  induction k with
  | zero =>
    intro s g1 g2
    exfalso
    omega
  | succ k ih =>
    intro s g1 g2
    have eN0 : (zr_N 0 : Int) = 40 := rfl
    have eN1 : (zr_N 1 : Int) = 40 := rfl
    refine zk_iload_n dS_workOut_23 rfl ?_
    refine zk_bipush dS_workOut_24 (by decide) ?_
    refine zk_icmp_ge (tgt := 63) dS_workOut_26 (by decide) ⟨by omega, by omega⟩ ⟨by decide, by decide⟩ (fun h26 => ?_) (fun h26 => ?_)
    · skip
      refine zk_iload_n dS_workOut_63 rfl ?_
      refine zk_iconst dS_workOut_64 ?_
      refine zk_isub dS_workOut_65 ?_
      refine zk_istore_n (ls' := [some (.inr (some 18)), some (.inl (min (σ 1) 40)), some (.inl ((min (σ 1) 40) - 1))]) dS_workOut_66 (by decide) rfl ?_
      have es : s = 41 := by omega
      subst es
      have e3 : min (σ 1) 40 - 1 = (((σ 1).toNat : Nat) : Int) - 1 := by omega
      rw [e3]
      refine wS_workOut2 G sw σ α t hn0 hn1 hv0 hv1 hc h12 (σ 1).toNat _ _ _ (mt_in_last (fun s hs => mt_fs_tbi (by omega)) (fun s hs => ?_) (fun s hs => ?_))
      · show (if s < 41 then _ else _) = _
        rw [if_pos (by omega)]
      · show (if s < 41 then _ else _) = _
        rw [if_pos (by omega)]
    · skip
      refine zk_aload_n dS_workOut_29 rfl ?_
      refine zk_get zfS_11 dS_workOut_30 (v := .inr (some 19)) rfl (by decide) rfl ?_
      refine zk_iload_n dS_workOut_33 rfl ?_
      refine zk_bipush dS_workOut_34 (by decide) ?_
      refine zk_imul dS_workOut_36 ?_
      refine zk_iload_n dS_workOut_37 rfl ?_
      refine zk_iadd dS_workOut_38 ?_
      refine zk_iconst dS_workOut_39 ?_
      refine zk_iast dS_workOut_40 (n := 1681) (f := mt_fs (fun _ => 0) (α 9) (σ 1).toNat s) (h' := (zk_mk G sw σ (zk_ua (zs_3 α (mt_fs (fun _ => 0) (α 9) (σ 1).toNat s) (mt_nv (α 10) s) (mt_nv (α 11) s)) 9 (zk_up (mt_fs (fun _ => 0) (α 9) (σ 1).toNat s) (((min (σ 1) 40) * 41) + (s : Int)).toNat 0)) t)) rfl (by decide) (by omega) (by omega) (by omega) rfl ?_
      refine zk_aload_n dS_workOut_41 rfl ?_
      refine zk_get zfS_15 dS_workOut_42 (v := .inr (some 20)) rfl (by decide) rfl ?_
      refine zk_iload_n dS_workOut_45 rfl ?_
      refine zk_ldc (z := 1000000) dS_workOut_46 zcS_36 ?_
      refine zk_iast dS_workOut_48 (n := 41) (f := mt_nv (α 10) s) (h' := (zk_mk G sw σ (zk_ua (zk_ua (zs_3 α (mt_fs (fun _ => 0) (α 9) (σ 1).toNat s) (mt_nv (α 10) s) (mt_nv (α 11) s)) 9 (zk_up (mt_fs (fun _ => 0) (α 9) (σ 1).toNat s) (((min (σ 1) 40) * 41) + (s : Int)).toNat 0)) 10 (zk_up (mt_nv (α 10) s) (s : Int).toNat 1000000)) t)) rfl (by decide) (by omega) (by omega) (by omega) rfl ?_
      refine zk_aload_n dS_workOut_49 rfl ?_
      refine zk_get zfS_18 dS_workOut_50 (v := .inr (some 21)) rfl (by decide) rfl ?_
      refine zk_iload_n dS_workOut_53 rfl ?_
      refine zk_ldc (z := 1000000) dS_workOut_54 zcS_36 ?_
      refine zk_iast dS_workOut_56 (n := 41) (f := mt_nv (α 11) s) (h' := (zk_mk G sw σ (zk_ua (zk_ua (zk_ua (zs_3 α (mt_fs (fun _ => 0) (α 9) (σ 1).toNat s) (mt_nv (α 10) s) (mt_nv (α 11) s)) 9 (zk_up (mt_fs (fun _ => 0) (α 9) (σ 1).toNat s) (((min (σ 1) 40) * 41) + (s : Int)).toNat 0)) 10 (zk_up (mt_nv (α 10) s) (s : Int).toNat 1000000)) 11 (zk_up (mt_nv (α 11) s) (s : Int).toNat 1000000)) t)) rfl (by decide) (by omega) (by omega) (by omega) rfl ?_
      refine zk_iinc (ls' := [some (.inr (some 18)), some (.inl (min (σ 1) 40)), some (.inl ((s : Int) + 1))]) dS_workOut_57 rfl (by decide) rfl ?_
      refine zk_goto (tgt := 23) dS_workOut_60 (by decide) ?_
      have e2 : (s : Int) + 1 = ((s + 1 : Nat) : Int) := by omega
      rw [show ((min (σ 1) 40) * 41 + (s : Int)).toNat = 41 * (σ 1).toNat + s by omega, show zk_up (mt_fs (fun _ => 0) (α 9) (σ 1).toNat s) (41 * (σ 1).toNat + s) 0 = mt_fs (fun _ => 0) (α 9) (σ 1).toNat (s + 1) from mt_fs_up (fun _ => 0) (α 9) (σ 1).toNat s, show ((s : Int)).toNat = s from rfl, mt_nv_up, mt_nv_up, zs_3_up, e2]
      exact ih (s + 1) (by omega) (by omega)

set_option maxRecDepth 100000 in
set_option maxHeartbeats 4000000 in
theorem kS_workOut (G : zk_G) (sw : Bool) (σ : Nat → Int) (α : Nat → Nat → Int) (t : zk_H) (hn0 : 0 ≤ σ 0 ∧ σ 0 ≤ (zr_N 0 : Int)) (hn1 : 0 ≤ σ 1 ∧ σ 1 ≤ (zr_N 1 : Int)) (hv0 : ∀ j, 0 ≤ α 0 j ∧ α 0 j ≤ 255) (hv1 : ∀ j, 0 ≤ α 1 j ∧ α 1 j ≤ 255) (hc : ∀ j, j < 5 → 0 ≤ zs_c σ j ∧ zs_c σ j ≤ 100) (h12 : σ 12 = 0 ∨ σ 12 = 1) (hkn : σ 12 = 1 → zs_T σ α) : zk_K G mS_workOut (4, 95) 0 0 [.inr (some 18)] (zk_mk G sw σ α t) (fun v h' => v = none ∧ ∃ f b e, zs_T σ (zs_3 α f b e) ∧ h' = zk_mk G sw (zk_up σ 12 1) (zs_3 α f b e) t) := by
  have eN0 : (zr_N 0 : Int) = 40 := rfl
  have eN1 : (zr_N 1 : Int) = 40 := rfl
  refine zk_K.of (ls := [some (.inr (some 18)), none, none]) (by decide +kernel) (Nat.le_of_ble_eq_true rfl) rfl ?_
  refine zk_aload_n dS_workOut_0 rfl ?_
  refine zk_get zfS_32 dS_workOut_1 (v := .inl (σ 12)) rfl (by decide) rfl ?_
  refine zk_if_eq (tgt := 8) dS_workOut_4 (by decide) ⟨by omega, by omega⟩ (fun h4 => ?_) (fun h4 => ?_)
  · skip
    refine zk_aload_n dS_workOut_8 rfl ?_
    refine zk_get zfS_25 dS_workOut_9 (v := .inr (some 4)) rfl (by decide) rfl ?_
    refine zk_callV (av := []) (st := []) (d' := (0, 0)) (kc' := 0) (ks' := 0) zbS_37 dS_workOut_12 rfl (by decide) rfl rfl (Nat.le_of_ble_eq_true rfl) ⟨by decide, by decide⟩ rfl rfl (kR_length G sw σ α t (q := 1) (by decide)) (fun v9 h9 q9 => ?_)
    obtain ⟨rfl, rfl⟩ := q9
    refine zk_W.to (ls' := [some (.inr (some 18)), none, none]) (st' := [.inl (σ 1)]) (h' := (zk_mk G sw σ α t)) rfl rfl rfl ?_
    refine zk_bipush dS_workOut_15 (by decide) ?_
    refine zk_mmin dS_workOut_17 zlS_43 zw_mins zw_mi zw_minc ⟨by decide, Nat.le_of_ble_eq_true rfl⟩ ⟨by omega, by omega⟩ ⟨by decide, by decide⟩ ?_
    refine zk_istore_n (ls' := [some (.inr (some 18)), some (.inl (min (σ 1) 40)), none]) dS_workOut_20 (by decide) rfl ?_
    refine zk_iconst dS_workOut_21 ?_
    refine zk_istore_n (ls' := [some (.inr (some 18)), some (.inl (min (σ 1) 40)), some (.inl 0)]) dS_workOut_22 (by decide) rfl ?_
    have e := wS_workOut1 G sw σ α t hn0 hn1 hv0 hv1 hc h4 42 0 (by omega) (by omega)
    rw [mt_fs_0, mt_nv_0, mt_nv_0, zs_3_self] at e
    exact e
  · skip
    have e12 : σ 12 = 1 := by omega
    refine zk_ret dS_workOut_7 rfl ⟨rfl, α 9, α 10, α 11, ?_, ?_⟩
    · rw [zs_3_self]; exact hkn e12
    · rw [zs_3_self, show zk_up σ 12 1 = σ by rw [← e12]; exact zk_up_self σ 12]
end
section
/-- an act that attains the rest -/
def mt_at (O : Nat → Int) (nO : Nat) (N : Nat → Int) (nN : Nat) (c : Nat → Int) (L : Nat → Nat → Int) (i s k p n : Nat) : Prop := mt_ok O nO N nN i k p n ∧ L i s = mt_c c s k p n + L (i + n) (mt_s s k p n)
/-- among the places below p: nothing found, or the longest, the least place of several -/
def mt_iv (A : Nat → Nat → Prop) (k0 : Int) (p : Nat) (a b c : Int) : Prop :=
  (c = 0 ∧ ∀ p' n', p' < p → ¬ A p' n') ∨ ∃ p0 n0 : Nat, p0 < p ∧ 0 < n0 ∧ a = k0 ∧ b = p0 ∧ c = n0 ∧ A p0 n0 ∧ ∀ p' n', p' < p → A p' n' → n' < n0 ∨ (n' = n0 ∧ p0 ≤ p')
theorem mt_iv_exit {A : Nat → Nat → Prop} {k0 : Int} {p n : Nat} {a b c : Int} (h : mt_iv A k0 p a b c) (hn : ∀ n', n < n' → ¬ A p n') (hc : (n : Int) ≤ c) (h1 : ∀ n', A p n' → 1 ≤ n') : mt_iv A k0 (p + 1) a b c := by
  rcases h with ⟨h2, h3⟩ | ⟨p0, n0, g1, g2, g3, g4, g5, g6, g7⟩
  · refine Or.inl ⟨h2, fun p' n' hp ha => ?_⟩
    by_cases e : p' = p
    · subst e
      have := h1 n' ha
      exact hn n' (by omega) ha
    · exact h3 p' n' (by omega) ha
  · refine Or.inr ⟨p0, n0, by omega, g2, g3, g4, g5, g6, fun p' n' hp ha => ?_⟩
    by_cases e : p' = p
    · subst e
      by_cases hh : n < n'
      · exact absurd ha (hn n' hh)
      · by_cases h8 : n' < n0
        · exact Or.inl h8
        · exact Or.inr ⟨by omega, by omega⟩
    · exact g7 p' n' (by omega) ha
theorem mt_iv_found {A : Nat → Nat → Prop} {k0 : Int} {p n : Nat} {a b c : Int} (h : mt_iv A k0 p a b c) (hn : ∀ n', n < n' → ¬ A p n') (hc : c < (n : Int)) (h0 : 0 ≤ c) (ha : A p n) : mt_iv A k0 (p + 1) k0 p n := by
  refine Or.inr ⟨p, n, by omega, by omega, rfl, rfl, rfl, ha, fun p' n' hp hb => ?_⟩
  by_cases e : p' = p
  · subst e
    by_cases hh : n < n'
    · exact absurd hb (hn n' hh)
    · by_cases h8 : n' < n
      · exact Or.inl h8
      · exact Or.inr ⟨by omega, Nat.le_refl _⟩
  · rcases h with ⟨h2, h3⟩ | ⟨p0, n0, g1, g2, g3, g4, g5, g6, g7⟩
    · exact absurd hb (h3 p' n' (by omega))
    · rcases g7 p' n' (by omega) hb with h8 | ⟨h8, -⟩
      · exact Or.inl (by omega)
      · exact Or.inl (by omega)
/-- what was found stands in the fields kind, place, count -/
def zs_k (σ : Nat → Int) (a b c : Int) : Nat → Int := zk_up (zk_up (zk_up σ 15 a) 16 b) 17 c
theorem zs_k_k (σ : Nat → Int) (a b c a' b' c' : Int) : zk_up (zk_up (zk_up (zs_k σ a b c) 15 a') 16 b') 17 c' = zs_k σ a' b' c' := by
  funext j
  unfold zs_k zk_up
  (repeat' split) <;> first | rfl | (exfalso; omega)
def zs_A (σ : Nat → Int) (α : Nat → Nat → Int) (i s k p n : Nat) : Prop := mt_at (α 0) (σ 0).toNat (α 1) (σ 1).toNat (zs_c σ) (mt_tb (α 9)) i s k p n
/-- the longest LAY, among those longer than n -/
def mt_jl (A : Nat → Prop) (n : Nat) (a b c : Int) : Prop := (c = 0 ∧ ∀ n', n < n' → ¬ A n') ∨ ∃ n0 : Nat, 0 < n0 ∧ n ≤ n0 ∧ a = 2 ∧ b = -1 ∧ c = n0 ∧ A n0 ∧ ∀ n', A n' → n' ≤ n0
theorem zs_A_1 {σ : Nat → Int} {α : Nat → Nat → Int} {i s k p n : Nat} (h : zs_A σ α i s k p n) : 1 ≤ n ∧ i + n ≤ (σ 1).toNat := ⟨h.1.1, h.1.2.1⟩
theorem zs_A_c {σ : Nat → Int} {α : Nat → Nat → Int} {i s p n : Nat} (h : zs_A σ α i s 0 p n) (hp : p < (σ 0).toNat) : n ≤ mt_len (α 0) (α 1) p i (min ((σ 0).toNat - p) ((σ 1).toNat - i)) := by
  obtain ⟨⟨h1, h2, ⟨-, h3, h4⟩ | ⟨h3, -⟩ | ⟨h3, -⟩⟩, -⟩ := h
  · exact mt_le_len (by omega) h4
  · omega
  · omega
theorem zs_A_s {σ : Nat → Int} {α : Nat → Nat → Int} {i s p n : Nat} (h : zs_A σ α i s 1 p n) : n ≤ mt_len (α 1) (α 1) p i ((σ 1).toNat - i) := by
  obtain ⟨⟨h1, h2, ⟨h3, -⟩ | ⟨-, h3, h4⟩ | ⟨h3, -⟩⟩, -⟩ := h
  · omega
  · exact mt_le_len (by omega) h4
  · omega

set_option maxRecDepth 100000 in
set_option maxHeartbeats 4000000 in
theorem kS_keep (G : zk_G) (sw : Bool) (σ : Nat → Int) (α : Nat → Nat → Int) (t : zk_H) {a b c : Int} : zk_K G mS_keep (0, 0) 0 0 [.inr (some 18), .inl a, .inl b, .inl c] (zk_mk G sw σ α t) (fun v h' => v = none ∧ h' = zk_mk G sw (zk_up (zk_up (zk_up σ 15 a) 16 b) 17 c) α t) := by
  refine zk_K.of (ls := [some (.inr (some 18)), some (.inl a), some (.inl b), some (.inl c)]) (by decide +kernel) (Nat.le_of_ble_eq_true rfl) rfl ?_
  refine zk_aload_n dS_keep_0 rfl ?_
  refine zk_iload_n dS_keep_1 rfl ?_
  refine zk_put zfS_114 dS_keep_2 (h' := (zk_mk G sw (zk_up σ 15 a) α t)) rfl (by decide) (Nat.le_of_ble_eq_true rfl) rfl rfl rfl ?_
  refine zk_aload_n dS_keep_5 rfl ?_
  refine zk_iload_n dS_keep_6 rfl ?_
  refine zk_put zfS_117 dS_keep_7 (h' := (zk_mk G sw (zk_up (zk_up σ 15 a) 16 b) α t)) rfl (by decide) (Nat.le_of_ble_eq_true rfl) rfl rfl rfl ?_
  refine zk_aload_n dS_keep_10 rfl ?_
  refine zk_iload_n dS_keep_11 rfl ?_
  refine zk_put zfS_111 dS_keep_12 (h' := (zk_mk G sw (zk_up (zk_up (zk_up σ 15 a) 16 b) 17 c) α t)) rfl (by decide) (Nat.le_of_ble_eq_true rfl) rfl rfl rfl ?_
  exact zk_ret dS_keep_15 rfl ⟨rfl, rfl⟩

set_option maxRecDepth 100000 in
set_option maxHeartbeats 4000000 in
theorem wS_chooseCopy1 (G : zk_G) (sw : Bool) (σ : Nat → Int) (α : Nat → Nat → Int) (t : zk_H) (hn0 : 0 ≤ σ 0 ∧ σ 0 ≤ (zr_N 0 : Int)) (hn1 : 0 ≤ σ 1 ∧ σ 1 ≤ (zr_N 1 : Int)) (hv0 : ∀ j, 0 ≤ α 0 j ∧ α 0 j ≤ 255) (hv1 : ∀ j, 0 ≤ α 1 j ∧ α 1 j ≤ 255) (hc : ∀ j, j < 5 → 0 ≤ zs_c σ j ∧ zs_c σ j ≤ 100) (hT : zs_T σ α) {i s : Nat} (hi : i < (σ 1).toNat) (hs : s ≤ (σ 0).toNat) {p : Nat} (hp : p < (σ 0).toNat) (hk : ∀ (a b c : Int) (x : Int), mt_iv (zs_A σ α i s 0) 0 (p + 1) a b c → (0 ≤ c ∧ c ≤ 40) → zk_W G mS_chooseCopy (2, 46) 0 0 87 [some (.inr (some 18)), some (.inl (i : Int)), some (.inl (s : Int)), some (.inl (mt_tb (α 9) i s)), some (.inl (p : Int)), some (.inl (mt_tb (α 9) i s - (if (p : Int) = (s : Int) then σ 5 else σ 5 + σ 6))), some (.inl x)] [] (zk_mk G sw (zs_k σ a b c) α t) (fun v h' => v = none ∧ ∃ (a b c : Int), mt_iv (zs_A σ α i s 0) 0 (σ 0).toNat a b c ∧ (0 ≤ c ∧ c ≤ 40) ∧ h' = zk_mk G sw (zs_k σ a b c) α t)) : ∀ (n : Nat) (a b c : Int), n ≤ mt_len (α 0) (α 1) p i (min ((σ 0).toNat - p) ((σ 1).toNat - i)) → (((n : Int) ≤ c ∧ mt_iv (zs_A σ α i s 0) 0 (p + 1) a b c) ∨ (mt_iv (zs_A σ α i s 0) 0 p a b c ∧ ∀ n', n < n' → ¬ zs_A σ α i s 0 p n')) → (0 ≤ c ∧ c ≤ 40) → zk_W G mS_chooseCopy (2, 46) 0 0 45 [some (.inr (some 18)), some (.inl (i : Int)), some (.inl (s : Int)), some (.inl (mt_tb (α 9) i s)), some (.inl (p : Int)), some (.inl (mt_tb (α 9) i s - (if (p : Int) = (s : Int) then σ 5 else σ 5 + σ 6))), some (.inl (n : Int))] [] (zk_mk G sw (zs_k σ a b c) α t) (fun v h' => v = none ∧ ∃ (a b c : Int), mt_iv (zs_A σ α i s 0) 0 (σ 0).toNat a b c ∧ (0 ≤ c ∧ c ≤ 40) ∧ h' = zk_mk G sw (zs_k σ a b c) α t) := by
  intro n
  induction n with
  | zero =>
    intro a b c hl hJ hcr
    have eN0 : (zr_N 0 : Int) = 40 := rfl
    have eN1 : (zr_N 1 : Int) = 40 := rfl
    have c0 : 0 ≤ σ 5 ∧ σ 5 ≤ 100 := hc 0 (by decide)
    have c1 : 0 ≤ σ 6 ∧ σ 6 ≤ 100 := hc 1 (by decide)
    have c2 : 0 ≤ σ 7 ∧ σ 7 ≤ 100 := hc 2 (by decide)
    have c3 : 0 ≤ σ 8 ∧ σ 8 ≤ 100 := hc 3 (by decide)
    have c4 : 0 ≤ σ 9 ∧ σ 9 ≤ 100 := hc 4 (by decide)
    have hdue := hT.2 i s (by omega) hs
    refine zk_iload dS_chooseCopy_45 rfl ?_
    refine zk_aload_n dS_chooseCopy_47 rfl ?_
    refine zk_get zfS_111 dS_chooseCopy_48 (v := .inl c) rfl (by decide) rfl ?_
    refine zk_icmp_le (tgt := 87) dS_chooseCopy_51 (by decide) ⟨by omega, by omega⟩ ⟨by omega, by omega⟩ (fun h51 => ?_) (fun h51 => ?_)
    · skip
      refine hk a b c _ ?_ hcr
      rcases hJ with ⟨-, hJ⟩ | ⟨hJ, hJ2⟩
      · exact hJ
      · exact mt_iv_exit hJ hJ2 (by omega) (fun n' hA => (zs_A_1 hA).1)
    · skip
      exfalso; omega
  | succ n ih =>
    intro a b c hl hJ hcr
    have eN0 : (zr_N 0 : Int) = 40 := rfl
    have eN1 : (zr_N 1 : Int) = 40 := rfl
    have c0 : 0 ≤ σ 5 ∧ σ 5 ≤ 100 := hc 0 (by decide)
    have c1 : 0 ≤ σ 6 ∧ σ 6 ≤ 100 := hc 1 (by decide)
    have c2 : 0 ≤ σ 7 ∧ σ 7 ≤ 100 := hc 2 (by decide)
    have c3 : 0 ≤ σ 8 ∧ σ 8 ≤ 100 := hc 3 (by decide)
    have c4 : 0 ≤ σ 9 ∧ σ 9 ≤ 100 := hc 4 (by decide)
    have hdue := hT.2 i s (by omega) hs
    have hln := mt_len_le (α 0) (α 1) (min ((σ 0).toNat - p) ((σ 1).toNat - i)) p i
    have eL : α 9 (((i : Int) + ((n + 1 : Nat) : Int)) * 41 + ((p : Int) + ((n + 1 : Nat) : Int))).toNat = mt_tb (α 9) (i + (n + 1)) (p + (n + 1)) := by
      rw [show (((i : Int) + ((n + 1 : Nat) : Int)) * 41 + ((p : Int) + ((n + 1 : Nat) : Int))).toNat = 41 * (i + (n + 1)) + (p + (n + 1)) by omega]
      rfl
    have hLr := hT.2 (i + (n + 1)) (p + (n + 1)) (by omega) (by omega)
    rw [← eL] at hLr
    have hcp : 0 ≤ (if (p : Int) = (s : Int) then σ 5 else σ 5 + σ 6) ∧ (if (p : Int) = (s : Int) then σ 5 else σ 5 + σ 6) ≤ 200 := by
      split <;> omega
    have hat : zs_A σ α i s 0 p (n + 1) ↔ α 9 (((i : Int) + ((n + 1 : Nat) : Int)) * 41 + ((p : Int) + ((n + 1 : Nat) : Int))).toNat = mt_tb (α 9) i s - (if (p : Int) = (s : Int) then σ 5 else σ 5 + σ 6) := by
      rw [eL]
      have ec : mt_c (zs_c σ) s 0 p (n + 1) = (if (p : Int) = (s : Int) then σ 5 else σ 5 + σ 6) := by
        unfold mt_c
        rw [if_pos rfl]
        by_cases hps : p = s
        · rw [if_pos hps, if_pos (by omega)]; rfl
        · rw [if_neg hps, if_neg (by omega)]; rfl
      constructor
      · intro hA
        have h2 := hA.2
        rw [ec] at h2
        have h3 : mt_s s 0 p (n + 1) = p + (n + 1) := rfl
        rw [h3] at h2
        omega
      · intro h2
        refine ⟨⟨by omega, by omega, Or.inl ⟨rfl, by omega, fun t' ht => mt_len_lt (m := min ((σ 0).toNat - p) ((σ 1).toNat - i)) (by omega)⟩⟩, ?_⟩
        rw [ec]
        have h3 : mt_s s 0 p (n + 1) = p + (n + 1) := rfl
        rw [h3]
        omega
    refine zk_iload dS_chooseCopy_45 rfl ?_
    refine zk_aload_n dS_chooseCopy_47 rfl ?_
    refine zk_get zfS_111 dS_chooseCopy_48 (v := .inl c) rfl (by decide) rfl ?_
    refine zk_icmp_le (tgt := 87) dS_chooseCopy_51 (by decide) ⟨by omega, by omega⟩ ⟨by omega, by omega⟩ (fun h51 => ?_) (fun h51 => ?_)
    · skip
      refine hk a b c _ ?_ hcr
      rcases hJ with ⟨-, hJ⟩ | ⟨hJ, hJ2⟩
      · exact hJ
      · exact mt_iv_exit hJ hJ2 (by omega) (fun n' hA => (zs_A_1 hA).1)
    · skip
      refine zk_aload_n dS_chooseCopy_54 rfl ?_
      refine zk_iload_n dS_chooseCopy_55 rfl ?_
      refine zk_iload dS_chooseCopy_56 rfl ?_
      refine zk_iadd dS_chooseCopy_58 ?_
      refine zk_iload dS_chooseCopy_59 rfl ?_
      refine zk_iload dS_chooseCopy_61 rfl ?_
      refine zk_iadd dS_chooseCopy_63 ?_
      refine zk_callV (av := [.inl ((i : Int) + ((n + 1 : Nat) : Int)), .inl ((p : Int) + ((n + 1 : Nat) : Int))]) (st := []) (d' := (0, 0)) (kc' := 0) (ks' := 0) zbS_66 dS_chooseCopy_64 rfl (by decide) rfl rfl (Nat.le_of_ble_eq_true rfl) ⟨by decide, by decide⟩ rfl rfl (kS_leastFrom G sw (zs_k σ a b c) α t ⟨by omega, by omega⟩ ⟨by omega, by omega⟩) (fun v9 h9 q9 => ?_)
      obtain ⟨rfl, rfl⟩ := q9
      refine zk_W.to (ls' := [some (.inr (some 18)), some (.inl (i : Int)), some (.inl (s : Int)), some (.inl (mt_tb (α 9) i s)), some (.inl (p : Int)), some (.inl (mt_tb (α 9) i s - (if (p : Int) = (s : Int) then σ 5 else σ 5 + σ 6))), some (.inl ((n + 1 : Nat) : Int))]) (st' := [.inl (α 9 (((i : Int) + ((n + 1 : Nat) : Int)) * 41 + ((p : Int) + ((n + 1 : Nat) : Int))).toNat)]) (h' := (zk_mk G sw (zs_k σ a b c) α t)) rfl rfl rfl ?_
      refine zk_iload dS_chooseCopy_67 rfl ?_
      refine zk_icmp_ne (tgt := 81) dS_chooseCopy_69 (by decide) ⟨by omega, by omega⟩ ⟨by omega, by omega⟩ (fun h69 => ?_) (fun h69 => ?_)
      · skip
        refine zk_iinc (ls' := [some (.inr (some 18)), some (.inl (i : Int)), some (.inl (s : Int)), some (.inl (mt_tb (α 9) i s)), some (.inl (p : Int)), some (.inl (mt_tb (α 9) i s - (if (p : Int) = (s : Int) then σ 5 else σ 5 + σ 6))), some (.inl (((n + 1 : Nat) : Int) + (-1)))]) dS_chooseCopy_81 rfl (by decide) rfl ?_
        refine zk_goto (tgt := 45) dS_chooseCopy_84 (by decide) ?_
        have e2 : ((n + 1 : Nat) : Int) + (-1) = (n : Int) := by omega
        rw [e2]
        refine ih a b c (by omega) (Or.inr ?_) hcr
        rcases hJ with ⟨hJ, -⟩ | ⟨hJ, hJ2⟩
        · exfalso; omega
        · refine ⟨hJ, fun n' hn' hA => ?_⟩
          by_cases en : n' = n + 1
          · subst en; exact h69 (hat.mp hA)
          · exact hJ2 n' (by omega) hA
      · skip
        refine zk_aload_n dS_chooseCopy_72 rfl ?_
        refine zk_iconst dS_chooseCopy_73 ?_
        refine zk_iload dS_chooseCopy_74 rfl ?_
        refine zk_iload dS_chooseCopy_76 rfl ?_
        refine zk_callV (av := [.inl 0, .inl (p : Int), .inl ((n + 1 : Nat) : Int)]) (st := []) (d' := (0, 0)) (kc' := 0) (ks' := 0) zbS_138 dS_chooseCopy_78 rfl (by decide) rfl rfl (Nat.le_of_ble_eq_true rfl) ⟨by decide, by decide⟩ rfl rfl (kS_keep G sw (zs_k σ a b c) α t) (fun v9 h9 q9 => ?_)
        obtain ⟨rfl, rfl⟩ := q9
        refine zk_W.to (ls' := [some (.inr (some 18)), some (.inl (i : Int)), some (.inl (s : Int)), some (.inl (mt_tb (α 9) i s)), some (.inl (p : Int)), some (.inl (mt_tb (α 9) i s - (if (p : Int) = (s : Int) then σ 5 else σ 5 + σ 6))), some (.inl ((n + 1 : Nat) : Int))]) (st' := []) (h' := (zk_mk G sw (zk_up (zk_up (zk_up (zs_k σ a b c) 15 0) 16 (p : Int)) 17 ((n + 1 : Nat) : Int)) α t)) rfl rfl rfl ?_
        refine zk_iinc (ls' := [some (.inr (some 18)), some (.inl (i : Int)), some (.inl (s : Int)), some (.inl (mt_tb (α 9) i s)), some (.inl (p : Int)), some (.inl (mt_tb (α 9) i s - (if (p : Int) = (s : Int) then σ 5 else σ 5 + σ 6))), some (.inl (((n + 1 : Nat) : Int) + (-1)))]) dS_chooseCopy_81 rfl (by decide) rfl ?_
        refine zk_goto (tgt := 45) dS_chooseCopy_84 (by decide) ?_
        have e2 : ((n + 1 : Nat) : Int) + (-1) = (n : Int) := by omega
        rw [e2]
        rw [zs_k_k]
        refine ih _ _ _ (by omega) (Or.inl ⟨by omega, ?_⟩) (by omega)
        rcases hJ with ⟨hJ, -⟩ | ⟨hJ, hJ2⟩
        · exfalso; omega
        · exact mt_iv_found (n := n + 1) hJ hJ2 (by omega) (by omega) (hat.mpr h69)

set_option maxRecDepth 100000 in
set_option maxHeartbeats 4000000 in
theorem wS_chooseCopy (G : zk_G) (sw : Bool) (σ : Nat → Int) (α : Nat → Nat → Int) (t : zk_H) (hn0 : 0 ≤ σ 0 ∧ σ 0 ≤ (zr_N 0 : Int)) (hn1 : 0 ≤ σ 1 ∧ σ 1 ≤ (zr_N 1 : Int)) (hv0 : ∀ j, 0 ≤ α 0 j ∧ α 0 j ≤ 255) (hv1 : ∀ j, 0 ≤ α 1 j ∧ α 1 j ≤ 255) (hc : ∀ j, j < 5 → 0 ≤ zs_c σ j ∧ zs_c σ j ≤ 100) (hT : zs_T σ α) {i s : Nat} (hi : i < (σ 1).toNat) (hs : s ≤ (σ 0).toNat) : ∀ (k : Nat) (p : Nat) (a b c : Int), (p ≤ (σ 0).toNat) → ((σ 0).toNat < p + k) → (mt_iv (zs_A σ α i s 0) 0 p a b c) → ((0 ≤ c ∧ c ≤ 40)) → zk_W G mS_chooseCopy (2, 46) 0 0 3 [some (.inr (some 18)), some (.inl (i : Int)), some (.inl (s : Int)), some (.inl (mt_tb (α 9) i s)), some (.inl (p : Int)), none, none] [] (zk_mk G sw (zs_k σ a b c) α t) (fun v h' => v = none ∧ ∃ (a b c : Int), mt_iv (zs_A σ α i s 0) 0 (σ 0).toNat a b c ∧ (0 ≤ c ∧ c ≤ 40) ∧ h' = zk_mk G sw (zs_k σ a b c) α t) := by
  intro k
  induction k with
  | zero =>
    intro p a b c g1 g2 hm hcr
    exfalso
    omega
  | succ k ih =>
    intro p a b c g1 g2 hm hcr
    have eN0 : (zr_N 0 : Int) = 40 := rfl
    have eN1 : (zr_N 1 : Int) = 40 := rfl
    have c0 : 0 ≤ σ 5 ∧ σ 5 ≤ 100 := hc 0 (by decide)
    have c1 : 0 ≤ σ 6 ∧ σ 6 ≤ 100 := hc 1 (by decide)
    have c2 : 0 ≤ σ 7 ∧ σ 7 ≤ 100 := hc 2 (by decide)
    have c3 : 0 ≤ σ 8 ∧ σ 8 ≤ 100 := hc 3 (by decide)
    have c4 : 0 ≤ σ 9 ∧ σ 9 ≤ 100 := hc 4 (by decide)
    have hdue := hT.2 i s (by omega) hs
    refine zk_iload dS_chooseCopy_3 rfl ?_
    refine zk_aload_n dS_chooseCopy_5 rfl ?_
    refine zk_get zfS_21 dS_chooseCopy_6 (v := .inr (some 2)) rfl (by decide) rfl ?_
    refine zk_callV (av := []) (st := [.inl (p : Int)]) (d' := (0, 0)) (kc' := 0) (ks' := 0) zbS_37 dS_chooseCopy_9 rfl (by decide) rfl rfl (Nat.le_of_ble_eq_true rfl) ⟨by decide, by decide⟩ rfl rfl (kR_length G sw (zs_k σ a b c) α t (q := 0) (by decide)) (fun v9 h9 q9 => ?_)
    obtain ⟨rfl, rfl⟩ := q9
    refine zk_W.to (ls' := [some (.inr (some 18)), some (.inl (i : Int)), some (.inl (s : Int)), some (.inl (mt_tb (α 9) i s)), some (.inl (p : Int)), none, none]) (st' := [.inl (σ 0), .inl (p : Int)]) (h' := (zk_mk G sw (zs_k σ a b c) α t)) rfl rfl rfl ?_
    refine zk_icmp_ge (tgt := 93) dS_chooseCopy_12 (by decide) ⟨by omega, by omega⟩ ⟨by omega, by omega⟩ (fun h12 => ?_) (fun h12 => ?_)
    · skip
      have en : p = (σ 0).toNat := by omega
      subst en
      exact zk_ret dS_chooseCopy_93 rfl ⟨rfl, a, b, c, hm, hcr, rfl⟩
    · skip
      refine zk_iload_n dS_chooseCopy_15 rfl ?_
      refine zk_aload_n dS_chooseCopy_16 rfl ?_
      refine zk_get zfS_28 dS_chooseCopy_17 (v := .inr (some 10)) rfl (by decide) rfl ?_
      refine zk_iload dS_chooseCopy_20 rfl ?_
      refine zk_iload_n dS_chooseCopy_22 rfl ?_
      refine zk_callV (av := [.inl (p : Int), .inl (s : Int)]) (st := [.inl (mt_tb (α 9) i s)]) (d' := (0, 0)) (kc' := 0) (ks' := 0) zbS_135 dS_chooseCopy_23 rfl (by decide) rfl rfl (Nat.le_of_ble_eq_true rfl) ⟨by decide, by decide⟩ rfl rfl (kN_ofCopy G sw (zs_k σ a b c) α t ⟨by omega, by omega⟩ ⟨by omega, by omega⟩) (fun v9 h9 q9 => ?_)
      obtain ⟨rfl, rfl⟩ := q9
      refine zk_W.to (ls' := [some (.inr (some 18)), some (.inl (i : Int)), some (.inl (s : Int)), some (.inl (mt_tb (α 9) i s)), some (.inl (p : Int)), none, none]) (st' := [.inl (if (p : Int) = (s : Int) then σ 5 else σ 5 + σ 6), .inl (mt_tb (α 9) i s)]) (h' := (zk_mk G sw (zs_k σ a b c) α t)) rfl rfl rfl ?_
      refine zk_isub dS_chooseCopy_26 ?_
      refine zk_istore (ls' := [some (.inr (some 18)), some (.inl (i : Int)), some (.inl (s : Int)), some (.inl (mt_tb (α 9) i s)), some (.inl (p : Int)), some (.inl ((mt_tb (α 9) i s) - (if (p : Int) = (s : Int) then σ 5 else σ 5 + σ 6))), none]) dS_chooseCopy_27 (by decide) rfl ?_
      refine zk_aload_n dS_chooseCopy_29 rfl ?_
      refine zk_get zfS_21 dS_chooseCopy_30 (v := .inr (some 2)) rfl (by decide) rfl ?_
      refine zk_iload dS_chooseCopy_33 rfl ?_
      refine zk_aload_n dS_chooseCopy_35 rfl ?_
      refine zk_get zfS_25 dS_chooseCopy_36 (v := .inr (some 4)) rfl (by decide) rfl ?_
      refine zk_iload_n dS_chooseCopy_39 rfl ?_
      refine zk_callV (av := [.inl (p : Int), .inr (some 4), .inl (i : Int)]) (st := []) (d' := (1, 21)) (kc' := 0) (ks' := 0) zbS_88 dS_chooseCopy_40 rfl (by decide) rfl rfl (Nat.le_of_ble_eq_true rfl) ⟨by decide, by decide⟩ rfl rfl (kR_countSame G sw (zs_k σ a b c) α t (q := 0) (by decide) (r := 1) (by decide) hn0 hn1 hv0 hv1 (i := (p : Int)) (j := (i : Int)) ⟨by omega, by omega⟩ ⟨by omega, by omega⟩) (fun v9 h9 q9 => ?_)
      obtain ⟨rfl, rfl⟩ := q9
      refine zk_W.to (ls' := [some (.inr (some 18)), some (.inl (i : Int)), some (.inl (s : Int)), some (.inl (mt_tb (α 9) i s)), some (.inl (p : Int)), some (.inl ((mt_tb (α 9) i s) - (if (p : Int) = (s : Int) then σ 5 else σ 5 + σ 6))), none]) (st' := [.inl (if (0 ≤ (p : Int) ∧ (p : Int) < σ 0) ∧ (0 ≤ (i : Int) ∧ (i : Int) < σ 1) then (mt_len (α 0) (α 1) p i (min (σ 0 - (p : Int)) (σ 1 - (i : Int))).toNat : Int) else 0)]) (h' := (zk_mk G sw (zs_k σ a b c) α t)) rfl rfl rfl ?_
      have ecs40 : (min (σ 0 - (p : Int)) (σ 1 - (i : Int))).toNat = min ((σ 0).toNat - p) ((σ 1).toNat - i) := by omega
      rw [if_pos (⟨⟨by omega, by omega⟩, ⟨by omega, by omega⟩⟩ : (0 ≤ (p : Int) ∧ (p : Int) < σ 0) ∧ (0 ≤ (i : Int) ∧ (i : Int) < σ 1)), ecs40]
      refine zk_istore (ls' := [some (.inr (some 18)), some (.inl (i : Int)), some (.inl (s : Int)), some (.inl (mt_tb (α 9) i s)), some (.inl (p : Int)), some (.inl ((mt_tb (α 9) i s) - (if (p : Int) = (s : Int) then σ 5 else σ 5 + σ 6))), some (.inl ((mt_len (α 0) (α 1) p i (min ((σ 0).toNat - p) ((σ 1).toNat - i)) : Int)))]) dS_chooseCopy_43 (by decide) rfl ?_
      refine wS_chooseCopy1 G sw σ α t hn0 hn1 hv0 hv1 hc hT hi hs (p := p) (by omega) (fun a b c x hm hcr => ?_) (mt_len (α 0) (α 1) p i (min ((σ 0).toNat - p) ((σ 1).toNat - i))) a b c (Nat.le_refl _) (Or.inr ⟨hm, fun n' hn' hA => ?_⟩) hcr
      · skip
        refine zk_iinc (ls' := [some (.inr (some 18)), some (.inl (i : Int)), some (.inl (s : Int)), some (.inl (mt_tb (α 9) i s)), some (.inl ((p : Int) + 1)), some (.inl (mt_tb (α 9) i s - (if (p : Int) = (s : Int) then σ 5 else σ 5 + σ 6))), some (.inl x)]) dS_chooseCopy_87 rfl (by decide) rfl ?_
        refine zk_goto (tgt := 3) dS_chooseCopy_90 (by decide) ?_
        have e2 : (p : Int) + 1 = ((p + 1 : Nat) : Int) := by omega
        rw [e2]
        refine zk_W.drop 5 rfl (zk_W.drop 6 rfl ?_)
        exact ih (p + 1) a b c (by omega) (by omega) hm hcr
      · have := zs_A_c hA (by omega)
        omega

set_option maxRecDepth 100000 in
set_option maxHeartbeats 4000000 in
theorem kS_chooseCopy (G : zk_G) (sw : Bool) (σ : Nat → Int) (α : Nat → Nat → Int) (t : zk_H) (hn0 : 0 ≤ σ 0 ∧ σ 0 ≤ (zr_N 0 : Int)) (hn1 : 0 ≤ σ 1 ∧ σ 1 ≤ (zr_N 1 : Int)) (hv0 : ∀ j, 0 ≤ α 0 j ∧ α 0 j ≤ 255) (hv1 : ∀ j, 0 ≤ α 1 j ∧ α 1 j ≤ 255) (hc : ∀ j, j < 5 → 0 ≤ zs_c σ j ∧ zs_c σ j ≤ 100) (hT : zs_T σ α) {i s : Nat} (hi : i < (σ 1).toNat) (hs : s ≤ (σ 0).toNat) {a b : Int} : zk_K G mS_chooseCopy (2, 46) 0 0 [.inr (some 18), .inl (i : Int), .inl (s : Int), .inl (mt_tb (α 9) i s)] (zk_mk G sw (zs_k σ a b 0) α t) (fun v h' => v = none ∧ ∃ (a b c : Int), mt_iv (zs_A σ α i s 0) 0 (σ 0).toNat a b c ∧ (0 ≤ c ∧ c ≤ 40) ∧ h' = zk_mk G sw (zs_k σ a b c) α t) := by
  refine zk_K.of (ls := [some (.inr (some 18)), some (.inl (i : Int)), some (.inl (s : Int)), some (.inl (mt_tb (α 9) i s)), none, none, none]) (by decide +kernel) (Nat.le_of_ble_eq_true rfl) rfl ?_
  refine zk_iconst dS_chooseCopy_0 ?_
  refine zk_istore (ls' := [some (.inr (some 18)), some (.inl (i : Int)), some (.inl (s : Int)), some (.inl (mt_tb (α 9) i s)), some (.inl 0), none, none]) dS_chooseCopy_1 (by decide) rfl ?_
  exact wS_chooseCopy G sw σ α t hn0 hn1 hv0 hv1 hc hT hi hs ((σ 0).toNat + 1) 0 a b 0 (Nat.zero_le _) (by omega) (Or.inl ⟨rfl, fun p' n' h => absurd h (Nat.not_lt_zero p')⟩) (by omega)

set_option maxRecDepth 100000 in
set_option maxHeartbeats 4000000 in
theorem wS_chooseSelf1 (G : zk_G) (sw : Bool) (σ : Nat → Int) (α : Nat → Nat → Int) (t : zk_H) (hn0 : 0 ≤ σ 0 ∧ σ 0 ≤ (zr_N 0 : Int)) (hn1 : 0 ≤ σ 1 ∧ σ 1 ≤ (zr_N 1 : Int)) (hv0 : ∀ j, 0 ≤ α 0 j ∧ α 0 j ≤ 255) (hv1 : ∀ j, 0 ≤ α 1 j ∧ α 1 j ≤ 255) (hc : ∀ j, j < 5 → 0 ≤ zs_c σ j ∧ zs_c σ j ≤ 100) (hT : zs_T σ α) {i s : Nat} (hi : i < (σ 1).toNat) (hs : s ≤ (σ 0).toNat) {p : Nat} (hp : p < i) (hk : ∀ (a b c : Int) (x : Int), mt_iv (zs_A σ α i s 1) 1 (p + 1) a b c → (0 ≤ c ∧ c ≤ 40) → zk_W G mS_chooseSelf (2, 46) 0 0 74 [some (.inr (some 18)), some (.inl (i : Int)), some (.inl (s : Int)), some (.inl (mt_tb (α 9) i s)), some (.inl (mt_tb (α 9) i s - σ 7)), some (.inl (p : Int)), some (.inl x)] [] (zk_mk G sw (zs_k σ a b c) α t) (fun v h' => v = none ∧ ∃ (a b c : Int), mt_iv (zs_A σ α i s 1) 1 i a b c ∧ (0 ≤ c ∧ c ≤ 40) ∧ h' = zk_mk G sw (zs_k σ a b c) α t)) : ∀ (n : Nat) (a b c : Int), n ≤ mt_len (α 1) (α 1) p i ((σ 1).toNat - i) → (((n : Int) ≤ c ∧ mt_iv (zs_A σ α i s 1) 1 (p + 1) a b c) ∨ (mt_iv (zs_A σ α i s 1) 1 p a b c ∧ ∀ n', n < n' → ¬ zs_A σ α i s 1 p n')) → (0 ≤ c ∧ c ≤ 40) → zk_W G mS_chooseSelf (2, 46) 0 0 36 [some (.inr (some 18)), some (.inl (i : Int)), some (.inl (s : Int)), some (.inl (mt_tb (α 9) i s)), some (.inl (mt_tb (α 9) i s - σ 7)), some (.inl (p : Int)), some (.inl (n : Int))] [] (zk_mk G sw (zs_k σ a b c) α t) (fun v h' => v = none ∧ ∃ (a b c : Int), mt_iv (zs_A σ α i s 1) 1 i a b c ∧ (0 ≤ c ∧ c ≤ 40) ∧ h' = zk_mk G sw (zs_k σ a b c) α t) := by
  intro n
  induction n with
  | zero =>
    intro a b c hl hJ hcr
    have eN0 : (zr_N 0 : Int) = 40 := rfl
    have eN1 : (zr_N 1 : Int) = 40 := rfl
    have c0 : 0 ≤ σ 5 ∧ σ 5 ≤ 100 := hc 0 (by decide)
    have c1 : 0 ≤ σ 6 ∧ σ 6 ≤ 100 := hc 1 (by decide)
    have c2 : 0 ≤ σ 7 ∧ σ 7 ≤ 100 := hc 2 (by decide)
    have c3 : 0 ≤ σ 8 ∧ σ 8 ≤ 100 := hc 3 (by decide)
    have c4 : 0 ≤ σ 9 ∧ σ 9 ≤ 100 := hc 4 (by decide)
    have hdue := hT.2 i s (by omega) hs
    refine zk_iload dS_chooseSelf_36 rfl ?_
    refine zk_aload_n dS_chooseSelf_38 rfl ?_
    refine zk_get zfS_111 dS_chooseSelf_39 (v := .inl c) rfl (by decide) rfl ?_
    refine zk_icmp_le (tgt := 74) dS_chooseSelf_42 (by decide) ⟨by omega, by omega⟩ ⟨by omega, by omega⟩ (fun h42 => ?_) (fun h42 => ?_)
    · skip
      refine hk a b c _ ?_ hcr
      rcases hJ with ⟨-, hJ⟩ | ⟨hJ, hJ2⟩
      · exact hJ
      · exact mt_iv_exit hJ hJ2 (by omega) (fun n' hA => (zs_A_1 hA).1)
    · skip
      exfalso; omega
  | succ n ih =>
    intro a b c hl hJ hcr
    have eN0 : (zr_N 0 : Int) = 40 := rfl
    have eN1 : (zr_N 1 : Int) = 40 := rfl
    have c0 : 0 ≤ σ 5 ∧ σ 5 ≤ 100 := hc 0 (by decide)
    have c1 : 0 ≤ σ 6 ∧ σ 6 ≤ 100 := hc 1 (by decide)
    have c2 : 0 ≤ σ 7 ∧ σ 7 ≤ 100 := hc 2 (by decide)
    have c3 : 0 ≤ σ 8 ∧ σ 8 ≤ 100 := hc 3 (by decide)
    have c4 : 0 ≤ σ 9 ∧ σ 9 ≤ 100 := hc 4 (by decide)
    have hdue := hT.2 i s (by omega) hs
    have hln := mt_len_le (α 1) (α 1) ((σ 1).toNat - i) p i
    have eL : α 9 (((i : Int) + ((n + 1 : Nat) : Int)) * 41 + (s : Int)).toNat = mt_tb (α 9) (i + (n + 1)) s := by
      rw [show (((i : Int) + ((n + 1 : Nat) : Int)) * 41 + (s : Int)).toNat = 41 * (i + (n + 1)) + s by omega]
      rfl
    have hLr := hT.2 (i + (n + 1)) s (by omega) (by omega)
    rw [← eL] at hLr
    have hat : zs_A σ α i s 1 p (n + 1) ↔ α 9 (((i : Int) + ((n + 1 : Nat) : Int)) * 41 + (s : Int)).toNat = mt_tb (α 9) i s - σ 7 := by
      rw [eL]
      have ec : mt_c (zs_c σ) s 1 p (n + 1) = σ 7 := rfl
      have h3 : mt_s s 1 p (n + 1) = s := rfl
      constructor
      · intro hA
        have h2 := hA.2
        rw [ec, h3] at h2
        omega
      · intro h2
        refine ⟨⟨by omega, by omega, Or.inr (Or.inl ⟨rfl, hp, fun t' ht => mt_len_lt (m := (σ 1).toNat - i) (by omega)⟩)⟩, ?_⟩
        rw [ec, h3]
        omega
    refine zk_iload dS_chooseSelf_36 rfl ?_
    refine zk_aload_n dS_chooseSelf_38 rfl ?_
    refine zk_get zfS_111 dS_chooseSelf_39 (v := .inl c) rfl (by decide) rfl ?_
    refine zk_icmp_le (tgt := 74) dS_chooseSelf_42 (by decide) ⟨by omega, by omega⟩ ⟨by omega, by omega⟩ (fun h42 => ?_) (fun h42 => ?_)
    · skip
      refine hk a b c _ ?_ hcr
      rcases hJ with ⟨-, hJ⟩ | ⟨hJ, hJ2⟩
      · exact hJ
      · exact mt_iv_exit hJ hJ2 (by omega) (fun n' hA => (zs_A_1 hA).1)
    · skip
      refine zk_aload_n dS_chooseSelf_45 rfl ?_
      refine zk_iload_n dS_chooseSelf_46 rfl ?_
      refine zk_iload dS_chooseSelf_47 rfl ?_
      refine zk_iadd dS_chooseSelf_49 ?_
      refine zk_iload_n dS_chooseSelf_50 rfl ?_
      refine zk_callV (av := [.inl ((i : Int) + ((n + 1 : Nat) : Int)), .inl (s : Int)]) (st := []) (d' := (0, 0)) (kc' := 0) (ks' := 0) zbS_66 dS_chooseSelf_51 rfl (by decide) rfl rfl (Nat.le_of_ble_eq_true rfl) ⟨by decide, by decide⟩ rfl rfl (kS_leastFrom G sw (zs_k σ a b c) α t ⟨by omega, by omega⟩ ⟨by omega, by omega⟩) (fun v9 h9 q9 => ?_)
      obtain ⟨rfl, rfl⟩ := q9
      refine zk_W.to (ls' := [some (.inr (some 18)), some (.inl (i : Int)), some (.inl (s : Int)), some (.inl (mt_tb (α 9) i s)), some (.inl (mt_tb (α 9) i s - σ 7)), some (.inl (p : Int)), some (.inl ((n + 1 : Nat) : Int))]) (st' := [.inl (α 9 (((i : Int) + ((n + 1 : Nat) : Int)) * 41 + (s : Int)).toNat)]) (h' := (zk_mk G sw (zs_k σ a b c) α t)) rfl rfl rfl ?_
      refine zk_iload dS_chooseSelf_54 rfl ?_
      refine zk_icmp_ne (tgt := 68) dS_chooseSelf_56 (by decide) ⟨by omega, by omega⟩ ⟨by omega, by omega⟩ (fun h56 => ?_) (fun h56 => ?_)
      · skip
        refine zk_iinc (ls' := [some (.inr (some 18)), some (.inl (i : Int)), some (.inl (s : Int)), some (.inl (mt_tb (α 9) i s)), some (.inl (mt_tb (α 9) i s - σ 7)), some (.inl (p : Int)), some (.inl (((n + 1 : Nat) : Int) + (-1)))]) dS_chooseSelf_68 rfl (by decide) rfl ?_
        refine zk_goto (tgt := 36) dS_chooseSelf_71 (by decide) ?_
        have e2 : ((n + 1 : Nat) : Int) + (-1) = (n : Int) := by omega
        rw [e2]
        refine ih a b c (by omega) (Or.inr ?_) hcr
        rcases hJ with ⟨hJ, -⟩ | ⟨hJ, hJ2⟩
        · exfalso; omega
        · refine ⟨hJ, fun n' hn' hA => ?_⟩
          by_cases en : n' = n + 1
          · subst en; exact h56 (hat.mp hA)
          · exact hJ2 n' (by omega) hA
      · skip
        refine zk_aload_n dS_chooseSelf_59 rfl ?_
        refine zk_iconst dS_chooseSelf_60 ?_
        refine zk_iload dS_chooseSelf_61 rfl ?_
        refine zk_iload dS_chooseSelf_63 rfl ?_
        refine zk_callV (av := [.inl 1, .inl (p : Int), .inl ((n + 1 : Nat) : Int)]) (st := []) (d' := (0, 0)) (kc' := 0) (ks' := 0) zbS_138 dS_chooseSelf_65 rfl (by decide) rfl rfl (Nat.le_of_ble_eq_true rfl) ⟨by decide, by decide⟩ rfl rfl (kS_keep G sw (zs_k σ a b c) α t) (fun v9 h9 q9 => ?_)
        obtain ⟨rfl, rfl⟩ := q9
        refine zk_W.to (ls' := [some (.inr (some 18)), some (.inl (i : Int)), some (.inl (s : Int)), some (.inl (mt_tb (α 9) i s)), some (.inl (mt_tb (α 9) i s - σ 7)), some (.inl (p : Int)), some (.inl ((n + 1 : Nat) : Int))]) (st' := []) (h' := (zk_mk G sw (zk_up (zk_up (zk_up (zs_k σ a b c) 15 1) 16 (p : Int)) 17 ((n + 1 : Nat) : Int)) α t)) rfl rfl rfl ?_
        refine zk_iinc (ls' := [some (.inr (some 18)), some (.inl (i : Int)), some (.inl (s : Int)), some (.inl (mt_tb (α 9) i s)), some (.inl (mt_tb (α 9) i s - σ 7)), some (.inl (p : Int)), some (.inl (((n + 1 : Nat) : Int) + (-1)))]) dS_chooseSelf_68 rfl (by decide) rfl ?_
        refine zk_goto (tgt := 36) dS_chooseSelf_71 (by decide) ?_
        have e2 : ((n + 1 : Nat) : Int) + (-1) = (n : Int) := by omega
        rw [e2]
        rw [zs_k_k]
        refine ih _ _ _ (by omega) (Or.inl ⟨by omega, ?_⟩) (by omega)
        rcases hJ with ⟨hJ, -⟩ | ⟨hJ, hJ2⟩
        · exfalso; omega
        · exact mt_iv_found (n := n + 1) hJ hJ2 (by omega) (by omega) (hat.mpr h56)

set_option maxRecDepth 100000 in
set_option maxHeartbeats 4000000 in
theorem wS_chooseSelf (G : zk_G) (sw : Bool) (σ : Nat → Int) (α : Nat → Nat → Int) (t : zk_H) (hn0 : 0 ≤ σ 0 ∧ σ 0 ≤ (zr_N 0 : Int)) (hn1 : 0 ≤ σ 1 ∧ σ 1 ≤ (zr_N 1 : Int)) (hv0 : ∀ j, 0 ≤ α 0 j ∧ α 0 j ≤ 255) (hv1 : ∀ j, 0 ≤ α 1 j ∧ α 1 j ≤ 255) (hc : ∀ j, j < 5 → 0 ≤ zs_c σ j ∧ zs_c σ j ≤ 100) (hT : zs_T σ α) {i s : Nat} (hi : i < (σ 1).toNat) (hs : s ≤ (σ 0).toNat) : ∀ (k : Nat) (p : Nat) (a b c : Int), (p ≤ i) → (i < p + k) → (mt_iv (zs_A σ α i s 1) 1 p a b c) → ((0 ≤ c ∧ c ≤ 40)) → zk_W G mS_chooseSelf (2, 46) 0 0 14 [some (.inr (some 18)), some (.inl (i : Int)), some (.inl (s : Int)), some (.inl (mt_tb (α 9) i s)), some (.inl (mt_tb (α 9) i s - σ 7)), some (.inl (p : Int)), none] [] (zk_mk G sw (zs_k σ a b c) α t) (fun v h' => v = none ∧ ∃ (a b c : Int), mt_iv (zs_A σ α i s 1) 1 i a b c ∧ (0 ≤ c ∧ c ≤ 40) ∧ h' = zk_mk G sw (zs_k σ a b c) α t) := by
  intro k
  induction k with
  | zero =>
    intro p a b c g1 g2 hm hcr
    exfalso
    omega
  | succ k ih =>
    intro p a b c g1 g2 hm hcr
    have eN0 : (zr_N 0 : Int) = 40 := rfl
    have eN1 : (zr_N 1 : Int) = 40 := rfl
    have c0 : 0 ≤ σ 5 ∧ σ 5 ≤ 100 := hc 0 (by decide)
    have c1 : 0 ≤ σ 6 ∧ σ 6 ≤ 100 := hc 1 (by decide)
    have c2 : 0 ≤ σ 7 ∧ σ 7 ≤ 100 := hc 2 (by decide)
    have c3 : 0 ≤ σ 8 ∧ σ 8 ≤ 100 := hc 3 (by decide)
    have c4 : 0 ≤ σ 9 ∧ σ 9 ≤ 100 := hc 4 (by decide)
    have hdue := hT.2 i s (by omega) hs
    refine zk_iload dS_chooseSelf_14 rfl ?_
    refine zk_iload_n dS_chooseSelf_16 rfl ?_
    refine zk_icmp_ge (tgt := 80) dS_chooseSelf_17 (by decide) ⟨by omega, by omega⟩ ⟨by omega, by omega⟩ (fun h17 => ?_) (fun h17 => ?_)
    · skip
      have en : p = i := by omega
      subst en
      exact zk_ret dS_chooseSelf_80 rfl ⟨rfl, a, b, c, hm, hcr, rfl⟩
    · skip
      refine zk_aload_n dS_chooseSelf_20 rfl ?_
      refine zk_get zfS_25 dS_chooseSelf_21 (v := .inr (some 4)) rfl (by decide) rfl ?_
      refine zk_iload dS_chooseSelf_24 rfl ?_
      refine zk_aload_n dS_chooseSelf_26 rfl ?_
      refine zk_get zfS_25 dS_chooseSelf_27 (v := .inr (some 4)) rfl (by decide) rfl ?_
      refine zk_iload_n dS_chooseSelf_30 rfl ?_
      refine zk_callV (av := [.inl (p : Int), .inr (some 4), .inl (i : Int)]) (st := []) (d' := (1, 21)) (kc' := 0) (ks' := 0) zbS_88 dS_chooseSelf_31 rfl (by decide) rfl rfl (Nat.le_of_ble_eq_true rfl) ⟨by decide, by decide⟩ rfl rfl (kR_countSame G sw (zs_k σ a b c) α t (q := 1) (by decide) (r := 1) (by decide) hn1 hn1 hv1 hv1 (i := (p : Int)) (j := (i : Int)) ⟨by omega, by omega⟩ ⟨by omega, by omega⟩) (fun v9 h9 q9 => ?_)
      obtain ⟨rfl, rfl⟩ := q9
      refine zk_W.to (ls' := [some (.inr (some 18)), some (.inl (i : Int)), some (.inl (s : Int)), some (.inl (mt_tb (α 9) i s)), some (.inl (mt_tb (α 9) i s - σ 7)), some (.inl (p : Int)), none]) (st' := [.inl (if (0 ≤ (p : Int) ∧ (p : Int) < σ 1) ∧ (0 ≤ (i : Int) ∧ (i : Int) < σ 1) then (mt_len (α 1) (α 1) p i (min (σ 1 - (p : Int)) (σ 1 - (i : Int))).toNat : Int) else 0)]) (h' := (zk_mk G sw (zs_k σ a b c) α t)) rfl rfl rfl ?_
      have ecs31 : (min (σ 1 - (p : Int)) (σ 1 - (i : Int))).toNat = (σ 1).toNat - i := by omega
      rw [if_pos (⟨⟨by omega, by omega⟩, ⟨by omega, by omega⟩⟩ : (0 ≤ (p : Int) ∧ (p : Int) < σ 1) ∧ (0 ≤ (i : Int) ∧ (i : Int) < σ 1)), ecs31]
      refine zk_istore (ls' := [some (.inr (some 18)), some (.inl (i : Int)), some (.inl (s : Int)), some (.inl (mt_tb (α 9) i s)), some (.inl (mt_tb (α 9) i s - σ 7)), some (.inl (p : Int)), some (.inl ((mt_len (α 1) (α 1) p i ((σ 1).toNat - i) : Int)))]) dS_chooseSelf_34 (by decide) rfl ?_
      refine wS_chooseSelf1 G sw σ α t hn0 hn1 hv0 hv1 hc hT hi hs (p := p) (by omega) (fun a b c x hm hcr => ?_) (mt_len (α 1) (α 1) p i ((σ 1).toNat - i)) a b c (Nat.le_refl _) (Or.inr ⟨hm, fun n' hn' hA => ?_⟩) hcr
      · skip
        refine zk_iinc (ls' := [some (.inr (some 18)), some (.inl (i : Int)), some (.inl (s : Int)), some (.inl (mt_tb (α 9) i s)), some (.inl (mt_tb (α 9) i s - σ 7)), some (.inl ((p : Int) + 1)), some (.inl x)]) dS_chooseSelf_74 rfl (by decide) rfl ?_
        refine zk_goto (tgt := 14) dS_chooseSelf_77 (by decide) ?_
        have e2 : (p : Int) + 1 = ((p + 1 : Nat) : Int) := by omega
        rw [e2]
        refine zk_W.drop 6 rfl ?_
        exact ih (p + 1) a b c (by omega) (by omega) hm hcr
      · have := zs_A_s hA
        omega

set_option maxRecDepth 100000 in
set_option maxHeartbeats 4000000 in
theorem kS_chooseSelf (G : zk_G) (sw : Bool) (σ : Nat → Int) (α : Nat → Nat → Int) (t : zk_H) (hn0 : 0 ≤ σ 0 ∧ σ 0 ≤ (zr_N 0 : Int)) (hn1 : 0 ≤ σ 1 ∧ σ 1 ≤ (zr_N 1 : Int)) (hv0 : ∀ j, 0 ≤ α 0 j ∧ α 0 j ≤ 255) (hv1 : ∀ j, 0 ≤ α 1 j ∧ α 1 j ≤ 255) (hc : ∀ j, j < 5 → 0 ≤ zs_c σ j ∧ zs_c σ j ≤ 100) (hT : zs_T σ α) {i s : Nat} (hi : i < (σ 1).toNat) (hs : s ≤ (σ 0).toNat) {a b : Int} : zk_K G mS_chooseSelf (2, 46) 0 0 [.inr (some 18), .inl (i : Int), .inl (s : Int), .inl (mt_tb (α 9) i s)] (zk_mk G sw (zs_k σ a b 0) α t) (fun v h' => v = none ∧ ∃ (a b c : Int), mt_iv (zs_A σ α i s 1) 1 i a b c ∧ (0 ≤ c ∧ c ≤ 40) ∧ h' = zk_mk G sw (zs_k σ a b c) α t) := by
  refine zk_K.of (ls := [some (.inr (some 18)), some (.inl (i : Int)), some (.inl (s : Int)), some (.inl (mt_tb (α 9) i s)), none, none, none]) (by decide +kernel) (Nat.le_of_ble_eq_true rfl) rfl ?_
  refine zk_iload_n dS_chooseSelf_0 rfl ?_
  refine zk_aload_n dS_chooseSelf_1 rfl ?_
  refine zk_get zfS_28 dS_chooseSelf_2 (v := .inr (some 10)) rfl (by decide) rfl ?_
  refine zk_callV (av := []) (st := [.inl (mt_tb (α 9) i s)]) (d' := (0, 0)) (kc' := 0) (ks' := 0) zbS_141 dS_chooseSelf_5 rfl (by decide) rfl rfl (Nat.le_of_ble_eq_true rfl) ⟨by decide, by decide⟩ rfl rfl (kN_ofSelf G sw (zs_k σ a b 0) α t) (fun v9 h9 q9 => ?_)
  obtain ⟨rfl, rfl⟩ := q9
  refine zk_W.to (ls' := [some (.inr (some 18)), some (.inl (i : Int)), some (.inl (s : Int)), some (.inl (mt_tb (α 9) i s)), none, none, none]) (st' := [.inl (σ 7), .inl (mt_tb (α 9) i s)]) (h' := (zk_mk G sw (zs_k σ a b 0) α t)) rfl rfl rfl ?_
  refine zk_isub dS_chooseSelf_8 ?_
  refine zk_istore (ls' := [some (.inr (some 18)), some (.inl (i : Int)), some (.inl (s : Int)), some (.inl (mt_tb (α 9) i s)), some (.inl ((mt_tb (α 9) i s) - (σ 7))), none, none]) dS_chooseSelf_9 (by decide) rfl ?_
  refine zk_iconst dS_chooseSelf_11 ?_
  refine zk_istore (ls' := [some (.inr (some 18)), some (.inl (i : Int)), some (.inl (s : Int)), some (.inl (mt_tb (α 9) i s)), some (.inl ((mt_tb (α 9) i s) - (σ 7))), some (.inl 0), none]) dS_chooseSelf_12 (by decide) rfl ?_
  exact wS_chooseSelf G sw σ α t hn0 hn1 hv0 hv1 hc hT hi hs (i + 1) 0 a b 0 (Nat.zero_le _) (by omega) (Or.inl ⟨rfl, fun p' n' h => absurd h (Nat.not_lt_zero p')⟩) (by omega)

set_option maxRecDepth 100000 in
set_option maxHeartbeats 4000000 in
theorem wS_chooseLay (G : zk_G) (sw : Bool) (σ : Nat → Int) (α : Nat → Nat → Int) (t : zk_H) (hn0 : 0 ≤ σ 0 ∧ σ 0 ≤ (zr_N 0 : Int)) (hn1 : 0 ≤ σ 1 ∧ σ 1 ≤ (zr_N 1 : Int)) (hv0 : ∀ j, 0 ≤ α 0 j ∧ α 0 j ≤ 255) (hv1 : ∀ j, 0 ≤ α 1 j ∧ α 1 j ≤ 255) (hc : ∀ j, j < 5 → 0 ≤ zs_c σ j ∧ zs_c σ j ≤ 100) (hT : zs_T σ α) {i s : Nat} (hi : i < (σ 1).toNat) (hs : s ≤ (σ 0).toNat) : ∀ (n : Nat) (a b c : Int), n ≤ (σ 1).toNat - i → mt_jl (zs_A σ α i s 2 0) n a b c → (0 ≤ c ∧ c ≤ 40) → zk_W G mS_chooseLay (1, 23) 0 0 11 [some (.inr (some 18)), some (.inl (i : Int)), some (.inl (s : Int)), some (.inl (mt_tb (α 9) i s)), some (.inl (n : Int))] [] (zk_mk G sw (zs_k σ a b c) α t) (fun v h' => v = none ∧ ∃ (a b c : Int), mt_jl (zs_A σ α i s 2 0) 0 a b c ∧ (0 ≤ c ∧ c ≤ 40) ∧ h' = zk_mk G sw (zs_k σ a b c) α t) := by
  intro n
  induction n with
  | zero =>
    intro a b c hl hJ hcr
    have eN0 : (zr_N 0 : Int) = 40 := rfl
    have eN1 : (zr_N 1 : Int) = 40 := rfl
    have c0 : 0 ≤ σ 5 ∧ σ 5 ≤ 100 := hc 0 (by decide)
    have c1 : 0 ≤ σ 6 ∧ σ 6 ≤ 100 := hc 1 (by decide)
    have c2 : 0 ≤ σ 7 ∧ σ 7 ≤ 100 := hc 2 (by decide)
    have c3 : 0 ≤ σ 8 ∧ σ 8 ≤ 100 := hc 3 (by decide)
    have c4 : 0 ≤ σ 9 ∧ σ 9 ≤ 100 := hc 4 (by decide)
    have hdue := hT.2 i s (by omega) hs
    refine zk_iload dS_chooseLay_11 rfl ?_
    refine zk_aload_n dS_chooseLay_13 rfl ?_
    refine zk_get zfS_111 dS_chooseLay_14 (v := .inl c) rfl (by decide) rfl ?_
    refine zk_icmp_le (tgt := 57) dS_chooseLay_17 (by decide) ⟨by omega, by omega⟩ ⟨by omega, by omega⟩ (fun h17 => ?_) (fun h17 => ?_)
    · skip
      exact zk_ret dS_chooseLay_57 rfl ⟨rfl, a, b, c, hJ, hcr, rfl⟩
    · skip
      exfalso; omega
  | succ n ih =>
    intro a b c hl hJ hcr
    have eN0 : (zr_N 0 : Int) = 40 := rfl
    have eN1 : (zr_N 1 : Int) = 40 := rfl
    have c0 : 0 ≤ σ 5 ∧ σ 5 ≤ 100 := hc 0 (by decide)
    have c1 : 0 ≤ σ 6 ∧ σ 6 ≤ 100 := hc 1 (by decide)
    have c2 : 0 ≤ σ 7 ∧ σ 7 ≤ 100 := hc 2 (by decide)
    have c3 : 0 ≤ σ 8 ∧ σ 8 ≤ 100 := hc 3 (by decide)
    have c4 : 0 ≤ σ 9 ∧ σ 9 ≤ 100 := hc 4 (by decide)
    have hdue := hT.2 i s (by omega) hs
    have eL : α 9 (((i : Int) + ((n + 1 : Nat) : Int)) * 41 + (s : Int)).toNat = mt_tb (α 9) (i + (n + 1)) s := by
      rw [show (((i : Int) + ((n + 1 : Nat) : Int)) * 41 + (s : Int)).toNat = 41 * (i + (n + 1)) + s by omega]
      rfl
    have hLr := hT.2 (i + (n + 1)) s (by omega) (by omega)
    rw [← eL] at hLr
    have hmul : 0 ≤ σ 9 * ((n + 1 : Nat) : Int) ∧ σ 9 * ((n + 1 : Nat) : Int) ≤ 4000 := by
      refine ⟨Int.mul_nonneg c4.1 (by omega), ?_⟩
      have h1 : σ 9 * ((n + 1 : Nat) : Int) ≤ 100 * ((n + 1 : Nat) : Int) := Int.mul_le_mul_of_nonneg_right c4.2 (by omega)
      omega
    have hat : zs_A σ α i s 2 0 (n + 1) ↔ α 9 (((i : Int) + ((n + 1 : Nat) : Int)) * 41 + (s : Int)).toNat = mt_tb (α 9) i s - (σ 8 + σ 9 * ((n + 1 : Nat) : Int)) := by
      rw [eL]
      have ec : mt_c (zs_c σ) s 2 0 (n + 1) = σ 8 + σ 9 * ((n + 1 : Nat) : Int) := rfl
      have h3 : mt_s s 2 0 (n + 1) = s := rfl
      constructor
      · intro hA
        have h2 := hA.2
        rw [ec, h3] at h2
        omega
      · intro h2
        refine ⟨⟨by omega, by omega, Or.inr (Or.inr ⟨rfl, rfl⟩)⟩, ?_⟩
        rw [ec, h3]
        omega
    refine zk_iload dS_chooseLay_11 rfl ?_
    refine zk_aload_n dS_chooseLay_13 rfl ?_
    refine zk_get zfS_111 dS_chooseLay_14 (v := .inl c) rfl (by decide) rfl ?_
    refine zk_icmp_le (tgt := 57) dS_chooseLay_17 (by decide) ⟨by omega, by omega⟩ ⟨by omega, by omega⟩ (fun h17 => ?_) (fun h17 => ?_)
    · skip
      refine zk_ret dS_chooseLay_57 rfl ⟨rfl, a, b, c, ?_, hcr, rfl⟩
      rcases hJ with ⟨hJ, hJ2⟩ | ⟨n0, g1, g2, g3⟩
      · exfalso; omega
      · exact Or.inr ⟨n0, g1, by omega, g3⟩
    · skip
      refine zk_aload_n dS_chooseLay_20 rfl ?_
      refine zk_iload_n dS_chooseLay_21 rfl ?_
      refine zk_iload dS_chooseLay_22 rfl ?_
      refine zk_iadd dS_chooseLay_24 ?_
      refine zk_iload_n dS_chooseLay_25 rfl ?_
      refine zk_callV (av := [.inl ((i : Int) + ((n + 1 : Nat) : Int)), .inl (s : Int)]) (st := []) (d' := (0, 0)) (kc' := 0) (ks' := 0) zbS_66 dS_chooseLay_26 rfl (by decide) rfl rfl (Nat.le_of_ble_eq_true rfl) ⟨by decide, by decide⟩ rfl rfl (kS_leastFrom G sw (zs_k σ a b c) α t ⟨by omega, by omega⟩ ⟨by omega, by omega⟩) (fun v9 h9 q9 => ?_)
      obtain ⟨rfl, rfl⟩ := q9
      refine zk_W.to (ls' := [some (.inr (some 18)), some (.inl (i : Int)), some (.inl (s : Int)), some (.inl (mt_tb (α 9) i s)), some (.inl ((n + 1 : Nat) : Int))]) (st' := [.inl (α 9 (((i : Int) + ((n + 1 : Nat) : Int)) * 41 + (s : Int)).toNat)]) (h' := (zk_mk G sw (zs_k σ a b c) α t)) rfl rfl rfl ?_
      refine zk_iload_n dS_chooseLay_29 rfl ?_
      refine zk_aload_n dS_chooseLay_30 rfl ?_
      refine zk_get zfS_28 dS_chooseLay_31 (v := .inr (some 10)) rfl (by decide) rfl ?_
      refine zk_iload dS_chooseLay_34 rfl ?_
      refine zk_callV (av := [.inl ((n + 1 : Nat) : Int)]) (st := [.inl (mt_tb (α 9) i s), .inl (α 9 (((i : Int) + ((n + 1 : Nat) : Int)) * 41 + (s : Int)).toNat)]) (d' := (0, 0)) (kc' := 0) (ks' := 0) zbS_144 dS_chooseLay_36 rfl (by decide) rfl rfl (Nat.le_of_ble_eq_true rfl) ⟨by decide, by decide⟩ rfl rfl (kN_ofLay G sw (zs_k σ a b c) α t) (fun v9 h9 q9 => ?_)
      obtain ⟨rfl, rfl⟩ := q9
      refine zk_W.to (ls' := [some (.inr (some 18)), some (.inl (i : Int)), some (.inl (s : Int)), some (.inl (mt_tb (α 9) i s)), some (.inl ((n + 1 : Nat) : Int))]) (st' := [.inl (σ 8 + σ 9 * ((n + 1 : Nat) : Int)), .inl (mt_tb (α 9) i s), .inl (α 9 (((i : Int) + ((n + 1 : Nat) : Int)) * 41 + (s : Int)).toNat)]) (h' := (zk_mk G sw (zs_k σ a b c) α t)) rfl rfl rfl ?_
      refine zk_isub dS_chooseLay_39 ?_
      refine zk_icmp_ne (tgt := 51) dS_chooseLay_40 (by decide) ⟨by omega, by omega⟩ ⟨by omega, by omega⟩ (fun h40 => ?_) (fun h40 => ?_)
      · skip
        refine zk_iinc (ls' := [some (.inr (some 18)), some (.inl (i : Int)), some (.inl (s : Int)), some (.inl (mt_tb (α 9) i s)), some (.inl (((n + 1 : Nat) : Int) + (-1)))]) dS_chooseLay_51 rfl (by decide) rfl ?_
        refine zk_goto (tgt := 11) dS_chooseLay_54 (by decide) ?_
        have e2 : ((n + 1 : Nat) : Int) + (-1) = (n : Int) := by omega
        rw [e2]
        refine ih a b c (by omega) ?_ hcr
        rcases hJ with ⟨hJ, hJ2⟩ | ⟨n0, g1, g2, g3, g4, g5, g6⟩
        · refine Or.inl ⟨hJ, fun n' hn' hA => ?_⟩
          by_cases en : n' = n + 1
          · subst en; exact h40 (hat.mp hA)
          · exact hJ2 n' (by omega) hA
        · exfalso; omega
      · skip
        refine zk_aload_n dS_chooseLay_43 rfl ?_
        refine zk_iconst dS_chooseLay_44 ?_
        refine zk_iconst dS_chooseLay_45 ?_
        refine zk_iload dS_chooseLay_46 rfl ?_
        refine zk_callV (av := [.inl 2, .inl (-1), .inl ((n + 1 : Nat) : Int)]) (st := []) (d' := (0, 0)) (kc' := 0) (ks' := 0) zbS_138 dS_chooseLay_48 rfl (by decide) rfl rfl (Nat.le_of_ble_eq_true rfl) ⟨by decide, by decide⟩ rfl rfl (kS_keep G sw (zs_k σ a b c) α t) (fun v9 h9 q9 => ?_)
        obtain ⟨rfl, rfl⟩ := q9
        refine zk_W.to (ls' := [some (.inr (some 18)), some (.inl (i : Int)), some (.inl (s : Int)), some (.inl (mt_tb (α 9) i s)), some (.inl ((n + 1 : Nat) : Int))]) (st' := []) (h' := (zk_mk G sw (zk_up (zk_up (zk_up (zs_k σ a b c) 15 2) 16 (-1)) 17 ((n + 1 : Nat) : Int)) α t)) rfl rfl rfl ?_
        refine zk_iinc (ls' := [some (.inr (some 18)), some (.inl (i : Int)), some (.inl (s : Int)), some (.inl (mt_tb (α 9) i s)), some (.inl (((n + 1 : Nat) : Int) + (-1)))]) dS_chooseLay_51 rfl (by decide) rfl ?_
        refine zk_goto (tgt := 11) dS_chooseLay_54 (by decide) ?_
        have e2 : ((n + 1 : Nat) : Int) + (-1) = (n : Int) := by omega
        rw [e2]
        rw [zs_k_k]
        refine ih _ _ _ (by omega) (Or.inr ⟨n + 1, by omega, by omega, rfl, rfl, rfl, hat.mpr h40, fun n' hA => ?_⟩) (by omega)
        rcases hJ with ⟨hJ, hJ2⟩ | ⟨n0, g1, g2, g3, g4, g5, g6⟩
        · by_cases hh : n + 1 < n'
          · exact absurd hA (hJ2 n' hh)
          · omega
        · exfalso; omega

set_option maxRecDepth 100000 in
set_option maxHeartbeats 4000000 in
theorem kS_chooseLay (G : zk_G) (sw : Bool) (σ : Nat → Int) (α : Nat → Nat → Int) (t : zk_H) (hn0 : 0 ≤ σ 0 ∧ σ 0 ≤ (zr_N 0 : Int)) (hn1 : 0 ≤ σ 1 ∧ σ 1 ≤ (zr_N 1 : Int)) (hv0 : ∀ j, 0 ≤ α 0 j ∧ α 0 j ≤ 255) (hv1 : ∀ j, 0 ≤ α 1 j ∧ α 1 j ≤ 255) (hc : ∀ j, j < 5 → 0 ≤ zs_c σ j ∧ zs_c σ j ≤ 100) (hT : zs_T σ α) {i s : Nat} (hi : i < (σ 1).toNat) (hs : s ≤ (σ 0).toNat) {a b : Int} : zk_K G mS_chooseLay (1, 23) 0 0 [.inr (some 18), .inl (i : Int), .inl (s : Int), .inl (mt_tb (α 9) i s)] (zk_mk G sw (zs_k σ a b 0) α t) (fun v h' => v = none ∧ ∃ (a b c : Int), mt_jl (zs_A σ α i s 2 0) 0 a b c ∧ (0 ≤ c ∧ c ≤ 40) ∧ h' = zk_mk G sw (zs_k σ a b c) α t) := by
  have eN0 : (zr_N 0 : Int) = 40 := rfl
  have eN1 : (zr_N 1 : Int) = 40 := rfl
  refine zk_K.of (ls := [some (.inr (some 18)), some (.inl (i : Int)), some (.inl (s : Int)), some (.inl (mt_tb (α 9) i s)), none]) (by decide +kernel) (Nat.le_of_ble_eq_true rfl) rfl ?_
  refine zk_aload_n dS_chooseLay_0 rfl ?_
  refine zk_get zfS_25 dS_chooseLay_1 (v := .inr (some 4)) rfl (by decide) rfl ?_
  refine zk_callV (av := []) (st := []) (d' := (0, 0)) (kc' := 0) (ks' := 0) zbS_37 dS_chooseLay_4 rfl (by decide) rfl rfl (Nat.le_of_ble_eq_true rfl) ⟨by decide, by decide⟩ rfl rfl (kR_length G sw (zs_k σ a b 0) α t (q := 1) (by decide)) (fun v9 h9 q9 => ?_)
  obtain ⟨rfl, rfl⟩ := q9
  refine zk_W.to (ls' := [some (.inr (some 18)), some (.inl (i : Int)), some (.inl (s : Int)), some (.inl (mt_tb (α 9) i s)), none]) (st' := [.inl (σ 1)]) (h' := (zk_mk G sw (zs_k σ a b 0) α t)) rfl rfl rfl ?_
  refine zk_iload_n dS_chooseLay_7 rfl ?_
  refine zk_isub dS_chooseLay_8 ?_
  refine zk_istore (ls' := [some (.inr (some 18)), some (.inl (i : Int)), some (.inl (s : Int)), some (.inl (mt_tb (α 9) i s)), some (.inl ((σ 1) - (i : Int)))]) dS_chooseLay_9 (by decide) rfl ?_
  have e1 : σ 1 - (i : Int) = (((σ 1).toNat - i : Nat) : Int) := by omega
  rw [e1]
  refine wS_chooseLay G sw σ α t hn0 hn1 hv0 hv1 hc hT hi hs ((σ 1).toNat - i) a b 0 (Nat.le_refl _) (Or.inl ⟨rfl, fun n' hn' hA => ?_⟩) (by omega)
  have := (zs_A_1 hA).2
  omega
end
section
theorem zs_k_0 (σ : Nat → Int) : zk_up σ 17 0 = zs_k σ (σ 15) (σ 16) 0 := by
  unfold zs_k
  rw [zk_up_self]
  have h : zk_up σ 16 (σ 16) = σ := zk_up_self σ 16
  rw [h]
/-- the first best act -/
def zs_B (σ : Nat → Int) (α : Nat → Nat → Int) (i s k p n : Nat) : Prop := mt_best (α 0) (σ 0).toNat (α 1) (σ 1).toNat (zs_c σ) (mt_tb (α 9)) i s k p n
theorem zs_B_copy {σ : Nat → Int} {α : Nat → Nat → Int} {i s : Nat} {a b c : Int} (h : mt_iv (zs_A σ α i s 0) 0 (σ 0).toNat a b c) (hc : c ≠ 0) : ∃ p n : Nat, zs_B σ α i s 0 p n ∧ a = 0 ∧ b = p ∧ c = n := by
  rcases h with ⟨h1, -⟩ | ⟨p0, n0, g1, g2, g3, g4, g5, g6, g7⟩
  · exact absurd h1 hc
  · refine ⟨p0, n0, ⟨g6.1, g6.2, fun k' p' n' h1 h2 => ?_⟩, g3, g4, g5⟩
    by_cases hk : k' = 0
    · subst hk
      have hp : p' < (σ 0).toNat := by
        obtain ⟨x1, x2, ⟨x3, x4, -⟩ | ⟨x3, -⟩ | ⟨x3, -⟩⟩ := h1 <;> omega
      exact Or.inr ⟨rfl, g7 p' n' hp ⟨h1, h2⟩⟩
    · exact Or.inl (by omega)
theorem zs_noc {σ : Nat → Int} {α : Nat → Nat → Int} {i s : Nat} {a b c : Int} (h : mt_iv (zs_A σ α i s 0) 0 (σ 0).toNat a b c) (hc : c = 0) : ∀ p n, ¬ zs_A σ α i s 0 p n := by
  rcases h with ⟨-, h2⟩ | ⟨p0, n0, g1, g2, g3, g4, g5, g6, g7⟩
  · intro p n hA
    have hp : p < (σ 0).toNat := by
      obtain ⟨⟨x1, x2, ⟨x3, x4, -⟩ | ⟨x3, -⟩ | ⟨x3, -⟩⟩, -⟩ := hA <;> omega
    exact h2 p n hp hA
  · omega
theorem zs_B_self {σ : Nat → Int} {α : Nat → Nat → Int} {i s : Nat} {a b c : Int} (h0 : ∀ p n, ¬ zs_A σ α i s 0 p n) (h : mt_iv (zs_A σ α i s 1) 1 i a b c) (hc : c ≠ 0) : ∃ p n : Nat, zs_B σ α i s 1 p n ∧ a = 1 ∧ b = p ∧ c = n := by
  rcases h with ⟨h1, -⟩ | ⟨p0, n0, g1, g2, g3, g4, g5, g6, g7⟩
  · exact absurd h1 hc
  · refine ⟨p0, n0, ⟨g6.1, g6.2, fun k' p' n' h1 h2 => ?_⟩, g3, g4, g5⟩
    by_cases hk : k' = 0
    · subst hk
      exact absurd ⟨h1, h2⟩ (h0 p' n')
    by_cases hk1 : k' = 1
    · subst hk1
      have hp : p' < i := by
        obtain ⟨x1, x2, ⟨x3, -⟩ | ⟨x3, x4, -⟩ | ⟨x3, -⟩⟩ := h1 <;> omega
      exact Or.inr ⟨rfl, g7 p' n' hp ⟨h1, h2⟩⟩
    · exact Or.inl (by omega)
theorem zs_nos {σ : Nat → Int} {α : Nat → Nat → Int} {i s : Nat} {a b c : Int} (h : mt_iv (zs_A σ α i s 1) 1 i a b c) (hc : c = 0) : ∀ p n, ¬ zs_A σ α i s 1 p n := by
  rcases h with ⟨-, h2⟩ | ⟨p0, n0, g1, g2, g3, g4, g5, g6, g7⟩
  · intro p n hA
    have hp : p < i := by
      obtain ⟨⟨x1, x2, ⟨x3, -⟩ | ⟨x3, x4, -⟩ | ⟨x3, -⟩⟩, -⟩ := hA <;> omega
    exact h2 p n hp hA
  · omega
theorem zs_B_lay {σ : Nat → Int} {α : Nat → Nat → Int} {i s : Nat} {a b c : Int} (hT : zs_T σ α) (hi : i < (σ 1).toNat) (hs : s ≤ (σ 0).toNat) (h0 : ∀ p n, ¬ zs_A σ α i s 0 p n) (h1 : ∀ p n, ¬ zs_A σ α i s 1 p n) (h : mt_jl (zs_A σ α i s 2 0) 0 a b c) : ∃ n : Nat, zs_B σ α i s 2 0 n ∧ a = 2 ∧ b = -1 ∧ c = n := by
  have kinds : ∀ k p n, zs_A σ α i s k p n → k = 2 ∧ p = 0 := by
    intro k p n hA
    have hA' := hA
    obtain ⟨⟨x1, x2, ⟨x3, -⟩ | ⟨x3, -⟩ | ⟨x3, x4⟩⟩, -⟩ := hA
    · subst x3; exact absurd hA' (h0 p n)
    · subst x3; exact absurd hA' (h1 p n)
    · exact ⟨x3, x4⟩
  rcases h with ⟨-, h2⟩ | ⟨n0, g1, -, g3, g4, g5, g6, g7⟩
  · obtain ⟨k, p, n, x1, x2⟩ := (hT.1.2 i s hi hs).2
    obtain ⟨rfl, rfl⟩ := kinds k p n ⟨x1, x2⟩
    exact absurd ⟨x1, x2⟩ (h2 n (by have := x1.1; omega))
  · refine ⟨n0, ⟨g6.1, g6.2, fun k' p' n' x1 x2 => ?_⟩, g3, g4, g5⟩
    obtain ⟨rfl, rfl⟩ := kinds k' p' n' ⟨x1, x2⟩
    have := g7 n' ⟨x1, x2⟩
    refine Or.inr ⟨rfl, ?_⟩
    by_cases hh : n' < n0
    · exact Or.inl hh
    · exact Or.inr ⟨by omega, Nat.le_refl _⟩

set_option maxRecDepth 100000 in
set_option maxHeartbeats 4000000 in
theorem kS_choose (G : zk_G) (sw : Bool) (σ : Nat → Int) (α : Nat → Nat → Int) (t : zk_H) (hn0 : 0 ≤ σ 0 ∧ σ 0 ≤ (zr_N 0 : Int)) (hn1 : 0 ≤ σ 1 ∧ σ 1 ≤ (zr_N 1 : Int)) (hv0 : ∀ j, 0 ≤ α 0 j ∧ α 0 j ≤ 255) (hv1 : ∀ j, 0 ≤ α 1 j ∧ α 1 j ≤ 255) (hc : ∀ j, j < 5 → 0 ≤ zs_c σ j ∧ zs_c σ j ≤ 100) (hT : zs_T σ α) {i s : Nat} (hi : i < (σ 1).toNat) (hs : s ≤ (σ 0).toNat) : zk_K G mS_choose (3, 72) 0 0 [.inr (some 18), .inl (i : Int), .inl (s : Int)] (zk_mk G sw σ α t) (fun v h' => v = none ∧ ∃ k p n : Nat, zs_B σ α i s k p n ∧ h' = zk_mk G sw (zs_k σ (k : Int) (if k = 2 then -1 else (p : Int)) (n : Int)) α t) := by
  have eN0 : (zr_N 0 : Int) = 40 := rfl
  have eN1 : (zr_N 1 : Int) = 40 := rfl
  have c0 : 0 ≤ σ 5 ∧ σ 5 ≤ 100 := hc 0 (by decide)
  have c1 : 0 ≤ σ 6 ∧ σ 6 ≤ 100 := hc 1 (by decide)
  have c2 : 0 ≤ σ 7 ∧ σ 7 ≤ 100 := hc 2 (by decide)
  have c3 : 0 ≤ σ 8 ∧ σ 8 ≤ 100 := hc 3 (by decide)
  have c4 : 0 ≤ σ 9 ∧ σ 9 ≤ 100 := hc 4 (by decide)
  have hdue := hT.2 i s (by omega) hs
  refine zk_K.of (ls := [some (.inr (some 18)), some (.inl (i : Int)), some (.inl (s : Int)), none]) (by decide +kernel) (Nat.le_of_ble_eq_true rfl) rfl ?_
  refine zk_aload_n dS_choose_0 rfl ?_
  refine zk_iload_n dS_choose_1 rfl ?_
  refine zk_iload_n dS_choose_2 rfl ?_
  refine zk_callV (av := [.inl (i : Int), .inl (s : Int)]) (st := []) (d' := (0, 0)) (kc' := 0) (ks' := 0) zbS_66 dS_choose_3 rfl (by decide) rfl rfl (Nat.le_of_ble_eq_true rfl) ⟨by decide, by decide⟩ rfl rfl (kS_leastFrom G sw σ α t ⟨by omega, by omega⟩ ⟨by omega, by omega⟩) (fun v9 h9 q9 => ?_)
  obtain ⟨rfl, rfl⟩ := q9
  refine zk_W.to (ls' := [some (.inr (some 18)), some (.inl (i : Int)), some (.inl (s : Int)), none]) (st' := [.inl (α 9 ((i : Int) * 41 + (s : Int)).toNat)]) (h' := (zk_mk G sw σ α t)) rfl rfl rfl ?_
  have edue : α 9 ((i : Int) * 41 + (s : Int)).toNat = mt_tb (α 9) i s := by
    rw [show ((i : Int) * 41 + (s : Int)).toNat = 41 * i + s by omega]
    rfl
  rw [edue]
  refine zk_istore_n (ls' := [some (.inr (some 18)), some (.inl (i : Int)), some (.inl (s : Int)), some (.inl (mt_tb (α 9) i s))]) dS_choose_6 (by decide) rfl ?_
  refine zk_aload_n dS_choose_7 rfl ?_
  refine zk_iconst dS_choose_8 ?_
  refine zk_put zfS_111 dS_choose_9 (h' := (zk_mk G sw (zk_up σ 17 0) α t)) rfl (by decide) (Nat.le_of_ble_eq_true rfl) rfl rfl rfl ?_
  rw [zs_k_0]
  refine zk_aload_n dS_choose_12 rfl ?_
  refine zk_iload_n dS_choose_13 rfl ?_
  refine zk_iload_n dS_choose_14 rfl ?_
  refine zk_iload_n dS_choose_15 rfl ?_
  refine zk_callV (av := [.inl (i : Int), .inl (s : Int), .inl (mt_tb (α 9) i s)]) (st := []) (d' := (2, 46)) (kc' := 0) (ks' := 0) zbS_125 dS_choose_16 rfl (by decide) rfl rfl (Nat.le_of_ble_eq_true rfl) ⟨by decide, by decide⟩ rfl rfl (kS_chooseCopy G sw σ α t hn0 hn1 hv0 hv1 hc hT hi hs (a := σ 15) (b := σ 16)) (fun v9 h9 q9 => ?_)
  obtain ⟨rfl, a, b, c, hm, hcr, rfl⟩ := q9
  refine zk_W.to (ls' := [some (.inr (some 18)), some (.inl (i : Int)), some (.inl (s : Int)), some (.inl (mt_tb (α 9) i s))]) (st' := []) (h' := (zk_mk G sw (zs_k σ a b c) α t)) rfl rfl rfl ?_
  refine zk_aload_n dS_choose_19 rfl ?_
  refine zk_get zfS_111 dS_choose_20 (v := .inl c) rfl (by decide) rfl ?_
  refine zk_if_ne (tgt := 33) dS_choose_23 (by decide) ⟨by omega, by omega⟩ (fun h23 => ?_) (fun h23 => ?_)
  · skip
    refine zk_aload_n dS_choose_33 rfl ?_
    refine zk_get zfS_111 dS_choose_34 (v := .inl c) rfl (by decide) rfl ?_
    refine zk_if_ne (tgt := 47) dS_choose_37 (by decide) ⟨by omega, by omega⟩ (fun h37 => ?_) (fun h37 => ?_)
    · skip
      obtain ⟨p, n, hB, rfl, rfl, rfl⟩ := zs_B_copy hm (by omega)
      exact zk_ret dS_choose_47 rfl ⟨rfl, 0, p, n, hB, rfl⟩
    · skip
      exfalso; omega
  · skip
    have hnoc := zs_noc hm h23
    subst h23
    refine zk_aload_n dS_choose_26 rfl ?_
    refine zk_iload_n dS_choose_27 rfl ?_
    refine zk_iload_n dS_choose_28 rfl ?_
    refine zk_iload_n dS_choose_29 rfl ?_
    refine zk_callV (av := [.inl (i : Int), .inl (s : Int), .inl (mt_tb (α 9) i s)]) (st := []) (d' := (2, 46)) (kc' := 0) (ks' := 0) zbS_129 dS_choose_30 rfl (by decide) rfl rfl (Nat.le_of_ble_eq_true rfl) ⟨by decide, by decide⟩ rfl rfl (kS_chooseSelf G sw σ α t hn0 hn1 hv0 hv1 hc hT hi hs (a := a) (b := b)) (fun v9 h9 q9 => ?_)
    obtain ⟨rfl, a', b', c', hm', hcr', rfl⟩ := q9
    refine zk_W.to (ls' := [some (.inr (some 18)), some (.inl (i : Int)), some (.inl (s : Int)), some (.inl (mt_tb (α 9) i s))]) (st' := []) (h' := (zk_mk G sw (zs_k σ a' b' c') α t)) rfl rfl rfl ?_
    refine zk_aload_n dS_choose_33 rfl ?_
    refine zk_get zfS_111 dS_choose_34 (v := .inl c') rfl (by decide) rfl ?_
    refine zk_if_ne (tgt := 47) dS_choose_37 (by decide) ⟨by omega, by omega⟩ (fun h37 => ?_) (fun h37 => ?_)
    · skip
      obtain ⟨p, n, hB, rfl, rfl, rfl⟩ := zs_B_self hnoc hm' (by omega)
      exact zk_ret dS_choose_47 rfl ⟨rfl, 1, p, n, hB, rfl⟩
    · skip
      have hnos := zs_nos hm' h37
      subst h37
      refine zk_aload_n dS_choose_40 rfl ?_
      refine zk_iload_n dS_choose_41 rfl ?_
      refine zk_iload_n dS_choose_42 rfl ?_
      refine zk_iload_n dS_choose_43 rfl ?_
      refine zk_callV (av := [.inl (i : Int), .inl (s : Int), .inl (mt_tb (α 9) i s)]) (st := []) (d' := (1, 23)) (kc' := 0) (ks' := 0) zbS_132 dS_choose_44 rfl (by decide) rfl rfl (Nat.le_of_ble_eq_true rfl) ⟨by decide, by decide⟩ rfl rfl (kS_chooseLay G sw σ α t hn0 hn1 hv0 hv1 hc hT hi hs (a := a') (b := b')) (fun v9 h9 q9 => ?_)
      obtain ⟨rfl, a2, b2, c2, hm2, hcr2, rfl⟩ := q9
      refine zk_W.to (ls' := [some (.inr (some 18)), some (.inl (i : Int)), some (.inl (s : Int)), some (.inl (mt_tb (α 9) i s))]) (st' := []) (h' := (zk_mk G sw (zs_k σ a2 b2 c2) α t)) rfl rfl rfl ?_
      obtain ⟨n, hB, rfl, rfl, rfl⟩ := zs_B_lay hT hi hs hnoc hnos hm2
      exact zk_ret dS_choose_47 rfl ⟨rfl, 2, 0, n, hB, rfl⟩

/-- the numbers behind findNext -/
def zs_f (σ : Nat → Int) (i s k p n : Nat) : Nat → Int := zk_up (zk_up (zs_k (zk_up σ 18 s) (k : Int) (if k = 2 then -1 else (p : Int)) (n : Int)) 13 ((i : Int) + n)) 14 (mt_s s k p n : Nat)
theorem zs_f_keep (σ : Nat → Int) (i s k p n : Nat) (hk : k ≠ 0) (h14 : σ 14 = (s : Int)) : zk_up (zs_k (zk_up σ 18 s) (k : Int) (if k = 2 then -1 else (p : Int)) (n : Int)) 13 ((i : Int) + n) = zs_f σ i s k p n := by
  unfold zs_f
  have e : mt_s s k p n = s := by
    unfold mt_s
    rw [if_neg hk]
  rw [e]
  funext j
  show _ = if j = 14 then (s : Int) else _
  by_cases h : j = 14
  · rw [if_pos h, h]
    exact h14
  · rw [if_neg h]

set_option maxRecDepth 100000 in
set_option maxHeartbeats 4000000 in
theorem kS_findNext (G : zk_G) (sw : Bool) (σ : Nat → Int) (α : Nat → Nat → Int) (t : zk_H) (hn0 : 0 ≤ σ 0 ∧ σ 0 ≤ (zr_N 0 : Int)) (hn1 : 0 ≤ σ 1 ∧ σ 1 ≤ (zr_N 1 : Int)) (hv0 : ∀ j, 0 ≤ α 0 j ∧ α 0 j ≤ 255) (hv1 : ∀ j, 0 ≤ α 1 j ∧ α 1 j ≤ 255) (hc : ∀ j, j < 5 → 0 ≤ zs_c σ j ∧ zs_c σ j ≤ 100) (hT : zs_T σ α) {i s : Nat} (h13 : σ 13 = (i : Int)) (h14 : σ 14 = (s : Int)) (hil : i ≤ (σ 1).toNat) (hs : s ≤ (σ 0).toNat) : zk_K G mS_findNext (4, 95) 0 0 [.inr (some 18)] (zk_mk G sw σ α t) (fun v h' => (i = (σ 1).toNat ∧ v = some (.inl 0) ∧ h' = (zk_mk G sw σ α t)) ∨ (i < (σ 1).toNat ∧ v = some (.inl 1) ∧ ∃ k p n : Nat, zs_B σ α i s k p n ∧ h' = zk_mk G sw (zs_f σ i s k p n) α t)) := by
  have eN0 : (zr_N 0 : Int) = 40 := rfl
  have eN1 : (zr_N 1 : Int) = 40 := rfl
  refine zk_K.of (ls := [some (.inr (some 18))]) (by decide +kernel) (Nat.le_of_ble_eq_true rfl) rfl ?_
  refine zk_aload_n dS_findNext_0 rfl ?_
  refine zk_get zfS_98 dS_findNext_1 (v := .inl (σ 13)) rfl (by decide) rfl ?_
  refine zk_aload_n dS_findNext_4 rfl ?_
  refine zk_get zfS_25 dS_findNext_5 (v := .inr (some 4)) rfl (by decide) rfl ?_
  refine zk_callV (av := []) (st := [.inl (σ 13)]) (d' := (0, 0)) (kc' := 0) (ks' := 0) zbS_37 dS_findNext_8 rfl (by decide) rfl rfl (Nat.le_of_ble_eq_true rfl) ⟨by decide, by decide⟩ rfl rfl (kR_length G sw σ α t (q := 1) (by decide)) (fun v9 h9 q9 => ?_)
  obtain ⟨rfl, rfl⟩ := q9
  refine zk_W.to (ls' := [some (.inr (some 18))]) (st' := [.inl (σ 1), .inl (σ 13)]) (h' := (zk_mk G sw σ α t)) rfl rfl rfl ?_
  refine zk_icmp_lt (tgt := 16) dS_findNext_11 (by decide) ⟨by omega, by omega⟩ ⟨by omega, by omega⟩ (fun h11 => ?_) (fun h11 => ?_)
  · skip
    have hi : i < (σ 1).toNat := by omega
    refine zk_aload_n dS_findNext_16 rfl ?_
    refine zk_aload_n dS_findNext_17 rfl ?_
    refine zk_get zfS_101 dS_findNext_18 (v := .inl (σ 14)) rfl (by decide) rfl ?_
    refine zk_put zfS_104 dS_findNext_21 (h' := (zk_mk G sw (zk_up σ 18 (σ 14)) α t)) rfl (by decide) (Nat.le_of_ble_eq_true rfl) rfl rfl rfl ?_
    refine zk_aload_n dS_findNext_24 rfl ?_
    refine zk_aload_n dS_findNext_25 rfl ?_
    refine zk_get zfS_98 dS_findNext_26 (v := .inl (σ 13)) rfl (by decide) rfl ?_
    refine zk_aload_n dS_findNext_29 rfl ?_
    refine zk_get zfS_101 dS_findNext_30 (v := .inl (σ 14)) rfl (by decide) rfl ?_
    rw [h13, h14]
    refine zk_callV (av := [.inl (i : Int), .inl (s : Int)]) (st := []) (d' := (3, 72)) (kc' := 0) (ks' := 0) zbS_107 dS_findNext_33 rfl (by decide) rfl rfl (Nat.le_of_ble_eq_true rfl) ⟨by decide, by decide⟩ rfl rfl (kS_choose G sw (zk_up σ 18 s) α t hn0 hn1 hv0 hv1 hc hT (i := i) (s := s) hi hs) (fun v9 h9 q9 => ?_)
    obtain ⟨rfl, k, p, n, hB, rfl⟩ := q9
    replace hB : zs_B σ α i s k p n := hB
    have hB1 := hB.1.1
    have hB2 := hB.1.2.1
    have hB3 : k ≤ 2 := by
      obtain ⟨-, -, ⟨x3, -⟩ | ⟨x3, -⟩ | ⟨x3, -⟩⟩ := hB.1 <;> omega
    refine zk_W.to (ls' := [some (.inr (some 18))]) (st' := []) (h' := (zk_mk G sw (zs_k (zk_up σ 18 s) (k : Int) (if k = 2 then -1 else (p : Int)) (n : Int)) α t)) rfl rfl rfl ?_
    refine zk_aload_n dS_findNext_36 rfl ?_
    refine zk_dup dS_findNext_37 ?_
    refine zk_get zfS_98 dS_findNext_38 (v := .inl (σ 13)) rfl (by decide) rfl ?_
    refine zk_aload_n dS_findNext_41 rfl ?_
    refine zk_get zfS_111 dS_findNext_42 (v := .inl (n : Int)) rfl (by decide) rfl ?_
    refine zk_iadd dS_findNext_45 ?_
    refine zk_put zfS_98 dS_findNext_46 (h' := (zk_mk G sw (zk_up (zs_k (zk_up σ 18 s) (k : Int) (if k = 2 then -1 else (p : Int)) (n : Int)) 13 ((σ 13) + (n : Int))) α t)) rfl (by decide) (Nat.le_of_ble_eq_true rfl) rfl rfl rfl ?_
    rw [h13]
    refine zk_aload_n dS_findNext_49 rfl ?_
    refine zk_get zfS_114 dS_findNext_50 (v := .inl (k : Int)) rfl (by decide) rfl ?_
    refine zk_if_ne (tgt := 69) dS_findNext_53 (by decide) ⟨by omega, by omega⟩ (fun h53 => ?_) (fun h53 => ?_)
    · skip
      refine zk_aload_n dS_findNext_69 rfl ?_
      refine zk_get zfS_111 dS_findNext_70 (v := .inl (n : Int)) rfl (by decide) rfl ?_
      refine zk_if_le (tgt := 80) dS_findNext_73 (by decide) ⟨by omega, by omega⟩ (fun h73 => ?_) (fun h73 => ?_)
      · skip
        refine zk_iconst dS_findNext_80 ?_
        first | (exact zk_zret dS_findNext_81 rfl (by decide) (Or.inl ⟨by omega, rfl, rfl⟩)) | (exfalso; omega)
      · skip
        refine zk_iconst dS_findNext_76 ?_
        refine zk_goto (tgt := 81) dS_findNext_77 (by decide) ?_
        refine zk_zret dS_findNext_81 rfl (by decide) (Or.inr ⟨hi, rfl, k, p, n, hB, ?_⟩)
        rw [← zs_f_keep σ i s k p n (by omega) h14]
    · skip
      refine zk_aload_n dS_findNext_56 rfl ?_
      refine zk_aload_n dS_findNext_57 rfl ?_
      refine zk_get zfS_117 dS_findNext_58 (v := .inl (if k = 2 then -1 else (p : Int))) rfl (by decide) rfl ?_
      refine zk_aload_n dS_findNext_61 rfl ?_
      refine zk_get zfS_111 dS_findNext_62 (v := .inl (n : Int)) rfl (by decide) rfl ?_
      refine zk_iadd dS_findNext_65 ?_
      refine zk_put zfS_101 dS_findNext_66 (h' := (zk_mk G sw (zk_up (zk_up (zs_k (zk_up σ 18 s) (k : Int) (if k = 2 then -1 else (p : Int)) (n : Int)) 13 (((i : Int)) + (n : Int))) 14 ((if k = 2 then -1 else (p : Int)) + (n : Int))) α t)) rfl (by decide) (Nat.le_of_ble_eq_true rfl) rfl rfl rfl ?_
      refine zk_aload_n dS_findNext_69 rfl ?_
      refine zk_get zfS_111 dS_findNext_70 (v := .inl (n : Int)) rfl (by decide) rfl ?_
      refine zk_if_le (tgt := 80) dS_findNext_73 (by decide) ⟨by omega, by omega⟩ (fun h73 => ?_) (fun h73 => ?_)
      · skip
        refine zk_iconst dS_findNext_80 ?_
        first | (exact zk_zret dS_findNext_81 rfl (by decide) (Or.inl ⟨by omega, rfl, rfl⟩)) | (exfalso; omega)
      · skip
        refine zk_iconst dS_findNext_76 ?_
        refine zk_goto (tgt := 81) dS_findNext_77 (by decide) ?_
        refine zk_zret dS_findNext_81 rfl (by decide) (Or.inr ⟨hi, rfl, k, p, n, hB, ?_⟩)
        have hk0 : k = 0 := by omega
        subst hk0
        rfl
  · skip
    refine zk_iconst dS_findNext_14 ?_
    first | (exact zk_zret dS_findNext_15 rfl (by decide) (Or.inl ⟨by omega, rfl, rfl⟩)) | (exfalso; omega)
end
section
set_option maxRecDepth 100000 in
set_option maxHeartbeats 4000000 in
theorem kS_foundKind (G : zk_G) (sw : Bool) (σ : Nat → Int) (α : Nat → Nat → Int) (t : zk_H) : zk_K G mS_foundKind (0, 0) 0 0 [.inr (some 18)] (zk_mk G sw σ α t) (fun v h' => h' = (zk_mk G sw σ α t) ∧ v = some (.inl (σ 15))) := by
  refine zk_K.of (ls := [some (.inr (some 18))]) (by decide +kernel) (Nat.le_of_ble_eq_true rfl) rfl ?_
  refine zk_aload_n dS_foundKind_0 rfl ?_
  refine zk_get zfS_114 dS_foundKind_1 (v := .inl (σ 15)) rfl (by decide) rfl ?_
  exact zk_iret dS_foundKind_4 rfl ⟨rfl, rfl⟩

set_option maxRecDepth 100000 in
set_option maxHeartbeats 4000000 in
theorem kS_foundPlace (G : zk_G) (sw : Bool) (σ : Nat → Int) (α : Nat → Nat → Int) (t : zk_H) : zk_K G mS_foundPlace (0, 0) 0 0 [.inr (some 18)] (zk_mk G sw σ α t) (fun v h' => h' = (zk_mk G sw σ α t) ∧ v = some (.inl (σ 16))) := by
  refine zk_K.of (ls := [some (.inr (some 18))]) (by decide +kernel) (Nat.le_of_ble_eq_true rfl) rfl ?_
  refine zk_aload_n dS_foundPlace_0 rfl ?_
  refine zk_get zfS_117 dS_foundPlace_1 (v := .inl (σ 16)) rfl (by decide) rfl ?_
  exact zk_iret dS_foundPlace_4 rfl ⟨rfl, rfl⟩

set_option maxRecDepth 100000 in
set_option maxHeartbeats 4000000 in
theorem kS_foundCount (G : zk_G) (sw : Bool) (σ : Nat → Int) (α : Nat → Nat → Int) (t : zk_H) : zk_K G mS_foundCount (0, 0) 0 0 [.inr (some 18)] (zk_mk G sw σ α t) (fun v h' => h' = (zk_mk G sw σ α t) ∧ v = some (.inl (σ 17))) := by
  refine zk_K.of (ls := [some (.inr (some 18))]) (by decide +kernel) (Nat.le_of_ble_eq_true rfl) rfl ?_
  refine zk_aload_n dS_foundCount_0 rfl ?_
  refine zk_get zfS_111 dS_foundCount_1 (v := .inl (σ 17)) rfl (by decide) rfl ?_
  exact zk_iret dS_foundCount_4 rfl ⟨rfl, rfl⟩

set_option maxRecDepth 100000 in
set_option maxHeartbeats 4000000 in
theorem kS_foundAt (G : zk_G) (sw : Bool) (σ : Nat → Int) (α : Nat → Nat → Int) (t : zk_H) : zk_K G mS_foundAt (0, 0) 0 0 [.inr (some 18)] (zk_mk G sw σ α t) (fun v h' => h' = (zk_mk G sw σ α t) ∧ v = some (.inl (σ 13 - σ 17))) := by
  refine zk_K.of (ls := [some (.inr (some 18))]) (by decide +kernel) (Nat.le_of_ble_eq_true rfl) rfl ?_
  refine zk_aload_n dS_foundAt_0 rfl ?_
  refine zk_get zfS_98 dS_foundAt_1 (v := .inl (σ 13)) rfl (by decide) rfl ?_
  refine zk_aload_n dS_foundAt_4 rfl ?_
  refine zk_get zfS_111 dS_foundAt_5 (v := .inl (σ 17)) rfl (by decide) rfl ?_
  refine zk_isub dS_foundAt_8 ?_
  exact zk_iret dS_foundAt_9 rfl ⟨rfl, rfl⟩

set_option maxRecDepth 100000 in
set_option maxHeartbeats 4000000 in
theorem kS_forget (G : zk_G) (sw : Bool) (σ : Nat → Int) (α : Nat → Nat → Int) (t : zk_H) : zk_K G mS_forget (0, 0) 0 0 [.inr (some 18)] (zk_mk G sw σ α t) (fun v h' => v = none ∧ h' = zk_mk G sw (zk_up σ 12 0) α t) := by
  refine zk_K.of (ls := [some (.inr (some 18))]) (by decide +kernel) (Nat.le_of_ble_eq_true rfl) rfl ?_
  refine zk_aload_n dS_forget_0 rfl ?_
  refine zk_iconst dS_forget_1 ?_
  refine zk_put zfS_32 dS_forget_2 (h' := (zk_mk G sw (zk_up σ 12 0) α t)) rfl (by decide) (Nat.le_of_ble_eq_true rfl) rfl rfl rfl ?_
  exact zk_ret dS_forget_5 rfl ⟨rfl, rfl⟩

set_option maxRecDepth 100000 in
set_option maxHeartbeats 4000000 in
theorem kI_compare (G : zk_G) (sw : Bool) (σ : Nat → Int) (α : Nat → Nat → Int) (t : zk_H) {x y : Int} (hx : zk_rg x) (hy : zk_rg y) : zk_K G mI_compare (0, 0) 0 0 [.inl x, .inl y] (zk_mk G sw σ α t) (fun v h' => h' = (zk_mk G sw σ α t) ∧ v = some (.inl (if x < y then -1 else if x = y then 0 else 1))) := by
  refine zk_K.of (ls := [some (.inl x), some (.inl y)]) (by decide +kernel) (Nat.le_of_ble_eq_true rfl) rfl ?_
  refine zk_iload_n dI_compare_0 rfl ?_
  refine zk_iload_n dI_compare_1 rfl ?_
  refine zk_icmp_ge (tgt := 9) dI_compare_2 (by decide) hx hy (fun h2 => ?_) (fun h2 => ?_)
  · skip
    refine zk_iload_n dI_compare_9 rfl ?_
    refine zk_iload_n dI_compare_10 rfl ?_
    refine zk_icmp_ne (tgt := 18) dI_compare_11 (by decide) hx hy (fun h11 => ?_) (fun h11 => ?_)
    · skip
      refine zk_iconst dI_compare_18 ?_
      refine zk_iret dI_compare_19 rfl ⟨rfl, ?_⟩
      rw [if_neg (by omega), if_neg h11]
    · skip
      refine zk_iconst dI_compare_14 ?_
      refine zk_goto (tgt := 19) dI_compare_15 (by decide) ?_
      refine zk_iret dI_compare_19 rfl ⟨rfl, ?_⟩
      rw [if_neg (by omega), if_pos h11]
  · skip
    refine zk_iconst dI_compare_5 ?_
    refine zk_goto (tgt := 19) dI_compare_6 (by decide) ?_
    refine zk_iret dI_compare_19 rfl ⟨rfl, ?_⟩
    rw [if_pos h2]

set_option maxRecDepth 100000 in
set_option maxHeartbeats 4000000 in
theorem kS_wayOfFound (G : zk_G) (sw : Bool) (σ : Nat → Int) (α : Nat → Nat → Int) (t : zk_H) (h15 : zk_rg (σ 15)) (h16 : zk_rg (σ 16)) (h18 : zk_rg (σ 18)) : zk_K G mS_wayOfFound (1, 21) 0 0 [.inr (some 18)] (zk_mk G sw σ α t) (fun v h' => h' = (zk_mk G sw σ α t) ∧ v = some (.inl (if σ 15 = 0 then 1 + (if σ 16 < σ 18 then -1 else if σ 16 = σ 18 then 0 else 1) else if σ 15 = 1 then 3 else 4))) := by
  refine zk_K.of (ls := [some (.inr (some 18))]) (by decide +kernel) (Nat.le_of_ble_eq_true rfl) rfl ?_
  refine zk_aload_n dS_wayOfFound_0 rfl ?_
  refine zk_get zfS_114 dS_wayOfFound_1 (v := .inl (σ 15)) rfl (by decide) rfl ?_
  refine zk_if_ne (tgt := 21) dS_wayOfFound_4 (by decide) h15 (fun h4 => ?_) (fun h4 => ?_)
  · skip
    refine zk_aload_n dS_wayOfFound_21 rfl ?_
    refine zk_get zfS_114 dS_wayOfFound_22 (v := .inl (σ 15)) rfl (by decide) rfl ?_
    refine zk_iconst dS_wayOfFound_25 ?_
    refine zk_icmp_ne (tgt := 33) dS_wayOfFound_26 (by decide) h15 ⟨by decide, by decide⟩ (fun h26 => ?_) (fun h26 => ?_)
    · skip
      refine zk_iconst dS_wayOfFound_33 ?_
      refine zk_iret dS_wayOfFound_34 rfl ⟨rfl, ?_⟩
      rw [if_neg h4, if_neg h26]
    · skip
      refine zk_iconst dS_wayOfFound_29 ?_
      refine zk_goto (tgt := 34) dS_wayOfFound_30 (by decide) ?_
      refine zk_iret dS_wayOfFound_34 rfl ⟨rfl, ?_⟩
      rw [if_neg h4, if_pos h26]
  · skip
    refine zk_iconst dS_wayOfFound_7 ?_
    refine zk_aload_n dS_wayOfFound_8 rfl ?_
    refine zk_get zfS_117 dS_wayOfFound_9 (v := .inl (σ 16)) rfl (by decide) rfl ?_
    refine zk_aload_n dS_wayOfFound_12 rfl ?_
    refine zk_get zfS_104 dS_wayOfFound_13 (v := .inl (σ 18)) rfl (by decide) rfl ?_
    refine zk_callS (av := [.inl (σ 16), .inl (σ 18)]) (st := [.inl 1]) (d' := (0, 0)) (kc' := 0) (ks' := 0) zbS_120 dS_wayOfFound_16 rfl rfl (Nat.le_of_ble_eq_true rfl) ⟨by decide, by decide⟩ rfl rfl (kI_compare G sw σ α t h16 h18) (fun v9 h9 q9 => ?_)
    obtain ⟨rfl, rfl⟩ := q9
    refine zk_W.to (ls' := [some (.inr (some 18))]) (st' := [.inl (if σ 16 < σ 18 then -1 else if σ 16 = σ 18 then 0 else 1), .inl 1]) (h' := (zk_mk G sw σ α t)) rfl rfl rfl ?_
    refine zk_iadd dS_wayOfFound_19 ?_
    refine zk_iret dS_wayOfFound_20 rfl ⟨rfl, ?_⟩
    rw [if_pos h4]

set_option maxRecDepth 100000 in
set_option maxHeartbeats 4000000 in
theorem kS_begin (G : zk_G) (sw : Bool) (σ : Nat → Int) (α : Nat → Nat → Int) (t : zk_H) (hn0 : 0 ≤ σ 0 ∧ σ 0 ≤ (zr_N 0 : Int)) (hn1 : 0 ≤ σ 1 ∧ σ 1 ≤ (zr_N 1 : Int)) (hv0 : ∀ j, 0 ≤ α 0 j ∧ α 0 j ≤ 255) (hv1 : ∀ j, 0 ≤ α 1 j ∧ α 1 j ≤ 255) (hc : ∀ j, j < 5 → 0 ≤ zs_c σ j ∧ zs_c σ j ≤ 100) (h12 : σ 12 = 0 ∨ σ 12 = 1) (hkn : σ 12 = 1 → zs_T σ α) : zk_K G mS_begin (5, 117) 0 0 [.inr (some 18)] (zk_mk G sw σ α t) (fun v h' => v = none ∧ ∃ f b e, zs_T σ (zs_3 α f b e) ∧ h' = zk_mk G sw (zk_up (zk_up (zk_up σ 12 1) 13 0) 14 0) (zs_3 α f b e) t) := by
  refine zk_K.of (ls := [some (.inr (some 18))]) (by decide +kernel) (Nat.le_of_ble_eq_true rfl) rfl ?_
  refine zk_aload_n dS_begin_0 rfl ?_
  refine zk_callV (av := []) (st := []) (d' := (4, 95)) (kc' := 0) (ks' := 0) zbS_95 dS_begin_1 rfl (by decide) rfl rfl (Nat.le_of_ble_eq_true rfl) ⟨by decide, by decide⟩ rfl rfl (kS_workOut G sw σ α t hn0 hn1 hv0 hv1 hc h12 hkn) (fun v9 h9 q9 => ?_)
  obtain ⟨rfl, f, b, e, hT, rfl⟩ := q9
  refine zk_W.to (ls' := [some (.inr (some 18))]) (st' := []) (h' := (zk_mk G sw (zk_up σ 12 1) (zs_3 α f b e) t)) rfl rfl rfl ?_
  refine zk_aload_n dS_begin_4 rfl ?_
  refine zk_iconst dS_begin_5 ?_
  refine zk_put zfS_98 dS_begin_6 (h' := (zk_mk G sw (zk_up (zk_up σ 12 1) 13 0) (zs_3 α f b e) t)) rfl (by decide) (Nat.le_of_ble_eq_true rfl) rfl rfl rfl ?_
  refine zk_aload_n dS_begin_9 rfl ?_
  refine zk_iconst dS_begin_10 ?_
  refine zk_put zfS_101 dS_begin_11 (h' := (zk_mk G sw (zk_up (zk_up (zk_up σ 12 1) 13 0) 14 0) (zs_3 α f b e) t)) rfl (by decide) (Nat.le_of_ble_eq_true rfl) rfl rfl rfl ?_
  exact zk_ret dS_begin_14 rfl ⟨rfl, f, b, e, hT, rfl⟩

set_option maxRecDepth 100000 in
set_option maxHeartbeats 4000000 in
theorem kC_isText (G : zk_G) (sw : Bool) (σ : Nat → Int) (α : Nat → Nat → Int) (t : zk_H) {x : Int} (hx : zk_rg x) : zk_K G mC_isText (0, 0) 0 0 [.inl x] (zk_mk G sw σ α t) (fun v h' => h' = (zk_mk G sw σ α t) ∧ (((x = 0 ∨ x = 1) ∧ v = some (.inl 1)) ∨ ((¬ (x = 0 ∨ x = 1)) ∧ v = some (.inl 0)))) := by
  refine zk_K.of (ls := [some (.inl x)]) (by decide +kernel) (Nat.le_of_ble_eq_true rfl) rfl ?_
  refine zk_iload_n dC_isText_0 rfl ?_
  refine zk_if_eq (tgt := 9) dC_isText_1 (by decide) hx (fun h1 => ?_) (fun h1 => ?_)
  · skip
    refine zk_iconst dC_isText_9 ?_
    refine zk_goto (tgt := 14) dC_isText_10 (by decide) ?_
    exact zk_zret dC_isText_14 rfl (by decide) ⟨rfl, Or.inl ⟨by omega, rfl⟩⟩
  · skip
    refine zk_iload_n dC_isText_4 rfl ?_
    refine zk_iconst dC_isText_5 ?_
    refine zk_icmp_ne (tgt := 13) dC_isText_6 (by decide) hx ⟨by decide, by decide⟩ (fun h6 => ?_) (fun h6 => ?_)
    · skip
      refine zk_iconst dC_isText_13 ?_
      exact zk_zret dC_isText_14 rfl (by decide) ⟨rfl, Or.inr ⟨by omega, rfl⟩⟩
    · skip
      refine zk_iconst dC_isText_9 ?_
      refine zk_goto (tgt := 14) dC_isText_10 (by decide) ?_
      exact zk_zret dC_isText_14 rfl (by decide) ⟨rfl, Or.inl ⟨by omega, rfl⟩⟩

set_option maxRecDepth 100000 in
set_option maxHeartbeats 4000000 in
theorem kC_isByte (G : zk_G) (sw : Bool) (σ : Nat → Int) (α : Nat → Nat → Int) (t : zk_H) {x : Int} (hx : zk_rg x) : zk_K G mC_isByte (0, 0) 0 0 [.inl x] (zk_mk G sw σ α t) (fun v h' => h' = (zk_mk G sw σ α t) ∧ (((0 ≤ x ∧ x ≤ 255) ∧ v = some (.inl 1)) ∨ ((¬ (0 ≤ x ∧ x ≤ 255)) ∧ v = some (.inl 0)))) := by
  refine zk_K.of (ls := [some (.inl x)]) (by decide +kernel) (Nat.le_of_ble_eq_true rfl) rfl ?_
  refine zk_iload_n dC_isByte_0 rfl ?_
  refine zk_if_lt (tgt := 15) dC_isByte_1 (by decide) hx (fun h1 => ?_) (fun h1 => ?_)
  · skip
    refine zk_iconst dC_isByte_15 ?_
    exact zk_zret dC_isByte_16 rfl (by decide) ⟨rfl, Or.inr ⟨by omega, rfl⟩⟩
  · skip
    refine zk_iload_n dC_isByte_4 rfl ?_
    refine zk_sipush dC_isByte_5 (by decide) ?_
    refine zk_icmp_gt (tgt := 15) dC_isByte_8 (by decide) hx ⟨by decide, by decide⟩ (fun h8 => ?_) (fun h8 => ?_)
    · skip
      refine zk_iconst dC_isByte_15 ?_
      exact zk_zret dC_isByte_16 rfl (by decide) ⟨rfl, Or.inr ⟨by omega, rfl⟩⟩
    · skip
      refine zk_iconst dC_isByte_11 ?_
      refine zk_goto (tgt := 16) dC_isByte_12 (by decide) ?_
      exact zk_zret dC_isByte_16 rfl (by decide) ⟨rfl, Or.inl ⟨by omega, rfl⟩⟩

set_option maxRecDepth 100000 in
set_option maxHeartbeats 4000000 in
theorem kC_isNumber (G : zk_G) (sw : Bool) (σ : Nat → Int) (α : Nat → Nat → Int) (t : zk_H) {x : Int} (hx : zk_rg x) : zk_K G mC_isNumber (0, 0) 0 0 [.inl x] (zk_mk G sw σ α t) (fun v h' => h' = (zk_mk G sw σ α t) ∧ (((0 ≤ x ∧ x ≤ 100) ∧ v = some (.inl 1)) ∨ ((¬ (0 ≤ x ∧ x ≤ 100)) ∧ v = some (.inl 0)))) := by
  refine zk_K.of (ls := [some (.inl x)]) (by decide +kernel) (Nat.le_of_ble_eq_true rfl) rfl ?_
  refine zk_iload_n dC_isNumber_0 rfl ?_
  refine zk_if_lt (tgt := 14) dC_isNumber_1 (by decide) hx (fun h1 => ?_) (fun h1 => ?_)
  · skip
    refine zk_iconst dC_isNumber_14 ?_
    exact zk_zret dC_isNumber_15 rfl (by decide) ⟨rfl, Or.inr ⟨by omega, rfl⟩⟩
  · skip
    refine zk_iload_n dC_isNumber_4 rfl ?_
    refine zk_bipush dC_isNumber_5 (by decide) ?_
    refine zk_icmp_gt (tgt := 14) dC_isNumber_7 (by decide) hx ⟨by decide, by decide⟩ (fun h7 => ?_) (fun h7 => ?_)
    · skip
      refine zk_iconst dC_isNumber_14 ?_
      exact zk_zret dC_isNumber_15 rfl (by decide) ⟨rfl, Or.inr ⟨by omega, rfl⟩⟩
    · skip
      refine zk_iconst dC_isNumber_10 ?_
      refine zk_goto (tgt := 15) dC_isNumber_11 (by decide) ?_
      exact zk_zret dC_isNumber_15 rfl (by decide) ⟨rfl, Or.inl ⟨by omega, rfl⟩⟩

set_option maxRecDepth 100000 in
set_option maxHeartbeats 4000000 in
theorem kC_textOf (G : zk_G) (sw : Bool) (σ : Nat → Int) (α : Nat → Nat → Int) (t : zk_H) {x : Int} (hx : zk_rg x) : zk_K G mC_textOf (0, 0) 0 0 [.inr (some 1), .inl x] (zk_mk G sw σ α t) (fun v h' => h' = (zk_mk G sw σ α t) ∧ ((x = 0 ∧ v = some (.inr (some 2))) ∨ (x ≠ 0 ∧ v = some (.inr (some 4))))) := by
  refine zk_K.of (ls := [some (.inr (some 1)), some (.inl x)]) (by decide +kernel) (Nat.le_of_ble_eq_true rfl) rfl ?_
  refine zk_iload_n dC_textOf_0 rfl ?_
  refine zk_if_ne (tgt := 11) dC_textOf_1 (by decide) hx (fun h1 => ?_) (fun h1 => ?_)
  · skip
    refine zk_aload_n dC_textOf_11 rfl ?_
    refine zk_get zfC_18 dC_textOf_12 (v := .inr (some 4)) rfl (by decide) rfl ?_
    exact zk_aret dC_textOf_15 rfl (Or.inl ⟨_, rfl⟩) ⟨rfl, Or.inr ⟨h1, rfl⟩⟩
  · skip
    refine zk_aload_n dC_textOf_4 rfl ?_
    refine zk_get zfC_14 dC_textOf_5 (v := .inr (some 2)) rfl (by decide) rfl ?_
    refine zk_goto (tgt := 15) dC_textOf_8 (by decide) ?_
    exact zk_aret dC_textOf_15 rfl (Or.inl ⟨_, rfl⟩) ⟨rfl, Or.inl ⟨h1, rfl⟩⟩

/-- the cost of an act -/
def mt_cost (c : Nat → Int) (K P C : Nat → Int) (k : Nat) : Int := if K k = 0 then (if P k = mt_spot K P C k then c 0 else c 0 + c 1) else if K k = 1 then c 2 else c 3 + c 4 * C k

set_option maxRecDepth 100000 in
set_option maxHeartbeats 4000000 in
theorem kC_costOf (G : zk_G) (sw : Bool) (σ : Nat → Int) (α : Nat → Nat → Int) (t : zk_H) (hs10 : 0 ≤ σ 10 ∧ σ 10 ≤ 100) (ha : ∀ q j, q < 9 → zk_rg (α q j)) {k : Int} (hk : 0 ≤ k ∧ k < σ 10) (hsp : zk_rg (mt_spot (α 5) (α 6) (α 7) k.toNat)) : zk_K G mC_costOf (2, 42) 0 0 [.inr (some 1), .inl k] (zk_mk G sw σ α t) (fun v h' => h' = (zk_mk G sw σ α t) ∧ v = some (.inl (mt_cost (zs_c σ) (α 5) (α 6) (α 7) k.toNat))) := by
  refine zk_K.of (ls := [some (.inr (some 1)), some (.inl k)]) (by decide +kernel) (Nat.le_of_ble_eq_true rfl) rfl ?_
  refine zk_aload_n dC_costOf_0 rfl ?_
  refine zk_get zfC_37 dC_costOf_1 (v := .inr (some 11)) rfl (by decide) rfl ?_
  refine zk_iload_n dC_costOf_4 rfl ?_
  refine zk_callV (av := [.inl k]) (st := []) (d' := (1, 21)) (kc' := 0) (ks' := 0) zbC_133 dC_costOf_5 rfl (by decide) rfl rfl (Nat.le_of_ble_eq_true rfl) ⟨by decide, by decide⟩ rfl rfl (kA_kind G sw σ α t hs10 ⟨by omega, by omega⟩) (fun v9 h9 q9 => ?_)
  rcases q9 with ⟨rfl, ⟨hc5, rfl⟩ | ⟨hc5, rfl⟩⟩
  · skip
    refine zk_W.to (ls' := [some (.inr (some 1)), some (.inl k)]) (st' := [.inl (α 5 k.toNat)]) (h' := (zk_mk G sw σ α t)) rfl rfl rfl ?_
    by_cases h8_0 : α 5 k.toNat = 0
    · skip
      refine zk_lookup (tgt := 36) dC_costOf_8 (by decide) (ha _ _ (by decide)) (by rw [h8_0]) (by decide) ?_
      refine zk_aload_n dC_costOf_36 rfl ?_
      refine zk_get zfC_30 dC_costOf_37 (v := .inr (some 10)) rfl (by decide) rfl ?_
      refine zk_aload_n dC_costOf_40 rfl ?_
      refine zk_get zfC_37 dC_costOf_41 (v := .inr (some 11)) rfl (by decide) rfl ?_
      refine zk_iload_n dC_costOf_44 rfl ?_
      refine zk_callV (av := [.inl k]) (st := [.inr (some 10)]) (d' := (1, 21)) (kc' := 0) (ks' := 0) zbC_139 dC_costOf_45 rfl (by decide) rfl rfl (Nat.le_of_ble_eq_true rfl) ⟨by decide, by decide⟩ rfl rfl (kA_place G sw σ α t hs10 ⟨by omega, by omega⟩) (fun v9 h9 q9 => ?_)
      rcases q9 with ⟨rfl, ⟨hc45, rfl⟩ | ⟨hc45, rfl⟩⟩
      · skip
        refine zk_W.to (ls' := [some (.inr (some 1)), some (.inl k)]) (st' := [.inl (α 6 k.toNat), .inr (some 10)]) (h' := (zk_mk G sw σ α t)) rfl rfl rfl ?_
        refine zk_aload_n dC_costOf_48 rfl ?_
        refine zk_get zfC_37 dC_costOf_49 (v := .inr (some 11)) rfl (by decide) rfl ?_
        refine zk_iload_n dC_costOf_52 rfl ?_
        refine zk_callV (av := [.inl k]) (st := [.inl (α 6 k.toNat), .inr (some 10)]) (d' := (1, 18)) (kc' := 0) (ks' := 0) zbC_142 dC_costOf_53 rfl (by decide) rfl rfl (Nat.le_of_ble_eq_true rfl) ⟨by decide, by decide⟩ rfl rfl (kA_spotAhead G sw σ α t ha hs10 (k := k) (by omega)) (fun v9 h9 q9 => ?_)
        obtain ⟨rfl, rfl⟩ := q9
        refine zk_W.to (ls' := [some (.inr (some 1)), some (.inl k)]) (st' := [.inl (mt_spot (α 5) (α 6) (α 7) k.toNat), .inl (α 6 k.toNat), .inr (some 10)]) (h' := (zk_mk G sw σ α t)) rfl rfl rfl ?_
        refine zk_callV (av := [.inl (α 6 k.toNat), .inl (mt_spot (α 5) (α 6) (α 7) k.toNat)]) (st := []) (d' := (0, 0)) (kc' := 0) (ks' := 0) zbC_194 dC_costOf_56 rfl (by decide) rfl rfl (Nat.le_of_ble_eq_true rfl) ⟨by decide, by decide⟩ rfl rfl (kN_ofCopy G sw σ α t (ha _ _ (by decide)) hsp) (fun v9 h9 q9 => ?_)
        obtain ⟨rfl, rfl⟩ := q9
        refine zk_W.to (ls' := [some (.inr (some 1)), some (.inl k)]) (st' := [.inl (if α 6 k.toNat = mt_spot (α 5) (α 6) (α 7) k.toNat then σ 5 else σ 5 + σ 6)]) (h' := (zk_mk G sw σ α t)) rfl rfl rfl ?_
        refine zk_iret dC_costOf_59 rfl ⟨rfl, ?_⟩
        unfold mt_cost
        first | (rw [if_pos h8_0]; rfl) | (rw [if_neg h8_0, if_pos h8_1]; rfl) | (rw [if_neg h8_0, if_neg h8_1]; rfl)
      · skip
        exact absurd hk hc45
    by_cases h8_1 : α 5 k.toNat = 1
    · skip
      refine zk_lookup (tgt := 60) dC_costOf_8 (by decide) (ha _ _ (by decide)) (by rw [h8_1]) (by decide) ?_
      refine zk_aload_n dC_costOf_60 rfl ?_
      refine zk_get zfC_30 dC_costOf_61 (v := .inr (some 10)) rfl (by decide) rfl ?_
      refine zk_callV (av := []) (st := []) (d' := (0, 0)) (kc' := 0) (ks' := 0) zbC_197 dC_costOf_64 rfl (by decide) rfl rfl (Nat.le_of_ble_eq_true rfl) ⟨by decide, by decide⟩ rfl rfl (kN_ofSelf G sw σ α t) (fun v9 h9 q9 => ?_)
      obtain ⟨rfl, rfl⟩ := q9
      refine zk_W.to (ls' := [some (.inr (some 1)), some (.inl k)]) (st' := [.inl (σ 7)]) (h' := (zk_mk G sw σ α t)) rfl rfl rfl ?_
      refine zk_iret dC_costOf_67 rfl ⟨rfl, ?_⟩
      unfold mt_cost
      first | (rw [if_pos h8_0]; rfl) | (rw [if_neg h8_0, if_pos h8_1]; rfl) | (rw [if_neg h8_0, if_neg h8_1]; rfl)
    refine zk_lookup (tgt := 68) dC_costOf_8 (by decide) (ha _ _ (by decide)) (by show Op.lookupswitch.offset [(0, 28), (1, 52)] 60 _ = 60; rw [Op.lookupswitch.offset_cons, if_neg (fun e => h8_0 e.symm), Op.lookupswitch.offset_cons, if_neg (fun e => h8_1 e.symm)]; rfl) (by decide) ?_
    refine zk_aload_n dC_costOf_68 rfl ?_
    refine zk_get zfC_30 dC_costOf_69 (v := .inr (some 10)) rfl (by decide) rfl ?_
    refine zk_aload_n dC_costOf_72 rfl ?_
    refine zk_get zfC_37 dC_costOf_73 (v := .inr (some 11)) rfl (by decide) rfl ?_
    refine zk_iload_n dC_costOf_76 rfl ?_
    refine zk_callV (av := [.inl k]) (st := [.inr (some 10)]) (d' := (1, 21)) (kc' := 0) (ks' := 0) zbC_136 dC_costOf_77 rfl (by decide) rfl rfl (Nat.le_of_ble_eq_true rfl) ⟨by decide, by decide⟩ rfl rfl (kA_count G sw σ α t hs10 ⟨by omega, by omega⟩) (fun v9 h9 q9 => ?_)
    rcases q9 with ⟨rfl, ⟨hc77, rfl⟩ | ⟨hc77, rfl⟩⟩
    · skip
      refine zk_W.to (ls' := [some (.inr (some 1)), some (.inl k)]) (st' := [.inl (α 7 k.toNat), .inr (some 10)]) (h' := (zk_mk G sw σ α t)) rfl rfl rfl ?_
      refine zk_callV (av := [.inl (α 7 k.toNat)]) (st := []) (d' := (0, 0)) (kc' := 0) (ks' := 0) zbC_200 dC_costOf_80 rfl (by decide) rfl rfl (Nat.le_of_ble_eq_true rfl) ⟨by decide, by decide⟩ rfl rfl (kN_ofLay G sw σ α t) (fun v9 h9 q9 => ?_)
      obtain ⟨rfl, rfl⟩ := q9
      refine zk_W.to (ls' := [some (.inr (some 1)), some (.inl k)]) (st' := [.inl (σ 8 + σ 9 * (α 7 k.toNat))]) (h' := (zk_mk G sw σ α t)) rfl rfl rfl ?_
      refine zk_iret dC_costOf_83 rfl ⟨rfl, ?_⟩
      unfold mt_cost
      first | (rw [if_pos h8_0]; rfl) | (rw [if_neg h8_0, if_pos h8_1]; rfl) | (rw [if_neg h8_0, if_neg h8_1]; rfl)
    · skip
      exact absurd hk hc77
  · skip
    exact absurd hk hc5

set_option maxRecDepth 100000 in
set_option maxHeartbeats 4000000 in
theorem kC_fails (G : zk_G) (sw : Bool) (σ : Nat → Int) (α : Nat → Nat → Int) (t : zk_H) (hs10 : 0 ≤ σ 10 ∧ σ 10 ≤ 100) (ha : ∀ q j, q < 9 → zk_rg (α q j)) (hn0 : 0 ≤ σ 0 ∧ σ 0 ≤ 40) (hn2 : 0 ≤ σ 2 ∧ σ 2 ≤ 80) {k : Int} (hk : 0 ≤ k ∧ k < σ 10) (hC : 0 ≤ α 7 k.toNat ∧ α 7 k.toNat ≤ 40) (hP : -1 ≤ α 6 k.toNat ∧ α 6 k.toNat ≤ 79) : zk_K G mC_fails (2, 42) 0 0 [.inr (some 1), .inl k] (zk_mk G sw σ α t) (fun v h' => h' = (zk_mk G sw σ α t) ∧ (((80 < σ 2 + α 7 k.toNat ∨ (α 5 k.toNat = 0 ∧ σ 0 < α 6 k.toNat + α 7 k.toNat) ∨ (α 5 k.toNat = 1 ∧ σ 2 ≤ α 6 k.toNat)) ∧ v = some (.inl 1)) ∨ ((¬ (80 < σ 2 + α 7 k.toNat ∨ (α 5 k.toNat = 0 ∧ σ 0 < α 6 k.toNat + α 7 k.toNat) ∨ (α 5 k.toNat = 1 ∧ σ 2 ≤ α 6 k.toNat))) ∧ v = some (.inl 0)))) := by
  refine zk_K.of (ls := [some (.inr (some 1)), some (.inl k), none]) (by decide +kernel) (Nat.le_of_ble_eq_true rfl) rfl ?_
  refine zk_aload_n dC_fails_0 rfl ?_
  refine zk_get zfC_37 dC_fails_1 (v := .inr (some 11)) rfl (by decide) rfl ?_
  refine zk_iload_n dC_fails_4 rfl ?_
  refine zk_callV (av := [.inl k]) (st := []) (d' := (1, 21)) (kc' := 0) (ks' := 0) zbC_136 dC_fails_5 rfl (by decide) rfl rfl (Nat.le_of_ble_eq_true rfl) ⟨by decide, by decide⟩ rfl rfl (kA_count G sw σ α t hs10 ⟨by omega, by omega⟩) (fun v9 h9 q9 => ?_)
  rcases q9 with ⟨rfl, ⟨hc5, rfl⟩ | ⟨hc5, rfl⟩⟩
  · skip
    refine zk_W.to (ls' := [some (.inr (some 1)), some (.inl k), none]) (st' := [.inl (α 7 k.toNat)]) (h' := (zk_mk G sw σ α t)) rfl rfl rfl ?_
    refine zk_istore_n (ls' := [some (.inr (some 1)), some (.inl k), some (.inl (α 7 k.toNat))]) dC_fails_8 (by decide) rfl ?_
    refine zk_aload_n dC_fails_9 rfl ?_
    refine zk_get zfC_21 dC_fails_10 (v := .inr (some 6)) rfl (by decide) rfl ?_
    refine zk_callV (av := []) (st := []) (d' := (0, 0)) (kc' := 0) (ks' := 0) zbC_50 dC_fails_13 rfl (by decide) rfl rfl (Nat.le_of_ble_eq_true rfl) ⟨by decide, by decide⟩ rfl rfl (kR_length G sw σ α t (q := 2) (by decide)) (fun v9 h9 q9 => ?_)
    obtain ⟨rfl, rfl⟩ := q9
    refine zk_W.to (ls' := [some (.inr (some 1)), some (.inl k), some (.inl (α 7 k.toNat))]) (st' := [.inl (σ 2)]) (h' := (zk_mk G sw σ α t)) rfl rfl rfl ?_
    refine zk_iload_n dC_fails_16 rfl ?_
    refine zk_iadd dC_fails_17 ?_
    refine zk_bipush dC_fails_18 (by decide) ?_
    refine zk_icmp_le (tgt := 25) dC_fails_20 (by decide) ⟨by omega, by omega⟩ ⟨by decide, by decide⟩ (fun h20 => ?_) (fun h20 => ?_)
    · skip
      refine zk_aload_n dC_fails_25 rfl ?_
      refine zk_get zfC_37 dC_fails_26 (v := .inr (some 11)) rfl (by decide) rfl ?_
      refine zk_iload_n dC_fails_29 rfl ?_
      refine zk_callV (av := [.inl k]) (st := []) (d' := (1, 21)) (kc' := 0) (ks' := 0) zbC_133 dC_fails_30 rfl (by decide) rfl rfl (Nat.le_of_ble_eq_true rfl) ⟨by decide, by decide⟩ rfl rfl (kA_kind G sw σ α t hs10 ⟨by omega, by omega⟩) (fun v9 h9 q9 => ?_)
      rcases q9 with ⟨rfl, ⟨hc30, rfl⟩ | ⟨hc30, rfl⟩⟩
      · skip
        refine zk_W.to (ls' := [some (.inr (some 1)), some (.inl k), some (.inl (α 7 k.toNat))]) (st' := [.inl (α 5 k.toNat)]) (h' := (zk_mk G sw σ α t)) rfl rfl rfl ?_
        by_cases h33_0 : α 5 k.toNat = 0
        · skip
          refine zk_lookup (tgt := 60) dC_fails_33 (by decide) (ha _ _ (by decide)) (by rw [h33_0]) (by decide) ?_
          refine zk_aload_n dC_fails_60 rfl ?_
          refine zk_get zfC_37 dC_fails_61 (v := .inr (some 11)) rfl (by decide) rfl ?_
          refine zk_iload_n dC_fails_64 rfl ?_
          refine zk_callV (av := [.inl k]) (st := []) (d' := (1, 21)) (kc' := 0) (ks' := 0) zbC_139 dC_fails_65 rfl (by decide) rfl rfl (Nat.le_of_ble_eq_true rfl) ⟨by decide, by decide⟩ rfl rfl (kA_place G sw σ α t hs10 ⟨by omega, by omega⟩) (fun v9 h9 q9 => ?_)
          rcases q9 with ⟨rfl, ⟨hc65, rfl⟩ | ⟨hc65, rfl⟩⟩
          · skip
            refine zk_W.to (ls' := [some (.inr (some 1)), some (.inl k), some (.inl (α 7 k.toNat))]) (st' := [.inl (α 6 k.toNat)]) (h' := (zk_mk G sw σ α t)) rfl rfl rfl ?_
            refine zk_iload_n dC_fails_68 rfl ?_
            refine zk_iadd dC_fails_69 ?_
            refine zk_aload_n dC_fails_70 rfl ?_
            refine zk_get zfC_14 dC_fails_71 (v := .inr (some 2)) rfl (by decide) rfl ?_
            refine zk_callV (av := []) (st := [.inl ((α 6 k.toNat) + (α 7 k.toNat))]) (d' := (0, 0)) (kc' := 0) (ks' := 0) zbC_50 dC_fails_74 rfl (by decide) rfl rfl (Nat.le_of_ble_eq_true rfl) ⟨by decide, by decide⟩ rfl rfl (kR_length G sw σ α t (q := 0) (by decide)) (fun v9 h9 q9 => ?_)
            obtain ⟨rfl, rfl⟩ := q9
            refine zk_W.to (ls' := [some (.inr (some 1)), some (.inl k), some (.inl (α 7 k.toNat))]) (st' := [.inl (σ 0), .inl ((α 6 k.toNat) + (α 7 k.toNat))]) (h' := (zk_mk G sw σ α t)) rfl rfl rfl ?_
            refine zk_icmp_le (tgt := 84) dC_fails_77 (by decide) ⟨by omega, by omega⟩ ⟨by omega, by omega⟩ (fun h77 => ?_) (fun h77 => ?_)
            · skip
              refine zk_iconst dC_fails_84 ?_
              exact zk_zret dC_fails_85 rfl (by decide) ⟨rfl, Or.inr ⟨by omega, rfl⟩⟩
            · skip
              refine zk_iconst dC_fails_80 ?_
              refine zk_goto (tgt := 85) dC_fails_81 (by decide) ?_
              exact zk_zret dC_fails_85 rfl (by decide) ⟨rfl, Or.inl ⟨by omega, rfl⟩⟩
          · skip
            exact absurd hk hc65
        by_cases h33_1 : α 5 k.toNat = 1
        · skip
          refine zk_lookup (tgt := 86) dC_fails_33 (by decide) (ha _ _ (by decide)) (by rw [h33_1]) (by decide) ?_
          refine zk_aload_n dC_fails_86 rfl ?_
          refine zk_get zfC_37 dC_fails_87 (v := .inr (some 11)) rfl (by decide) rfl ?_
          refine zk_iload_n dC_fails_90 rfl ?_
          refine zk_callV (av := [.inl k]) (st := []) (d' := (1, 21)) (kc' := 0) (ks' := 0) zbC_139 dC_fails_91 rfl (by decide) rfl rfl (Nat.le_of_ble_eq_true rfl) ⟨by decide, by decide⟩ rfl rfl (kA_place G sw σ α t hs10 ⟨by omega, by omega⟩) (fun v9 h9 q9 => ?_)
          rcases q9 with ⟨rfl, ⟨hc91, rfl⟩ | ⟨hc91, rfl⟩⟩
          · skip
            refine zk_W.to (ls' := [some (.inr (some 1)), some (.inl k), some (.inl (α 7 k.toNat))]) (st' := [.inl (α 6 k.toNat)]) (h' := (zk_mk G sw σ α t)) rfl rfl rfl ?_
            refine zk_aload_n dC_fails_94 rfl ?_
            refine zk_get zfC_21 dC_fails_95 (v := .inr (some 6)) rfl (by decide) rfl ?_
            refine zk_callV (av := []) (st := [.inl (α 6 k.toNat)]) (d' := (0, 0)) (kc' := 0) (ks' := 0) zbC_50 dC_fails_98 rfl (by decide) rfl rfl (Nat.le_of_ble_eq_true rfl) ⟨by decide, by decide⟩ rfl rfl (kR_length G sw σ α t (q := 2) (by decide)) (fun v9 h9 q9 => ?_)
            obtain ⟨rfl, rfl⟩ := q9
            refine zk_W.to (ls' := [some (.inr (some 1)), some (.inl k), some (.inl (α 7 k.toNat))]) (st' := [.inl (σ 2), .inl (α 6 k.toNat)]) (h' := (zk_mk G sw σ α t)) rfl rfl rfl ?_
            refine zk_icmp_lt (tgt := 108) dC_fails_101 (by decide) ⟨by omega, by omega⟩ ⟨by omega, by omega⟩ (fun h101 => ?_) (fun h101 => ?_)
            · skip
              refine zk_iconst dC_fails_108 ?_
              exact zk_zret dC_fails_109 rfl (by decide) ⟨rfl, Or.inr ⟨by omega, rfl⟩⟩
            · skip
              refine zk_iconst dC_fails_104 ?_
              refine zk_goto (tgt := 109) dC_fails_105 (by decide) ?_
              exact zk_zret dC_fails_109 rfl (by decide) ⟨rfl, Or.inl ⟨by omega, rfl⟩⟩
          · skip
            exact absurd hk hc91
        refine zk_lookup (tgt := 110) dC_fails_33 (by decide) (ha _ _ (by decide)) (by show Op.lookupswitch.offset [(0, 27), (1, 53)] 77 _ = 77; rw [Op.lookupswitch.offset_cons, if_neg (fun e => h33_0 e.symm), Op.lookupswitch.offset_cons, if_neg (fun e => h33_1 e.symm)]; rfl) (by decide) ?_
        refine zk_iconst dC_fails_110 ?_
        exact zk_zret dC_fails_111 rfl (by decide) ⟨rfl, Or.inr ⟨by omega, rfl⟩⟩
      · skip
        exact absurd hk hc30
    · skip
      refine zk_iconst dC_fails_23 ?_
      exact zk_zret dC_fails_24 rfl (by decide) ⟨rfl, Or.inl ⟨by omega, rfl⟩⟩
  · skip
    exact absurd hk hc5

set_option maxRecDepth 100000 in
set_option maxHeartbeats 4000000 in
theorem kC_byteOf (G : zk_G) (sw : Bool) (σ : Nat → Int) (α : Nat → Nat → Int) (t : zk_H) (hs10 : 0 ≤ σ 10 ∧ σ 10 ≤ 100) (ha : ∀ q j, q < 9 → zk_rg (α q j)) (hn0 : 0 ≤ σ 0 ∧ σ 0 ≤ (zr_N 0 : Int)) (hn2 : 0 ≤ σ 2 ∧ σ 2 ≤ (zr_N 2 : Int)) (hn4 : 0 ≤ σ 4 ∧ σ 4 ≤ (zr_N 4 : Int)) {k : Int} (hk : 0 ≤ k ∧ k < σ 10) {j : Int} (hb0 : α 5 k.toNat = 0 → 0 ≤ α 6 k.toNat + j ∧ α 6 k.toNat + j < σ 0) (hb1 : α 5 k.toNat = 1 → 0 ≤ α 6 k.toNat + j ∧ α 6 k.toNat + j < σ 2) (hb2 : α 5 k.toNat ≠ 0 → α 5 k.toNat ≠ 1 → 0 ≤ α 8 k.toNat + j ∧ α 8 k.toNat + j < σ 4) : zk_K G mC_byteOf (3, 64) 0 0 [.inr (some 1), .inl k, .inl j] (zk_mk G sw σ α t) (fun v h' => h' = (zk_mk G sw σ α t) ∧ v = some (.inl (if α 5 k.toNat = 0 then α 0 (α 6 k.toNat + j).toNat else if α 5 k.toNat = 1 then α 2 (α 6 k.toNat + j).toNat else α 4 (α 8 k.toNat + j).toNat))) := by
  have eN0 : (zr_N 0 : Int) = 40 := rfl
  have eN2 : (zr_N 2 : Int) = 80 := rfl
  have eN4 : (zr_N 4 : Int) = 4000 := rfl
  refine zk_K.of (ls := [some (.inr (some 1)), some (.inl k), some (.inl j)]) (by decide +kernel) (Nat.le_of_ble_eq_true rfl) rfl ?_
  refine zk_aload_n dC_byteOf_0 rfl ?_
  refine zk_get zfC_37 dC_byteOf_1 (v := .inr (some 11)) rfl (by decide) rfl ?_
  refine zk_iload_n dC_byteOf_4 rfl ?_
  refine zk_callV (av := [.inl k]) (st := []) (d' := (1, 21)) (kc' := 0) (ks' := 0) zbC_133 dC_byteOf_5 rfl (by decide) rfl rfl (Nat.le_of_ble_eq_true rfl) ⟨by decide, by decide⟩ rfl rfl (kA_kind G sw σ α t hs10 ⟨by omega, by omega⟩) (fun v9 h9 q9 => ?_)
  rcases q9 with ⟨rfl, ⟨hc5, rfl⟩ | ⟨hc5, rfl⟩⟩
  · skip
    refine zk_W.to (ls' := [some (.inr (some 1)), some (.inl k), some (.inl j)]) (st' := [.inl (α 5 k.toNat)]) (h' := (zk_mk G sw σ α t)) rfl rfl rfl ?_
    by_cases h8_0 : α 5 k.toNat = 0
    · skip
      refine zk_lookup (tgt := 36) dC_byteOf_8 (by decide) (ha _ _ (by decide)) (by rw [h8_0]) (by decide) ?_
      have hb := hb0 h8_0
      refine zk_aload_n dC_byteOf_36 rfl ?_
      refine zk_get zfC_14 dC_byteOf_37 (v := .inr (some 2)) rfl (by decide) rfl ?_
      refine zk_aload_n dC_byteOf_40 rfl ?_
      refine zk_get zfC_37 dC_byteOf_41 (v := .inr (some 11)) rfl (by decide) rfl ?_
      refine zk_iload_n dC_byteOf_44 rfl ?_
      refine zk_callV (av := [.inl k]) (st := [.inr (some 2)]) (d' := (1, 21)) (kc' := 0) (ks' := 0) zbC_139 dC_byteOf_45 rfl (by decide) rfl rfl (Nat.le_of_ble_eq_true rfl) ⟨by decide, by decide⟩ rfl rfl (kA_place G sw σ α t hs10 ⟨by omega, by omega⟩) (fun v9 h9 q9 => ?_)
      rcases q9 with ⟨rfl, ⟨hc45, rfl⟩ | ⟨hc45, rfl⟩⟩
      · skip
        refine zk_W.to (ls' := [some (.inr (some 1)), some (.inl k), some (.inl j)]) (st' := [.inl (α 6 k.toNat), .inr (some 2)]) (h' := (zk_mk G sw σ α t)) rfl rfl rfl ?_
        refine zk_iload_n dC_byteOf_48 rfl ?_
        refine zk_iadd dC_byteOf_49 ?_
        refine zk_callV (av := [.inl ((α 6 k.toNat) + j)]) (st := []) (d' := (1, 21)) (kc' := 0) (ks' := 0) zbC_168 dC_byteOf_50 rfl (by decide) rfl rfl (Nat.le_of_ble_eq_true rfl) ⟨by decide, by decide⟩ rfl rfl (kR_get G sw σ α t (q := 0) (by decide) hn0 ⟨by omega, by omega⟩) (fun v9 h9 q9 => ?_)
        rcases q9 with ⟨rfl, ⟨hc50, rfl⟩ | ⟨hc50, rfl⟩⟩
        · skip
          refine zk_W.to (ls' := [some (.inr (some 1)), some (.inl k), some (.inl j)]) (st' := [.inl (α 0 ((α 6 k.toNat) + j).toNat)]) (h' := (zk_mk G sw σ α t)) rfl rfl rfl ?_
          refine zk_iret dC_byteOf_53 rfl ⟨rfl, ?_⟩
          first | rw [if_pos h8_0] | rw [if_neg h8_0, if_pos h8_1] | rw [if_neg h8_0, if_neg h8_1]
        · skip
          exact absurd (⟨by omega, by omega⟩ : 0 ≤ (α 6 k.toNat) + j ∧ (α 6 k.toNat) + j < σ 0) hc50
      · skip
        exact absurd hk hc45
    by_cases h8_1 : α 5 k.toNat = 1
    · skip
      refine zk_lookup (tgt := 54) dC_byteOf_8 (by decide) (ha _ _ (by decide)) (by rw [h8_1]) (by decide) ?_
      have hb := hb1 h8_1
      refine zk_aload_n dC_byteOf_54 rfl ?_
      refine zk_get zfC_21 dC_byteOf_55 (v := .inr (some 6)) rfl (by decide) rfl ?_
      refine zk_aload_n dC_byteOf_58 rfl ?_
      refine zk_get zfC_37 dC_byteOf_59 (v := .inr (some 11)) rfl (by decide) rfl ?_
      refine zk_iload_n dC_byteOf_62 rfl ?_
      refine zk_callV (av := [.inl k]) (st := [.inr (some 6)]) (d' := (1, 21)) (kc' := 0) (ks' := 0) zbC_139 dC_byteOf_63 rfl (by decide) rfl rfl (Nat.le_of_ble_eq_true rfl) ⟨by decide, by decide⟩ rfl rfl (kA_place G sw σ α t hs10 ⟨by omega, by omega⟩) (fun v9 h9 q9 => ?_)
      rcases q9 with ⟨rfl, ⟨hc63, rfl⟩ | ⟨hc63, rfl⟩⟩
      · skip
        refine zk_W.to (ls' := [some (.inr (some 1)), some (.inl k), some (.inl j)]) (st' := [.inl (α 6 k.toNat), .inr (some 6)]) (h' := (zk_mk G sw σ α t)) rfl rfl rfl ?_
        refine zk_iload_n dC_byteOf_66 rfl ?_
        refine zk_iadd dC_byteOf_67 ?_
        refine zk_callV (av := [.inl ((α 6 k.toNat) + j)]) (st := []) (d' := (1, 21)) (kc' := 0) (ks' := 0) zbC_168 dC_byteOf_68 rfl (by decide) rfl rfl (Nat.le_of_ble_eq_true rfl) ⟨by decide, by decide⟩ rfl rfl (kR_get G sw σ α t (q := 2) (by decide) hn2 ⟨by omega, by omega⟩) (fun v9 h9 q9 => ?_)
        rcases q9 with ⟨rfl, ⟨hc68, rfl⟩ | ⟨hc68, rfl⟩⟩
        · skip
          refine zk_W.to (ls' := [some (.inr (some 1)), some (.inl k), some (.inl j)]) (st' := [.inl (α 2 ((α 6 k.toNat) + j).toNat)]) (h' := (zk_mk G sw σ α t)) rfl rfl rfl ?_
          refine zk_iret dC_byteOf_71 rfl ⟨rfl, ?_⟩
          first | rw [if_pos h8_0] | rw [if_neg h8_0, if_pos h8_1] | rw [if_neg h8_0, if_neg h8_1]
        · skip
          exact absurd (⟨by omega, by omega⟩ : 0 ≤ (α 6 k.toNat) + j ∧ (α 6 k.toNat) + j < σ 2) hc68
      · skip
        exact absurd hk hc63
    refine zk_lookup (tgt := 72) dC_byteOf_8 (by decide) (ha _ _ (by decide)) (by show Op.lookupswitch.offset [(0, 28), (1, 46)] 64 _ = 64; rw [Op.lookupswitch.offset_cons, if_neg (fun e => h8_0 e.symm), Op.lookupswitch.offset_cons, if_neg (fun e => h8_1 e.symm)]; rfl) (by decide) ?_
    have hlb := hb2 h8_0 h8_1
    refine zk_aload_n dC_byteOf_72 rfl ?_
    refine zk_get zfC_37 dC_byteOf_73 (v := .inr (some 11)) rfl (by decide) rfl ?_
    refine zk_iload_n dC_byteOf_76 rfl ?_
    refine zk_iload_n dC_byteOf_77 rfl ?_
    refine zk_callV (av := [.inl k, .inl j]) (st := []) (d' := (2, 42)) (kc' := 0) (ks' := 0) zbC_145 dC_byteOf_78 rfl (by decide) rfl rfl (Nat.le_of_ble_eq_true rfl) ⟨by decide, by decide⟩ rfl rfl (kA_laidByte G sw σ α t hs10 hn4 hk (i := j) hlb) (fun v9 h9 q9 => ?_)
    obtain ⟨rfl, rfl⟩ := q9
    refine zk_W.to (ls' := [some (.inr (some 1)), some (.inl k), some (.inl j)]) (st' := [.inl (α 4 (α 8 k.toNat + j).toNat)]) (h' := (zk_mk G sw σ α t)) rfl rfl rfl ?_
    refine zk_iret dC_byteOf_81 rfl ⟨rfl, ?_⟩
    first | rw [if_pos h8_0] | rw [if_neg h8_0, if_pos h8_1] | rw [if_neg h8_0, if_neg h8_1]
  · skip
    exact absurd hk hc5
end
section
/-- how many bytes the acts below n lay -/
def mt_lsum (K C : Nat → Int) : Nat → Int
  | 0 => 0
  | n + 1 => mt_lsum K C n + (if K n = 2 then C n else 0)
/-- act k is one that can stand in a plan -/
def zc_a (α : Nat → Nat → Int) (k : Nat) : Prop := (α 5 k = 0 ∨ α 5 k = 1 ∨ α 5 k = 2) ∧ (1 ≤ α 7 k ∧ α 7 k ≤ 40) ∧ (α 5 k ≠ 2 → 0 ≤ α 6 k ∧ α 6 k ≤ 79) ∧ (α 5 k = 2 → α 6 k = -1) ∧ α 8 k = mt_lsum (α 5) (α 7) k
/-- what holds of the class between its calls -/
def zc_I (σ : Nat → Int) (α : Nat → Nat → Int) : Prop := (∀ q, q < 5 → 0 ≤ σ q ∧ σ q ≤ (zr_N q : Int)) ∧ (∀ q, q < 5 → ∀ j, 0 ≤ α q j ∧ α q j ≤ 255) ∧ (∀ j, j < 5 → 0 ≤ zs_c σ j ∧ zs_c σ j ≤ 100) ∧ (0 ≤ σ 10 ∧ σ 10 ≤ 100) ∧ (0 ≤ σ 11 ∧ σ 11 ≤ 65535) ∧ (∀ q j, q < 9 → zk_rg (α q j)) ∧ (∀ k, k < (σ 10).toNat → zc_a α k) ∧ σ 4 = mt_lsum (α 5) (α 7) (σ 10).toNat ∧ (σ 12 = 0 ∨ σ 12 = 1) ∧ (σ 12 = 1 → zs_T σ α)
theorem mt_spot_rg {K P C : Nat → Int} : ∀ {n : Nat}, (∀ k, k < n → (K k = 0 → 0 ≤ P k ∧ P k ≤ 79) ∧ (1 ≤ C k ∧ C k ≤ 40)) → 0 ≤ mt_spot K P C n ∧ mt_spot K P C n ≤ 119
  | 0, _ => ⟨Int.le_refl 0, by show (0 : Int) ≤ 119; omega⟩
  | n + 1, h => by
    show 0 ≤ (if K n = 0 then P n + C n else mt_spot K P C n) ∧ (if K n = 0 then P n + C n else mt_spot K P C n) ≤ 119
    have h1 := h n (by omega)
    split
    next hk =>
      have := h1.1 hk
      omega
    next => exact mt_spot_rg (fun k hk => h k (by omega))
theorem zc_spot {σ : Nat → Int} {α : Nat → Nat → Int} (hI : zc_I σ α) {n : Nat} (hn : n ≤ (σ 10).toNat) : 0 ≤ mt_spot (α 5) (α 6) (α 7) n ∧ mt_spot (α 5) (α 6) (α 7) n ≤ 119 :=
  mt_spot_rg (fun k hk => ⟨fun h0 => (hI.2.2.2.2.2.2.1 k (by omega)).2.2.1 (by omega), (hI.2.2.2.2.2.2.1 k (by omega)).2.1⟩)
theorem mt_cost_rg {c K P C : Nat → Int} {k : Nat} (hc : ∀ j, j < 5 → 0 ≤ c j ∧ c j ≤ 100) (hC : 1 ≤ C k ∧ C k ≤ 40) : 0 ≤ mt_cost c K P C k ∧ mt_cost c K P C k ≤ 4100 := by
  have c0 := hc 0 (by omega)
  have c1 := hc 1 (by omega)
  have c2 := hc 2 (by omega)
  have c3 := hc 3 (by omega)
  have c4 := hc 4 (by omega)
  have hm : 0 ≤ c 4 * C k ∧ c 4 * C k ≤ 4000 := by
    refine ⟨Int.mul_nonneg c4.1 (by omega), ?_⟩
    have h1 : c 4 * C k ≤ 100 * C k := Int.mul_le_mul_of_nonneg_right c4.2 (by omega)
    omega
  unfold mt_cost
  (repeat' split) <;> omega
/-- the costs of the acts below n together -/
def mt_csum (c K P C : Nat → Int) : Nat → Int
  | 0 => 0
  | n + 1 => mt_csum c K P C n + mt_cost c K P C n
theorem mt_csum_rg {c K P C : Nat → Int} (hc : ∀ j, j < 5 → 0 ≤ c j ∧ c j ≤ 100) : ∀ {n : Nat}, (∀ k, k < n → 1 ≤ C k ∧ C k ≤ 40) → 0 ≤ mt_csum c K P C n ∧ mt_csum c K P C n ≤ 4100 * n
  | 0, _ => ⟨Int.le_refl 0, Int.le_refl 0⟩
  | n + 1, h => by
    have h1 := mt_csum_rg (K := K) (P := P) hc (n := n) (fun k hk => h k (by omega))
    have h2 := mt_cost_rg (K := K) (P := P) hc (h n (by omega))
    show 0 ≤ mt_csum c K P C n + mt_cost c K P C n ∧ mt_csum c K P C n + mt_cost c K P C n ≤ 4100 * ((n + 1 : Nat) : Int)
    omega

set_option maxRecDepth 100000 in
set_option maxHeartbeats 4000000 in
theorem kC_clear (G : zk_G) (sw : Bool) (σ : Nat → Int) (α : Nat → Nat → Int) (t : zk_H) (hI : zc_I σ α)  : zk_K G mC_clear (2, 45) 0 0 [.inr (some 1)] (zk_mk G sw σ α t) (fun v h' => h' = zk_mk G sw (zk_up (zk_up (zk_up (zk_up (zk_up (zk_up (zk_up (zk_up (zk_up (zk_up (zk_up (zk_up (zk_up σ 0 0) 1 0) 2 0) 3 0) 5 4) 6 2) 7 4) 8 2) 9 3) 10 0) 4 0) 11 1) 12 0) α t ∧ v = some (.inl (σ 0 + σ 1))) := by
  have hn0 := hI.1 0 (by decide)
  have hn1 := hI.1 1 (by decide)
  have hn2 := hI.1 2 (by decide)
  have hn3 := hI.1 3 (by decide)
  have hn4 := hI.1 4 (by decide)
  have eN0 : (zr_N 0 : Int) = 40 := rfl
  have eN1 : (zr_N 1 : Int) = 40 := rfl
  have eN2 : (zr_N 2 : Int) = 80 := rfl
  have eN3 : (zr_N 3 : Int) = 4102 := rfl
  have eN4 : (zr_N 4 : Int) = 4000 := rfl
  have hv0 := hI.2.1 0 (by decide)
  have hv1 := hI.2.1 1 (by decide)
  have hv2 := hI.2.1 2 (by decide)
  have hv3 := hI.2.1 3 (by decide)
  have hv4 := hI.2.1 4 (by decide)
  have hc := hI.2.2.1
  have hs10 := hI.2.2.2.1
  have hs11 := hI.2.2.2.2.1
  have ha := hI.2.2.2.2.2.1
  refine zk_K.of (ls := [some (.inr (some 1)), none]) (by decide +kernel) (Nat.le_of_ble_eq_true rfl) rfl ?_
  refine zk_aload_n dC_clear_0 rfl ?_
  refine zk_get zfC_14 dC_clear_1 (v := .inr (some 2)) rfl (by decide) rfl ?_
  refine zk_callV (av := []) (st := []) (d' := (0, 0)) (kc' := 0) (ks' := 0) zbC_50 dC_clear_4 rfl (by decide) rfl rfl (Nat.le_of_ble_eq_true rfl) ⟨by decide, by decide⟩ rfl rfl (kR_length G sw σ α t (q := 0) (by decide)) (fun v9 h9 q9 => ?_)
  obtain ⟨rfl, rfl⟩ := q9
  refine zk_W.to (ls' := [some (.inr (some 1)), none]) (st' := [.inl (σ 0)]) (h' := (zk_mk G sw σ α t)) rfl rfl rfl ?_
  refine zk_aload_n dC_clear_7 rfl ?_
  refine zk_get zfC_18 dC_clear_8 (v := .inr (some 4)) rfl (by decide) rfl ?_
  refine zk_callV (av := []) (st := [.inl (σ 0)]) (d' := (0, 0)) (kc' := 0) (ks' := 0) zbC_50 dC_clear_11 rfl (by decide) rfl rfl (Nat.le_of_ble_eq_true rfl) ⟨by decide, by decide⟩ rfl rfl (kR_length G sw σ α t (q := 1) (by decide)) (fun v9 h9 q9 => ?_)
  obtain ⟨rfl, rfl⟩ := q9
  refine zk_W.to (ls' := [some (.inr (some 1)), none]) (st' := [.inl (σ 1), .inl (σ 0)]) (h' := (zk_mk G sw σ α t)) rfl rfl rfl ?_
  refine zk_iadd dC_clear_14 ?_
  refine zk_istore_n (ls' := [some (.inr (some 1)), some (.inl ((σ 0) + (σ 1)))]) dC_clear_15 (by decide) rfl ?_
  refine zk_aload_n dC_clear_16 rfl ?_
  refine zk_get zfC_14 dC_clear_17 (v := .inr (some 2)) rfl (by decide) rfl ?_
  refine zk_callV (av := []) (st := []) (d' := (0, 0)) (kc' := 0) (ks' := 0) zbC_54 dC_clear_20 rfl (by decide) rfl rfl (Nat.le_of_ble_eq_true rfl) ⟨by decide, by decide⟩ rfl rfl (kR_dropAll G sw σ α t (q := 0) (by decide)) (fun v9 h9 q9 => ?_)
  obtain ⟨rfl, rfl⟩ := q9
  refine zk_W.to (ls' := [some (.inr (some 1)), some (.inl ((σ 0) + (σ 1)))]) (st' := []) (h' := (zk_mk G sw (zk_up σ 0 0) α t)) rfl rfl rfl ?_
  refine zk_aload_n dC_clear_23 rfl ?_
  refine zk_get zfC_18 dC_clear_24 (v := .inr (some 4)) rfl (by decide) rfl ?_
  refine zk_callV (av := []) (st := []) (d' := (0, 0)) (kc' := 0) (ks' := 0) zbC_54 dC_clear_27 rfl (by decide) rfl rfl (Nat.le_of_ble_eq_true rfl) ⟨by decide, by decide⟩ rfl rfl (kR_dropAll G sw (zk_up σ 0 0) α t (q := 1) (by decide)) (fun v9 h9 q9 => ?_)
  obtain ⟨rfl, rfl⟩ := q9
  refine zk_W.to (ls' := [some (.inr (some 1)), some (.inl ((σ 0) + (σ 1)))]) (st' := []) (h' := (zk_mk G sw (zk_up (zk_up σ 0 0) 1 0) α t)) rfl rfl rfl ?_
  refine zk_aload_n dC_clear_30 rfl ?_
  refine zk_get zfC_21 dC_clear_31 (v := .inr (some 6)) rfl (by decide) rfl ?_
  refine zk_callV (av := []) (st := []) (d' := (0, 0)) (kc' := 0) (ks' := 0) zbC_54 dC_clear_34 rfl (by decide) rfl rfl (Nat.le_of_ble_eq_true rfl) ⟨by decide, by decide⟩ rfl rfl (kR_dropAll G sw (zk_up (zk_up σ 0 0) 1 0) α t (q := 2) (by decide)) (fun v9 h9 q9 => ?_)
  obtain ⟨rfl, rfl⟩ := q9
  refine zk_W.to (ls' := [some (.inr (some 1)), some (.inl ((σ 0) + (σ 1)))]) (st' := []) (h' := (zk_mk G sw (zk_up (zk_up (zk_up σ 0 0) 1 0) 2 0) α t)) rfl rfl rfl ?_
  refine zk_aload_n dC_clear_37 rfl ?_
  refine zk_get zfC_24 dC_clear_38 (v := .inr (some 8)) rfl (by decide) rfl ?_
  refine zk_callV (av := []) (st := []) (d' := (0, 0)) (kc' := 0) (ks' := 0) zbC_54 dC_clear_41 rfl (by decide) rfl rfl (Nat.le_of_ble_eq_true rfl) ⟨by decide, by decide⟩ rfl rfl (kR_dropAll G sw (zk_up (zk_up (zk_up σ 0 0) 1 0) 2 0) α t (q := 3) (by decide)) (fun v9 h9 q9 => ?_)
  obtain ⟨rfl, rfl⟩ := q9
  refine zk_W.to (ls' := [some (.inr (some 1)), some (.inl ((σ 0) + (σ 1)))]) (st' := []) (h' := (zk_mk G sw (zk_up (zk_up (zk_up (zk_up σ 0 0) 1 0) 2 0) 3 0) α t)) rfl rfl rfl ?_
  refine zk_aload_n dC_clear_44 rfl ?_
  refine zk_get zfC_30 dC_clear_45 (v := .inr (some 10)) rfl (by decide) rfl ?_
  refine zk_callV (av := []) (st := []) (d' := (1, 25)) (kc' := 0) (ks' := 0) zbC_57 dC_clear_48 rfl (by decide) rfl rfl (Nat.le_of_ble_eq_true rfl) ⟨by decide, by decide⟩ rfl rfl (kN_setFirstOnes G sw (zk_up (zk_up (zk_up (zk_up σ 0 0) 1 0) 2 0) 3 0) α t) (fun v9 h9 q9 => ?_)
  obtain ⟨rfl, rfl⟩ := q9
  refine zk_W.to (ls' := [some (.inr (some 1)), some (.inl ((σ 0) + (σ 1)))]) (st' := []) (h' := (zk_mk G sw (zk_up (zk_up (zk_up (zk_up (zk_up (zk_up (zk_up (zk_up (zk_up σ 0 0) 1 0) 2 0) 3 0) 5 4) 6 2) 7 4) 8 2) 9 3) α t)) rfl rfl rfl ?_
  refine zk_aload_n dC_clear_51 rfl ?_
  refine zk_get zfC_37 dC_clear_52 (v := .inr (some 11)) rfl (by decide) rfl ?_
  refine zk_iconst dC_clear_55 ?_
  refine zk_callV (av := [.inl 1]) (st := []) (d' := (1, 20)) (kc' := 0) (ks' := 0) zbC_60 dC_clear_56 rfl (by decide) rfl rfl (Nat.le_of_ble_eq_true rfl) ⟨by decide, by decide⟩ rfl rfl (kA_begin G sw (zk_up (zk_up (zk_up (zk_up (zk_up (zk_up (zk_up (zk_up (zk_up σ 0 0) 1 0) 2 0) 3 0) 5 4) 6 2) 7 4) 8 2) 9 3) α t) (fun v9 h9 q9 => ?_)
  obtain ⟨rfl, rfl⟩ := q9
  refine zk_W.to (ls' := [some (.inr (some 1)), some (.inl ((σ 0) + (σ 1)))]) (st' := []) (h' := (zk_mk G sw (zk_up (zk_up (zk_up (zk_up (zk_up (zk_up (zk_up (zk_up (zk_up (zk_up (zk_up (zk_up σ 0 0) 1 0) 2 0) 3 0) 5 4) 6 2) 7 4) 8 2) 9 3) 10 0) 4 0) 11 1) α t)) rfl rfl rfl ?_
  refine zk_aload_n dC_clear_59 rfl ?_
  refine zk_get zfC_46 dC_clear_60 (v := .inr (some 18)) rfl (by decide) rfl ?_
  refine zk_callV (av := []) (st := []) (d' := (0, 0)) (kc' := 0) (ks' := 0) zbC_63 dC_clear_63 rfl (by decide) rfl rfl (Nat.le_of_ble_eq_true rfl) ⟨by decide, by decide⟩ rfl rfl (kS_forget G sw (zk_up (zk_up (zk_up (zk_up (zk_up (zk_up (zk_up (zk_up (zk_up (zk_up (zk_up (zk_up σ 0 0) 1 0) 2 0) 3 0) 5 4) 6 2) 7 4) 8 2) 9 3) 10 0) 4 0) 11 1) α t) (fun v9 h9 q9 => ?_)
  obtain ⟨rfl, rfl⟩ := q9
  refine zk_W.to (ls' := [some (.inr (some 1)), some (.inl ((σ 0) + (σ 1)))]) (st' := []) (h' := (zk_mk G sw (zk_up (zk_up (zk_up (zk_up (zk_up (zk_up (zk_up (zk_up (zk_up (zk_up (zk_up (zk_up (zk_up σ 0 0) 1 0) 2 0) 3 0) 5 4) 6 2) 7 4) 8 2) 9 3) 10 0) 4 0) 11 1) 12 0) α t)) rfl rfl rfl ?_
  refine zk_iload_n dC_clear_66 rfl ?_
  exact zk_iret dC_clear_67 rfl ⟨rfl, rfl⟩

set_option maxRecDepth 100000 in
set_option maxHeartbeats 4000000 in
theorem kC_put (G : zk_G) (sw : Bool) (σ : Nat → Int) (α : Nat → Nat → Int) (t : zk_H) (hI : zc_I σ α) {x y : Int} (hx : zk_rg x) (hy : zk_rg y) : zk_K G mC_put (2, 41) 0 0 [.inr (some 1), .inl x, .inl y] (zk_mk G sw σ α t) (fun v h' => ((¬ (x = 0 ∨ x = 1) ∨ ¬ (0 ≤ y ∧ y ≤ 255)) ∧ h' = (zk_mk G sw σ α t) ∧ v = some (.inl (-2))) ∨ (∃ q : Nat, q < 2 ∧ x = (q : Int) ∧ (0 ≤ y ∧ y ≤ 255) ∧ 40 ≤ σ q ∧ h' = (zk_mk G sw σ α t) ∧ v = some (.inl (-3))) ∨ (∃ q : Nat, q < 2 ∧ x = (q : Int) ∧ (0 ≤ y ∧ y ≤ 255) ∧ σ q < 40 ∧ h' = zk_mk G sw (zk_up (zk_up σ q (σ q + 1)) 12 0) (zk_ua α q (zk_up (α q) (σ q).toNat y)) t ∧ v = some (.inl (σ q + 1)))) := by
  have hn0 := hI.1 0 (by decide)
  have hn1 := hI.1 1 (by decide)
  have hn2 := hI.1 2 (by decide)
  have hn3 := hI.1 3 (by decide)
  have hn4 := hI.1 4 (by decide)
  have eN0 : (zr_N 0 : Int) = 40 := rfl
  have eN1 : (zr_N 1 : Int) = 40 := rfl
  have eN2 : (zr_N 2 : Int) = 80 := rfl
  have eN3 : (zr_N 3 : Int) = 4102 := rfl
  have eN4 : (zr_N 4 : Int) = 4000 := rfl
  have hv0 := hI.2.1 0 (by decide)
  have hv1 := hI.2.1 1 (by decide)
  have hv2 := hI.2.1 2 (by decide)
  have hv3 := hI.2.1 3 (by decide)
  have hv4 := hI.2.1 4 (by decide)
  have hc := hI.2.2.1
  have hs10 := hI.2.2.2.1
  have hs11 := hI.2.2.2.2.1
  have ha := hI.2.2.2.2.2.1
  refine zk_K.of (ls := [some (.inr (some 1)), some (.inl x), some (.inl y), none]) (by decide +kernel) (Nat.le_of_ble_eq_true rfl) rfl ?_
  refine zk_iload_n dC_put_0 rfl ?_
  refine zk_callS (av := [.inl x]) (st := []) (d' := (0, 0)) (kc' := 0) (ks' := 0) zbC_66 dC_put_1 rfl rfl (Nat.le_of_ble_eq_true rfl) ⟨by decide, by decide⟩ rfl rfl (kC_isText G sw σ α t hx) (fun v9 h9 q9 => ?_)
  rcases q9 with ⟨rfl, ⟨hc1, rfl⟩ | ⟨hc1, rfl⟩⟩
  · skip
    refine zk_W.to (ls' := [some (.inr (some 1)), some (.inl x), some (.inl y), none]) (st' := [.inl 1]) (h' := (zk_mk G sw σ α t)) rfl rfl rfl ?_
    refine zk_if_eq (tgt := 14) dC_put_4 (by decide) ⟨by decide, by decide⟩ (fun h4 => ?_) (fun h4 => ?_)
    · skip
      exact absurd h4 (by decide)
    · skip
      refine zk_iload_n dC_put_7 rfl ?_
      refine zk_callS (av := [.inl y]) (st := []) (d' := (0, 0)) (kc' := 0) (ks' := 0) zbC_70 dC_put_8 rfl rfl (Nat.le_of_ble_eq_true rfl) ⟨by decide, by decide⟩ rfl rfl (kC_isByte G sw σ α t hy) (fun v9 h9 q9 => ?_)
      rcases q9 with ⟨rfl, ⟨hc8, rfl⟩ | ⟨hc8, rfl⟩⟩
      · skip
        refine zk_W.to (ls' := [some (.inr (some 1)), some (.inl x), some (.inl y), none]) (st' := [.inl 1]) (h' := (zk_mk G sw σ α t)) rfl rfl rfl ?_
        refine zk_if_ne (tgt := 17) dC_put_11 (by decide) ⟨by decide, by decide⟩ (fun h11 => ?_) (fun h11 => ?_)
        · skip
          refine zk_aload_n dC_put_17 rfl ?_
          refine zk_iload_n dC_put_18 rfl ?_
          refine zk_callV (av := [.inl x]) (st := []) (d' := (0, 0)) (kc' := 0) (ks' := 0) zbC_73 dC_put_19 rfl (by decide) rfl rfl (Nat.le_of_ble_eq_true rfl) ⟨by decide, by decide⟩ rfl rfl (kC_textOf G sw σ α t hx) (fun v9 h9 q9 => ?_)
          rcases q9 with ⟨rfl, ⟨hx19, rfl⟩ | ⟨hx19, rfl⟩⟩
          · skip
            refine zk_W.to (ls' := [some (.inr (some 1)), some (.inl x), some (.inl y), none]) (st' := [.inr (some 2)]) (h' := (zk_mk G sw σ α t)) rfl rfl rfl ?_
            refine zk_astore_n (ls' := [some (.inr (some 1)), some (.inl x), some (.inl y), some (.inr (some 2))]) dC_put_22 (by decide) rfl ?_
            refine zk_aload_n dC_put_23 rfl ?_
            refine zk_callV (av := []) (st := []) (d' := (0, 0)) (kc' := 0) (ks' := 0) zbC_77 dC_put_24 rfl (by decide) rfl rfl (Nat.le_of_ble_eq_true rfl) ⟨by decide, by decide⟩ rfl rfl (kR_isFull G sw σ α t (q := 0) (by decide) hn0) (fun v9 h9 q9 => ?_)
            rcases q9 with ⟨rfl, ⟨hf24, rfl⟩ | ⟨hf24, rfl⟩⟩
            · skip
              refine zk_W.to (ls' := [some (.inr (some 1)), some (.inl x), some (.inl y), some (.inr (some 2))]) (st' := [.inl 1]) (h' := (zk_mk G sw σ α t)) rfl rfl rfl ?_
              refine zk_if_eq (tgt := 33) dC_put_27 (by decide) ⟨by decide, by decide⟩ (fun h27 => ?_) (fun h27 => ?_)
              · skip
                exact absurd h27 (by decide)
              · skip
                refine zk_bipush dC_put_30 (by decide) ?_
                exact zk_iret dC_put_32 rfl (Or.inr (Or.inl ⟨0, by decide, by omega, by omega, by have h7 : 40 ≤ σ 0 := hf24; omega, rfl, rfl⟩))
            · skip
              refine zk_W.to (ls' := [some (.inr (some 1)), some (.inl x), some (.inl y), some (.inr (some 2))]) (st' := [.inl 0]) (h' := (zk_mk G sw σ α t)) rfl rfl rfl ?_
              refine zk_if_eq (tgt := 33) dC_put_27 (by decide) ⟨by decide, by decide⟩ (fun h27 => ?_) (fun h27 => ?_)
              · skip
                refine zk_aload_n dC_put_33 rfl ?_
                refine zk_iload_n dC_put_34 rfl ?_
                refine zk_callV (av := [.inl y]) (st := []) (d' := (1, 20)) (kc' := 0) (ks' := 0) zbC_81 dC_put_35 rfl (by decide) rfl rfl (Nat.le_of_ble_eq_true rfl) ⟨by decide, by decide⟩ rfl rfl (kR_append G sw σ α t (q := 0) (by decide) hn0) (fun v9 h9 q9 => ?_)
                rcases q9 with ⟨rfl, ⟨hap35, rfl⟩ | ⟨hap35, rfl⟩⟩
                · skip
                  refine zk_W.to (ls' := [some (.inr (some 1)), some (.inl x), some (.inl y), some (.inr (some 2))]) (st' := []) (h' := (zk_mk G sw (zk_up σ 0 (σ 0 + 1)) (zk_ua α 0 (zk_up (α 0) (σ 0).toNat y)) t)) rfl rfl rfl ?_
                  refine zk_aload_n dC_put_38 rfl ?_
                  refine zk_get zfC_46 dC_put_39 (v := .inr (some 18)) rfl (by decide) rfl ?_
                  refine zk_callV (av := []) (st := []) (d' := (0, 0)) (kc' := 0) (ks' := 0) zbC_63 dC_put_42 rfl (by decide) rfl rfl (Nat.le_of_ble_eq_true rfl) ⟨by decide, by decide⟩ rfl rfl (kS_forget G sw (zk_up σ 0 (σ 0 + 1)) (zk_ua α 0 (zk_up (α 0) (σ 0).toNat y)) t) (fun v9 h9 q9 => ?_)
                  obtain ⟨rfl, rfl⟩ := q9
                  refine zk_W.to (ls' := [some (.inr (some 1)), some (.inl x), some (.inl y), some (.inr (some 2))]) (st' := []) (h' := (zk_mk G sw (zk_up (zk_up σ 0 (σ 0 + 1)) 12 0) (zk_ua α 0 (zk_up (α 0) (σ 0).toNat y)) t)) rfl rfl rfl ?_
                  refine zk_aload_n dC_put_45 rfl ?_
                  refine zk_callV (av := []) (st := []) (d' := (0, 0)) (kc' := 0) (ks' := 0) zbC_50 dC_put_46 rfl (by decide) rfl rfl (Nat.le_of_ble_eq_true rfl) ⟨by decide, by decide⟩ rfl rfl (kR_length G sw (zk_up (zk_up σ 0 (σ 0 + 1)) 12 0) (zk_ua α 0 (zk_up (α 0) (σ 0).toNat y)) t (q := 0) (by decide)) (fun v9 h9 q9 => ?_)
                  obtain ⟨rfl, rfl⟩ := q9
                  refine zk_W.to (ls' := [some (.inr (some 1)), some (.inl x), some (.inl y), some (.inr (some 2))]) (st' := [.inl (σ 0 + 1)]) (h' := (zk_mk G sw (zk_up (zk_up σ 0 (σ 0 + 1)) 12 0) (zk_ua α 0 (zk_up (α 0) (σ 0).toNat y)) t)) rfl rfl rfl ?_
                  exact zk_iret dC_put_49 rfl (Or.inr (Or.inr ⟨0, by decide, by omega, by omega, by have h7 : σ 0 < 40 := hf24; omega, rfl, rfl⟩))
                · skip
                  have hap2 : 40 ≤ σ 0 := hap35
                  exfalso; omega
              · skip
                exact absurd h27 (by decide)
          · skip
            refine zk_W.to (ls' := [some (.inr (some 1)), some (.inl x), some (.inl y), none]) (st' := [.inr (some 4)]) (h' := (zk_mk G sw σ α t)) rfl rfl rfl ?_
            refine zk_astore_n (ls' := [some (.inr (some 1)), some (.inl x), some (.inl y), some (.inr (some 4))]) dC_put_22 (by decide) rfl ?_
            refine zk_aload_n dC_put_23 rfl ?_
            refine zk_callV (av := []) (st := []) (d' := (0, 0)) (kc' := 0) (ks' := 0) zbC_77 dC_put_24 rfl (by decide) rfl rfl (Nat.le_of_ble_eq_true rfl) ⟨by decide, by decide⟩ rfl rfl (kR_isFull G sw σ α t (q := 1) (by decide) hn1) (fun v9 h9 q9 => ?_)
            rcases q9 with ⟨rfl, ⟨hf24, rfl⟩ | ⟨hf24, rfl⟩⟩
            · skip
              refine zk_W.to (ls' := [some (.inr (some 1)), some (.inl x), some (.inl y), some (.inr (some 4))]) (st' := [.inl 1]) (h' := (zk_mk G sw σ α t)) rfl rfl rfl ?_
              refine zk_if_eq (tgt := 33) dC_put_27 (by decide) ⟨by decide, by decide⟩ (fun h27 => ?_) (fun h27 => ?_)
              · skip
                exact absurd h27 (by decide)
              · skip
                refine zk_bipush dC_put_30 (by decide) ?_
                exact zk_iret dC_put_32 rfl (Or.inr (Or.inl ⟨1, by decide, by omega, by omega, by have h7 : 40 ≤ σ 1 := hf24; omega, rfl, rfl⟩))
            · skip
              refine zk_W.to (ls' := [some (.inr (some 1)), some (.inl x), some (.inl y), some (.inr (some 4))]) (st' := [.inl 0]) (h' := (zk_mk G sw σ α t)) rfl rfl rfl ?_
              refine zk_if_eq (tgt := 33) dC_put_27 (by decide) ⟨by decide, by decide⟩ (fun h27 => ?_) (fun h27 => ?_)
              · skip
                refine zk_aload_n dC_put_33 rfl ?_
                refine zk_iload_n dC_put_34 rfl ?_
                refine zk_callV (av := [.inl y]) (st := []) (d' := (1, 20)) (kc' := 0) (ks' := 0) zbC_81 dC_put_35 rfl (by decide) rfl rfl (Nat.le_of_ble_eq_true rfl) ⟨by decide, by decide⟩ rfl rfl (kR_append G sw σ α t (q := 1) (by decide) hn1) (fun v9 h9 q9 => ?_)
                rcases q9 with ⟨rfl, ⟨hap35, rfl⟩ | ⟨hap35, rfl⟩⟩
                · skip
                  refine zk_W.to (ls' := [some (.inr (some 1)), some (.inl x), some (.inl y), some (.inr (some 4))]) (st' := []) (h' := (zk_mk G sw (zk_up σ 1 (σ 1 + 1)) (zk_ua α 1 (zk_up (α 1) (σ 1).toNat y)) t)) rfl rfl rfl ?_
                  refine zk_aload_n dC_put_38 rfl ?_
                  refine zk_get zfC_46 dC_put_39 (v := .inr (some 18)) rfl (by decide) rfl ?_
                  refine zk_callV (av := []) (st := []) (d' := (0, 0)) (kc' := 0) (ks' := 0) zbC_63 dC_put_42 rfl (by decide) rfl rfl (Nat.le_of_ble_eq_true rfl) ⟨by decide, by decide⟩ rfl rfl (kS_forget G sw (zk_up σ 1 (σ 1 + 1)) (zk_ua α 1 (zk_up (α 1) (σ 1).toNat y)) t) (fun v9 h9 q9 => ?_)
                  obtain ⟨rfl, rfl⟩ := q9
                  refine zk_W.to (ls' := [some (.inr (some 1)), some (.inl x), some (.inl y), some (.inr (some 4))]) (st' := []) (h' := (zk_mk G sw (zk_up (zk_up σ 1 (σ 1 + 1)) 12 0) (zk_ua α 1 (zk_up (α 1) (σ 1).toNat y)) t)) rfl rfl rfl ?_
                  refine zk_aload_n dC_put_45 rfl ?_
                  refine zk_callV (av := []) (st := []) (d' := (0, 0)) (kc' := 0) (ks' := 0) zbC_50 dC_put_46 rfl (by decide) rfl rfl (Nat.le_of_ble_eq_true rfl) ⟨by decide, by decide⟩ rfl rfl (kR_length G sw (zk_up (zk_up σ 1 (σ 1 + 1)) 12 0) (zk_ua α 1 (zk_up (α 1) (σ 1).toNat y)) t (q := 1) (by decide)) (fun v9 h9 q9 => ?_)
                  obtain ⟨rfl, rfl⟩ := q9
                  refine zk_W.to (ls' := [some (.inr (some 1)), some (.inl x), some (.inl y), some (.inr (some 4))]) (st' := [.inl (σ 1 + 1)]) (h' := (zk_mk G sw (zk_up (zk_up σ 1 (σ 1 + 1)) 12 0) (zk_ua α 1 (zk_up (α 1) (σ 1).toNat y)) t)) rfl rfl rfl ?_
                  exact zk_iret dC_put_49 rfl (Or.inr (Or.inr ⟨1, by decide, by omega, by omega, by have h7 : σ 1 < 40 := hf24; omega, rfl, rfl⟩))
                · skip
                  have hap2 : 40 ≤ σ 1 := hap35
                  exfalso; omega
              · skip
                exact absurd h27 (by decide)
        · skip
          exact absurd h11 (by decide)
      · skip
        refine zk_W.to (ls' := [some (.inr (some 1)), some (.inl x), some (.inl y), none]) (st' := [.inl 0]) (h' := (zk_mk G sw σ α t)) rfl rfl rfl ?_
        refine zk_if_ne (tgt := 17) dC_put_11 (by decide) ⟨by decide, by decide⟩ (fun h11 => ?_) (fun h11 => ?_)
        · skip
          exact absurd h11 (by decide)
        · skip
          refine zk_bipush dC_put_14 (by decide) ?_
          exact zk_iret dC_put_16 rfl (Or.inl ⟨by omega, rfl, rfl⟩)
  · skip
    refine zk_W.to (ls' := [some (.inr (some 1)), some (.inl x), some (.inl y), none]) (st' := [.inl 0]) (h' := (zk_mk G sw σ α t)) rfl rfl rfl ?_
    refine zk_if_eq (tgt := 14) dC_put_4 (by decide) ⟨by decide, by decide⟩ (fun h4 => ?_) (fun h4 => ?_)
    · skip
      refine zk_bipush dC_put_14 (by decide) ?_
      exact zk_iret dC_put_16 rfl (Or.inl ⟨by omega, rfl, rfl⟩)
    · skip
      exact absurd h4 (by decide)

set_option maxRecDepth 100000 in
set_option maxHeartbeats 4000000 in
theorem kC_cut (G : zk_G) (sw : Bool) (σ : Nat → Int) (α : Nat → Nat → Int) (t : zk_H) (hI : zc_I σ α) {x y : Int} (hx : zk_rg x) (hy : zk_rg y) : zk_K G mC_cut (2, 39) 0 0 [.inr (some 1), .inl x, .inl y] (zk_mk G sw σ α t) (fun v h' => ((¬ (x = 0 ∨ x = 1)) ∧ h' = (zk_mk G sw σ α t) ∧ v = some (.inl (-2))) ∨ (∃ q : Nat, q < 2 ∧ x = (q : Int) ∧ ¬ (0 ≤ y ∧ y ≤ σ q) ∧ h' = (zk_mk G sw σ α t) ∧ v = some (.inl (-2))) ∨ (∃ q : Nat, q < 2 ∧ x = (q : Int) ∧ (0 ≤ y ∧ y ≤ σ q) ∧ h' = zk_mk G sw (zk_up (zk_up σ q (σ q - y)) 12 0) α t ∧ v = some (.inl (σ q - y)))) := by
  have hn0 := hI.1 0 (by decide)
  have hn1 := hI.1 1 (by decide)
  have hn2 := hI.1 2 (by decide)
  have hn3 := hI.1 3 (by decide)
  have hn4 := hI.1 4 (by decide)
  have eN0 : (zr_N 0 : Int) = 40 := rfl
  have eN1 : (zr_N 1 : Int) = 40 := rfl
  have eN2 : (zr_N 2 : Int) = 80 := rfl
  have eN3 : (zr_N 3 : Int) = 4102 := rfl
  have eN4 : (zr_N 4 : Int) = 4000 := rfl
  have hv0 := hI.2.1 0 (by decide)
  have hv1 := hI.2.1 1 (by decide)
  have hv2 := hI.2.1 2 (by decide)
  have hv3 := hI.2.1 3 (by decide)
  have hv4 := hI.2.1 4 (by decide)
  have hc := hI.2.2.1
  have hs10 := hI.2.2.2.1
  have hs11 := hI.2.2.2.2.1
  have ha := hI.2.2.2.2.2.1
  refine zk_K.of (ls := [some (.inr (some 1)), some (.inl x), some (.inl y), none]) (by decide +kernel) (Nat.le_of_ble_eq_true rfl) rfl ?_
  refine zk_iload_n dC_cut_0 rfl ?_
  refine zk_callS (av := [.inl x]) (st := []) (d' := (0, 0)) (kc' := 0) (ks' := 0) zbC_66 dC_cut_1 rfl rfl (Nat.le_of_ble_eq_true rfl) ⟨by decide, by decide⟩ rfl rfl (kC_isText G sw σ α t hx) (fun v9 h9 q9 => ?_)
  rcases q9 with ⟨rfl, ⟨hc1, rfl⟩ | ⟨hc1, rfl⟩⟩
  · skip
    refine zk_W.to (ls' := [some (.inr (some 1)), some (.inl x), some (.inl y), none]) (st' := [.inl 1]) (h' := (zk_mk G sw σ α t)) rfl rfl rfl ?_
    refine zk_if_ne (tgt := 10) dC_cut_4 (by decide) ⟨by decide, by decide⟩ (fun h4 => ?_) (fun h4 => ?_)
    · skip
      refine zk_aload_n dC_cut_10 rfl ?_
      refine zk_iload_n dC_cut_11 rfl ?_
      refine zk_callV (av := [.inl x]) (st := []) (d' := (0, 0)) (kc' := 0) (ks' := 0) zbC_73 dC_cut_12 rfl (by decide) rfl rfl (Nat.le_of_ble_eq_true rfl) ⟨by decide, by decide⟩ rfl rfl (kC_textOf G sw σ α t hx) (fun v9 h9 q9 => ?_)
      rcases q9 with ⟨rfl, ⟨hx12, rfl⟩ | ⟨hx12, rfl⟩⟩
      · skip
        refine zk_W.to (ls' := [some (.inr (some 1)), some (.inl x), some (.inl y), none]) (st' := [.inr (some 2)]) (h' := (zk_mk G sw σ α t)) rfl rfl rfl ?_
        refine zk_astore_n (ls' := [some (.inr (some 1)), some (.inl x), some (.inl y), some (.inr (some 2))]) dC_cut_15 (by decide) rfl ?_
        refine zk_iload_n dC_cut_16 rfl ?_
        refine zk_if_lt (tgt := 28) dC_cut_17 (by decide) hy (fun h17 => ?_) (fun h17 => ?_)
        · skip
          refine zk_bipush dC_cut_28 (by decide) ?_
          exact zk_iret dC_cut_30 rfl (Or.inr (Or.inl ⟨0, by decide, by omega, by omega, rfl, rfl⟩))
        · skip
          refine zk_iload_n dC_cut_20 rfl ?_
          refine zk_aload_n dC_cut_21 rfl ?_
          refine zk_callV (av := []) (st := [.inl y]) (d' := (0, 0)) (kc' := 0) (ks' := 0) zbC_50 dC_cut_22 rfl (by decide) rfl rfl (Nat.le_of_ble_eq_true rfl) ⟨by decide, by decide⟩ rfl rfl (kR_length G sw σ α t (q := 0) (by decide)) (fun v9 h9 q9 => ?_)
          obtain ⟨rfl, rfl⟩ := q9
          refine zk_W.to (ls' := [some (.inr (some 1)), some (.inl x), some (.inl y), some (.inr (some 2))]) (st' := [.inl (σ 0), .inl y]) (h' := (zk_mk G sw σ α t)) rfl rfl rfl ?_
          refine zk_icmp_le (tgt := 31) dC_cut_25 (by decide) hy ⟨by omega, by omega⟩ (fun h25 => ?_) (fun h25 => ?_)
          · skip
            refine zk_aload_n dC_cut_31 rfl ?_
            refine zk_iload_n dC_cut_32 rfl ?_
            refine zk_callV (av := [.inl y]) (st := []) (d' := (1, 18)) (kc' := 0) (ks' := 0) zbC_84 dC_cut_33 rfl (by decide) rfl rfl (Nat.le_of_ble_eq_true rfl) ⟨by decide, by decide⟩ rfl rfl (kR_dropLast G sw σ α t (q := 0) (by decide) hn0 hy) (fun v9 h9 q9 => ?_)
            obtain ⟨rfl, rfl⟩ := q9
            refine zk_W.to (ls' := [some (.inr (some 1)), some (.inl x), some (.inl y), some (.inr (some 2))]) (st' := []) (h' := (zk_mk G sw (zk_up σ 0 (σ 0 - max 0 (min y (σ 0)))) α t)) rfl rfl rfl ?_
            refine zk_aload_n dC_cut_36 rfl ?_
            refine zk_get zfC_46 dC_cut_37 (v := .inr (some 18)) rfl (by decide) rfl ?_
            refine zk_callV (av := []) (st := []) (d' := (0, 0)) (kc' := 0) (ks' := 0) zbC_63 dC_cut_40 rfl (by decide) rfl rfl (Nat.le_of_ble_eq_true rfl) ⟨by decide, by decide⟩ rfl rfl (kS_forget G sw (zk_up σ 0 (σ 0 - max 0 (min y (σ 0)))) α t) (fun v9 h9 q9 => ?_)
            obtain ⟨rfl, rfl⟩ := q9
            refine zk_W.to (ls' := [some (.inr (some 1)), some (.inl x), some (.inl y), some (.inr (some 2))]) (st' := []) (h' := (zk_mk G sw (zk_up (zk_up σ 0 (σ 0 - max 0 (min y (σ 0)))) 12 0) α t)) rfl rfl rfl ?_
            refine zk_aload_n dC_cut_43 rfl ?_
            refine zk_callV (av := []) (st := []) (d' := (0, 0)) (kc' := 0) (ks' := 0) zbC_50 dC_cut_44 rfl (by decide) rfl rfl (Nat.le_of_ble_eq_true rfl) ⟨by decide, by decide⟩ rfl rfl (kR_length G sw (zk_up (zk_up σ 0 (σ 0 - max 0 (min y (σ 0)))) 12 0) α t (q := 0) (by decide)) (fun v9 h9 q9 => ?_)
            obtain ⟨rfl, rfl⟩ := q9
            refine zk_W.to (ls' := [some (.inr (some 1)), some (.inl x), some (.inl y), some (.inr (some 2))]) (st' := [.inl (σ 0 - max 0 (min y (σ 0)))]) (h' := (zk_mk G sw (zk_up (zk_up σ 0 (σ 0 - max 0 (min y (σ 0)))) 12 0) α t)) rfl rfl rfl ?_
            have em : max 0 (min y (σ 0)) = y := by omega
            refine zk_iret dC_cut_47 rfl (Or.inr (Or.inr ⟨0, by decide, by omega, by omega, ?_, ?_⟩))
            · rw [em]
            · rw [em]
          · skip
            refine zk_bipush dC_cut_28 (by decide) ?_
            exact zk_iret dC_cut_30 rfl (Or.inr (Or.inl ⟨0, by decide, by omega, by omega, rfl, rfl⟩))
      · skip
        refine zk_W.to (ls' := [some (.inr (some 1)), some (.inl x), some (.inl y), none]) (st' := [.inr (some 4)]) (h' := (zk_mk G sw σ α t)) rfl rfl rfl ?_
        refine zk_astore_n (ls' := [some (.inr (some 1)), some (.inl x), some (.inl y), some (.inr (some 4))]) dC_cut_15 (by decide) rfl ?_
        refine zk_iload_n dC_cut_16 rfl ?_
        refine zk_if_lt (tgt := 28) dC_cut_17 (by decide) hy (fun h17 => ?_) (fun h17 => ?_)
        · skip
          refine zk_bipush dC_cut_28 (by decide) ?_
          exact zk_iret dC_cut_30 rfl (Or.inr (Or.inl ⟨1, by decide, by omega, by omega, rfl, rfl⟩))
        · skip
          refine zk_iload_n dC_cut_20 rfl ?_
          refine zk_aload_n dC_cut_21 rfl ?_
          refine zk_callV (av := []) (st := [.inl y]) (d' := (0, 0)) (kc' := 0) (ks' := 0) zbC_50 dC_cut_22 rfl (by decide) rfl rfl (Nat.le_of_ble_eq_true rfl) ⟨by decide, by decide⟩ rfl rfl (kR_length G sw σ α t (q := 1) (by decide)) (fun v9 h9 q9 => ?_)
          obtain ⟨rfl, rfl⟩ := q9
          refine zk_W.to (ls' := [some (.inr (some 1)), some (.inl x), some (.inl y), some (.inr (some 4))]) (st' := [.inl (σ 1), .inl y]) (h' := (zk_mk G sw σ α t)) rfl rfl rfl ?_
          refine zk_icmp_le (tgt := 31) dC_cut_25 (by decide) hy ⟨by omega, by omega⟩ (fun h25 => ?_) (fun h25 => ?_)
          · skip
            refine zk_aload_n dC_cut_31 rfl ?_
            refine zk_iload_n dC_cut_32 rfl ?_
            refine zk_callV (av := [.inl y]) (st := []) (d' := (1, 18)) (kc' := 0) (ks' := 0) zbC_84 dC_cut_33 rfl (by decide) rfl rfl (Nat.le_of_ble_eq_true rfl) ⟨by decide, by decide⟩ rfl rfl (kR_dropLast G sw σ α t (q := 1) (by decide) hn1 hy) (fun v9 h9 q9 => ?_)
            obtain ⟨rfl, rfl⟩ := q9
            refine zk_W.to (ls' := [some (.inr (some 1)), some (.inl x), some (.inl y), some (.inr (some 4))]) (st' := []) (h' := (zk_mk G sw (zk_up σ 1 (σ 1 - max 0 (min y (σ 1)))) α t)) rfl rfl rfl ?_
            refine zk_aload_n dC_cut_36 rfl ?_
            refine zk_get zfC_46 dC_cut_37 (v := .inr (some 18)) rfl (by decide) rfl ?_
            refine zk_callV (av := []) (st := []) (d' := (0, 0)) (kc' := 0) (ks' := 0) zbC_63 dC_cut_40 rfl (by decide) rfl rfl (Nat.le_of_ble_eq_true rfl) ⟨by decide, by decide⟩ rfl rfl (kS_forget G sw (zk_up σ 1 (σ 1 - max 0 (min y (σ 1)))) α t) (fun v9 h9 q9 => ?_)
            obtain ⟨rfl, rfl⟩ := q9
            refine zk_W.to (ls' := [some (.inr (some 1)), some (.inl x), some (.inl y), some (.inr (some 4))]) (st' := []) (h' := (zk_mk G sw (zk_up (zk_up σ 1 (σ 1 - max 0 (min y (σ 1)))) 12 0) α t)) rfl rfl rfl ?_
            refine zk_aload_n dC_cut_43 rfl ?_
            refine zk_callV (av := []) (st := []) (d' := (0, 0)) (kc' := 0) (ks' := 0) zbC_50 dC_cut_44 rfl (by decide) rfl rfl (Nat.le_of_ble_eq_true rfl) ⟨by decide, by decide⟩ rfl rfl (kR_length G sw (zk_up (zk_up σ 1 (σ 1 - max 0 (min y (σ 1)))) 12 0) α t (q := 1) (by decide)) (fun v9 h9 q9 => ?_)
            obtain ⟨rfl, rfl⟩ := q9
            refine zk_W.to (ls' := [some (.inr (some 1)), some (.inl x), some (.inl y), some (.inr (some 4))]) (st' := [.inl (σ 1 - max 0 (min y (σ 1)))]) (h' := (zk_mk G sw (zk_up (zk_up σ 1 (σ 1 - max 0 (min y (σ 1)))) 12 0) α t)) rfl rfl rfl ?_
            have em : max 0 (min y (σ 1)) = y := by omega
            refine zk_iret dC_cut_47 rfl (Or.inr (Or.inr ⟨1, by decide, by omega, by omega, ?_, ?_⟩))
            · rw [em]
            · rw [em]
          · skip
            refine zk_bipush dC_cut_28 (by decide) ?_
            exact zk_iret dC_cut_30 rfl (Or.inr (Or.inl ⟨1, by decide, by omega, by omega, rfl, rfl⟩))
    · skip
      exact absurd h4 (by decide)
  · skip
    refine zk_W.to (ls' := [some (.inr (some 1)), some (.inl x), some (.inl y), none]) (st' := [.inl 0]) (h' := (zk_mk G sw σ α t)) rfl rfl rfl ?_
    refine zk_if_ne (tgt := 10) dC_cut_4 (by decide) ⟨by decide, by decide⟩ (fun h4 => ?_) (fun h4 => ?_)
    · skip
      exact absurd h4 (by decide)
    · skip
      refine zk_bipush dC_cut_7 (by decide) ?_
      exact zk_iret dC_cut_9 rfl (Or.inl ⟨by omega, rfl, rfl⟩)

set_option maxRecDepth 100000 in
set_option maxHeartbeats 4000000 in
theorem kC_costs (G : zk_G) (sw : Bool) (σ : Nat → Int) (α : Nat → Nat → Int) (t : zk_H) (hI : zc_I σ α) (x0 x1 x2 x3 x4 : Int) (hx0 : zk_rg x0) (hx1 : zk_rg x1) (hx2 : zk_rg x2) (hx3 : zk_rg x3) (hx4 : zk_rg x4) : zk_K G mC_costs (2, 46) 0 0 [.inr (some 1), .inl x0, .inl x1, .inl x2, .inl x3, .inl x4] (zk_mk G sw σ α t) (fun v h' => ((¬ ((0 ≤ x0 ∧ x0 ≤ 100) ∧ (0 ≤ x1 ∧ x1 ≤ 100) ∧ (0 ≤ x2 ∧ x2 ≤ 100) ∧ (0 ≤ x3 ∧ x3 ≤ 100) ∧ (0 ≤ x4 ∧ x4 ≤ 100))) ∧ h' = (zk_mk G sw σ α t) ∧ v = some (.inl (-2))) ∨ (((0 ≤ x0 ∧ x0 ≤ 100) ∧ (0 ≤ x1 ∧ x1 ≤ 100) ∧ (0 ≤ x2 ∧ x2 ≤ 100) ∧ (0 ≤ x3 ∧ x3 ≤ 100) ∧ (0 ≤ x4 ∧ x4 ≤ 100)) ∧ h' = zk_mk G sw (zk_up (zk_up (zk_up (zk_up (zk_up (zk_up σ 5 x0) 6 x1) 7 x2) 8 x3) 9 x4) 12 0) α t ∧ v = some (.inl ((((((if σ 5 = x0 then 0 else 1) + (if σ 6 = x1 then 0 else 1)) + (if σ 7 = x2 then 0 else 1)) + (if σ 8 = x3 then 0 else 1)) + (if σ 9 = x4 then 0 else 1)))))) := by
  have hn0 := hI.1 0 (by decide)
  have hn1 := hI.1 1 (by decide)
  have hn2 := hI.1 2 (by decide)
  have hn3 := hI.1 3 (by decide)
  have hn4 := hI.1 4 (by decide)
  have eN0 : (zr_N 0 : Int) = 40 := rfl
  have eN1 : (zr_N 1 : Int) = 40 := rfl
  have eN2 : (zr_N 2 : Int) = 80 := rfl
  have eN3 : (zr_N 3 : Int) = 4102 := rfl
  have eN4 : (zr_N 4 : Int) = 4000 := rfl
  have hv0 := hI.2.1 0 (by decide)
  have hv1 := hI.2.1 1 (by decide)
  have hv2 := hI.2.1 2 (by decide)
  have hv3 := hI.2.1 3 (by decide)
  have hv4 := hI.2.1 4 (by decide)
  have hc := hI.2.2.1
  have hs10 := hI.2.2.2.1
  have hs11 := hI.2.2.2.2.1
  have ha := hI.2.2.2.2.2.1
  refine zk_K.of (ls := [some (.inr (some 1)), some (.inl x0), some (.inl x1), some (.inl x2), some (.inl x3), some (.inl x4), none]) (by decide +kernel) (Nat.le_of_ble_eq_true rfl) rfl ?_
  refine zk_iload_n dC_costs_0 rfl ?_
  refine zk_callS (av := [.inl x0]) (st := []) (d' := (0, 0)) (kc' := 0) (ks' := 0) zbC_91 dC_costs_1 rfl rfl (Nat.le_of_ble_eq_true rfl) ⟨by decide, by decide⟩ rfl rfl (kC_isNumber G sw σ α t hx0) (fun v9 h9 q9 => ?_)
  rcases q9 with ⟨rfl, ⟨hc1, rfl⟩ | ⟨hc1, rfl⟩⟩
  · skip
    refine zk_W.to (ls' := [some (.inr (some 1)), some (.inl x0), some (.inl x1), some (.inl x2), some (.inl x3), some (.inl x4), none]) (st' := [.inl 1]) (h' := (zk_mk G sw σ α t)) rfl rfl rfl ?_
    refine zk_if_eq (tgt := 37) dC_costs_4 (by decide) ⟨by decide, by decide⟩ (fun h4 => ?_) (fun h4 => ?_)
    · skip
      exact absurd h4 (by decide)
    · skip
      refine zk_iload_n dC_costs_7 rfl ?_
      refine zk_callS (av := [.inl x1]) (st := []) (d' := (0, 0)) (kc' := 0) (ks' := 0) zbC_91 dC_costs_8 rfl rfl (Nat.le_of_ble_eq_true rfl) ⟨by decide, by decide⟩ rfl rfl (kC_isNumber G sw σ α t hx1) (fun v9 h9 q9 => ?_)
      rcases q9 with ⟨rfl, ⟨hc8, rfl⟩ | ⟨hc8, rfl⟩⟩
      · skip
        refine zk_W.to (ls' := [some (.inr (some 1)), some (.inl x0), some (.inl x1), some (.inl x2), some (.inl x3), some (.inl x4), none]) (st' := [.inl 1]) (h' := (zk_mk G sw σ α t)) rfl rfl rfl ?_
        refine zk_if_eq (tgt := 37) dC_costs_11 (by decide) ⟨by decide, by decide⟩ (fun h11 => ?_) (fun h11 => ?_)
        · skip
          exact absurd h11 (by decide)
        · skip
          refine zk_iload_n dC_costs_14 rfl ?_
          refine zk_callS (av := [.inl x2]) (st := []) (d' := (0, 0)) (kc' := 0) (ks' := 0) zbC_91 dC_costs_15 rfl rfl (Nat.le_of_ble_eq_true rfl) ⟨by decide, by decide⟩ rfl rfl (kC_isNumber G sw σ α t hx2) (fun v9 h9 q9 => ?_)
          rcases q9 with ⟨rfl, ⟨hc15, rfl⟩ | ⟨hc15, rfl⟩⟩
          · skip
            refine zk_W.to (ls' := [some (.inr (some 1)), some (.inl x0), some (.inl x1), some (.inl x2), some (.inl x3), some (.inl x4), none]) (st' := [.inl 1]) (h' := (zk_mk G sw σ α t)) rfl rfl rfl ?_
            refine zk_if_eq (tgt := 37) dC_costs_18 (by decide) ⟨by decide, by decide⟩ (fun h18 => ?_) (fun h18 => ?_)
            · skip
              exact absurd h18 (by decide)
            · skip
              refine zk_iload dC_costs_21 rfl ?_
              refine zk_callS (av := [.inl x3]) (st := []) (d' := (0, 0)) (kc' := 0) (ks' := 0) zbC_91 dC_costs_23 rfl rfl (Nat.le_of_ble_eq_true rfl) ⟨by decide, by decide⟩ rfl rfl (kC_isNumber G sw σ α t hx3) (fun v9 h9 q9 => ?_)
              rcases q9 with ⟨rfl, ⟨hc23, rfl⟩ | ⟨hc23, rfl⟩⟩
              · skip
                refine zk_W.to (ls' := [some (.inr (some 1)), some (.inl x0), some (.inl x1), some (.inl x2), some (.inl x3), some (.inl x4), none]) (st' := [.inl 1]) (h' := (zk_mk G sw σ α t)) rfl rfl rfl ?_
                refine zk_if_eq (tgt := 37) dC_costs_26 (by decide) ⟨by decide, by decide⟩ (fun h26 => ?_) (fun h26 => ?_)
                · skip
                  exact absurd h26 (by decide)
                · skip
                  refine zk_iload dC_costs_29 rfl ?_
                  refine zk_callS (av := [.inl x4]) (st := []) (d' := (0, 0)) (kc' := 0) (ks' := 0) zbC_91 dC_costs_31 rfl rfl (Nat.le_of_ble_eq_true rfl) ⟨by decide, by decide⟩ rfl rfl (kC_isNumber G sw σ α t hx4) (fun v9 h9 q9 => ?_)
                  rcases q9 with ⟨rfl, ⟨hc31, rfl⟩ | ⟨hc31, rfl⟩⟩
                  · skip
                    refine zk_W.to (ls' := [some (.inr (some 1)), some (.inl x0), some (.inl x1), some (.inl x2), some (.inl x3), some (.inl x4), none]) (st' := [.inl 1]) (h' := (zk_mk G sw σ α t)) rfl rfl rfl ?_
                    refine zk_if_ne (tgt := 40) dC_costs_34 (by decide) ⟨by decide, by decide⟩ (fun h34 => ?_) (fun h34 => ?_)
                    · skip
                      refine zk_aload_n dC_costs_40 rfl ?_
                      refine zk_get zfC_30 dC_costs_41 (v := .inr (some 10)) rfl (by decide) rfl ?_
                      refine zk_iload_n dC_costs_44 rfl ?_
                      refine zk_iload_n dC_costs_45 rfl ?_
                      refine zk_iload_n dC_costs_46 rfl ?_
                      refine zk_iload dC_costs_47 rfl ?_
                      refine zk_iload dC_costs_49 rfl ?_
                      refine zk_callV (av := [.inl x0, .inl x1, .inl x2, .inl x3, .inl x4]) (st := []) (d' := (1, 21)) (kc' := 0) (ks' := 0) zbC_94 dC_costs_51 rfl (by decide) rfl rfl (Nat.le_of_ble_eq_true rfl) ⟨by decide, by decide⟩ rfl rfl (kN_countOthers G sw σ α t hc x0 x1 x2 x3 x4 hx0 hx1 hx2 hx3 hx4) (fun v9 h9 q9 => ?_)
                      obtain ⟨rfl, rfl⟩ := q9
                      refine zk_W.to (ls' := [some (.inr (some 1)), some (.inl x0), some (.inl x1), some (.inl x2), some (.inl x3), some (.inl x4), none]) (st' := [.inl (((((((if σ 5 = x0 then 0 else 1) + (if σ 6 = x1 then 0 else 1)) + (if σ 7 = x2 then 0 else 1)) + (if σ 8 = x3 then 0 else 1)) + (if σ 9 = x4 then 0 else 1))))]) (h' := (zk_mk G sw σ α t)) rfl rfl rfl ?_
                      refine zk_istore (ls' := [some (.inr (some 1)), some (.inl x0), some (.inl x1), some (.inl x2), some (.inl x3), some (.inl x4), some (.inl (((((((if σ 5 = x0 then 0 else 1) + (if σ 6 = x1 then 0 else 1)) + (if σ 7 = x2 then 0 else 1)) + (if σ 8 = x3 then 0 else 1)) + (if σ 9 = x4 then 0 else 1)))))]) dC_costs_54 (by decide) rfl ?_
                      refine zk_aload_n dC_costs_56 rfl ?_
                      refine zk_get zfC_30 dC_costs_57 (v := .inr (some 10)) rfl (by decide) rfl ?_
                      refine zk_iload_n dC_costs_60 rfl ?_
                      refine zk_iload_n dC_costs_61 rfl ?_
                      refine zk_iload_n dC_costs_62 rfl ?_
                      refine zk_iload dC_costs_63 rfl ?_
                      refine zk_iload dC_costs_65 rfl ?_
                      refine zk_callV (av := [.inl x0, .inl x1, .inl x2, .inl x3, .inl x4]) (st := []) (d' := (0, 0)) (kc' := 0) (ks' := 0) zbC_98 dC_costs_67 rfl (by decide) rfl rfl (Nat.le_of_ble_eq_true rfl) ⟨by decide, by decide⟩ rfl rfl (kN_set G sw σ α t x0 x1 x2 x3 x4) (fun v9 h9 q9 => ?_)
                      obtain ⟨rfl, rfl⟩ := q9
                      refine zk_W.to (ls' := [some (.inr (some 1)), some (.inl x0), some (.inl x1), some (.inl x2), some (.inl x3), some (.inl x4), some (.inl (((((((if σ 5 = x0 then 0 else 1) + (if σ 6 = x1 then 0 else 1)) + (if σ 7 = x2 then 0 else 1)) + (if σ 8 = x3 then 0 else 1)) + (if σ 9 = x4 then 0 else 1)))))]) (st' := []) (h' := (zk_mk G sw (zk_up (zk_up (zk_up (zk_up (zk_up σ 5 x0) 6 x1) 7 x2) 8 x3) 9 x4) α t)) rfl rfl rfl ?_
                      refine zk_aload_n dC_costs_70 rfl ?_
                      refine zk_get zfC_46 dC_costs_71 (v := .inr (some 18)) rfl (by decide) rfl ?_
                      refine zk_callV (av := []) (st := []) (d' := (0, 0)) (kc' := 0) (ks' := 0) zbC_63 dC_costs_74 rfl (by decide) rfl rfl (Nat.le_of_ble_eq_true rfl) ⟨by decide, by decide⟩ rfl rfl (kS_forget G sw (zk_up (zk_up (zk_up (zk_up (zk_up σ 5 x0) 6 x1) 7 x2) 8 x3) 9 x4) α t) (fun v9 h9 q9 => ?_)
                      obtain ⟨rfl, rfl⟩ := q9
                      refine zk_W.to (ls' := [some (.inr (some 1)), some (.inl x0), some (.inl x1), some (.inl x2), some (.inl x3), some (.inl x4), some (.inl (((((((if σ 5 = x0 then 0 else 1) + (if σ 6 = x1 then 0 else 1)) + (if σ 7 = x2 then 0 else 1)) + (if σ 8 = x3 then 0 else 1)) + (if σ 9 = x4 then 0 else 1)))))]) (st' := []) (h' := (zk_mk G sw (zk_up (zk_up (zk_up (zk_up (zk_up (zk_up σ 5 x0) 6 x1) 7 x2) 8 x3) 9 x4) 12 0) α t)) rfl rfl rfl ?_
                      refine zk_iload dC_costs_77 rfl ?_
                      exact zk_iret dC_costs_79 rfl (Or.inr ⟨by omega, rfl, rfl⟩)
                    · skip
                      exact absurd h34 (by decide)
                  · skip
                    refine zk_W.to (ls' := [some (.inr (some 1)), some (.inl x0), some (.inl x1), some (.inl x2), some (.inl x3), some (.inl x4), none]) (st' := [.inl 0]) (h' := (zk_mk G sw σ α t)) rfl rfl rfl ?_
                    refine zk_if_ne (tgt := 40) dC_costs_34 (by decide) ⟨by decide, by decide⟩ (fun h34 => ?_) (fun h34 => ?_)
                    · skip
                      exact absurd h34 (by decide)
                    · skip
                      refine zk_bipush dC_costs_37 (by decide) ?_
                      exact zk_iret dC_costs_39 rfl (Or.inl ⟨by omega, rfl, rfl⟩)
              · skip
                refine zk_W.to (ls' := [some (.inr (some 1)), some (.inl x0), some (.inl x1), some (.inl x2), some (.inl x3), some (.inl x4), none]) (st' := [.inl 0]) (h' := (zk_mk G sw σ α t)) rfl rfl rfl ?_
                refine zk_if_eq (tgt := 37) dC_costs_26 (by decide) ⟨by decide, by decide⟩ (fun h26 => ?_) (fun h26 => ?_)
                · skip
                  refine zk_bipush dC_costs_37 (by decide) ?_
                  exact zk_iret dC_costs_39 rfl (Or.inl ⟨by omega, rfl, rfl⟩)
                · skip
                  exact absurd h26 (by decide)
          · skip
            refine zk_W.to (ls' := [some (.inr (some 1)), some (.inl x0), some (.inl x1), some (.inl x2), some (.inl x3), some (.inl x4), none]) (st' := [.inl 0]) (h' := (zk_mk G sw σ α t)) rfl rfl rfl ?_
            refine zk_if_eq (tgt := 37) dC_costs_18 (by decide) ⟨by decide, by decide⟩ (fun h18 => ?_) (fun h18 => ?_)
            · skip
              refine zk_bipush dC_costs_37 (by decide) ?_
              exact zk_iret dC_costs_39 rfl (Or.inl ⟨by omega, rfl, rfl⟩)
            · skip
              exact absurd h18 (by decide)
      · skip
        refine zk_W.to (ls' := [some (.inr (some 1)), some (.inl x0), some (.inl x1), some (.inl x2), some (.inl x3), some (.inl x4), none]) (st' := [.inl 0]) (h' := (zk_mk G sw σ α t)) rfl rfl rfl ?_
        refine zk_if_eq (tgt := 37) dC_costs_11 (by decide) ⟨by decide, by decide⟩ (fun h11 => ?_) (fun h11 => ?_)
        · skip
          refine zk_bipush dC_costs_37 (by decide) ?_
          exact zk_iret dC_costs_39 rfl (Or.inl ⟨by omega, rfl, rfl⟩)
        · skip
          exact absurd h11 (by decide)
  · skip
    refine zk_W.to (ls' := [some (.inr (some 1)), some (.inl x0), some (.inl x1), some (.inl x2), some (.inl x3), some (.inl x4), none]) (st' := [.inl 0]) (h' := (zk_mk G sw σ α t)) rfl rfl rfl ?_
    refine zk_if_eq (tgt := 37) dC_costs_4 (by decide) ⟨by decide, by decide⟩ (fun h4 => ?_) (fun h4 => ?_)
    · skip
      refine zk_bipush dC_costs_37 (by decide) ?_
      exact zk_iret dC_costs_39 rfl (Or.inl ⟨by omega, rfl, rfl⟩)
    · skip
      exact absurd h4 (by decide)

set_option maxRecDepth 100000 in
set_option maxHeartbeats 4000000 in
theorem kC_match (G : zk_G) (sw : Bool) (σ : Nat → Int) (α : Nat → Nat → Int) (t : zk_H) (hI : zc_I σ α) {x y z : Int} (hx : zk_rg x) (hy : zk_rg y) (hz : zk_rg z) : zk_K G mC_match (2, 46) 0 0 [.inr (some 1), .inl x, .inl y, .inl z] (zk_mk G sw σ α t) (fun v h' => ((¬ (x = 0 ∨ x = 1)) ∧ h' = (zk_mk G sw σ α t) ∧ v = some (.inl (-2))) ∨ (∃ q : Nat, q < 2 ∧ x = (q : Int) ∧ ¬ ((0 ≤ y ∧ y < σ q) ∧ (0 ≤ z ∧ z < σ 1)) ∧ h' = (zk_mk G sw σ α t) ∧ v = some (.inl (-2))) ∨ (∃ q : Nat, q < 2 ∧ x = (q : Int) ∧ (0 ≤ y ∧ y < σ q) ∧ (0 ≤ z ∧ z < σ 1) ∧ h' = (zk_mk G sw σ α t) ∧ v = some (.inl (mt_len (α q) (α 1) y.toNat z.toNat (min (σ q - y) (σ 1 - z)).toNat : Int)))) := by
  have hn0 := hI.1 0 (by decide)
  have hn1 := hI.1 1 (by decide)
  have hn2 := hI.1 2 (by decide)
  have hn3 := hI.1 3 (by decide)
  have hn4 := hI.1 4 (by decide)
  have eN0 : (zr_N 0 : Int) = 40 := rfl
  have eN1 : (zr_N 1 : Int) = 40 := rfl
  have eN2 : (zr_N 2 : Int) = 80 := rfl
  have eN3 : (zr_N 3 : Int) = 4102 := rfl
  have eN4 : (zr_N 4 : Int) = 4000 := rfl
  have hv0 := hI.2.1 0 (by decide)
  have hv1 := hI.2.1 1 (by decide)
  have hv2 := hI.2.1 2 (by decide)
  have hv3 := hI.2.1 3 (by decide)
  have hv4 := hI.2.1 4 (by decide)
  have hc := hI.2.2.1
  have hs10 := hI.2.2.2.1
  have hs11 := hI.2.2.2.2.1
  have ha := hI.2.2.2.2.2.1
  refine zk_K.of (ls := [some (.inr (some 1)), some (.inl x), some (.inl y), some (.inl z)]) (by decide +kernel) (Nat.le_of_ble_eq_true rfl) rfl ?_
  refine zk_iload_n dC_match_0 rfl ?_
  refine zk_callS (av := [.inl x]) (st := []) (d' := (0, 0)) (kc' := 0) (ks' := 0) zbC_66 dC_match_1 rfl rfl (Nat.le_of_ble_eq_true rfl) ⟨by decide, by decide⟩ rfl rfl (kC_isText G sw σ α t hx) (fun v9 h9 q9 => ?_)
  rcases q9 with ⟨rfl, ⟨hc1, rfl⟩ | ⟨hc1, rfl⟩⟩
  · skip
    refine zk_W.to (ls' := [some (.inr (some 1)), some (.inl x), some (.inl y), some (.inl z)]) (st' := [.inl 1]) (h' := (zk_mk G sw σ α t)) rfl rfl rfl ?_
    refine zk_if_eq (tgt := 30) dC_match_4 (by decide) ⟨by decide, by decide⟩ (fun h4 => ?_) (fun h4 => ?_)
    · skip
      exact absurd h4 (by decide)
    · skip
      refine zk_aload_n dC_match_7 rfl ?_
      refine zk_iload_n dC_match_8 rfl ?_
      refine zk_callV (av := [.inl x]) (st := []) (d' := (0, 0)) (kc' := 0) (ks' := 0) zbC_73 dC_match_9 rfl (by decide) rfl rfl (Nat.le_of_ble_eq_true rfl) ⟨by decide, by decide⟩ rfl rfl (kC_textOf G sw σ α t hx) (fun v9 h9 q9 => ?_)
      rcases q9 with ⟨rfl, ⟨hx9, rfl⟩ | ⟨hx9, rfl⟩⟩
      · skip
        refine zk_W.to (ls' := [some (.inr (some 1)), some (.inl x), some (.inl y), some (.inl z)]) (st' := [.inr (some 2)]) (h' := (zk_mk G sw σ α t)) rfl rfl rfl ?_
        refine zk_iload_n dC_match_12 rfl ?_
        refine zk_callV (av := [.inl y]) (st := []) (d' := (0, 0)) (kc' := 0) (ks' := 0) zbC_125 dC_match_13 rfl (by decide) rfl rfl (Nat.le_of_ble_eq_true rfl) ⟨by decide, by decide⟩ rfl rfl (kR_has G sw σ α t (q := 0) (by decide) hn0 hy) (fun v9 h9 q9 => ?_)
        rcases q9 with ⟨rfl, ⟨hh13, rfl⟩ | ⟨hh13, rfl⟩⟩
        · skip
          refine zk_W.to (ls' := [some (.inr (some 1)), some (.inl x), some (.inl y), some (.inl z)]) (st' := [.inl 1]) (h' := (zk_mk G sw σ α t)) rfl rfl rfl ?_
          refine zk_if_eq (tgt := 30) dC_match_16 (by decide) ⟨by decide, by decide⟩ (fun h16 => ?_) (fun h16 => ?_)
          · skip
            exact absurd h16 (by decide)
          · skip
            refine zk_aload_n dC_match_19 rfl ?_
            refine zk_get zfC_18 dC_match_20 (v := .inr (some 4)) rfl (by decide) rfl ?_
            refine zk_iload_n dC_match_23 rfl ?_
            refine zk_callV (av := [.inl z]) (st := []) (d' := (0, 0)) (kc' := 0) (ks' := 0) zbC_125 dC_match_24 rfl (by decide) rfl rfl (Nat.le_of_ble_eq_true rfl) ⟨by decide, by decide⟩ rfl rfl (kR_has G sw σ α t (q := 1) (by decide) hn1 hz) (fun v9 h9 q9 => ?_)
            rcases q9 with ⟨rfl, ⟨hh24, rfl⟩ | ⟨hh24, rfl⟩⟩
            · skip
              refine zk_W.to (ls' := [some (.inr (some 1)), some (.inl x), some (.inl y), some (.inl z)]) (st' := [.inl 1]) (h' := (zk_mk G sw σ α t)) rfl rfl rfl ?_
              refine zk_if_ne (tgt := 33) dC_match_27 (by decide) ⟨by decide, by decide⟩ (fun h27 => ?_) (fun h27 => ?_)
              · skip
                refine zk_aload_n dC_match_33 rfl ?_
                refine zk_iload_n dC_match_34 rfl ?_
                refine zk_callV (av := [.inl x]) (st := []) (d' := (0, 0)) (kc' := 0) (ks' := 0) zbC_73 dC_match_35 rfl (by decide) rfl rfl (Nat.le_of_ble_eq_true rfl) ⟨by decide, by decide⟩ rfl rfl (kC_textOf G sw σ α t hx) (fun v9 h9 q9 => ?_)
                rcases q9 with ⟨rfl, ⟨hx35, rfl⟩ | ⟨hx35, rfl⟩⟩
                · skip
                  refine zk_W.to (ls' := [some (.inr (some 1)), some (.inl x), some (.inl y), some (.inl z)]) (st' := [.inr (some 2)]) (h' := (zk_mk G sw σ α t)) rfl rfl rfl ?_
                  refine zk_iload_n dC_match_38 rfl ?_
                  refine zk_aload_n dC_match_39 rfl ?_
                  refine zk_get zfC_18 dC_match_40 (v := .inr (some 4)) rfl (by decide) rfl ?_
                  refine zk_iload_n dC_match_43 rfl ?_
                  refine zk_callV (av := [.inl y, .inr (some 4), .inl z]) (st := []) (d' := (1, 21)) (kc' := 0) (ks' := 0) zbC_128 dC_match_44 rfl (by decide) rfl rfl (Nat.le_of_ble_eq_true rfl) ⟨by decide, by decide⟩ rfl rfl (kR_countSame G sw σ α t (q := 0) (by decide) (r := 1) (by decide) hn0 hn1 hv0 hv1 (i := y) (j := z) hy hz) (fun v9 h9 q9 => ?_)
                  obtain ⟨rfl, rfl⟩ := q9
                  refine zk_W.to (ls' := [some (.inr (some 1)), some (.inl x), some (.inl y), some (.inl z)]) (st' := [.inl (if (0 ≤ y ∧ y < σ 0) ∧ (0 ≤ z ∧ z < σ 1) then (mt_len (α 0) (α 1) y.toNat z.toNat (min (σ 0 - y) (σ 1 - z)).toNat : Int) else 0)]) (h' := (zk_mk G sw σ α t)) rfl rfl rfl ?_
                  refine zk_iret dC_match_47 rfl (Or.inr (Or.inr ⟨0, by decide, by omega, by omega, by omega, rfl, ?_⟩))
                  rw [if_pos (by omega)]
                · skip
                  refine zk_W.to (ls' := [some (.inr (some 1)), some (.inl x), some (.inl y), some (.inl z)]) (st' := [.inr (some 4)]) (h' := (zk_mk G sw σ α t)) rfl rfl rfl ?_
                  refine zk_iload_n dC_match_38 rfl ?_
                  refine zk_aload_n dC_match_39 rfl ?_
                  refine zk_get zfC_18 dC_match_40 (v := .inr (some 4)) rfl (by decide) rfl ?_
                  refine zk_iload_n dC_match_43 rfl ?_
                  refine zk_callV (av := [.inl y, .inr (some 4), .inl z]) (st := []) (d' := (1, 21)) (kc' := 0) (ks' := 0) zbC_128 dC_match_44 rfl (by decide) rfl rfl (Nat.le_of_ble_eq_true rfl) ⟨by decide, by decide⟩ rfl rfl (kR_countSame G sw σ α t (q := 1) (by decide) (r := 1) (by decide) hn1 hn1 hv1 hv1 (i := y) (j := z) hy hz) (fun v9 h9 q9 => ?_)
                  obtain ⟨rfl, rfl⟩ := q9
                  refine zk_W.to (ls' := [some (.inr (some 1)), some (.inl x), some (.inl y), some (.inl z)]) (st' := [.inl (if (0 ≤ y ∧ y < σ 1) ∧ (0 ≤ z ∧ z < σ 1) then (mt_len (α 1) (α 1) y.toNat z.toNat (min (σ 1 - y) (σ 1 - z)).toNat : Int) else 0)]) (h' := (zk_mk G sw σ α t)) rfl rfl rfl ?_
                  refine zk_iret dC_match_47 rfl (Or.inr (Or.inr ⟨1, by decide, by omega, by omega, by omega, rfl, ?_⟩))
                  rw [if_pos (by omega)]
              · skip
                exact absurd h27 (by decide)
            · skip
              refine zk_W.to (ls' := [some (.inr (some 1)), some (.inl x), some (.inl y), some (.inl z)]) (st' := [.inl 0]) (h' := (zk_mk G sw σ α t)) rfl rfl rfl ?_
              refine zk_if_ne (tgt := 33) dC_match_27 (by decide) ⟨by decide, by decide⟩ (fun h27 => ?_) (fun h27 => ?_)
              · skip
                exact absurd h27 (by decide)
              · skip
                refine zk_bipush dC_match_30 (by decide) ?_
                first | exact zk_iret dC_match_32 rfl (Or.inl ⟨by omega, rfl, rfl⟩) | exact zk_iret dC_match_32 rfl (Or.inr (Or.inl ⟨0, by decide, by omega, by omega, rfl, rfl⟩)) | exact zk_iret dC_match_32 rfl (Or.inr (Or.inl ⟨1, by decide, by omega, by omega, rfl, rfl⟩))
        · skip
          refine zk_W.to (ls' := [some (.inr (some 1)), some (.inl x), some (.inl y), some (.inl z)]) (st' := [.inl 0]) (h' := (zk_mk G sw σ α t)) rfl rfl rfl ?_
          refine zk_if_eq (tgt := 30) dC_match_16 (by decide) ⟨by decide, by decide⟩ (fun h16 => ?_) (fun h16 => ?_)
          · skip
            refine zk_bipush dC_match_30 (by decide) ?_
            first | exact zk_iret dC_match_32 rfl (Or.inl ⟨by omega, rfl, rfl⟩) | exact zk_iret dC_match_32 rfl (Or.inr (Or.inl ⟨0, by decide, by omega, by omega, rfl, rfl⟩)) | exact zk_iret dC_match_32 rfl (Or.inr (Or.inl ⟨1, by decide, by omega, by omega, rfl, rfl⟩))
          · skip
            exact absurd h16 (by decide)
      · skip
        refine zk_W.to (ls' := [some (.inr (some 1)), some (.inl x), some (.inl y), some (.inl z)]) (st' := [.inr (some 4)]) (h' := (zk_mk G sw σ α t)) rfl rfl rfl ?_
        refine zk_iload_n dC_match_12 rfl ?_
        refine zk_callV (av := [.inl y]) (st := []) (d' := (0, 0)) (kc' := 0) (ks' := 0) zbC_125 dC_match_13 rfl (by decide) rfl rfl (Nat.le_of_ble_eq_true rfl) ⟨by decide, by decide⟩ rfl rfl (kR_has G sw σ α t (q := 1) (by decide) hn1 hy) (fun v9 h9 q9 => ?_)
        rcases q9 with ⟨rfl, ⟨hh13, rfl⟩ | ⟨hh13, rfl⟩⟩
        · skip
          refine zk_W.to (ls' := [some (.inr (some 1)), some (.inl x), some (.inl y), some (.inl z)]) (st' := [.inl 1]) (h' := (zk_mk G sw σ α t)) rfl rfl rfl ?_
          refine zk_if_eq (tgt := 30) dC_match_16 (by decide) ⟨by decide, by decide⟩ (fun h16 => ?_) (fun h16 => ?_)
          · skip
            exact absurd h16 (by decide)
          · skip
            refine zk_aload_n dC_match_19 rfl ?_
            refine zk_get zfC_18 dC_match_20 (v := .inr (some 4)) rfl (by decide) rfl ?_
            refine zk_iload_n dC_match_23 rfl ?_
            refine zk_callV (av := [.inl z]) (st := []) (d' := (0, 0)) (kc' := 0) (ks' := 0) zbC_125 dC_match_24 rfl (by decide) rfl rfl (Nat.le_of_ble_eq_true rfl) ⟨by decide, by decide⟩ rfl rfl (kR_has G sw σ α t (q := 1) (by decide) hn1 hz) (fun v9 h9 q9 => ?_)
            rcases q9 with ⟨rfl, ⟨hh24, rfl⟩ | ⟨hh24, rfl⟩⟩
            · skip
              refine zk_W.to (ls' := [some (.inr (some 1)), some (.inl x), some (.inl y), some (.inl z)]) (st' := [.inl 1]) (h' := (zk_mk G sw σ α t)) rfl rfl rfl ?_
              refine zk_if_ne (tgt := 33) dC_match_27 (by decide) ⟨by decide, by decide⟩ (fun h27 => ?_) (fun h27 => ?_)
              · skip
                refine zk_aload_n dC_match_33 rfl ?_
                refine zk_iload_n dC_match_34 rfl ?_
                refine zk_callV (av := [.inl x]) (st := []) (d' := (0, 0)) (kc' := 0) (ks' := 0) zbC_73 dC_match_35 rfl (by decide) rfl rfl (Nat.le_of_ble_eq_true rfl) ⟨by decide, by decide⟩ rfl rfl (kC_textOf G sw σ α t hx) (fun v9 h9 q9 => ?_)
                rcases q9 with ⟨rfl, ⟨hx35, rfl⟩ | ⟨hx35, rfl⟩⟩
                · skip
                  refine zk_W.to (ls' := [some (.inr (some 1)), some (.inl x), some (.inl y), some (.inl z)]) (st' := [.inr (some 2)]) (h' := (zk_mk G sw σ α t)) rfl rfl rfl ?_
                  refine zk_iload_n dC_match_38 rfl ?_
                  refine zk_aload_n dC_match_39 rfl ?_
                  refine zk_get zfC_18 dC_match_40 (v := .inr (some 4)) rfl (by decide) rfl ?_
                  refine zk_iload_n dC_match_43 rfl ?_
                  refine zk_callV (av := [.inl y, .inr (some 4), .inl z]) (st := []) (d' := (1, 21)) (kc' := 0) (ks' := 0) zbC_128 dC_match_44 rfl (by decide) rfl rfl (Nat.le_of_ble_eq_true rfl) ⟨by decide, by decide⟩ rfl rfl (kR_countSame G sw σ α t (q := 0) (by decide) (r := 1) (by decide) hn0 hn1 hv0 hv1 (i := y) (j := z) hy hz) (fun v9 h9 q9 => ?_)
                  obtain ⟨rfl, rfl⟩ := q9
                  refine zk_W.to (ls' := [some (.inr (some 1)), some (.inl x), some (.inl y), some (.inl z)]) (st' := [.inl (if (0 ≤ y ∧ y < σ 0) ∧ (0 ≤ z ∧ z < σ 1) then (mt_len (α 0) (α 1) y.toNat z.toNat (min (σ 0 - y) (σ 1 - z)).toNat : Int) else 0)]) (h' := (zk_mk G sw σ α t)) rfl rfl rfl ?_
                  refine zk_iret dC_match_47 rfl (Or.inr (Or.inr ⟨0, by decide, by omega, by omega, by omega, rfl, ?_⟩))
                  rw [if_pos (by omega)]
                · skip
                  refine zk_W.to (ls' := [some (.inr (some 1)), some (.inl x), some (.inl y), some (.inl z)]) (st' := [.inr (some 4)]) (h' := (zk_mk G sw σ α t)) rfl rfl rfl ?_
                  refine zk_iload_n dC_match_38 rfl ?_
                  refine zk_aload_n dC_match_39 rfl ?_
                  refine zk_get zfC_18 dC_match_40 (v := .inr (some 4)) rfl (by decide) rfl ?_
                  refine zk_iload_n dC_match_43 rfl ?_
                  refine zk_callV (av := [.inl y, .inr (some 4), .inl z]) (st := []) (d' := (1, 21)) (kc' := 0) (ks' := 0) zbC_128 dC_match_44 rfl (by decide) rfl rfl (Nat.le_of_ble_eq_true rfl) ⟨by decide, by decide⟩ rfl rfl (kR_countSame G sw σ α t (q := 1) (by decide) (r := 1) (by decide) hn1 hn1 hv1 hv1 (i := y) (j := z) hy hz) (fun v9 h9 q9 => ?_)
                  obtain ⟨rfl, rfl⟩ := q9
                  refine zk_W.to (ls' := [some (.inr (some 1)), some (.inl x), some (.inl y), some (.inl z)]) (st' := [.inl (if (0 ≤ y ∧ y < σ 1) ∧ (0 ≤ z ∧ z < σ 1) then (mt_len (α 1) (α 1) y.toNat z.toNat (min (σ 1 - y) (σ 1 - z)).toNat : Int) else 0)]) (h' := (zk_mk G sw σ α t)) rfl rfl rfl ?_
                  refine zk_iret dC_match_47 rfl (Or.inr (Or.inr ⟨1, by decide, by omega, by omega, by omega, rfl, ?_⟩))
                  rw [if_pos (by omega)]
              · skip
                exact absurd h27 (by decide)
            · skip
              refine zk_W.to (ls' := [some (.inr (some 1)), some (.inl x), some (.inl y), some (.inl z)]) (st' := [.inl 0]) (h' := (zk_mk G sw σ α t)) rfl rfl rfl ?_
              refine zk_if_ne (tgt := 33) dC_match_27 (by decide) ⟨by decide, by decide⟩ (fun h27 => ?_) (fun h27 => ?_)
              · skip
                exact absurd h27 (by decide)
              · skip
                refine zk_bipush dC_match_30 (by decide) ?_
                first | exact zk_iret dC_match_32 rfl (Or.inl ⟨by omega, rfl, rfl⟩) | exact zk_iret dC_match_32 rfl (Or.inr (Or.inl ⟨0, by decide, by omega, by omega, rfl, rfl⟩)) | exact zk_iret dC_match_32 rfl (Or.inr (Or.inl ⟨1, by decide, by omega, by omega, rfl, rfl⟩))
        · skip
          refine zk_W.to (ls' := [some (.inr (some 1)), some (.inl x), some (.inl y), some (.inl z)]) (st' := [.inl 0]) (h' := (zk_mk G sw σ α t)) rfl rfl rfl ?_
          refine zk_if_eq (tgt := 30) dC_match_16 (by decide) ⟨by decide, by decide⟩ (fun h16 => ?_) (fun h16 => ?_)
          · skip
            refine zk_bipush dC_match_30 (by decide) ?_
            first | exact zk_iret dC_match_32 rfl (Or.inl ⟨by omega, rfl, rfl⟩) | exact zk_iret dC_match_32 rfl (Or.inr (Or.inl ⟨0, by decide, by omega, by omega, rfl, rfl⟩)) | exact zk_iret dC_match_32 rfl (Or.inr (Or.inl ⟨1, by decide, by omega, by omega, rfl, rfl⟩))
          · skip
            exact absurd h16 (by decide)
  · skip
    refine zk_W.to (ls' := [some (.inr (some 1)), some (.inl x), some (.inl y), some (.inl z)]) (st' := [.inl 0]) (h' := (zk_mk G sw σ α t)) rfl rfl rfl ?_
    refine zk_if_eq (tgt := 30) dC_match_4 (by decide) ⟨by decide, by decide⟩ (fun h4 => ?_) (fun h4 => ?_)
    · skip
      refine zk_bipush dC_match_30 (by decide) ?_
      first | exact zk_iret dC_match_32 rfl (Or.inl ⟨by omega, rfl, rfl⟩) | exact zk_iret dC_match_32 rfl (Or.inr (Or.inl ⟨0, by decide, by omega, by omega, rfl, rfl⟩)) | exact zk_iret dC_match_32 rfl (Or.inr (Or.inl ⟨1, by decide, by omega, by omega, rfl, rfl⟩))
    · skip
      exact absurd h4 (by decide)

set_option maxRecDepth 100000 in
set_option maxHeartbeats 4000000 in
theorem kC_made (G : zk_G) (sw : Bool) (σ : Nat → Int) (α : Nat → Nat → Int) (t : zk_H) (hI : zc_I σ α) {x : Int} (hx : zk_rg x) : zk_K G mC_made (2, 42) 0 0 [.inr (some 1), .inl x] (zk_mk G sw σ α t) (fun v h' => h' = (zk_mk G sw σ α t) ∧ (((0 ≤ x ∧ x < σ 2) ∧ v = some (.inl (α 2 x.toNat))) ∨ ((¬ (0 ≤ x ∧ x < σ 2)) ∧ v = some (.inl (-1))))) := by
  have hn0 := hI.1 0 (by decide)
  have hn1 := hI.1 1 (by decide)
  have hn2 := hI.1 2 (by decide)
  have hn3 := hI.1 3 (by decide)
  have hn4 := hI.1 4 (by decide)
  have eN0 : (zr_N 0 : Int) = 40 := rfl
  have eN1 : (zr_N 1 : Int) = 40 := rfl
  have eN2 : (zr_N 2 : Int) = 80 := rfl
  have eN3 : (zr_N 3 : Int) = 4102 := rfl
  have eN4 : (zr_N 4 : Int) = 4000 := rfl
  have hv0 := hI.2.1 0 (by decide)
  have hv1 := hI.2.1 1 (by decide)
  have hv2 := hI.2.1 2 (by decide)
  have hv3 := hI.2.1 3 (by decide)
  have hv4 := hI.2.1 4 (by decide)
  have hc := hI.2.2.1
  have hs10 := hI.2.2.2.1
  have hs11 := hI.2.2.2.2.1
  have ha := hI.2.2.2.2.2.1
  refine zk_K.of (ls := [some (.inr (some 1)), some (.inl x)]) (by decide +kernel) (Nat.le_of_ble_eq_true rfl) rfl ?_
  refine zk_aload_n dC_made_0 rfl ?_
  refine zk_get zfC_21 dC_made_1 (v := .inr (some 6)) rfl (by decide) rfl ?_
  refine zk_iload_n dC_made_4 rfl ?_
  refine zk_callV (av := [.inl x]) (st := []) (d' := (1, 21)) (kc' := 0) (ks' := 0) zbC_168 dC_made_5 rfl (by decide) rfl rfl (Nat.le_of_ble_eq_true rfl) ⟨by decide, by decide⟩ rfl rfl (kR_get G sw σ α t (q := 2) (by decide) hn2 hx) (fun v9 h9 q9 => ?_)
  rcases q9 with ⟨rfl, ⟨hg5, rfl⟩ | ⟨hg5, rfl⟩⟩
  · skip
    refine zk_W.to (ls' := [some (.inr (some 1)), some (.inl x)]) (st' := [.inl (α 2 x.toNat)]) (h' := (zk_mk G sw σ α t)) rfl rfl rfl ?_
    first | exact zk_iret dC_made_8 rfl ⟨rfl, Or.inl ⟨by assumption, rfl⟩⟩ | exact zk_iret dC_made_8 rfl ⟨rfl, Or.inr ⟨by assumption, rfl⟩⟩
  · skip
    refine zk_W.to (ls' := [some (.inr (some 1)), some (.inl x)]) (st' := [.inl (-1)]) (h' := (zk_mk G sw σ α t)) rfl rfl rfl ?_
    first | exact zk_iret dC_made_8 rfl ⟨rfl, Or.inl ⟨by assumption, rfl⟩⟩ | exact zk_iret dC_made_8 rfl ⟨rfl, Or.inr ⟨by assumption, rfl⟩⟩

set_option maxRecDepth 100000 in
set_option maxHeartbeats 4000000 in
theorem kC_code (G : zk_G) (sw : Bool) (σ : Nat → Int) (α : Nat → Nat → Int) (t : zk_H) (hI : zc_I σ α) {x : Int} (hx : zk_rg x) : zk_K G mC_code (2, 42) 0 0 [.inr (some 1), .inl x] (zk_mk G sw σ α t) (fun v h' => h' = (zk_mk G sw σ α t) ∧ (((0 ≤ x ∧ x < σ 3) ∧ v = some (.inl (α 3 x.toNat))) ∨ ((¬ (0 ≤ x ∧ x < σ 3)) ∧ v = some (.inl (-1))))) := by
  have hn0 := hI.1 0 (by decide)
  have hn1 := hI.1 1 (by decide)
  have hn2 := hI.1 2 (by decide)
  have hn3 := hI.1 3 (by decide)
  have hn4 := hI.1 4 (by decide)
  have eN0 : (zr_N 0 : Int) = 40 := rfl
  have eN1 : (zr_N 1 : Int) = 40 := rfl
  have eN2 : (zr_N 2 : Int) = 80 := rfl
  have eN3 : (zr_N 3 : Int) = 4102 := rfl
  have eN4 : (zr_N 4 : Int) = 4000 := rfl
  have hv0 := hI.2.1 0 (by decide)
  have hv1 := hI.2.1 1 (by decide)
  have hv2 := hI.2.1 2 (by decide)
  have hv3 := hI.2.1 3 (by decide)
  have hv4 := hI.2.1 4 (by decide)
  have hc := hI.2.2.1
  have hs10 := hI.2.2.2.1
  have hs11 := hI.2.2.2.2.1
  have ha := hI.2.2.2.2.2.1
  refine zk_K.of (ls := [some (.inr (some 1)), some (.inl x)]) (by decide +kernel) (Nat.le_of_ble_eq_true rfl) rfl ?_
  refine zk_aload_n dC_code_0 rfl ?_
  refine zk_get zfC_24 dC_code_1 (v := .inr (some 8)) rfl (by decide) rfl ?_
  refine zk_iload_n dC_code_4 rfl ?_
  refine zk_callV (av := [.inl x]) (st := []) (d' := (1, 21)) (kc' := 0) (ks' := 0) zbC_168 dC_code_5 rfl (by decide) rfl rfl (Nat.le_of_ble_eq_true rfl) ⟨by decide, by decide⟩ rfl rfl (kR_get G sw σ α t (q := 3) (by decide) hn3 hx) (fun v9 h9 q9 => ?_)
  rcases q9 with ⟨rfl, ⟨hg5, rfl⟩ | ⟨hg5, rfl⟩⟩
  · skip
    refine zk_W.to (ls' := [some (.inr (some 1)), some (.inl x)]) (st' := [.inl (α 3 x.toNat)]) (h' := (zk_mk G sw σ α t)) rfl rfl rfl ?_
    first | exact zk_iret dC_code_8 rfl ⟨rfl, Or.inl ⟨by assumption, rfl⟩⟩ | exact zk_iret dC_code_8 rfl ⟨rfl, Or.inr ⟨by assumption, rfl⟩⟩
  · skip
    refine zk_W.to (ls' := [some (.inr (some 1)), some (.inl x)]) (st' := [.inl (-1)]) (h' := (zk_mk G sw σ α t)) rfl rfl rfl ?_
    first | exact zk_iret dC_code_8 rfl ⟨rfl, Or.inl ⟨by assumption, rfl⟩⟩ | exact zk_iret dC_code_8 rfl ⟨rfl, Or.inr ⟨by assumption, rfl⟩⟩

set_option maxRecDepth 100000 in
set_option maxHeartbeats 4000000 in
theorem kC_at (G : zk_G) (sw : Bool) (σ : Nat → Int) (α : Nat → Nat → Int) (t : zk_H) (hI : zc_I σ α) {x y : Int} (hx : zk_rg x) (hy : zk_rg y) : zk_K G mC_at (2, 42) 0 0 [.inr (some 1), .inl x, .inl y] (zk_mk G sw σ α t) (fun v h' => ((¬ (x = 0 ∨ x = 1)) ∧ h' = (zk_mk G sw σ α t) ∧ v = some (.inl (-2))) ∨ (∃ q : Nat, q < 2 ∧ x = (q : Int) ∧ ¬ (0 ≤ y ∧ y < σ q) ∧ h' = (zk_mk G sw σ α t) ∧ v = some (.inl (-2))) ∨ (∃ q : Nat, q < 2 ∧ x = (q : Int) ∧ (0 ≤ y ∧ y < σ q) ∧ h' = (zk_mk G sw σ α t) ∧ v = some (.inl (α q y.toNat)))) := by
  have hn0 := hI.1 0 (by decide)
  have hn1 := hI.1 1 (by decide)
  have hn2 := hI.1 2 (by decide)
  have hn3 := hI.1 3 (by decide)
  have hn4 := hI.1 4 (by decide)
  have eN0 : (zr_N 0 : Int) = 40 := rfl
  have eN1 : (zr_N 1 : Int) = 40 := rfl
  have eN2 : (zr_N 2 : Int) = 80 := rfl
  have eN3 : (zr_N 3 : Int) = 4102 := rfl
  have eN4 : (zr_N 4 : Int) = 4000 := rfl
  have hv0 := hI.2.1 0 (by decide)
  have hv1 := hI.2.1 1 (by decide)
  have hv2 := hI.2.1 2 (by decide)
  have hv3 := hI.2.1 3 (by decide)
  have hv4 := hI.2.1 4 (by decide)
  have hc := hI.2.2.1
  have hs10 := hI.2.2.2.1
  have hs11 := hI.2.2.2.2.1
  have ha := hI.2.2.2.2.2.1
  refine zk_K.of (ls := [some (.inr (some 1)), some (.inl x), some (.inl y)]) (by decide +kernel) (Nat.le_of_ble_eq_true rfl) rfl ?_
  refine zk_iload_n dC_at_0 rfl ?_
  refine zk_callS (av := [.inl x]) (st := []) (d' := (0, 0)) (kc' := 0) (ks' := 0) zbC_66 dC_at_1 rfl rfl (Nat.le_of_ble_eq_true rfl) ⟨by decide, by decide⟩ rfl rfl (kC_isText G sw σ α t hx) (fun v9 h9 q9 => ?_)
  rcases q9 with ⟨rfl, ⟨hc1, rfl⟩ | ⟨hc1, rfl⟩⟩
  · skip
    refine zk_W.to (ls' := [some (.inr (some 1)), some (.inl x), some (.inl y)]) (st' := [.inl 1]) (h' := (zk_mk G sw σ α t)) rfl rfl rfl ?_
    refine zk_if_eq (tgt := 19) dC_at_4 (by decide) ⟨by decide, by decide⟩ (fun h4 => ?_) (fun h4 => ?_)
    · skip
      exact absurd h4 (by decide)
    · skip
      refine zk_aload_n dC_at_7 rfl ?_
      refine zk_iload_n dC_at_8 rfl ?_
      refine zk_callV (av := [.inl x]) (st := []) (d' := (0, 0)) (kc' := 0) (ks' := 0) zbC_73 dC_at_9 rfl (by decide) rfl rfl (Nat.le_of_ble_eq_true rfl) ⟨by decide, by decide⟩ rfl rfl (kC_textOf G sw σ α t hx) (fun v9 h9 q9 => ?_)
      rcases q9 with ⟨rfl, ⟨hx9, rfl⟩ | ⟨hx9, rfl⟩⟩
      · skip
        refine zk_W.to (ls' := [some (.inr (some 1)), some (.inl x), some (.inl y)]) (st' := [.inr (some 2)]) (h' := (zk_mk G sw σ α t)) rfl rfl rfl ?_
        refine zk_iload_n dC_at_12 rfl ?_
        refine zk_callV (av := [.inl y]) (st := []) (d' := (0, 0)) (kc' := 0) (ks' := 0) zbC_125 dC_at_13 rfl (by decide) rfl rfl (Nat.le_of_ble_eq_true rfl) ⟨by decide, by decide⟩ rfl rfl (kR_has G sw σ α t (q := 0) (by decide) hn0 hy) (fun v9 h9 q9 => ?_)
        rcases q9 with ⟨rfl, ⟨hh13, rfl⟩ | ⟨hh13, rfl⟩⟩
        · skip
          refine zk_W.to (ls' := [some (.inr (some 1)), some (.inl x), some (.inl y)]) (st' := [.inl 1]) (h' := (zk_mk G sw σ α t)) rfl rfl rfl ?_
          refine zk_if_ne (tgt := 22) dC_at_16 (by decide) ⟨by decide, by decide⟩ (fun h16 => ?_) (fun h16 => ?_)
          · skip
            refine zk_aload_n dC_at_22 rfl ?_
            refine zk_iload_n dC_at_23 rfl ?_
            refine zk_callV (av := [.inl x]) (st := []) (d' := (0, 0)) (kc' := 0) (ks' := 0) zbC_73 dC_at_24 rfl (by decide) rfl rfl (Nat.le_of_ble_eq_true rfl) ⟨by decide, by decide⟩ rfl rfl (kC_textOf G sw σ α t hx) (fun v9 h9 q9 => ?_)
            rcases q9 with ⟨rfl, ⟨hx24, rfl⟩ | ⟨hx24, rfl⟩⟩
            · skip
              refine zk_W.to (ls' := [some (.inr (some 1)), some (.inl x), some (.inl y)]) (st' := [.inr (some 2)]) (h' := (zk_mk G sw σ α t)) rfl rfl rfl ?_
              refine zk_iload_n dC_at_27 rfl ?_
              refine zk_callV (av := [.inl y]) (st := []) (d' := (1, 21)) (kc' := 0) (ks' := 0) zbC_168 dC_at_28 rfl (by decide) rfl rfl (Nat.le_of_ble_eq_true rfl) ⟨by decide, by decide⟩ rfl rfl (kR_get G sw σ α t (q := 0) (by decide) hn0 hy) (fun v9 h9 q9 => ?_)
              rcases q9 with ⟨rfl, ⟨hg28, rfl⟩ | ⟨hg28, rfl⟩⟩
              · skip
                refine zk_W.to (ls' := [some (.inr (some 1)), some (.inl x), some (.inl y)]) (st' := [.inl (α 0 y.toNat)]) (h' := (zk_mk G sw σ α t)) rfl rfl rfl ?_
                exact zk_iret dC_at_31 rfl (Or.inr (Or.inr ⟨0, by decide, by omega, by omega, rfl, rfl⟩))
              · skip
                refine zk_W.to (ls' := [some (.inr (some 1)), some (.inl x), some (.inl y)]) (st' := [.inl (-1)]) (h' := (zk_mk G sw σ α t)) rfl rfl rfl ?_
                exfalso; omega
            · skip
              refine zk_W.to (ls' := [some (.inr (some 1)), some (.inl x), some (.inl y)]) (st' := [.inr (some 4)]) (h' := (zk_mk G sw σ α t)) rfl rfl rfl ?_
              refine zk_iload_n dC_at_27 rfl ?_
              refine zk_callV (av := [.inl y]) (st := []) (d' := (1, 21)) (kc' := 0) (ks' := 0) zbC_168 dC_at_28 rfl (by decide) rfl rfl (Nat.le_of_ble_eq_true rfl) ⟨by decide, by decide⟩ rfl rfl (kR_get G sw σ α t (q := 1) (by decide) hn1 hy) (fun v9 h9 q9 => ?_)
              rcases q9 with ⟨rfl, ⟨hg28, rfl⟩ | ⟨hg28, rfl⟩⟩
              · skip
                refine zk_W.to (ls' := [some (.inr (some 1)), some (.inl x), some (.inl y)]) (st' := [.inl (α 1 y.toNat)]) (h' := (zk_mk G sw σ α t)) rfl rfl rfl ?_
                exact zk_iret dC_at_31 rfl (Or.inr (Or.inr ⟨1, by decide, by omega, by omega, rfl, rfl⟩))
              · skip
                refine zk_W.to (ls' := [some (.inr (some 1)), some (.inl x), some (.inl y)]) (st' := [.inl (-1)]) (h' := (zk_mk G sw σ α t)) rfl rfl rfl ?_
                exfalso; omega
          · skip
            exact absurd h16 (by decide)
        · skip
          refine zk_W.to (ls' := [some (.inr (some 1)), some (.inl x), some (.inl y)]) (st' := [.inl 0]) (h' := (zk_mk G sw σ α t)) rfl rfl rfl ?_
          refine zk_if_ne (tgt := 22) dC_at_16 (by decide) ⟨by decide, by decide⟩ (fun h16 => ?_) (fun h16 => ?_)
          · skip
            exact absurd h16 (by decide)
          · skip
            refine zk_bipush dC_at_19 (by decide) ?_
            first | exact zk_iret dC_at_21 rfl (Or.inl ⟨by omega, rfl, rfl⟩) | exact zk_iret dC_at_21 rfl (Or.inr (Or.inl ⟨0, by decide, by omega, by omega, rfl, rfl⟩)) | exact zk_iret dC_at_21 rfl (Or.inr (Or.inl ⟨1, by decide, by omega, by omega, rfl, rfl⟩))
      · skip
        refine zk_W.to (ls' := [some (.inr (some 1)), some (.inl x), some (.inl y)]) (st' := [.inr (some 4)]) (h' := (zk_mk G sw σ α t)) rfl rfl rfl ?_
        refine zk_iload_n dC_at_12 rfl ?_
        refine zk_callV (av := [.inl y]) (st := []) (d' := (0, 0)) (kc' := 0) (ks' := 0) zbC_125 dC_at_13 rfl (by decide) rfl rfl (Nat.le_of_ble_eq_true rfl) ⟨by decide, by decide⟩ rfl rfl (kR_has G sw σ α t (q := 1) (by decide) hn1 hy) (fun v9 h9 q9 => ?_)
        rcases q9 with ⟨rfl, ⟨hh13, rfl⟩ | ⟨hh13, rfl⟩⟩
        · skip
          refine zk_W.to (ls' := [some (.inr (some 1)), some (.inl x), some (.inl y)]) (st' := [.inl 1]) (h' := (zk_mk G sw σ α t)) rfl rfl rfl ?_
          refine zk_if_ne (tgt := 22) dC_at_16 (by decide) ⟨by decide, by decide⟩ (fun h16 => ?_) (fun h16 => ?_)
          · skip
            refine zk_aload_n dC_at_22 rfl ?_
            refine zk_iload_n dC_at_23 rfl ?_
            refine zk_callV (av := [.inl x]) (st := []) (d' := (0, 0)) (kc' := 0) (ks' := 0) zbC_73 dC_at_24 rfl (by decide) rfl rfl (Nat.le_of_ble_eq_true rfl) ⟨by decide, by decide⟩ rfl rfl (kC_textOf G sw σ α t hx) (fun v9 h9 q9 => ?_)
            rcases q9 with ⟨rfl, ⟨hx24, rfl⟩ | ⟨hx24, rfl⟩⟩
            · skip
              refine zk_W.to (ls' := [some (.inr (some 1)), some (.inl x), some (.inl y)]) (st' := [.inr (some 2)]) (h' := (zk_mk G sw σ α t)) rfl rfl rfl ?_
              refine zk_iload_n dC_at_27 rfl ?_
              refine zk_callV (av := [.inl y]) (st := []) (d' := (1, 21)) (kc' := 0) (ks' := 0) zbC_168 dC_at_28 rfl (by decide) rfl rfl (Nat.le_of_ble_eq_true rfl) ⟨by decide, by decide⟩ rfl rfl (kR_get G sw σ α t (q := 0) (by decide) hn0 hy) (fun v9 h9 q9 => ?_)
              rcases q9 with ⟨rfl, ⟨hg28, rfl⟩ | ⟨hg28, rfl⟩⟩
              · skip
                refine zk_W.to (ls' := [some (.inr (some 1)), some (.inl x), some (.inl y)]) (st' := [.inl (α 0 y.toNat)]) (h' := (zk_mk G sw σ α t)) rfl rfl rfl ?_
                exact zk_iret dC_at_31 rfl (Or.inr (Or.inr ⟨0, by decide, by omega, by omega, rfl, rfl⟩))
              · skip
                refine zk_W.to (ls' := [some (.inr (some 1)), some (.inl x), some (.inl y)]) (st' := [.inl (-1)]) (h' := (zk_mk G sw σ α t)) rfl rfl rfl ?_
                exfalso; omega
            · skip
              refine zk_W.to (ls' := [some (.inr (some 1)), some (.inl x), some (.inl y)]) (st' := [.inr (some 4)]) (h' := (zk_mk G sw σ α t)) rfl rfl rfl ?_
              refine zk_iload_n dC_at_27 rfl ?_
              refine zk_callV (av := [.inl y]) (st := []) (d' := (1, 21)) (kc' := 0) (ks' := 0) zbC_168 dC_at_28 rfl (by decide) rfl rfl (Nat.le_of_ble_eq_true rfl) ⟨by decide, by decide⟩ rfl rfl (kR_get G sw σ α t (q := 1) (by decide) hn1 hy) (fun v9 h9 q9 => ?_)
              rcases q9 with ⟨rfl, ⟨hg28, rfl⟩ | ⟨hg28, rfl⟩⟩
              · skip
                refine zk_W.to (ls' := [some (.inr (some 1)), some (.inl x), some (.inl y)]) (st' := [.inl (α 1 y.toNat)]) (h' := (zk_mk G sw σ α t)) rfl rfl rfl ?_
                exact zk_iret dC_at_31 rfl (Or.inr (Or.inr ⟨1, by decide, by omega, by omega, rfl, rfl⟩))
              · skip
                refine zk_W.to (ls' := [some (.inr (some 1)), some (.inl x), some (.inl y)]) (st' := [.inl (-1)]) (h' := (zk_mk G sw σ α t)) rfl rfl rfl ?_
                exfalso; omega
          · skip
            exact absurd h16 (by decide)
        · skip
          refine zk_W.to (ls' := [some (.inr (some 1)), some (.inl x), some (.inl y)]) (st' := [.inl 0]) (h' := (zk_mk G sw σ α t)) rfl rfl rfl ?_
          refine zk_if_ne (tgt := 22) dC_at_16 (by decide) ⟨by decide, by decide⟩ (fun h16 => ?_) (fun h16 => ?_)
          · skip
            exact absurd h16 (by decide)
          · skip
            refine zk_bipush dC_at_19 (by decide) ?_
            first | exact zk_iret dC_at_21 rfl (Or.inl ⟨by omega, rfl, rfl⟩) | exact zk_iret dC_at_21 rfl (Or.inr (Or.inl ⟨0, by decide, by omega, by omega, rfl, rfl⟩)) | exact zk_iret dC_at_21 rfl (Or.inr (Or.inl ⟨1, by decide, by omega, by omega, rfl, rfl⟩))
  · skip
    refine zk_W.to (ls' := [some (.inr (some 1)), some (.inl x), some (.inl y)]) (st' := [.inl 0]) (h' := (zk_mk G sw σ α t)) rfl rfl rfl ?_
    refine zk_if_eq (tgt := 19) dC_at_4 (by decide) ⟨by decide, by decide⟩ (fun h4 => ?_) (fun h4 => ?_)
    · skip
      refine zk_bipush dC_at_19 (by decide) ?_
      first | exact zk_iret dC_at_21 rfl (Or.inl ⟨by omega, rfl, rfl⟩) | exact zk_iret dC_at_21 rfl (Or.inr (Or.inl ⟨0, by decide, by omega, by omega, rfl, rfl⟩)) | exact zk_iret dC_at_21 rfl (Or.inr (Or.inl ⟨1, by decide, by omega, by omega, rfl, rfl⟩))
    · skip
      exact absurd h4 (by decide)

set_option maxRecDepth 100000 in
set_option maxHeartbeats 4000000 in
theorem kC_poke (G : zk_G) (sw : Bool) (σ : Nat → Int) (α : Nat → Nat → Int) (t : zk_H) (hI : zc_I σ α) {x y : Int} (hx : zk_rg x) (hy : zk_rg y) : zk_K G mC_poke (2, 43) 0 0 [.inr (some 1), .inl x, .inl y] (zk_mk G sw σ α t) (fun v h' => ((¬ ((0 ≤ x ∧ x < σ 3) ∧ (0 ≤ y ∧ y ≤ 255))) ∧ h' = (zk_mk G sw σ α t) ∧ v = some (.inl (-2))) ∨ (((0 ≤ x ∧ x < σ 3) ∧ (0 ≤ y ∧ y ≤ 255)) ∧ h' = zk_mk G sw σ (zk_ua α 3 (zk_up (α 3) x.toNat y)) t ∧ v = some (.inl (α 3 x.toNat)))) := by
  have hn0 := hI.1 0 (by decide)
  have hn1 := hI.1 1 (by decide)
  have hn2 := hI.1 2 (by decide)
  have hn3 := hI.1 3 (by decide)
  have hn4 := hI.1 4 (by decide)
  have eN0 : (zr_N 0 : Int) = 40 := rfl
  have eN1 : (zr_N 1 : Int) = 40 := rfl
  have eN2 : (zr_N 2 : Int) = 80 := rfl
  have eN3 : (zr_N 3 : Int) = 4102 := rfl
  have eN4 : (zr_N 4 : Int) = 4000 := rfl
  have hv0 := hI.2.1 0 (by decide)
  have hv1 := hI.2.1 1 (by decide)
  have hv2 := hI.2.1 2 (by decide)
  have hv3 := hI.2.1 3 (by decide)
  have hv4 := hI.2.1 4 (by decide)
  have hc := hI.2.2.1
  have hs10 := hI.2.2.2.1
  have hs11 := hI.2.2.2.2.1
  have ha := hI.2.2.2.2.2.1
  refine zk_K.of (ls := [some (.inr (some 1)), some (.inl x), some (.inl y), none]) (by decide +kernel) (Nat.le_of_ble_eq_true rfl) rfl ?_
  refine zk_aload_n dC_poke_0 rfl ?_
  refine zk_get zfC_24 dC_poke_1 (v := .inr (some 8)) rfl (by decide) rfl ?_
  refine zk_iload_n dC_poke_4 rfl ?_
  refine zk_callV (av := [.inl x]) (st := []) (d' := (0, 0)) (kc' := 0) (ks' := 0) zbC_125 dC_poke_5 rfl (by decide) rfl rfl (Nat.le_of_ble_eq_true rfl) ⟨by decide, by decide⟩ rfl rfl (kR_has G sw σ α t (q := 3) (by decide) hn3 hx) (fun v9 h9 q9 => ?_)
  rcases q9 with ⟨rfl, ⟨hh5, rfl⟩ | ⟨hh5, rfl⟩⟩
  · skip
    refine zk_W.to (ls' := [some (.inr (some 1)), some (.inl x), some (.inl y), none]) (st' := [.inl 1]) (h' := (zk_mk G sw σ α t)) rfl rfl rfl ?_
    refine zk_if_eq (tgt := 18) dC_poke_8 (by decide) ⟨by decide, by decide⟩ (fun h8 => ?_) (fun h8 => ?_)
    · skip
      exact absurd h8 (by decide)
    · skip
      refine zk_iload_n dC_poke_11 rfl ?_
      refine zk_callS (av := [.inl y]) (st := []) (d' := (0, 0)) (kc' := 0) (ks' := 0) zbC_70 dC_poke_12 rfl rfl (Nat.le_of_ble_eq_true rfl) ⟨by decide, by decide⟩ rfl rfl (kC_isByte G sw σ α t hy) (fun v9 h9 q9 => ?_)
      rcases q9 with ⟨rfl, ⟨hc12, rfl⟩ | ⟨hc12, rfl⟩⟩
      · skip
        refine zk_W.to (ls' := [some (.inr (some 1)), some (.inl x), some (.inl y), none]) (st' := [.inl 1]) (h' := (zk_mk G sw σ α t)) rfl rfl rfl ?_
        refine zk_if_ne (tgt := 21) dC_poke_15 (by decide) ⟨by decide, by decide⟩ (fun h15 => ?_) (fun h15 => ?_)
        · skip
          refine zk_aload_n dC_poke_21 rfl ?_
          refine zk_get zfC_24 dC_poke_22 (v := .inr (some 8)) rfl (by decide) rfl ?_
          refine zk_iload_n dC_poke_25 rfl ?_
          refine zk_callV (av := [.inl x]) (st := []) (d' := (1, 21)) (kc' := 0) (ks' := 0) zbC_168 dC_poke_26 rfl (by decide) rfl rfl (Nat.le_of_ble_eq_true rfl) ⟨by decide, by decide⟩ rfl rfl (kR_get G sw σ α t (q := 3) (by decide) hn3 hx) (fun v9 h9 q9 => ?_)
          rcases q9 with ⟨rfl, ⟨hg26, rfl⟩ | ⟨hg26, rfl⟩⟩
          · skip
            refine zk_W.to (ls' := [some (.inr (some 1)), some (.inl x), some (.inl y), none]) (st' := [.inl (α 3 x.toNat)]) (h' := (zk_mk G sw σ α t)) rfl rfl rfl ?_
            refine zk_istore_n (ls' := [some (.inr (some 1)), some (.inl x), some (.inl y), some (.inl (α 3 x.toNat))]) dC_poke_29 (by decide) rfl ?_
            refine zk_aload_n dC_poke_30 rfl ?_
            refine zk_get zfC_24 dC_poke_31 (v := .inr (some 8)) rfl (by decide) rfl ?_
            refine zk_iload_n dC_poke_34 rfl ?_
            refine zk_iload_n dC_poke_35 rfl ?_
            refine zk_callV (av := [.inl x, .inl y]) (st := []) (d' := (1, 21)) (kc' := 0) (ks' := 0) zbC_178 dC_poke_36 rfl (by decide) rfl rfl (Nat.le_of_ble_eq_true rfl) ⟨by decide, by decide⟩ rfl rfl (kR_set G sw σ α t (q := 3) (by decide) hn3 (x := y) hx) (fun v9 h9 q9 => ?_)
            rcases q9 with ⟨rfl, ⟨hst36, rfl⟩ | ⟨hst36, rfl⟩⟩
            · skip
              refine zk_W.to (ls' := [some (.inr (some 1)), some (.inl x), some (.inl y), some (.inl (α 3 x.toNat))]) (st' := []) (h' := (zk_mk G sw σ (zk_ua α 3 (zk_up (α 3) x.toNat y)) t)) rfl rfl rfl ?_
              refine zk_iload_n dC_poke_39 rfl ?_
              first | exact zk_iret dC_poke_40 rfl (Or.inl ⟨by omega, rfl, rfl⟩) | exact zk_iret dC_poke_40 rfl (Or.inr ⟨by omega, rfl, rfl⟩) | (exfalso; omega)
            · skip
              exfalso; omega
          · skip
            refine zk_W.to (ls' := [some (.inr (some 1)), some (.inl x), some (.inl y), none]) (st' := [.inl (-1)]) (h' := (zk_mk G sw σ α t)) rfl rfl rfl ?_
            refine zk_istore_n (ls' := [some (.inr (some 1)), some (.inl x), some (.inl y), some (.inl (-1))]) dC_poke_29 (by decide) rfl ?_
            refine zk_aload_n dC_poke_30 rfl ?_
            refine zk_get zfC_24 dC_poke_31 (v := .inr (some 8)) rfl (by decide) rfl ?_
            refine zk_iload_n dC_poke_34 rfl ?_
            refine zk_iload_n dC_poke_35 rfl ?_
            refine zk_callV (av := [.inl x, .inl y]) (st := []) (d' := (1, 21)) (kc' := 0) (ks' := 0) zbC_178 dC_poke_36 rfl (by decide) rfl rfl (Nat.le_of_ble_eq_true rfl) ⟨by decide, by decide⟩ rfl rfl (kR_set G sw σ α t (q := 3) (by decide) hn3 (x := y) hx) (fun v9 h9 q9 => ?_)
            rcases q9 with ⟨rfl, ⟨hst36, rfl⟩ | ⟨hst36, rfl⟩⟩
            · skip
              refine zk_W.to (ls' := [some (.inr (some 1)), some (.inl x), some (.inl y), some (.inl (-1))]) (st' := []) (h' := (zk_mk G sw σ (zk_ua α 3 (zk_up (α 3) x.toNat y)) t)) rfl rfl rfl ?_
              refine zk_iload_n dC_poke_39 rfl ?_
              first | exact zk_iret dC_poke_40 rfl (Or.inl ⟨by omega, rfl, rfl⟩) | exact zk_iret dC_poke_40 rfl (Or.inr ⟨by omega, rfl, rfl⟩) | (exfalso; omega)
            · skip
              exfalso; omega
        · skip
          exact absurd h15 (by decide)
      · skip
        refine zk_W.to (ls' := [some (.inr (some 1)), some (.inl x), some (.inl y), none]) (st' := [.inl 0]) (h' := (zk_mk G sw σ α t)) rfl rfl rfl ?_
        refine zk_if_ne (tgt := 21) dC_poke_15 (by decide) ⟨by decide, by decide⟩ (fun h15 => ?_) (fun h15 => ?_)
        · skip
          exact absurd h15 (by decide)
        · skip
          refine zk_bipush dC_poke_18 (by decide) ?_
          first | exact zk_iret dC_poke_20 rfl (Or.inl ⟨by omega, rfl, rfl⟩) | exact zk_iret dC_poke_20 rfl (Or.inr ⟨by omega, rfl, rfl⟩) | (exfalso; omega)
  · skip
    refine zk_W.to (ls' := [some (.inr (some 1)), some (.inl x), some (.inl y), none]) (st' := [.inl 0]) (h' := (zk_mk G sw σ α t)) rfl rfl rfl ?_
    refine zk_if_eq (tgt := 18) dC_poke_8 (by decide) ⟨by decide, by decide⟩ (fun h8 => ?_) (fun h8 => ?_)
    · skip
      refine zk_bipush dC_poke_18 (by decide) ?_
      first | exact zk_iret dC_poke_20 rfl (Or.inl ⟨by omega, rfl, rfl⟩) | exact zk_iret dC_poke_20 rfl (Or.inr ⟨by omega, rfl, rfl⟩) | (exfalso; omega)
    · skip
      exact absurd h8 (by decide)

set_option maxRecDepth 100000 in
set_option maxHeartbeats 4000000 in
theorem kC_shorten (G : zk_G) (sw : Bool) (σ : Nat → Int) (α : Nat → Nat → Int) (t : zk_H) (hI : zc_I σ α) {x : Int} (hx : zk_rg x) : zk_K G mC_shorten (2, 39) 0 0 [.inr (some 1), .inl x] (zk_mk G sw σ α t) (fun v h' => ((¬ (0 ≤ x ∧ x ≤ σ 3)) ∧ h' = (zk_mk G sw σ α t) ∧ v = some (.inl (-2))) ∨ ((0 ≤ x ∧ x ≤ σ 3) ∧ h' = zk_mk G sw (zk_up σ 3 (σ 3 - x)) α t ∧ v = some (.inl (σ 3 - x)))) := by
  have hn0 := hI.1 0 (by decide)
  have hn1 := hI.1 1 (by decide)
  have hn2 := hI.1 2 (by decide)
  have hn3 := hI.1 3 (by decide)
  have hn4 := hI.1 4 (by decide)
  have eN0 : (zr_N 0 : Int) = 40 := rfl
  have eN1 : (zr_N 1 : Int) = 40 := rfl
  have eN2 : (zr_N 2 : Int) = 80 := rfl
  have eN3 : (zr_N 3 : Int) = 4102 := rfl
  have eN4 : (zr_N 4 : Int) = 4000 := rfl
  have hv0 := hI.2.1 0 (by decide)
  have hv1 := hI.2.1 1 (by decide)
  have hv2 := hI.2.1 2 (by decide)
  have hv3 := hI.2.1 3 (by decide)
  have hv4 := hI.2.1 4 (by decide)
  have hc := hI.2.2.1
  have hs10 := hI.2.2.2.1
  have hs11 := hI.2.2.2.2.1
  have ha := hI.2.2.2.2.2.1
  refine zk_K.of (ls := [some (.inr (some 1)), some (.inl x)]) (by decide +kernel) (Nat.le_of_ble_eq_true rfl) rfl ?_
  refine zk_iload_n dC_shorten_0 rfl ?_
  refine zk_if_lt (tgt := 15) dC_shorten_1 (by decide) hx (fun h1 => ?_) (fun h1 => ?_)
  · skip
    refine zk_bipush dC_shorten_15 (by decide) ?_
    exact zk_iret dC_shorten_17 rfl (Or.inl ⟨by omega, rfl, rfl⟩)
  · skip
    refine zk_iload_n dC_shorten_4 rfl ?_
    refine zk_aload_n dC_shorten_5 rfl ?_
    refine zk_get zfC_24 dC_shorten_6 (v := .inr (some 8)) rfl (by decide) rfl ?_
    refine zk_callV (av := []) (st := [.inl x]) (d' := (0, 0)) (kc' := 0) (ks' := 0) zbC_50 dC_shorten_9 rfl (by decide) rfl rfl (Nat.le_of_ble_eq_true rfl) ⟨by decide, by decide⟩ rfl rfl (kR_length G sw σ α t (q := 3) (by decide)) (fun v9 h9 q9 => ?_)
    obtain ⟨rfl, rfl⟩ := q9
    refine zk_W.to (ls' := [some (.inr (some 1)), some (.inl x)]) (st' := [.inl (σ 3), .inl x]) (h' := (zk_mk G sw σ α t)) rfl rfl rfl ?_
    refine zk_icmp_le (tgt := 18) dC_shorten_12 (by decide) hx ⟨by omega, by omega⟩ (fun h12 => ?_) (fun h12 => ?_)
    · skip
      refine zk_aload_n dC_shorten_18 rfl ?_
      refine zk_get zfC_24 dC_shorten_19 (v := .inr (some 8)) rfl (by decide) rfl ?_
      refine zk_iload_n dC_shorten_22 rfl ?_
      refine zk_callV (av := [.inl x]) (st := []) (d' := (1, 18)) (kc' := 0) (ks' := 0) zbC_84 dC_shorten_23 rfl (by decide) rfl rfl (Nat.le_of_ble_eq_true rfl) ⟨by decide, by decide⟩ rfl rfl (kR_dropLast G sw σ α t (q := 3) (by decide) hn3 hx) (fun v9 h9 q9 => ?_)
      obtain ⟨rfl, rfl⟩ := q9
      refine zk_W.to (ls' := [some (.inr (some 1)), some (.inl x)]) (st' := []) (h' := (zk_mk G sw (zk_up σ 3 (σ 3 - max 0 (min x (σ 3)))) α t)) rfl rfl rfl ?_
      refine zk_aload_n dC_shorten_26 rfl ?_
      refine zk_get zfC_24 dC_shorten_27 (v := .inr (some 8)) rfl (by decide) rfl ?_
      refine zk_callV (av := []) (st := []) (d' := (0, 0)) (kc' := 0) (ks' := 0) zbC_50 dC_shorten_30 rfl (by decide) rfl rfl (Nat.le_of_ble_eq_true rfl) ⟨by decide, by decide⟩ rfl rfl (kR_length G sw (zk_up σ 3 (σ 3 - max 0 (min x (σ 3)))) α t (q := 3) (by decide)) (fun v9 h9 q9 => ?_)
      obtain ⟨rfl, rfl⟩ := q9
      refine zk_W.to (ls' := [some (.inr (some 1)), some (.inl x)]) (st' := [.inl (σ 3 - max 0 (min x (σ 3)))]) (h' := (zk_mk G sw (zk_up σ 3 (σ 3 - max 0 (min x (σ 3)))) α t)) rfl rfl rfl ?_
      have em : max 0 (min x (σ 3)) = x := by omega
      refine zk_iret dC_shorten_33 rfl (Or.inr ⟨by omega, ?_, ?_⟩)
      · rw [em]
      · rw [em]
    · skip
      refine zk_bipush dC_shorten_15 (by decide) ?_
      exact zk_iret dC_shorten_17 rfl (Or.inl ⟨by omega, rfl, rfl⟩)

set_option maxRecDepth 100000 in
set_option maxHeartbeats 4000000 in
theorem kC_empty (G : zk_G) (sw : Bool) (σ : Nat → Int) (α : Nat → Nat → Int) (t : zk_H) (hI : zc_I σ α)  : zk_K G mC_empty (2, 41) 0 0 [.inr (some 1)] (zk_mk G sw σ α t) (fun v h' => h' = zk_mk G sw (zk_up (zk_up (zk_up σ 10 0) 4 0) 11 (mt_sum (α 0) (σ 0).toNat)) α t ∧ v = some (.inl (σ 10))) := by
  have hn0 := hI.1 0 (by decide)
  have hn1 := hI.1 1 (by decide)
  have hn2 := hI.1 2 (by decide)
  have hn3 := hI.1 3 (by decide)
  have hn4 := hI.1 4 (by decide)
  have eN0 : (zr_N 0 : Int) = 40 := rfl
  have eN1 : (zr_N 1 : Int) = 40 := rfl
  have eN2 : (zr_N 2 : Int) = 80 := rfl
  have eN3 : (zr_N 3 : Int) = 4102 := rfl
  have eN4 : (zr_N 4 : Int) = 4000 := rfl
  have hv0 := hI.2.1 0 (by decide)
  have hv1 := hI.2.1 1 (by decide)
  have hv2 := hI.2.1 2 (by decide)
  have hv3 := hI.2.1 3 (by decide)
  have hv4 := hI.2.1 4 (by decide)
  have hc := hI.2.2.1
  have hs10 := hI.2.2.2.1
  have hs11 := hI.2.2.2.2.1
  have ha := hI.2.2.2.2.2.1
  refine zk_K.of (ls := [some (.inr (some 1)), none]) (by decide +kernel) (Nat.le_of_ble_eq_true rfl) rfl ?_
  refine zk_aload_n dC_empty_0 rfl ?_
  refine zk_get zfC_37 dC_empty_1 (v := .inr (some 11)) rfl (by decide) rfl ?_
  refine zk_callV (av := []) (st := []) (d' := (0, 0)) (kc' := 0) (ks' := 0) zbC_113 dC_empty_4 rfl (by decide) rfl rfl (Nat.le_of_ble_eq_true rfl) ⟨by decide, by decide⟩ rfl rfl (kA_length G sw σ α t) (fun v9 h9 q9 => ?_)
  obtain ⟨rfl, rfl⟩ := q9
  refine zk_W.to (ls' := [some (.inr (some 1)), none]) (st' := [.inl (σ 10)]) (h' := (zk_mk G sw σ α t)) rfl rfl rfl ?_
  refine zk_istore_n (ls' := [some (.inr (some 1)), some (.inl (σ 10))]) dC_empty_7 (by decide) rfl ?_
  refine zk_aload_n dC_empty_8 rfl ?_
  refine zk_get zfC_37 dC_empty_9 (v := .inr (some 11)) rfl (by decide) rfl ?_
  refine zk_aload_n dC_empty_12 rfl ?_
  refine zk_get zfC_14 dC_empty_13 (v := .inr (some 2)) rfl (by decide) rfl ?_
  refine zk_callV (av := []) (st := [.inr (some 11)]) (d' := (0, 0)) (kc' := 0) (ks' := 0) zbC_102 dC_empty_16 rfl (by decide) rfl rfl (Nat.le_of_ble_eq_true rfl) ⟨by decide, by decide⟩ rfl rfl (kR_sum G sw σ α t (q := 0) (by decide) hn0 hv0) (fun v9 h9 q9 => ?_)
  obtain ⟨rfl, rfl⟩ := q9
  refine zk_W.to (ls' := [some (.inr (some 1)), some (.inl (σ 10))]) (st' := [.inl (mt_sum (α 0) (σ 0).toNat), .inr (some 11)]) (h' := (zk_mk G sw σ α t)) rfl rfl rfl ?_
  refine zk_callV (av := [.inl (mt_sum (α 0) (σ 0).toNat)]) (st := []) (d' := (1, 20)) (kc' := 0) (ks' := 0) zbC_60 dC_empty_19 rfl (by decide) rfl rfl (Nat.le_of_ble_eq_true rfl) ⟨by decide, by decide⟩ rfl rfl (kA_begin G sw σ α t) (fun v9 h9 q9 => ?_)
  obtain ⟨rfl, rfl⟩ := q9
  refine zk_W.to (ls' := [some (.inr (some 1)), some (.inl (σ 10))]) (st' := []) (h' := (zk_mk G sw (zk_up (zk_up (zk_up σ 10 0) 4 0) 11 (mt_sum (α 0) (σ 0).toNat)) α t)) rfl rfl rfl ?_
  refine zk_iload_n dC_empty_22 rfl ?_
  exact zk_iret dC_empty_23 rfl ⟨rfl, rfl⟩

/-- numbers that are the same int -/
theorem zk_wrap {G : zk_G} {M : zk_M} {d : Nat × Nat} {kc ks pc : Nat} {ls : List (Option zk_V)} {st : List zk_V} {h : zk_H} {Q : Option zk_V → zk_H → Prop} {x y : Int} (e : Int32.ofInt x = Int32.ofInt y) (w : zk_W G M d kc ks pc ls (.inl y :: st) h Q) : zk_W G M d kc ks pc ls (.inl x :: st) h Q := by
  intro p e1 R s m args below meth c X H locs cells slots mc ms lsr Qs hP hS h1 h2 h3 h4 hL hE
  have k := w p e1 R s m args below meth c X H locs cells slots mc ms lsr Qs hP hS h1 h2 h3 h4 hL hE
  have e2 : (Sum.inl x :: st : List zk_V).map (zk_rv G) = (Sum.inl y :: st : List zk_V).map (zk_rv G) := by
    show (Value.int (Int32.ofInt x) :: _) = (Value.int (Int32.ofInt y) :: _)
    rw [e]
  rw [e2]
  exact k
theorem zk_wrap32 (x : Int) : Int32.ofInt x = Int32.ofInt (x + 4294967296) := by
  rw [Int32.ofInt_add]
  have : Int32.ofInt 4294967296 = 0 := by decide
  rw [this, Int32.add_zero]

set_option maxRecDepth 100000 in
set_option maxHeartbeats 4000000 in
theorem kC_of (G : zk_G) (sw : Bool) (σ : Nat → Int) (α : Nat → Nat → Int) (t : zk_H) (hI : zc_I σ α) {x : Int} (hx : zk_rg x) : zk_K G mC_of (1, 22) 0 0 [.inr (some 1), .inl x] (zk_mk G sw σ α t) (fun v h' => h' = (zk_mk G sw σ α t) ∧ ((x = 0 ∧ v = some (.inl (σ 0))) ∨ (x = 1 ∧ v = some (.inl (σ 1))) ∨ (x = 2 ∧ v = some (.inl (σ 10))) ∨ (x = 3 ∧ v = some (.inl (σ 3))) ∨ (x = 4 ∧ v = some (.inl (σ 2))) ∨ (x = 5 ∧ v = some (.inl (mt_sum (α 0) (σ 0).toNat))) ∨ (x = 6 ∧ v = some (.inl (mt_sum (α 1) (σ 1).toNat))) ∨ (x = 7 ∧ v = some (.inl (σ 11))) ∨ ((x < 0 ∨ 7 < x) ∧ v = some (.inl (if 0 ≤ x - 8 ∧ x - 8 ≤ 4 then σ (5 + (x - 8).toNat) else -2))))) := by
  have hn0 := hI.1 0 (by decide)
  have hn1 := hI.1 1 (by decide)
  have hn2 := hI.1 2 (by decide)
  have hn3 := hI.1 3 (by decide)
  have hn4 := hI.1 4 (by decide)
  have eN0 : (zr_N 0 : Int) = 40 := rfl
  have eN1 : (zr_N 1 : Int) = 40 := rfl
  have eN2 : (zr_N 2 : Int) = 80 := rfl
  have eN3 : (zr_N 3 : Int) = 4102 := rfl
  have eN4 : (zr_N 4 : Int) = 4000 := rfl
  have hv0 := hI.2.1 0 (by decide)
  have hv1 := hI.2.1 1 (by decide)
  have hv2 := hI.2.1 2 (by decide)
  have hv3 := hI.2.1 3 (by decide)
  have hv4 := hI.2.1 4 (by decide)
  have hc := hI.2.2.1
  have hs10 := hI.2.2.2.1
  have hs11 := hI.2.2.2.2.1
  have ha := hI.2.2.2.2.2.1
  refine zk_K.of (ls := [some (.inr (some 1)), some (.inl x)]) (by decide +kernel) (Nat.le_of_ble_eq_true rfl) rfl ?_
  refine zk_iload_n dC_of_0 rfl ?_
  by_cases h1_0 : x = 0
  · skip
    refine zk_tableIn (tgt := 48) dC_of_1 ⟨by have := hx.1; omega, by have := hx.2; omega⟩ (by omega) (by omega) (by rw [h1_0]; rfl) (by decide) ?_
    refine zk_aload_n dC_of_48 rfl ?_
    refine zk_get zfC_14 dC_of_49 (v := .inr (some 2)) rfl (by decide) rfl ?_
    refine zk_callV (av := []) (st := []) (d' := (0, 0)) (kc' := 0) (ks' := 0) zbC_50 dC_of_52 rfl (by decide) rfl rfl (Nat.le_of_ble_eq_true rfl) ⟨by decide, by decide⟩ rfl rfl (kR_length G sw σ α t (q := 0) (by decide)) (fun v9 h9 q9 => ?_)
    obtain ⟨rfl, rfl⟩ := q9
    refine zk_W.to (ls' := [some (.inr (some 1)), some (.inl x)]) (st' := [.inl (σ 0)]) (h' := (zk_mk G sw σ α t)) rfl rfl rfl ?_
    refine zk_iret dC_of_55 rfl ⟨rfl, ?_⟩
    exact Or.inl ⟨by assumption, rfl⟩
  by_cases h1_1 : x = 1
  · skip
    refine zk_tableIn (tgt := 56) dC_of_1 ⟨by have := hx.1; omega, by have := hx.2; omega⟩ (by omega) (by omega) (by rw [h1_1]; rfl) (by decide) ?_
    refine zk_aload_n dC_of_56 rfl ?_
    refine zk_get zfC_18 dC_of_57 (v := .inr (some 4)) rfl (by decide) rfl ?_
    refine zk_callV (av := []) (st := []) (d' := (0, 0)) (kc' := 0) (ks' := 0) zbC_50 dC_of_60 rfl (by decide) rfl rfl (Nat.le_of_ble_eq_true rfl) ⟨by decide, by decide⟩ rfl rfl (kR_length G sw σ α t (q := 1) (by decide)) (fun v9 h9 q9 => ?_)
    obtain ⟨rfl, rfl⟩ := q9
    refine zk_W.to (ls' := [some (.inr (some 1)), some (.inl x)]) (st' := [.inl (σ 1)]) (h' := (zk_mk G sw σ α t)) rfl rfl rfl ?_
    refine zk_iret dC_of_63 rfl ⟨rfl, ?_⟩
    exact Or.inr (Or.inl ⟨by assumption, rfl⟩)
  by_cases h1_2 : x = 2
  · skip
    refine zk_tableIn (tgt := 64) dC_of_1 ⟨by have := hx.1; omega, by have := hx.2; omega⟩ (by omega) (by omega) (by rw [h1_2]; rfl) (by decide) ?_
    refine zk_aload_n dC_of_64 rfl ?_
    refine zk_get zfC_37 dC_of_65 (v := .inr (some 11)) rfl (by decide) rfl ?_
    refine zk_callV (av := []) (st := []) (d' := (0, 0)) (kc' := 0) (ks' := 0) zbC_113 dC_of_68 rfl (by decide) rfl rfl (Nat.le_of_ble_eq_true rfl) ⟨by decide, by decide⟩ rfl rfl (kA_length G sw σ α t) (fun v9 h9 q9 => ?_)
    obtain ⟨rfl, rfl⟩ := q9
    refine zk_W.to (ls' := [some (.inr (some 1)), some (.inl x)]) (st' := [.inl (σ 10)]) (h' := (zk_mk G sw σ α t)) rfl rfl rfl ?_
    refine zk_iret dC_of_71 rfl ⟨rfl, ?_⟩
    exact Or.inr (Or.inr (Or.inl ⟨by assumption, rfl⟩))
  by_cases h1_3 : x = 3
  · skip
    refine zk_tableIn (tgt := 72) dC_of_1 ⟨by have := hx.1; omega, by have := hx.2; omega⟩ (by omega) (by omega) (by rw [h1_3]; rfl) (by decide) ?_
    refine zk_aload_n dC_of_72 rfl ?_
    refine zk_get zfC_24 dC_of_73 (v := .inr (some 8)) rfl (by decide) rfl ?_
    refine zk_callV (av := []) (st := []) (d' := (0, 0)) (kc' := 0) (ks' := 0) zbC_50 dC_of_76 rfl (by decide) rfl rfl (Nat.le_of_ble_eq_true rfl) ⟨by decide, by decide⟩ rfl rfl (kR_length G sw σ α t (q := 3) (by decide)) (fun v9 h9 q9 => ?_)
    obtain ⟨rfl, rfl⟩ := q9
    refine zk_W.to (ls' := [some (.inr (some 1)), some (.inl x)]) (st' := [.inl (σ 3)]) (h' := (zk_mk G sw σ α t)) rfl rfl rfl ?_
    refine zk_iret dC_of_79 rfl ⟨rfl, ?_⟩
    exact Or.inr (Or.inr (Or.inr (Or.inl ⟨by assumption, rfl⟩)))
  by_cases h1_4 : x = 4
  · skip
    refine zk_tableIn (tgt := 80) dC_of_1 ⟨by have := hx.1; omega, by have := hx.2; omega⟩ (by omega) (by omega) (by rw [h1_4]; rfl) (by decide) ?_
    refine zk_aload_n dC_of_80 rfl ?_
    refine zk_get zfC_21 dC_of_81 (v := .inr (some 6)) rfl (by decide) rfl ?_
    refine zk_callV (av := []) (st := []) (d' := (0, 0)) (kc' := 0) (ks' := 0) zbC_50 dC_of_84 rfl (by decide) rfl rfl (Nat.le_of_ble_eq_true rfl) ⟨by decide, by decide⟩ rfl rfl (kR_length G sw σ α t (q := 2) (by decide)) (fun v9 h9 q9 => ?_)
    obtain ⟨rfl, rfl⟩ := q9
    refine zk_W.to (ls' := [some (.inr (some 1)), some (.inl x)]) (st' := [.inl (σ 2)]) (h' := (zk_mk G sw σ α t)) rfl rfl rfl ?_
    refine zk_iret dC_of_87 rfl ⟨rfl, ?_⟩
    exact Or.inr (Or.inr (Or.inr (Or.inr (Or.inl ⟨by assumption, rfl⟩))))
  by_cases h1_5 : x = 5
  · skip
    refine zk_tableIn (tgt := 88) dC_of_1 ⟨by have := hx.1; omega, by have := hx.2; omega⟩ (by omega) (by omega) (by rw [h1_5]; rfl) (by decide) ?_
    refine zk_aload_n dC_of_88 rfl ?_
    refine zk_get zfC_14 dC_of_89 (v := .inr (some 2)) rfl (by decide) rfl ?_
    refine zk_callV (av := []) (st := []) (d' := (0, 0)) (kc' := 0) (ks' := 0) zbC_102 dC_of_92 rfl (by decide) rfl rfl (Nat.le_of_ble_eq_true rfl) ⟨by decide, by decide⟩ rfl rfl (kR_sum G sw σ α t (q := 0) (by decide) hn0 hv0) (fun v9 h9 q9 => ?_)
    obtain ⟨rfl, rfl⟩ := q9
    refine zk_W.to (ls' := [some (.inr (some 1)), some (.inl x)]) (st' := [.inl (mt_sum (α 0) (σ 0).toNat)]) (h' := (zk_mk G sw σ α t)) rfl rfl rfl ?_
    refine zk_iret dC_of_95 rfl ⟨rfl, ?_⟩
    exact Or.inr (Or.inr (Or.inr (Or.inr (Or.inr (Or.inl ⟨by assumption, rfl⟩)))))
  by_cases h1_6 : x = 6
  · skip
    refine zk_tableIn (tgt := 96) dC_of_1 ⟨by have := hx.1; omega, by have := hx.2; omega⟩ (by omega) (by omega) (by rw [h1_6]; rfl) (by decide) ?_
    refine zk_aload_n dC_of_96 rfl ?_
    refine zk_get zfC_18 dC_of_97 (v := .inr (some 4)) rfl (by decide) rfl ?_
    refine zk_callV (av := []) (st := []) (d' := (0, 0)) (kc' := 0) (ks' := 0) zbC_102 dC_of_100 rfl (by decide) rfl rfl (Nat.le_of_ble_eq_true rfl) ⟨by decide, by decide⟩ rfl rfl (kR_sum G sw σ α t (q := 1) (by decide) hn1 hv1) (fun v9 h9 q9 => ?_)
    obtain ⟨rfl, rfl⟩ := q9
    refine zk_W.to (ls' := [some (.inr (some 1)), some (.inl x)]) (st' := [.inl (mt_sum (α 1) (σ 1).toNat)]) (h' := (zk_mk G sw σ α t)) rfl rfl rfl ?_
    refine zk_iret dC_of_103 rfl ⟨rfl, ?_⟩
    exact Or.inr (Or.inr (Or.inr (Or.inr (Or.inr (Or.inr (Or.inl ⟨by assumption, rfl⟩))))))
  by_cases h1_7 : x = 7
  · skip
    refine zk_tableIn (tgt := 104) dC_of_1 ⟨by have := hx.1; omega, by have := hx.2; omega⟩ (by omega) (by omega) (by rw [h1_7]; rfl) (by decide) ?_
    refine zk_aload_n dC_of_104 rfl ?_
    refine zk_get zfC_37 dC_of_105 (v := .inr (some 11)) rfl (by decide) rfl ?_
    refine zk_callV (av := []) (st := []) (d' := (0, 0)) (kc' := 0) (ks' := 0) zbC_161 dC_of_108 rfl (by decide) rfl rfl (Nat.le_of_ble_eq_true rfl) ⟨by decide, by decide⟩ rfl rfl (kA_sum G sw σ α t) (fun v9 h9 q9 => ?_)
    obtain ⟨rfl, rfl⟩ := q9
    refine zk_W.to (ls' := [some (.inr (some 1)), some (.inl x)]) (st' := [.inl (σ 11)]) (h' := (zk_mk G sw σ α t)) rfl rfl rfl ?_
    refine zk_iret dC_of_111 rfl ⟨rfl, ?_⟩
    exact Or.inr (Or.inr (Or.inr (Or.inr (Or.inr (Or.inr (Or.inr (Or.inl ⟨by assumption, rfl⟩)))))))
  refine zk_tableOut (tgt := 112) dC_of_1 ⟨by have := hx.1; omega, by have := hx.2; omega⟩ (by omega) (by decide) ?_
  refine zk_aload_n dC_of_112 rfl ?_
  refine zk_get zfC_30 dC_of_113 (v := .inr (some 10)) rfl (by decide) rfl ?_
  refine zk_iload_n dC_of_116 rfl ?_
  refine zk_bipush dC_of_117 (by decide) ?_
  refine zk_isub dC_of_119 ?_
  have hx1 := hx.1
  have hx2 := hx.2
  by_cases hw : -2147483640 ≤ x
  · skip
    refine zk_callV (av := [.inl (x - 8)]) (st := []) (d' := (0, 0)) (kc' := 0) (ks' := 0) zbC_193 dC_of_120 rfl (by decide) rfl rfl (Nat.le_of_ble_eq_true rfl) ⟨by decide, by decide⟩ rfl rfl (kN_get G sw σ α t ⟨by omega, by omega⟩) (fun v9 h9 q9 => ?_)
    obtain ⟨rfl, rfl⟩ := q9
    refine zk_W.to (ls' := [some (.inr (some 1)), some (.inl x)]) (st' := [.inl (if 0 ≤ x - 8 ∧ x - 8 ≤ 4 then σ (5 + (x - 8).toNat) else -2)]) (h' := (zk_mk G sw σ α t)) rfl rfl rfl ?_
    refine zk_iret dC_of_123 rfl ⟨rfl, ?_⟩
    refine Or.inr (Or.inr (Or.inr (Or.inr (Or.inr (Or.inr (Or.inr (Or.inr (⟨by omega, ?_⟩))))))))
    first | rfl | (rw [if_neg (by omega), if_neg (by omega)])
  · refine zk_wrap (zk_wrap32 (x - 8)) ?_
    refine zk_callV (av := [.inl (x - 8 + 4294967296)]) (st := []) (d' := (0, 0)) (kc' := 0) (ks' := 0) zbC_193 dC_of_120 rfl (by decide) rfl rfl (Nat.le_of_ble_eq_true rfl) ⟨by decide, by decide⟩ rfl rfl (kN_get G sw σ α t ⟨by omega, by omega⟩) (fun v9 h9 q9 => ?_)
    obtain ⟨rfl, rfl⟩ := q9
    refine zk_W.to (ls' := [some (.inr (some 1)), some (.inl x)]) (st' := [.inl (if 0 ≤ x - 8 + 4294967296 ∧ x - 8 + 4294967296 ≤ 4 then σ (5 + (x - 8 + 4294967296).toNat) else -2)]) (h' := (zk_mk G sw σ α t)) rfl rfl rfl ?_
    refine zk_iret dC_of_123 rfl ⟨rfl, ?_⟩
    refine Or.inr (Or.inr (Or.inr (Or.inr (Or.inr (Or.inr (Or.inr (Or.inr (⟨by omega, ?_⟩))))))))
    first | rfl | (rw [if_neg (by omega), if_neg (by omega)])
end
