section
-- ===== PART A: goes FIRST, ahead of the names: the tables' words, and 'selects' of the private methods out of them =====
/-- a private method of a class that the tables say can be made, by its rows of tables_1 -/
def lw_okq (q : MethodName × Nat) : Prop := (q.1.cls ≠ "java/lang/invoke/MethodHandle" ∧ q.1.cls ≠ "java/lang/invoke/VarHandle") ∧ Cond.instantiable q.1.cls q.2 ∈ tables_1 ∧ Cond.privateMethod q.1 ∈ tables_1 ∧ Cond.instanceMethod q.1 ∈ tables_1
theorem lw_p0 : lw_okq (⟨"CopyInserts", "textOf", "(I)LCopyInserts$Row;"⟩, 7) := ⟨⟨by decide +kernel, by decide +kernel⟩, List.mem_of_getElem? (i := 10) (by decide +kernel), List.mem_of_getElem? (i := 200) (by decide +kernel), List.mem_of_getElem? (i := 201) (by decide +kernel)⟩
theorem lw_p1 : lw_okq (⟨"CopyInserts$Search", "workOutPlace", "(I)V"⟩, 13) := ⟨⟨by decide +kernel, by decide +kernel⟩, List.mem_of_getElem? (i := 100) (by decide +kernel), List.mem_of_getElem? (i := 267) (by decide +kernel), List.mem_of_getElem? (i := 268) (by decide +kernel)⟩
theorem lw_p2 : lw_okq (⟨"CopyInserts$Search", "lengthenCopies", "(I)I"⟩, 13) := ⟨⟨by decide +kernel, by decide +kernel⟩, List.mem_of_getElem? (i := 100) (by decide +kernel), List.mem_of_getElem? (i := 271) (by decide +kernel), List.mem_of_getElem? (i := 272) (by decide +kernel)⟩
theorem lw_p3 : lw_okq (⟨"CopyInserts$Search", "longestAgain", "(I)I"⟩, 13) := ⟨⟨by decide +kernel, by decide +kernel⟩, List.mem_of_getElem? (i := 100) (by decide +kernel), List.mem_of_getElem? (i := 287) (by decide +kernel), List.mem_of_getElem? (i := 288) (by decide +kernel)⟩
theorem lw_p4 : lw_okq (⟨"CopyInserts$Search", "leastBehindSelf", "(III)I"⟩, 13) := ⟨⟨by decide +kernel, by decide +kernel⟩, List.mem_of_getElem? (i := 100) (by decide +kernel), List.mem_of_getElem? (i := 296) (by decide +kernel), List.mem_of_getElem? (i := 297) (by decide +kernel)⟩
theorem lw_p5 : lw_okq (⟨"CopyInserts$Search", "choose", "(II)V"⟩, 13) := ⟨⟨by decide +kernel, by decide +kernel⟩, List.mem_of_getElem? (i := 100) (by decide +kernel), List.mem_of_getElem? (i := 304) (by decide +kernel), List.mem_of_getElem? (i := 305) (by decide +kernel)⟩
theorem lw_p6 : lw_okq (⟨"CopyInserts$Search", "chooseCopy", "(III)V"⟩, 13) := ⟨⟨by decide +kernel, by decide +kernel⟩, List.mem_of_getElem? (i := 100) (by decide +kernel), List.mem_of_getElem? (i := 308) (by decide +kernel), List.mem_of_getElem? (i := 309) (by decide +kernel)⟩
theorem lw_p7 : lw_okq (⟨"CopyInserts$Search", "keep", "(III)V"⟩, 13) := ⟨⟨by decide +kernel, by decide +kernel⟩, List.mem_of_getElem? (i := 100) (by decide +kernel), List.mem_of_getElem? (i := 316) (by decide +kernel), List.mem_of_getElem? (i := 317) (by decide +kernel)⟩
theorem lw_p8 : lw_okq (⟨"CopyInserts$Search", "chooseSelf", "(III)V"⟩, 13) := ⟨⟨by decide +kernel, by decide +kernel⟩, List.mem_of_getElem? (i := 100) (by decide +kernel), List.mem_of_getElem? (i := 320) (by decide +kernel), List.mem_of_getElem? (i := 321) (by decide +kernel)⟩
theorem lw_p9 : lw_okq (⟨"CopyInserts$Search", "chooseLay", "(III)V"⟩, 13) := ⟨⟨by decide +kernel, by decide +kernel⟩, List.mem_of_getElem? (i := 100) (by decide +kernel), List.mem_of_getElem? (i := 328) (by decide +kernel), List.mem_of_getElem? (i := 329) (by decide +kernel)⟩
theorem lw_p10 : lw_okq (⟨"CopyInserts", "takeFoundAct", "()V"⟩, 7) := ⟨⟨by decide +kernel, by decide +kernel⟩, List.mem_of_getElem? (i := 10) (by decide +kernel), List.mem_of_getElem? (i := 336) (by decide +kernel), List.mem_of_getElem? (i := 337) (by decide +kernel)⟩
theorem lw_p11 : lw_okq (⟨"CopyInserts", "costOf", "(I)I"⟩, 7) := ⟨⟨by decide +kernel, by decide +kernel⟩, List.mem_of_getElem? (i := 10) (by decide +kernel), List.mem_of_getElem? (i := 400) (by decide +kernel), List.mem_of_getElem? (i := 401) (by decide +kernel)⟩
theorem lw_p12 : lw_okq (⟨"CopyInserts", "fails", "(I)Z"⟩, 7) := ⟨⟨by decide +kernel, by decide +kernel⟩, List.mem_of_getElem? (i := 10) (by decide +kernel), List.mem_of_getElem? (i := 466) (by decide +kernel), List.mem_of_getElem? (i := 467) (by decide +kernel)⟩
theorem lw_p13 : lw_okq (⟨"CopyInserts", "perform", "(I)V"⟩, 7) := ⟨⟨by decide +kernel, by decide +kernel⟩, List.mem_of_getElem? (i := 10) (by decide +kernel), List.mem_of_getElem? (i := 470) (by decide +kernel), List.mem_of_getElem? (i := 471) (by decide +kernel)⟩
theorem lw_p14 : lw_okq (⟨"CopyInserts", "byteOf", "(II)I"⟩, 7) := ⟨⟨by decide +kernel, by decide +kernel⟩, List.mem_of_getElem? (i := 10) (by decide +kernel), List.mem_of_getElem? (i := 474) (by decide +kernel), List.mem_of_getElem? (i := 475) (by decide +kernel)⟩
theorem lw_p15 : lw_okq (⟨"CopyInserts", "writeAct", "(I)V"⟩, 7) := ⟨⟨by decide +kernel, by decide +kernel⟩, List.mem_of_getElem? (i := 10) (by decide +kernel), List.mem_of_getElem? (i := 495) (by decide +kernel), List.mem_of_getElem? (i := 496) (by decide +kernel)⟩
def lw_privs_1 : List (MethodName × Nat) := [(⟨"CopyInserts", "textOf", "(I)LCopyInserts$Row;"⟩, 7), (⟨"CopyInserts$Search", "workOutPlace", "(I)V"⟩, 13), (⟨"CopyInserts$Search", "lengthenCopies", "(I)I"⟩, 13), (⟨"CopyInserts$Search", "longestAgain", "(I)I"⟩, 13), (⟨"CopyInserts$Search", "leastBehindSelf", "(III)I"⟩, 13), (⟨"CopyInserts$Search", "choose", "(II)V"⟩, 13), (⟨"CopyInserts$Search", "chooseCopy", "(III)V"⟩, 13), (⟨"CopyInserts$Search", "keep", "(III)V"⟩, 13), (⟨"CopyInserts$Search", "chooseSelf", "(III)V"⟩, 13), (⟨"CopyInserts$Search", "chooseLay", "(III)V"⟩, 13), (⟨"CopyInserts", "takeFoundAct", "()V"⟩, 7), (⟨"CopyInserts", "costOf", "(I)I"⟩, 7), (⟨"CopyInserts", "fails", "(I)Z"⟩, 7), (⟨"CopyInserts", "perform", "(I)V"⟩, 7), (⟨"CopyInserts", "byteOf", "(II)I"⟩, 7), (⟨"CopyInserts", "writeAct", "(I)V"⟩, 7)]
theorem lw_r1 : ∀ q ∈ lw_privs_1, lw_okq q := List.forall_mem_cons.mpr ⟨lw_p0, List.forall_mem_cons.mpr ⟨lw_p1, List.forall_mem_cons.mpr ⟨lw_p2, List.forall_mem_cons.mpr ⟨lw_p3, List.forall_mem_cons.mpr ⟨lw_p4, List.forall_mem_cons.mpr ⟨lw_p5, List.forall_mem_cons.mpr ⟨lw_p6, List.forall_mem_cons.mpr ⟨lw_p7, List.forall_mem_cons.mpr ⟨lw_p8, List.forall_mem_cons.mpr ⟨lw_p9, List.forall_mem_cons.mpr ⟨lw_p10, List.forall_mem_cons.mpr ⟨lw_p11, List.forall_mem_cons.mpr ⟨lw_p12, List.forall_mem_cons.mpr ⟨lw_p13, List.forall_mem_cons.mpr ⟨lw_p14, List.forall_mem_cons.mpr ⟨lw_p15, fun _ h => absurd h List.not_mem_nil⟩⟩⟩⟩⟩⟩⟩⟩⟩⟩⟩⟩⟩⟩⟩⟩
theorem lw_p16 : lw_okq (⟨"CopyInserts", "findWrongByte", "()I"⟩, 7) := ⟨⟨by decide +kernel, by decide +kernel⟩, List.mem_of_getElem? (i := 10) (by decide +kernel), List.mem_of_getElem? (i := 519) (by decide +kernel), List.mem_of_getElem? (i := 520) (by decide +kernel)⟩
theorem lw_p17 : lw_okq (⟨"CopyInserts", "readAct", "(I)I"⟩, 7) := ⟨⟨by decide +kernel, by decide +kernel⟩, List.mem_of_getElem? (i := 10) (by decide +kernel), List.mem_of_getElem? (i := 523) (by decide +kernel), List.mem_of_getElem? (i := 524) (by decide +kernel)⟩
theorem lw_p18 : lw_okq (⟨"CopyInsertsModel", "begin", "()V"⟩, 22) := ⟨⟨by decide +kernel, by decide +kernel⟩, List.mem_of_getElem? (i := 550) (by decide +kernel), List.mem_of_getElem? (i := 556) (by decide +kernel), List.mem_of_getElem? (i := 557) (by decide +kernel)⟩
theorem lw_p19 : lw_okq (⟨"CopyInsertsModel", "learn", "()V"⟩, 22) := ⟨⟨by decide +kernel, by decide +kernel⟩, List.mem_of_getElem? (i := 550) (by decide +kernel), List.mem_of_getElem? (i := 654) (by decide +kernel), List.mem_of_getElem? (i := 655) (by decide +kernel)⟩
theorem lw_p20 : lw_okq (⟨"CopyInsertsModel", "like", "(III)I"⟩, 22) := ⟨⟨by decide +kernel, by decide +kernel⟩, List.mem_of_getElem? (i := 550) (by decide +kernel), List.mem_of_getElem? (i := 659) (by decide +kernel), List.mem_of_getElem? (i := 660) (by decide +kernel)⟩
theorem lw_p21 : lw_okq (⟨"CopyInsertsModel", "byteOf", "(II)I"⟩, 22) := ⟨⟨by decide +kernel, by decide +kernel⟩, List.mem_of_getElem? (i := 550) (by decide +kernel), List.mem_of_getElem? (i := 663) (by decide +kernel), List.mem_of_getElem? (i := 664) (by decide +kernel)⟩
theorem lw_p22 : lw_okq (⟨"CopyInsertsModel", "costOf", "(IIII)I"⟩, 22) := ⟨⟨by decide +kernel, by decide +kernel⟩, List.mem_of_getElem? (i := 550) (by decide +kernel), List.mem_of_getElem? (i := 667) (by decide +kernel), List.mem_of_getElem? (i := 668) (by decide +kernel)⟩
theorem lw_p23 : lw_okq (⟨"CopyInsertsModel", "better", "(III)V"⟩, 22) := ⟨⟨by decide +kernel, by decide +kernel⟩, List.mem_of_getElem? (i := 550) (by decide +kernel), List.mem_of_getElem? (i := 671) (by decide +kernel), List.mem_of_getElem? (i := 672) (by decide +kernel)⟩
theorem lw_p24 : lw_okq (⟨"CopyInsertsModel", "sumOf", "(I)I"⟩, 22) := ⟨⟨by decide +kernel, by decide +kernel⟩, List.mem_of_getElem? (i := 550) (by decide +kernel), List.mem_of_getElem? (i := 675) (by decide +kernel), List.mem_of_getElem? (i := 676) (by decide +kernel)⟩
theorem lw_p25 : lw_okq (⟨"CopyInsertsModel", "find", "(II)V"⟩, 22) := ⟨⟨by decide +kernel, by decide +kernel⟩, List.mem_of_getElem? (i := 550) (by decide +kernel), List.mem_of_getElem? (i := 680) (by decide +kernel), List.mem_of_getElem? (i := 681) (by decide +kernel)⟩
theorem lw_p26 : lw_okq (⟨"CopyInsertsModel", "costAt", "(I)I"⟩, 22) := ⟨⟨by decide +kernel, by decide +kernel⟩, List.mem_of_getElem? (i := 550) (by decide +kernel), List.mem_of_getElem? (i := 688) (by decide +kernel), List.mem_of_getElem? (i := 689) (by decide +kernel)⟩
theorem lw_p27 : lw_okq (⟨"CopyInsertsModel", "spotOf", "(I)I"⟩, 22) := ⟨⟨by decide +kernel, by decide +kernel⟩, List.mem_of_getElem? (i := 550) (by decide +kernel), List.mem_of_getElem? (i := 692) (by decide +kernel), List.mem_of_getElem? (i := 693) (by decide +kernel)⟩
theorem lw_p28 : lw_okq (⟨"CopyInsertsModel", "code1", "(I)V"⟩, 22) := ⟨⟨by decide +kernel, by decide +kernel⟩, List.mem_of_getElem? (i := 550) (by decide +kernel), List.mem_of_getElem? (i := 740) (by decide +kernel), List.mem_of_getElem? (i := 741) (by decide +kernel)⟩
theorem lw_p29 : lw_okq (⟨"CopyInsertsModel", "faultOf", "()I"⟩, 22) := ⟨⟨by decide +kernel, by decide +kernel⟩, List.mem_of_getElem? (i := 550) (by decide +kernel), List.mem_of_getElem? (i := 760) (by decide +kernel), List.mem_of_getElem? (i := 761) (by decide +kernel)⟩
def lw_privs_2 : List (MethodName × Nat) := [(⟨"CopyInserts", "findWrongByte", "()I"⟩, 7), (⟨"CopyInserts", "readAct", "(I)I"⟩, 7), (⟨"CopyInsertsModel", "begin", "()V"⟩, 22), (⟨"CopyInsertsModel", "learn", "()V"⟩, 22), (⟨"CopyInsertsModel", "like", "(III)I"⟩, 22), (⟨"CopyInsertsModel", "byteOf", "(II)I"⟩, 22), (⟨"CopyInsertsModel", "costOf", "(IIII)I"⟩, 22), (⟨"CopyInsertsModel", "better", "(III)V"⟩, 22), (⟨"CopyInsertsModel", "sumOf", "(I)I"⟩, 22), (⟨"CopyInsertsModel", "find", "(II)V"⟩, 22), (⟨"CopyInsertsModel", "costAt", "(I)I"⟩, 22), (⟨"CopyInsertsModel", "spotOf", "(I)I"⟩, 22), (⟨"CopyInsertsModel", "code1", "(I)V"⟩, 22), (⟨"CopyInsertsModel", "faultOf", "()I"⟩, 22)]
theorem lw_r2 : ∀ q ∈ lw_privs_2, lw_okq q := List.forall_mem_cons.mpr ⟨lw_p16, List.forall_mem_cons.mpr ⟨lw_p17, List.forall_mem_cons.mpr ⟨lw_p18, List.forall_mem_cons.mpr ⟨lw_p19, List.forall_mem_cons.mpr ⟨lw_p20, List.forall_mem_cons.mpr ⟨lw_p21, List.forall_mem_cons.mpr ⟨lw_p22, List.forall_mem_cons.mpr ⟨lw_p23, List.forall_mem_cons.mpr ⟨lw_p24, List.forall_mem_cons.mpr ⟨lw_p25, List.forall_mem_cons.mpr ⟨lw_p26, List.forall_mem_cons.mpr ⟨lw_p27, List.forall_mem_cons.mpr ⟨lw_p28, List.forall_mem_cons.mpr ⟨lw_p29, fun _ h => absurd h List.not_mem_nil⟩⟩⟩⟩⟩⟩⟩⟩⟩⟩⟩⟩⟩⟩
def lw_privs : List (MethodName × Nat) := lw_privs_1 ++ (lw_privs_2)
def lw_tbl : List Cond := k2_sels lw_privs ++ tables_1
theorem lw_privs_ok : ∀ q ∈ lw_privs, lw_okq q := by
  show ∀ q ∈ lw_privs_1 ++ (lw_privs_2), lw_okq q
  exact List.forall_mem_append.mpr ⟨lw_r1, lw_r2⟩
end
section
def zR0 : String := "CopyInserts$Acts"
def zT0 : u_T := fun k => match k with
  | 0 => ("CopyInserts$Acts", "kinds", "[I", true)
  | 1 => ("CopyInserts$Acts", "places", "[I", true)
  | 2 => ("CopyInserts$Acts", "counts", "[I", true)
  | 3 => ("CopyInserts$Acts", "laidFrom", "[I", true)
  | 4 => ("CopyInserts$Acts", "laidBytes", "LCopyInserts$Row;", true)
  | 5 => ("CopyInserts$Acts", "size", "I", false)
  | _ => ("CopyInserts$Acts", "sumOfOld", "I", false)
def zY0 : Nat → FieldType := fun k => match k with
  | 0 => .array .int
  | 1 => .array .int
  | 2 => .array .int
  | 3 => .array .int
  | 4 => .object "CopyInserts$Row"
  | 5 => .int
  | _ => .int
theorem zn0 : ∀ a, a < 7 → ∀ b, b < 7 → a ≠ b → (zT0 a).2.1 ≠ (zT0 b).2.1 := by decide +kernel
theorem zy0 : ∀ k, k < 7 → parseFieldDescriptor (zT0 k).2.2.1 = some (zY0 k) := by decide +kernel
def zR1 : String := "CopyInserts$Numbers"
def zT1 : u_T := fun k => match k with
  | 0 => ("CopyInserts$Numbers", "copying", "I", false)
  | 1 => ("CopyInserts$Numbers", "seeking", "I", false)
  | 2 => ("CopyInserts$Numbers", "again", "I", false)
  | 3 => ("CopyInserts$Numbers", "laying", "I", false)
  | _ => ("CopyInserts$Numbers", "bytewise", "I", false)
def zY1 : Nat → FieldType := fun k => match k with
  | 0 => .int
  | 1 => .int
  | 2 => .int
  | 3 => .int
  | _ => .int
theorem zn1 : ∀ a, a < 5 → ∀ b, b < 5 → a ≠ b → (zT1 a).2.1 ≠ (zT1 b).2.1 := by decide +kernel
theorem zy1 : ∀ k, k < 5 → parseFieldDescriptor (zT1 k).2.2.1 = some (zY1 k) := by decide +kernel
def zR2 : String := "CopyInserts$Row"
def zT2 : u_T := fun k => match k with
  | 0 => ("CopyInserts$Row", "values", "[I", false)
  | _ => ("CopyInserts$Row", "size", "I", false)
def zY2 : Nat → FieldType := fun k => match k with
  | 0 => .array .int
  | _ => .int
theorem zn2 : ∀ a, a < 2 → ∀ b, b < 2 → a ≠ b → (zT2 a).2.1 ≠ (zT2 b).2.1 := by decide +kernel
theorem zy2 : ∀ k, k < 2 → parseFieldDescriptor (zT2 k).2.2.1 = some (zY2 k) := by decide +kernel
def zR3 : String := "CopyInserts$Search"
def zT3 : u_T := fun k => match k with
  | 0 => ("CopyInserts$Search", "source", "LCopyInserts$Row;", true)
  | 1 => ("CopyInserts$Search", "target", "LCopyInserts$Row;", true)
  | 2 => ("CopyInserts$Search", "numbers", "LCopyInserts$Numbers;", true)
  | 3 => ("CopyInserts$Search", "least", "[I", true)
  | 4 => ("CopyInserts$Search", "behindCopy", "[I", true)
  | 5 => ("CopyInserts$Search", "behindLay", "[I", true)
  | 6 => ("CopyInserts$Search", "known", "Z", false)
  | 7 => ("CopyInserts$Search", "nextAt", "I", false)
  | 8 => ("CopyInserts$Search", "nextSpot", "I", false)
  | 9 => ("CopyInserts$Search", "kind", "I", false)
  | 10 => ("CopyInserts$Search", "place", "I", false)
  | 11 => ("CopyInserts$Search", "count", "I", false)
  | _ => ("CopyInserts$Search", "spotAhead", "I", false)
def zY3 : Nat → FieldType := fun k => match k with
  | 0 => .object "CopyInserts$Row"
  | 1 => .object "CopyInserts$Row"
  | 2 => .object "CopyInserts$Numbers"
  | 3 => .array .int
  | 4 => .array .int
  | 5 => .array .int
  | 6 => .boolean
  | 7 => .int
  | 8 => .int
  | 9 => .int
  | 10 => .int
  | 11 => .int
  | _ => .int
theorem zn3 : ∀ a, a < 13 → ∀ b, b < 13 → a ≠ b → (zT3 a).2.1 ≠ (zT3 b).2.1 := by decide +kernel
theorem zy3 : ∀ k, k < 13 → parseFieldDescriptor (zT3 k).2.2.1 = some (zY3 k) := by decide +kernel
def zR4 : String := "CopyInserts"
def zT4 : u_T := fun k => match k with
  | 0 => ("CopyInserts", "oldText", "LCopyInserts$Row;", true)
  | 1 => ("CopyInserts", "newText", "LCopyInserts$Row;", true)
  | 2 => ("CopyInserts", "product", "LCopyInserts$Row;", true)
  | 3 => ("CopyInserts", "coded", "LCopyInserts$Row;", true)
  | 4 => ("CopyInserts", "numbers", "LCopyInserts$Numbers;", true)
  | 5 => ("CopyInserts", "acts", "LCopyInserts$Acts;", true)
  | _ => ("CopyInserts", "search", "LCopyInserts$Search;", true)
def zY4 : Nat → FieldType := fun k => match k with
  | 0 => .object "CopyInserts$Row"
  | 1 => .object "CopyInserts$Row"
  | 2 => .object "CopyInserts$Row"
  | 3 => .object "CopyInserts$Row"
  | 4 => .object "CopyInserts$Numbers"
  | 5 => .object "CopyInserts$Acts"
  | _ => .object "CopyInserts$Search"
theorem zn4 : ∀ a, a < 7 → ∀ b, b < 7 → a ≠ b → (zT4 a).2.1 ≠ (zT4 b).2.1 := by decide +kernel
theorem zy4 : ∀ k, k < 7 → parseFieldDescriptor (zT4 k).2.2.1 = some (zY4 k) := by decide +kernel
def zR5 : String := "CopyInsertsModel"
def zT5 : u_T := fun k => match k with
  | 0 => ("CopyInsertsModel", "text", "[I", true)
  | 1 => ("CopyInsertsModel", "many", "[I", true)
  | 2 => ("CopyInsertsModel", "copying", "I", false)
  | 3 => ("CopyInsertsModel", "seeking", "I", false)
  | 4 => ("CopyInsertsModel", "again", "I", false)
  | 5 => ("CopyInsertsModel", "laying", "I", false)
  | 6 => ("CopyInsertsModel", "bytewise", "I", false)
  | 7 => ("CopyInsertsModel", "acts", "I", false)
  | 8 => ("CopyInsertsModel", "kind", "[I", true)
  | 9 => ("CopyInsertsModel", "place", "[I", true)
  | 10 => ("CopyInsertsModel", "size", "[I", true)
  | 11 => ("CopyInsertsModel", "lays", "[I", true)
  | 12 => ("CopyInsertsModel", "planSum", "I", false)
  | 13 => ("CopyInsertsModel", "codes", "I", false)
  | 14 => ("CopyInsertsModel", "codeRow", "[I", true)
  | 15 => ("CopyInsertsModel", "mades", "I", false)
  | 16 => ("CopyInsertsModel", "madeRow", "[I", true)
  | 17 => ("CopyInsertsModel", "isLaid", "Z", false)
  | 18 => ("CopyInsertsModel", "left", "[I", true)
  | 19 => ("CopyInsertsModel", "bestKind", "I", false)
  | 20 => ("CopyInsertsModel", "bestPlace", "I", false)
  | _ => ("CopyInsertsModel", "bestSize", "I", false)
def zY5 : Nat → FieldType := fun k => match k with
  | 0 => .array .int
  | 1 => .array .int
  | 2 => .int
  | 3 => .int
  | 4 => .int
  | 5 => .int
  | 6 => .int
  | 7 => .int
  | 8 => .array .int
  | 9 => .array .int
  | 10 => .array .int
  | 11 => .array .int
  | 12 => .int
  | 13 => .int
  | 14 => .array .int
  | 15 => .int
  | 16 => .array .int
  | 17 => .boolean
  | 18 => .array .int
  | 19 => .int
  | 20 => .int
  | _ => .int
theorem zn5 : ∀ a, a < 22 → ∀ b, b < 22 → a ≠ b → (zT5 a).2.1 ≠ (zT5 b).2.1 := by decide +kernel
theorem zy5 : ∀ k, k < 22 → parseFieldDescriptor (zT5 k).2.2.1 = some (zY5 k) := by decide +kernel
abbrev vwCl : List vw_C := [(zR0, zT0, 7), (zR1, zT1, 5), (zR2, zT2, 2), (zR3, zT3, 13), (zR4, zT4, 7), (zR5, zT5, 22)]
/-- the words that hold at every state of a run -/
def zk_T : List Cond := lw_tbl.filter goodWord
theorem zk_good : ∀ w ∈ zk_T, goodWord w = true := fun _ h => (List.mem_filter.mp h).2
theorem zk_mem {w : Cond} (i : Nat) (h : lw_tbl[i]? = some w) (g : goodWord w = true) : w ∈ zk_T := List.mem_filter.mpr ⟨List.mem_of_getElem? h, g⟩
def zk_NF : List (String × Nat × String × String × String × String) := [("CopyInserts$Search", 72, "CopyInserts$Numbers", "copying", "I", "CopyInserts"), ("CopyInserts$Search", 75, "CopyInserts$Numbers", "seeking", "I", "CopyInserts"), ("CopyInserts$Search", 78, "CopyInserts$Numbers", "again", "I", "CopyInserts"), ("CopyInserts$Search", 69, "CopyInserts$Numbers", "laying", "I", "CopyInserts"), ("CopyInserts$Search", 60, "CopyInserts$Numbers", "bytewise", "I", "CopyInserts")]
def zk_NM : List (String × Nat × MethodName × String) := [("CopyInserts", 36, ⟨"CopyInserts$Acts", "<init>", "()V"⟩, "CopyInserts")]
theorem zi0 : ∀ w ∈ u_ws zR0 zT0 7, w ∈ zk_T := by
  intro w hw
  obtain ⟨k, hk, rfl⟩ := List.mem_map.mp hw
  have hk := List.mem_range.mp hk
  match k, hk with
  | 0, _ => exact zk_mem 114 (by decide +kernel) rfl
  | 1, _ => exact zk_mem 116 (by decide +kernel) rfl
  | 2, _ => exact zk_mem 118 (by decide +kernel) rfl
  | 3, _ => exact zk_mem 120 (by decide +kernel) rfl
  | 4, _ => exact zk_mem 122 (by decide +kernel) rfl
  | 5, _ => exact zk_mem 124 (by decide +kernel) rfl
  | 6, _ => exact zk_mem 126 (by decide +kernel) rfl
  | k + 7, h => omega
theorem zi1 : ∀ w ∈ u_ws zR1 zT1 5, w ∈ zk_T := by
  intro w hw
  obtain ⟨k, hk, rfl⟩ := List.mem_map.mp hw
  have hk := List.mem_range.mp hk
  match k, hk with
  | 0, _ => exact zk_mem 88 (by decide +kernel) rfl
  | 1, _ => exact zk_mem 90 (by decide +kernel) rfl
  | 2, _ => exact zk_mem 92 (by decide +kernel) rfl
  | 3, _ => exact zk_mem 94 (by decide +kernel) rfl
  | 4, _ => exact zk_mem 96 (by decide +kernel) rfl
  | k + 5, h => omega
theorem zi2 : ∀ w ∈ u_ws zR2 zT2 2, w ∈ zk_T := by
  intro w hw
  obtain ⟨k, hk, rfl⟩ := List.mem_map.mp hw
  have hk := List.mem_range.mp hk
  match k, hk with
  | 0, _ => exact zk_mem 58 (by decide +kernel) rfl
  | 1, _ => exact zk_mem 60 (by decide +kernel) rfl
  | k + 2, h => omega
theorem zi3 : ∀ w ∈ u_ws zR3 zT3 13, w ∈ zk_T := by
  intro w hw
  obtain ⟨k, hk, rfl⟩ := List.mem_map.mp hw
  have hk := List.mem_range.mp hk
  match k, hk with
  | 0, _ => exact zk_mem 148 (by decide +kernel) rfl
  | 1, _ => exact zk_mem 150 (by decide +kernel) rfl
  | 2, _ => exact zk_mem 152 (by decide +kernel) rfl
  | 3, _ => exact zk_mem 154 (by decide +kernel) rfl
  | 4, _ => exact zk_mem 156 (by decide +kernel) rfl
  | 5, _ => exact zk_mem 158 (by decide +kernel) rfl
  | 6, _ => exact zk_mem 160 (by decide +kernel) rfl
  | 7, _ => exact zk_mem 162 (by decide +kernel) rfl
  | 8, _ => exact zk_mem 164 (by decide +kernel) rfl
  | 9, _ => exact zk_mem 166 (by decide +kernel) rfl
  | 10, _ => exact zk_mem 168 (by decide +kernel) rfl
  | 11, _ => exact zk_mem 170 (by decide +kernel) rfl
  | 12, _ => exact zk_mem 172 (by decide +kernel) rfl
  | k + 13, h => omega
theorem zi4 : ∀ w ∈ u_ws zR4 zT4 7, w ∈ zk_T := by
  intro w hw
  obtain ⟨k, hk, rfl⟩ := List.mem_map.mp hw
  have hk := List.mem_range.mp hk
  match k, hk with
  | 0, _ => exact zk_mem 182 (by decide +kernel) rfl
  | 1, _ => exact zk_mem 184 (by decide +kernel) rfl
  | 2, _ => exact zk_mem 186 (by decide +kernel) rfl
  | 3, _ => exact zk_mem 188 (by decide +kernel) rfl
  | 4, _ => exact zk_mem 190 (by decide +kernel) rfl
  | 5, _ => exact zk_mem 192 (by decide +kernel) rfl
  | 6, _ => exact zk_mem 194 (by decide +kernel) rfl
  | k + 7, h => omega
theorem zi5 : ∀ w ∈ u_ws zR5 zT5 22, w ∈ zk_T := by
  intro w hw
  obtain ⟨k, hk, rfl⟩ := List.mem_map.mp hw
  have hk := List.mem_range.mp hk
  match k, hk with
  | 0, _ => exact zk_mem 611 (by decide +kernel) rfl
  | 1, _ => exact zk_mem 613 (by decide +kernel) rfl
  | 2, _ => exact zk_mem 615 (by decide +kernel) rfl
  | 3, _ => exact zk_mem 617 (by decide +kernel) rfl
  | 4, _ => exact zk_mem 619 (by decide +kernel) rfl
  | 5, _ => exact zk_mem 621 (by decide +kernel) rfl
  | 6, _ => exact zk_mem 623 (by decide +kernel) rfl
  | 7, _ => exact zk_mem 625 (by decide +kernel) rfl
  | 8, _ => exact zk_mem 627 (by decide +kernel) rfl
  | 9, _ => exact zk_mem 629 (by decide +kernel) rfl
  | 10, _ => exact zk_mem 631 (by decide +kernel) rfl
  | 11, _ => exact zk_mem 633 (by decide +kernel) rfl
  | 12, _ => exact zk_mem 635 (by decide +kernel) rfl
  | 13, _ => exact zk_mem 637 (by decide +kernel) rfl
  | 14, _ => exact zk_mem 639 (by decide +kernel) rfl
  | 15, _ => exact zk_mem 641 (by decide +kernel) rfl
  | 16, _ => exact zk_mem 643 (by decide +kernel) rfl
  | 17, _ => exact zk_mem 645 (by decide +kernel) rfl
  | 18, _ => exact zk_mem 647 (by decide +kernel) rfl
  | 19, _ => exact zk_mem 649 (by decide +kernel) rfl
  | 20, _ => exact zk_mem 651 (by decide +kernel) rfl
  | 21, _ => exact zk_mem 653 (by decide +kernel) rfl
  | k + 22, h => omega
end
section
/-! THE LOGIC: a walk in pure words. Numbers are Int, references are places in a list of cells: place 0 is the script, place k + 1 lies at the address B + k. -/
abbrev zk_V : Type := Int ⊕ Option Nat
abbrev zk_C : Type := (Nat × (Nat → Int)) ⊕ (Nat × List zk_V)
abbrev zk_H : Type := List zk_C
/-- launch, tables of the classes, the class of int[], the script's address, the base, the script's length, the script -/
abbrev zk_G : Type := Launch × va_G × ClassId × Nat × Nat × Nat × (Nat → Int32)
/-- a method: name, bytes, locals, what it returns -/
abbrev zk_M : Type := MethodName × ByteArray × Nat × Option FieldType
abbrev zk_gl (G : zk_G) : Launch := G.1
abbrev zk_gD (G : zk_G) : va_G := G.2.1
abbrev zk_gI (G : zk_G) : ClassId := G.2.2.1
abbrev zk_gb (G : zk_G) : Nat := G.2.2.2.1
abbrev zk_gB (G : zk_G) : Nat := G.2.2.2.2.1
abbrev zk_gL (G : zk_G) : Nat := G.2.2.2.2.2.1
abbrev zk_gX (G : zk_G) : Nat → Int32 := G.2.2.2.2.2.2
def zk_ad (G : zk_G) (k : Nat) : Nat := match k with
  | 0 => zk_gb G
  | k + 1 => zk_gB G + k
def zk_rv (G : zk_G) (v : zk_V) : Value := match v with
  | .inl z => .int (Int32.ofInt z)
  | .inr none => .null
  | .inr (some k) => .ref (zk_ad G k)
def zk_ce (G : zk_G) (c : zk_C) : va_E := match c with
  | .inl a => .inl (zk_gI G, a.1, .inl (fun j => Int32.ofInt (a.2 j)))
  | .inr o => .inr (o.1, o.2.map (zk_rv G))
def zk_scr (G : zk_G) : zk_C := .inl (zk_gL G, fun j => (zk_gX G j).toInt)
/-- the heap H is the cells h -/
def zk_P (G : zk_G) (h : zk_H) (H : Heap) : Prop := H.size + 1 = zk_gB G + h.length ∧ h[0]? = some (zk_scr G) ∧ ∀ (k : Nat) (c : zk_C), h[k + 1]? = some c → va_at (zk_gD G) vwCl (zk_gB G + k, zk_ce G c) H
/-- the links between nest mates -/
def zk_NW (U : State) : Prop := (∀ q ∈ zk_NF, va_Nw (.fieldLinkNest q.1 q.2.1 q.2.2.1 q.2.2.2.1 q.2.2.2.2.1 q.2.2.2.2.2) U) ∧ ∀ q ∈ zk_NM, va_Nw (.methodLinkNest q.1 q.2.1 q.2.2.1 q.2.2.2) U
theorem zk_NW.warm {s U : State} (hW : s.WarmedH U.vm) (h : zk_NW s) : zk_NW U := ⟨fun q hq => (h.1 q hq).warmF hW, fun q hq => (h.2 q hq).warmM hW⟩
theorem zk_NW.same {s U : State} (hW : s.vm = U.vm) (h : zk_NW s) : zk_NW U := ⟨fun q hq => (h.1 q hq).same rfl hW, fun q hq => (h.2 q hq).same rfl hW⟩
/-- a state: the cells, the classes, the script -/
def zk_S (G : zk_G) (h : zk_H) (U : State) : Prop := zk_P G h U.heap ∧ va_K (zk_gD G) vwCl [(zk_gI G, .int)] U ∧ va_X (zk_gb G) (zk_gL G) (zk_gX G) U U.heap ∧ zk_gb G < zk_gB G ∧ zk_gL G < 2 ^ 31 ∧ zk_NW U
/-- what holds all through a body -/
def zk_X (G : zk_G) (M : zk_M) (d : Nat × Nat) (p : Program) (R : Room) (s : State) (m : MethodId) (args : Array Value) (meth : Method) (c : Code) : Prop :=
  p.tables.exec = Jvm.exec ∧ c.code = M.2.1 ∧ meth.sig.returnType = M.2.2.2 ∧ meth.locks = false ∧ c.maxLocals = M.2.2.1 ∧ s.vm.findClass M.1.cls = some m.cls ∧ meth.name = M.1.name ∧ (∀ w ∈ zk_T, w.before args s = true) ∧ va_K (zk_gD G) vwCl [(zk_gI G, .int)] s ∧ va_X (zk_gb G) (zk_gL G) (zk_gX G) s s.heap ∧ zk_gb G < zk_gB G ∧ zk_gB G ≤ s.heap.size ∧ d.1 ≤ R.frames ∧ d.2 ≤ R.locals ∧ zk_gL G < 2 ^ 31 ∧ zk_NW s
/-- locals -/
def zk_L (G : zk_G) (lsr : Array Slot) (nL : Nat) (ls : List (Option zk_V)) : Prop := lsr.size = nL ∧ lv_wf lsr ∧ ∀ (k : Nat) (v : zk_V), ls[k]? = some (some v) → lsr[k]? = some (.val (zk_rv G v))
/-- a return -/
def zk_R (M : zk_M) (pc : Nat) (v : Option zk_V) : Prop := match v with
  | none => M.2.2.2 = none ∧ decode M.2.1 pc = .ok (.return_, 1)
  | some (.inl z) => decode M.2.1 pc = .ok (.ireturn, 1) ∧ ∃ ty, M.2.2.2 = some ty ∧ narrow ty (.int (Int32.ofInt z)) = .int (Int32.ofInt z)
  | some (.inr _) => decode M.2.1 pc = .ok (.areturn, 1) ∧ ∃ rt, M.2.2.2 = some rt ∧ ((∃ n, rt = .object n) ∨ ∃ t, rt = .array t)
abbrev zk_A (G : zk_G) : Nat → Prop := fun q => zk_gB G ≤ q
/-- the end of a body -/
def zk_E (G : zk_G) (M : zk_M) (p : Program) (e : Env) (R : Room) (s : State) (m : MethodId) (args : Array Value) (below : List Frame) (meth : Method) (c : Code) (mc ms : Nat) (Qs : State → Prop) (Q : Option zk_V → zk_H → Prop) : Prop :=
  ∀ (v : Option zk_V) (h' : zk_H) (H' : Heap) (locs' : List Loc) (pc' : Nat) (ls' : Array Slot), Q v h' → zk_P G h' H' → va_S (zk_A G) s.heap H' locs' → zk_R M pc' v →
    W p (zk_gl G) e R s m args below meth c H' locs' mc ms Qs (F0 m pc' ls' (v.map (zk_rv G)).toList)
/-- THE JUDGEMENT: from place pc of method M, with locals ls, stack st and cells h, with room for d.1 frames and d.2 words of locals, and for kc cells of ks slots: M returns, and Q holds of its answer and the cells -/
def zk_W (G : zk_G) (M : zk_M) (d : Nat × Nat) (kc ks pc : Nat) (ls : List (Option zk_V)) (st : List zk_V) (h : zk_H) (Q : Option zk_V → zk_H → Prop) : Prop :=
  ∀ (p : Program) (e : Env) (R : Room) (s : State) (m : MethodId) (args : Array Value) (below : List Frame) (meth : Method) (c : Code), zk_X G M d p R s m args meth c →
  ∀ (H : Heap) (locs : List Loc) (cells slots mc ms : Nat) (lsr : Array Slot) (Qs : State → Prop), zk_P G h H → va_S (zk_A G) s.heap H locs → cells + kc ≤ mc → slots + ks ≤ ms → mc ≤ R.cells → ms ≤ R.slots → zk_L G lsr M.2.2.1 ls → zk_E G M p e R s m args below meth c mc ms Qs Q →
    W p (zk_gl G) e R s m args below meth c H locs cells slots Qs (F0 m pc lsr (st.map (zk_rv G)))
/-- A CONTRACT: called with av over the cells h, M returns, and Q holds -/
def zk_K (G : zk_G) (M : zk_M) (d : Nat × Nat) (mc ms : Nat) (av : List zk_V) (h : zk_H) (Q : Option zk_V → zk_H → Prop) : Prop :=
  Met (zk_gl G) M.1 (.code M.1 M.2.1 M.2.2.1 M.2.2.2 :: zk_T) ({ frames := d.1, cells := mc, slots := ms, locals := d.2 } : Room) (va_Pc (av.map (zk_rv G)) (zk_S G h))
    (fun _ st oc t => (∃ (v : Option zk_V) (h' : zk_H), oc = .returned (v.map (zk_rv G)) ∧ Q v h' ∧ zk_S G h' t) ∧ va_F (zk_A G) st t) mc ms (zk_A G)
/-! numbers -/
def zk_rg (z : Int) : Prop := -2147483648 ≤ z ∧ z < 2147483648
theorem zk_ti {z : Int} (h : zk_rg z) : (Int32.ofInt z).toInt = z := Int32.toInt_ofInt_of_le (by have := h.1; omega) (by have := h.2; omega)
theorem zk_lt {x y : Int} (hx : zk_rg x) (hy : zk_rg y) : Int32.ofInt x < Int32.ofInt y ↔ x < y := by rw [Int32.lt_iff_toInt_lt, zk_ti hx, zk_ti hy]
theorem zk_le {x y : Int} (hx : zk_rg x) (hy : zk_rg y) : Int32.ofInt x ≤ Int32.ofInt y ↔ x ≤ y := by rw [Int32.le_iff_toInt_le, zk_ti hx, zk_ti hy]
theorem zk_eq {x y : Int} (hx : zk_rg x) (hy : zk_rg y) : Int32.ofInt x = Int32.ofInt y ↔ x = y := by rw [← Int32.toInt_inj, zk_ti hx, zk_ti hy]
theorem zk_0 : (0 : Int32) = Int32.ofInt 0 := rfl
theorem zk_rg0 : zk_rg 0 := ⟨by omega, by omega⟩
theorem zk_cl {z : Int} (h0 : 0 ≤ z) (h : z < 2147483648) : (Int32.ofInt z).toNatClampNeg = z.toNat := by rw [Int32.toNatClampNeg, zk_ti ⟨by omega, h⟩]
theorem zk_vin {z : Int} {n : Nat} (h0 : 0 ≤ z) (hn : z < n) (h : z < 2147483648) : vp_in (Int32.ofInt z) n := by
  rw [vp_in_iff, zk_ti ⟨by omega, h⟩]
  exact ⟨h0, hn⟩
/-! cells -/
theorem zk_rv_cat (G : zk_G) (v : zk_V) : (zk_rv G v).category = 1 := by
  rcases v with z | _ | k <;> rfl
theorem zk_cat_sum (G : zk_G) (st : List zk_V) : ((st.map (zk_rv G)).map fun v => v.category).sum = st.length := by
  induction st with
  | nil => rfl
  | cons a l ih =>
    simp only [List.map_cons, List.sum_cons, List.length_cons, zk_rv_cat]
    rw [ih]
    omega
theorem zk_P.lt {G : zk_G} {h : zk_H} {H : Heap} (hP : zk_P G h H) : zk_gB G ≤ H.size := by
  obtain ⟨h1, h2, -⟩ := hP
  have := (List.getElem?_eq_some_iff.mp h2).1
  omega
theorem zk_P.at {G : zk_G} {h : zk_H} {H : Heap} (hP : zk_P G h H) {k : Nat} {c : zk_C} (hk : h[k]? = some c) (h0 : k ≠ 0) : va_at (zk_gD G) vwCl (zk_ad G k, zk_ce G c) H := by
  match k, h0, hk with
  | k + 1, _, hk => exact hP.2.2 k c hk
theorem zk_ad_ge {G : zk_G} {k : Nat} (h0 : k ≠ 0) : zk_gB G ≤ zk_ad G k := by
  match k, h0 with
  | k + 1, _ => exact Nat.le_add_right _ _
/-- a cell is written -/
theorem zk_P.put {G : zk_G} {h : zk_H} {H H1 : Heap} (hP : zk_P G h H) {k : Nat} {c0 c : zk_C} (hk : h[k]? = some c0) (h0 : k ≠ 0) (hc : va_at (zk_gD G) vwCl (zk_ad G k, zk_ce G c) H1) (hz : H1.size = H.size) (ho : ∀ q : Nat, q ≠ zk_ad G k → H1[q]? = H[q]?) : zk_P G (h.set k c) H1 := by
  match k, h0, hk, hc, ho with
  | k + 1, _, hk, hc, ho =>
    have hl := (List.getElem?_eq_some_iff.mp hk).1
    refine ⟨by rw [hz, List.length_set]; exact hP.1, by rw [List.getElem?_set_ne (by omega)]; exact hP.2.1, fun j c1 hj => ?_⟩
    by_cases hjk : j = k
    · subst hjk
      rw [List.getElem?_set_self hl] at hj
      cases hj
      exact hc
    · rw [List.getElem?_set_ne (by omega)] at hj
      exact (hP.2.2 j c1 hj).kept (ho _ (by show zk_gB G + j ≠ zk_gB G + k; omega))
/-- a cell is made -/
theorem zk_P.push {G : zk_G} {h : zk_H} {H H1 : Heap} (hP : zk_P G h H) {c : zk_C} (hc : va_at (zk_gD G) vwCl (H.size, zk_ce G c) H1) (hz : H1.size = H.size + 1) (ho : ∀ q : Nat, q < H.size → H1[q]? = H[q]?) : zk_P G (h ++ [c]) H1 ∧ H.size = zk_ad G h.length := by
  have hl := (List.getElem?_eq_some_iff.mp hP.2.1).1
  have hs := hP.1
  have he : H.size = zk_ad G h.length := by
    obtain ⟨n, hn⟩ : ∃ n, h.length = n + 1 := ⟨h.length - 1, by omega⟩
    rw [hn]
    show H.size = zk_gB G + n
    omega
  refine ⟨⟨by rw [hz, List.length_append]; show _ = _ + (_ + 1); omega, by rw [List.getElem?_append_left hl]; exact hP.2.1, fun j c1 hj => ?_⟩, he⟩
  by_cases hjl : j + 1 < h.length
  · rw [List.getElem?_append_left hjl] at hj
    have h1 := hP.2.2 j c1 hj
    exact h1.kept (ho _ h1.lt)
  · rw [List.getElem?_append_right (by omega)] at hj
    have h2 : j + 1 - h.length < 1 := (List.getElem?_eq_some_iff.mp hj).1
    rw [show j + 1 - h.length = 0 by omega] at hj
    cases hj
    rw [show zk_gB G + j = H.size by omega]
    exact hc
theorem zk_Spush {A : Nat → Prop} {H0 H H1 : Heap} {locs : List Loc} (h : va_S A H0 H locs) (z : H1.size = H.size + 1) (oq : ∀ q : Nat, q < H.size → H1[q]? = H[q]?) : va_S A H0 H1 locs :=
  ⟨Nat.le_trans h.1 (by omega), fun q h1 h2 => (oq q (Nat.lt_of_lt_of_le h1 h.1)).trans (h.2.1 q h1 h2), h.2.2⟩
/-! locals -/
def zk_sv (k : Nat) (x : Option Slot) : Option (Nat × Value) := match x with
  | some (.val w) => some (k, w)
  | _ => none
def zk_all (ls : Array Slot) : List (Nat × Value) := (List.range ls.size).filterMap fun k => zk_sv k ls[k]?
theorem zk_all_has {ls : Array Slot} {nL : Nat} (h1 : ls.size = nL) (h2 : lv_wf ls) : lv_has ls nL (zk_all ls) := by
  refine ⟨h1, h2, fun q hq => ?_⟩
  obtain ⟨k, -, hk⟩ := List.mem_filterMap.mp hq
  cases hx : ls[k]? with
  | none => rw [hx] at hk; cases hk
  | some x =>
    rw [hx] at hk
    cases x with
    | val w => cases hk; exact hx
    | unset => cases hk
    | second => cases hk
theorem zk_all_in {ls : Array Slot} {k : Nat} {w : Value} (h : ls[k]? = some (.val w)) : (k, w) ∈ zk_all ls :=
  List.mem_filterMap.mpr ⟨k, List.mem_range.mpr (Array.getElem?_eq_some_iff.mp h).1, by rw [h]; rfl⟩
/-- behind a store -/
theorem zk_L.set {G : zk_G} {lsr ls' : Array Slot} {nL i : Nat} {ls : List (Option zk_V)} {v : zk_V} (h : zk_L G lsr nL ls) (h' : lv_has ls' nL ((i, zk_rv G v) :: (zk_all lsr).filter (fun q => !(q.1 == i) && !(q.1 + 1 == i && q.2.category == 2)))) : zk_L G ls' nL (ls.set i (some v)) := by
  refine ⟨h'.1, h'.2.1, fun k w hk => ?_⟩
  by_cases hki : k = i
  · subst hki
    have hl : k < ls.length := by
      have := (List.getElem?_eq_some_iff.mp hk).1
      simpa using this
    rw [List.getElem?_set_self hl] at hk
    cases hk
    exact h'.2.2 (k, zk_rv G v) List.mem_cons_self
  · rw [List.getElem?_set_ne (fun e => hki e.symm)] at hk
    have h1 := h.2.2 k w hk
    refine h'.2.2 (k, zk_rv G w) (List.mem_cons_of_mem _ (List.mem_filter.mpr ⟨zk_all_in h1, ?_⟩))
    simp [hki, zk_rv_cat]
end
section
section ZkRows
variable {G : zk_G} {M : zk_M} {d : Nat × Nat} {kc ks pc : Nat} {ls : List (Option zk_V)} {st : List zk_V} {h : zk_H} {Q : Option zk_V → zk_H → Prop}
theorem zk_iconst {z : Int} (hd : decode M.2.1 pc = .ok (.iconst z, 1)) (kk : zk_W G M d kc ks (pc + 1) ls (.inl z :: st) h Q) : zk_W G M d kc ks pc ls st h Q := by
  intro p e R s m args below meth c X H locs cells slots mc ms lsr Qs hP hS h1 h2 h3 h4 hL hE
  exact lv_iconst X.1 X.2.1 hd rfl (kk p e R s m args below meth c X H locs cells slots mc ms lsr Qs hP hS h1 h2 h3 h4 hL hE)
theorem zk_bipush {z : Int} (hd : decode M.2.1 pc = .ok (.bipush z, 2)) (hv : (Int8.ofInt z).toInt32 = Int32.ofInt z) (kk : zk_W G M d kc ks (pc + 2) ls (.inl z :: st) h Q) : zk_W G M d kc ks pc ls st h Q := by
  intro p e R s m args below meth c X H locs cells slots mc ms lsr Qs hP hS h1 h2 h3 h4 hL hE
  exact lv_bipush X.1 X.2.1 hd hv (kk p e R s m args below meth c X H locs cells slots mc ms lsr Qs hP hS h1 h2 h3 h4 hL hE)
theorem zk_sipush {z : Int} (hd : decode M.2.1 pc = .ok (.sipush z, 3)) (hv : (Int16.ofInt z).toInt32 = Int32.ofInt z) (kk : zk_W G M d kc ks (pc + 3) ls (.inl z :: st) h Q) : zk_W G M d kc ks pc ls st h Q := by
  intro p e R s m args below meth c X H locs cells slots mc ms lsr Qs hP hS h1 h2 h3 h4 hL hE
  exact lv_sipush X.1 X.2.1 hd hv (kk p e R s m args below meth c X H locs cells slots mc ms lsr Qs hP hS h1 h2 h3 h4 hL hE)
theorem zk_ldc {z : Int} {index : Nat} (hd : decode M.2.1 pc = .ok (.ldc index, 2)) (hw : Cond.constant M.1.cls index (Int32.ofInt z) ∈ zk_T) (kk : zk_W G M d kc ks (pc + 2) ls (.inl z :: st) h Q) : zk_W G M d kc ks pc ls st h Q := by
  intro p e R s m args below meth c X H locs cells slots mc ms lsr Qs hP hS h1 h2 h3 h4 hL hE
  exact lv_ldc X.1 X.2.1 X.2.2.2.2.2.1 (X.2.2.2.2.2.2.2.1 _ hw) hd (kk p e R s m args below meth c X H locs cells slots mc ms lsr Qs hP hS h1 h2 h3 h4 hL hE)
theorem zk_iload_n {z : Int} {k : Fin 4} (hd : decode M.2.1 pc = .ok (.iload_n k, 1)) (hl : ls[k.val]? = some (some (.inl z))) (kk : zk_W G M d kc ks (pc + 1) ls (.inl z :: st) h Q) : zk_W G M d kc ks pc ls st h Q := by
  intro p e R s m args below meth c X H locs cells slots mc ms lsr Qs hP hS h1 h2 h3 h4 hL hE
  exact lv_iload_n X.1 X.2.1 hd rfl (hL.2.2 _ _ hl) (kk p e R s m args below meth c X H locs cells slots mc ms lsr Qs hP hS h1 h2 h3 h4 hL hE)
theorem zk_iload {z : Int} {k : Nat} (hd : decode M.2.1 pc = .ok (.iload k, 2)) (hl : ls[k]? = some (some (.inl z))) (kk : zk_W G M d kc ks (pc + 2) ls (.inl z :: st) h Q) : zk_W G M d kc ks pc ls st h Q := by
  intro p e R s m args below meth c X H locs cells slots mc ms lsr Qs hP hS h1 h2 h3 h4 hL hE
  exact lv_iload X.1 X.2.1 hd (hL.2.2 _ _ hl) (kk p e R s m args below meth c X H locs cells slots mc ms lsr Qs hP hS h1 h2 h3 h4 hL hE)
theorem zk_aload_n {z : Nat} {k : Fin 4} (hd : decode M.2.1 pc = .ok (.aload_n k, 1)) (hl : ls[k.val]? = some (some (.inr (some z)))) (kk : zk_W G M d kc ks (pc + 1) ls (.inr (some z) :: st) h Q) : zk_W G M d kc ks pc ls st h Q := by
  intro p e R s m args below meth c X H locs cells slots mc ms lsr Qs hP hS h1 h2 h3 h4 hL hE
  exact lv_aload_n X.1 X.2.1 hd rfl (hL.2.2 _ _ hl) (kk p e R s m args below meth c X H locs cells slots mc ms lsr Qs hP hS h1 h2 h3 h4 hL hE)
theorem zk_aload {z : Nat} {k : Nat} (hd : decode M.2.1 pc = .ok (.aload k, 2)) (hl : ls[k]? = some (some (.inr (some z)))) (kk : zk_W G M d kc ks (pc + 2) ls (.inr (some z) :: st) h Q) : zk_W G M d kc ks pc ls st h Q := by
  intro p e R s m args below meth c X H locs cells slots mc ms lsr Qs hP hS h1 h2 h3 h4 hL hE
  exact lv_aload X.1 X.2.1 hd (hL.2.2 _ _ hl) (kk p e R s m args below meth c X H locs cells slots mc ms lsr Qs hP hS h1 h2 h3 h4 hL hE)
theorem zk_istore_n {z : Int} {k : Fin 4} {ls' : List (Option zk_V)} (hd : decode M.2.1 pc = .ok (.istore_n k, 1)) (hi : k.val < M.2.2.1) (hl : ls.set k.val (some (.inl z)) = ls') (kk : zk_W G M d kc ks (pc + 1) ls' st h Q) : zk_W G M d kc ks pc ls (.inl z :: st) h Q := by
  intro p e R s m args below meth c X H locs cells slots mc ms lsr Qs hP hS h1 h2 h3 h4 hL hE
  subst hl
  exact lv_istore_n X.1 X.2.1 hd rfl (zk_all_has hL.1 hL.2.1) hi rfl (fun lsr2 hl2 => (kk p e R s m args below meth c X H locs cells slots mc ms lsr2 Qs hP hS h1 h2 h3 h4 (hL.set (v := .inl z) hl2) hE))
theorem zk_istore {z : Int} {k : Nat} {ls' : List (Option zk_V)} (hd : decode M.2.1 pc = .ok (.istore k, 2)) (hi : k < M.2.2.1) (hl : ls.set k (some (.inl z)) = ls') (kk : zk_W G M d kc ks (pc + 2) ls' st h Q) : zk_W G M d kc ks pc ls (.inl z :: st) h Q := by
  intro p e R s m args below meth c X H locs cells slots mc ms lsr Qs hP hS h1 h2 h3 h4 hL hE
  subst hl
  exact lv_istore X.1 X.2.1 hd (zk_all_has hL.1 hL.2.1) hi rfl (fun lsr2 hl2 => (kk p e R s m args below meth c X H locs cells slots mc ms lsr2 Qs hP hS h1 h2 h3 h4 (hL.set (v := .inl z) hl2) hE))
theorem zk_astore_n {z : Nat} {k : Fin 4} {ls' : List (Option zk_V)} (hd : decode M.2.1 pc = .ok (.astore_n k, 1)) (hi : k.val < M.2.2.1) (hl : ls.set k.val (some (.inr (some z))) = ls') (kk : zk_W G M d kc ks (pc + 1) ls' st h Q) : zk_W G M d kc ks pc ls (.inr (some z) :: st) h Q := by
  intro p e R s m args below meth c X H locs cells slots mc ms lsr Qs hP hS h1 h2 h3 h4 hL hE
  subst hl
  exact lv_astore_n X.1 X.2.1 hd rfl (zk_all_has hL.1 hL.2.1) hi rfl (fun lsr2 hl2 => (kk p e R s m args below meth c X H locs cells slots mc ms lsr2 Qs hP hS h1 h2 h3 h4 (hL.set (v := .inr (some z)) hl2) hE))
theorem zk_astore {z : Nat} {k : Nat} {ls' : List (Option zk_V)} (hd : decode M.2.1 pc = .ok (.astore k, 2)) (hi : k < M.2.2.1) (hl : ls.set k (some (.inr (some z))) = ls') (kk : zk_W G M d kc ks (pc + 2) ls' st h Q) : zk_W G M d kc ks pc ls (.inr (some z) :: st) h Q := by
  intro p e R s m args below meth c X H locs cells slots mc ms lsr Qs hP hS h1 h2 h3 h4 hL hE
  subst hl
  exact lv_astore X.1 X.2.1 hd (zk_all_has hL.1 hL.2.1) hi rfl (fun lsr2 hl2 => (kk p e R s m args below meth c X H locs cells slots mc ms lsr2 Qs hP hS h1 h2 h3 h4 (hL.set (v := .inr (some z)) hl2) hE))
theorem zk_iinc {z n : Int} {k : Nat} {ls' : List (Option zk_V)} (hd : decode M.2.1 pc = .ok (.iinc k n, 3)) (hg : ls[k]? = some (some (.inl z))) (hi : k < M.2.2.1) (hl : ls.set k (some (.inl (z + n))) = ls') (kk : zk_W G M d kc ks (pc + 3) ls' st h Q) : zk_W G M d kc ks pc ls st h Q := by
  intro p e R s m args below meth c X H locs cells slots mc ms lsr Qs hP hS h1 h2 h3 h4 hL hE
  subst hl
  obtain ⟨k0, hk0⟩ := List.getElem?_of_mem (zk_all_in (hL.2.2 _ _ hg))
  exact lv_iinc X.1 X.2.1 hd (zk_all_has hL.1 hL.2.1) hk0 (Int32.ofInt_add z n).symm hi rfl (fun lsr2 hl2 => (kk p e R s m args below meth c X H locs cells slots mc ms lsr2 Qs hP hS h1 h2 h3 h4 (hL.set (v := .inl (z + n)) hl2) hE))
theorem zk_iadd {x y : Int} (hd : decode M.2.1 pc = .ok (.iadd, 1)) (kk : zk_W G M d kc ks (pc + 1) ls (.inl (x + y) :: st) h Q) : zk_W G M d kc ks pc ls (.inl y :: .inl x :: st) h Q := by
  intro p e R s m args below meth c X H locs cells slots mc ms lsr Qs hP hS h1 h2 h3 h4 hL hE
  refine lv_iadd (x := Int32.ofInt x) (y := Int32.ofInt y) (rest := st.map (zk_rv G)) X.1 X.2.1 hd ?_
  rw [← Int32.ofInt_add x y]
  exact (kk p e R s m args below meth c X H locs cells slots mc ms lsr Qs hP hS h1 h2 h3 h4 hL hE)
theorem zk_isub {x y : Int} (hd : decode M.2.1 pc = .ok (.isub, 1)) (kk : zk_W G M d kc ks (pc + 1) ls (.inl (x - y) :: st) h Q) : zk_W G M d kc ks pc ls (.inl y :: .inl x :: st) h Q := by
  intro p e R s m args below meth c X H locs cells slots mc ms lsr Qs hP hS h1 h2 h3 h4 hL hE
  refine lv_isub (x := Int32.ofInt x) (y := Int32.ofInt y) (rest := st.map (zk_rv G)) X.1 X.2.1 hd ?_
  rw [← Int32.ofInt_sub x y]
  exact (kk p e R s m args below meth c X H locs cells slots mc ms lsr Qs hP hS h1 h2 h3 h4 hL hE)
theorem zk_imul {x y : Int} (hd : decode M.2.1 pc = .ok (.imul, 1)) (kk : zk_W G M d kc ks (pc + 1) ls (.inl (x * y) :: st) h Q) : zk_W G M d kc ks pc ls (.inl y :: .inl x :: st) h Q := by
  intro p e R s m args below meth c X H locs cells slots mc ms lsr Qs hP hS h1 h2 h3 h4 hL hE
  refine lv_imul (x := Int32.ofInt x) (y := Int32.ofInt y) (rest := st.map (zk_rv G)) X.1 X.2.1 hd ?_
  rw [← Int32.ofInt_mul x y]
  exact (kk p e R s m args below meth c X H locs cells slots mc ms lsr Qs hP hS h1 h2 h3 h4 hL hE)
theorem zk_ineg {x : Int} (hd : decode M.2.1 pc = .ok (.ineg, 1)) (kk : zk_W G M d kc ks (pc + 1) ls (.inl (-x) :: st) h Q) : zk_W G M d kc ks pc ls (.inl x :: st) h Q := by
  intro p e R s m args below meth c X H locs cells slots mc ms lsr Qs hP hS h1 h2 h3 h4 hL hE
  refine lv_ineg (x := Int32.ofInt x) (rest := st.map (zk_rv G)) X.1 X.2.1 hd ?_
  rw [← Int32.ofInt_neg x]
  exact (kk p e R s m args below meth c X H locs cells slots mc ms lsr Qs hP hS h1 h2 h3 h4 hL hE)
theorem zk_dv {x y : Int} (hx : 0 ≤ x) (hx2 : zk_rg x) (hy : 0 < y) (hy2 : zk_rg y) : Int32.ofInt x / Int32.ofInt y = Int32.ofInt (x / y) := by
  rw [← Int.tdiv_eq_ediv_of_nonneg hx]
  exact (Int32.ofInt_tdiv (by show (-2147483648 : Int) ≤ x; omega) (by have := hx2.2; show x ≤ (2147483647 : Int); omega) (by show (-2147483648 : Int) ≤ y; omega) (by have := hy2.2; show y ≤ (2147483647 : Int); omega)).symm
theorem zk_ne0 {y : Int} (hy : 0 < y) (hy2 : zk_rg y) : ¬ Int32.ofInt y = 0 := by
  rw [zk_0, zk_eq hy2 zk_rg0]
  omega
theorem zk_idiv {x y : Int} (hd : decode M.2.1 pc = .ok (.idiv, 1)) (hx : 0 ≤ x) (hx2 : zk_rg x) (hy : 0 < y) (hy2 : zk_rg y) (kk : zk_W G M d kc ks (pc + 1) ls (.inl (x / y) :: st) h Q) : zk_W G M d kc ks pc ls (.inl y :: .inl x :: st) h Q := by
  intro p e R s m args below meth c X H locs cells slots mc ms lsr Qs hP hS h1 h2 h3 h4 hL hE
  refine lv_idiv (x := Int32.ofInt x) (y := Int32.ofInt y) (rest := st.map (zk_rv G)) X.1 X.2.1 hd (zk_ne0 hy hy2) ?_
  rw [zk_dv hx hx2 hy hy2]
  exact (kk p e R s m args below meth c X H locs cells slots mc ms lsr Qs hP hS h1 h2 h3 h4 hL hE)
theorem zk_irem {x y : Int} (hd : decode M.2.1 pc = .ok (.irem, 1)) (hx : 0 ≤ x) (hx2 : zk_rg x) (hy : 0 < y) (hy2 : zk_rg y) (kk : zk_W G M d kc ks (pc + 1) ls (.inl (x % y) :: st) h Q) : zk_W G M d kc ks pc ls (.inl y :: .inl x :: st) h Q := by
  intro p e R s m args below meth c X H locs cells slots mc ms lsr Qs hP hS h1 h2 h3 h4 hL hE
  refine lv_irem (x := Int32.ofInt x) (y := Int32.ofInt y) (rest := st.map (zk_rv G)) X.1 X.2.1 hd (zk_ne0 hy hy2) ?_
  rw [zk_dv hx hx2 hy hy2, ← Int32.ofInt_mul, ← Int32.ofInt_sub, show x - x / y * y = x % y by rw [Int.emod_def, Int.mul_comm]]
  exact (kk p e R s m args below meth c X H locs cells slots mc ms lsr Qs hP hS h1 h2 h3 h4 hL hE)
theorem zk_and31 (x : Int) : Int32.ofInt x &&& Int32.ofInt 31 = Int32.ofInt (x % 32) := by
  have h := pk_and (Int32.ofInt x) (m := Int32.ofInt 31) 5 rfl
  rw [h]
  have h2 : ((Int32.ofInt x).toBitVec.toNat : Int) = x % 4294967296 := by
    rw [Int32.toBitVec_ofInt, BitVec.toNat_ofInt]
    have := Int.emod_nonneg x (show ((2 ^ 32 : Nat) : Int) ≠ 0 by decide)
    rw [Int.toNat_of_nonneg this]
    rfl
  show Int32.ofNat _ = _
  rw [← Int32.ofInt_eq_ofNat]
  congr 1
  show (((Int32.ofInt x).toBitVec.toNat % 32 : Nat) : Int) = x % 32
  omega
theorem zk_iand31 {x : Int} (hd : decode M.2.1 pc = .ok (.iand, 1)) (kk : zk_W G M d kc ks (pc + 1) ls (.inl (x % 32) :: st) h Q) : zk_W G M d kc ks pc ls (.inl 31 :: .inl x :: st) h Q := by
  intro p e R s m args below meth c X H locs cells slots mc ms lsr Qs hP hS h1 h2 h3 h4 hL hE
  refine lv_iand (x := Int32.ofInt x) (y := Int32.ofInt 31) (rest := st.map (zk_rv G)) X.1 X.2.1 hd ?_
  rw [zk_and31 x]
  exact (kk p e R s m args below meth c X H locs cells slots mc ms lsr Qs hP hS h1 h2 h3 h4 hL hE)
theorem zk_dup {v : zk_V} (hd : decode M.2.1 pc = .ok (.dup, 1)) (kk : zk_W G M d kc ks (pc + 1) ls (v :: v :: st) h Q) : zk_W G M d kc ks pc ls (v :: st) h Q := by
  intro p e R s m args below meth c X H locs cells slots mc ms lsr Qs hP hS h1 h2 h3 h4 hL hE
  exact lv_dup X.1 X.2.1 hd (zk_rv_cat G v) (kk p e R s m args below meth c X H locs cells slots mc ms lsr Qs hP hS h1 h2 h3 h4 hL hE)
theorem zk_pop {v : zk_V} (hd : decode M.2.1 pc = .ok (.pop, 1)) (kk : zk_W G M d kc ks (pc + 1) ls st h Q) : zk_W G M d kc ks pc ls (v :: st) h Q := by
  intro p e R s m args below meth c X H locs cells slots mc ms lsr Qs hP hS h1 h2 h3 h4 hL hE
  exact lv_pop X.1 X.2.1 hd (zk_rv_cat G v) (kk p e R s m args below meth c X H locs cells slots mc ms lsr Qs hP hS h1 h2 h3 h4 hL hE)
theorem zk_dup_x1 {v w : zk_V} (hd : decode M.2.1 pc = .ok (.dup_x1, 1)) (kk : zk_W G M d kc ks (pc + 1) ls (v :: w :: v :: st) h Q) : zk_W G M d kc ks pc ls (v :: w :: st) h Q := by
  intro p e R s m args below meth c X H locs cells slots mc ms lsr Qs hP hS h1 h2 h3 h4 hL hE
  exact lv_dup_x1 X.1 X.2.1 hd (zk_rv_cat G v) (zk_rv_cat G w) (kk p e R s m args below meth c X H locs cells slots mc ms lsr Qs hP hS h1 h2 h3 h4 hL hE)
theorem zk_dup_x2 {v w u : zk_V} (hd : decode M.2.1 pc = .ok (.dup_x2, 1)) (kk : zk_W G M d kc ks (pc + 1) ls (v :: w :: u :: v :: st) h Q) : zk_W G M d kc ks pc ls (v :: w :: u :: st) h Q := by
  intro p e R s m args below meth c X H locs cells slots mc ms lsr Qs hP hS h1 h2 h3 h4 hL hE
  exact lv_dup_x2 X.1 X.2.1 hd (zk_rv_cat G v) (zk_rv_cat G w) (zk_rv_cat G u) (kk p e R s m args below meth c X H locs cells slots mc ms lsr Qs hP hS h1 h2 h3 h4 hL hE)
theorem zk_dup2 {v w : zk_V} (hd : decode M.2.1 pc = .ok (.dup2, 1)) (kk : zk_W G M d kc ks (pc + 1) ls (v :: w :: v :: w :: st) h Q) : zk_W G M d kc ks pc ls (v :: w :: st) h Q := by
  intro p e R s m args below meth c X H locs cells slots mc ms lsr Qs hP hS h1 h2 h3 h4 hL hE
  exact lv_dup2_11 X.1 X.2.1 hd (zk_rv_cat G v) (zk_rv_cat G w) (kk p e R s m args below meth c X H locs cells slots mc ms lsr Qs hP hS h1 h2 h3 h4 hL hE)
theorem zk_if_eq {x : Int} {off : Int} {tgt : Nat} (hd : decode M.2.1 pc = .ok (.ifCond .eq off, 3)) (ht : (pc : Int) + off = (tgt : Int)) (hx : zk_rg x) (kt : x = 0 → zk_W G M d kc ks tgt ls st h Q) (kf : x ≠ 0 → zk_W G M d kc ks (pc + 3) ls st h Q) : zk_W G M d kc ks pc ls (.inl x :: st) h Q := by
  intro p e R s m args below meth c X H locs cells slots mc ms lsr Qs hP hS h1 h2 h3 h4 hL hE
  exact lv_if_eq (x := Int32.ofInt x) (rest := st.map (zk_rv G)) X.1 X.2.1 hd ht (fun q => (kt ((zk_eq hx zk_rg0).mp q) p e R s m args below meth c X H locs cells slots mc ms lsr Qs hP hS h1 h2 h3 h4 hL hE)) (fun q => (kf (fun z => q ((zk_eq hx zk_rg0).mpr z)) p e R s m args below meth c X H locs cells slots mc ms lsr Qs hP hS h1 h2 h3 h4 hL hE))
theorem zk_icmp_eq {x y : Int} {off : Int} {tgt : Nat} (hd : decode M.2.1 pc = .ok (.if_icmp .eq off, 3)) (ht : (pc : Int) + off = (tgt : Int)) (hx : zk_rg x) (hy : zk_rg y) (kt : x = y → zk_W G M d kc ks tgt ls st h Q) (kf : x ≠ y → zk_W G M d kc ks (pc + 3) ls st h Q) : zk_W G M d kc ks pc ls (.inl y :: .inl x :: st) h Q := by
  intro p e R s m args below meth c X H locs cells slots mc ms lsr Qs hP hS h1 h2 h3 h4 hL hE
  exact lv_icmp_eq (x := Int32.ofInt x) (y := Int32.ofInt y) (rest := st.map (zk_rv G)) X.1 X.2.1 hd ht (fun q => (kt ((zk_eq hx hy).mp q) p e R s m args below meth c X H locs cells slots mc ms lsr Qs hP hS h1 h2 h3 h4 hL hE)) (fun q => (kf (fun z => q ((zk_eq hx hy).mpr z)) p e R s m args below meth c X H locs cells slots mc ms lsr Qs hP hS h1 h2 h3 h4 hL hE))
theorem zk_if_ne {x : Int} {off : Int} {tgt : Nat} (hd : decode M.2.1 pc = .ok (.ifCond .ne off, 3)) (ht : (pc : Int) + off = (tgt : Int)) (hx : zk_rg x) (kt : x ≠ 0 → zk_W G M d kc ks tgt ls st h Q) (kf : x = 0 → zk_W G M d kc ks (pc + 3) ls st h Q) : zk_W G M d kc ks pc ls (.inl x :: st) h Q := by
  intro p e R s m args below meth c X H locs cells slots mc ms lsr Qs hP hS h1 h2 h3 h4 hL hE
  exact lv_if_ne (x := Int32.ofInt x) (rest := st.map (zk_rv G)) X.1 X.2.1 hd ht (fun q => (kt (fun z => q ((zk_eq hx zk_rg0).mpr z)) p e R s m args below meth c X H locs cells slots mc ms lsr Qs hP hS h1 h2 h3 h4 hL hE)) (fun q => (kf ((zk_eq hx zk_rg0).mp q) p e R s m args below meth c X H locs cells slots mc ms lsr Qs hP hS h1 h2 h3 h4 hL hE))
theorem zk_icmp_ne {x y : Int} {off : Int} {tgt : Nat} (hd : decode M.2.1 pc = .ok (.if_icmp .ne off, 3)) (ht : (pc : Int) + off = (tgt : Int)) (hx : zk_rg x) (hy : zk_rg y) (kt : x ≠ y → zk_W G M d kc ks tgt ls st h Q) (kf : x = y → zk_W G M d kc ks (pc + 3) ls st h Q) : zk_W G M d kc ks pc ls (.inl y :: .inl x :: st) h Q := by
  intro p e R s m args below meth c X H locs cells slots mc ms lsr Qs hP hS h1 h2 h3 h4 hL hE
  exact lv_icmp_ne (x := Int32.ofInt x) (y := Int32.ofInt y) (rest := st.map (zk_rv G)) X.1 X.2.1 hd ht (fun q => (kt (fun z => q ((zk_eq hx hy).mpr z)) p e R s m args below meth c X H locs cells slots mc ms lsr Qs hP hS h1 h2 h3 h4 hL hE)) (fun q => (kf ((zk_eq hx hy).mp q) p e R s m args below meth c X H locs cells slots mc ms lsr Qs hP hS h1 h2 h3 h4 hL hE))
theorem zk_if_lt {x : Int} {off : Int} {tgt : Nat} (hd : decode M.2.1 pc = .ok (.ifCond .lt off, 3)) (ht : (pc : Int) + off = (tgt : Int)) (hx : zk_rg x) (kt : x < 0 → zk_W G M d kc ks tgt ls st h Q) (kf : 0 ≤ x → zk_W G M d kc ks (pc + 3) ls st h Q) : zk_W G M d kc ks pc ls (.inl x :: st) h Q := by
  intro p e R s m args below meth c X H locs cells slots mc ms lsr Qs hP hS h1 h2 h3 h4 hL hE
  exact lv_if_lt (x := Int32.ofInt x) (rest := st.map (zk_rv G)) X.1 X.2.1 hd ht (fun q => (kt ((zk_lt hx zk_rg0).mp q) p e R s m args below meth c X H locs cells slots mc ms lsr Qs hP hS h1 h2 h3 h4 hL hE)) (fun q => (kf (Int.not_lt.mp (fun z => q ((zk_lt hx zk_rg0).mpr z))) p e R s m args below meth c X H locs cells slots mc ms lsr Qs hP hS h1 h2 h3 h4 hL hE))
theorem zk_icmp_lt {x y : Int} {off : Int} {tgt : Nat} (hd : decode M.2.1 pc = .ok (.if_icmp .lt off, 3)) (ht : (pc : Int) + off = (tgt : Int)) (hx : zk_rg x) (hy : zk_rg y) (kt : x < y → zk_W G M d kc ks tgt ls st h Q) (kf : y ≤ x → zk_W G M d kc ks (pc + 3) ls st h Q) : zk_W G M d kc ks pc ls (.inl y :: .inl x :: st) h Q := by
  intro p e R s m args below meth c X H locs cells slots mc ms lsr Qs hP hS h1 h2 h3 h4 hL hE
  exact lv_icmp_lt (x := Int32.ofInt x) (y := Int32.ofInt y) (rest := st.map (zk_rv G)) X.1 X.2.1 hd ht (fun q => (kt ((zk_lt hx hy).mp q) p e R s m args below meth c X H locs cells slots mc ms lsr Qs hP hS h1 h2 h3 h4 hL hE)) (fun q => (kf (Int.not_lt.mp (fun z => q ((zk_lt hx hy).mpr z))) p e R s m args below meth c X H locs cells slots mc ms lsr Qs hP hS h1 h2 h3 h4 hL hE))
theorem zk_if_ge {x : Int} {off : Int} {tgt : Nat} (hd : decode M.2.1 pc = .ok (.ifCond .ge off, 3)) (ht : (pc : Int) + off = (tgt : Int)) (hx : zk_rg x) (kt : 0 ≤ x → zk_W G M d kc ks tgt ls st h Q) (kf : x < 0 → zk_W G M d kc ks (pc + 3) ls st h Q) : zk_W G M d kc ks pc ls (.inl x :: st) h Q := by
  intro p e R s m args below meth c X H locs cells slots mc ms lsr Qs hP hS h1 h2 h3 h4 hL hE
  exact lv_if_ge (x := Int32.ofInt x) (rest := st.map (zk_rv G)) X.1 X.2.1 hd ht (fun q => (kt ((zk_le zk_rg0 hx).mp q) p e R s m args below meth c X H locs cells slots mc ms lsr Qs hP hS h1 h2 h3 h4 hL hE)) (fun q => (kf (Int.not_le.mp (fun z => q ((zk_le zk_rg0 hx).mpr z))) p e R s m args below meth c X H locs cells slots mc ms lsr Qs hP hS h1 h2 h3 h4 hL hE))
theorem zk_icmp_ge {x y : Int} {off : Int} {tgt : Nat} (hd : decode M.2.1 pc = .ok (.if_icmp .ge off, 3)) (ht : (pc : Int) + off = (tgt : Int)) (hx : zk_rg x) (hy : zk_rg y) (kt : y ≤ x → zk_W G M d kc ks tgt ls st h Q) (kf : x < y → zk_W G M d kc ks (pc + 3) ls st h Q) : zk_W G M d kc ks pc ls (.inl y :: .inl x :: st) h Q := by
  intro p e R s m args below meth c X H locs cells slots mc ms lsr Qs hP hS h1 h2 h3 h4 hL hE
  exact lv_icmp_ge (x := Int32.ofInt x) (y := Int32.ofInt y) (rest := st.map (zk_rv G)) X.1 X.2.1 hd ht (fun q => (kt ((zk_le hy hx).mp q) p e R s m args below meth c X H locs cells slots mc ms lsr Qs hP hS h1 h2 h3 h4 hL hE)) (fun q => (kf (Int.not_le.mp (fun z => q ((zk_le hy hx).mpr z))) p e R s m args below meth c X H locs cells slots mc ms lsr Qs hP hS h1 h2 h3 h4 hL hE))
theorem zk_if_gt {x : Int} {off : Int} {tgt : Nat} (hd : decode M.2.1 pc = .ok (.ifCond .gt off, 3)) (ht : (pc : Int) + off = (tgt : Int)) (hx : zk_rg x) (kt : 0 < x → zk_W G M d kc ks tgt ls st h Q) (kf : x ≤ 0 → zk_W G M d kc ks (pc + 3) ls st h Q) : zk_W G M d kc ks pc ls (.inl x :: st) h Q := by
  intro p e R s m args below meth c X H locs cells slots mc ms lsr Qs hP hS h1 h2 h3 h4 hL hE
  exact lv_if_gt (x := Int32.ofInt x) (rest := st.map (zk_rv G)) X.1 X.2.1 hd ht (fun q => (kt ((zk_lt zk_rg0 hx).mp q) p e R s m args below meth c X H locs cells slots mc ms lsr Qs hP hS h1 h2 h3 h4 hL hE)) (fun q => (kf (Int.not_lt.mp (fun z => q ((zk_lt zk_rg0 hx).mpr z))) p e R s m args below meth c X H locs cells slots mc ms lsr Qs hP hS h1 h2 h3 h4 hL hE))
theorem zk_icmp_gt {x y : Int} {off : Int} {tgt : Nat} (hd : decode M.2.1 pc = .ok (.if_icmp .gt off, 3)) (ht : (pc : Int) + off = (tgt : Int)) (hx : zk_rg x) (hy : zk_rg y) (kt : y < x → zk_W G M d kc ks tgt ls st h Q) (kf : x ≤ y → zk_W G M d kc ks (pc + 3) ls st h Q) : zk_W G M d kc ks pc ls (.inl y :: .inl x :: st) h Q := by
  intro p e R s m args below meth c X H locs cells slots mc ms lsr Qs hP hS h1 h2 h3 h4 hL hE
  exact lv_icmp_gt (x := Int32.ofInt x) (y := Int32.ofInt y) (rest := st.map (zk_rv G)) X.1 X.2.1 hd ht (fun q => (kt ((zk_lt hy hx).mp q) p e R s m args below meth c X H locs cells slots mc ms lsr Qs hP hS h1 h2 h3 h4 hL hE)) (fun q => (kf (Int.not_lt.mp (fun z => q ((zk_lt hy hx).mpr z))) p e R s m args below meth c X H locs cells slots mc ms lsr Qs hP hS h1 h2 h3 h4 hL hE))
theorem zk_if_le {x : Int} {off : Int} {tgt : Nat} (hd : decode M.2.1 pc = .ok (.ifCond .le off, 3)) (ht : (pc : Int) + off = (tgt : Int)) (hx : zk_rg x) (kt : x ≤ 0 → zk_W G M d kc ks tgt ls st h Q) (kf : 0 < x → zk_W G M d kc ks (pc + 3) ls st h Q) : zk_W G M d kc ks pc ls (.inl x :: st) h Q := by
  intro p e R s m args below meth c X H locs cells slots mc ms lsr Qs hP hS h1 h2 h3 h4 hL hE
  exact lv_if_le (x := Int32.ofInt x) (rest := st.map (zk_rv G)) X.1 X.2.1 hd ht (fun q => (kt ((zk_le hx zk_rg0).mp q) p e R s m args below meth c X H locs cells slots mc ms lsr Qs hP hS h1 h2 h3 h4 hL hE)) (fun q => (kf (Int.not_le.mp (fun z => q ((zk_le hx zk_rg0).mpr z))) p e R s m args below meth c X H locs cells slots mc ms lsr Qs hP hS h1 h2 h3 h4 hL hE))
theorem zk_icmp_le {x y : Int} {off : Int} {tgt : Nat} (hd : decode M.2.1 pc = .ok (.if_icmp .le off, 3)) (ht : (pc : Int) + off = (tgt : Int)) (hx : zk_rg x) (hy : zk_rg y) (kt : x ≤ y → zk_W G M d kc ks tgt ls st h Q) (kf : y < x → zk_W G M d kc ks (pc + 3) ls st h Q) : zk_W G M d kc ks pc ls (.inl y :: .inl x :: st) h Q := by
  intro p e R s m args below meth c X H locs cells slots mc ms lsr Qs hP hS h1 h2 h3 h4 hL hE
  exact lv_icmp_le (x := Int32.ofInt x) (y := Int32.ofInt y) (rest := st.map (zk_rv G)) X.1 X.2.1 hd ht (fun q => (kt ((zk_le hx hy).mp q) p e R s m args below meth c X H locs cells slots mc ms lsr Qs hP hS h1 h2 h3 h4 hL hE)) (fun q => (kf (Int.not_le.mp (fun z => q ((zk_le hx hy).mpr z))) p e R s m args below meth c X H locs cells slots mc ms lsr Qs hP hS h1 h2 h3 h4 hL hE))
theorem zk_goto {off : Int} {tgt : Nat} (hd : decode M.2.1 pc = .ok (.goto off, 3)) (ht : (pc : Int) + off = (tgt : Int)) (kk : zk_W G M d kc ks tgt ls st h Q) : zk_W G M d kc ks pc ls st h Q := by
  intro p e R s m args below meth c X H locs cells slots mc ms lsr Qs hP hS h1 h2 h3 h4 hL hE
  exact lv_goto X.1 X.2.1 hd ht (kk p e R s m args below meth c X H locs cells slots mc ms lsr Qs hP hS h1 h2 h3 h4 hL hE)
theorem zk_tableOut {x : Int} {dflt lo hi : Int} {offs : Array Int} {len tgt : Nat} (hd : decode M.2.1 pc = .ok (.tableswitch dflt lo hi offs, len)) (hx : zk_rg x) (ho : x < lo ∨ hi < x) (ht : (pc : Int) + dflt = (tgt : Int)) (kk : zk_W G M d kc ks tgt ls st h Q) : zk_W G M d kc ks pc ls (.inl x :: st) h Q := by
  intro p e R s m args below meth c X H locs cells slots mc ms lsr Qs hP hS h1 h2 h3 h4 hL hE
  exact lv_tableOut (x := Int32.ofInt x) (rest := st.map (zk_rv G)) X.1 X.2.1 hd (by rw [zk_ti hx]; exact ho) ht (kk p e R s m args below meth c X H locs cells slots mc ms lsr Qs hP hS h1 h2 h3 h4 hL hE)
theorem zk_tableIn {x : Int} {dflt lo hi off : Int} {offs : Array Int} {len tgt : Nat} (hd : decode M.2.1 pc = .ok (.tableswitch dflt lo hi offs, len)) (hx : zk_rg x) (hlo : lo ≤ x) (hhi : x ≤ hi) (ho : offs[(x - lo).toNat]? = some off) (ht : (pc : Int) + off = (tgt : Int)) (kk : zk_W G M d kc ks tgt ls st h Q) : zk_W G M d kc ks pc ls (.inl x :: st) h Q := by
  intro p e R s m args below meth c X H locs cells slots mc ms lsr Qs hP hS h1 h2 h3 h4 hL hE
  exact lv_tableIn (x := Int32.ofInt x) (rest := st.map (zk_rv G)) X.1 X.2.1 hd (by rw [zk_ti hx]; omega) (by rw [zk_ti hx]; omega) (by rw [zk_ti hx]; exact ho) ht (kk p e R s m args below meth c X H locs cells slots mc ms lsr Qs hP hS h1 h2 h3 h4 hL hE)
theorem zk_lookup {x : Int} {dflt off : Int} {ps : Array (Int × Int)} {len tgt : Nat} (hd : decode M.2.1 pc = .ok (.lookupswitch dflt ps, len)) (hp : (ps.toList.zip (ps.toList.drop 1)).all (fun (a, next) => a.1 < next.1) = true) (hx : zk_rg x) (ho : Op.lookupswitch.offset ps.toList dflt x = off) (ht : (pc : Int) + off = (tgt : Int)) (kk : zk_W G M d kc ks tgt ls st h Q) : zk_W G M d kc ks pc ls (.inl x :: st) h Q := by
  intro p e R s m args below meth c X H locs cells slots mc ms lsr Qs hP hS h1 h2 h3 h4 hL hE
  exact lv_lookup (x := Int32.ofInt x) (rest := st.map (zk_rv G)) X.1 X.2.1 hd hp (by rw [zk_ti hx]; exact ho) ht (kk p e R s m args below meth c X H locs cells slots mc ms lsr Qs hP hS h1 h2 h3 h4 hL hE)
theorem zk_ret (hd : decode M.2.1 pc = .ok (.return_, 1)) (hr : M.2.2.2 = none) (hq : Q none h) : zk_W G M d kc ks pc ls [] h Q := by
  intro p e R s m args below meth c X H locs cells slots mc ms lsr Qs hP hS h1 h2 h3 h4 hL hE
  exact W.widen (Nat.le_trans (Nat.le_add_right _ _) h1) (Nat.le_trans (Nat.le_add_right _ _) h2) (hE none h H locs pc lsr hq hP hS ⟨hr, hd⟩)
theorem zk_iret {z : Int} (hd : decode M.2.1 pc = .ok (.ireturn, 1)) (hr : M.2.2.2 = some .int) (hq : Q (some (.inl z)) h) : zk_W G M d kc ks pc ls [.inl z] h Q := by
  intro p e R s m args below meth c X H locs cells slots mc ms lsr Qs hP hS h1 h2 h3 h4 hL hE
  exact W.widen (Nat.le_trans (Nat.le_add_right _ _) h1) (Nat.le_trans (Nat.le_add_right _ _) h2) (hE (some (.inl z)) h H locs pc lsr hq hP hS ⟨hd, .int, hr, rfl⟩)
theorem zk_zret {z : Int} (hd : decode M.2.1 pc = .ok (.ireturn, 1)) (hr : M.2.2.2 = some .boolean) (hz : z = 0 ∨ z = 1) (hq : Q (some (.inl z)) h) : zk_W G M d kc ks pc ls [.inl z] h Q := by
  intro p e R s m args below meth c X H locs cells slots mc ms lsr Qs hP hS h1 h2 h3 h4 hL hE
  exact W.widen (Nat.le_trans (Nat.le_add_right _ _) h1) (Nat.le_trans (Nat.le_add_right _ _) h2) (hE (some (.inl z)) h H locs pc lsr hq hP hS ⟨hd, .boolean, hr, by rcases hz with rfl | rfl <;> rfl⟩)
theorem zk_aret {r : Option Nat} {rt : FieldType} (hd : decode M.2.1 pc = .ok (.areturn, 1)) (hr : M.2.2.2 = some rt) (ht : (∃ n, rt = .object n) ∨ ∃ t, rt = .array t) (hq : Q (some (.inr r)) h) : zk_W G M d kc ks pc ls [.inr r] h Q := by
  intro p e R s m args below meth c X H locs cells slots mc ms lsr Qs hP hS h1 h2 h3 h4 hL hE
  exact W.widen (Nat.le_trans (Nat.le_add_right _ _) h1) (Nat.le_trans (Nat.le_add_right _ _) h2) (hE (some (.inr r)) h H locs pc lsr hq hP hS ⟨hd, rt, hr, ht⟩)
end ZkRows
end
section
/-! rows of the heap, calls, entry -/
/-- a field: own's link number index is slot j of class ci, of type ty -/
def zk_F (own : String) (index ci j : Nat) (ty : FieldType) (fin : Bool) : Prop :=
  ∃ (C : String) (T : u_T) (N : Nat) (ty0 : Nat → FieldType), vwCl[ci]? = some (C, T, N) ∧ (∀ w ∈ u_ws C T N, w ∈ zk_T) ∧ (∀ k, k < N → parseFieldDescriptor (T k).2.2.1 = some (ty0 k)) ∧ (∀ a, a < N → ∀ b, b < N → a ≠ b → (T a).2.1 ≠ (T b).2.1) ∧ j < N ∧ ty0 j = ty ∧ (T j).2.2.2 = fin ∧ (fin = true → (T j).1 = own) ∧
    (Cond.fieldLink own index (T j).1 (T j).2.1 (T j).2.2.1 ∈ zk_T ∨ ∃ host, (own, index, (T j).1, (T j).2.1, (T j).2.2.1, host) ∈ zk_NF)
/-- a class that can be made: own's link number index is class ci of N slots, at first fs -/
def zk_O (own : String) (index ci N : Nat) (fs : List zk_V) : Prop :=
  ∃ (C : String) (T : u_T) (ty0 : Nat → FieldType), vwCl[ci]? = some (C, T, N) ∧ (∀ w ∈ u_ws C T N, w ∈ zk_T) ∧ (∀ k, k < N → parseFieldDescriptor (T k).2.2.1 = some (ty0 k)) ∧ Cond.classLink own index C ∈ zk_T ∧ Cond.instantiable C N ∈ zk_T ∧ Cond.initialized C ∈ zk_T ∧ ∀ (G : zk_G) (j : Nat), j < N → defaultValue (ty0 j) = vp_V (fs.map (zk_rv G)) j
/-- a call's link -/
def zk_B (own : String) (index : Nat) (M' : zk_M) (n : Nat) : Prop :=
  Cond.code M'.1 M'.2.1 M'.2.2.1 M'.2.2.2 ∈ zk_T ∧ Cond.initialized M'.1.cls ∈ zk_T ∧ (M'.1.cls ≠ "java/lang/invoke/MethodHandle" ∧ M'.1.cls ≠ "java/lang/invoke/VarHandle") ∧ (parseMethodDescriptor M'.1.desc).map (fun d => d.parameters.length) = some n ∧
    (Cond.methodLink own index M'.1 ∈ zk_T ∨ ∃ host, (own, index, M'.1, host) ∈ zk_NM)
def zk_BV (own : String) (index ci : Nat) (M' : zk_M) (n : Nat) : Prop := zk_B own index M' n ∧ Cond.instanceMethod M'.1 ∈ zk_T ∧ Cond.selects M'.1.cls M'.1 M'.1 ∈ zk_T ∧ ∃ (T : u_T) (N : Nat), vwCl[ci]? = some (M'.1.cls, T, N)
def zk_BS (own : String) (index : Nat) (M' : zk_M) (n : Nat) : Prop := zk_B own index M' n ∧ Cond.static M'.1 ∈ zk_T
def zk_BI (own : String) (index : Nat) (M' : zk_M) (n : Nat) : Prop := zk_B own index M' n ∧ Cond.instanceMethod M'.1 ∈ zk_T ∧ M'.1.name = "<init>" ∧ M'.2.2.2 = none
def zk_up (f : Nat → Int) (k : Nat) (x : Int) : Nat → Int := fun j => if j = k then x else f j
theorem zk_one {D : va_G} {cl : List vw_C} {q : Nat × va_E} {H : Heap} (h : va_at D cl q H) : va_P D cl [q] H := by
  intro k x hx
  have hz : k < 1 := (List.getElem?_eq_some_iff.mp hx).1
  rw [show k = 0 by omega] at hx
  cases hx
  exact h
section ZkHeap
variable {G : zk_G} {M : zk_M} {d : Nat × Nat} {kc ks pc : Nat} {ls : List (Option zk_V)} {st : List zk_V} {h : zk_H} {Q : Option zk_V → zk_H → Prop}
theorem zk_get {k ci j index : Nat} {fs : List zk_V} {ty : FieldType} {fin : Bool} {v : zk_V} (hf : zk_F M.1.cls index ci j ty fin) (hd : decode M.2.1 pc = .ok (.getfield index, 3)) (hk : h[k]? = some (.inr (ci, fs))) (h0 : k ≠ 0) (hv : fs[j]? = some v) (kk : zk_W G M d kc ks (pc + 3) ls (v :: st) h Q) : zk_W G M d kc ks pc ls (.inr (some k) :: st) h Q := by
  intro p e R s m args below meth c X H locs cells slots mc ms lsr Qs hP hS h1 h2 h3 h4 hL hE
  obtain ⟨C, T, N, ty0, hc, hin, hty, hnm, hj, -, -, -, hl⟩ := hf
  have hw := zk_one (hP.at hk h0)
  have hv' : (fs.map (zk_rv G))[j]? = some (zk_rv G v) := by rw [List.getElem?_map, hv]; rfl
  rcases hl with hl | ⟨host, hl⟩
  · exact va_get (rest := st.map (zk_rv G)) X.1 X.2.1 X.2.2.2.2.2.2.2.1 hin X.2.2.2.2.2.1 X.2.2.2.2.2.2.2.2.1 hw 0 rfl hc j hj (X.2.2.2.2.2.2.2.1 _ hl) (fun _ h9 => h9) hv' hd (kk p e R s m args below meth c X H locs cells slots mc ms lsr Qs hP hS h1 h2 h3 h4 hL hE)
  · exact va_getN (rest := st.map (zk_rv G)) X.1 X.2.1 X.2.2.2.2.2.2.2.1 hin X.2.2.2.2.2.1 X.2.2.2.2.2.2.2.2.1 hw 0 rfl hc j hj (va_Nw.use rfl (X.2.2.2.2.2.2.2.2.2.2.2.2.2.2.2.1 _ hl)) (fun _ h9 => h9) hv' hd (kk p e R s m args below meth c X H locs cells slots mc ms lsr Qs hP hS h1 h2 h3 h4 hL hE)
theorem zk_put {k ci j index : Nat} {fs : List zk_V} {ty : FieldType} {v : zk_V} {h' : zk_H} (hf : zk_F M.1.cls index ci j ty false) (hd : decode M.2.1 pc = .ok (.putfield index, 3)) (hk : h[k]? = some (.inr (ci, fs))) (h0 : k ≠ 0) (hj2 : j < fs.length) (hn : narrow ty (zk_rv G v) = zk_rv G v) (hfit : fits ty (zk_rv G v) = true) (hh : h.set k (.inr (ci, fs.set j v)) = h') (kk : zk_W G M d kc ks (pc + 3) ls st h' Q) : zk_W G M d kc ks pc ls (v :: .inr (some k) :: st) h Q := by
  intro p e R s m args below meth c X H locs cells slots mc ms lsr Qs hP hS h1 h2 h3 h4 hL hE
  subst hh
  obtain ⟨C, T, N, ty0, hc, hin, hty, hnm, hj, hty1, hfin, -, hl⟩ := hf
  have hts := X.2.2.2.2.2.2.2.1
  have hK := X.2.2.2.2.2.2.2.2.1
  have hap := va_apart (own := M.1.cls) hts hin ty0 hty hnm hK hc
  obtain ⟨r, g1, cell, q1, q2, q3, q4⟩ := hP.at hk h0
  have hr : r = (C, T, N) := Option.some.inj (g1.symm.trans hc)
  subst hr
  obtain ⟨hS', hfc, kC, hkC, hkind⟩ := hK.1 ci _ hc
  obtain ⟨cf, kf, fi, f, hi, hsl⟩ := hS' j hj
  have hlay := hts _ (hin _ (u_in_lay hj))
  unfold u_lay at hlay
  rw [if_neg (by rw [hfin]; decide)] at hlay
  have hst := (u_facts hfc hkC (u_lays hts hin hj) hi).1
  have h6 := u_store hfc hkC hkind hlay hi (hty j hj) (by rw [hty1]; exact hn) (by rw [hty1]; exact hfit)
  have fin : ∀ H' : Heap, H'[zk_ad G k]? = some (cell.setSlot f.slot (zk_rv G v)) → H'.size = H.size → (∀ q, q ≠ zk_ad G k → H'[q]? = H[q]?) → W p (zk_gl G) e R s m args below meth c H' (locs ++ [⟨zk_ad G k, f.slot⟩]) cells slots Qs (F0 m (pc + 3) lsr (st.map (zk_rv G))) := by
    intro H' e1 e2 e3
    rw [hsl] at e1 ⊢
    refine kk p e R s m args below meth c X H' _ cells slots mc ms lsr Qs (hP.put hk h0 ?_ e2 e3) (hS.put e2 e3 (zk_ad_ge h0)) h1 h2 h3 h4 hL hE
    refine ⟨_, hc, t_OB.to (V := updV (vp_V (fs.map (zk_rv G))) j (zk_rv G v)) ⟨_, e1, q2, q3, t_set q4 hap hj (zk_rv G v)⟩ (fun i _ => ?_)⟩
    show _ = vp_V ((fs.set j v).map (zk_rv G)) i
    rw [List.map_set]
    exact vp_updV_set (by simpa using hj2) (zk_rv G v) i
  rcases hl with hl | ⟨host, hl⟩
  · exact W.putK X.1 X.2.1 (f := f) ⟨X.2.2.2.2.2.1, hts _ hl, ⟨_, _, _, hi⟩, hst⟩ (by rw [q2]; exact h6) q1 q3 (by rw [hsl]; exact k2_hasslot (q4 j hj)) (g := F0 m pc lsr (zk_rv G v :: .ref (zk_ad G k) :: st.map (zk_rv G))) rfl rfl hd fin
  · exact va_WputK X.1 X.2.1 (f := f) X.2.2.2.2.2.1 (va_Nw.use rfl (X.2.2.2.2.2.2.2.2.2.2.2.2.2.2.2.1 _ hl)) hi hst (by rw [q2]; exact h6) q1 q3 (by rw [hsl]; exact k2_hasslot (q4 j hj)) (g := F0 m pc lsr (zk_rv G v :: .ref (zk_ad G k) :: st.map (zk_rv G))) rfl rfl hd fin
/-- a final field, in a constructor -/
theorem zk_putF {k ci j index : Nat} {fs : List zk_V} {ty : FieldType} {v : zk_V} {h' : zk_H} (hf : zk_F M.1.cls index ci j ty true) (hin1 : M.1.name = "<init>") (hd : decode M.2.1 pc = .ok (.putfield index, 3)) (hk : h[k]? = some (.inr (ci, fs))) (h0 : k ≠ 0) (hj2 : j < fs.length) (hn : narrow ty (zk_rv G v) = zk_rv G v) (hfit : fits ty (zk_rv G v) = true) (hlk : ∀ (C : String) (T : u_T) (N : Nat), vwCl[ci]? = some (C, T, N) → Cond.fieldLink M.1.cls index (T j).1 (T j).2.1 (T j).2.2.1 ∈ zk_T) (hh : h.set k (.inr (ci, fs.set j v)) = h') (kk : zk_W G M d kc ks (pc + 3) ls st h' Q) : zk_W G M d kc ks pc ls (v :: .inr (some k) :: st) h Q := by
  intro p e R s m args below meth c X H locs cells slots mc ms lsr Qs hP hS h1 h2 h3 h4 hL hE
  subst hh
  obtain ⟨C, T, N, ty0, hc, hin, hty, hnm, hj, hty1, hfin, hdecl, -⟩ := hf
  have hl := hlk C T N hc
  have hdecl := hdecl rfl
  have hts := X.2.2.2.2.2.2.2.1
  have hK := X.2.2.2.2.2.2.2.2.1
  have hown := X.2.2.2.2.2.1
  have hap := va_apart (own := M.1.cls) hts hin ty0 hty hnm hK hc
  obtain ⟨r, g1, cell, q1, q2, q3, q4⟩ := hP.at hk h0
  have hr : r = (C, T, N) := Option.some.inj (g1.symm.trans hc)
  subst hr
  obtain ⟨hS', hfc, kC, hkC, hkind⟩ := hK.1 ci _ hc
  obtain ⟨cf, kf, fi, f, hi, hsl⟩ := hS' j hj
  have hlay := hts _ (hin _ (u_in_lay hj))
  unfold u_lay at hlay
  rw [if_pos hfin] at hlay
  have hst := (u_facts hfc hkC (u_lays hts hin hj) hi).1
  have hcf : m.cls = cf := by
    obtain ⟨_, _, c', _, _, _, -, -, hf', -, -, -, hown2, -⟩ := Cond.laysFinal_spec hlay
    have e1 : c' = cf := by have := hi.symm.trans hf'; simp at this; exact this.1.symm
    rw [hdecl] at hown2
    rw [← e1]; exact Option.some.inj (hown.symm.trans hown2)
  have h6 := u_fits hfc hkC hkind (Or.inr hlay) hi (hty j hj) (by rw [hty1]; exact hn) (by rw [hty1]; exact hfit)
  refine W.putFinK X.1 X.2.1 hown (hts _ hl) hi hst hcf (X.2.2.2.2.2.2.1.trans hin1) (by rw [q2]; exact h6) q1 q3 (by rw [hsl]; exact k2_hasslot (q4 j hj)) (g := F0 m pc lsr (zk_rv G v :: .ref (zk_ad G k) :: st.map (zk_rv G))) rfl rfl hd fun H' e1 e2 e3 => ?_
  rw [hsl] at e1 ⊢
  refine kk p e R s m args below meth c X H' _ cells slots mc ms lsr Qs (hP.put hk h0 ?_ e2 e3) (hS.put e2 e3 (zk_ad_ge h0)) h1 h2 h3 h4 hL hE
  refine ⟨_, hc, t_OB.to (V := updV (vp_V (fs.map (zk_rv G))) j (zk_rv G v)) ⟨_, e1, q2, q3, t_set q4 hap hj (zk_rv G v)⟩ (fun i _ => ?_)⟩
  show _ = vp_V ((fs.set j v).map (zk_rv G)) i
  rw [List.map_set]
  exact vp_updV_set (by simpa using hj2) (zk_rv G v) i
/-- an array is read: the script too -/
theorem zk_iald {k n : Nat} {f : Nat → Int} {i : Int} (hd : decode M.2.1 pc = .ok (.iaload, 1)) (hk : h[k]? = some (.inl (n, f))) (hi0 : 0 ≤ i) (hin : i < n) (hi : i < 2147483648) (kk : zk_W G M d kc ks (pc + 1) ls (.inl (f i.toNat) :: st) h Q) : zk_W G M d kc ks pc ls (.inl i :: .inr (some k) :: st) h Q := by
  intro p e R s m args below meth c X H locs cells slots mc ms lsr Qs hP hS h1 h2 h3 h4 hL hE
  have K := kk p e R s m args below meth c X H locs cells slots mc ms lsr Qs hP hS h1 h2 h3 h4 hL hE
  by_cases h0 : k = 0
  · subst h0
    have h5 := Option.some.inj (hk.symm.trans hP.2.1)
    cases h5
    have hlt : zk_gb G < s.heap.size := Nat.lt_of_lt_of_le X.2.2.2.2.2.2.2.2.2.2.1 X.2.2.2.2.2.2.2.2.2.2.2.1
    refine va_sld (rest := st.map (zk_rv G)) X.1 X.2.1 X.2.2.2.2.2.2.2.2.2.1 hlt (A := zk_A G) (Nat.not_le.mpr X.2.2.2.2.2.2.2.2.2.2.1) hS (zk_vin hi0 hin hi) hd ?_
    rw [zk_cl hi0 hi]
    have K' : W p (zk_gl G) e R s m args below meth c H locs cells slots Qs (F0 m (pc + 1) lsr (.int (Int32.ofInt (zk_gX G i.toNat).toInt) :: st.map (zk_rv G))) := K
    rw [Int32.ofInt_toInt] at K'
    exact K'
  · refine va_iald (cl := vwCl) (D := zk_gD G) (rest := st.map (zk_rv G)) (f := fun j => Int32.ofInt (f j)) X.1 X.2.1 X.2.2.2.2.2.2.2.2.1 (zk_one (hP.at hk h0)) 0 0 rfl rfl (zk_vin hi0 hin hi) hd ?_
    rw [zk_cl hi0 hi]
    exact K
theorem zk_iast {k n : Nat} {f : Nat → Int} {i x : Int} {h' : zk_H} (hd : decode M.2.1 pc = .ok (.iastore, 1)) (hk : h[k]? = some (.inl (n, f))) (h0 : k ≠ 0) (hi0 : 0 ≤ i) (hin : i < n) (hi : i < 2147483648) (hh : h.set k (.inl (n, zk_up f i.toNat x)) = h') (kk : zk_W G M d kc ks (pc + 1) ls st h' Q) : zk_W G M d kc ks pc ls (.inl x :: .inl i :: .inr (some k) :: st) h Q := by
  intro p e R s m args below meth c X H locs cells slots mc ms lsr Qs hP hS h1 h2 h3 h4 hL hE
  subst hh
  have hK := X.2.2.2.2.2.2.2.2.1
  have hA : H[zk_ad G k]? = some (vp_cell (zk_gI G) (n, .inl (fun j => Int32.ofInt (f j)))) := hP.at hk h0
  refine W.iast X.1 X.2.1 hA ((hK.2 0 _ rfl).1 n (fun j => .int (Int32.ofInt (f j)))) (fun q => by cases q) (by show ¬ (Int32.ofInt i < 0 ∨ (arrV _ _ _).slots.size ≤ _); rw [arrV_size]; exact zk_vin hi0 hin hi) (g := F0 m pc lsr (.int (Int32.ofInt x) :: .int (Int32.ofInt i) :: .ref (zk_ad G k) :: st.map (zk_rv G))) rfl rfl hd fun H1 e1 z oq => ?_
  refine kk p e R s m args below meth c X H1 _ cells slots mc ms lsr Qs (hP.put hk h0 ?_ z oq) (hS.put z oq (zk_ad_ge h0)) h1 h2 h3 h4 hL hE
  show H1[zk_ad G k]? = some (vp_cell _ _)
  rw [e1]
  rw [vp_cell_i, vp_cell_i, arrV_store]
  congr 2
  funext q
  rw [zk_cl hi0 hi]
  by_cases hq : q = i.toNat
  · simp [updV, zk_up, hq]
  · simp [updV, zk_up, hq]
theorem zk_alen {k n : Nat} {f : Nat → Int} (hd : decode M.2.1 pc = .ok (.arraylength, 1)) (hk : h[k]? = some (.inl (n, f))) (kk : zk_W G M d kc ks (pc + 1) ls (.inl (n : Int) :: st) h Q) : zk_W G M d kc ks pc ls (.inr (some k) :: st) h Q := by
  intro p e R s m args below meth c X H locs cells slots mc ms lsr Qs hP hS h1 h2 h3 h4 hL hE
  have K : W p (zk_gl G) e R s m args below meth c H locs cells slots Qs (F0 m (pc + 1) lsr (.int (Int32.ofInt (n : Int)) :: st.map (zk_rv G))) := kk p e R s m args below meth c X H locs cells slots mc ms lsr Qs hP hS h1 h2 h3 h4 hL hE
  rw [Int32.ofInt_eq_ofNat] at K
  by_cases h0 : k = 0
  · subst h0
    have h5 := Option.some.inj (hk.symm.trans hP.2.1)
    cases h5
    have hlt : zk_gb G < s.heap.size := Nat.lt_of_lt_of_le X.2.2.2.2.2.2.2.2.2.2.1 X.2.2.2.2.2.2.2.2.2.2.2.1
    exact va_slen (rest := st.map (zk_rv G)) X.1 X.2.1 X.2.2.2.2.2.2.2.2.2.1 hlt (A := zk_A G) (Nat.not_le.mpr X.2.2.2.2.2.2.2.2.2.2.1) hS hd K
  · exact va_alen (cl := vwCl) (D := zk_gD G) (rest := st.map (zk_rv G)) (x := (n, .inl (fun j => Int32.ofInt (f j)))) X.1 X.2.1 X.2.2.2.2.2.2.2.2.1 (zk_one (hP.at hk h0)) 0 0 rfl rfl rfl hd K
/-- a new array of ints -/
theorem zk_newa {n : Int} {h' : zk_H} {kc' ks' : Nat} {atype : ArrayType} (hd : decode M.2.1 pc = .ok (.newarray atype, 2)) (ha : newarray.typeOf atype = .int) (hw : Cond.arrayClass .int ∈ zk_T) (hn0 : 0 ≤ n) (hn : n ≤ 134217728) (hkc : kc = kc' + 1) (hks : ks = ks' + n.toNat) (hh : h ++ [.inl (n.toNat, fun _ => 0)] = h') (kk : zk_W G M d kc' ks' (pc + 2) ls (.inr (some h.length) :: st) h' Q) : zk_W G M d kc ks pc ls (.inl n :: st) h Q := by
  intro p e R s m args below meth c X H locs cells slots mc ms lsr Qs hP hS h1 h2 h3 h4 hL hE
  subst hh
  subst hkc
  subst hks
  have hts := X.2.2.2.2.2.2.2.1
  have hK := X.2.2.2.2.2.2.2.2.1
  refine va_newaK (N := n.toNat) X.1 X.2.1 (by rw [ha]; exact hts _ hw) (g := F0 m pc lsr (.int (Int32.ofInt n) :: st.map (zk_rv G))) rfl hd rfl (by rw [zk_0, zk_lt ⟨by omega, by omega⟩ zk_rg0]; omega) (zk_cl hn0 (by omega)) (by rw [ha]; show n.toNat * 4 ≤ _; omega) (by omega) (by omega) rfl fun H1 cA e1 z1 o1 hAr hNm => ?_
  have hcA : cA = zk_gI G := by
    have h5 : s.vm.findClass ("[" ++ (FieldType.int).toString) = some (zk_gI G) := (hK.2 0 _ rfl).2
    rw [ha] at hNm
    exact Option.some.inj (hNm.symm.trans h5)
  subst hcA
  rw [ha] at e1
  have hc : va_at (zk_gD G) vwCl (H.size, zk_ce G (.inl (n.toNat, fun _ => 0))) H1 := by
    show H1[H.size]? = some (vp_cell _ _)
    rw [e1, vp_cell_i]
    rfl
  obtain ⟨hP1, hz⟩ := hP.push hc z1 o1
  have K := kk p e R s m args below meth c X H1 locs (cells + 1) (slots + n.toNat) mc ms lsr Qs hP1 (zk_Spush hS z1 o1) (by omega) (by omega) h3 h4 hL hE
  have K' : W p (zk_gl G) e R s m args below meth c H1 locs (cells + 1) (slots + n.toNat) Qs (F0 m (pc + 2) lsr (.ref (zk_ad G h.length) :: st.map (zk_rv G))) := K
  rw [← hz] at K'
  exact K'
/-- a new object -/
theorem zk_new {index ci N : Nat} {fs : List zk_V} {h' : zk_H} {kc' ks' : Nat} (ho : zk_O M.1.cls index ci N fs) (hd : decode M.2.1 pc = .ok (.new index, 3)) (hkc : kc = kc' + 1) (hks : ks = ks' + N) (hh : h ++ [.inr (ci, fs)] = h') (kk : zk_W G M d kc' ks' (pc + 3) ls (.inr (some h.length) :: st) h' Q) : zk_W G M d kc ks pc ls st h Q := by
  intro p e R s m args below meth c X H locs cells slots mc ms lsr Qs hP hS h1 h2 h3 h4 hL hE
  subst hh
  subst hkc
  subst hks
  obtain ⟨C, T, ty0, hc, hin, hty, hw1, hw2, hw3, hfs⟩ := ho
  have hts := X.2.2.2.2.2.2.2.1
  have hKn := X.2.2.2.2.2.2.2.2.1.1 ci _ hc
  refine W.newcK X.1 X.2.1 X.2.2.2.2.2.1 (hts _ hw1) (hts _ hw2) (hts _ hw3) (g := F0 m pc lsr (st.map (zk_rv G))) rfl hd (by omega) (by omega) hKn.2.1 rfl fun H1 kC hkC e1 z1 o1 => ?_
  have hcc : va_at (zk_gD G) vwCl (H.size, zk_ce G (.inr (ci, fs))) H1 := ⟨_, hc, (u_born ty0 hts hin hKn hkC e1 hty).to (hfs G)⟩
  obtain ⟨hP1, hz⟩ := hP.push hcc z1 o1
  have K := kk p e R s m args below meth c X H1 locs (cells + 1) (slots + N) mc ms lsr Qs hP1 (zk_Spush hS z1 o1) (by omega) (by omega) h3 h4 hL hE
  have K' : W p (zk_gl G) e R s m args below meth c H1 locs (cells + 1) (slots + N) Qs (F0 m (pc + 3) lsr (.ref (zk_ad G h.length) :: st.map (zk_rv G))) := K
  rw [← hz] at K'
  exact K'
theorem zk_oinit {k index : Nat} (hd : decode M.2.1 pc = .ok (.invokespecial index, 3)) (hw : Cond.methodLink M.1.cls index Lib.objectInit ∈ zk_T) (hw2 : Cond.instanceMethod Lib.objectInit ∈ zk_T) (hw3 : Cond.code Lib.objectInit ⟨#[0xb1]⟩ 1 none ∈ zk_T) (hdp : 1 ≤ d.1 ∧ st.length + 12 ≤ d.2) (kk : zk_W G M d kc ks (pc + 3) ls st h Q) : zk_W G M d kc ks pc ls (.inr (some k) :: st) h Q := by
  intro p e R s m args below meth c X H locs cells slots mc ms lsr Qs hP hS h1 h2 h3 h4 hL hE
  have hts := X.2.2.2.2.2.2.2.1
  have hf := X.2.2.2.2.2.2.2.2.2.2.2.2.1
  have hlo := X.2.2.2.2.2.2.2.2.2.2.2.2.2.1
  refine W.objInit X.1 X.2.1 X.2.2.2.2.2.1 (hts _ hw) (hts _ hw2) (hts _ hw3) (g := F0 m pc lsr (.ref (zk_ad G k) :: st.map (zk_rv G))) rfl (hL.1.trans X.2.2.2.2.1.symm) rfl hd (by omega) (by show 2 * 0 + _ + 12 ≤ _; rw [zk_cat_sum]; omega) ?_
  exact kk p e R s m args below meth c X H locs cells slots mc ms lsr Qs hP hS h1 h2 h3 h4 hL hE
theorem zk_mmin {x y : Int} {index : Nat} (hd : decode M.2.1 pc = .ok (.invokestatic index, 3)) (hw : Cond.methodLink M.1.cls index Lib.Math.min.name ∈ zk_T) (hw2 : Cond.static Lib.Math.min.name ∈ zk_T) (hw3 : Cond.initialized "java/lang/Math" ∈ zk_T) (hw4 : Cond.code Lib.Math.min.name Lib.Math.min.code 2 (some .int) ∈ zk_T) (hdp : 1 ≤ d.1 ∧ st.length + 13 ≤ d.2) (hx : zk_rg x) (hy : zk_rg y) (kk : zk_W G M d kc ks (pc + 3) ls (.inl (min x y) :: st) h Q) : zk_W G M d kc ks pc ls (.inl y :: .inl x :: st) h Q := by
  intro p e R s m args below meth c X H locs cells slots mc ms lsr Qs hP hS h1 h2 h3 h4 hL hE
  have hts := X.2.2.2.2.2.2.2.1
  have hf := X.2.2.2.2.2.2.2.2.2.2.2.2.1
  have hlo := X.2.2.2.2.2.2.2.2.2.2.2.2.2.1
  refine va_mmin (x := Int32.ofInt x) (y := Int32.ofInt y) (rest := st.map (zk_rv G)) X.1 X.2.1 (X.2.2.2.2.1.trans hL.1.symm) X.2.2.2.2.2.1 (hts _ hw) (hts _ hw2) (hts _ hw3) (hts _ hw4) (by omega) (by rw [zk_cat_sum]; omega) (by omega) (by omega) hd ?_
  rw [show (if Int32.ofInt y < Int32.ofInt x then Int32.ofInt y else Int32.ofInt x) = Int32.ofInt (min x y) by
    by_cases hh : y < x
    · rw [if_pos ((zk_lt hy hx).mpr hh)]; congr 1; omega
    · rw [if_neg (fun z => hh ((zk_lt hy hx).mp z))]; congr 1; omega]
  exact kk p e R s m args below meth c X H locs cells slots mc ms lsr Qs hP hS h1 h2 h3 h4 hL hE
theorem zk_mmax {x y : Int} {index : Nat} (hd : decode M.2.1 pc = .ok (.invokestatic index, 3)) (hw : Cond.methodLink M.1.cls index Lib.Math.max.name ∈ zk_T) (hw2 : Cond.static Lib.Math.max.name ∈ zk_T) (hw3 : Cond.initialized "java/lang/Math" ∈ zk_T) (hw4 : Cond.code Lib.Math.max.name Lib.Math.max.code 2 (some .int) ∈ zk_T) (hdp : 1 ≤ d.1 ∧ st.length + 13 ≤ d.2) (hx : zk_rg x) (hy : zk_rg y) (kk : zk_W G M d kc ks (pc + 3) ls (.inl (max x y) :: st) h Q) : zk_W G M d kc ks pc ls (.inl y :: .inl x :: st) h Q := by
  intro p e R s m args below meth c X H locs cells slots mc ms lsr Qs hP hS h1 h2 h3 h4 hL hE
  have hts := X.2.2.2.2.2.2.2.1
  have hf := X.2.2.2.2.2.2.2.2.2.2.2.2.1
  have hlo := X.2.2.2.2.2.2.2.2.2.2.2.2.2.1
  refine va_mmax (x := Int32.ofInt x) (y := Int32.ofInt y) (rest := st.map (zk_rv G)) X.1 X.2.1 (X.2.2.2.2.1.trans hL.1.symm) X.2.2.2.2.2.1 (hts _ hw) (hts _ hw2) (hts _ hw3) (hts _ hw4) (by omega) (by rw [zk_cat_sum]; omega) (by omega) (by omega) hd ?_
  rw [show (if Int32.ofInt x < Int32.ofInt y then Int32.ofInt y else Int32.ofInt x) = Int32.ofInt (max x y) by
    by_cases hh : x < y
    · rw [if_pos ((zk_lt hx hy).mpr hh)]; congr 1; omega
    · rw [if_neg (fun z => hh ((zk_lt hx hy).mp z))]; congr 1; omega]
  exact kk p e R s m args below meth c X H locs cells slots mc ms lsr Qs hP hS h1 h2 h3 h4 hL hE
end ZkHeap
/-! calls -/
theorem zk_goodIn {y : MethodName} {b : ByteArray} {n : Nat} {r : Option FieldType} (hc : Cond.code y b n r ∈ zk_T) : GoodIn zk_T (.code y b n r :: zk_T) := by
  intro w hw
  rcases List.mem_cons.mp hw with rfl | hw
  · exact ⟨hc, Or.inl rfl⟩
  · exact ⟨hw, good_of_word (zk_good w hw)⟩
theorem zk_Xk {G : zk_G} {s U : State} {H : Heap} {locs : List Loc} (hX : va_X (zk_gb G) (zk_gL G) (zk_gX G) s s.heap) (hb : zk_gb G < zk_gB G) (hB : zk_gB G ≤ s.heap.size) (hS : va_S (zk_A G) s.heap H locs) (hU : U.heap = H) (hvm : s.vm.Alike U.vm) : va_X (zk_gb G) (zk_gL G) (zk_gX G) U U.heap := by
  have h1 : U.heap[zk_gb G]? = s.heap[zk_gb G]? := by rw [hU]; exact hS.2.1 _ (Nat.lt_of_lt_of_le hb hB) (Nat.not_le.mpr hb)
  exact (hX.kept h1).moved hvm
theorem zk_Sat {G : zk_G} {M : zk_M} {d : Nat × Nat} {p : Program} {R : Room} {s : State} {m : MethodId} {args : Array Value} {meth : Method} {c : Code} {h : zk_H} {H : Heap} {locs : List Loc} (X : zk_X G M d p R s m args meth c) (hP : zk_P G h H) (hS : va_S (zk_A G) s.heap H locs) (U : State) (hU : U.heap = H) (hW : s.WarmedH U.vm) : zk_S G h U := by
  obtain ⟨-, -, -, -, -, -, -, -, hK, hX, hb, hB, -, -, hL, hN⟩ := X
  exact ⟨by rw [hU]; exact hP, va_K.moved hW.alike hK, zk_Xk hX hb hB hS hU hW.alike, hb, hL, hN.warm hW⟩
theorem zk_blind (G : zk_G) (h : zk_H) (av : List Value) : FrameBlind (va_Pc av (zk_S G h)) := by
  intro a U g mk q
  obtain ⟨q0, q1, q2, q3, q4, q5, q6⟩ := q
  exact ⟨q0, q1, va_K.moved (u := U) (U := U.calling g mk a) (Vm.Alike.refl U.vm) q2, va_X.moved (u := U) (U := U.calling g mk a) (Vm.Alike.refl U.vm) q3, q4, q5, q6.same rfl⟩
section ZkCalls
variable {G : zk_G} {M : zk_M} {d : Nat × Nat} {kc ks pc : Nat} {ls : List (Option zk_V)} {st : List zk_V} {h : zk_H} {Q : Option zk_V → zk_H → Prop}
variable {M' : zk_M} {d' : Nat × Nat} {mc' ms' kc' ks' index n : Nat} {av : List zk_V} {Q' : Option zk_V → zk_H → Prop}
theorem zk_run {p : Program} {e : Env} {R : Room} {s : State} {m : MethodId} {args : Array Value} {below : List Frame} {meth : Method} {c : Code} (X : zk_X G M d p R s m args meth c)
    {H : Heap} {locs : List Loc} {cells slots mc ms : Nat} {lsr : Array Slot} {Qs : State → Prop} {st0 : List Value} (hS : va_S (zk_A G) s.heap H locs) (h1 : cells + kc ≤ mc) (h2 : slots + ks ≤ ms) (h3 : mc ≤ R.cells) (h4 : ms ≤ R.slots) (hL : zk_L G lsr M.2.2.1 ls) (hE : zk_E G M p e R s m args below meth c mc ms Qs Q)
    (hkc : kc = mc' + kc') (hks : ks = ms' + ks')
    (hr : va_Run p (zk_gl G) e R s m args below meth c H locs cells slots mc' ms' (F0 m pc lsr st0) (st.map (zk_rv G)) (fun st oc t => (∃ (v : Option zk_V) (h' : zk_H), oc = .returned (v.map (zk_rv G)) ∧ Q' v h' ∧ zk_S G h' t) ∧ va_F (zk_A G) st t) (zk_A G))
    (kk : ∀ (v : Option zk_V) (h' : zk_H), Q' v h' → zk_W G M d kc' ks' (pc + 3) ls (v.toList ++ st) h' Q) : W p (zk_gl G) e R s m args below meth c H locs cells slots Qs (F0 m pc lsr st0) := by
  intro T hT XT
  obtain ⟨v, st₀, t, T', L, h0, X', hL', e1, e2, ⟨⟨v', h', hv, hq, hs'⟩, hz, hk⟩, stp⟩ := hr T hT XT
  rw [h0] at hz hk
  have hv' : v = v'.map (zk_rv G) := by injection hv
  subst hv'
  have K := kk v' h' hq p e R s m args below meth c X T'.heap (locs ++ L) (cells + mc') (slots + ms') mc ms lsr Qs (by rw [e1]; exact hs'.1)
    ⟨Nat.le_trans hS.1 (by rw [e1]; exact hz), fun q g1 g2 => by rw [e1, hk q (Nat.lt_of_lt_of_le g1 hS.1) g2]; exact hS.2.1 q g1 g2, fun q hq => by
      rcases List.mem_append.mp hq with g | g
      · exact hS.2.2 q g
      · exact hL' q g⟩ (by omega) (by omega) h3 h4 hL hE
  have hst : (v'.toList ++ st).map (zk_rv G) = (v'.map (zk_rv G)).toList ++ st.map (zk_rv G) := by cases v' <;> rfl
  rw [hst] at K
  obtain ⟨t2, a1, b1⟩ := K T' rfl X'
  exact ⟨t2, stp t2 a1, b1⟩
theorem zk_callV {k ci : Nat} {fs : List zk_V} {S0 : List zk_V} (hb : zk_BV M.1.cls index ci M' n) (hd : decode M.2.1 pc = .ok (.invokevirtual index, 3)) (hk : h[k]? = some (.inr (ci, fs))) (h0 : k ≠ 0) (hn : av.length = n) (hS0 : S0 = av.reverse ++ .inr (some k) :: st) (hst : st.length ≤ 8) (hdd : d'.1 + 1 ≤ d.1 ∧ M'.2.2.1 + 19 + d'.2 ≤ d.2) (hkc : kc = mc' + kc') (hks : ks = ms' + ks')
    (hM : zk_K G M' d' mc' ms' (.inr (some k) :: av) h Q') (kk : ∀ (v : Option zk_V) (h' : zk_H), Q' v h' → zk_W G M d kc' ks' (pc + 3) ls (v.toList ++ st) h' Q) : zk_W G M d kc ks pc ls S0 h Q := by
  intro p e R s m args below meth c X H locs cells slots mc ms lsr Qs hP hS h1 h2 h3 h4 hL hE
  subst hS0
  obtain ⟨⟨hcd, hini, hmh, hpar, hlk⟩, hins, hsel, T, N, hci⟩ := hb
  have hts := X.2.2.2.2.2.2.2.1
  have hf := X.2.2.2.2.2.2.2.2.2.2.2.2.1
  have hlo := X.2.2.2.2.2.2.2.2.2.2.2.2.2.1
  have hpar' : ∀ sig, parseMethodDescriptor M'.1.desc = some sig → n = sig.parameters.length := fun sig hh => by
    rw [hh] at hpar
    exact (Option.some.inj hpar).symm
  have hpay := pay_in hts (zk_goodIn hcd)
  have hstk : (av.reverse ++ .inr (some k) :: st).map (zk_rv G) = (av.map (zk_rv G)).reverse ++ .ref (zk_ad G k) :: st.map (zk_rv G) := by rw [List.map_append, List.map_reverse]; rfl
  have hpre : PreV s H M'.1.cls (zk_ad G k) (va_Pc ((.inr (some k) :: av).map (zk_rv G)) (zk_S G h)) (av.map (zk_rv G)) :=
    ⟨zk_blind G h _, va_recv X.2.2.2.2.2.2.2.2.1 (zk_one (hP.at hk h0)) (q0 := 0) hci rfl, fun U hU hW => ⟨rfl, zk_Sat X hP hS U hU hW⟩⟩
  rw [hstk]
  rcases hlk with hlk | ⟨host, hlk⟩
  · exact zk_run X hS h1 h2 h3 h4 hL hE hkc hks (va_runV (As := av.map (zk_rv G)) (rest := st.map (zk_rv G)) (n := n) (bytes := M'.2.1) (maxL := M'.2.2.1) (ret := M'.2.2.2) ⟨X.1, X.2.1, X.2.2.2.2.1, X.2.2.2.2.2.1, hts⟩ hM
      ⟨⟨rfl, rfl, by show d'.1 + 1 ≤ R.frames; omega, by show 8 + (M'.2.2.1 + 11) + d'.2 ≤ R.locals; omega, hpay, List.mem_cons_self, hts _ hcd, hts _ hini, hmh, hpar', hts _ hlk⟩, hts _ hins, hts _ hsel⟩ hpre rfl (by rw [List.length_map]; exact hn) hL.1 rfl (lv_room (by rw [zk_cat_sum]; exact hst)) hd ⟨by omega, by omega⟩) kk
  · exact zk_run X hS h1 h2 h3 h4 hL hE hkc hks (va_runVN (As := av.map (zk_rv G)) (rest := st.map (zk_rv G)) (n := n) (bytes := M'.2.1) (maxL := M'.2.2.1) (ret := M'.2.2.2) (host := host) ⟨X.1, X.2.1, X.2.2.2.2.1, X.2.2.2.2.2.1, hts⟩ hM
      ⟨⟨⟨rfl, rfl, by show d'.1 + 1 ≤ R.frames; omega, by show 8 + (M'.2.2.1 + 11) + d'.2 ≤ R.locals; omega, hpay, List.mem_cons_self⟩, hts _ hcd, hts _ hini, hmh, hpar', va_Nw.use rfl (X.2.2.2.2.2.2.2.2.2.2.2.2.2.2.2.2 _ hlk)⟩, hts _ hins, hts _ hsel⟩ hpre rfl (by rw [List.length_map]; exact hn) hL.1 rfl (lv_room (by rw [zk_cat_sum]; exact hst)) hd ⟨by omega, by omega⟩) kk
theorem zk_callS {S0 : List zk_V} (hb : zk_BS M.1.cls index M' n) (hd : decode M.2.1 pc = .ok (.invokestatic index, 3)) (hn : av.length = n) (hS0 : S0 = av.reverse ++ st) (hst : st.length ≤ 8) (hdd : d'.1 + 1 ≤ d.1 ∧ M'.2.2.1 + 19 + d'.2 ≤ d.2) (hkc : kc = mc' + kc') (hks : ks = ms' + ks')
    (hM : zk_K G M' d' mc' ms' av h Q') (kk : ∀ (v : Option zk_V) (h' : zk_H), Q' v h' → zk_W G M d kc' ks' (pc + 3) ls (v.toList ++ st) h' Q) : zk_W G M d kc ks pc ls S0 h Q := by
  intro p e R s m args below meth c X H locs cells slots mc ms lsr Qs hP hS h1 h2 h3 h4 hL hE
  subst hS0
  obtain ⟨⟨hcd, hini, hmh, hpar, hlk⟩, hstc⟩ := hb
  have hts := X.2.2.2.2.2.2.2.1
  have hf := X.2.2.2.2.2.2.2.2.2.2.2.2.1
  have hlo := X.2.2.2.2.2.2.2.2.2.2.2.2.2.1
  have hpar' : ∀ sig, parseMethodDescriptor M'.1.desc = some sig → n = sig.parameters.length := fun sig hh => by
    rw [hh] at hpar
    exact (Option.some.inj hpar).symm
  have hpay := pay_in hts (zk_goodIn hcd)
  have hstk : (av.reverse ++ st).map (zk_rv G) = (av.map (zk_rv G)).reverse ++ st.map (zk_rv G) := by rw [List.map_append, List.map_reverse]
  have hpre : PreS s H (va_Pc (av.map (zk_rv G)) (zk_S G h)) (av.map (zk_rv G)) := ⟨zk_blind G h _, fun U hU hW => ⟨rfl, zk_Sat X hP hS U hU hW⟩⟩
  rw [hstk]
  rcases hlk with hlk | ⟨host, hlk⟩
  · exact zk_run X hS h1 h2 h3 h4 hL hE hkc hks (va_runS (As := av.map (zk_rv G)) (rest := st.map (zk_rv G)) (n := n) (bytes := M'.2.1) (maxL := M'.2.2.1) (ret := M'.2.2.2) ⟨X.1, X.2.1, X.2.2.2.2.1, X.2.2.2.2.2.1, hts⟩ hM
      ⟨⟨rfl, rfl, by show d'.1 + 1 ≤ R.frames; omega, by show 8 + (M'.2.2.1 + 11) + d'.2 ≤ R.locals; omega, hpay, List.mem_cons_self, hts _ hcd, hts _ hini, hmh, hpar', hts _ hlk⟩, hts _ hstc⟩ hpre rfl (by rw [List.length_map]; exact hn) hL.1 rfl (lv_room (by rw [zk_cat_sum]; exact hst)) hd ⟨by omega, by omega⟩) kk
  · exact zk_run X hS h1 h2 h3 h4 hL hE hkc hks (va_runSN (As := av.map (zk_rv G)) (rest := st.map (zk_rv G)) (n := n) (bytes := M'.2.1) (maxL := M'.2.2.1) (ret := M'.2.2.2) (host := host) ⟨X.1, X.2.1, X.2.2.2.2.1, X.2.2.2.2.2.1, hts⟩ hM
      ⟨⟨⟨rfl, rfl, by show d'.1 + 1 ≤ R.frames; omega, by show 8 + (M'.2.2.1 + 11) + d'.2 ≤ R.locals; omega, hpay, List.mem_cons_self⟩, hts _ hcd, hts _ hini, hmh, hpar', va_Nw.use rfl (X.2.2.2.2.2.2.2.2.2.2.2.2.2.2.2.2 _ hlk)⟩, hts _ hstc, trivial⟩ hpre rfl (by rw [List.length_map]; exact hn) hL.1 rfl (lv_room (by rw [zk_cat_sum]; exact hst)) hd ⟨by omega, by omega⟩) kk
theorem zk_callI {k : Nat} {S0 : List zk_V} (hb : zk_BI M.1.cls index M' n) (hd : decode M.2.1 pc = .ok (.invokespecial index, 3)) (hn : av.length = n) (hS0 : S0 = av.reverse ++ .inr (some k) :: st) (hst : st.length ≤ 8) (hdd : d'.1 + 1 ≤ d.1 ∧ M'.2.2.1 + 19 + d'.2 ≤ d.2) (hkc : kc = mc' + kc') (hks : ks = ms' + ks')
    (hM : zk_K G M' d' mc' ms' (.inr (some k) :: av) h Q') (kk : ∀ (v : Option zk_V) (h' : zk_H), Q' v h' → zk_W G M d kc' ks' (pc + 3) ls (v.toList ++ st) h' Q) : zk_W G M d kc ks pc ls S0 h Q := by
  intro p e R s m args below meth c X H locs cells slots mc ms lsr Qs hP hS h1 h2 h3 h4 hL hE
  subst hS0
  obtain ⟨⟨hcd, hini, hmh, hpar, hlk⟩, hins, hnm, hret⟩ := hb
  have hts := X.2.2.2.2.2.2.2.1
  have hf := X.2.2.2.2.2.2.2.2.2.2.2.2.1
  have hlo := X.2.2.2.2.2.2.2.2.2.2.2.2.2.1
  have hpar' : ∀ sig, parseMethodDescriptor M'.1.desc = some sig → n = sig.parameters.length := fun sig hh => by
    rw [hh] at hpar
    exact (Option.some.inj hpar).symm
  have hpay := pay_in hts (zk_goodIn hcd)
  rw [hret] at hcd hpay
  have hmem : Cond.code M'.1 M'.2.1 M'.2.2.1 none ∈ Cond.code M'.1 M'.2.1 M'.2.2.1 M'.2.2.2 :: zk_T := by rw [hret]; exact List.mem_cons_self
  have hstk : (av.reverse ++ .inr (some k) :: st).map (zk_rv G) = (av.map (zk_rv G)).reverse ++ .ref (zk_ad G k) :: st.map (zk_rv G) := by rw [List.map_append, List.map_reverse]; rfl
  have hpre : PreS s H (va_Pc ((.inr (some k) :: av).map (zk_rv G)) (zk_S G h)) (.ref (zk_ad G k) :: av.map (zk_rv G)) := ⟨zk_blind G h _, fun U hU hW => ⟨rfl, zk_Sat X hP hS U hU hW⟩⟩
  rw [hstk]
  rcases hlk with hlk | ⟨host, hlk⟩
  · exact zk_run X hS h1 h2 h3 h4 hL hE hkc hks (va_runI (As := av.map (zk_rv G)) (rest := st.map (zk_rv G)) (n := n) (bytes := M'.2.1) (maxL := M'.2.2.1) ⟨X.1, X.2.1, X.2.2.2.2.1, X.2.2.2.2.2.1, hts⟩ hM
      ⟨⟨rfl, rfl, by show d'.1 + 1 ≤ R.frames; omega, by show 8 + (M'.2.2.1 + 11) + d'.2 ≤ R.locals; omega, by rw [hret]; exact hpay, hmem, hts _ hcd, hts _ hini, hmh, hpar', hts _ hlk⟩, hnm, hts _ hins⟩ hpre rfl (by rw [List.length_map]; exact hn) hL.1 rfl (lv_room (by rw [zk_cat_sum]; exact hst)) hd ⟨by omega, by omega⟩) kk
  · exact zk_run X hS h1 h2 h3 h4 hL hE hkc hks (va_runIN (As := av.map (zk_rv G)) (rest := st.map (zk_rv G)) (n := n) (bytes := M'.2.1) (maxL := M'.2.2.1) (host := host) ⟨X.1, X.2.1, X.2.2.2.2.1, X.2.2.2.2.2.1, hts⟩ hM
      ⟨⟨⟨rfl, rfl, by show d'.1 + 1 ≤ R.frames; omega, by show 8 + (M'.2.2.1 + 11) + d'.2 ≤ R.locals; omega, by rw [hret]; exact hpay, hmem⟩, hts _ hcd, hts _ hini, hmh, hpar', va_Nw.use rfl (X.2.2.2.2.2.2.2.2.2.2.2.2.2.2.2.2 _ hlk)⟩, hnm, hts _ hins⟩ hpre rfl (by rw [List.length_map]; exact hn) hL.1 rfl (lv_room (by rw [zk_cat_sum]; exact hst)) hd ⟨by omega, by omega⟩) kk
end ZkCalls
/-! from a walk to a contract -/
theorem zk_args_in (G : zk_G) : ∀ (av : List zk_V) (i k : Nat) (v : zk_V), av[k]? = some v → (i + k, zk_rv G v) ∈ lv_args i (av.map (zk_rv G))
  | [], _, _, _, h => by simp at h
  | a :: l, i, 0, v, h => by
    cases h
    exact List.mem_cons_self
  | a :: l, i, k + 1, v, h => by
    refine List.mem_cons_of_mem _ ?_
    rw [if_neg (by rw [zk_rv_cat]; decide)]
    have h2 := zk_args_in G l (i + 1) k v (by simpa using h)
    rw [show i + (k + 1) = i + 1 + k by omega]
    exact h2
theorem zk_sl_len (G : zk_G) (av : List zk_V) : (lg_sl (av.map (zk_rv G))).length = av.length := by
  induction av with
  | nil => rfl
  | cons a l ih =>
    have h2 : lg_sl ((a :: l).map (zk_rv G)) = [.val (zk_rv G a)] ++ lg_sl (l.map (zk_rv G)) := by
      show (List.flatMap _ _) = _
      rw [List.map_cons, List.flatMap_cons, if_neg (by rw [zk_rv_cat]; decide)]
      rfl
    rw [h2, List.length_append, ih]
    simp
    omega
theorem zk_K.of {G : zk_G} {M : zk_M} {d : Nat × Nat} {mc ms : Nat} {av : List zk_V} {h : zk_H} {Q : Option zk_V → zk_H → Prop} (hpl : plainName M.1.cls = true) (hlen : av.length ≤ M.2.2.1) {ls : List (Option zk_V)} (hls : ls = av.map some ++ List.replicate (M.2.2.1 - av.length) none)
    (w : zk_W G M d mc ms 0 ls [] h Q) : zk_K G M d mc ms av h Q := by
  refine Met.ofW (cc := M.2.1) (maxL := M.2.2.1) (ret := M.2.2.2) hpl rfl ?_
  intro p e s m args below meth c s₁ B hml hv
  obtain ⟨rfl, hs⟩ := hv
  obtain ⟨hP, hK, hX, hb, hLs, hN⟩ := hs
  have hts0 := atoms_spec (ws := .code M.1 M.2.1 M.2.2.1 M.2.2.2 :: zk_T) B.pre
  have hts : ∀ w ∈ zk_T, w.before ((av.map (zk_rv G)).toArray) s = true := fun w hw => hts0 w (List.mem_cons_of_mem _ hw)
  have hown : s.vm.findClass M.1.cls = some m.cls := findClass_of_methodNamed B.named
  have hlocks := B.notSynchronized
  have hnm : meth.name = M.1.name := (name_of_methodNamed B.named B.method).1
  have X : zk_X G M d p ({ frames := d.1, cells := mc, slots := ms, locals := d.2 } : Room) s m ((av.map (zk_rv G)).toArray) meth c := ⟨B.exec, B.bytes, B.returns, hlocks, hml, hown, hnm, hts, hK, hX, hb, hP.lt, Nat.le_refl _, Nat.le_refl _, hLs, hN⟩
  have hl := lv_entry (av.map (zk_rv G)) (n := M.2.2.1) (by rw [zk_sl_len]; exact hlen)
  rw [lg_entry_eq]
  refine w p e _ s m _ below meth c X s.heap [] 0 0 mc ms _ _ hP va_S.rf (by omega) (by omega) (Nat.le_refl _) (Nat.le_refl _) ⟨hl.1, hl.2.1, fun k v hk => ?_⟩ ?_
  · have hk2 : av[k]? = some v := by
      rw [hls] at hk
      by_cases hkl : k < av.length
      · rw [List.getElem?_append_left (by simpa using hkl), List.getElem?_map] at hk
        cases hx : av[k]? with
        | none => rw [hx] at hk; cases hk
        | some x => rw [hx] at hk; cases hk; rfl
      · rw [List.getElem?_append_right (by simpa using hkl)] at hk
        have h7 := List.mem_of_getElem? hk
        have h8 := List.eq_of_mem_replicate h7
        cases h8
    have h3 := zk_args_in G av 0 k v hk2
    rw [Nat.zero_add] at h3
    exact hl.2.2 _ h3
  · intro v h' H' locs' pc' ls' hq hP' hS' hR
    match v, hR with
    | none, hR => exact W.vret B.exec B.bytes (B.returns.trans hR.1) (fun t ht hW => ⟨⟨none, h', rfl, hq, zk_Sat X hP' hS' t ht hW⟩, hS'.F ht⟩) hS'.2.2 hR.2
    | some (.inl z), hR =>
      obtain ⟨hd, ty, hr, hn⟩ := hR
      exact W.zret B.exec B.bytes (B.returns.trans hr) hn (fun t ht hW => ⟨⟨some (.inl z), h', rfl, hq, zk_Sat X hP' hS' t ht hW⟩, hS'.F ht⟩) hS'.2.2 hd
    | some (.inr r), hR =>
      obtain ⟨hd, rt, hr, hrt⟩ := hR
      have hv : zk_rv G (.inr r) = .null ∨ ∃ a, zk_rv G (.inr r) = .ref a := by
        cases r with
        | none => exact Or.inl rfl
        | some k => exact Or.inr ⟨_, rfl⟩
      exact W.aret B.exec B.bytes (B.returns.trans hr) hrt hv (fun t ht hW => ⟨⟨some (.inr r), h', rfl, hq, zk_Sat X hP' hS' t ht hW⟩, hS'.F ht⟩) hS'.2.2 hd
/-! weakening -/
theorem zk_W.mono {G : zk_G} {M : zk_M} {d : Nat × Nat} {kc ks pc : Nat} {ls : List (Option zk_V)} {st : List zk_V} {h : zk_H} {Q Q' : Option zk_V → zk_H → Prop} (w : zk_W G M d kc ks pc ls st h Q) (hq : ∀ v h', Q v h' → Q' v h') : zk_W G M d kc ks pc ls st h Q' :=
  fun p e R s m args below meth c X H locs cells slots mc ms lsr Qs hP hS h1 h2 h3 h4 hL hE => w p e R s m args below meth c X H locs cells slots mc ms lsr Qs hP hS h1 h2 h3 h4 hL (fun v h' H' locs' pc' ls' hq' => hE v h' H' locs' pc' ls' (hq v h' hq'))
theorem zk_W.to {G : zk_G} {M : zk_M} {d : Nat × Nat} {kc ks pc : Nat} {ls ls' : List (Option zk_V)} {st st' : List zk_V} {h h' : zk_H} {Q : Option zk_V → zk_H → Prop} (e1 : ls = ls') (e2 : st = st') (e3 : h = h') (w : zk_W G M d kc ks pc ls' st' h' Q) : zk_W G M d kc ks pc ls st h Q := by
  subst e1; subst e2; subst e3; exact w
end
