def zR0 : String := "CopyInserts$Acts"
def zT0 : u_T := fun k => match k with
  | 0 => ("CopyInserts$Acts", "kinds", "[I", true)
  | 1 => ("CopyInserts$Acts", "places", "[I", true)
  | 2 => ("CopyInserts$Acts", "counts", "[I", true)
  | 3 => ("CopyInserts$Acts", "laidFrom", "[I", true)
  | 4 => ("CopyInserts$Acts", "laidBytes", "LCopyInserts$Row;", true)
  | 5 => ("CopyInserts$Acts", "size", "I", false)
  | _ => ("CopyInserts$Acts", "sumOfOld", "I", false)
def zY0 : Nat → FieldType := fun k => match k with
  | 0 => .array .int
  | 1 => .array .int
  | 2 => .array .int
  | 3 => .array .int
  | 4 => .object "CopyInserts$Row"
  | 5 => .int
  | _ => .int
theorem zn0 : ∀ a, a < 7 → ∀ b, b < 7 → a ≠ b → (zT0 a).2.1 ≠ (zT0 b).2.1 := by decide +kernel
theorem zy0 : ∀ k, k < 7 → parseFieldDescriptor (zT0 k).2.2.1 = some (zY0 k) := by decide +kernel
def zR1 : String := "CopyInserts$Numbers"
def zT1 : u_T := fun k => match k with
  | 0 => ("CopyInserts$Numbers", "copying", "I", false)
  | 1 => ("CopyInserts$Numbers", "seeking", "I", false)
  | 2 => ("CopyInserts$Numbers", "again", "I", false)
  | 3 => ("CopyInserts$Numbers", "laying", "I", false)
  | _ => ("CopyInserts$Numbers", "bytewise", "I", false)
def zY1 : Nat → FieldType := fun k => match k with
  | 0 => .int
  | 1 => .int
  | 2 => .int
  | 3 => .int
  | _ => .int
theorem zn1 : ∀ a, a < 5 → ∀ b, b < 5 → a ≠ b → (zT1 a).2.1 ≠ (zT1 b).2.1 := by decide +kernel
theorem zy1 : ∀ k, k < 5 → parseFieldDescriptor (zT1 k).2.2.1 = some (zY1 k) := by decide +kernel
def zR2 : String := "CopyInserts$Row"
def zT2 : u_T := fun k => match k with
  | 0 => ("CopyInserts$Row", "values", "[I", false)
  | _ => ("CopyInserts$Row", "size", "I", false)
def zY2 : Nat → FieldType := fun k => match k with
  | 0 => .array .int
  | _ => .int
theorem zn2 : ∀ a, a < 2 → ∀ b, b < 2 → a ≠ b → (zT2 a).2.1 ≠ (zT2 b).2.1 := by decide +kernel
theorem zy2 : ∀ k, k < 2 → parseFieldDescriptor (zT2 k).2.2.1 = some (zY2 k) := by decide +kernel
def zR3 : String := "CopyInserts$Search"
def zT3 : u_T := fun k => match k with
  | 0 => ("CopyInserts$Search", "source", "LCopyInserts$Row;", true)
  | 1 => ("CopyInserts$Search", "target", "LCopyInserts$Row;", true)
  | 2 => ("CopyInserts$Search", "numbers", "LCopyInserts$Numbers;", true)
  | 3 => ("CopyInserts$Search", "least", "[I", true)
  | 4 => ("CopyInserts$Search", "behindCopy", "[I", true)
  | 5 => ("CopyInserts$Search", "behindLay", "[I", true)
  | 6 => ("CopyInserts$Search", "known", "Z", false)
  | 7 => ("CopyInserts$Search", "nextAt", "I", false)
  | 8 => ("CopyInserts$Search", "nextSpot", "I", false)
  | 9 => ("CopyInserts$Search", "kind", "I", false)
  | 10 => ("CopyInserts$Search", "place", "I", false)
  | 11 => ("CopyInserts$Search", "count", "I", false)
  | _ => ("CopyInserts$Search", "spotAhead", "I", false)
def zY3 : Nat → FieldType := fun k => match k with
  | 0 => .object "CopyInserts$Row"
  | 1 => .object "CopyInserts$Row"
  | 2 => .object "CopyInserts$Numbers"
  | 3 => .array .int
  | 4 => .array .int
  | 5 => .array .int
  | 6 => .boolean
  | 7 => .int
  | 8 => .int
  | 9 => .int
  | 10 => .int
  | 11 => .int
  | _ => .int
theorem zn3 : ∀ a, a < 13 → ∀ b, b < 13 → a ≠ b → (zT3 a).2.1 ≠ (zT3 b).2.1 := by decide +kernel
theorem zy3 : ∀ k, k < 13 → parseFieldDescriptor (zT3 k).2.2.1 = some (zY3 k) := by decide +kernel
def zR4 : String := "CopyInserts"
def zT4 : u_T := fun k => match k with
  | 0 => ("CopyInserts", "oldText", "LCopyInserts$Row;", true)
  | 1 => ("CopyInserts", "newText", "LCopyInserts$Row;", true)
  | 2 => ("CopyInserts", "product", "LCopyInserts$Row;", true)
  | 3 => ("CopyInserts", "coded", "LCopyInserts$Row;", true)
  | 4 => ("CopyInserts", "numbers", "LCopyInserts$Numbers;", true)
  | 5 => ("CopyInserts", "acts", "LCopyInserts$Acts;", true)
  | _ => ("CopyInserts", "search", "LCopyInserts$Search;", true)
def zY4 : Nat → FieldType := fun k => match k with
  | 0 => .object "CopyInserts$Row"
  | 1 => .object "CopyInserts$Row"
  | 2 => .object "CopyInserts$Row"
  | 3 => .object "CopyInserts$Row"
  | 4 => .object "CopyInserts$Numbers"
  | 5 => .object "CopyInserts$Acts"
  | _ => .object "CopyInserts$Search"
theorem zn4 : ∀ a, a < 7 → ∀ b, b < 7 → a ≠ b → (zT4 a).2.1 ≠ (zT4 b).2.1 := by decide +kernel
theorem zy4 : ∀ k, k < 7 → parseFieldDescriptor (zT4 k).2.2.1 = some (zY4 k) := by decide +kernel
def zR5 : String := "CopyInsertsModel"
def zT5 : u_T := fun k => match k with
  | 0 => ("CopyInsertsModel", "text", "[I", true)
  | 1 => ("CopyInsertsModel", "many", "[I", true)
  | 2 => ("CopyInsertsModel", "copying", "I", false)
  | 3 => ("CopyInsertsModel", "seeking", "I", false)
  | 4 => ("CopyInsertsModel", "again", "I", false)
  | 5 => ("CopyInsertsModel", "laying", "I", false)
  | 6 => ("CopyInsertsModel", "bytewise", "I", false)
  | 7 => ("CopyInsertsModel", "acts", "I", false)
  | 8 => ("CopyInsertsModel", "kind", "[I", true)
  | 9 => ("CopyInsertsModel", "place", "[I", true)
  | 10 => ("CopyInsertsModel", "size", "[I", true)
  | 11 => ("CopyInsertsModel", "lays", "[I", true)
  | 12 => ("CopyInsertsModel", "planSum", "I", false)
  | 13 => ("CopyInsertsModel", "codes", "I", false)
  | 14 => ("CopyInsertsModel", "codeRow", "[I", true)
  | 15 => ("CopyInsertsModel", "mades", "I", false)
  | 16 => ("CopyInsertsModel", "madeRow", "[I", true)
  | 17 => ("CopyInsertsModel", "isLaid", "Z", false)
  | 18 => ("CopyInsertsModel", "left", "[I", true)
  | 19 => ("CopyInsertsModel", "bestKind", "I", false)
  | 20 => ("CopyInsertsModel", "bestPlace", "I", false)
  | _ => ("CopyInsertsModel", "bestSize", "I", false)
def zY5 : Nat → FieldType := fun k => match k with
  | 0 => .array .int
  | 1 => .array .int
  | 2 => .int
  | 3 => .int
  | 4 => .int
  | 5 => .int
  | 6 => .int
  | 7 => .int
  | 8 => .array .int
  | 9 => .array .int
  | 10 => .array .int
  | 11 => .array .int
  | 12 => .int
  | 13 => .int
  | 14 => .array .int
  | 15 => .int
  | 16 => .array .int
  | 17 => .boolean
  | 18 => .array .int
  | 19 => .int
  | 20 => .int
  | _ => .int
theorem zn5 : ∀ a, a < 22 → ∀ b, b < 22 → a ≠ b → (zT5 a).2.1 ≠ (zT5 b).2.1 := by decide +kernel
theorem zy5 : ∀ k, k < 22 → parseFieldDescriptor (zT5 k).2.2.1 = some (zY5 k) := by decide +kernel
abbrev vwCl : List vw_C := [(zR0, zT0, 7), (zR1, zT1, 5), (zR2, zT2, 2), (zR3, zT3, 13), (zR4, zT4, 7), (zR5, zT5, 22)]
/-- the words that hold at every state of a run -/
def zk_T : List Cond := lw_tbl.filter goodWord
theorem zk_good : ∀ w ∈ zk_T, goodWord w = true := fun _ h => (List.mem_filter.mp h).2
theorem zk_mem {w : Cond} (i : Nat) (h : lw_tbl[i]? = some w) (g : goodWord w = true) : w ∈ zk_T := List.mem_filter.mpr ⟨List.mem_of_getElem? h, g⟩
def zk_NF : List (String × Nat × String × String × String × String) := [("CopyInserts$Search", 72, "CopyInserts$Numbers", "copying", "I", "CopyInserts"), ("CopyInserts$Search", 75, "CopyInserts$Numbers", "seeking", "I", "CopyInserts"), ("CopyInserts$Search", 78, "CopyInserts$Numbers", "again", "I", "CopyInserts"), ("CopyInserts$Search", 69, "CopyInserts$Numbers", "laying", "I", "CopyInserts"), ("CopyInserts$Search", 60, "CopyInserts$Numbers", "bytewise", "I", "CopyInserts")]
def zk_NM : List (String × Nat × MethodName × String) := [("CopyInserts", 36, ⟨"CopyInserts$Acts", "<init>", "()V"⟩, "CopyInserts")]
theorem zi0 : ∀ w ∈ u_ws zR0 zT0 7, w ∈ zk_T := by
  intro w hw
  obtain ⟨k, hk, rfl⟩ := List.mem_map.mp hw
  have hk := List.mem_range.mp hk
  match k, hk with
  | 0, _ => exact zk_mem 114 (by decide +kernel) rfl
  | 1, _ => exact zk_mem 116 (by decide +kernel) rfl
  | 2, _ => exact zk_mem 118 (by decide +kernel) rfl
  | 3, _ => exact zk_mem 120 (by decide +kernel) rfl
  | 4, _ => exact zk_mem 122 (by decide +kernel) rfl
  | 5, _ => exact zk_mem 124 (by decide +kernel) rfl
  | 6, _ => exact zk_mem 126 (by decide +kernel) rfl
  | k + 7, h => omega
theorem zi1 : ∀ w ∈ u_ws zR1 zT1 5, w ∈ zk_T := by
  intro w hw
  obtain ⟨k, hk, rfl⟩ := List.mem_map.mp hw
  have hk := List.mem_range.mp hk
  match k, hk with
  | 0, _ => exact zk_mem 88 (by decide +kernel) rfl
  | 1, _ => exact zk_mem 90 (by decide +kernel) rfl
  | 2, _ => exact zk_mem 92 (by decide +kernel) rfl
  | 3, _ => exact zk_mem 94 (by decide +kernel) rfl
  | 4, _ => exact zk_mem 96 (by decide +kernel) rfl
  | k + 5, h => omega
theorem zi2 : ∀ w ∈ u_ws zR2 zT2 2, w ∈ zk_T := by
  intro w hw
  obtain ⟨k, hk, rfl⟩ := List.mem_map.mp hw
  have hk := List.mem_range.mp hk
  match k, hk with
  | 0, _ => exact zk_mem 58 (by decide +kernel) rfl
  | 1, _ => exact zk_mem 60 (by decide +kernel) rfl
  | k + 2, h => omega
theorem zi3 : ∀ w ∈ u_ws zR3 zT3 13, w ∈ zk_T := by
  intro w hw
  obtain ⟨k, hk, rfl⟩ := List.mem_map.mp hw
  have hk := List.mem_range.mp hk
  match k, hk with
  | 0, _ => exact zk_mem 148 (by decide +kernel) rfl
  | 1, _ => exact zk_mem 150 (by decide +kernel) rfl
  | 2, _ => exact zk_mem 152 (by decide +kernel) rfl
  | 3, _ => exact zk_mem 154 (by decide +kernel) rfl
  | 4, _ => exact zk_mem 156 (by decide +kernel) rfl
  | 5, _ => exact zk_mem 158 (by decide +kernel) rfl
  | 6, _ => exact zk_mem 160 (by decide +kernel) rfl
  | 7, _ => exact zk_mem 162 (by decide +kernel) rfl
  | 8, _ => exact zk_mem 164 (by decide +kernel) rfl
  | 9, _ => exact zk_mem 166 (by decide +kernel) rfl
  | 10, _ => exact zk_mem 168 (by decide +kernel) rfl
  | 11, _ => exact zk_mem 170 (by decide +kernel) rfl
  | 12, _ => exact zk_mem 172 (by decide +kernel) rfl
  | k + 13, h => omega
theorem zi4 : ∀ w ∈ u_ws zR4 zT4 7, w ∈ zk_T := by
  intro w hw
  obtain ⟨k, hk, rfl⟩ := List.mem_map.mp hw
  have hk := List.mem_range.mp hk
  match k, hk with
  | 0, _ => exact zk_mem 182 (by decide +kernel) rfl
  | 1, _ => exact zk_mem 184 (by decide +kernel) rfl
  | 2, _ => exact zk_mem 186 (by decide +kernel) rfl
  | 3, _ => exact zk_mem 188 (by decide +kernel) rfl
  | 4, _ => exact zk_mem 190 (by decide +kernel) rfl
  | 5, _ => exact zk_mem 192 (by decide +kernel) rfl
  | 6, _ => exact zk_mem 194 (by decide +kernel) rfl
  | k + 7, h => omega
theorem zi5 : ∀ w ∈ u_ws zR5 zT5 22, w ∈ zk_T := by
  intro w hw
  obtain ⟨k, hk, rfl⟩ := List.mem_map.mp hw
  have hk := List.mem_range.mp hk
  match k, hk with
  | 0, _ => exact zk_mem 611 (by decide +kernel) rfl
  | 1, _ => exact zk_mem 613 (by decide +kernel) rfl
  | 2, _ => exact zk_mem 615 (by decide +kernel) rfl
  | 3, _ => exact zk_mem 617 (by decide +kernel) rfl
  | 4, _ => exact zk_mem 619 (by decide +kernel) rfl
  | 5, _ => exact zk_mem 621 (by decide +kernel) rfl
  | 6, _ => exact zk_mem 623 (by decide +kernel) rfl
  | 7, _ => exact zk_mem 625 (by decide +kernel) rfl
  | 8, _ => exact zk_mem 627 (by decide +kernel) rfl
  | 9, _ => exact zk_mem 629 (by decide +kernel) rfl
  | 10, _ => exact zk_mem 631 (by decide +kernel) rfl
  | 11, _ => exact zk_mem 633 (by decide +kernel) rfl
  | 12, _ => exact zk_mem 635 (by decide +kernel) rfl
  | 13, _ => exact zk_mem 637 (by decide +kernel) rfl
  | 14, _ => exact zk_mem 639 (by decide +kernel) rfl
  | 15, _ => exact zk_mem 641 (by decide +kernel) rfl
  | 16, _ => exact zk_mem 643 (by decide +kernel) rfl
  | 17, _ => exact zk_mem 645 (by decide +kernel) rfl
  | 18, _ => exact zk_mem 647 (by decide +kernel) rfl
  | 19, _ => exact zk_mem 649 (by decide +kernel) rfl
  | 20, _ => exact zk_mem 651 (by decide +kernel) rfl
  | 21, _ => exact zk_mem 653 (by decide +kernel) rfl
  | k + 22, h => omega
