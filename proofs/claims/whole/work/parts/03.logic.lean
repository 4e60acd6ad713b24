/-! THE LOGIC: a walk in pure words. Numbers are Int, references are places in a list of cells: place 0 is the script, place k + 1 lies at the address B + k. -/
abbrev zk_V : Type := Int ⊕ Option Nat
abbrev zk_C : Type := (Nat × (Nat → Int)) ⊕ (Nat × List zk_V)
abbrev zk_H : Type := List zk_C
/-- launch, tables of the classes, the class of int[], the script's address, the base, the script's length, the script -/
abbrev zk_G : Type := Launch × va_G × ClassId × Nat × Nat × Nat × (Nat → Int32)
/-- a method: name, bytes, locals, what it returns -/
abbrev zk_M : Type := MethodName × ByteArray × Nat × Option FieldType
abbrev zk_gl (G : zk_G) : Launch := G.1
abbrev zk_gD (G : zk_G) : va_G := G.2.1
abbrev zk_gI (G : zk_G) : ClassId := G.2.2.1
abbrev zk_gb (G : zk_G) : Nat := G.2.2.2.1
abbrev zk_gB (G : zk_G) : Nat := G.2.2.2.2.1
abbrev zk_gL (G : zk_G) : Nat := G.2.2.2.2.2.1
abbrev zk_gX (G : zk_G) : Nat → Int32 := G.2.2.2.2.2.2
def zk_ad (G : zk_G) (k : Nat) : Nat := match k with
  | 0 => zk_gb G
  | k + 1 => zk_gB G + k
def zk_rv (G : zk_G) (v : zk_V) : Value := match v with
  | .inl z => .int (Int32.ofInt z)
  | .inr none => .null
  | .inr (some k) => .ref (zk_ad G k)
def zk_ce (G : zk_G) (c : zk_C) : va_E := match c with
  | .inl a => .inl (zk_gI G, a.1, .inl (fun j => Int32.ofInt (a.2 j)))
  | .inr o => .inr (o.1, o.2.map (zk_rv G))
def zk_scr (G : zk_G) : zk_C := .inl (zk_gL G, fun j => (zk_gX G j).toInt)
/-- the heap H is the cells h -/
def zk_P (G : zk_G) (h : zk_H) (H : Heap) : Prop := H.size + 1 = zk_gB G + h.length ∧ h[0]? = some (zk_scr G) ∧ ∀ (k : Nat) (c : zk_C), h[k + 1]? = some c → va_at (zk_gD G) vwCl (zk_gB G + k, zk_ce G c) H
/-- the links between nest mates -/
def zk_NW (U : State) : Prop := (∀ q ∈ zk_NF, va_Nw (.fieldLinkNest q.1 q.2.1 q.2.2.1 q.2.2.2.1 q.2.2.2.2.1 q.2.2.2.2.2) U) ∧ ∀ q ∈ zk_NM, va_Nw (.methodLinkNest q.1 q.2.1 q.2.2.1 q.2.2.2) U
theorem zk_NW.warm {s U : State} (hW : s.WarmedH U.vm) (h : zk_NW s) : zk_NW U := ⟨fun q hq => (h.1 q hq).warmF hW, fun q hq => (h.2 q hq).warmM hW⟩
theorem zk_NW.same {s U : State} (hW : s.vm = U.vm) (h : zk_NW s) : zk_NW U := ⟨fun q hq => (h.1 q hq).same rfl hW, fun q hq => (h.2 q hq).same rfl hW⟩
/-- a state: the cells, the classes, the script -/
def zk_S (G : zk_G) (h : zk_H) (U : State) : Prop := zk_P G h U.heap ∧ va_K (zk_gD G) vwCl [(zk_gI G, .int)] U ∧ va_X (zk_gb G) (zk_gL G) (zk_gX G) U U.heap ∧ zk_gb G < zk_gB G ∧ zk_gL G < 2 ^ 31 ∧ zk_NW U
/-- what holds all through a body -/
def zk_X (G : zk_G) (M : zk_M) (d : Nat × Nat) (p : Program) (R : Room) (s : State) (m : MethodId) (args : Array Value) (meth : Method) (c : Code) : Prop :=
  p.tables.exec = Jvm.exec ∧ c.code = M.2.1 ∧ meth.sig.returnType = M.2.2.2 ∧ meth.locks = false ∧ c.maxLocals = M.2.2.1 ∧ s.vm.findClass M.1.cls = some m.cls ∧ meth.name = M.1.name ∧ (∀ w ∈ zk_T, w.before args s = true) ∧ va_K (zk_gD G) vwCl [(zk_gI G, .int)] s ∧ va_X (zk_gb G) (zk_gL G) (zk_gX G) s s.heap ∧ zk_gb G < zk_gB G ∧ zk_gB G ≤ s.heap.size ∧ d.1 ≤ R.frames ∧ d.2 ≤ R.locals ∧ zk_gL G < 2 ^ 31 ∧ zk_NW s
/-- locals -/
def zk_L (G : zk_G) (lsr : Array Slot) (nL : Nat) (ls : List (Option zk_V)) : Prop := lsr.size = nL ∧ lv_wf lsr ∧ ∀ (k : Nat) (v : zk_V), ls[k]? = some (some v) → lsr[k]? = some (.val (zk_rv G v))
/-- a return -/
def zk_R (M : zk_M) (pc : Nat) (v : Option zk_V) : Prop := match v with
  | none => M.2.2.2 = none ∧ decode M.2.1 pc = .ok (.return_, 1)
  | some (.inl z) => decode M.2.1 pc = .ok (.ireturn, 1) ∧ ∃ ty, M.2.2.2 = some ty ∧ narrow ty (.int (Int32.ofInt z)) = .int (Int32.ofInt z)
  | some (.inr _) => decode M.2.1 pc = .ok (.areturn, 1) ∧ ∃ rt, M.2.2.2 = some rt ∧ ((∃ n, rt = .object n) ∨ ∃ t, rt = .array t)
abbrev zk_A (G : zk_G) : Nat → Prop := fun q => zk_gB G ≤ q
/-- the end of a body -/
def zk_E (G : zk_G) (M : zk_M) (p : Program) (e : Env) (R : Room) (s : State) (m : MethodId) (args : Array Value) (below : List Frame) (meth : Method) (c : Code) (mc ms : Nat) (Qs : State → Prop) (Q : Option zk_V → zk_H → Prop) : Prop :=
  ∀ (v : Option zk_V) (h' : zk_H) (H' : Heap) (locs' : List Loc) (pc' : Nat) (ls' : Array Slot), Q v h' → zk_P G h' H' → va_S (zk_A G) s.heap H' locs' → zk_R M pc' v →
    W p (zk_gl G) e R s m args below meth c H' locs' mc ms Qs (F0 m pc' ls' (v.map (zk_rv G)).toList)
/-- THE JUDGEMENT: from place pc of method M, with locals ls, stack st and cells h, with room for d.1 frames and d.2 words of locals, and for kc cells of ks slots: M returns, and Q holds of its answer and the cells -/
def zk_W (G : zk_G) (M : zk_M) (d : Nat × Nat) (kc ks pc : Nat) (ls : List (Option zk_V)) (st : List zk_V) (h : zk_H) (Q : Option zk_V → zk_H → Prop) : Prop :=
  ∀ (p : Program) (e : Env) (R : Room) (s : State) (m : MethodId) (args : Array Value) (below : List Frame) (meth : Method) (c : Code), zk_X G M d p R s m args meth c →
  ∀ (H : Heap) (locs : List Loc) (cells slots mc ms : Nat) (lsr : Array Slot) (Qs : State → Prop), zk_P G h H → va_S (zk_A G) s.heap H locs → cells + kc ≤ mc → slots + ks ≤ ms → mc ≤ R.cells → ms ≤ R.slots → zk_L G lsr M.2.2.1 ls → zk_E G M p e R s m args below meth c mc ms Qs Q →
    W p (zk_gl G) e R s m args below meth c H locs cells slots Qs (F0 m pc lsr (st.map (zk_rv G)))
/-- A CONTRACT: called with av over the cells h, M returns, and Q holds -/
def zk_K (G : zk_G) (M : zk_M) (d : Nat × Nat) (mc ms : Nat) (av : List zk_V) (h : zk_H) (Q : Option zk_V → zk_H → Prop) : Prop :=
  Met (zk_gl G) M.1 (.code M.1 M.2.1 M.2.2.1 M.2.2.2 :: zk_T) ({ frames := d.1, cells := mc, slots := ms, locals := d.2 } : Room) (va_Pc (av.map (zk_rv G)) (zk_S G h))
    (fun _ st oc t => (∃ (v : Option zk_V) (h' : zk_H), oc = .returned (v.map (zk_rv G)) ∧ Q v h' ∧ zk_S G h' t) ∧ va_F (zk_A G) st t) mc ms (zk_A G)
/-! numbers -/
def zk_rg (z : Int) : Prop := -2147483648 ≤ z ∧ z < 2147483648
theorem zk_ti {z : Int} (h : zk_rg z) : (Int32.ofInt z).toInt = z := Int32.toInt_ofInt_of_le (by have := h.1; omega) (by have := h.2; omega)
theorem zk_lt {x y : Int} (hx : zk_rg x) (hy : zk_rg y) : Int32.ofInt x < Int32.ofInt y ↔ x < y := by rw [Int32.lt_iff_toInt_lt, zk_ti hx, zk_ti hy]
theorem zk_le {x y : Int} (hx : zk_rg x) (hy : zk_rg y) : Int32.ofInt x ≤ Int32.ofInt y ↔ x ≤ y := by rw [Int32.le_iff_toInt_le, zk_ti hx, zk_ti hy]
theorem zk_eq {x y : Int} (hx : zk_rg x) (hy : zk_rg y) : Int32.ofInt x = Int32.ofInt y ↔ x = y := by rw [← Int32.toInt_inj, zk_ti hx, zk_ti hy]
theorem zk_0 : (0 : Int32) = Int32.ofInt 0 := rfl
theorem zk_rg0 : zk_rg 0 := ⟨by omega, by omega⟩
theorem zk_cl {z : Int} (h0 : 0 ≤ z) (h : z < 2147483648) : (Int32.ofInt z).toNatClampNeg = z.toNat := by rw [Int32.toNatClampNeg, zk_ti ⟨by omega, h⟩]
theorem zk_vin {z : Int} {n : Nat} (h0 : 0 ≤ z) (hn : z < n) (h : z < 2147483648) : vp_in (Int32.ofInt z) n := by
  rw [vp_in_iff, zk_ti ⟨by omega, h⟩]
  exact ⟨h0, hn⟩
/-! cells -/
theorem zk_rv_cat (G : zk_G) (v : zk_V) : (zk_rv G v).category = 1 := by
  rcases v with z | _ | k <;> rfl
theorem zk_cat_sum (G : zk_G) (st : List zk_V) : ((st.map (zk_rv G)).map fun v => v.category).sum = st.length := by
  induction st with
  | nil => rfl
  | cons a l ih =>
    simp only [List.map_cons, List.sum_cons, List.length_cons, zk_rv_cat]
    rw [ih]
    omega
theorem zk_P.lt {G : zk_G} {h : zk_H} {H : Heap} (hP : zk_P G h H) : zk_gB G ≤ H.size := by
  obtain ⟨h1, h2, -⟩ := hP
  have := (List.getElem?_eq_some_iff.mp h2).1
  omega
theorem zk_P.at {G : zk_G} {h : zk_H} {H : Heap} (hP : zk_P G h H) {k : Nat} {c : zk_C} (hk : h[k]? = some c) (h0 : k ≠ 0) : va_at (zk_gD G) vwCl (zk_ad G k, zk_ce G c) H := by
  match k, h0, hk with
  | k + 1, _, hk => exact hP.2.2 k c hk
theorem zk_ad_ge {G : zk_G} {k : Nat} (h0 : k ≠ 0) : zk_gB G ≤ zk_ad G k := by
  match k, h0 with
  | k + 1, _ => exact Nat.le_add_right _ _
/-- a cell is written -/
theorem zk_P.put {G : zk_G} {h : zk_H} {H H1 : Heap} (hP : zk_P G h H) {k : Nat} {c0 c : zk_C} (hk : h[k]? = some c0) (h0 : k ≠ 0) (hc : va_at (zk_gD G) vwCl (zk_ad G k, zk_ce G c) H1) (hz : H1.size = H.size) (ho : ∀ q : Nat, q ≠ zk_ad G k → H1[q]? = H[q]?) : zk_P G (h.set k c) H1 := by
  match k, h0, hk, hc, ho with
  | k + 1, _, hk, hc, ho =>
    have hl := (List.getElem?_eq_some_iff.mp hk).1
    refine ⟨by rw [hz, List.length_set]; exact hP.1, by rw [List.getElem?_set_ne (by omega)]; exact hP.2.1, fun j c1 hj => ?_⟩
    by_cases hjk : j = k
    · subst hjk
      rw [List.getElem?_set_self hl] at hj
      cases hj
      exact hc
    · rw [List.getElem?_set_ne (by omega)] at hj
      exact (hP.2.2 j c1 hj).kept (ho _ (by show zk_gB G + j ≠ zk_gB G + k; omega))
/-- a cell is made -/
theorem zk_P.push {G : zk_G} {h : zk_H} {H H1 : Heap} (hP : zk_P G h H) {c : zk_C} (hc : va_at (zk_gD G) vwCl (H.size, zk_ce G c) H1) (hz : H1.size = H.size + 1) (ho : ∀ q : Nat, q < H.size → H1[q]? = H[q]?) : zk_P G (h ++ [c]) H1 ∧ H.size = zk_ad G h.length := by
  have hl := (List.getElem?_eq_some_iff.mp hP.2.1).1
  have hs := hP.1
  have he : H.size = zk_ad G h.length := by
    obtain ⟨n, hn⟩ : ∃ n, h.length = n + 1 := ⟨h.length - 1, by omega⟩
    rw [hn]
    show H.size = zk_gB G + n
    omega
  refine ⟨⟨by rw [hz, List.length_append]; show _ = _ + (_ + 1); omega, by rw [List.getElem?_append_left hl]; exact hP.2.1, fun j c1 hj => ?_⟩, he⟩
  by_cases hjl : j + 1 < h.length
  · rw [List.getElem?_append_left hjl] at hj
    have h1 := hP.2.2 j c1 hj
    exact h1.kept (ho _ h1.lt)
  · rw [List.getElem?_append_right (by omega)] at hj
    have h2 : j + 1 - h.length < 1 := (List.getElem?_eq_some_iff.mp hj).1
    rw [show j + 1 - h.length = 0 by omega] at hj
    cases hj
    rw [show zk_gB G + j = H.size by omega]
    exact hc
theorem zk_Spush {A : Nat → Prop} {H0 H H1 : Heap} {locs : List Loc} (h : va_S A H0 H locs) (z : H1.size = H.size + 1) (oq : ∀ q : Nat, q < H.size → H1[q]? = H[q]?) : va_S A H0 H1 locs :=
  ⟨Nat.le_trans h.1 (by omega), fun q h1 h2 => (oq q (Nat.lt_of_lt_of_le h1 h.1)).trans (h.2.1 q h1 h2), h.2.2⟩
/-! locals -/
def zk_sv (k : Nat) (x : Option Slot) : Option (Nat × Value) := match x with
  | some (.val w) => some (k, w)
  | _ => none
def zk_all (ls : Array Slot) : List (Nat × Value) := (List.range ls.size).filterMap fun k => zk_sv k ls[k]?
theorem zk_all_has {ls : Array Slot} {nL : Nat} (h1 : ls.size = nL) (h2 : lv_wf ls) : lv_has ls nL (zk_all ls) := by
  refine ⟨h1, h2, fun q hq => ?_⟩
  obtain ⟨k, -, hk⟩ := List.mem_filterMap.mp hq
  cases hx : ls[k]? with
  | none => rw [hx] at hk; cases hk
  | some x =>
    rw [hx] at hk
    cases x with
    | val w => cases hk; exact hx
    | unset => cases hk
    | second => cases hk
theorem zk_all_in {ls : Array Slot} {k : Nat} {w : Value} (h : ls[k]? = some (.val w)) : (k, w) ∈ zk_all ls :=
  List.mem_filterMap.mpr ⟨k, List.mem_range.mpr (Array.getElem?_eq_some_iff.mp h).1, by rw [h]; rfl⟩
/-- behind a store -/
theorem zk_L.set {G : zk_G} {lsr ls' : Array Slot} {nL i : Nat} {ls : List (Option zk_V)} {v : zk_V} (h : zk_L G lsr nL ls) (h' : lv_has ls' nL ((i, zk_rv G v) :: (zk_all lsr).filter (fun q => !(q.1 == i) && !(q.1 + 1 == i && q.2.category == 2)))) : zk_L G ls' nL (ls.set i (some v)) := by
  refine ⟨h'.1, h'.2.1, fun k w hk => ?_⟩
  by_cases hki : k = i
  · subst hki
    have hl : k < ls.length := by
      have := (List.getElem?_eq_some_iff.mp hk).1
      simpa using this
    rw [List.getElem?_set_self hl] at hk
    cases hk
    exact h'.2.2 (k, zk_rv G v) List.mem_cons_self
  · rw [List.getElem?_set_ne (fun e => hki e.symm)] at hk
    have h1 := h.2.2 k w hk
    refine h'.2.2 (k, zk_rv G w) (List.mem_cons_of_mem _ (List.mem_filter.mpr ⟨zk_all_in h1, ?_⟩))
    simp [hki, zk_rv_cat]
