/-! rows of the heap, calls, entry -/
/-- a field: own's link number index is slot j of class ci, of type ty -/
def zk_F (own : String) (index ci j : Nat) (ty : FieldType) (fin : Bool) : Prop :=
  ∃ (C : String) (T : u_T) (N : Nat) (ty0 : Nat → FieldType), vwCl[ci]? = some (C, T, N) ∧ (∀ w ∈ u_ws C T N, w ∈ zk_T) ∧ (∀ k, k < N → parseFieldDescriptor (T k).2.2.1 = some (ty0 k)) ∧ (∀ a, a < N → ∀ b, b < N → a ≠ b → (T a).2.1 ≠ (T b).2.1) ∧ j < N ∧ ty0 j = ty ∧ (T j).2.2.2 = fin ∧ (fin = true → (T j).1 = own) ∧
    (Cond.fieldLink own index (T j).1 (T j).2.1 (T j).2.2.1 ∈ zk_T ∨ ∃ host, (own, index, (T j).1, (T j).2.1, (T j).2.2.1, host) ∈ zk_NF)
/-- a class that can be made: own's link number index is class ci of N slots, at first fs -/
def zk_O (own : String) (index ci N : Nat) (fs : List zk_V) : Prop :=
  ∃ (C : String) (T : u_T) (ty0 : Nat → FieldType), vwCl[ci]? = some (C, T, N) ∧ (∀ w ∈ u_ws C T N, w ∈ zk_T) ∧ (∀ k, k < N → parseFieldDescriptor (T k).2.2.1 = some (ty0 k)) ∧ Cond.classLink own index C ∈ zk_T ∧ Cond.instantiable C N ∈ zk_T ∧ Cond.initialized C ∈ zk_T ∧ ∀ (G : zk_G) (j : Nat), j < N → defaultValue (ty0 j) = vp_V (fs.map (zk_rv G)) j
/-- a call's link -/
def zk_B (own : String) (index : Nat) (M' : zk_M) (n : Nat) : Prop :=
  Cond.code M'.1 M'.2.1 M'.2.2.1 M'.2.2.2 ∈ zk_T ∧ Cond.initialized M'.1.cls ∈ zk_T ∧ (M'.1.cls ≠ "java/lang/invoke/MethodHandle" ∧ M'.1.cls ≠ "java/lang/invoke/VarHandle") ∧ (parseMethodDescriptor M'.1.desc).map (fun d => d.parameters.length) = some n ∧
    (Cond.methodLink own index M'.1 ∈ zk_T ∨ ∃ host, (own, index, M'.1, host) ∈ zk_NM)
def zk_BV (own : String) (index ci : Nat) (M' : zk_M) (n : Nat) : Prop := zk_B own index M' n ∧ Cond.instanceMethod M'.1 ∈ zk_T ∧ Cond.selects M'.1.cls M'.1 M'.1 ∈ zk_T ∧ ∃ (T : u_T) (N : Nat), vwCl[ci]? = some (M'.1.cls, T, N)
def zk_BS (own : String) (index : Nat) (M' : zk_M) (n : Nat) : Prop := zk_B own index M' n ∧ Cond.static M'.1 ∈ zk_T
def zk_BI (own : String) (index : Nat) (M' : zk_M) (n : Nat) : Prop := zk_B own index M' n ∧ Cond.instanceMethod M'.1 ∈ zk_T ∧ M'.1.name = "<init>" ∧ M'.2.2.2 = none
def zk_up (f : Nat → Int) (k : Nat) (x : Int) : Nat → Int := fun j => if j = k then x else f j
theorem zk_one {D : va_G} {cl : List vw_C} {q : Nat × va_E} {H : Heap} (h : va_at D cl q H) : va_P D cl [q] H := by
  intro k x hx
  have hz : k < 1 := (List.getElem?_eq_some_iff.mp hx).1
  rw [show k = 0 by omega] at hx
  cases hx
  exact h
section ZkHeap
variable {G : zk_G} {M : zk_M} {d : Nat × Nat} {kc ks pc : Nat} {ls : List (Option zk_V)} {st : List zk_V} {h : zk_H} {Q : Option zk_V → zk_H → Prop}
theorem zk_get {k ci j index : Nat} {fs : List zk_V} {ty : FieldType} {fin : Bool} {v : zk_V} (hf : zk_F M.1.cls index ci j ty fin) (hd : decode M.2.1 pc = .ok (.getfield index, 3)) (hk : h[k]? = some (.inr (ci, fs))) (h0 : k ≠ 0) (hv : fs[j]? = some v) (kk : zk_W G M d kc ks (pc + 3) ls (v :: st) h Q) : zk_W G M d kc ks pc ls (.inr (some k) :: st) h Q := by
  intro p e R s m args below meth c X H locs cells slots mc ms lsr Qs hP hS h1 h2 h3 h4 hL hE
  obtain ⟨C, T, N, ty0, hc, hin, hty, hnm, hj, -, -, -, hl⟩ := hf
  have hw := zk_one (hP.at hk h0)
  have hv' : (fs.map (zk_rv G))[j]? = some (zk_rv G v) := by rw [List.getElem?_map, hv]; rfl
  rcases hl with hl | ⟨host, hl⟩
  · exact va_get (rest := st.map (zk_rv G)) X.1 X.2.1 X.2.2.2.2.2.2.2.1 hin X.2.2.2.2.2.1 X.2.2.2.2.2.2.2.2.1 hw 0 rfl hc j hj (X.2.2.2.2.2.2.2.1 _ hl) (fun _ h9 => h9) hv' hd (kk p e R s m args below meth c X H locs cells slots mc ms lsr Qs hP hS h1 h2 h3 h4 hL hE)
  · exact va_getN (rest := st.map (zk_rv G)) X.1 X.2.1 X.2.2.2.2.2.2.2.1 hin X.2.2.2.2.2.1 X.2.2.2.2.2.2.2.2.1 hw 0 rfl hc j hj (va_Nw.use rfl (X.2.2.2.2.2.2.2.2.2.2.2.2.2.2.2.1 _ hl)) (fun _ h9 => h9) hv' hd (kk p e R s m args below meth c X H locs cells slots mc ms lsr Qs hP hS h1 h2 h3 h4 hL hE)
theorem zk_put {k ci j index : Nat} {fs : List zk_V} {ty : FieldType} {v : zk_V} {h' : zk_H} (hf : zk_F M.1.cls index ci j ty false) (hd : decode M.2.1 pc = .ok (.putfield index, 3)) (hk : h[k]? = some (.inr (ci, fs))) (h0 : k ≠ 0) (hj2 : j < fs.length) (hn : narrow ty (zk_rv G v) = zk_rv G v) (hfit : fits ty (zk_rv G v) = true) (hh : h.set k (.inr (ci, fs.set j v)) = h') (kk : zk_W G M d kc ks (pc + 3) ls st h' Q) : zk_W G M d kc ks pc ls (v :: .inr (some k) :: st) h Q := by
  intro p e R s m args below meth c X H locs cells slots mc ms lsr Qs hP hS h1 h2 h3 h4 hL hE
  subst hh
  obtain ⟨C, T, N, ty0, hc, hin, hty, hnm, hj, hty1, hfin, -, hl⟩ := hf
  have hts := X.2.2.2.2.2.2.2.1
  have hK := X.2.2.2.2.2.2.2.2.1
  have hap := va_apart (own := M.1.cls) hts hin ty0 hty hnm hK hc
  obtain ⟨r, g1, cell, q1, q2, q3, q4⟩ := hP.at hk h0
  have hr : r = (C, T, N) := Option.some.inj (g1.symm.trans hc)
  subst hr
  obtain ⟨hS', hfc, kC, hkC, hkind⟩ := hK.1 ci _ hc
  obtain ⟨cf, kf, fi, f, hi, hsl⟩ := hS' j hj
  have hlay := hts _ (hin _ (u_in_lay hj))
  unfold u_lay at hlay
  rw [if_neg (by rw [hfin]; decide)] at hlay
  have hst := (u_facts hfc hkC (u_lays hts hin hj) hi).1
  have h6 := u_store hfc hkC hkind hlay hi (hty j hj) (by rw [hty1]; exact hn) (by rw [hty1]; exact hfit)
  have fin : ∀ H' : Heap, H'[zk_ad G k]? = some (cell.setSlot f.slot (zk_rv G v)) → H'.size = H.size → (∀ q, q ≠ zk_ad G k → H'[q]? = H[q]?) → W p (zk_gl G) e R s m args below meth c H' (locs ++ [⟨zk_ad G k, f.slot⟩]) cells slots Qs (F0 m (pc + 3) lsr (st.map (zk_rv G))) := by
    intro H' e1 e2 e3
    rw [hsl] at e1 ⊢
    refine kk p e R s m args below meth c X H' _ cells slots mc ms lsr Qs (hP.put hk h0 ?_ e2 e3) (hS.put e2 e3 (zk_ad_ge h0)) h1 h2 h3 h4 hL hE
    refine ⟨_, hc, t_OB.to (V := updV (vp_V (fs.map (zk_rv G))) j (zk_rv G v)) ⟨_, e1, q2, q3, t_set q4 hap hj (zk_rv G v)⟩ (fun i _ => ?_)⟩
    show _ = vp_V ((fs.set j v).map (zk_rv G)) i
    rw [List.map_set]
    exact vp_updV_set (by simpa using hj2) (zk_rv G v) i
  rcases hl with hl | ⟨host, hl⟩
  · exact W.putK X.1 X.2.1 (f := f) ⟨X.2.2.2.2.2.1, hts _ hl, ⟨_, _, _, hi⟩, hst⟩ (by rw [q2]; exact h6) q1 q3 (by rw [hsl]; exact k2_hasslot (q4 j hj)) (g := F0 m pc lsr (zk_rv G v :: .ref (zk_ad G k) :: st.map (zk_rv G))) rfl rfl hd fin
  · exact va_WputK X.1 X.2.1 (f := f) X.2.2.2.2.2.1 (va_Nw.use rfl (X.2.2.2.2.2.2.2.2.2.2.2.2.2.2.2.1 _ hl)) hi hst (by rw [q2]; exact h6) q1 q3 (by rw [hsl]; exact k2_hasslot (q4 j hj)) (g := F0 m pc lsr (zk_rv G v :: .ref (zk_ad G k) :: st.map (zk_rv G))) rfl rfl hd fin
/-- a final field, in a constructor -/
theorem zk_putF {k ci j index : Nat} {fs : List zk_V} {ty : FieldType} {v : zk_V} {h' : zk_H} (hf : zk_F M.1.cls index ci j ty true) (hin1 : M.1.name = "<init>") (hd : decode M.2.1 pc = .ok (.putfield index, 3)) (hk : h[k]? = some (.inr (ci, fs))) (h0 : k ≠ 0) (hj2 : j < fs.length) (hn : narrow ty (zk_rv G v) = zk_rv G v) (hfit : fits ty (zk_rv G v) = true) (hlk : ∀ (C : String) (T : u_T) (N : Nat), vwCl[ci]? = some (C, T, N) → Cond.fieldLink M.1.cls index (T j).1 (T j).2.1 (T j).2.2.1 ∈ zk_T) (hh : h.set k (.inr (ci, fs.set j v)) = h') (kk : zk_W G M d kc ks (pc + 3) ls st h' Q) : zk_W G M d kc ks pc ls (v :: .inr (some k) :: st) h Q := by
  intro p e R s m args below meth c X H locs cells slots mc ms lsr Qs hP hS h1 h2 h3 h4 hL hE
  subst hh
  obtain ⟨C, T, N, ty0, hc, hin, hty, hnm, hj, hty1, hfin, hdecl, -⟩ := hf
  have hl := hlk C T N hc
  have hdecl := hdecl rfl
  have hts := X.2.2.2.2.2.2.2.1
  have hK := X.2.2.2.2.2.2.2.2.1
  have hown := X.2.2.2.2.2.1
  have hap := va_apart (own := M.1.cls) hts hin ty0 hty hnm hK hc
  obtain ⟨r, g1, cell, q1, q2, q3, q4⟩ := hP.at hk h0
  have hr : r = (C, T, N) := Option.some.inj (g1.symm.trans hc)
  subst hr
  obtain ⟨hS', hfc, kC, hkC, hkind⟩ := hK.1 ci _ hc
  obtain ⟨cf, kf, fi, f, hi, hsl⟩ := hS' j hj
  have hlay := hts _ (hin _ (u_in_lay hj))
  unfold u_lay at hlay
  rw [if_pos hfin] at hlay
  have hst := (u_facts hfc hkC (u_lays hts hin hj) hi).1
  have hcf : m.cls = cf := by
    obtain ⟨_, _, c', _, _, _, -, -, hf', -, -, -, hown2, -⟩ := Cond.laysFinal_spec hlay
    have e1 : c' = cf := by have := hi.symm.trans hf'; simp at this; exact this.1.symm
    rw [hdecl] at hown2
    rw [← e1]; exact Option.some.inj (hown.symm.trans hown2)
  have h6 := u_fits hfc hkC hkind (Or.inr hlay) hi (hty j hj) (by rw [hty1]; exact hn) (by rw [hty1]; exact hfit)
  refine W.putFinK X.1 X.2.1 hown (hts _ hl) hi hst hcf (X.2.2.2.2.2.2.1.trans hin1) (by rw [q2]; exact h6) q1 q3 (by rw [hsl]; exact k2_hasslot (q4 j hj)) (g := F0 m pc lsr (zk_rv G v :: .ref (zk_ad G k) :: st.map (zk_rv G))) rfl rfl hd fun H' e1 e2 e3 => ?_
  rw [hsl] at e1 ⊢
  refine kk p e R s m args below meth c X H' _ cells slots mc ms lsr Qs (hP.put hk h0 ?_ e2 e3) (hS.put e2 e3 (zk_ad_ge h0)) h1 h2 h3 h4 hL hE
  refine ⟨_, hc, t_OB.to (V := updV (vp_V (fs.map (zk_rv G))) j (zk_rv G v)) ⟨_, e1, q2, q3, t_set q4 hap hj (zk_rv G v)⟩ (fun i _ => ?_)⟩
  show _ = vp_V ((fs.set j v).map (zk_rv G)) i
  rw [List.map_set]
  exact vp_updV_set (by simpa using hj2) (zk_rv G v) i
/-- an array is read: the script too -/
theorem zk_iald {k n : Nat} {f : Nat → Int} {i : Int} (hd : decode M.2.1 pc = .ok (.iaload, 1)) (hk : h[k]? = some (.inl (n, f))) (hi0 : 0 ≤ i) (hin : i < n) (hi : i < 2147483648) (kk : zk_W G M d kc ks (pc + 1) ls (.inl (f i.toNat) :: st) h Q) : zk_W G M d kc ks pc ls (.inl i :: .inr (some k) :: st) h Q := by
  intro p e R s m args below meth c X H locs cells slots mc ms lsr Qs hP hS h1 h2 h3 h4 hL hE
  have K := kk p e R s m args below meth c X H locs cells slots mc ms lsr Qs hP hS h1 h2 h3 h4 hL hE
  by_cases h0 : k = 0
  · subst h0
    have h5 := Option.some.inj (hk.symm.trans hP.2.1)
    cases h5
    have hlt : zk_gb G < s.heap.size := Nat.lt_of_lt_of_le X.2.2.2.2.2.2.2.2.2.2.1 X.2.2.2.2.2.2.2.2.2.2.2.1
    refine va_sld (rest := st.map (zk_rv G)) X.1 X.2.1 X.2.2.2.2.2.2.2.2.2.1 hlt (A := zk_A G) (Nat.not_le.mpr X.2.2.2.2.2.2.2.2.2.2.1) hS (zk_vin hi0 hin hi) hd ?_
    rw [zk_cl hi0 hi]
    have K' : W p (zk_gl G) e R s m args below meth c H locs cells slots Qs (F0 m (pc + 1) lsr (.int (Int32.ofInt (zk_gX G i.toNat).toInt) :: st.map (zk_rv G))) := K
    rw [Int32.ofInt_toInt] at K'
    exact K'
  · refine va_iald (cl := vwCl) (D := zk_gD G) (rest := st.map (zk_rv G)) (f := fun j => Int32.ofInt (f j)) X.1 X.2.1 X.2.2.2.2.2.2.2.2.1 (zk_one (hP.at hk h0)) 0 0 rfl rfl (zk_vin hi0 hin hi) hd ?_
    rw [zk_cl hi0 hi]
    exact K
theorem zk_iast {k n : Nat} {f : Nat → Int} {i x : Int} {h' : zk_H} (hd : decode M.2.1 pc = .ok (.iastore, 1)) (hk : h[k]? = some (.inl (n, f))) (h0 : k ≠ 0) (hi0 : 0 ≤ i) (hin : i < n) (hi : i < 2147483648) (hh : h.set k (.inl (n, zk_up f i.toNat x)) = h') (kk : zk_W G M d kc ks (pc + 1) ls st h' Q) : zk_W G M d kc ks pc ls (.inl x :: .inl i :: .inr (some k) :: st) h Q := by
  intro p e R s m args below meth c X H locs cells slots mc ms lsr Qs hP hS h1 h2 h3 h4 hL hE
  subst hh
  have hK := X.2.2.2.2.2.2.2.2.1
  have hA : H[zk_ad G k]? = some (vp_cell (zk_gI G) (n, .inl (fun j => Int32.ofInt (f j)))) := hP.at hk h0
  refine W.iast X.1 X.2.1 hA ((hK.2 0 _ rfl).1 n (fun j => .int (Int32.ofInt (f j)))) (fun q => by cases q) (by show ¬ (Int32.ofInt i < 0 ∨ (arrV _ _ _).slots.size ≤ _); rw [arrV_size]; exact zk_vin hi0 hin hi) (g := F0 m pc lsr (.int (Int32.ofInt x) :: .int (Int32.ofInt i) :: .ref (zk_ad G k) :: st.map (zk_rv G))) rfl rfl hd fun H1 e1 z oq => ?_
  refine kk p e R s m args below meth c X H1 _ cells slots mc ms lsr Qs (hP.put hk h0 ?_ z oq) (hS.put z oq (zk_ad_ge h0)) h1 h2 h3 h4 hL hE
  show H1[zk_ad G k]? = some (vp_cell _ _)
  rw [e1]
  rw [vp_cell_i, vp_cell_i, arrV_store]
  congr 2
  funext q
  rw [zk_cl hi0 hi]
  by_cases hq : q = i.toNat
  · simp [updV, zk_up, hq]
  · simp [updV, zk_up, hq]
theorem zk_alen {k n : Nat} {f : Nat → Int} (hd : decode M.2.1 pc = .ok (.arraylength, 1)) (hk : h[k]? = some (.inl (n, f))) (kk : zk_W G M d kc ks (pc + 1) ls (.inl (n : Int) :: st) h Q) : zk_W G M d kc ks pc ls (.inr (some k) :: st) h Q := by
  intro p e R s m args below meth c X H locs cells slots mc ms lsr Qs hP hS h1 h2 h3 h4 hL hE
  have K : W p (zk_gl G) e R s m args below meth c H locs cells slots Qs (F0 m (pc + 1) lsr (.int (Int32.ofInt (n : Int)) :: st.map (zk_rv G))) := kk p e R s m args below meth c X H locs cells slots mc ms lsr Qs hP hS h1 h2 h3 h4 hL hE
  rw [Int32.ofInt_eq_ofNat] at K
  by_cases h0 : k = 0
  · subst h0
    have h5 := Option.some.inj (hk.symm.trans hP.2.1)
    cases h5
    have hlt : zk_gb G < s.heap.size := Nat.lt_of_lt_of_le X.2.2.2.2.2.2.2.2.2.2.1 X.2.2.2.2.2.2.2.2.2.2.2.1
    exact va_slen (rest := st.map (zk_rv G)) X.1 X.2.1 X.2.2.2.2.2.2.2.2.2.1 hlt (A := zk_A G) (Nat.not_le.mpr X.2.2.2.2.2.2.2.2.2.2.1) hS hd K
  · exact va_alen (cl := vwCl) (D := zk_gD G) (rest := st.map (zk_rv G)) (x := (n, .inl (fun j => Int32.ofInt (f j)))) X.1 X.2.1 X.2.2.2.2.2.2.2.2.1 (zk_one (hP.at hk h0)) 0 0 rfl rfl rfl hd K
/-- a new array of ints -/
theorem zk_newa {n : Int} {h' : zk_H} {kc' ks' : Nat} {atype : ArrayType} (hd : decode M.2.1 pc = .ok (.newarray atype, 2)) (ha : newarray.typeOf atype = .int) (hw : Cond.arrayClass .int ∈ zk_T) (hn0 : 0 ≤ n) (hn : n ≤ 134217728) (hkc : kc = kc' + 1) (hks : ks = ks' + n.toNat) (hh : h ++ [.inl (n.toNat, fun _ => 0)] = h') (kk : zk_W G M d kc' ks' (pc + 2) ls (.inr (some h.length) :: st) h' Q) : zk_W G M d kc ks pc ls (.inl n :: st) h Q := by
  intro p e R s m args below meth c X H locs cells slots mc ms lsr Qs hP hS h1 h2 h3 h4 hL hE
  subst hh
  subst hkc
  subst hks
  have hts := X.2.2.2.2.2.2.2.1
  have hK := X.2.2.2.2.2.2.2.2.1
  refine va_newaK (N := n.toNat) X.1 X.2.1 (by rw [ha]; exact hts _ hw) (g := F0 m pc lsr (.int (Int32.ofInt n) :: st.map (zk_rv G))) rfl hd rfl (by rw [zk_0, zk_lt ⟨by omega, by omega⟩ zk_rg0]; omega) (zk_cl hn0 (by omega)) (by rw [ha]; show n.toNat * 4 ≤ _; omega) (by omega) (by omega) rfl fun H1 cA e1 z1 o1 hAr hNm => ?_
  have hcA : cA = zk_gI G := by
    have h5 : s.vm.findClass ("[" ++ (FieldType.int).toString) = some (zk_gI G) := (hK.2 0 _ rfl).2
    rw [ha] at hNm
    exact Option.some.inj (hNm.symm.trans h5)
  subst hcA
  rw [ha] at e1
  have hc : va_at (zk_gD G) vwCl (H.size, zk_ce G (.inl (n.toNat, fun _ => 0))) H1 := by
    show H1[H.size]? = some (vp_cell _ _)
    rw [e1, vp_cell_i]
    rfl
  obtain ⟨hP1, hz⟩ := hP.push hc z1 o1
  have K := kk p e R s m args below meth c X H1 locs (cells + 1) (slots + n.toNat) mc ms lsr Qs hP1 (zk_Spush hS z1 o1) (by omega) (by omega) h3 h4 hL hE
  have K' : W p (zk_gl G) e R s m args below meth c H1 locs (cells + 1) (slots + n.toNat) Qs (F0 m (pc + 2) lsr (.ref (zk_ad G h.length) :: st.map (zk_rv G))) := K
  rw [← hz] at K'
  exact K'
/-- a new object -/
theorem zk_new {index ci N : Nat} {fs : List zk_V} {h' : zk_H} {kc' ks' : Nat} (ho : zk_O M.1.cls index ci N fs) (hd : decode M.2.1 pc = .ok (.new index, 3)) (hkc : kc = kc' + 1) (hks : ks = ks' + N) (hh : h ++ [.inr (ci, fs)] = h') (kk : zk_W G M d kc' ks' (pc + 3) ls (.inr (some h.length) :: st) h' Q) : zk_W G M d kc ks pc ls st h Q := by
  intro p e R s m args below meth c X H locs cells slots mc ms lsr Qs hP hS h1 h2 h3 h4 hL hE
  subst hh
  subst hkc
  subst hks
  obtain ⟨C, T, ty0, hc, hin, hty, hw1, hw2, hw3, hfs⟩ := ho
  have hts := X.2.2.2.2.2.2.2.1
  have hKn := X.2.2.2.2.2.2.2.2.1.1 ci _ hc
  refine W.newcK X.1 X.2.1 X.2.2.2.2.2.1 (hts _ hw1) (hts _ hw2) (hts _ hw3) (g := F0 m pc lsr (st.map (zk_rv G))) rfl hd (by omega) (by omega) hKn.2.1 rfl fun H1 kC hkC e1 z1 o1 => ?_
  have hcc : va_at (zk_gD G) vwCl (H.size, zk_ce G (.inr (ci, fs))) H1 := ⟨_, hc, (u_born ty0 hts hin hKn hkC e1 hty).to (hfs G)⟩
  obtain ⟨hP1, hz⟩ := hP.push hcc z1 o1
  have K := kk p e R s m args below meth c X H1 locs (cells + 1) (slots + N) mc ms lsr Qs hP1 (zk_Spush hS z1 o1) (by omega) (by omega) h3 h4 hL hE
  have K' : W p (zk_gl G) e R s m args below meth c H1 locs (cells + 1) (slots + N) Qs (F0 m (pc + 3) lsr (.ref (zk_ad G h.length) :: st.map (zk_rv G))) := K
  rw [← hz] at K'
  exact K'
theorem zk_oinit {k index : Nat} (hd : decode M.2.1 pc = .ok (.invokespecial index, 3)) (hw : Cond.methodLink M.1.cls index Lib.objectInit ∈ zk_T) (hw2 : Cond.instanceMethod Lib.objectInit ∈ zk_T) (hw3 : Cond.code Lib.objectInit ⟨#[0xb1]⟩ 1 none ∈ zk_T) (hdp : 1 ≤ d.1 ∧ st.length + 12 ≤ d.2) (kk : zk_W G M d kc ks (pc + 3) ls st h Q) : zk_W G M d kc ks pc ls (.inr (some k) :: st) h Q := by
  intro p e R s m args below meth c X H locs cells slots mc ms lsr Qs hP hS h1 h2 h3 h4 hL hE
  have hts := X.2.2.2.2.2.2.2.1
  have hf := X.2.2.2.2.2.2.2.2.2.2.2.2.1
  have hlo := X.2.2.2.2.2.2.2.2.2.2.2.2.2.1
  refine W.objInit X.1 X.2.1 X.2.2.2.2.2.1 (hts _ hw) (hts _ hw2) (hts _ hw3) (g := F0 m pc lsr (.ref (zk_ad G k) :: st.map (zk_rv G))) rfl (hL.1.trans X.2.2.2.2.1.symm) rfl hd (by omega) (by show 2 * 0 + _ + 12 ≤ _; rw [zk_cat_sum]; omega) ?_
  exact kk p e R s m args below meth c X H locs cells slots mc ms lsr Qs hP hS h1 h2 h3 h4 hL hE
theorem zk_mmin {x y : Int} {index : Nat} (hd : decode M.2.1 pc = .ok (.invokestatic index, 3)) (hw : Cond.methodLink M.1.cls index Lib.Math.min.name ∈ zk_T) (hw2 : Cond.static Lib.Math.min.name ∈ zk_T) (hw3 : Cond.initialized "java/lang/Math" ∈ zk_T) (hw4 : Cond.code Lib.Math.min.name Lib.Math.min.code 2 (some .int) ∈ zk_T) (hdp : 1 ≤ d.1 ∧ st.length + 13 ≤ d.2) (hx : zk_rg x) (hy : zk_rg y) (kk : zk_W G M d kc ks (pc + 3) ls (.inl (min x y) :: st) h Q) : zk_W G M d kc ks pc ls (.inl y :: .inl x :: st) h Q := by
  intro p e R s m args below meth c X H locs cells slots mc ms lsr Qs hP hS h1 h2 h3 h4 hL hE
  have hts := X.2.2.2.2.2.2.2.1
  have hf := X.2.2.2.2.2.2.2.2.2.2.2.2.1
  have hlo := X.2.2.2.2.2.2.2.2.2.2.2.2.2.1
  refine va_mmin (x := Int32.ofInt x) (y := Int32.ofInt y) (rest := st.map (zk_rv G)) X.1 X.2.1 (X.2.2.2.2.1.trans hL.1.symm) X.2.2.2.2.2.1 (hts _ hw) (hts _ hw2) (hts _ hw3) (hts _ hw4) (by omega) (by rw [zk_cat_sum]; omega) (by omega) (by omega) hd ?_
  rw [show (if Int32.ofInt y < Int32.ofInt x then Int32.ofInt y else Int32.ofInt x) = Int32.ofInt (min x y) by
    by_cases hh : y < x
    · rw [if_pos ((zk_lt hy hx).mpr hh)]; congr 1; omega
    · rw [if_neg (fun z => hh ((zk_lt hy hx).mp z))]; congr 1; omega]
  exact kk p e R s m args below meth c X H locs cells slots mc ms lsr Qs hP hS h1 h2 h3 h4 hL hE
theorem zk_mmax {x y : Int} {index : Nat} (hd : decode M.2.1 pc = .ok (.invokestatic index, 3)) (hw : Cond.methodLink M.1.cls index Lib.Math.max.name ∈ zk_T) (hw2 : Cond.static Lib.Math.max.name ∈ zk_T) (hw3 : Cond.initialized "java/lang/Math" ∈ zk_T) (hw4 : Cond.code Lib.Math.max.name Lib.Math.max.code 2 (some .int) ∈ zk_T) (hdp : 1 ≤ d.1 ∧ st.length + 13 ≤ d.2) (hx : zk_rg x) (hy : zk_rg y) (kk : zk_W G M d kc ks (pc + 3) ls (.inl (max x y) :: st) h Q) : zk_W G M d kc ks pc ls (.inl y :: .inl x :: st) h Q := by
  intro p e R s m args below meth c X H locs cells slots mc ms lsr Qs hP hS h1 h2 h3 h4 hL hE
  have hts := X.2.2.2.2.2.2.2.1
  have hf := X.2.2.2.2.2.2.2.2.2.2.2.2.1
  have hlo := X.2.2.2.2.2.2.2.2.2.2.2.2.2.1
  refine va_mmax (x := Int32.ofInt x) (y := Int32.ofInt y) (rest := st.map (zk_rv G)) X.1 X.2.1 (X.2.2.2.2.1.trans hL.1.symm) X.2.2.2.2.2.1 (hts _ hw) (hts _ hw2) (hts _ hw3) (hts _ hw4) (by omega) (by rw [zk_cat_sum]; omega) (by omega) (by omega) hd ?_
  rw [show (if Int32.ofInt x < Int32.ofInt y then Int32.ofInt y else Int32.ofInt x) = Int32.ofInt (max x y) by
    by_cases hh : x < y
    · rw [if_pos ((zk_lt hx hy).mpr hh)]; congr 1; omega
    · rw [if_neg (fun z => hh ((zk_lt hx hy).mp z))]; congr 1; omega]
  exact kk p e R s m args below meth c X H locs cells slots mc ms lsr Qs hP hS h1 h2 h3 h4 hL hE
end ZkHeap
/-! calls -/
theorem zk_goodIn {y : MethodName} {b : ByteArray} {n : Nat} {r : Option FieldType} (hc : Cond.code y b n r ∈ zk_T) : GoodIn zk_T (.code y b n r :: zk_T) := by
  intro w hw
  rcases List.mem_cons.mp hw with rfl | hw
  · exact ⟨hc, Or.inl rfl⟩
  · exact ⟨hw, good_of_word (zk_good w hw)⟩
theorem zk_Xk {G : zk_G} {s U : State} {H : Heap} {locs : List Loc} (hX : va_X (zk_gb G) (zk_gL G) (zk_gX G) s s.heap) (hb : zk_gb G < zk_gB G) (hB : zk_gB G ≤ s.heap.size) (hS : va_S (zk_A G) s.heap H locs) (hU : U.heap = H) (hvm : s.vm.Alike U.vm) : va_X (zk_gb G) (zk_gL G) (zk_gX G) U U.heap := by
  have h1 : U.heap[zk_gb G]? = s.heap[zk_gb G]? := by rw [hU]; exact hS.2.1 _ (Nat.lt_of_lt_of_le hb hB) (Nat.not_le.mpr hb)
  exact (hX.kept h1).moved hvm
theorem zk_Sat {G : zk_G} {M : zk_M} {d : Nat × Nat} {p : Program} {R : Room} {s : State} {m : MethodId} {args : Array Value} {meth : Method} {c : Code} {h : zk_H} {H : Heap} {locs : List Loc} (X : zk_X G M d p R s m args meth c) (hP : zk_P G h H) (hS : va_S (zk_A G) s.heap H locs) (U : State) (hU : U.heap = H) (hW : s.WarmedH U.vm) : zk_S G h U := by
  obtain ⟨-, -, -, -, -, -, -, -, hK, hX, hb, hB, -, -, hL, hN⟩ := X
  exact ⟨by rw [hU]; exact hP, va_K.moved hW.alike hK, zk_Xk hX hb hB hS hU hW.alike, hb, hL, hN.warm hW⟩
theorem zk_blind (G : zk_G) (h : zk_H) (av : List Value) : FrameBlind (va_Pc av (zk_S G h)) := by
  intro a U g mk q
  obtain ⟨q0, q1, q2, q3, q4, q5, q6⟩ := q
  exact ⟨q0, q1, va_K.moved (u := U) (U := U.calling g mk a) (Vm.Alike.refl U.vm) q2, va_X.moved (u := U) (U := U.calling g mk a) (Vm.Alike.refl U.vm) q3, q4, q5, q6.same rfl⟩
section ZkCalls
variable {G : zk_G} {M : zk_M} {d : Nat × Nat} {kc ks pc : Nat} {ls : List (Option zk_V)} {st : List zk_V} {h : zk_H} {Q : Option zk_V → zk_H → Prop}
variable {M' : zk_M} {d' : Nat × Nat} {mc' ms' kc' ks' index n : Nat} {av : List zk_V} {Q' : Option zk_V → zk_H → Prop}
theorem zk_run {p : Program} {e : Env} {R : Room} {s : State} {m : MethodId} {args : Array Value} {below : List Frame} {meth : Method} {c : Code} (X : zk_X G M d p R s m args meth c)
    {H : Heap} {locs : List Loc} {cells slots mc ms : Nat} {lsr : Array Slot} {Qs : State → Prop} {st0 : List Value} (hS : va_S (zk_A G) s.heap H locs) (h1 : cells + kc ≤ mc) (h2 : slots + ks ≤ ms) (h3 : mc ≤ R.cells) (h4 : ms ≤ R.slots) (hL : zk_L G lsr M.2.2.1 ls) (hE : zk_E G M p e R s m args below meth c mc ms Qs Q)
    (hkc : kc = mc' + kc') (hks : ks = ms' + ks')
    (hr : va_Run p (zk_gl G) e R s m args below meth c H locs cells slots mc' ms' (F0 m pc lsr st0) (st.map (zk_rv G)) (fun st oc t => (∃ (v : Option zk_V) (h' : zk_H), oc = .returned (v.map (zk_rv G)) ∧ Q' v h' ∧ zk_S G h' t) ∧ va_F (zk_A G) st t) (zk_A G))
    (kk : ∀ (v : Option zk_V) (h' : zk_H), Q' v h' → zk_W G M d kc' ks' (pc + 3) ls (v.toList ++ st) h' Q) : W p (zk_gl G) e R s m args below meth c H locs cells slots Qs (F0 m pc lsr st0) := by
  intro T hT XT
  obtain ⟨v, st₀, t, T', L, h0, X', hL', e1, e2, ⟨⟨v', h', hv, hq, hs'⟩, hz, hk⟩, stp⟩ := hr T hT XT
  rw [h0] at hz hk
  have hv' : v = v'.map (zk_rv G) := by injection hv
  subst hv'
  have K := kk v' h' hq p e R s m args below meth c X T'.heap (locs ++ L) (cells + mc') (slots + ms') mc ms lsr Qs (by rw [e1]; exact hs'.1)
    ⟨Nat.le_trans hS.1 (by rw [e1]; exact hz), fun q g1 g2 => by rw [e1, hk q (Nat.lt_of_lt_of_le g1 hS.1) g2]; exact hS.2.1 q g1 g2, fun q hq => by
      rcases List.mem_append.mp hq with g | g
      · exact hS.2.2 q g
      · exact hL' q g⟩ (by omega) (by omega) h3 h4 hL hE
  have hst : (v'.toList ++ st).map (zk_rv G) = (v'.map (zk_rv G)).toList ++ st.map (zk_rv G) := by cases v' <;> rfl
  rw [hst] at K
  obtain ⟨t2, a1, b1⟩ := K T' rfl X'
  exact ⟨t2, stp t2 a1, b1⟩
theorem zk_callV {k ci : Nat} {fs : List zk_V} {S0 : List zk_V} (hb : zk_BV M.1.cls index ci M' n) (hd : decode M.2.1 pc = .ok (.invokevirtual index, 3)) (hk : h[k]? = some (.inr (ci, fs))) (h0 : k ≠ 0) (hn : av.length = n) (hS0 : S0 = av.reverse ++ .inr (some k) :: st) (hst : st.length ≤ 8) (hdd : d'.1 + 1 ≤ d.1 ∧ M'.2.2.1 + 19 + d'.2 ≤ d.2) (hkc : kc = mc' + kc') (hks : ks = ms' + ks')
    (hM : zk_K G M' d' mc' ms' (.inr (some k) :: av) h Q') (kk : ∀ (v : Option zk_V) (h' : zk_H), Q' v h' → zk_W G M d kc' ks' (pc + 3) ls (v.toList ++ st) h' Q) : zk_W G M d kc ks pc ls S0 h Q := by
  intro p e R s m args below meth c X H locs cells slots mc ms lsr Qs hP hS h1 h2 h3 h4 hL hE
  subst hS0
  obtain ⟨⟨hcd, hini, hmh, hpar, hlk⟩, hins, hsel, T, N, hci⟩ := hb
  have hts := X.2.2.2.2.2.2.2.1
  have hf := X.2.2.2.2.2.2.2.2.2.2.2.2.1
  have hlo := X.2.2.2.2.2.2.2.2.2.2.2.2.2.1
  have hpar' : ∀ sig, parseMethodDescriptor M'.1.desc = some sig → n = sig.parameters.length := fun sig hh => by
    rw [hh] at hpar
    exact (Option.some.inj hpar).symm
  have hpay := pay_in hts (zk_goodIn hcd)
  have hstk : (av.reverse ++ .inr (some k) :: st).map (zk_rv G) = (av.map (zk_rv G)).reverse ++ .ref (zk_ad G k) :: st.map (zk_rv G) := by rw [List.map_append, List.map_reverse]; rfl
  have hpre : PreV s H M'.1.cls (zk_ad G k) (va_Pc ((.inr (some k) :: av).map (zk_rv G)) (zk_S G h)) (av.map (zk_rv G)) :=
    ⟨zk_blind G h _, va_recv X.2.2.2.2.2.2.2.2.1 (zk_one (hP.at hk h0)) (q0 := 0) hci rfl, fun U hU hW => ⟨rfl, zk_Sat X hP hS U hU hW⟩⟩
  rw [hstk]
  rcases hlk with hlk | ⟨host, hlk⟩
  · exact zk_run X hS h1 h2 h3 h4 hL hE hkc hks (va_runV (As := av.map (zk_rv G)) (rest := st.map (zk_rv G)) (n := n) (bytes := M'.2.1) (maxL := M'.2.2.1) (ret := M'.2.2.2) ⟨X.1, X.2.1, X.2.2.2.2.1, X.2.2.2.2.2.1, hts⟩ hM
      ⟨⟨rfl, rfl, by show d'.1 + 1 ≤ R.frames; omega, by show 8 + (M'.2.2.1 + 11) + d'.2 ≤ R.locals; omega, hpay, List.mem_cons_self, hts _ hcd, hts _ hini, hmh, hpar', hts _ hlk⟩, hts _ hins, hts _ hsel⟩ hpre rfl (by rw [List.length_map]; exact hn) hL.1 rfl (lv_room (by rw [zk_cat_sum]; exact hst)) hd ⟨by omega, by omega⟩) kk
  · exact zk_run X hS h1 h2 h3 h4 hL hE hkc hks (va_runVN (As := av.map (zk_rv G)) (rest := st.map (zk_rv G)) (n := n) (bytes := M'.2.1) (maxL := M'.2.2.1) (ret := M'.2.2.2) (host := host) ⟨X.1, X.2.1, X.2.2.2.2.1, X.2.2.2.2.2.1, hts⟩ hM
      ⟨⟨⟨rfl, rfl, by show d'.1 + 1 ≤ R.frames; omega, by show 8 + (M'.2.2.1 + 11) + d'.2 ≤ R.locals; omega, hpay, List.mem_cons_self⟩, hts _ hcd, hts _ hini, hmh, hpar', va_Nw.use rfl (X.2.2.2.2.2.2.2.2.2.2.2.2.2.2.2.2 _ hlk)⟩, hts _ hins, hts _ hsel⟩ hpre rfl (by rw [List.length_map]; exact hn) hL.1 rfl (lv_room (by rw [zk_cat_sum]; exact hst)) hd ⟨by omega, by omega⟩) kk
theorem zk_callS {S0 : List zk_V} (hb : zk_BS M.1.cls index M' n) (hd : decode M.2.1 pc = .ok (.invokestatic index, 3)) (hn : av.length = n) (hS0 : S0 = av.reverse ++ st) (hst : st.length ≤ 8) (hdd : d'.1 + 1 ≤ d.1 ∧ M'.2.2.1 + 19 + d'.2 ≤ d.2) (hkc : kc = mc' + kc') (hks : ks = ms' + ks')
    (hM : zk_K G M' d' mc' ms' av h Q') (kk : ∀ (v : Option zk_V) (h' : zk_H), Q' v h' → zk_W G M d kc' ks' (pc + 3) ls (v.toList ++ st) h' Q) : zk_W G M d kc ks pc ls S0 h Q := by
  intro p e R s m args below meth c X H locs cells slots mc ms lsr Qs hP hS h1 h2 h3 h4 hL hE
  subst hS0
  obtain ⟨⟨hcd, hini, hmh, hpar, hlk⟩, hstc⟩ := hb
  have hts := X.2.2.2.2.2.2.2.1
  have hf := X.2.2.2.2.2.2.2.2.2.2.2.2.1
  have hlo := X.2.2.2.2.2.2.2.2.2.2.2.2.2.1
  have hpar' : ∀ sig, parseMethodDescriptor M'.1.desc = some sig → n = sig.parameters.length := fun sig hh => by
    rw [hh] at hpar
    exact (Option.some.inj hpar).symm
  have hpay := pay_in hts (zk_goodIn hcd)
  have hstk : (av.reverse ++ st).map (zk_rv G) = (av.map (zk_rv G)).reverse ++ st.map (zk_rv G) := by rw [List.map_append, List.map_reverse]
  have hpre : PreS s H (va_Pc (av.map (zk_rv G)) (zk_S G h)) (av.map (zk_rv G)) := ⟨zk_blind G h _, fun U hU hW => ⟨rfl, zk_Sat X hP hS U hU hW⟩⟩
  rw [hstk]
  rcases hlk with hlk | ⟨host, hlk⟩
  · exact zk_run X hS h1 h2 h3 h4 hL hE hkc hks (va_runS (As := av.map (zk_rv G)) (rest := st.map (zk_rv G)) (n := n) (bytes := M'.2.1) (maxL := M'.2.2.1) (ret := M'.2.2.2) ⟨X.1, X.2.1, X.2.2.2.2.1, X.2.2.2.2.2.1, hts⟩ hM
      ⟨⟨rfl, rfl, by show d'.1 + 1 ≤ R.frames; omega, by show 8 + (M'.2.2.1 + 11) + d'.2 ≤ R.locals; omega, hpay, List.mem_cons_self, hts _ hcd, hts _ hini, hmh, hpar', hts _ hlk⟩, hts _ hstc⟩ hpre rfl (by rw [List.length_map]; exact hn) hL.1 rfl (lv_room (by rw [zk_cat_sum]; exact hst)) hd ⟨by omega, by omega⟩) kk
  · exact zk_run X hS h1 h2 h3 h4 hL hE hkc hks (va_runSN (As := av.map (zk_rv G)) (rest := st.map (zk_rv G)) (n := n) (bytes := M'.2.1) (maxL := M'.2.2.1) (ret := M'.2.2.2) (host := host) ⟨X.1, X.2.1, X.2.2.2.2.1, X.2.2.2.2.2.1, hts⟩ hM
      ⟨⟨⟨rfl, rfl, by show d'.1 + 1 ≤ R.frames; omega, by show 8 + (M'.2.2.1 + 11) + d'.2 ≤ R.locals; omega, hpay, List.mem_cons_self⟩, hts _ hcd, hts _ hini, hmh, hpar', va_Nw.use rfl (X.2.2.2.2.2.2.2.2.2.2.2.2.2.2.2.2 _ hlk)⟩, hts _ hstc, trivial⟩ hpre rfl (by rw [List.length_map]; exact hn) hL.1 rfl (lv_room (by rw [zk_cat_sum]; exact hst)) hd ⟨by omega, by omega⟩) kk
theorem zk_callI {k : Nat} {S0 : List zk_V} (hb : zk_BI M.1.cls index M' n) (hd : decode M.2.1 pc = .ok (.invokespecial index, 3)) (hn : av.length = n) (hS0 : S0 = av.reverse ++ .inr (some k) :: st) (hst : st.length ≤ 8) (hdd : d'.1 + 1 ≤ d.1 ∧ M'.2.2.1 + 19 + d'.2 ≤ d.2) (hkc : kc = mc' + kc') (hks : ks = ms' + ks')
    (hM : zk_K G M' d' mc' ms' (.inr (some k) :: av) h Q') (kk : ∀ (v : Option zk_V) (h' : zk_H), Q' v h' → zk_W G M d kc' ks' (pc + 3) ls (v.toList ++ st) h' Q) : zk_W G M d kc ks pc ls S0 h Q := by
  intro p e R s m args below meth c X H locs cells slots mc ms lsr Qs hP hS h1 h2 h3 h4 hL hE
  subst hS0
  obtain ⟨⟨hcd, hini, hmh, hpar, hlk⟩, hins, hnm, hret⟩ := hb
  have hts := X.2.2.2.2.2.2.2.1
  have hf := X.2.2.2.2.2.2.2.2.2.2.2.2.1
  have hlo := X.2.2.2.2.2.2.2.2.2.2.2.2.2.1
  have hpar' : ∀ sig, parseMethodDescriptor M'.1.desc = some sig → n = sig.parameters.length := fun sig hh => by
    rw [hh] at hpar
    exact (Option.some.inj hpar).symm
  have hpay := pay_in hts (zk_goodIn hcd)
  rw [hret] at hcd hpay
  have hmem : Cond.code M'.1 M'.2.1 M'.2.2.1 none ∈ Cond.code M'.1 M'.2.1 M'.2.2.1 M'.2.2.2 :: zk_T := by rw [hret]; exact List.mem_cons_self
  have hstk : (av.reverse ++ .inr (some k) :: st).map (zk_rv G) = (av.map (zk_rv G)).reverse ++ .ref (zk_ad G k) :: st.map (zk_rv G) := by rw [List.map_append, List.map_reverse]; rfl
  have hpre : PreS s H (va_Pc ((.inr (some k) :: av).map (zk_rv G)) (zk_S G h)) (.ref (zk_ad G k) :: av.map (zk_rv G)) := ⟨zk_blind G h _, fun U hU hW => ⟨rfl, zk_Sat X hP hS U hU hW⟩⟩
  rw [hstk]
  rcases hlk with hlk | ⟨host, hlk⟩
  · exact zk_run X hS h1 h2 h3 h4 hL hE hkc hks (va_runI (As := av.map (zk_rv G)) (rest := st.map (zk_rv G)) (n := n) (bytes := M'.2.1) (maxL := M'.2.2.1) ⟨X.1, X.2.1, X.2.2.2.2.1, X.2.2.2.2.2.1, hts⟩ hM
      ⟨⟨rfl, rfl, by show d'.1 + 1 ≤ R.frames; omega, by show 8 + (M'.2.2.1 + 11) + d'.2 ≤ R.locals; omega, by rw [hret]; exact hpay, hmem, hts _ hcd, hts _ hini, hmh, hpar', hts _ hlk⟩, hnm, hts _ hins⟩ hpre rfl (by rw [List.length_map]; exact hn) hL.1 rfl (lv_room (by rw [zk_cat_sum]; exact hst)) hd ⟨by omega, by omega⟩) kk
  · exact zk_run X hS h1 h2 h3 h4 hL hE hkc hks (va_runIN (As := av.map (zk_rv G)) (rest := st.map (zk_rv G)) (n := n) (bytes := M'.2.1) (maxL := M'.2.2.1) (host := host) ⟨X.1, X.2.1, X.2.2.2.2.1, X.2.2.2.2.2.1, hts⟩ hM
      ⟨⟨⟨rfl, rfl, by show d'.1 + 1 ≤ R.frames; omega, by show 8 + (M'.2.2.1 + 11) + d'.2 ≤ R.locals; omega, by rw [hret]; exact hpay, hmem⟩, hts _ hcd, hts _ hini, hmh, hpar', va_Nw.use rfl (X.2.2.2.2.2.2.2.2.2.2.2.2.2.2.2.2 _ hlk)⟩, hnm, hts _ hins⟩ hpre rfl (by rw [List.length_map]; exact hn) hL.1 rfl (lv_room (by rw [zk_cat_sum]; exact hst)) hd ⟨by omega, by omega⟩) kk
end ZkCalls
/-! from a walk to a contract -/
theorem zk_args_in (G : zk_G) : ∀ (av : List zk_V) (i k : Nat) (v : zk_V), av[k]? = some v → (i + k, zk_rv G v) ∈ lv_args i (av.map (zk_rv G))
  | [], _, _, _, h => by simp at h
  | a :: l, i, 0, v, h => by
    cases h
    exact List.mem_cons_self
  | a :: l, i, k + 1, v, h => by
    refine List.mem_cons_of_mem _ ?_
    rw [if_neg (by rw [zk_rv_cat]; decide)]
    have h2 := zk_args_in G l (i + 1) k v (by simpa using h)
    rw [show i + (k + 1) = i + 1 + k by omega]
    exact h2
theorem zk_sl_len (G : zk_G) (av : List zk_V) : (lg_sl (av.map (zk_rv G))).length = av.length := by
  induction av with
  | nil => rfl
  | cons a l ih =>
    have h2 : lg_sl ((a :: l).map (zk_rv G)) = [.val (zk_rv G a)] ++ lg_sl (l.map (zk_rv G)) := by
      show (List.flatMap _ _) = _
      rw [List.map_cons, List.flatMap_cons, if_neg (by rw [zk_rv_cat]; decide)]
      rfl
    rw [h2, List.length_append, ih]
    simp
    omega
theorem zk_K.of {G : zk_G} {M : zk_M} {d : Nat × Nat} {mc ms : Nat} {av : List zk_V} {h : zk_H} {Q : Option zk_V → zk_H → Prop} (hpl : plainName M.1.cls = true) (hlen : av.length ≤ M.2.2.1) {ls : List (Option zk_V)} (hls : ls = av.map some ++ List.replicate (M.2.2.1 - av.length) none)
    (w : zk_W G M d mc ms 0 ls [] h Q) : zk_K G M d mc ms av h Q := by
  refine Met.ofW (cc := M.2.1) (maxL := M.2.2.1) (ret := M.2.2.2) hpl rfl ?_
  intro p e s m args below meth c s₁ B hml hv
  obtain ⟨rfl, hs⟩ := hv
  obtain ⟨hP, hK, hX, hb, hLs, hN⟩ := hs
  have hts0 := atoms_spec (ws := .code M.1 M.2.1 M.2.2.1 M.2.2.2 :: zk_T) B.pre
  have hts : ∀ w ∈ zk_T, w.before ((av.map (zk_rv G)).toArray) s = true := fun w hw => hts0 w (List.mem_cons_of_mem _ hw)
  have hown : s.vm.findClass M.1.cls = some m.cls := findClass_of_methodNamed B.named
  have hlocks := B.notSynchronized
  have hnm : meth.name = M.1.name := (name_of_methodNamed B.named B.method).1
  have X : zk_X G M d p ({ frames := d.1, cells := mc, slots := ms, locals := d.2 } : Room) s m ((av.map (zk_rv G)).toArray) meth c := ⟨B.exec, B.bytes, B.returns, hlocks, hml, hown, hnm, hts, hK, hX, hb, hP.lt, Nat.le_refl _, Nat.le_refl _, hLs, hN⟩
  have hl := lv_entry (av.map (zk_rv G)) (n := M.2.2.1) (by rw [zk_sl_len]; exact hlen)
  rw [lg_entry_eq]
  refine w p e _ s m _ below meth c X s.heap [] 0 0 mc ms _ _ hP va_S.rf (by omega) (by omega) (Nat.le_refl _) (Nat.le_refl _) ⟨hl.1, hl.2.1, fun k v hk => ?_⟩ ?_
  · have hk2 : av[k]? = some v := by
      rw [hls] at hk
      by_cases hkl : k < av.length
      · rw [List.getElem?_append_left (by simpa using hkl), List.getElem?_map] at hk
        cases hx : av[k]? with
        | none => rw [hx] at hk; cases hk
        | some x => rw [hx] at hk; cases hk; rfl
      · rw [List.getElem?_append_right (by simpa using hkl)] at hk
        have h7 := List.mem_of_getElem? hk
        have h8 := List.eq_of_mem_replicate h7
        cases h8
    have h3 := zk_args_in G av 0 k v hk2
    rw [Nat.zero_add] at h3
    exact hl.2.2 _ h3
  · intro v h' H' locs' pc' ls' hq hP' hS' hR
    match v, hR with
    | none, hR => exact W.vret B.exec B.bytes (B.returns.trans hR.1) (fun t ht hW => ⟨⟨none, h', rfl, hq, zk_Sat X hP' hS' t ht hW⟩, hS'.F ht⟩) hS'.2.2 hR.2
    | some (.inl z), hR =>
      obtain ⟨hd, ty, hr, hn⟩ := hR
      exact W.zret B.exec B.bytes (B.returns.trans hr) hn (fun t ht hW => ⟨⟨some (.inl z), h', rfl, hq, zk_Sat X hP' hS' t ht hW⟩, hS'.F ht⟩) hS'.2.2 hd
    | some (.inr r), hR =>
      obtain ⟨hd, rt, hr, hrt⟩ := hR
      have hv : zk_rv G (.inr r) = .null ∨ ∃ a, zk_rv G (.inr r) = .ref a := by
        cases r with
        | none => exact Or.inl rfl
        | some k => exact Or.inr ⟨_, rfl⟩
      exact W.aret B.exec B.bytes (B.returns.trans hr) hrt hv (fun t ht hW => ⟨⟨some (.inr r), h', rfl, hq, zk_Sat X hP' hS' t ht hW⟩, hS'.F ht⟩) hS'.2.2 hd
/-! weakening -/
theorem zk_W.mono {G : zk_G} {M : zk_M} {d : Nat × Nat} {kc ks pc : Nat} {ls : List (Option zk_V)} {st : List zk_V} {h : zk_H} {Q Q' : Option zk_V → zk_H → Prop} (w : zk_W G M d kc ks pc ls st h Q) (hq : ∀ v h', Q v h' → Q' v h') : zk_W G M d kc ks pc ls st h Q' :=
  fun p e R s m args below meth c X H locs cells slots mc ms lsr Qs hP hS h1 h2 h3 h4 hL hE => w p e R s m args below meth c X H locs cells slots mc ms lsr Qs hP hS h1 h2 h3 h4 hL (fun v h' H' locs' pc' ls' hq' => hE v h' H' locs' pc' ls' (hq v h' hq'))
theorem zk_W.to {G : zk_G} {M : zk_M} {d : Nat × Nat} {kc ks pc : Nat} {ls ls' : List (Option zk_V)} {st st' : List zk_V} {h h' : zk_H} {Q : Option zk_V → zk_H → Prop} (e1 : ls = ls') (e2 : st = st') (e3 : h = h') (w : zk_W G M d kc ks pc ls' st' h' Q) : zk_W G M d kc ks pc ls st h Q := by
  subst e1; subst e2; subst e3; exact w
