section ZkRows
variable {G : zk_G} {M : zk_M} {d : Nat × Nat} {kc ks pc : Nat} {ls : List (Option zk_V)} {st : List zk_V} {h : zk_H} {Q : Option zk_V → zk_H → Prop}
theorem zk_iconst {z : Int} (hd : decode M.2.1 pc = .ok (.iconst z, 1)) (kk : zk_W G M d kc ks (pc + 1) ls (.inl z :: st) h Q) : zk_W G M d kc ks pc ls st h Q := by
  intro p e R s m args below meth c X H locs cells slots mc ms lsr Qs hP hS h1 h2 h3 h4 hL hE
  exact lv_iconst X.1 X.2.1 hd rfl (kk p e R s m args below meth c X H locs cells slots mc ms lsr Qs hP hS h1 h2 h3 h4 hL hE)
theorem zk_bipush {z : Int} (hd : decode M.2.1 pc = .ok (.bipush z, 2)) (hv : (Int8.ofInt z).toInt32 = Int32.ofInt z) (kk : zk_W G M d kc ks (pc + 2) ls (.inl z :: st) h Q) : zk_W G M d kc ks pc ls st h Q := by
  intro p e R s m args below meth c X H locs cells slots mc ms lsr Qs hP hS h1 h2 h3 h4 hL hE
  exact lv_bipush X.1 X.2.1 hd hv (kk p e R s m args below meth c X H locs cells slots mc ms lsr Qs hP hS h1 h2 h3 h4 hL hE)
theorem zk_sipush {z : Int} (hd : decode M.2.1 pc = .ok (.sipush z, 3)) (hv : (Int16.ofInt z).toInt32 = Int32.ofInt z) (kk : zk_W G M d kc ks (pc + 3) ls (.inl z :: st) h Q) : zk_W G M d kc ks pc ls st h Q := by
  intro p e R s m args below meth c X H locs cells slots mc ms lsr Qs hP hS h1 h2 h3 h4 hL hE
  exact lv_sipush X.1 X.2.1 hd hv (kk p e R s m args below meth c X H locs cells slots mc ms lsr Qs hP hS h1 h2 h3 h4 hL hE)
theorem zk_ldc {z : Int} {index : Nat} (hd : decode M.2.1 pc = .ok (.ldc index, 2)) (hw : Cond.constant M.1.cls index (Int32.ofInt z) ∈ zk_T) (kk : zk_W G M d kc ks (pc + 2) ls (.inl z :: st) h Q) : zk_W G M d kc ks pc ls st h Q := by
  intro p e R s m args below meth c X H locs cells slots mc ms lsr Qs hP hS h1 h2 h3 h4 hL hE
  exact lv_ldc X.1 X.2.1 X.2.2.2.2.2.1 (X.2.2.2.2.2.2.2.1 _ hw) hd (kk p e R s m args below meth c X H locs cells slots mc ms lsr Qs hP hS h1 h2 h3 h4 hL hE)
theorem zk_iload_n {z : Int} {k : Fin 4} (hd : decode M.2.1 pc = .ok (.iload_n k, 1)) (hl : ls[k.val]? = some (some (.inl z))) (kk : zk_W G M d kc ks (pc + 1) ls (.inl z :: st) h Q) : zk_W G M d kc ks pc ls st h Q := by
  intro p e R s m args below meth c X H locs cells slots mc ms lsr Qs hP hS h1 h2 h3 h4 hL hE
  exact lv_iload_n X.1 X.2.1 hd rfl (hL.2.2 _ _ hl) (kk p e R s m args below meth c X H locs cells slots mc ms lsr Qs hP hS h1 h2 h3 h4 hL hE)
theorem zk_iload {z : Int} {k : Nat} (hd : decode M.2.1 pc = .ok (.iload k, 2)) (hl : ls[k]? = some (some (.inl z))) (kk : zk_W G M d kc ks (pc + 2) ls (.inl z :: st) h Q) : zk_W G M d kc ks pc ls st h Q := by
  intro p e R s m args below meth c X H locs cells slots mc ms lsr Qs hP hS h1 h2 h3 h4 hL hE
  exact lv_iload X.1 X.2.1 hd (hL.2.2 _ _ hl) (kk p e R s m args below meth c X H locs cells slots mc ms lsr Qs hP hS h1 h2 h3 h4 hL hE)
theorem zk_aload_n {z : Nat} {k : Fin 4} (hd : decode M.2.1 pc = .ok (.aload_n k, 1)) (hl : ls[k.val]? = some (some (.inr (some z)))) (kk : zk_W G M d kc ks (pc + 1) ls (.inr (some z) :: st) h Q) : zk_W G M d kc ks pc ls st h Q := by
  intro p e R s m args below meth c X H locs cells slots mc ms lsr Qs hP hS h1 h2 h3 h4 hL hE
  exact lv_aload_n X.1 X.2.1 hd rfl (hL.2.2 _ _ hl) (kk p e R s m args below meth c X H locs cells slots mc ms lsr Qs hP hS h1 h2 h3 h4 hL hE)
theorem zk_aload {z : Nat} {k : Nat} (hd : decode M.2.1 pc = .ok (.aload k, 2)) (hl : ls[k]? = some (some (.inr (some z)))) (kk : zk_W G M d kc ks (pc + 2) ls (.inr (some z) :: st) h Q) : zk_W G M d kc ks pc ls st h Q := by
  intro p e R s m args below meth c X H locs cells slots mc ms lsr Qs hP hS h1 h2 h3 h4 hL hE
  exact lv_aload X.1 X.2.1 hd (hL.2.2 _ _ hl) (kk p e R s m args below meth c X H locs cells slots mc ms lsr Qs hP hS h1 h2 h3 h4 hL hE)
theorem zk_istore_n {z : Int} {k : Fin 4} {ls' : List (Option zk_V)} (hd : decode M.2.1 pc = .ok (.istore_n k, 1)) (hi : k.val < M.2.2.1) (hl : ls.set k.val (some (.inl z)) = ls') (kk : zk_W G M d kc ks (pc + 1) ls' st h Q) : zk_W G M d kc ks pc ls (.inl z :: st) h Q := by
  intro p e R s m args below meth c X H locs cells slots mc ms lsr Qs hP hS h1 h2 h3 h4 hL hE
  subst hl
  exact lv_istore_n X.1 X.2.1 hd rfl (zk_all_has hL.1 hL.2.1) hi rfl (fun lsr2 hl2 => (kk p e R s m args below meth c X H locs cells slots mc ms lsr2 Qs hP hS h1 h2 h3 h4 (hL.set (v := .inl z) hl2) hE))
theorem zk_istore {z : Int} {k : Nat} {ls' : List (Option zk_V)} (hd : decode M.2.1 pc = .ok (.istore k, 2)) (hi : k < M.2.2.1) (hl : ls.set k (some (.inl z)) = ls') (kk : zk_W G M d kc ks (pc + 2) ls' st h Q) : zk_W G M d kc ks pc ls (.inl z :: st) h Q := by
  intro p e R s m args below meth c X H locs cells slots mc ms lsr Qs hP hS h1 h2 h3 h4 hL hE
  subst hl
  exact lv_istore X.1 X.2.1 hd (zk_all_has hL.1 hL.2.1) hi rfl (fun lsr2 hl2 => (kk p e R s m args below meth c X H locs cells slots mc ms lsr2 Qs hP hS h1 h2 h3 h4 (hL.set (v := .inl z) hl2) hE))
theorem zk_astore_n {z : Nat} {k : Fin 4} {ls' : List (Option zk_V)} (hd : decode M.2.1 pc = .ok (.astore_n k, 1)) (hi : k.val < M.2.2.1) (hl : ls.set k.val (some (.inr (some z))) = ls') (kk : zk_W G M d kc ks (pc + 1) ls' st h Q) : zk_W G M d kc ks pc ls (.inr (some z) :: st) h Q := by
  intro p e R s m args below meth c X H locs cells slots mc ms lsr Qs hP hS h1 h2 h3 h4 hL hE
  subst hl
  exact lv_astore_n X.1 X.2.1 hd rfl (zk_all_has hL.1 hL.2.1) hi rfl (fun lsr2 hl2 => (kk p e R s m args below meth c X H locs cells slots mc ms lsr2 Qs hP hS h1 h2 h3 h4 (hL.set (v := .inr (some z)) hl2) hE))
theorem zk_astore {z : Nat} {k : Nat} {ls' : List (Option zk_V)} (hd : decode M.2.1 pc = .ok (.astore k, 2)) (hi : k < M.2.2.1) (hl : ls.set k (some (.inr (some z))) = ls') (kk : zk_W G M d kc ks (pc + 2) ls' st h Q) : zk_W G M d kc ks pc ls (.inr (some z) :: st) h Q := by
  intro p e R s m args below meth c X H locs cells slots mc ms lsr Qs hP hS h1 h2 h3 h4 hL hE
  subst hl
  exact lv_astore X.1 X.2.1 hd (zk_all_has hL.1 hL.2.1) hi rfl (fun lsr2 hl2 => (kk p e R s m args below meth c X H locs cells slots mc ms lsr2 Qs hP hS h1 h2 h3 h4 (hL.set (v := .inr (some z)) hl2) hE))
theorem zk_iinc {z n : Int} {k : Nat} {ls' : List (Option zk_V)} (hd : decode M.2.1 pc = .ok (.iinc k n, 3)) (hg : ls[k]? = some (some (.inl z))) (hi : k < M.2.2.1) (hl : ls.set k (some (.inl (z + n))) = ls') (kk : zk_W G M d kc ks (pc + 3) ls' st h Q) : zk_W G M d kc ks pc ls st h Q := by
  intro p e R s m args below meth c X H locs cells slots mc ms lsr Qs hP hS h1 h2 h3 h4 hL hE
  subst hl
  obtain ⟨k0, hk0⟩ := List.getElem?_of_mem (zk_all_in (hL.2.2 _ _ hg))
  exact lv_iinc X.1 X.2.1 hd (zk_all_has hL.1 hL.2.1) hk0 (Int32.ofInt_add z n).symm hi rfl (fun lsr2 hl2 => (kk p e R s m args below meth c X H locs cells slots mc ms lsr2 Qs hP hS h1 h2 h3 h4 (hL.set (v := .inl (z + n)) hl2) hE))
theorem zk_iadd {x y : Int} (hd : decode M.2.1 pc = .ok (.iadd, 1)) (kk : zk_W G M d kc ks (pc + 1) ls (.inl (x + y) :: st) h Q) : zk_W G M d kc ks pc ls (.inl y :: .inl x :: st) h Q := by
  intro p e R s m args below meth c X H locs cells slots mc ms lsr Qs hP hS h1 h2 h3 h4 hL hE
  refine lv_iadd (x := Int32.ofInt x) (y := Int32.ofInt y) (rest := st.map (zk_rv G)) X.1 X.2.1 hd ?_
  rw [← Int32.ofInt_add x y]
  exact (kk p e R s m args below meth c X H locs cells slots mc ms lsr Qs hP hS h1 h2 h3 h4 hL hE)
theorem zk_isub {x y : Int} (hd : decode M.2.1 pc = .ok (.isub, 1)) (kk : zk_W G M d kc ks (pc + 1) ls (.inl (x - y) :: st) h Q) : zk_W G M d kc ks pc ls (.inl y :: .inl x :: st) h Q := by
  intro p e R s m args below meth c X H locs cells slots mc ms lsr Qs hP hS h1 h2 h3 h4 hL hE
  refine lv_isub (x := Int32.ofInt x) (y := Int32.ofInt y) (rest := st.map (zk_rv G)) X.1 X.2.1 hd ?_
  rw [← Int32.ofInt_sub x y]
  exact (kk p e R s m args below meth c X H locs cells slots mc ms lsr Qs hP hS h1 h2 h3 h4 hL hE)
theorem zk_imul {x y : Int} (hd : decode M.2.1 pc = .ok (.imul, 1)) (kk : zk_W G M d kc ks (pc + 1) ls (.inl (x * y) :: st) h Q) : zk_W G M d kc ks pc ls (.inl y :: .inl x :: st) h Q := by
  intro p e R s m args below meth c X H locs cells slots mc ms lsr Qs hP hS h1 h2 h3 h4 hL hE
  refine lv_imul (x := Int32.ofInt x) (y := Int32.ofInt y) (rest := st.map (zk_rv G)) X.1 X.2.1 hd ?_
  rw [← Int32.ofInt_mul x y]
  exact (kk p e R s m args below meth c X H locs cells slots mc ms lsr Qs hP hS h1 h2 h3 h4 hL hE)
theorem zk_ineg {x : Int} (hd : decode M.2.1 pc = .ok (.ineg, 1)) (kk : zk_W G M d kc ks (pc + 1) ls (.inl (-x) :: st) h Q) : zk_W G M d kc ks pc ls (.inl x :: st) h Q := by
  intro p e R s m args below meth c X H locs cells slots mc ms lsr Qs hP hS h1 h2 h3 h4 hL hE
  refine lv_ineg (x := Int32.ofInt x) (rest := st.map (zk_rv G)) X.1 X.2.1 hd ?_
  rw [← Int32.ofInt_neg x]
  exact (kk p e R s m args below meth c X H locs cells slots mc ms lsr Qs hP hS h1 h2 h3 h4 hL hE)
theorem zk_dv {x y : Int} (hx : 0 ≤ x) (hx2 : zk_rg x) (hy : 0 < y) (hy2 : zk_rg y) : Int32.ofInt x / Int32.ofInt y = Int32.ofInt (x / y) := by
  rw [← Int.tdiv_eq_ediv_of_nonneg hx]
  exact (Int32.ofInt_tdiv (by show (-2147483648 : Int) ≤ x; omega) (by have := hx2.2; show x ≤ (2147483647 : Int); omega) (by show (-2147483648 : Int) ≤ y; omega) (by have := hy2.2; show y ≤ (2147483647 : Int); omega)).symm
theorem zk_ne0 {y : Int} (hy : 0 < y) (hy2 : zk_rg y) : ¬ Int32.ofInt y = 0 := by
  rw [zk_0, zk_eq hy2 zk_rg0]
  omega
theorem zk_idiv {x y : Int} (hd : decode M.2.1 pc = .ok (.idiv, 1)) (hx : 0 ≤ x) (hx2 : zk_rg x) (hy : 0 < y) (hy2 : zk_rg y) (kk : zk_W G M d kc ks (pc + 1) ls (.inl (x / y) :: st) h Q) : zk_W G M d kc ks pc ls (.inl y :: .inl x :: st) h Q := by
  intro p e R s m args below meth c X H locs cells slots mc ms lsr Qs hP hS h1 h2 h3 h4 hL hE
  refine lv_idiv (x := Int32.ofInt x) (y := Int32.ofInt y) (rest := st.map (zk_rv G)) X.1 X.2.1 hd (zk_ne0 hy hy2) ?_
  rw [zk_dv hx hx2 hy hy2]
  exact (kk p e R s m args below meth c X H locs cells slots mc ms lsr Qs hP hS h1 h2 h3 h4 hL hE)
theorem zk_irem {x y : Int} (hd : decode M.2.1 pc = .ok (.irem, 1)) (hx : 0 ≤ x) (hx2 : zk_rg x) (hy : 0 < y) (hy2 : zk_rg y) (kk : zk_W G M d kc ks (pc + 1) ls (.inl (x % y) :: st) h Q) : zk_W G M d kc ks pc ls (.inl y :: .inl x :: st) h Q := by
  intro p e R s m args below meth c X H locs cells slots mc ms lsr Qs hP hS h1 h2 h3 h4 hL hE
  refine lv_irem (x := Int32.ofInt x) (y := Int32.ofInt y) (rest := st.map (zk_rv G)) X.1 X.2.1 hd (zk_ne0 hy hy2) ?_
  rw [zk_dv hx hx2 hy hy2, ← Int32.ofInt_mul, ← Int32.ofInt_sub, show x - x / y * y = x % y by rw [Int.emod_def, Int.mul_comm]]
  exact (kk p e R s m args below meth c X H locs cells slots mc ms lsr Qs hP hS h1 h2 h3 h4 hL hE)
theorem zk_and31 (x : Int) : Int32.ofInt x &&& Int32.ofInt 31 = Int32.ofInt (x % 32) := by
  have h := pk_and (Int32.ofInt x) (m := Int32.ofInt 31) 5 rfl
  rw [h]
  have h2 : ((Int32.ofInt x).toBitVec.toNat : Int) = x % 4294967296 := by
    rw [Int32.toBitVec_ofInt, BitVec.toNat_ofInt]
    have := Int.emod_nonneg x (show ((2 ^ 32 : Nat) : Int) ≠ 0 by decide)
    rw [Int.toNat_of_nonneg this]
    rfl
  show Int32.ofNat _ = _
  rw [← Int32.ofInt_eq_ofNat]
  congr 1
  show (((Int32.ofInt x).toBitVec.toNat % 32 : Nat) : Int) = x % 32
  omega
theorem zk_iand31 {x : Int} (hd : decode M.2.1 pc = .ok (.iand, 1)) (kk : zk_W G M d kc ks (pc + 1) ls (.inl (x % 32) :: st) h Q) : zk_W G M d kc ks pc ls (.inl 31 :: .inl x :: st) h Q := by
  intro p e R s m args below meth c X H locs cells slots mc ms lsr Qs hP hS h1 h2 h3 h4 hL hE
  refine lv_iand (x := Int32.ofInt x) (y := Int32.ofInt 31) (rest := st.map (zk_rv G)) X.1 X.2.1 hd ?_
  rw [zk_and31 x]
  exact (kk p e R s m args below meth c X H locs cells slots mc ms lsr Qs hP hS h1 h2 h3 h4 hL hE)
theorem zk_dup {v : zk_V} (hd : decode M.2.1 pc = .ok (.dup, 1)) (kk : zk_W G M d kc ks (pc + 1) ls (v :: v :: st) h Q) : zk_W G M d kc ks pc ls (v :: st) h Q := by
  intro p e R s m args below meth c X H locs cells slots mc ms lsr Qs hP hS h1 h2 h3 h4 hL hE
  exact lv_dup X.1 X.2.1 hd (zk_rv_cat G v) (kk p e R s m args below meth c X H locs cells slots mc ms lsr Qs hP hS h1 h2 h3 h4 hL hE)
theorem zk_pop {v : zk_V} (hd : decode M.2.1 pc = .ok (.pop, 1)) (kk : zk_W G M d kc ks (pc + 1) ls st h Q) : zk_W G M d kc ks pc ls (v :: st) h Q := by
  intro p e R s m args below meth c X H locs cells slots mc ms lsr Qs hP hS h1 h2 h3 h4 hL hE
  exact lv_pop X.1 X.2.1 hd (zk_rv_cat G v) (kk p e R s m args below meth c X H locs cells slots mc ms lsr Qs hP hS h1 h2 h3 h4 hL hE)
theorem zk_dup_x1 {v w : zk_V} (hd : decode M.2.1 pc = .ok (.dup_x1, 1)) (kk : zk_W G M d kc ks (pc + 1) ls (v :: w :: v :: st) h Q) : zk_W G M d kc ks pc ls (v :: w :: st) h Q := by
  intro p e R s m args below meth c X H locs cells slots mc ms lsr Qs hP hS h1 h2 h3 h4 hL hE
  exact lv_dup_x1 X.1 X.2.1 hd (zk_rv_cat G v) (zk_rv_cat G w) (kk p e R s m args below meth c X H locs cells slots mc ms lsr Qs hP hS h1 h2 h3 h4 hL hE)
theorem zk_dup_x2 {v w u : zk_V} (hd : decode M.2.1 pc = .ok (.dup_x2, 1)) (kk : zk_W G M d kc ks (pc + 1) ls (v :: w :: u :: v :: st) h Q) : zk_W G M d kc ks pc ls (v :: w :: u :: st) h Q := by
  intro p e R s m args below meth c X H locs cells slots mc ms lsr Qs hP hS h1 h2 h3 h4 hL hE
  exact lv_dup_x2 X.1 X.2.1 hd (zk_rv_cat G v) (zk_rv_cat G w) (zk_rv_cat G u) (kk p e R s m args below meth c X H locs cells slots mc ms lsr Qs hP hS h1 h2 h3 h4 hL hE)
theorem zk_dup2 {v w : zk_V} (hd : decode M.2.1 pc = .ok (.dup2, 1)) (kk : zk_W G M d kc ks (pc + 1) ls (v :: w :: v :: w :: st) h Q) : zk_W G M d kc ks pc ls (v :: w :: st) h Q := by
  intro p e R s m args below meth c X H locs cells slots mc ms lsr Qs hP hS h1 h2 h3 h4 hL hE
  exact lv_dup2_11 X.1 X.2.1 hd (zk_rv_cat G v) (zk_rv_cat G w) (kk p e R s m args below meth c X H locs cells slots mc ms lsr Qs hP hS h1 h2 h3 h4 hL hE)
theorem zk_if_eq {x : Int} {off : Int} {tgt : Nat} (hd : decode M.2.1 pc = .ok (.ifCond .eq off, 3)) (ht : (pc : Int) + off = (tgt : Int)) (hx : zk_rg x) (kt : x = 0 → zk_W G M d kc ks tgt ls st h Q) (kf : x ≠ 0 → zk_W G M d kc ks (pc + 3) ls st h Q) : zk_W G M d kc ks pc ls (.inl x :: st) h Q := by
  intro p e R s m args below meth c X H locs cells slots mc ms lsr Qs hP hS h1 h2 h3 h4 hL hE
  exact lv_if_eq (x := Int32.ofInt x) (rest := st.map (zk_rv G)) X.1 X.2.1 hd ht (fun q => (kt ((zk_eq hx zk_rg0).mp q) p e R s m args below meth c X H locs cells slots mc ms lsr Qs hP hS h1 h2 h3 h4 hL hE)) (fun q => (kf (fun z => q ((zk_eq hx zk_rg0).mpr z)) p e R s m args below meth c X H locs cells slots mc ms lsr Qs hP hS h1 h2 h3 h4 hL hE))
theorem zk_icmp_eq {x y : Int} {off : Int} {tgt : Nat} (hd : decode M.2.1 pc = .ok (.if_icmp .eq off, 3)) (ht : (pc : Int) + off = (tgt : Int)) (hx : zk_rg x) (hy : zk_rg y) (kt : x = y → zk_W G M d kc ks tgt ls st h Q) (kf : x ≠ y → zk_W G M d kc ks (pc + 3) ls st h Q) : zk_W G M d kc ks pc ls (.inl y :: .inl x :: st) h Q := by
  intro p e R s m args below meth c X H locs cells slots mc ms lsr Qs hP hS h1 h2 h3 h4 hL hE
  exact lv_icmp_eq (x := Int32.ofInt x) (y := Int32.ofInt y) (rest := st.map (zk_rv G)) X.1 X.2.1 hd ht (fun q => (kt ((zk_eq hx hy).mp q) p e R s m args below meth c X H locs cells slots mc ms lsr Qs hP hS h1 h2 h3 h4 hL hE)) (fun q => (kf (fun z => q ((zk_eq hx hy).mpr z)) p e R s m args below meth c X H locs cells slots mc ms lsr Qs hP hS h1 h2 h3 h4 hL hE))
theorem zk_if_ne {x : Int} {off : Int} {tgt : Nat} (hd : decode M.2.1 pc = .ok (.ifCond .ne off, 3)) (ht : (pc : Int) + off = (tgt : Int)) (hx : zk_rg x) (kt : x ≠ 0 → zk_W G M d kc ks tgt ls st h Q) (kf : x = 0 → zk_W G M d kc ks (pc + 3) ls st h Q) : zk_W G M d kc ks pc ls (.inl x :: st) h Q := by
  intro p e R s m args below meth c X H locs cells slots mc ms lsr Qs hP hS h1 h2 h3 h4 hL hE
  exact lv_if_ne (x := Int32.ofInt x) (rest := st.map (zk_rv G)) X.1 X.2.1 hd ht (fun q => (kt (fun z => q ((zk_eq hx zk_rg0).mpr z)) p e R s m args below meth c X H locs cells slots mc ms lsr Qs hP hS h1 h2 h3 h4 hL hE)) (fun q => (kf ((zk_eq hx zk_rg0).mp q) p e R s m args below meth c X H locs cells slots mc ms lsr Qs hP hS h1 h2 h3 h4 hL hE))
theorem zk_icmp_ne {x y : Int} {off : Int} {tgt : Nat} (hd : decode M.2.1 pc = .ok (.if_icmp .ne off, 3)) (ht : (pc : Int) + off = (tgt : Int)) (hx : zk_rg x) (hy : zk_rg y) (kt : x ≠ y → zk_W G M d kc ks tgt ls st h Q) (kf : x = y → zk_W G M d kc ks (pc + 3) ls st h Q) : zk_W G M d kc ks pc ls (.inl y :: .inl x :: st) h Q := by
  intro p e R s m args below meth c X H locs cells slots mc ms lsr Qs hP hS h1 h2 h3 h4 hL hE
  exact lv_icmp_ne (x := Int32.ofInt x) (y := Int32.ofInt y) (rest := st.map (zk_rv G)) X.1 X.2.1 hd ht (fun q => (kt (fun z => q ((zk_eq hx hy).mpr z)) p e R s m args below meth c X H locs cells slots mc ms lsr Qs hP hS h1 h2 h3 h4 hL hE)) (fun q => (kf ((zk_eq hx hy).mp q) p e R s m args below meth c X H locs cells slots mc ms lsr Qs hP hS h1 h2 h3 h4 hL hE))
theorem zk_if_lt {x : Int} {off : Int} {tgt : Nat} (hd : decode M.2.1 pc = .ok (.ifCond .lt off, 3)) (ht : (pc : Int) + off = (tgt : Int)) (hx : zk_rg x) (kt : x < 0 → zk_W G M d kc ks tgt ls st h Q) (kf : 0 ≤ x → zk_W G M d kc ks (pc + 3) ls st h Q) : zk_W G M d kc ks pc ls (.inl x :: st) h Q := by
  intro p e R s m args below meth c X H locs cells slots mc ms lsr Qs hP hS h1 h2 h3 h4 hL hE
  exact lv_if_lt (x := Int32.ofInt x) (rest := st.map (zk_rv G)) X.1 X.2.1 hd ht (fun q => (kt ((zk_lt hx zk_rg0).mp q) p e R s m args below meth c X H locs cells slots mc ms lsr Qs hP hS h1 h2 h3 h4 hL hE)) (fun q => (kf (Int.not_lt.mp (fun z => q ((zk_lt hx zk_rg0).mpr z))) p e R s m args below meth c X H locs cells slots mc ms lsr Qs hP hS h1 h2 h3 h4 hL hE))
theorem zk_icmp_lt {x y : Int} {off : Int} {tgt : Nat} (hd : decode M.2.1 pc = .ok (.if_icmp .lt off, 3)) (ht : (pc : Int) + off = (tgt : Int)) (hx : zk_rg x) (hy : zk_rg y) (kt : x < y → zk_W G M d kc ks tgt ls st h Q) (kf : y ≤ x → zk_W G M d kc ks (pc + 3) ls st h Q) : zk_W G M d kc ks pc ls (.inl y :: .inl x :: st) h Q := by
  intro p e R s m args below meth c X H locs cells slots mc ms lsr Qs hP hS h1 h2 h3 h4 hL hE
  exact lv_icmp_lt (x := Int32.ofInt x) (y := Int32.ofInt y) (rest := st.map (zk_rv G)) X.1 X.2.1 hd ht (fun q => (kt ((zk_lt hx hy).mp q) p e R s m args below meth c X H locs cells slots mc ms lsr Qs hP hS h1 h2 h3 h4 hL hE)) (fun q => (kf (Int.not_lt.mp (fun z => q ((zk_lt hx hy).mpr z))) p e R s m args below meth c X H locs cells slots mc ms lsr Qs hP hS h1 h2 h3 h4 hL hE))
theorem zk_if_ge {x : Int} {off : Int} {tgt : Nat} (hd : decode M.2.1 pc = .ok (.ifCond .ge off, 3)) (ht : (pc : Int) + off = (tgt : Int)) (hx : zk_rg x) (kt : 0 ≤ x → zk_W G M d kc ks tgt ls st h Q) (kf : x < 0 → zk_W G M d kc ks (pc + 3) ls st h Q) : zk_W G M d kc ks pc ls (.inl x :: st) h Q := by
  intro p e R s m args below meth c X H locs cells slots mc ms lsr Qs hP hS h1 h2 h3 h4 hL hE
  exact lv_if_ge (x := Int32.ofInt x) (rest := st.map (zk_rv G)) X.1 X.2.1 hd ht (fun q => (kt ((zk_le zk_rg0 hx).mp q) p e R s m args below meth c X H locs cells slots mc ms lsr Qs hP hS h1 h2 h3 h4 hL hE)) (fun q => (kf (Int.not_le.mp (fun z => q ((zk_le zk_rg0 hx).mpr z))) p e R s m args below meth c X H locs cells slots mc ms lsr Qs hP hS h1 h2 h3 h4 hL hE))
theorem zk_icmp_ge {x y : Int} {off : Int} {tgt : Nat} (hd : decode M.2.1 pc = .ok (.if_icmp .ge off, 3)) (ht : (pc : Int) + off = (tgt : Int)) (hx : zk_rg x) (hy : zk_rg y) (kt : y ≤ x → zk_W G M d kc ks tgt ls st h Q) (kf : x < y → zk_W G M d kc ks (pc + 3) ls st h Q) : zk_W G M d kc ks pc ls (.inl y :: .inl x :: st) h Q := by
  intro p e R s m args below meth c X H locs cells slots mc ms lsr Qs hP hS h1 h2 h3 h4 hL hE
  exact lv_icmp_ge (x := Int32.ofInt x) (y := Int32.ofInt y) (rest := st.map (zk_rv G)) X.1 X.2.1 hd ht (fun q => (kt ((zk_le hy hx).mp q) p e R s m args below meth c X H locs cells slots mc ms lsr Qs hP hS h1 h2 h3 h4 hL hE)) (fun q => (kf (Int.not_le.mp (fun z => q ((zk_le hy hx).mpr z))) p e R s m args below meth c X H locs cells slots mc ms lsr Qs hP hS h1 h2 h3 h4 hL hE))
theorem zk_if_gt {x : Int} {off : Int} {tgt : Nat} (hd : decode M.2.1 pc = .ok (.ifCond .gt off, 3)) (ht : (pc : Int) + off = (tgt : Int)) (hx : zk_rg x) (kt : 0 < x → zk_W G M d kc ks tgt ls st h Q) (kf : x ≤ 0 → zk_W G M d kc ks (pc + 3) ls st h Q) : zk_W G M d kc ks pc ls (.inl x :: st) h Q := by
  intro p e R s m args below meth c X H locs cells slots mc ms lsr Qs hP hS h1 h2 h3 h4 hL hE
  exact lv_if_gt (x := Int32.ofInt x) (rest := st.map (zk_rv G)) X.1 X.2.1 hd ht (fun q => (kt ((zk_lt zk_rg0 hx).mp q) p e R s m args below meth c X H locs cells slots mc ms lsr Qs hP hS h1 h2 h3 h4 hL hE)) (fun q => (kf (Int.not_lt.mp (fun z => q ((zk_lt zk_rg0 hx).mpr z))) p e R s m args below meth c X H locs cells slots mc ms lsr Qs hP hS h1 h2 h3 h4 hL hE))
theorem zk_icmp_gt {x y : Int} {off : Int} {tgt : Nat} (hd : decode M.2.1 pc = .ok (.if_icmp .gt off, 3)) (ht : (pc : Int) + off = (tgt : Int)) (hx : zk_rg x) (hy : zk_rg y) (kt : y < x → zk_W G M d kc ks tgt ls st h Q) (kf : x ≤ y → zk_W G M d kc ks (pc + 3) ls st h Q) : zk_W G M d kc ks pc ls (.inl y :: .inl x :: st) h Q := by
  intro p e R s m args below meth c X H locs cells slots mc ms lsr Qs hP hS h1 h2 h3 h4 hL hE
  exact lv_icmp_gt (x := Int32.ofInt x) (y := Int32.ofInt y) (rest := st.map (zk_rv G)) X.1 X.2.1 hd ht (fun q => (kt ((zk_lt hy hx).mp q) p e R s m args below meth c X H locs cells slots mc ms lsr Qs hP hS h1 h2 h3 h4 hL hE)) (fun q => (kf (Int.not_lt.mp (fun z => q ((zk_lt hy hx).mpr z))) p e R s m args below meth c X H locs cells slots mc ms lsr Qs hP hS h1 h2 h3 h4 hL hE))
theorem zk_if_le {x : Int} {off : Int} {tgt : Nat} (hd : decode M.2.1 pc = .ok (.ifCond .le off, 3)) (ht : (pc : Int) + off = (tgt : Int)) (hx : zk_rg x) (kt : x ≤ 0 → zk_W G M d kc ks tgt ls st h Q) (kf : 0 < x → zk_W G M d kc ks (pc + 3) ls st h Q) : zk_W G M d kc ks pc ls (.inl x :: st) h Q := by
  intro p e R s m args below meth c X H locs cells slots mc ms lsr Qs hP hS h1 h2 h3 h4 hL hE
  exact lv_if_le (x := Int32.ofInt x) (rest := st.map (zk_rv G)) X.1 X.2.1 hd ht (fun q => (kt ((zk_le hx zk_rg0).mp q) p e R s m args below meth c X H locs cells slots mc ms lsr Qs hP hS h1 h2 h3 h4 hL hE)) (fun q => (kf (Int.not_le.mp (fun z => q ((zk_le hx zk_rg0).mpr z))) p e R s m args below meth c X H locs cells slots mc ms lsr Qs hP hS h1 h2 h3 h4 hL hE))
theorem zk_icmp_le {x y : Int} {off : Int} {tgt : Nat} (hd : decode M.2.1 pc = .ok (.if_icmp .le off, 3)) (ht : (pc : Int) + off = (tgt : Int)) (hx : zk_rg x) (hy : zk_rg y) (kt : x ≤ y → zk_W G M d kc ks tgt ls st h Q) (kf : y < x → zk_W G M d kc ks (pc + 3) ls st h Q) : zk_W G M d kc ks pc ls (.inl y :: .inl x :: st) h Q := by
  intro p e R s m args below meth c X H locs cells slots mc ms lsr Qs hP hS h1 h2 h3 h4 hL hE
  exact lv_icmp_le (x := Int32.ofInt x) (y := Int32.ofInt y) (rest := st.map (zk_rv G)) X.1 X.2.1 hd ht (fun q => (kt ((zk_le hx hy).mp q) p e R s m args below meth c X H locs cells slots mc ms lsr Qs hP hS h1 h2 h3 h4 hL hE)) (fun q => (kf (Int.not_le.mp (fun z => q ((zk_le hx hy).mpr z))) p e R s m args below meth c X H locs cells slots mc ms lsr Qs hP hS h1 h2 h3 h4 hL hE))
theorem zk_goto {off : Int} {tgt : Nat} (hd : decode M.2.1 pc = .ok (.goto off, 3)) (ht : (pc : Int) + off = (tgt : Int)) (kk : zk_W G M d kc ks tgt ls st h Q) : zk_W G M d kc ks pc ls st h Q := by
  intro p e R s m args below meth c X H locs cells slots mc ms lsr Qs hP hS h1 h2 h3 h4 hL hE
  exact lv_goto X.1 X.2.1 hd ht (kk p e R s m args below meth c X H locs cells slots mc ms lsr Qs hP hS h1 h2 h3 h4 hL hE)
theorem zk_tableOut {x : Int} {dflt lo hi : Int} {offs : Array Int} {len tgt : Nat} (hd : decode M.2.1 pc = .ok (.tableswitch dflt lo hi offs, len)) (hx : zk_rg x) (ho : x < lo ∨ hi < x) (ht : (pc : Int) + dflt = (tgt : Int)) (kk : zk_W G M d kc ks tgt ls st h Q) : zk_W G M d kc ks pc ls (.inl x :: st) h Q := by
  intro p e R s m args below meth c X H locs cells slots mc ms lsr Qs hP hS h1 h2 h3 h4 hL hE
  exact lv_tableOut (x := Int32.ofInt x) (rest := st.map (zk_rv G)) X.1 X.2.1 hd (by rw [zk_ti hx]; exact ho) ht (kk p e R s m args below meth c X H locs cells slots mc ms lsr Qs hP hS h1 h2 h3 h4 hL hE)
theorem zk_tableIn {x : Int} {dflt lo hi off : Int} {offs : Array Int} {len tgt : Nat} (hd : decode M.2.1 pc = .ok (.tableswitch dflt lo hi offs, len)) (hx : zk_rg x) (hlo : lo ≤ x) (hhi : x ≤ hi) (ho : offs[(x - lo).toNat]? = some off) (ht : (pc : Int) + off = (tgt : Int)) (kk : zk_W G M d kc ks tgt ls st h Q) : zk_W G M d kc ks pc ls (.inl x :: st) h Q := by
  intro p e R s m args below meth c X H locs cells slots mc ms lsr Qs hP hS h1 h2 h3 h4 hL hE
  exact lv_tableIn (x := Int32.ofInt x) (rest := st.map (zk_rv G)) X.1 X.2.1 hd (by rw [zk_ti hx]; omega) (by rw [zk_ti hx]; omega) (by rw [zk_ti hx]; exact ho) ht (kk p e R s m args below meth c X H locs cells slots mc ms lsr Qs hP hS h1 h2 h3 h4 hL hE)
theorem zk_lookup {x : Int} {dflt off : Int} {ps : Array (Int × Int)} {len tgt : Nat} (hd : decode M.2.1 pc = .ok (.lookupswitch dflt ps, len)) (hp : (ps.toList.zip (ps.toList.drop 1)).all (fun (a, next) => a.1 < next.1) = true) (hx : zk_rg x) (ho : Op.lookupswitch.offset ps.toList dflt x = off) (ht : (pc : Int) + off = (tgt : Int)) (kk : zk_W G M d kc ks tgt ls st h Q) : zk_W G M d kc ks pc ls (.inl x :: st) h Q := by
  intro p e R s m args below meth c X H locs cells slots mc ms lsr Qs hP hS h1 h2 h3 h4 hL hE
  exact lv_lookup (x := Int32.ofInt x) (rest := st.map (zk_rv G)) X.1 X.2.1 hd hp (by rw [zk_ti hx]; exact ho) ht (kk p e R s m args below meth c X H locs cells slots mc ms lsr Qs hP hS h1 h2 h3 h4 hL hE)
theorem zk_ret (hd : decode M.2.1 pc = .ok (.return_, 1)) (hr : M.2.2.2 = none) (hq : Q none h) : zk_W G M d kc ks pc ls [] h Q := by
  intro p e R s m args below meth c X H locs cells slots mc ms lsr Qs hP hS h1 h2 h3 h4 hL hE
  exact W.widen (Nat.le_trans (Nat.le_add_right _ _) h1) (Nat.le_trans (Nat.le_add_right _ _) h2) (hE none h H locs pc lsr hq hP hS ⟨hr, hd⟩)
theorem zk_iret {z : Int} (hd : decode M.2.1 pc = .ok (.ireturn, 1)) (hr : M.2.2.2 = some .int) (hq : Q (some (.inl z)) h) : zk_W G M d kc ks pc ls [.inl z] h Q := by
  intro p e R s m args below meth c X H locs cells slots mc ms lsr Qs hP hS h1 h2 h3 h4 hL hE
  exact W.widen (Nat.le_trans (Nat.le_add_right _ _) h1) (Nat.le_trans (Nat.le_add_right _ _) h2) (hE (some (.inl z)) h H locs pc lsr hq hP hS ⟨hd, .int, hr, rfl⟩)
theorem zk_zret {z : Int} (hd : decode M.2.1 pc = .ok (.ireturn, 1)) (hr : M.2.2.2 = some .boolean) (hz : z = 0 ∨ z = 1) (hq : Q (some (.inl z)) h) : zk_W G M d kc ks pc ls [.inl z] h Q := by
  intro p e R s m args below meth c X H locs cells slots mc ms lsr Qs hP hS h1 h2 h3 h4 hL hE
  exact W.widen (Nat.le_trans (Nat.le_add_right _ _) h1) (Nat.le_trans (Nat.le_add_right _ _) h2) (hE (some (.inl z)) h H locs pc lsr hq hP hS ⟨hd, .boolean, hr, by rcases hz with rfl | rfl <;> rfl⟩)
theorem zk_aret {r : Option Nat} {rt : FieldType} (hd : decode M.2.1 pc = .ok (.areturn, 1)) (hr : M.2.2.2 = some rt) (ht : (∃ n, rt = .object n) ∨ ∃ t, rt = .array t) (hq : Q (some (.inr r)) h) : zk_W G M d kc ks pc ls [.inr r] h Q := by
  intro p e R s m args below meth c X H locs cells slots mc ms lsr Qs hP hS h1 h2 h3 h4 hL hE
  exact W.widen (Nat.le_trans (Nat.le_add_right _ _) h1) (Nat.le_trans (Nat.le_add_right _ _) h2) (hE (some (.inr r)) h H locs pc lsr hq hP hS ⟨hd, rt, hr, ht⟩)
end ZkRows
