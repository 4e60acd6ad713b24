theorem zp_app {σ : Nat → Int} {α : Nat → Nat → Int} {τ : Nat → Int} {β : Nat → Nat → Int} {x y z : Int} (h : zp σ α τ β) (h10 : 0 ≤ σ 10) (hx : x ≠ 2) (hy : 0 ≤ y ∧ y ≤ 79) : zp (zk_up σ 10 (σ 10 + 1)) (zc_P σ α x y z) (zk_up τ 5 (τ 5 + 1)) (zk_ua (zk_ua (zk_ua β 2 (zk_up (β 2) (τ 5).toNat x)) 3 (zk_up (β 3) (τ 5).toNat y)) 4 (zk_up (β 4) (τ 5).toNat z)) := by
  obtain ⟨a1, a2, a3⟩ := h
  refine ⟨show τ 5 + 1 = σ 10 + 1 by omega, a2, fun k hk => ?_⟩
  have hk : k < (σ 10 + 1).toNat := hk
  have e5 : (τ 5).toNat = (σ 10).toNat := by rw [a1]
  show zk_up (β 2) (τ 5).toNat x k = zk_up (α 5) (σ 10).toNat x k ∧ zk_up (β 4) (τ 5).toNat z k = zk_up (α 7) (σ 10).toNat z k ∧ (zk_up (α 5) (σ 10).toNat x k ≠ 2 → zk_up (β 3) (τ 5).toNat y k = zk_up (α 6) (σ 10).toNat y k) ∧ (0 ≤ zk_up (β 3) (τ 5).toNat y k ∧ zk_up (β 3) (τ 5).toNat y k ≤ 79) ∧ (zk_up (α 5) (σ 10).toNat x k = 2 → ∀ j : Nat, (j : Int) < zk_up (α 7) (σ 10).toNat z k → β 5 (40 * k + j) = α 4 ((zk_up (α 8) (σ 10).toNat (σ 4) k).toNat + j))
  rw [e5]
  by_cases e : k = (σ 10).toNat
  · subst e
    rw [zk_up_at, zk_up_at, zk_up_at, zk_up_at, zk_up_at, zk_up_at]
    exact ⟨rfl, rfl, fun _ => rfl, hy, fun h2 => absurd h2 hx⟩
  · rw [zk_up_ne e, zk_up_ne e, zk_up_ne e, zk_up_ne e, zk_up_ne e, zk_up_ne e, zk_up_ne e]
    exact a3 k (by omega)
theorem zp_lay {σ : Nat → Int} {α : Nat → Nat → Int} {τ : Nat → Int} {β : Nat → Nat → Int} {x : Int} (hI : zc_I σ α) (h : zp σ α τ β) : zp (zc_Ls σ 1) (zc_L σ α 1 (fun _ => x)) (zk_up τ 5 (τ 5 + 1)) (zk_ua (zk_ua (zk_ua (zk_ua (zk_ua β 2 (zk_up (β 2) (τ 5).toNat 2)) 3 (zk_up (β 3) (τ 5).toNat 0)) 4 (zk_up (β 4) (τ 5).toNat 0)) 5 (zk_up (β 5) (40 * τ 5).toNat x)) 4 (zk_up (β 4) (τ 5).toNat 1)) := by
  obtain ⟨a1, a2, a3⟩ := h
  have h10 := hI.2.2.2.1
  have n4 := hI.1 4 (by decide)
  have hA := hI.2.2.2.2.2.2.1
  refine ⟨show τ 5 + 1 = σ 10 + 1 by omega, a2, fun k hk => ?_⟩
  have hk : k < (σ 10 + 1).toNat := hk
  have e5 : (τ 5).toNat = (σ 10).toNat := by rw [a1]
  have e40 : (40 * τ 5).toNat = 40 * (σ 10).toNat := by omega
  show zk_up (β 2) (τ 5).toNat 2 k = zk_up (α 5) (σ 10).toNat 2 k ∧ zk_up (β 4) (τ 5).toNat 1 k = zk_up (α 7) (σ 10).toNat ((1 : Nat) : Int) k ∧ (zk_up (α 5) (σ 10).toNat 2 k ≠ 2 → zk_up (β 3) (τ 5).toNat 0 k = zk_up (α 6) (σ 10).toNat (-1) k) ∧ (0 ≤ zk_up (β 3) (τ 5).toNat 0 k ∧ zk_up (β 3) (τ 5).toNat 0 k ≤ 79) ∧ (zk_up (α 5) (σ 10).toNat 2 k = 2 → ∀ j : Nat, (j : Int) < zk_up (α 7) (σ 10).toNat ((1 : Nat) : Int) k → zk_up (β 5) (40 * τ 5).toNat x (40 * k + j) = mt_ap (α 4) (σ 4).toNat 1 (fun _ => x) ((zk_up (α 8) (σ 10).toNat (σ 4) k).toNat + j))
  rw [e5, e40]
  by_cases e : k = (σ 10).toNat
  · subst e
    rw [zk_up_at, zk_up_at, zk_up_at, zk_up_at, zk_up_at, zk_up_at]
    refine ⟨rfl, rfl, fun h2 => absurd rfl h2, by omega, fun _ j hj => ?_⟩
    have hj0 : j = 0 := by omega
    subst hj0
    rw [zk_up_at (α 8), mt_ap_in (by omega)]
    exact zk_up_at _ _ _
  · rw [zk_up_ne e, zk_up_ne e, zk_up_ne e, zk_up_ne e, zk_up_ne e, zk_up_ne e, zk_up_ne e]
    obtain ⟨b1, b2, b3, b4, b5⟩ := a3 k (by omega)
    refine ⟨b1, b2, b3, b4, fun h2 j hj => ?_⟩
    have hc := (hA k (by omega)).2.1
    have hz := zc_lay hI (k := k) (by omega) h2 (j := (j : Int)) (by omega)
    have hz0 := zc_lay hI (k := k) (by omega) h2 (j := 0) (by omega)
    rw [mt_ap_out (by omega), zk_up_ne (by omega)]
    exact b5 h2 j hj
theorem zp_ext {σ : Nat → Int} {α : Nat → Nat → Int} {τ : Nat → Int} {β : Nat → Nat → Int} {x : Int} (hI : zc_I σ α) (ht : zk_tk σ α) (h : zp σ α τ β) : zp (zk_up σ 4 (σ 4 + 1)) (zk_ua (zk_ua α 4 (zk_up (α 4) (σ 4).toNat x)) 7 (zk_up (α 7) (σ 10 - 1).toNat (α 7 (σ 10 - 1).toNat + 1))) τ (zk_ua (zk_ua β 5 (zk_up (β 5) (40 * (τ 5 - 1) + β 4 (τ 5 - 1).toNat).toNat x)) 4 (zk_up (β 4) (τ 5 - 1).toNat (β 4 (τ 5 - 1).toNat + 1))) := by
  obtain ⟨a1, a2, a3⟩ := h
  obtain ⟨t1, t2, t3⟩ := ht
  have h10 := hI.2.2.2.1
  have n4 := hI.1 4 (by decide)
  have hA := hI.2.2.2.2.2.2.1
  have a8 := hI.2.2.2.2.2.2.2.1
  have el : (σ 10).toNat = (σ 10 - 1).toNat + 1 := by omega
  have hl := hA (σ 10 - 1).toNat (by omega)
  have hl2 := hl.2.1
  have hl8 := hl.2.2.2.2
  have b4 := (a3 (σ 10 - 1).toNat (by omega)).2.1
  have e4 : σ 4 = α 8 (σ 10 - 1).toNat + α 7 (σ 10 - 1).toNat := by
    rw [el] at a8
    have a8 : σ 4 = mt_lsum (α 5) (α 7) (σ 10 - 1).toNat + (if α 5 (σ 10 - 1).toNat = 2 then α 7 (σ 10 - 1).toNat else 0) := a8
    rw [if_pos t2] at a8
    omega
  have z0 := zc_lay hI (k := (σ 10 - 1).toNat) (by omega) t2 (j := 0) (by omega)
  refine ⟨a1, a2, fun k hk => ?_⟩
  have hk : k < (σ 10).toNat := hk
  have e5 : τ 5 - 1 = σ 10 - 1 := by rw [a1]
  have e40 : (40 * (σ 10 - 1) + α 7 (σ 10 - 1).toNat).toNat = 40 * (σ 10 - 1).toNat + (α 7 (σ 10 - 1).toNat).toNat := by omega
  show β 2 k = α 5 k ∧ zk_up (β 4) (τ 5 - 1).toNat (β 4 (τ 5 - 1).toNat + 1) k = zk_up (α 7) (σ 10 - 1).toNat (α 7 (σ 10 - 1).toNat + 1) k ∧ (α 5 k ≠ 2 → β 3 k = α 6 k) ∧ (0 ≤ β 3 k ∧ β 3 k ≤ 79) ∧ (α 5 k = 2 → ∀ j : Nat, (j : Int) < zk_up (α 7) (σ 10 - 1).toNat (α 7 (σ 10 - 1).toNat + 1) k → zk_up (β 5) (40 * (τ 5 - 1) + β 4 (τ 5 - 1).toNat).toNat x (40 * k + j) = zk_up (α 4) (σ 4).toNat x ((α 8 k).toNat + j))
  rw [e5, b4, e40]
  obtain ⟨c1, c2, c3, c4, c5⟩ := a3 k hk
  have hc := (hA k hk).2.1
  by_cases e : k = (σ 10 - 1).toNat
  · subst e
    rw [zk_up_at, zk_up_at]
    refine ⟨c1, rfl, c3, c4, fun h2 j hj => ?_⟩
    by_cases ej : j = (α 7 (σ 10 - 1).toNat).toNat
    · rw [ej, zk_up_at, show (α 8 (σ 10 - 1).toNat).toNat + (α 7 (σ 10 - 1).toNat).toNat = (σ 4).toNat by omega, zk_up_at]
    · rw [zk_up_ne (by omega), zk_up_ne (by omega)]
      exact c5 h2 j (by omega)
  · rw [zk_up_ne e, zk_up_ne e]
    refine ⟨c1, c2, c3, c4, fun h2 j hj => ?_⟩
    have hz := zc_lay hI (k := k) hk h2 (j := (j : Int)) (by omega)
    have hz0 := zc_lay hI (k := k) hk h2 (j := 0) (by omega)
    rw [zk_up_ne (by omega), zk_up_ne (by omega)]
    exact c5 h2 j hj
theorem zp_tk {σ : Nat → Int} {α : Nat → Nat → Int} {τ : Nat → Int} {β : Nat → Nat → Int} (h10 : 0 ≤ σ 10) (h : zp σ α τ β) : zm_tk τ β ↔ zk_tk σ α := by
  obtain ⟨a1, a2, a3⟩ := h
  unfold zm_tk zk_tk
  rw [a1]
  constructor
  · intro hh
    obtain ⟨c1, c2, -⟩ := a3 (σ 10 - 1).toNat (by omega)
    rw [c1, c2] at hh
    exact hh
  · intro hh
    obtain ⟨c1, c2, -⟩ := a3 (σ 10 - 1).toNat (by omega)
    rw [c1, c2]
    exact hh

/-- one table -/
theorem zz_tab {σ τ : Nat → Int} {α β : Nat → Nat → Int} {f f' : Nat → Int} (ht : zt σ α β) (hn : zn σ τ) (h : mt_rest (α 0) (σ 0).toNat (α 1) (σ 1).toNat (zs_c σ) (mt_tb f)) (h' : mt_rest (zm_T β 0) (zm_n β 0) (zm_T β 1) (zm_n β 1) (zm_c τ) (mt_tb f')) : ∀ i s, i ≤ (σ 1).toNat → s ≤ (σ 0).toNat → mt_tb f i s = mt_tb f' i s := by
  intro i s hi hs
  rw [zt_n0 ht, zt_n1 ht, zn_c hn] at h'
  have h2 := mt_rest_congr (O' := α 0) (N' := α 1) (c' := zs_c σ) (fun j hj => ht.2.2.1 j (by omega)) (fun j hj => ht.2.2.2.1 j (by omega)) (fun _ _ => rfl) h'
  exact mt_rest_uniq h h2 ((σ 1).toNat - i) i s (by omega) hs
theorem mt_pl_spot {O : Nat → Int} {nO : Nat} {N : Nat → Int} {nN : Nat} {c : Nat → Int} {L : Nat → Nat → Int} {K P C : Nat → Int} {m : Nat} (h : mt_pl (fun i s x p n => mt_best O nO N nN c L i s x p n) K P C m) : ∀ k, k ≤ m → 0 ≤ mt_spot K P C k ∧ mt_spot K P C k ≤ (nO : Int)
  | 0, _ => ⟨Int.le_refl 0, by show (0 : Int) ≤ _; omega⟩
  | k + 1, hk => by
    show 0 ≤ (if K k = 0 then P k + C k else mt_spot K P C k) ∧ (if K k = 0 then P k + C k else mt_spot K P C k) ≤ (nO : Int)
    obtain ⟨x, p, n, h1, h2, h3, h4⟩ := h k (by omega)
    have hr := mt_best_rg h1
    split
    next h0 =>
      have hx : x = 0 := by omega
      rw [h4 (by omega), h3]
      have := hr.2.2.2.1 hx
      omega
    next => exact mt_pl_spot h k (by omega)
theorem mt_pl_uniq {O : Nat → Int} {nO : Nat} {N : Nat → Int} {nN : Nat} {c : Nat → Int} {L : Nat → Nat → Int} {K P C K' P' C' : Nat → Int} {m m' : Nat} (h : mt_pl (fun i s x p n => mt_best O nO N nN c L i s x p n) K P C m) (h' : mt_pl (fun i s x p n => mt_best O nO N nN c L i s x p n) K' P' C' m') : ∀ k, k ≤ m → k ≤ m' → ∀ j, j < k → K j = K' j ∧ C j = C' j ∧ (K j ≠ 2 → P j = P' j)
  | 0, _, _, j, hj => absurd hj (Nat.not_lt_zero j)
  | k + 1, hk, hk', j, hj => by
    have ih := mt_pl_uniq h h' k (by omega) (by omega)
    by_cases e : j = k
    · subst e
      obtain ⟨x, p, n, h1, h2, h3, h4⟩ := h j (by omega)
      obtain ⟨x', p', n', g1, g2, g3, g4⟩ := h' j (by omega)
      rw [← mt_isum_congr (C := C) (C' := C') (fun k hk => (ih k hk).2.1), ← mt_spot_congr (K := K) (P := P) (C := C) (K' := K') (P' := P') (C' := C') (fun k hk => ⟨(ih k hk).1, fun h0 => ⟨(ih k hk).2.2 (by omega), (ih k hk).2.1⟩⟩)] at g1
      obtain ⟨e1, e2, e3⟩ := mt_best_uniq h1 g1
      subst e1
      subst e2
      subst e3
      exact ⟨by rw [h2, g2], by rw [h3, g3], fun hx => by rw [h4 (by omega), g4 (by omega)]⟩
    · exact ih j (by omega)
/-- two best plans are one -/
theorem mt_pl_all {O : Nat → Int} {nO : Nat} {N : Nat → Int} {nN : Nat} {c : Nat → Int} {L : Nat → Nat → Int} {K P C K' P' C' : Nat → Int} {m m' : Nat} (h : mt_pl (fun i s x p n => mt_best O nO N nN c L i s x p n) K P C m) (h' : mt_pl (fun i s x p n => mt_best O nO N nN c L i s x p n) K' P' C' m') (e : mt_isum C m = mt_isum C' m') : m = m' ∧ ∀ j, j < m → K j = K' j ∧ C j = C' j ∧ (K j ≠ 2 → P j = P' j) := by
  have hm : m = m' := by
    rcases Nat.lt_trichotomy m m' with hl | hl | hl
    · have u := mt_pl_uniq h h' m (Nat.le_refl m) (by omega)
      have e1 := mt_isum_congr (C := C) (C' := C') (n := m) (fun k hk => (u k hk).2.1)
      have e2 := mt_isum_le (C := C') (n := m + 1) (m := m') (by omega) (fun k hk => (mt_pl_rg h' k hk).2.1)
      have e3 : mt_isum C' (m + 1) = mt_isum C' m + C' m := rfl
      have e4 := (mt_pl_rg h' m hl).2.1
      omega
    · exact hl
    · have u := mt_pl_uniq h h' m' (by omega) (Nat.le_refl m')
      have e1 := mt_isum_congr (C := C) (C' := C') (n := m') (fun k hk => (u k hk).2.1)
      have e2 := mt_isum_le (C := C) (n := m' + 1) (m := m) (by omega) (fun k hk => (mt_pl_rg h k hk).2.1)
      have e3 : mt_isum C (m' + 1) = mt_isum C m' + C m' := rfl
      have e4 := (mt_pl_rg h m' hl).2.1
      omega
  subst hm
  exact ⟨rfl, mt_pl_uniq h h' m (Nat.le_refl m) (Nat.le_refl m)⟩
/-- the reference's best plan, in the class's words -/
theorem zz_pl {σ τ : Nat → Int} {α β : Nat → Nat → Int} {f f' : Nat → Int} {K P C : Nat → Int} {m : Nat} (ht : zt σ α β) (hn : zn σ τ) (h : mt_rest (α 0) (σ 0).toNat (α 1) (σ 1).toNat (zs_c σ) (mt_tb f)) (h' : mt_rest (zm_T β 0) (zm_n β 0) (zm_T β 1) (zm_n β 1) (zm_c τ) (mt_tb f')) (hp : mt_pl (fun i s x p n => mt_best (zm_T β 0) (zm_n β 0) (zm_T β 1) (zm_n β 1) (zm_c τ) (mt_tb f') i s x p n) K P C m) : mt_pl (fun i s x p n => mt_best (α 0) (σ 0).toNat (α 1) (σ 1).toNat (zs_c σ) (mt_tb f) i s x p n) K P C m := by
  have hs := mt_pl_spot hp
  have tab := zz_tab ht hn h h'
  intro k hk
  obtain ⟨x, p, n, h1, h2, h3, h4⟩ := hp k hk
  refine ⟨x, p, n, ?_, h2, h3, h4⟩
  have hr := mt_best_rg h1
  have hsk := hs k (by omega)
  rw [zt_n0 ht, zt_n1 ht, zn_c hn] at h1
  rw [zt_n1 ht] at hr
  rw [zt_n0 ht] at hsk
  exact mt_best_congr (fun j hj => ht.2.2.1 j (by omega)) (fun j hj => ht.2.2.2.1 j (by omega)) (fun _ _ => rfl) (fun i s g1 g2 => (tab i s g1 g2).symm) (by omega) (by omega) h1
/-- texts, numbers, codes, what is made: the same where both left them so -/
theorem zz_E {σ σ' τ τ' : Nat → Int} {α α' β β' : Nat → Nat → Int} (hc : zc_E σ σ' α α') (hm : zm_E τ τ' β β') (h1 : zt σ α β) (h2 : zn σ τ) (h3 : zcd σ α τ β) (h4 : zmd σ α τ β) : zt σ' α' β' ∧ zn σ' τ' ∧ zcd σ' α' τ' β' ∧ zmd σ' α' τ' β' := by
  obtain ⟨⟨s0, s1, s2, s3⟩, ⟨s5, s6, s7, s8, s9⟩, ⟨a0, a1, a2, a3⟩⟩ := hc
  obtain ⟨q, q7, q8, b0, b1, b6, b7⟩ := hm
  refine ⟨?_, ?_, ?_, ?_⟩
  · unfold zt
    rw [b0, b1, s0, s1, a0, a1, zm_T_E b0, zm_T_E b0]
    exact h1
  · unfold zn
    rw [q 0 (by decide), q 1 (by decide), q 2 (by decide), q 3 (by decide), q 4 (by decide), s5, s6, s7, s8, s9]
    exact h2
  · unfold zcd
    rw [q7, s3, b6, a3]
    exact h3
  · unfold zmd
    rw [q8, s2, b7, a2]
    exact h4

set_option maxRecDepth 100000 in
set_option maxHeartbeats 4000000 in
theorem zd_add (G : zk_G) (sw : Bool) (σ : Nat → Int) (α : Nat → Nat → Int) (τ : Nat → Int) (β : Nat → Nat → Int) (t : zk_H) (hz : zz σ α τ β) {x y z : Int} (hx : zk_rg x) (hy : zk_rg y) (hzz : zk_rg z) : zk_K G mC_add (2, 43) 0 0 (.inr (some 1) :: [.inl x, .inl y, .inl z]) (zk_mk G sw σ α (zk_md τ β t)) (zd_R G mM_add (1, 22) [.inl x, .inl y, .inl z] τ β t) := by
  obtain ⟨hI, ht, hn, hp, hc, hm, hl⟩ := id hz
  have n0 := hI.1 0 (by decide)
  have n1 := hI.1 1 (by decide)
  have n2 := hI.1 2 (by decide)
  have n3 := hI.1 3 (by decide)
  have n4 := hI.1 4 (by decide)
  have e0 : (zr_N 0 : Int) = 40 := rfl
  have e1 : (zr_N 1 : Int) = 40 := rfl
  have e2 : (zr_N 2 : Int) = 80 := rfl
  have e3 : (zr_N 3 : Int) = 4102 := rfl
  have e4 : (zr_N 4 : Int) = 4000 := rfl
  have h10 := hI.2.2.2.1
  have hJ := zz_J hz
  have t0 := ht.1
  have t1 := ht.2.1
  have p5 := hp.1
  have p6 := hp.2.1
  have c7 := hc.1
  have m8 := hm.1
  refine (kC_add G sw σ α _ hI hx hy hzz).mono (fun v h' q => ?_)
  rcases q with ⟨g, rfl, rfl⟩ | ⟨g, g', rfl, rfl⟩ | ⟨g, g', rfl, rfl⟩
  · refine zd_same hz (kM_add G sw σ α τ β t hJ hx hy hzz) (fun v2 h2 q2 => ?_)
    rcases q2 with ⟨g1, rfl, rfl⟩ | ⟨g1, -⟩ | ⟨g1, -⟩
    · exact ⟨rfl, rfl⟩
    · omega
    · omega
  · refine zd_same hz (kM_add G sw σ α τ β t hJ hx hy hzz) (fun v2 h2 q2 => ?_)
    rcases q2 with ⟨g1, -⟩ | ⟨g1, g2, rfl, rfl⟩ | ⟨g1, g2, -⟩
    · omega
    · exact ⟨rfl, rfl⟩
    · omega
  · refine zd_go (kM_add G sw _ _ τ β t hJ hx hy hzz) (fun v2 h2 q2 => ?_)
    rcases q2 with ⟨g1, -⟩ | ⟨g1, g2, -⟩ | ⟨g1, g2, rfl, rfl⟩
    · omega
    · omega
    · refine ⟨_, _, rfl, by rw [p5], zc_I_app hI g' g.1 g.2.1 g.2.2, ht, hn, zp_app hp h10.1 (by omega) g.2.1, hc, hm, hl⟩

set_option maxRecDepth 100000 in
set_option maxHeartbeats 4000000 in
theorem zd_lay (G : zk_G) (sw : Bool) (σ : Nat → Int) (α : Nat → Nat → Int) (τ : Nat → Int) (β : Nat → Nat → Int) (t : zk_H) (hz : zz σ α τ β) {x : Int} (hx : zk_rg x) : zk_K G mC_lay (4, 83) 0 0 (.inr (some 1) :: [.inl x]) (zk_mk G sw σ α (zk_md τ β t)) (zd_R G mM_lay (1, 22) [.inl x] τ β t) := by
  obtain ⟨hI, ht, hn, hp, hc, hm, hl⟩ := id hz
  have n0 := hI.1 0 (by decide)
  have n1 := hI.1 1 (by decide)
  have n2 := hI.1 2 (by decide)
  have n3 := hI.1 3 (by decide)
  have n4 := hI.1 4 (by decide)
  have e0 : (zr_N 0 : Int) = 40 := rfl
  have e1 : (zr_N 1 : Int) = 40 := rfl
  have e2 : (zr_N 2 : Int) = 80 := rfl
  have e3 : (zr_N 3 : Int) = 4102 := rfl
  have e4 : (zr_N 4 : Int) = 4000 := rfl
  have h10 := hI.2.2.2.1
  have hJ := zz_J hz
  have t0 := ht.1
  have t1 := ht.2.1
  have p5 := hp.1
  have p6 := hp.2.1
  have c7 := hc.1
  have m8 := hm.1
  refine (kC_lay G sw σ α _ hI hx).mono (fun v h' q => ?_)
  have tk := zp_tk h10.1 hp
  rcases q with ⟨g, rfl, rfl⟩ | ⟨g, g', rfl, rfl⟩ | ⟨g, g', g3, rfl, rfl⟩ | ⟨g, g', g3, rfl, rfl⟩
  · refine zd_same hz (kM_lay G sw σ α τ β t hJ hx) (fun v2 h2 q2 => ?_)
    rcases q2 with ⟨g1, rfl, rfl⟩ | ⟨g1, -⟩ | ⟨g1, -⟩ | ⟨g1, -⟩
    · exact ⟨rfl, rfl⟩
    · exact absurd g1 g
    · exact absurd g1 g
    · exact absurd g1 g
  · refine zd_go (kM_lay G sw _ _ τ β t hJ hx) (fun v2 h2 q2 => ?_)
    rcases q2 with ⟨g1, -⟩ | ⟨g1, g2, rfl, rfl⟩ | ⟨g1, g2, -⟩ | ⟨g1, g2, -⟩
    · exact absurd g g1
    · exact ⟨_, _, rfl, by rw [p5], zc_I_ext hI g' g, ht, hn, zp_ext hI g' hp, hc, hm, hl⟩
    · exact absurd (tk.mpr g') g2
    · exact absurd (tk.mpr g') g2
  · refine zd_same hz (kM_lay G sw σ α τ β t hJ hx) (fun v2 h2 q2 => ?_)
    rcases q2 with ⟨g1, -⟩ | ⟨g1, g2, -⟩ | ⟨g1, g2, g4, rfl, rfl⟩ | ⟨g1, g2, g4, -⟩
    · exact absurd g g1
    · exact absurd (tk.mp g2) g'
    · exact ⟨rfl, rfl⟩
    · omega
  · have eα := zc_L_up (σ := σ) (α := α) (n := 0) (g := fun _ => x) h10.1 n4.1
    rw [← zc_L_0 σ α (fun _ => x), mt_ap_0, show (σ 4 + ((0 : Nat) : Int)).toNat = (σ 4).toNat by omega] at eα
    have hI2 : zc_I (zc_Ls σ 1) (zc_L σ α 1 (fun _ => x)) := zc_I_lay hI g3 (by omega) (fun _ _ => g)
    have hp2 := zp_lay (x := x) hI hp
    rw [← eα] at hI2 hp2
    refine zd_go (kM_lay G sw _ _ τ β t hJ hx) (fun v2 h2 q2 => ?_)
    rcases q2 with ⟨g1, -⟩ | ⟨g1, g2, -⟩ | ⟨g1, g2, g4, -⟩ | ⟨g1, g2, g4, rfl, rfl⟩
    · exact absurd g g1
    · exact absurd (tk.mp g2) g'
    · omega
    · exact ⟨_, _, rfl, by rw [p5], hI2, ht, hn, hp2, hc, hm, hl⟩

set_option maxRecDepth 100000 in
set_option maxHeartbeats 4000000 in
theorem zd_of (G : zk_G) (sw : Bool) (σ : Nat → Int) (α : Nat → Nat → Int) (τ : Nat → Int) (β : Nat → Nat → Int) (t : zk_H) (hz : zz σ α τ β) {x : Int} (hx : zk_rg x) : zk_K G mC_of (1, 22) 0 0 (.inr (some 1) :: [.inl x]) (zk_mk G sw σ α (zk_md τ β t)) (zd_R G mM_of (2, 45) [.inl x] τ β t) := by
  obtain ⟨hI, ht, hn, hp, hc, hm, hl⟩ := id hz
  have n0 := hI.1 0 (by decide)
  have n1 := hI.1 1 (by decide)
  have n2 := hI.1 2 (by decide)
  have n3 := hI.1 3 (by decide)
  have n4 := hI.1 4 (by decide)
  have e0 : (zr_N 0 : Int) = 40 := rfl
  have e1 : (zr_N 1 : Int) = 40 := rfl
  have e2 : (zr_N 2 : Int) = 80 := rfl
  have e3 : (zr_N 3 : Int) = 4102 := rfl
  have e4 : (zr_N 4 : Int) = 4000 := rfl
  have h10 := hI.2.2.2.1
  have hJ := zz_J hz
  have t0 := ht.1
  have t1 := ht.2.1
  have p5 := hp.1
  have p6 := hp.2.1
  have c7 := hc.1
  have m8 := hm.1
  obtain ⟨v0, v1, v2', v3, v4⟩ := id hn
  refine (kC_of G sw σ α _ hI hx).mono (fun v h' q => ?_)
  obtain ⟨rfl, q⟩ := q
  rcases q with ⟨u0, rfl⟩ | ⟨u0, rfl⟩ | ⟨u0, rfl⟩ | ⟨u0, rfl⟩ | ⟨u0, rfl⟩ | ⟨u0, rfl⟩ | ⟨u0, rfl⟩ | ⟨u0, rfl⟩ | ⟨u0, rfl⟩ <;> refine zd_same hz (kM_of G sw σ α τ β t hJ hx) (fun v2 h2 q2 => ?_) <;> obtain ⟨rfl, q2⟩ := q2 <;> refine ⟨rfl, ?_⟩ <;> rcases q2 with ⟨u1, rfl⟩ | ⟨u1, rfl⟩ | ⟨u1, rfl⟩ | ⟨u1, rfl⟩ | ⟨u1, rfl⟩ | ⟨u1, rfl⟩ | ⟨u1, rfl⟩ | ⟨u1, rfl⟩ | ⟨u1, rfl⟩ | ⟨u1, rfl⟩ | ⟨u1, rfl⟩ | ⟨u1, rfl⟩ | ⟨u1, rfl⟩ | ⟨u1, rfl⟩ <;> first | (exfalso; omega) | skip
  · rw [t0]
  · rw [t1]
  · rw [p5]
  · rw [c7]
  · rw [m8]
  · rw [zt_s0 ht]
  · rw [zt_s1 ht]
  · rw [p6]
  · (subst u1; rw [v0]; rfl)
  · (subst u1; rw [v1]; rfl)
  · (subst u1; rw [v2']; rfl)
  · (subst u1; rw [v3]; rfl)
  · (subst u1; rw [v4]; rfl)
  · rw [if_neg (by omega)]

set_option maxRecDepth 100000 in
set_option maxHeartbeats 4000000 in
theorem zd_rest (G : zk_G) (sw : Bool) (σ : Nat → Int) (α : Nat → Nat → Int) (τ : Nat → Int) (β : Nat → Nat → Int) (t : zk_H) (hz : zz σ α τ β) {x y : Int} (hx : zk_rg x) (hy : zk_rg y) : zk_K G mC_rest (5, 117) 0 0 (.inr (some 1) :: [.inl x, .inl y]) (zk_mk G sw σ α (zk_md τ β t)) (zd_R G mM_rest (3, 71) [.inl x, .inl y] τ β t) := by
  obtain ⟨hI, ht, hn, hp, hc, hm, hl⟩ := id hz
  have n0 := hI.1 0 (by decide)
  have n1 := hI.1 1 (by decide)
  have n2 := hI.1 2 (by decide)
  have n3 := hI.1 3 (by decide)
  have n4 := hI.1 4 (by decide)
  have e0 : (zr_N 0 : Int) = 40 := rfl
  have e1 : (zr_N 1 : Int) = 40 := rfl
  have e2 : (zr_N 2 : Int) = 80 := rfl
  have e3 : (zr_N 3 : Int) = 4102 := rfl
  have e4 : (zr_N 4 : Int) = 4000 := rfl
  have h10 := hI.2.2.2.1
  have hJ := zz_J hz
  have t0 := ht.1
  have t1 := ht.2.1
  have p5 := hp.1
  have p6 := hp.2.1
  have c7 := hc.1
  have m8 := hm.1
  refine (kC_rest G sw σ α _ hI hx hy).mono (fun v h' q => ?_)
  rcases q with ⟨g, rfl, rfl⟩ | ⟨g, f, b, e, hT, rfl, rfl⟩
  · refine zd_same hz (kM_rest G sw σ α τ β t hJ hx hy) (fun v2 h2 q2 => ?_)
    rcases q2 with ⟨g1, rfl, rfl⟩ | ⟨g1, -⟩
    · exact ⟨rfl, rfl⟩
    · exfalso
      omega
  · refine zd_go (kM_rest G sw _ _ τ β t hJ hx hy) (fun v2 h2 q2 => ?_)
    rcases q2 with ⟨g1, -⟩ | ⟨g1, f', hK, rfl, rfl⟩
    · exfalso
      omega
    · have eq := zz_tab ht hn hT.1 hK.1 x.toNat y.toNat (by omega) (by omega)
      refine ⟨_, _, rfl, ?_, zc_I_tab hI (fun q hq => zk_up_ne (by omega)) (fun q hq => ?_) (Or.inr rfl) (fun _ => hT), ht, hn, hp, hc, hm, ⟨Or.inr rfl, fun _ => zm_K_E (τ := τ) (β := zk_ua β 8 f') (fun q hq => zk_up_ne (by omega)) rfl rfl rfl hK⟩⟩
      · exact congrArg (fun r => some (Sum.inl r)) eq.symm
      · unfold zs_3 zk_ua
        rw [if_neg (by omega), if_neg (by omega), if_neg (by omega)]

set_option maxRecDepth 100000 in
set_option maxHeartbeats 4000000 in
theorem zd_plan (G : zk_G) (sw : Bool) (σ : Nat → Int) (α : Nat → Nat → Int) (τ : Nat → Int) (β : Nat → Nat → Int) (t : zk_H) (hz : zz σ α τ β) : zk_K G mC_plan (6, 137) 0 0 (.inr (some 1) :: []) (zk_mk G sw σ α (zk_md τ β t)) (zd_R G mM_plan (3, 75) [] τ β t) := by
  obtain ⟨hI, ht, hn, hp, hc, hm, hl⟩ := id hz
  have n0 := hI.1 0 (by decide)
  have n1 := hI.1 1 (by decide)
  have n2 := hI.1 2 (by decide)
  have n3 := hI.1 3 (by decide)
  have n4 := hI.1 4 (by decide)
  have e0 : (zr_N 0 : Int) = 40 := rfl
  have e1 : (zr_N 1 : Int) = 40 := rfl
  have e2 : (zr_N 2 : Int) = 80 := rfl
  have e3 : (zr_N 3 : Int) = 4102 := rfl
  have e4 : (zr_N 4 : Int) = 4000 := rfl
  have h10 := hI.2.2.2.1
  have hJ := zz_J hz
  have t0 := ht.1
  have t1 := ht.2.1
  have p5 := hp.1
  have p6 := hp.2.1
  have c7 := hc.1
  have m8 := hm.1
  refine (kC_plan G sw σ α _ hI).mono (fun v h' q => ?_)
  obtain ⟨f, σ3, α3, m, hpl, hsum, rfl, rfl⟩ := q
  refine zd_go (kM_plan G sw _ _ τ β t hJ) (fun v2 h2 q2 => ?_)
  obtain ⟨f', τ3, β3, m', s, hK, hpm, rfl, rfl⟩ := q2
  obtain ⟨c1, c2, c3, c4, c5, c6, c7', c8, c9, c10, c11, c12, c13, c14⟩ := id hpl
  obtain ⟨d1, d2, d3, d4, d5, ⟨d6, d7, d8, d9, d10, d11⟩, d12, d13⟩ := id hpm
  have hT := c1.2.2.2.2.2.2.2.2.2 c3
  have hT1 := (zs_T_E c2 hT).1
  rw [c4] at hT1
  have hT1 : mt_rest (α 0) (σ 0).toNat (α 1) (σ 1).toNat (zs_c σ) (mt_tb f) := hT1
  have d6' := zz_pl ht hn hT1 hK.1 d6
  have es : mt_isum (α3 7) m = mt_isum (β3 4) m' := by
    rw [hsum, d7, zt_n1 ht]
    omega
  obtain ⟨em, ea⟩ := mt_pl_all c13 d6' es
  subst em
  obtain ⟨z1, z2, z3, z4⟩ := zz_E c2 d1 ht hn hc hm
  have hrg := mt_pl_rg c13
  refine ⟨_, _, rfl, rfl, c1, z1, z2, ⟨by rw [d5, c6], by rw [d4, c5, zt_s0 ht], fun k hk => ?_⟩, z3, z4, ⟨Or.inr d2, fun _ => zm_K_E (τ := τ) (β := zk_ua β 8 f') d1.1 d1.2.2.2.1 d1.2.2.2.2.1 d3 hK⟩⟩
  rw [c6] at hk
  have hk : k < m := by omega
  obtain ⟨x1, x2, x3⟩ := ea k hk
  refine ⟨x1.symm, x2.symm, fun hx => (x3 hx).symm, d12 k hk, fun h2 j hj => ?_⟩
  have hi1 := mt_isum_le (C := α3 7) (n := k + 1) (m := m) (by omega) (fun k' hk' => (hrg k' hk').2.1)
  have hi1 : mt_isum (α3 7) k + α3 7 k ≤ mt_isum (α3 7) m := hi1
  have hi0 := mt_isum_rg (C := α3 7) (n := k) (fun k' hk' => (hrg k' (by omega)).2.1)
  rw [d13 k hk (by rw [← x1]; exact h2) j (by rw [← x2]; exact hj)]
  show _ = α3 4 ((α3 8 k).toNat + j)
  rw [c14 k hk h2 j hj, mt_isum_congr (C := β3 4) (C' := α3 7) (fun k' hk' => (ea k' (by omega)).2.1.symm)]
  exact ht.2.2.2.1 _ (by omega)

set_option maxRecDepth 100000 in
set_option maxHeartbeats 4000000 in
theorem zd_moved (G : zk_G) (sw : Bool) (σ : Nat → Int) (α : Nat → Nat → Int) (τ : Nat → Int) (β : Nat → Nat → Int) (t : zk_H) (hz : zz σ α τ β) {x : Int} (hx : zk_rg x) : zk_K G mC_moved (6, 137) 0 0 (.inr (some 1) :: [.inl x]) (zk_mk G sw σ α (zk_md τ β t)) (zd_R G mM_moved (3, 75) [.inl x] τ β t) := by
  obtain ⟨hI, ht, hn, hp, hc, hm, hl⟩ := id hz
  have n0 := hI.1 0 (by decide)
  have n1 := hI.1 1 (by decide)
  have n2 := hI.1 2 (by decide)
  have n3 := hI.1 3 (by decide)
  have n4 := hI.1 4 (by decide)
  have e0 : (zr_N 0 : Int) = 40 := rfl
  have e1 : (zr_N 1 : Int) = 40 := rfl
  have e2 : (zr_N 2 : Int) = 80 := rfl
  have e3 : (zr_N 3 : Int) = 4102 := rfl
  have e4 : (zr_N 4 : Int) = 4000 := rfl
  have h10 := hI.2.2.2.1
  have hJ := zz_J hz
  have t0 := ht.1
  have t1 := ht.2.1
  have p5 := hp.1
  have p6 := hp.2.1
  have c7 := hc.1
  have m8 := hm.1
  refine (kC_moved G sw σ α _ hI hx).mono (fun v h' q => ?_)
  rcases q with ⟨g, rfl, rfl⟩ | ⟨g, f, b, e, σ3, K, P, C, m, hpl, hsum, rfl, rfl⟩
  · refine zd_same hz (kM_moved G sw σ α τ β t hJ hx) (fun v2 h2 q2 => ?_)
    rcases q2 with ⟨g1, rfl, rfl⟩ | ⟨g1, -⟩
    · exact ⟨rfl, rfl⟩
    · exact absurd g1 g
  · refine zd_go (kM_moved G sw _ _ τ β t hJ hx) (fun v2 h2 q2 => ?_)
    rcases q2 with ⟨g1, -⟩ | ⟨g1, f', τ3, K', P', C', m', s, hK, hv, h9, ⟨d6, d7, d8, d9, d10, d11⟩, rfl, rfl⟩
    · exact absurd g g1
    · obtain ⟨c1, c2, c3, c4, c5, c7', c8, c9, c10, c11, c12, c13⟩ := id hpl
      have hT := c1.2.2.2.2.2.2.2.2.2 c3
      have hT1 := (zs_T_E c2 hT).1
      rw [c4] at hT1
      have hT1 : mt_rest (α 0) (σ 0).toNat (α 1) (σ 1).toNat (zs_c σ) (mt_tb f) := hT1
      have d6' := zz_pl ht hn hT1 hK.1 d6
      have es : mt_isum C m = mt_isum C' m' := by
        rw [hsum, d7, zt_n1 ht]
        omega
      obtain ⟨em, ea⟩ := mt_pl_all c13 d6' es
      subst em
      have hE : zm_E τ τ3 β (zk_ua β 8 f') := ⟨fun q hq => hv q (by omega), hv 7 (by decide), hv 8 (by decide), rfl, rfl, rfl, rfl⟩
      obtain ⟨z1, z2, z3, z4⟩ := zz_E c2 hE ht hn hc hm
      refine ⟨_, _, rfl, ?_, c1, z1, z2, ⟨by rw [hv 5 (by decide), c5 10 (by decide)]; exact p5, by rw [hv 6 (by decide), c5 11 (by decide)]; exact p6, fun k hk => ?_⟩, z3, z4, ⟨Or.inr h9, fun _ => zm_K_E (τ := τ) (β := zk_ua β 8 f') hE.1 rfl rfl rfl hK⟩⟩
      · rw [mt_mv_congr (K := K) (P := P) (C := C) (K' := K') (P' := P') (C' := C') (fun k hk => ⟨(ea k hk).1, (ea k hk).2.1, fun h0 => (ea k hk).2.2 (by omega)⟩)]
      · rw [c5 10 (by decide)] at hk
        exact hp.2.2 k hk
