/-! THE CLASS AND THE REFERENCE SIDE BY SIDE -/
theorem zk_K.mono {G : zk_G} {M : zk_M} {d : Nat × Nat} {mc ms : Nat} {av : List zk_V} {h : zk_H} {Q Q' : Option zk_V → zk_H → Prop} (k : zk_K G M d mc ms av h Q) (hq : ∀ v h', Q v h' → Q' v h') : zk_K G M d mc ms av h Q' := by
  intro p e ha hc hk s m args below hf happ hP ht
  obtain ⟨n, o, h1, h2, h3, ⟨⟨v, h', g1, g2, g3⟩, g4⟩, g5⟩ := k p e ha hc hk s m args below hf happ hP ht
  exact ⟨n, o, h1, h2, h3, ⟨⟨v, h', g1, hq v h' g2, g3⟩, g4⟩, g5⟩
/-- the texts are the same -/
def zt (σ : Nat → Int) (α β : Nat → Nat → Int) : Prop := β 1 0 = σ 0 ∧ β 1 1 = σ 1 ∧ (∀ j : Nat, (j : Int) < σ 0 → zm_T β 0 j = α 0 j) ∧ (∀ j : Nat, (j : Int) < σ 1 → zm_T β 1 j = α 1 j) ∧ ∀ j, 0 ≤ β 0 j ∧ β 0 j ≤ 255
/-- the numbers are -/
def zn (σ τ : Nat → Int) : Prop := τ 0 = σ 5 ∧ τ 1 = σ 6 ∧ τ 2 = σ 7 ∧ τ 3 = σ 8 ∧ τ 4 = σ 9
/-- act k is -/
def zz_a (α β : Nat → Nat → Int) (k : Nat) : Prop := β 2 k = α 5 k ∧ β 4 k = α 7 k ∧ (α 5 k ≠ 2 → β 3 k = α 6 k) ∧ (0 ≤ β 3 k ∧ β 3 k ≤ 79) ∧ (α 5 k = 2 → ∀ j : Nat, (j : Int) < α 7 k → zm_lb β k j = zc_lb α k j)
def zp (σ : Nat → Int) (α : Nat → Nat → Int) (τ : Nat → Int) (β : Nat → Nat → Int) : Prop := τ 5 = σ 10 ∧ τ 6 = σ 11 ∧ ∀ k, k < (σ 10).toNat → zz_a α β k
def zcd (σ : Nat → Int) (α : Nat → Nat → Int) (τ : Nat → Int) (β : Nat → Nat → Int) : Prop := τ 7 = σ 3 ∧ ∀ x : Nat, (x : Int) < σ 3 → β 6 x = α 3 x
def zmd (σ : Nat → Int) (α : Nat → Nat → Int) (τ : Nat → Int) (β : Nat → Nat → Int) : Prop := τ 8 = σ 2 ∧ ∀ x : Nat, (x : Int) < σ 2 → β 7 x = α 2 x
def zl (τ : Nat → Int) (β : Nat → Nat → Int) : Prop := (τ 9 = 0 ∨ τ 9 = 1) ∧ (τ 9 = 1 → zm_K τ β)
/-- class and reference are the same -/
def zz (σ : Nat → Int) (α : Nat → Nat → Int) (τ : Nat → Int) (β : Nat → Nat → Int) : Prop := zc_I σ α ∧ zt σ α β ∧ zn σ τ ∧ zp σ α τ β ∧ zcd σ α τ β ∧ zmd σ α τ β ∧ zl τ β
theorem zn_c {σ τ : Nat → Int} (h : zn σ τ) : zm_c τ = zs_c σ := by
  obtain ⟨h0, h1, h2, h3, h4⟩ := h
  funext j
  match j with
  | 0 => exact h0
  | 1 => exact h1
  | 2 => exact h2
  | 3 => exact h3
  | j + 4 => exact h4
theorem zt_n0 {σ : Nat → Int} {α β : Nat → Nat → Int} (h : zt σ α β) : zm_n β 0 = (σ 0).toNat := by
  unfold zm_n
  rw [h.1]
theorem zt_n1 {σ : Nat → Int} {α β : Nat → Nat → Int} (h : zt σ α β) : zm_n β 1 = (σ 1).toNat := by
  unfold zm_n
  rw [h.2.1]
theorem zt_s0 {σ : Nat → Int} {α β : Nat → Nat → Int} (h : zt σ α β) : mt_sum (zm_T β 0) (zm_n β 0) = mt_sum (α 0) (σ 0).toNat := by
  rw [zt_n0 h]
  exact mt_sum_congr (fun j hj => h.2.2.1 j (by omega))
theorem zt_s1 {σ : Nat → Int} {α β : Nat → Nat → Int} (h : zt σ α β) : mt_sum (zm_T β 1) (zm_n β 1) = mt_sum (α 1) (σ 1).toNat := by
  rw [zt_n1 h]
  exact mt_sum_congr (fun j hj => h.2.2.2.1 j (by omega))
theorem zz_J {σ : Nat → Int} {α : Nat → Nat → Int} {τ : Nat → Int} {β : Nat → Nat → Int} (h : zz σ α τ β) : zm_J τ β := by
  obtain ⟨hI, ht, hn, hp, hc, hm, hl⟩ := h
  obtain ⟨a1, a2, a3, a4, a5, a6, a7, a8, a9, a10⟩ := hI
  have n0 := a1 0 (by decide)
  have n1 := a1 1 (by decide)
  have n2 := a1 2 (by decide)
  have n3 := a1 3 (by decide)
  have e0 : (zr_N 0 : Int) = 40 := rfl
  have e1 : (zr_N 1 : Int) = 40 := rfl
  have e2 : (zr_N 2 : Int) = 80 := rfl
  have e3 : (zr_N 3 : Int) = 4102 := rfl
  refine ⟨⟨by rw [ht.1]; omega, by rw [ht.2.1]; omega, ht.2.2.2.2, by rw [zn_c hn]; exact a3⟩, by rw [hp.1]; exact a4, by rw [hp.2.1]; exact a5, by rw [hc.1]; omega, by rw [hm.1]; omega, fun k hk => ?_, fun k hk h2 j hj => ?_, fun x hx => ?_, fun x hx => ?_, hl.1, hl.2⟩
  · rw [hp.1] at hk
    obtain ⟨b1, b2, b3, b4, b5⟩ := hp.2.2 k hk
    obtain ⟨c1, c2, -⟩ := a7 k hk
    exact ⟨by rw [b1]; exact c1, by rw [b2]; exact c2, b4⟩
  · rw [hp.1] at hk
    obtain ⟨b1, b2, b3, b4, b5⟩ := hp.2.2 k hk
    rw [b1] at h2
    rw [b2] at hj
    have hb := b5 h2 j hj
    have hv := a2 4 (by decide) ((α 8 k).toNat + j)
    show 0 ≤ zm_lb β k j ∧ zm_lb β k j ≤ 255
    rw [hb]
    exact hv
  · rw [hc.1] at hx
    rw [hc.2 x (by omega)]
    exact a2 3 (by decide) x
  · rw [hm.1] at hx
    rw [hm.2 x (by omega)]
    exact a2 2 (by decide) x
/-! what of the class stays -/
theorem zc_I_txt {σ σ' : Nat → Int} {α α' : Nat → Nat → Int} (hI : zc_I σ α) (h : ∀ q, 2 ≤ q → q < 12 → σ' q = σ q) (h0 : 0 ≤ σ' 0 ∧ σ' 0 ≤ 40) (h1 : 0 ≤ σ' 1 ∧ σ' 1 ≤ 40) (ha : ∀ q, 2 ≤ q → q < 9 → α' q = α q) (b0 : ∀ j, 0 ≤ α' 0 j ∧ α' 0 j ≤ 255) (b1 : ∀ j, 0 ≤ α' 1 j ∧ α' 1 j ≤ 255) (h12 : σ' 12 = 0) : zc_I σ' α' := by
  obtain ⟨a1, a2, a3, a4, a5, a6, a7, a8, a9, a10⟩ := hI
  have ec : zs_c σ' = zs_c σ := by
    funext j
    unfold zs_c
    split
    · exact h 5 (by decide) (by decide)
    · exact h 6 (by decide) (by decide)
    · exact h 7 (by decide) (by decide)
    · exact h 8 (by decide) (by decide)
    · exact h 9 (by decide) (by decide)
  refine ⟨fun q hq => ?_, fun q hq => ?_, ?_, ?_, ?_, fun q j hq => ?_, fun k hk => ?_, ?_, Or.inl h12, fun hx => absurd hx (by omega)⟩
  · match q, hq with
    | 0, _ => exact h0
    | 1, _ => exact h1
    | 2, _ => rw [h 2 (by decide) (by decide)]; exact a1 2 (by decide)
    | 3, _ => rw [h 3 (by decide) (by decide)]; exact a1 3 (by decide)
    | 4, _ => rw [h 4 (by decide) (by decide)]; exact a1 4 (by decide)
  · match q, hq with
    | 0, _ => exact b0
    | 1, _ => exact b1
    | 2, _ => rw [ha 2 (by decide) (by decide)]; exact a2 2 (by decide)
    | 3, _ => rw [ha 3 (by decide) (by decide)]; exact a2 3 (by decide)
    | 4, _ => rw [ha 4 (by decide) (by decide)]; exact a2 4 (by decide)
  · rw [ec]; exact a3
  · rw [h 10 (by decide) (by decide)]; exact a4
  · rw [h 11 (by decide) (by decide)]; exact a5
  · by_cases e : 2 ≤ q
    · rw [ha q e hq]; exact a6 q j hq
    · rcases (show q = 0 ∨ q = 1 by omega) with rfl | rfl
      · have := b0 j
        exact ⟨by omega, by omega⟩
      · have := b1 j
        exact ⟨by omega, by omega⟩
  · rw [h 10 (by decide) (by decide)] at hk
    unfold zc_a
    rw [ha 5 (by decide) (by decide), ha 6 (by decide) (by decide), ha 7 (by decide) (by decide), ha 8 (by decide) (by decide)]
    exact a7 k hk
  · rw [h 10 (by decide) (by decide), h 4 (by decide) (by decide), ha 5 (by decide) (by decide), ha 7 (by decide) (by decide)]; exact a8
theorem zc_I_num {σ σ' : Nat → Int} {α : Nat → Nat → Int} (hI : zc_I σ α) (h : ∀ q, q < 12 → (q < 5 ∨ 10 ≤ q) → σ' q = σ q) (hc : ∀ j, j < 5 → 0 ≤ zs_c σ' j ∧ zs_c σ' j ≤ 100) (h12 : σ' 12 = 0) : zc_I σ' α := by
  obtain ⟨a1, a2, a3, a4, a5, a6, a7, a8, a9, a10⟩ := hI
  refine ⟨fun q hq => ?_, a2, hc, ?_, ?_, a6, ?_, ?_, Or.inl h12, fun hx => absurd hx (by omega)⟩
  · rw [h q (by omega) (by omega)]; exact a1 q hq
  · rw [h 10 (by decide) (by decide)]; exact a4
  · rw [h 11 (by decide) (by decide)]; exact a5
  · rw [h 10 (by decide) (by decide)]; exact a7
  · rw [h 10 (by decide) (by decide), h 4 (by decide) (by decide)]; exact a8
/-- nothing there -/
theorem zc_I_new {σ' : Nat → Int} {α : Nat → Nat → Int} (a2 : ∀ q, q < 5 → ∀ j, 0 ≤ α q j ∧ α q j ≤ 255) (a6 : ∀ q j, q < 9 → zk_rg (α q j)) (h : ∀ q, q < 5 → σ' q = 0) (hc : ∀ j, j < 5 → 0 ≤ zs_c σ' j ∧ zs_c σ' j ≤ 100) (h10 : σ' 10 = 0) (h11 : σ' 11 = 1) (h12 : σ' 12 = 0) : zc_I σ' α := by
  refine ⟨fun q hq => ?_, a2, hc, by omega, by omega, a6, fun k hk => ?_, ?_, Or.inl h12, fun hx => absurd hx (by omega)⟩
  · rw [h q hq]
    exact ⟨by omega, by omega⟩
  · rw [h10] at hk
    exact absurd hk (Nat.not_lt_zero k)
  · rw [h 4 (by decide), h10]
    rfl
/-- one byte more in the last LAY -/
theorem zc_I_ext {σ : Nat → Int} {α : Nat → Nat → Int} {x : Int} (hI : zc_I σ α) (ht : zk_tk σ α) (hx : 0 ≤ x ∧ x ≤ 255) : zc_I (zk_up σ 4 (σ 4 + 1)) (zk_ua (zk_ua α 4 (zk_up (α 4) (σ 4).toNat x)) 7 (zk_up (α 7) (σ 10 - 1).toNat (α 7 (σ 10 - 1).toNat + 1))) := by
  have h4l := zc_4l hI ht
  obtain ⟨a1, a2, a3, a4, a5, a6, a7, a8, a9, a10⟩ := hI
  obtain ⟨t1, t2, t3⟩ := ht
  have n4 := a1 4 (by decide)
  have e4 : (zr_N 4 : Int) = 4000 := rfl
  have hl := a7 (σ 10 - 1).toNat (by omega)
  have hl2 := hl.2.1
  have hls : ∀ m, m ≤ (σ 10 - 1).toNat → mt_lsum (α 5) (zk_up (α 7) (σ 10 - 1).toNat (α 7 (σ 10 - 1).toNat + 1)) m = mt_lsum (α 5) (α 7) m := fun m hm => mt_lsum_congr (fun k hk => ⟨rfl, zk_up_ne (by omega)⟩)
  refine ⟨fun q hq => ?_, fun q hq => ?_, a3, a4, a5, fun q j hq => ?_, fun k hk => ?_, ?_, a9, a10⟩
  · match q, hq with
    | 0, _ => exact a1 0 (by decide)
    | 1, _ => exact a1 1 (by decide)
    | 2, _ => exact a1 2 (by decide)
    | 3, _ => exact a1 3 (by decide)
    | 4, _ => exact ⟨show 0 ≤ σ 4 + 1 by omega, show σ 4 + 1 ≤ (zr_N 4 : Int) by omega⟩
  · match q, hq with
    | 0, _ => exact a2 0 (by decide)
    | 1, _ => exact a2 1 (by decide)
    | 2, _ => exact a2 2 (by decide)
    | 3, _ => exact a2 3 (by decide)
    | 4, _ => exact zk_up_by (a2 4 (by decide)) hx
  · unfold zk_ua
    (repeat' split)
    · exact zk_up_rg (fun j => a6 7 j (by decide)) ⟨by omega, by omega⟩ j
    · have := zk_up_by (k := (σ 4).toNat) (a2 4 (by decide)) hx j
      exact ⟨by omega, by omega⟩
    · exact a6 q j hq
  · have hk : k < (σ 10).toNat := hk
    obtain ⟨c1, c2, c3, c4, c5⟩ := a7 k hk
    show (α 5 k = 0 ∨ α 5 k = 1 ∨ α 5 k = 2) ∧ (1 ≤ zk_up (α 7) (σ 10 - 1).toNat (α 7 (σ 10 - 1).toNat + 1) k ∧ zk_up (α 7) (σ 10 - 1).toNat (α 7 (σ 10 - 1).toNat + 1) k ≤ 40) ∧ (α 5 k ≠ 2 → 0 ≤ α 6 k ∧ α 6 k ≤ 79) ∧ (α 5 k = 2 → α 6 k = -1) ∧ α 8 k = mt_lsum (α 5) (zk_up (α 7) (σ 10 - 1).toNat (α 7 (σ 10 - 1).toNat + 1)) k
    refine ⟨c1, ?_, c3, c4, by rw [hls k (by omega)]; exact c5⟩
    by_cases e : k = (σ 10 - 1).toNat
    · subst e
      rw [zk_up_at]
      omega
    · rw [zk_up_ne e]; exact c2
  · show σ 4 + 1 = mt_lsum (α 5) (zk_up (α 7) (σ 10 - 1).toNat (α 7 (σ 10 - 1).toNat + 1)) (σ 10).toNat
    have e : (σ 10).toNat = (σ 10 - 1).toNat + 1 := by omega
    rw [e] at a8 ⊢
    have a8 : σ 4 = mt_lsum (α 5) (α 7) (σ 10 - 1).toNat + (if α 5 (σ 10 - 1).toNat = 2 then α 7 (σ 10 - 1).toNat else 0) := a8
    show σ 4 + 1 = mt_lsum (α 5) (zk_up (α 7) (σ 10 - 1).toNat (α 7 (σ 10 - 1).toNat + 1)) (σ 10 - 1).toNat + (if α 5 (σ 10 - 1).toNat = 2 then zk_up (α 7) (σ 10 - 1).toNat (α 7 (σ 10 - 1).toNat + 1) (σ 10 - 1).toNat else 0)
    rw [hls _ (Nat.le_refl _), if_pos t2, zk_up_at]
    rw [if_pos t2] at a8
    omega
/-! what the reference does behind the class -/
def zd_R (G : zk_G) (MM : zk_M) (dM : Nat × Nat) (av : List zk_V) (τ : Nat → Int) (β : Nat → Nat → Int) (t : zk_H) : Option zk_V → zk_H → Prop := fun v h' => ∃ (sw' : Bool) (σ' : Nat → Int) (α' : Nat → Nat → Int) (r : Int), h' = zk_mk G sw' σ' α' (zk_md τ β t) ∧ v = some (.inl r) ∧ zk_K G MM dM 0 0 (.inr (some 22) :: av) (zk_mk G sw' σ' α' (zk_md τ β t)) (fun v2 h2 => v2 = some (.inl r) ∧ ∃ (τ' : Nat → Int) (β' : Nat → Nat → Int), h2 = zk_mk G sw' σ' α' (zk_md τ' β' t) ∧ zz σ' α' τ' β')
theorem zd_go {G : zk_G} {MM : zk_M} {dM : Nat × Nat} {av : List zk_V} {τ : Nat → Int} {β : Nat → Nat → Int} {t : zk_H} {sw' : Bool} {σ' : Nat → Int} {α' : Nat → Nat → Int} {r : Int} {Qm : Option zk_V → zk_H → Prop} (hm : zk_K G MM dM 0 0 (.inr (some 22) :: av) (zk_mk G sw' σ' α' (zk_md τ β t)) Qm)
    (hq : ∀ v2 h2, Qm v2 h2 → ∃ (τ' : Nat → Int) (β' : Nat → Nat → Int), h2 = zk_mk G sw' σ' α' (zk_md τ' β' t) ∧ v2 = some (.inl r) ∧ zz σ' α' τ' β') : zd_R G MM dM av τ β t (some (.inl r)) (zk_mk G sw' σ' α' (zk_md τ β t)) :=
  ⟨sw', σ', α', r, rfl, rfl, hm.mono (fun v2 h2 q => by
    obtain ⟨τ', β', h1, h2', h3⟩ := hq v2 h2 q
    exact ⟨h2', τ', β', h1, h3⟩)⟩
theorem zd_same {G : zk_G} {MM : zk_M} {dM : Nat × Nat} {av : List zk_V} {τ : Nat → Int} {β : Nat → Nat → Int} {t : zk_H} {sw : Bool} {σ : Nat → Int} {α : Nat → Nat → Int} {r : Int} {Qm : Option zk_V → zk_H → Prop} (hz : zz σ α τ β) (hm : zk_K G MM dM 0 0 (.inr (some 22) :: av) (zk_mk G sw σ α (zk_md τ β t)) Qm)
    (hq : ∀ v2 h2, Qm v2 h2 → h2 = zk_mk G sw σ α (zk_md τ β t) ∧ v2 = some (.inl r)) : zd_R G MM dM av τ β t (some (.inl r)) (zk_mk G sw σ α (zk_md τ β t)) :=
  zd_go hm (fun v2 h2 q => ⟨τ, β, (hq v2 h2 q).1, (hq v2 h2 q).2, hz⟩)
/-! spots, costs -/
theorem mt_cost_congr {c K P C K' P' C' : Nat → Int} {n : Nat} (h : ∀ k, k ≤ n → K k = K' k ∧ C k = C' k ∧ (K k ≠ 2 → P k = P' k)) : mt_cost c K P C n = mt_cost c K' P' C' n := by
  have hs : mt_spot K P C n = mt_spot K' P' C' n := mt_spot_congr (fun k hk => ⟨(h k (by omega)).1, fun h0 => ⟨(h k (by omega)).2.2 (by omega), (h k (by omega)).2.1⟩⟩)
  have h1 := h n (Nat.le_refl n)
  unfold mt_cost
  rw [hs, ← h1.1, ← h1.2.1]
  by_cases h0 : K n = 0
  · rw [if_pos h0, if_pos h0, h1.2.2 (by omega)]
  · rw [if_neg h0, if_neg h0]
theorem mt_csum_congr {c K P C K' P' C' : Nat → Int} : ∀ {n : Nat}, (∀ k, k < n → K k = K' k ∧ C k = C' k ∧ (K k ≠ 2 → P k = P' k)) → mt_csum c K P C n = mt_csum c K' P' C' n
  | 0, _ => rfl
  | n + 1, h => by
    show mt_csum c K P C n + mt_cost c K P C n = mt_csum c K' P' C' n + mt_cost c K' P' C' n
    rw [mt_csum_congr (fun k hk => h k (by omega)), mt_cost_congr (fun k hk => h k (by omega))]
theorem zp_acts {σ : Nat → Int} {α : Nat → Nat → Int} {τ : Nat → Int} {β : Nat → Nat → Int} (h : zp σ α τ β) : ∀ k, k < (σ 10).toNat → β 2 k = α 5 k ∧ β 4 k = α 7 k ∧ (β 2 k ≠ 2 → β 3 k = α 6 k) := fun k hk => by
  obtain ⟨b1, b2, b3, -⟩ := h.2.2 k hk
  exact ⟨b1, b2, fun hx => b3 (by rw [← b1]; exact hx)⟩
theorem zp_spot {σ : Nat → Int} {α : Nat → Nat → Int} {τ : Nat → Int} {β : Nat → Nat → Int} (h : zp σ α τ β) {n : Nat} (hn : n ≤ (σ 10).toNat) : mt_spot (β 2) (β 3) (β 4) n = mt_spot (α 5) (α 6) (α 7) n :=
  mt_spot_congr (fun k hk => ⟨(zp_acts h k (by omega)).1, fun h0 => ⟨(zp_acts h k (by omega)).2.2 (by omega), (zp_acts h k (by omega)).2.1⟩⟩)
