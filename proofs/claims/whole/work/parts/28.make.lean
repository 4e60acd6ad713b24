/-- the byte j of what act k makes -/
def mt_by (O K P M : Nat → Int) (lb : Nat → Nat → Int) (k j : Nat) : Int := if K k = 0 then O ((P k).toNat + j) else if K k = 1 then M ((P k).toNat + j) else lb k j
/-- an act fails -/
def mt_fl (nO : Int) (K P C : Nat → Int) (k : Nat) : Prop := 80 < mt_isum C k + C k ∨ (K k = 0 ∧ nO < P k + C k) ∨ (K k = 1 ∧ mt_isum C k ≤ P k)
/-- what the acts below m make -/
def mt_mk (O K P C M : Nat → Int) (lb : Nat → Nat → Int) (m : Nat) : Prop := ∀ k, k < m → ∀ j : Nat, (j : Int) < C k → M ((mt_isum C k).toNat + j) = mt_by O K P M lb k j
/-- the bytes that act k of the class lays -/
def zc_lb (α : Nat → Nat → Int) (k j : Nat) : Int := α 4 ((α 8 k).toNat + j)
theorem mt_isum_rg {C : Nat → Int} : ∀ {n : Nat}, (∀ k, k < n → 1 ≤ C k) → (n : Int) ≤ mt_isum C n
  | 0, _ => Int.le_refl 0
  | n + 1, h => by
    have h1 := mt_isum_rg (n := n) (fun k hk => h k (by omega))
    have h2 := h n (by omega)
    show ((n + 1 : Nat) : Int) ≤ mt_isum C n + C n
    omega
theorem mt_isum_le {C : Nat → Int} {n : Nat} : ∀ {m : Nat}, n ≤ m → (∀ k, k < m → 1 ≤ C k) → mt_isum C n ≤ mt_isum C m
  | 0, h, _ => by rw [show n = 0 by omega]; exact Int.le_refl _
  | m + 1, h, hC => by
    by_cases e : n = m + 1
    · rw [e]; exact Int.le_refl _
    · have h1 := mt_isum_le (n := n) (m := m) (by omega) (fun k hk => hC k (by omega))
      have h2 := hC m (by omega)
      show _ ≤ mt_isum C m + C m
      omega
/-- while act k is done: j of its bytes are made -/
def zc_pf (σ : Nat → Int) (α : Nat → Nat → Int) (k : Nat) (M : Nat → Int) (j : Nat) : Prop := (∀ x, x < (σ 2).toNat → M x = α 2 x) ∧ (∀ j', j' < j → M ((σ 2).toNat + j') = mt_by (α 0) (α 5) (α 6) M (zc_lb α) k j') ∧ ∀ x, 0 ≤ M x ∧ M x ≤ 255
theorem zc_pf_step {σ : Nat → Int} {α : Nat → Nat → Int} {k j : Nat} {M : Nat → Int} {x : Int} (h : zc_pf σ α k M j) (hx : x = mt_by (α 0) (α 5) (α 6) M (zc_lb α) k j) (hb : 0 ≤ x ∧ x ≤ 255) (hs : α 5 k = 1 → (α 6 k).toNat < (σ 2).toNat) : zc_pf σ α k (zk_up M ((σ 2).toNat + j) x) (j + 1) := by
  obtain ⟨h1, h2, h3⟩ := h
  have st : ∀ j', j' ≤ j → mt_by (α 0) (α 5) (α 6) (zk_up M ((σ 2).toNat + j) x) (zc_lb α) k j' = mt_by (α 0) (α 5) (α 6) M (zc_lb α) k j' := by
    intro j' hj
    unfold mt_by
    by_cases e0 : α 5 k = 0
    · rw [if_pos e0, if_pos e0]
    · rw [if_neg e0, if_neg e0]
      by_cases e1 : α 5 k = 1
      · rw [if_pos e1, if_pos e1, zk_up_ne (by have := hs e1; omega)]
      · rw [if_neg e1, if_neg e1]
  refine ⟨fun y hy => ?_, fun j' hj' => ?_, fun y => ?_⟩
  · rw [zk_up_ne (by omega)]; exact h1 y hy
  · rw [st j' (by omega)]
    by_cases e : j' = j
    · subst e
      rw [zk_up_at]; exact hx
    · rw [zk_up_ne (by omega)]; exact h2 j' (by omega)
  · unfold zk_up
    split
    · exact hb
    · exact h3 y

theorem zc_2_rg {α : Nat → Nat → Int} {M : Nat → Int} (ha : ∀ q j, q < 9 → zk_rg (α q j)) (hM : ∀ x, 0 ≤ M x ∧ M x ≤ 255) : ∀ q j, q < 9 → zk_rg (zk_ua α 2 M q j) := by
  intro q j hq
  unfold zk_ua
  split
  · have := hM j
    exact ⟨by omega, by omega⟩
  · exact ha q j hq

set_option maxRecDepth 100000 in
set_option maxHeartbeats 4000000 in
theorem wC_perform (G : zk_G) (sw : Bool) (σ : Nat → Int) (α : Nat → Nat → Int) (t : zk_H) (hI : zc_I σ α) {k0 : Nat} (hk0 : (k0 : Int) < σ 10) (hnf : ¬ (80 < σ 2 + α 7 k0 ∨ (α 5 k0 = 0 ∧ σ 0 < α 6 k0 + α 7 k0) ∨ (α 5 k0 = 1 ∧ σ 2 ≤ α 6 k0))) : ∀ (k : Nat) (j : Nat) (M : Nat → Int), ((j : Int) ≤ α 7 k0) → (α 7 k0 < (j : Int) + k) → (zc_pf σ α k0 M j) → zk_W G mC_perform (4, 86) 0 0 2 [some (.inr (some 1)), some (.inl (k0 : Int)), some (.inl (j : Int))] [] (zk_mk G sw (zk_up σ 2 (σ 2 + (j : Int))) (zk_ua α 2 M) t) (fun v h' => v = none ∧ ∃ M, zc_pf σ α k0 M (α 7 k0).toNat ∧ h' = zk_mk G sw (zk_up σ 2 (σ 2 + α 7 k0)) (zk_ua α 2 M) t) := by
  intro k
  induction k with
  | zero =>
    intro j M g1 g2 hpf
    exfalso
    omega
  | succ k ih =>
    intro j M g1 g2 hpf
    have hn0 := hI.1 0 (by decide)
    have hn1 := hI.1 1 (by decide)
    have hn2 := hI.1 2 (by decide)
    have hn3 := hI.1 3 (by decide)
    have hn4 := hI.1 4 (by decide)
    have eN0 : (zr_N 0 : Int) = 40 := rfl
    have eN1 : (zr_N 1 : Int) = 40 := rfl
    have eN2 : (zr_N 2 : Int) = 80 := rfl
    have eN3 : (zr_N 3 : Int) = 4102 := rfl
    have eN4 : (zr_N 4 : Int) = 4000 := rfl
    have hv0 := hI.2.1 0 (by decide)
    have hv1 := hI.2.1 1 (by decide)
    have hv2 := hI.2.1 2 (by decide)
    have hv3 := hI.2.1 3 (by decide)
    have hv4 := hI.2.1 4 (by decide)
    have hc := hI.2.2.1
    have hs10 := hI.2.2.2.1
    have hs11 := hI.2.2.2.2.1
    have ha := hI.2.2.2.2.2.1
    have hAk := hI.2.2.2.2.2.2.1 k0 (by omega)
    obtain ⟨ak1, ak2, ak3, ak4, ak5⟩ := hAk
    refine zk_iload_n dC_perform_2 rfl ?_
    refine zk_aload_n dC_perform_3 rfl ?_
    refine zk_get zfC_37 dC_perform_4 (v := .inr (some 11)) rfl (by decide) rfl ?_
    refine zk_iload_n dC_perform_7 rfl ?_
    refine zk_callV (av := [.inl (k0 : Int)]) (st := [.inl (j : Int)]) (d' := (1, 21)) (kc' := 0) (ks' := 0) zbC_136 dC_perform_8 rfl (by decide) rfl rfl (Nat.le_of_ble_eq_true rfl) ⟨by decide, by decide⟩ rfl rfl (kA_count G sw (zk_up σ 2 (σ 2 + (j : Int))) (zk_ua α 2 M) t hs10 ⟨by omega, by omega⟩) (fun v9 h9 q9 => ?_)
    rcases q9 with ⟨rfl, ⟨hka8, rfl⟩ | ⟨hka8, rfl⟩⟩
    · skip
      refine zk_W.to (ls' := [some (.inr (some 1)), some (.inl (k0 : Int)), some (.inl (j : Int))]) (st' := [.inl (α 7 k0), .inl (j : Int)]) (h' := (zk_mk G sw (zk_up σ 2 (σ 2 + (j : Int))) (zk_ua α 2 M) t)) rfl rfl rfl ?_
      refine zk_icmp_ge (tgt := 33) dC_perform_11 (by decide) ⟨by omega, by omega⟩ ⟨by omega, by omega⟩ (fun h11 => ?_) (fun h11 => ?_)
      · skip
        have en : (α 7 k0).toNat = j := by omega
        have en2 : (j : Int) = α 7 k0 := by omega
        refine zk_ret dC_perform_33 rfl ⟨rfl, M, by rw [en]; exact hpf, ?_⟩
        rw [en2]
      · skip
        refine zk_aload_n dC_perform_14 rfl ?_
        refine zk_get zfC_21 dC_perform_15 (v := .inr (some 6)) rfl (by decide) rfl ?_
        refine zk_aload_n dC_perform_18 rfl ?_
        refine zk_iload_n dC_perform_19 rfl ?_
        refine zk_iload_n dC_perform_20 rfl ?_
        refine zk_callV (av := [.inl (k0 : Int), .inl (j : Int)]) (st := [.inr (some 6)]) (d' := (3, 64)) (kc' := 0) (ks' := 0) zbC_212 dC_perform_21 rfl (by decide) rfl rfl (Nat.le_of_ble_eq_true rfl) ⟨by decide, by decide⟩ rfl rfl (kC_byteOf G sw (zk_up σ 2 (σ 2 + (j : Int))) (zk_ua α 2 M) t hs10 (fun q j hq => zc_2_rg ha hpf.2.2 q j hq) hn0 (show 0 ≤ σ 2 + (j : Int) ∧ σ 2 + (j : Int) ≤ (zr_N 2 : Int) by omega) hn4 (k := (k0 : Int)) (show 0 ≤ (k0 : Int) ∧ (k0 : Int) < σ 10 by omega) (j := (j : Int)) (fun (h : α 5 k0 = 0) => (show 0 ≤ α 6 k0 + (j : Int) ∧ α 6 k0 + (j : Int) < σ 0 by omega)) (fun (h : α 5 k0 = 1) => (show 0 ≤ α 6 k0 + (j : Int) ∧ α 6 k0 + (j : Int) < σ 2 + (j : Int) by omega)) (fun (h : α 5 k0 ≠ 0) (h' : α 5 k0 ≠ 1) => zc_lay hI (k := k0) (by omega) (by omega) (j := (j : Int)) (by omega))) (fun v9 h9 q9 => ?_)
        obtain ⟨rfl, rfl⟩ := q9
        refine zk_W.to (ls' := [some (.inr (some 1)), some (.inl (k0 : Int)), some (.inl (j : Int))]) (st' := [.inl (if α 5 k0 = 0 then α 0 (α 6 k0 + (j : Int)).toNat else if α 5 k0 = 1 then M (α 6 k0 + (j : Int)).toNat else α 4 (α 8 k0 + (j : Int)).toNat), .inr (some 6)]) (h' := (zk_mk G sw (zk_up σ 2 (σ 2 + (j : Int))) (zk_ua α 2 M) t)) rfl rfl rfl ?_
        have eby : (if α 5 k0 = 0 then α 0 (α 6 k0 + (j : Int)).toNat else if α 5 k0 = 1 then M (α 6 k0 + (j : Int)).toNat else α 4 (α 8 k0 + (j : Int)).toNat) = mt_by (α 0) (α 5) (α 6) M (zc_lb α) k0 j := by
          unfold mt_by zc_lb
          have hz := fun h2 => zc_lay hI (k := k0) (by omega) h2 (j := 0) (by omega)
          by_cases e0 : α 5 k0 = 0
          · rw [if_pos e0, if_pos e0, show (α 6 k0 + (j : Int)).toNat = (α 6 k0).toNat + j by omega]
          · rw [if_neg e0, if_neg e0]
            by_cases e1 : α 5 k0 = 1
            · rw [if_pos e1, if_pos e1, show (α 6 k0 + (j : Int)).toNat = (α 6 k0).toNat + j by omega]
            · have := hz (by omega)
              rw [if_neg e1, if_neg e1, show (α 8 k0 + (j : Int)).toNat = (α 8 k0).toNat + j by omega]
        rw [eby]
        have hbb : 0 ≤ mt_by (α 0) (α 5) (α 6) M (zc_lb α) k0 j ∧ mt_by (α 0) (α 5) (α 6) M (zc_lb α) k0 j ≤ 255 := by
          unfold mt_by zc_lb
          (repeat' split)
          · exact hv0 _
          · exact hpf.2.2 _
          · exact hv4 _
        refine zk_callV (av := [.inl (mt_by (α 0) (α 5) (α 6) M (zc_lb α) k0 j)]) (st := []) (d' := (1, 20)) (kc' := 0) (ks' := 0) zbC_81 dC_perform_24 rfl (by decide) rfl rfl (Nat.le_of_ble_eq_true rfl) ⟨by decide, by decide⟩ rfl rfl (kR_append G sw (zk_up σ 2 (σ 2 + (j : Int))) (zk_ua α 2 M) t (q := 2) (by decide) (show 0 ≤ σ 2 + (j : Int) ∧ σ 2 + (j : Int) ≤ (zr_N 2 : Int) by omega)) (fun v9 h9 q9 => ?_)
        rcases q9 with ⟨rfl, ⟨hap24, rfl⟩ | ⟨hap24, rfl⟩⟩
        · skip
          refine zk_W.to (ls' := [some (.inr (some 1)), some (.inl (k0 : Int)), some (.inl (j : Int))]) (st' := []) (h' := (zk_mk G sw (zk_up (zk_up σ 2 (σ 2 + (j : Int))) 2 (σ 2 + (j : Int) + 1)) (zk_ua (zk_ua α 2 M) 2 (zk_up M (σ 2 + (j : Int)).toNat (mt_by (α 0) (α 5) (α 6) M (zc_lb α) k0 j))) t)) rfl rfl rfl ?_
          refine zk_iinc (ls' := [some (.inr (some 1)), some (.inl (k0 : Int)), some (.inl ((j : Int) + 1))]) dC_perform_27 rfl (by decide) rfl ?_
          refine zk_goto (tgt := 2) dC_perform_30 (by decide) ?_
          have e2 : (j : Int) + 1 = ((j + 1 : Nat) : Int) := by omega
          have e3 : σ 2 + (j : Int) + 1 = σ 2 + ((j + 1 : Nat) : Int) := by omega
          rw [zk_up_up, zk_ua_ua, e3, e2, show (σ 2 + (j : Int)).toNat = (σ 2).toNat + j by omega]
          exact ih (j + 1) _ (by omega) (by omega) (zc_pf_step hpf rfl hbb (fun h1 => by omega))
        · skip
          have hap2 : (80 : Int) ≤ σ 2 + (j : Int) := hap24
          exfalso; omega
    · skip
      exact absurd (show 0 ≤ (k0 : Int) ∧ (k0 : Int) < σ 10 by omega) hka8

set_option maxRecDepth 100000 in
set_option maxHeartbeats 4000000 in
theorem kC_perform (G : zk_G) (sw : Bool) (σ : Nat → Int) (α : Nat → Nat → Int) (t : zk_H) (hI : zc_I σ α) {k0 : Nat} (hk0 : (k0 : Int) < σ 10) (hnf : ¬ (80 < σ 2 + α 7 k0 ∨ (α 5 k0 = 0 ∧ σ 0 < α 6 k0 + α 7 k0) ∨ (α 5 k0 = 1 ∧ σ 2 ≤ α 6 k0))) : zk_K G mC_perform (4, 86) 0 0 [.inr (some 1), .inl (k0 : Int)] (zk_mk G sw σ α t) (fun v h' => v = none ∧ ∃ M, zc_pf σ α k0 M (α 7 k0).toNat ∧ h' = zk_mk G sw (zk_up σ 2 (σ 2 + α 7 k0)) (zk_ua α 2 M) t) := by
  have hn0 := hI.1 0 (by decide)
  have hn1 := hI.1 1 (by decide)
  have hn2 := hI.1 2 (by decide)
  have hn3 := hI.1 3 (by decide)
  have hn4 := hI.1 4 (by decide)
  have eN0 : (zr_N 0 : Int) = 40 := rfl
  have eN1 : (zr_N 1 : Int) = 40 := rfl
  have eN2 : (zr_N 2 : Int) = 80 := rfl
  have eN3 : (zr_N 3 : Int) = 4102 := rfl
  have eN4 : (zr_N 4 : Int) = 4000 := rfl
  have hv0 := hI.2.1 0 (by decide)
  have hv1 := hI.2.1 1 (by decide)
  have hv2 := hI.2.1 2 (by decide)
  have hv3 := hI.2.1 3 (by decide)
  have hv4 := hI.2.1 4 (by decide)
  have hc := hI.2.2.1
  have hs10 := hI.2.2.2.1
  have hs11 := hI.2.2.2.2.1
  have ha := hI.2.2.2.2.2.1
  have hAk := hI.2.2.2.2.2.2.1 k0 (by omega)
  obtain ⟨ak1, ak2, ak3, ak4, ak5⟩ := hAk
  refine zk_K.of (ls := [some (.inr (some 1)), some (.inl (k0 : Int)), none]) (by decide +kernel) (Nat.le_of_ble_eq_true rfl) rfl ?_
  refine zk_iconst dC_perform_0 ?_
  refine zk_istore_n (ls' := [some (.inr (some 1)), some (.inl (k0 : Int)), some (.inl 0)]) dC_perform_1 (by decide) rfl ?_
  have key := wC_perform G sw σ α t hI hk0 hnf (α 7 k0 + 1).toNat 0 (α 2) (by omega) (by omega) ⟨fun x _ => rfl, fun j' hj' => absurd hj' (Nat.not_lt_zero j'), hv2⟩
  rw [zk_ua_self, show zk_up σ 2 (σ 2 + ((0 : Nat) : Int)) = σ by rw [show σ 2 + ((0 : Nat) : Int) = σ 2 by omega]; exact zk_up_self σ 2] at key
  exact key

theorem zc_I_2 {σ : Nat → Int} {α : Nat → Nat → Int} {M : Nat → Int} {n : Int} (hI : zc_I σ α) (hn : 0 ≤ n ∧ n ≤ 80) (hM : ∀ x, 0 ≤ M x ∧ M x ≤ 255) : zc_I (zk_up σ 2 n) (zk_ua α 2 M) := by
  obtain ⟨a1, a2, a3, a4, a5, a6, a7, a8, a9, a10⟩ := hI
  refine ⟨fun q hq => ?_, fun q hq => ?_, a3, a4, a5, zc_2_rg a6 hM, a7, a8, a9, a10⟩
  · match q, hq with
    | 0, _ => exact a1 0 (by decide)
    | 1, _ => exact a1 1 (by decide)
    | 2, _ => exact ⟨hn.1, hn.2⟩
    | 3, _ => exact a1 3 (by decide)
    | 4, _ => exact a1 4 (by decide)
  · match q, hq with
    | 0, _ => exact a2 0 (by decide)
    | 1, _ => exact a2 1 (by decide)
    | 2, _ => exact hM
    | 3, _ => exact a2 3 (by decide)
    | 4, _ => exact a2 4 (by decide)
/-- the acts below m are done -/
def zc_md (σ : Nat → Int) (α : Nat → Nat → Int) (M : Nat → Int) (m : Nat) : Prop := (∀ k, k < m → ¬ mt_fl (σ 0) (α 5) (α 6) (α 7) k) ∧ mt_mk (α 0) (α 5) (α 6) (α 7) M (zc_lb α) m ∧ (∀ x, 0 ≤ M x ∧ M x ≤ 255) ∧ mt_isum (α 7) m ≤ 80
theorem zc_md_step {σ : Nat → Int} {α : Nat → Nat → Int} {M M' : Nat → Int} {m : Nat} (hI : zc_I σ α) (hm : (m : Int) < σ 10) (h : zc_md σ α M m) (hf : ¬ mt_fl (σ 0) (α 5) (α 6) (α 7) m) (hp : zc_pf (zk_up σ 2 (mt_isum (α 7) m)) (zk_ua α 2 M) m M' (α 7 m).toNat) : zc_md σ α M' (m + 1) := by
  obtain ⟨h1, h2, h3, h4⟩ := h
  obtain ⟨p1, p2, p3⟩ := hp
  have p1 : ∀ x, x < (mt_isum (α 7) m).toNat → M' x = M x := p1
  have p2 : ∀ j', j' < (α 7 m).toNat → M' ((mt_isum (α 7) m).toNat + j') = mt_by (α 0) (α 5) (α 6) M' (zc_lb α) m j' := p2
  have hA := hI.2.2.2.2.2.2.1
  have hC : ∀ k, k < (σ 10).toNat → 1 ≤ α 7 k := fun k hk => (hA k hk).2.1.1
  have hfm : ¬ (80 < mt_isum (α 7) m + α 7 m) := fun e => hf (Or.inl e)
  refine ⟨fun k hk => ?_, fun k hk j hj => ?_, p3, by show mt_isum (α 7) m + α 7 m ≤ 80; omega⟩
  · by_cases e : k = m
    · subst e; exact hf
    · exact h1 k (by omega)
  · by_cases e : k = m
    · subst e
      exact p2 j (by omega)
    · have hi1 := mt_isum_le (C := α 7) (n := k + 1) (m := m) (by omega) (fun k' hk' => hC k' (by omega))
      have hi0 := mt_isum_rg (C := α 7) (n := k) (fun k' hk' => hC k' (by omega))
      have hi1 : mt_isum (α 7) k + α 7 k ≤ mt_isum (α 7) m := hi1
      rw [p1 _ (by omega), h2 k (by omega) j hj]
      unfold mt_by
      by_cases e0 : α 5 k = 0
      · rw [if_pos e0, if_pos e0]
      · rw [if_neg e0, if_neg e0]
        by_cases e1 : α 5 k = 1
        · have hfk := h1 k (by omega)
          have hP := (hA k (by omega)).2.2.1 (by omega)
          have hq : ¬ (mt_isum (α 7) k ≤ α 6 k) := fun z => hfk (Or.inr (Or.inr ⟨e1, z⟩))
          rw [if_pos e1, if_pos e1, p1 _ (by omega)]
        · rw [if_neg e1, if_neg e1]

set_option maxRecDepth 100000 in
set_option maxHeartbeats 4000000 in
theorem wC_make (G : zk_G) (sw : Bool) (σ : Nat → Int) (α : Nat → Nat → Int) (t : zk_H) (hI : zc_I σ α) : ∀ (k : Nat) (m : Nat) (M : Nat → Int), ((m : Int) ≤ σ 10) → (σ 10 < (m : Int) + k) → (zc_md σ α M m) → zk_W G mC_make (5, 108) 0 0 29 [some (.inr (some 1)), some (.inl (m : Int))] [] (zk_mk G sw (zk_up σ 2 (mt_isum (α 7) m)) (zk_ua α 2 M) t) (fun v h' => ∃ (M : Nat → Int) (m : Nat), (m : Int) ≤ σ 10 ∧ zc_md σ α M m ∧ h' = zk_mk G sw (zk_up σ 2 (mt_isum (α 7) m)) (zk_ua α 2 M) t ∧ (((m : Int) = σ 10 ∧ v = some (.inl (mt_isum (α 7) m))) ∨ ((m : Int) < σ 10 ∧ mt_fl (σ 0) (α 5) (α 6) (α 7) m ∧ v = some (.inl (-1000 - (m : Int)))))) := by
  intro k
  induction k with
  | zero =>
    intro m M g1 g2 hmd
    exfalso
    omega
  | succ k ih =>
    intro m M g1 g2 hmd
    have hn0 := hI.1 0 (by decide)
    have hn1 := hI.1 1 (by decide)
    have hn2 := hI.1 2 (by decide)
    have hn3 := hI.1 3 (by decide)
    have hn4 := hI.1 4 (by decide)
    have eN0 : (zr_N 0 : Int) = 40 := rfl
    have eN1 : (zr_N 1 : Int) = 40 := rfl
    have eN2 : (zr_N 2 : Int) = 80 := rfl
    have eN3 : (zr_N 3 : Int) = 4102 := rfl
    have eN4 : (zr_N 4 : Int) = 4000 := rfl
    have hv0 := hI.2.1 0 (by decide)
    have hv1 := hI.2.1 1 (by decide)
    have hv2 := hI.2.1 2 (by decide)
    have hv3 := hI.2.1 3 (by decide)
    have hv4 := hI.2.1 4 (by decide)
    have hc := hI.2.2.1
    have hs10 := hI.2.2.2.1
    have hs11 := hI.2.2.2.2.1
    have ha := hI.2.2.2.2.2.1
    have hIm : zc_I (zk_up σ 2 (mt_isum (α 7) m)) (zk_ua α 2 M) := zc_I_2 hI ⟨by have := mt_isum_rg (C := α 7) (n := m) (fun k' hk' => (hI.2.2.2.2.2.2.1 k' (by omega)).2.1.1); omega, hmd.2.2.2⟩ hmd.2.2.1
    have his := mt_isum_rg (C := α 7) (n := m) (fun k' hk' => (hI.2.2.2.2.2.2.1 k' (by omega)).2.1.1)
    have h80 := hmd.2.2.2
    refine zk_iload_n dC_make_29 rfl ?_
    refine zk_aload_n dC_make_30 rfl ?_
    refine zk_get zfC_37 dC_make_31 (v := .inr (some 11)) rfl (by decide) rfl ?_
    refine zk_callV (av := []) (st := [.inl (m : Int)]) (d' := (0, 0)) (kc' := 0) (ks' := 0) zbC_113 dC_make_34 rfl (by decide) rfl rfl (Nat.le_of_ble_eq_true rfl) ⟨by decide, by decide⟩ rfl rfl (kA_length G sw (zk_up σ 2 (mt_isum (α 7) m)) (zk_ua α 2 M) t) (fun v9 h9 q9 => ?_)
    obtain ⟨rfl, rfl⟩ := q9
    refine zk_W.to (ls' := [some (.inr (some 1)), some (.inl (m : Int))]) (st' := [.inl (σ 10), .inl (m : Int)]) (h' := (zk_mk G sw (zk_up σ 2 (mt_isum (α 7) m)) (zk_ua α 2 M) t)) rfl rfl rfl ?_
    refine zk_icmp_ge (tgt := 65) dC_make_37 (by decide) ⟨by omega, by omega⟩ ⟨by omega, by omega⟩ (fun h37 => ?_) (fun h37 => ?_)
    · skip
      refine zk_aload_n dC_make_65 rfl ?_
      refine zk_get zfC_21 dC_make_66 (v := .inr (some 6)) rfl (by decide) rfl ?_
      refine zk_callV (av := []) (st := []) (d' := (0, 0)) (kc' := 0) (ks' := 0) zbC_50 dC_make_69 rfl (by decide) rfl rfl (Nat.le_of_ble_eq_true rfl) ⟨by decide, by decide⟩ rfl rfl (kR_length G sw (zk_up σ 2 (mt_isum (α 7) m)) (zk_ua α 2 M) t (q := 2) (by decide)) (fun v9 h9 q9 => ?_)
      obtain ⟨rfl, rfl⟩ := q9
      refine zk_W.to (ls' := [some (.inr (some 1)), some (.inl (m : Int))]) (st' := [.inl (mt_isum (α 7) m)]) (h' := (zk_mk G sw (zk_up σ 2 (mt_isum (α 7) m)) (zk_ua α 2 M) t)) rfl rfl rfl ?_
      exact zk_iret dC_make_72 rfl ⟨M, m, by omega, hmd, rfl, Or.inl ⟨by omega, rfl⟩⟩
    · skip
      obtain ⟨ak1, ak2, ak3, ak4, ak5⟩ := hI.2.2.2.2.2.2.1 m (by omega)
      refine zk_aload_n dC_make_40 rfl ?_
      refine zk_iload_n dC_make_41 rfl ?_
      refine zk_callV (av := [.inl (m : Int)]) (st := []) (d' := (2, 42)) (kc' := 0) (ks' := 0) zbC_162 dC_make_42 rfl (by decide) rfl rfl (Nat.le_of_ble_eq_true rfl) ⟨by decide, by decide⟩ rfl rfl (kC_fails G sw (zk_up σ 2 (mt_isum (α 7) m)) (zk_ua α 2 M) t hs10 hIm.2.2.2.2.2.1 hn0 (show 0 ≤ mt_isum (α 7) m ∧ mt_isum (α 7) m ≤ 80 by omega) (k := (m : Int)) (show 0 ≤ (m : Int) ∧ (m : Int) < σ 10 by omega) (show 0 ≤ α 7 m ∧ α 7 m ≤ 40 by omega) (show -1 ≤ α 6 m ∧ α 6 m ≤ 79 by omega)) (fun v9 h9 q9 => ?_)
      rcases q9 with ⟨rfl, ⟨hfl, rfl⟩ | ⟨hfl, rfl⟩⟩
      · skip
        refine zk_W.to (ls' := [some (.inr (some 1)), some (.inl (m : Int))]) (st' := [.inl 1]) (h' := (zk_mk G sw (zk_up σ 2 (mt_isum (α 7) m)) (zk_ua α 2 M) t)) rfl rfl rfl ?_
        refine zk_if_eq (tgt := 54) dC_make_45 (by decide) ⟨by decide, by decide⟩ (fun h45 => ?_) (fun h45 => ?_)
        · skip
          exact absurd h45 (by decide)
        · skip
          refine zk_sipush dC_make_48 (by decide) ?_
          refine zk_iload_n dC_make_51 rfl ?_
          refine zk_isub dC_make_52 ?_
          exact zk_iret dC_make_53 rfl ⟨M, m, by omega, hmd, rfl, Or.inr ⟨by omega, hfl, rfl⟩⟩
      · skip
        refine zk_W.to (ls' := [some (.inr (some 1)), some (.inl (m : Int))]) (st' := [.inl 0]) (h' := (zk_mk G sw (zk_up σ 2 (mt_isum (α 7) m)) (zk_ua α 2 M) t)) rfl rfl rfl ?_
        refine zk_if_eq (tgt := 54) dC_make_45 (by decide) ⟨by decide, by decide⟩ (fun h45 => ?_) (fun h45 => ?_)
        · skip
          refine zk_aload_n dC_make_54 rfl ?_
          refine zk_iload_n dC_make_55 rfl ?_
          refine zk_callV (av := [.inl (m : Int)]) (st := []) (d' := (4, 86)) (kc' := 0) (ks' := 0) zbC_165 dC_make_56 rfl (by decide) rfl rfl (Nat.le_of_ble_eq_true rfl) ⟨by decide, by decide⟩ rfl rfl (kC_perform G sw (zk_up σ 2 (mt_isum (α 7) m)) (zk_ua α 2 M) t hIm (k0 := m) (show (m : Int) < σ 10 by omega) hfl) (fun v9 h9 q9 => ?_)
          obtain ⟨rfl, M', hpf, rfl⟩ := q9
          refine zk_W.to (ls' := [some (.inr (some 1)), some (.inl (m : Int))]) (st' := []) (h' := (zk_mk G sw (zk_up (zk_up σ 2 (mt_isum (α 7) m)) 2 (mt_isum (α 7) m + α 7 m)) (zk_ua (zk_ua α 2 M) 2 M') t)) rfl rfl rfl ?_
          refine zk_iinc (ls' := [some (.inr (some 1)), some (.inl ((m : Int) + 1))]) dC_make_59 rfl (by decide) rfl ?_
          refine zk_goto (tgt := 29) dC_make_62 (by decide) ?_
          have e2 : (m : Int) + 1 = ((m + 1 : Nat) : Int) := by omega
          rw [zk_up_up, zk_ua_ua, e2]
          exact ih (m + 1) M' (by omega) (by omega) (zc_md_step hI (by omega) hmd hfl hpf)
        · skip
          exact absurd h45 (by decide)

set_option maxRecDepth 100000 in
set_option maxHeartbeats 4000000 in
theorem kC_make (G : zk_G) (sw : Bool) (σ : Nat → Int) (α : Nat → Nat → Int) (t : zk_H) (hI : zc_I σ α)  : zk_K G mC_make (5, 108) 0 0 [.inr (some 1)] (zk_mk G sw σ α t) (fun v h' => (mt_sum (α 0) (σ 0).toNat ≠ σ 11 ∧ h' = (zk_mk G sw σ α t) ∧ v = some (.inl (-4))) ∨ (mt_sum (α 0) (σ 0).toNat = σ 11 ∧ ∃ (M : Nat → Int) (m : Nat), (m : Int) ≤ σ 10 ∧ zc_md σ α M m ∧ h' = zk_mk G sw (zk_up σ 2 (mt_isum (α 7) m)) (zk_ua α 2 M) t ∧ (((m : Int) = σ 10 ∧ v = some (.inl (mt_isum (α 7) m))) ∨ ((m : Int) < σ 10 ∧ mt_fl (σ 0) (α 5) (α 6) (α 7) m ∧ v = some (.inl (-1000 - (m : Int))))))) := by
  have hn0 := hI.1 0 (by decide)
  have hn1 := hI.1 1 (by decide)
  have hn2 := hI.1 2 (by decide)
  have hn3 := hI.1 3 (by decide)
  have hn4 := hI.1 4 (by decide)
  have eN0 : (zr_N 0 : Int) = 40 := rfl
  have eN1 : (zr_N 1 : Int) = 40 := rfl
  have eN2 : (zr_N 2 : Int) = 80 := rfl
  have eN3 : (zr_N 3 : Int) = 4102 := rfl
  have eN4 : (zr_N 4 : Int) = 4000 := rfl
  have hv0 := hI.2.1 0 (by decide)
  have hv1 := hI.2.1 1 (by decide)
  have hv2 := hI.2.1 2 (by decide)
  have hv3 := hI.2.1 3 (by decide)
  have hv4 := hI.2.1 4 (by decide)
  have hc := hI.2.2.1
  have hs10 := hI.2.2.2.1
  have hs11 := hI.2.2.2.2.1
  have ha := hI.2.2.2.2.2.1
  have hsr := mt_sum_rg (α 0) (σ 0).toNat
  refine zk_K.of (ls := [some (.inr (some 1)), none]) (by decide +kernel) (Nat.le_of_ble_eq_true rfl) rfl ?_
  refine zk_aload_n dC_make_0 rfl ?_
  refine zk_get zfC_14 dC_make_1 (v := .inr (some 2)) rfl (by decide) rfl ?_
  refine zk_callV (av := []) (st := []) (d' := (0, 0)) (kc' := 0) (ks' := 0) zbC_102 dC_make_4 rfl (by decide) rfl rfl (Nat.le_of_ble_eq_true rfl) ⟨by decide, by decide⟩ rfl rfl (kR_sum G sw σ α t (q := 0) (by decide) hn0 hv0) (fun v9 h9 q9 => ?_)
  obtain ⟨rfl, rfl⟩ := q9
  refine zk_W.to (ls' := [some (.inr (some 1)), none]) (st' := [.inl (mt_sum (α 0) (σ 0).toNat)]) (h' := (zk_mk G sw σ α t)) rfl rfl rfl ?_
  refine zk_aload_n dC_make_7 rfl ?_
  refine zk_get zfC_37 dC_make_8 (v := .inr (some 11)) rfl (by decide) rfl ?_
  refine zk_callV (av := []) (st := [.inl (mt_sum (α 0) (σ 0).toNat)]) (d' := (0, 0)) (kc' := 0) (ks' := 0) zbC_161 dC_make_11 rfl (by decide) rfl rfl (Nat.le_of_ble_eq_true rfl) ⟨by decide, by decide⟩ rfl rfl (kA_sum G sw σ α t) (fun v9 h9 q9 => ?_)
  obtain ⟨rfl, rfl⟩ := q9
  refine zk_W.to (ls' := [some (.inr (some 1)), none]) (st' := [.inl (σ 11), .inl (mt_sum (α 0) (σ 0).toNat)]) (h' := (zk_mk G sw σ α t)) rfl rfl rfl ?_
  refine zk_icmp_eq (tgt := 20) dC_make_14 (by decide) ⟨by omega, by omega⟩ ⟨by omega, by omega⟩ (fun h14 => ?_) (fun h14 => ?_)
  · skip
    refine zk_aload_n dC_make_20 rfl ?_
    refine zk_get zfC_21 dC_make_21 (v := .inr (some 6)) rfl (by decide) rfl ?_
    refine zk_callV (av := []) (st := []) (d' := (0, 0)) (kc' := 0) (ks' := 0) zbC_54 dC_make_24 rfl (by decide) rfl rfl (Nat.le_of_ble_eq_true rfl) ⟨by decide, by decide⟩ rfl rfl (kR_dropAll G sw σ α t (q := 2) (by decide)) (fun v9 h9 q9 => ?_)
    obtain ⟨rfl, rfl⟩ := q9
    refine zk_W.to (ls' := [some (.inr (some 1)), none]) (st' := []) (h' := (zk_mk G sw (zk_up σ 2 0) α t)) rfl rfl rfl ?_
    refine zk_iconst dC_make_27 ?_
    refine zk_istore_n (ls' := [some (.inr (some 1)), some (.inl 0)]) dC_make_28 (by decide) rfl ?_
    have key := wC_make G sw σ α t hI (σ 10 + 1).toNat 0 (α 2) (by omega) (by omega) ⟨fun k hk => absurd hk (Nat.not_lt_zero k), fun k hk => absurd hk (Nat.not_lt_zero k), hv2, by show (0 : Int) ≤ 80; omega⟩
    rw [zk_ua_self] at key
    refine key.mono (fun v h' hq => Or.inr ⟨h14, hq⟩)
  · skip
    refine zk_bipush dC_make_17 (by decide) ?_
    exact zk_iret dC_make_19 rfl (Or.inl ⟨h14, rfl, rfl⟩)
