theorem zs_k_0 (σ : Nat → Int) : zk_up σ 17 0 = zs_k σ (σ 15) (σ 16) 0 := by
  unfold zs_k
  rw [zk_up_self]
  have h : zk_up σ 16 (σ 16) = σ := zk_up_self σ 16
  rw [h]
/-- the first best act -/
def zs_B (σ : Nat → Int) (α : Nat → Nat → Int) (i s k p n : Nat) : Prop := mt_best (α 0) (σ 0).toNat (α 1) (σ 1).toNat (zs_c σ) (mt_tb (α 9)) i s k p n
theorem zs_B_copy {σ : Nat → Int} {α : Nat → Nat → Int} {i s : Nat} {a b c : Int} (h : mt_iv (zs_A σ α i s 0) 0 (σ 0).toNat a b c) (hc : c ≠ 0) : ∃ p n : Nat, zs_B σ α i s 0 p n ∧ a = 0 ∧ b = p ∧ c = n := by
  rcases h with ⟨h1, -⟩ | ⟨p0, n0, g1, g2, g3, g4, g5, g6, g7⟩
  · exact absurd h1 hc
  · refine ⟨p0, n0, ⟨g6.1, g6.2, fun k' p' n' h1 h2 => ?_⟩, g3, g4, g5⟩
    by_cases hk : k' = 0
    · subst hk
      have hp : p' < (σ 0).toNat := by
        obtain ⟨x1, x2, ⟨x3, x4, -⟩ | ⟨x3, -⟩ | ⟨x3, -⟩⟩ := h1 <;> omega
      exact Or.inr ⟨rfl, g7 p' n' hp ⟨h1, h2⟩⟩
    · exact Or.inl (by omega)
theorem zs_noc {σ : Nat → Int} {α : Nat → Nat → Int} {i s : Nat} {a b c : Int} (h : mt_iv (zs_A σ α i s 0) 0 (σ 0).toNat a b c) (hc : c = 0) : ∀ p n, ¬ zs_A σ α i s 0 p n := by
  rcases h with ⟨-, h2⟩ | ⟨p0, n0, g1, g2, g3, g4, g5, g6, g7⟩
  · intro p n hA
    have hp : p < (σ 0).toNat := by
      obtain ⟨⟨x1, x2, ⟨x3, x4, -⟩ | ⟨x3, -⟩ | ⟨x3, -⟩⟩, -⟩ := hA <;> omega
    exact h2 p n hp hA
  · omega
theorem zs_B_self {σ : Nat → Int} {α : Nat → Nat → Int} {i s : Nat} {a b c : Int} (h0 : ∀ p n, ¬ zs_A σ α i s 0 p n) (h : mt_iv (zs_A σ α i s 1) 1 i a b c) (hc : c ≠ 0) : ∃ p n : Nat, zs_B σ α i s 1 p n ∧ a = 1 ∧ b = p ∧ c = n := by
  rcases h with ⟨h1, -⟩ | ⟨p0, n0, g1, g2, g3, g4, g5, g6, g7⟩
  · exact absurd h1 hc
  · refine ⟨p0, n0, ⟨g6.1, g6.2, fun k' p' n' h1 h2 => ?_⟩, g3, g4, g5⟩
    by_cases hk : k' = 0
    · subst hk
      exact absurd ⟨h1, h2⟩ (h0 p' n')
    by_cases hk1 : k' = 1
    · subst hk1
      have hp : p' < i := by
        obtain ⟨x1, x2, ⟨x3, -⟩ | ⟨x3, x4, -⟩ | ⟨x3, -⟩⟩ := h1 <;> omega
      exact Or.inr ⟨rfl, g7 p' n' hp ⟨h1, h2⟩⟩
    · exact Or.inl (by omega)
theorem zs_nos {σ : Nat → Int} {α : Nat → Nat → Int} {i s : Nat} {a b c : Int} (h : mt_iv (zs_A σ α i s 1) 1 i a b c) (hc : c = 0) : ∀ p n, ¬ zs_A σ α i s 1 p n := by
  rcases h with ⟨-, h2⟩ | ⟨p0, n0, g1, g2, g3, g4, g5, g6, g7⟩
  · intro p n hA
    have hp : p < i := by
      obtain ⟨⟨x1, x2, ⟨x3, -⟩ | ⟨x3, x4, -⟩ | ⟨x3, -⟩⟩, -⟩ := hA <;> omega
    exact h2 p n hp hA
  · omega
theorem zs_B_lay {σ : Nat → Int} {α : Nat → Nat → Int} {i s : Nat} {a b c : Int} (hT : zs_T σ α) (hi : i < (σ 1).toNat) (hs : s ≤ (σ 0).toNat) (h0 : ∀ p n, ¬ zs_A σ α i s 0 p n) (h1 : ∀ p n, ¬ zs_A σ α i s 1 p n) (h : mt_jl (zs_A σ α i s 2 0) 0 a b c) : ∃ n : Nat, zs_B σ α i s 2 0 n ∧ a = 2 ∧ b = -1 ∧ c = n := by
  have kinds : ∀ k p n, zs_A σ α i s k p n → k = 2 ∧ p = 0 := by
    intro k p n hA
    have hA' := hA
    obtain ⟨⟨x1, x2, ⟨x3, -⟩ | ⟨x3, -⟩ | ⟨x3, x4⟩⟩, -⟩ := hA
    · subst x3; exact absurd hA' (h0 p n)
    · subst x3; exact absurd hA' (h1 p n)
    · exact ⟨x3, x4⟩
  rcases h with ⟨-, h2⟩ | ⟨n0, g1, -, g3, g4, g5, g6, g7⟩
  · obtain ⟨k, p, n, x1, x2⟩ := (hT.1.2 i s hi hs).2
    obtain ⟨rfl, rfl⟩ := kinds k p n ⟨x1, x2⟩
    exact absurd ⟨x1, x2⟩ (h2 n (by have := x1.1; omega))
  · refine ⟨n0, ⟨g6.1, g6.2, fun k' p' n' x1 x2 => ?_⟩, g3, g4, g5⟩
    obtain ⟨rfl, rfl⟩ := kinds k' p' n' ⟨x1, x2⟩
    have := g7 n' ⟨x1, x2⟩
    refine Or.inr ⟨rfl, ?_⟩
    by_cases hh : n' < n0
    · exact Or.inl hh
    · exact Or.inr ⟨by omega, Nat.le_refl _⟩

set_option maxRecDepth 100000 in
set_option maxHeartbeats 4000000 in
theorem kS_choose (G : zk_G) (sw : Bool) (σ : Nat → Int) (α : Nat → Nat → Int) (t : zk_H) (hn0 : 0 ≤ σ 0 ∧ σ 0 ≤ (zr_N 0 : Int)) (hn1 : 0 ≤ σ 1 ∧ σ 1 ≤ (zr_N 1 : Int)) (hv0 : ∀ j, 0 ≤ α 0 j ∧ α 0 j ≤ 255) (hv1 : ∀ j, 0 ≤ α 1 j ∧ α 1 j ≤ 255) (hc : ∀ j, j < 5 → 0 ≤ zs_c σ j ∧ zs_c σ j ≤ 100) (hT : zs_T σ α) {i s : Nat} (hi : i < (σ 1).toNat) (hs : s ≤ (σ 0).toNat) : zk_K G mS_choose (3, 72) 0 0 [.inr (some 18), .inl (i : Int), .inl (s : Int)] (zk_mk G sw σ α t) (fun v h' => v = none ∧ ∃ k p n : Nat, zs_B σ α i s k p n ∧ h' = zk_mk G sw (zs_k σ (k : Int) (if k = 2 then -1 else (p : Int)) (n : Int)) α t) := by
  have eN0 : (zr_N 0 : Int) = 40 := rfl
  have eN1 : (zr_N 1 : Int) = 40 := rfl
  have c0 : 0 ≤ σ 5 ∧ σ 5 ≤ 100 := hc 0 (by decide)
  have c1 : 0 ≤ σ 6 ∧ σ 6 ≤ 100 := hc 1 (by decide)
  have c2 : 0 ≤ σ 7 ∧ σ 7 ≤ 100 := hc 2 (by decide)
  have c3 : 0 ≤ σ 8 ∧ σ 8 ≤ 100 := hc 3 (by decide)
  have c4 : 0 ≤ σ 9 ∧ σ 9 ≤ 100 := hc 4 (by decide)
  have hdue := hT.2 i s (by omega) hs
  refine zk_K.of (ls := [some (.inr (some 18)), some (.inl (i : Int)), some (.inl (s : Int)), none]) (by decide +kernel) (Nat.le_of_ble_eq_true rfl) rfl ?_
  refine zk_aload_n dS_choose_0 rfl ?_
  refine zk_iload_n dS_choose_1 rfl ?_
  refine zk_iload_n dS_choose_2 rfl ?_
  refine zk_callV (av := [.inl (i : Int), .inl (s : Int)]) (st := []) (d' := (0, 0)) (kc' := 0) (ks' := 0) zbS_66 dS_choose_3 rfl (by decide) rfl rfl (Nat.le_of_ble_eq_true rfl) ⟨by decide, by decide⟩ rfl rfl (kS_leastFrom G sw σ α t ⟨by omega, by omega⟩ ⟨by omega, by omega⟩) (fun v9 h9 q9 => ?_)
  obtain ⟨rfl, rfl⟩ := q9
  refine zk_W.to (ls' := [some (.inr (some 18)), some (.inl (i : Int)), some (.inl (s : Int)), none]) (st' := [.inl (α 9 ((i : Int) * 41 + (s : Int)).toNat)]) (h' := (zk_mk G sw σ α t)) rfl rfl rfl ?_
  have edue : α 9 ((i : Int) * 41 + (s : Int)).toNat = mt_tb (α 9) i s := by
    rw [show ((i : Int) * 41 + (s : Int)).toNat = 41 * i + s by omega]
    rfl
  rw [edue]
  refine zk_istore_n (ls' := [some (.inr (some 18)), some (.inl (i : Int)), some (.inl (s : Int)), some (.inl (mt_tb (α 9) i s))]) dS_choose_6 (by decide) rfl ?_
  refine zk_aload_n dS_choose_7 rfl ?_
  refine zk_iconst dS_choose_8 ?_
  refine zk_put zfS_111 dS_choose_9 (h' := (zk_mk G sw (zk_up σ 17 0) α t)) rfl (by decide) (Nat.le_of_ble_eq_true rfl) rfl rfl rfl ?_
  rw [zs_k_0]
  refine zk_aload_n dS_choose_12 rfl ?_
  refine zk_iload_n dS_choose_13 rfl ?_
  refine zk_iload_n dS_choose_14 rfl ?_
  refine zk_iload_n dS_choose_15 rfl ?_
  refine zk_callV (av := [.inl (i : Int), .inl (s : Int), .inl (mt_tb (α 9) i s)]) (st := []) (d' := (2, 46)) (kc' := 0) (ks' := 0) zbS_125 dS_choose_16 rfl (by decide) rfl rfl (Nat.le_of_ble_eq_true rfl) ⟨by decide, by decide⟩ rfl rfl (kS_chooseCopy G sw σ α t hn0 hn1 hv0 hv1 hc hT hi hs (a := σ 15) (b := σ 16)) (fun v9 h9 q9 => ?_)
  obtain ⟨rfl, a, b, c, hm, hcr, rfl⟩ := q9
  refine zk_W.to (ls' := [some (.inr (some 18)), some (.inl (i : Int)), some (.inl (s : Int)), some (.inl (mt_tb (α 9) i s))]) (st' := []) (h' := (zk_mk G sw (zs_k σ a b c) α t)) rfl rfl rfl ?_
  refine zk_aload_n dS_choose_19 rfl ?_
  refine zk_get zfS_111 dS_choose_20 (v := .inl c) rfl (by decide) rfl ?_
  refine zk_if_ne (tgt := 33) dS_choose_23 (by decide) ⟨by omega, by omega⟩ (fun h23 => ?_) (fun h23 => ?_)
  · skip
    refine zk_aload_n dS_choose_33 rfl ?_
    refine zk_get zfS_111 dS_choose_34 (v := .inl c) rfl (by decide) rfl ?_
    refine zk_if_ne (tgt := 47) dS_choose_37 (by decide) ⟨by omega, by omega⟩ (fun h37 => ?_) (fun h37 => ?_)
    · skip
      obtain ⟨p, n, hB, rfl, rfl, rfl⟩ := zs_B_copy hm (by omega)
      exact zk_ret dS_choose_47 rfl ⟨rfl, 0, p, n, hB, rfl⟩
    · skip
      exfalso; omega
  · skip
    have hnoc := zs_noc hm h23
    subst h23
    refine zk_aload_n dS_choose_26 rfl ?_
    refine zk_iload_n dS_choose_27 rfl ?_
    refine zk_iload_n dS_choose_28 rfl ?_
    refine zk_iload_n dS_choose_29 rfl ?_
    refine zk_callV (av := [.inl (i : Int), .inl (s : Int), .inl (mt_tb (α 9) i s)]) (st := []) (d' := (2, 46)) (kc' := 0) (ks' := 0) zbS_129 dS_choose_30 rfl (by decide) rfl rfl (Nat.le_of_ble_eq_true rfl) ⟨by decide, by decide⟩ rfl rfl (kS_chooseSelf G sw σ α t hn0 hn1 hv0 hv1 hc hT hi hs (a := a) (b := b)) (fun v9 h9 q9 => ?_)
    obtain ⟨rfl, a', b', c', hm', hcr', rfl⟩ := q9
    refine zk_W.to (ls' := [some (.inr (some 18)), some (.inl (i : Int)), some (.inl (s : Int)), some (.inl (mt_tb (α 9) i s))]) (st' := []) (h' := (zk_mk G sw (zs_k σ a' b' c') α t)) rfl rfl rfl ?_
    refine zk_aload_n dS_choose_33 rfl ?_
    refine zk_get zfS_111 dS_choose_34 (v := .inl c') rfl (by decide) rfl ?_
    refine zk_if_ne (tgt := 47) dS_choose_37 (by decide) ⟨by omega, by omega⟩ (fun h37 => ?_) (fun h37 => ?_)
    · skip
      obtain ⟨p, n, hB, rfl, rfl, rfl⟩ := zs_B_self hnoc hm' (by omega)
      exact zk_ret dS_choose_47 rfl ⟨rfl, 1, p, n, hB, rfl⟩
    · skip
      have hnos := zs_nos hm' h37
      subst h37
      refine zk_aload_n dS_choose_40 rfl ?_
      refine zk_iload_n dS_choose_41 rfl ?_
      refine zk_iload_n dS_choose_42 rfl ?_
      refine zk_iload_n dS_choose_43 rfl ?_
      refine zk_callV (av := [.inl (i : Int), .inl (s : Int), .inl (mt_tb (α 9) i s)]) (st := []) (d' := (1, 23)) (kc' := 0) (ks' := 0) zbS_132 dS_choose_44 rfl (by decide) rfl rfl (Nat.le_of_ble_eq_true rfl) ⟨by decide, by decide⟩ rfl rfl (kS_chooseLay G sw σ α t hn0 hn1 hv0 hv1 hc hT hi hs (a := a') (b := b')) (fun v9 h9 q9 => ?_)
      obtain ⟨rfl, a2, b2, c2, hm2, hcr2, rfl⟩ := q9
      refine zk_W.to (ls' := [some (.inr (some 18)), some (.inl (i : Int)), some (.inl (s : Int)), some (.inl (mt_tb (α 9) i s))]) (st' := []) (h' := (zk_mk G sw (zs_k σ a2 b2 c2) α t)) rfl rfl rfl ?_
      obtain ⟨n, hB, rfl, rfl, rfl⟩ := zs_B_lay hT hi hs hnoc hnos hm2
      exact zk_ret dS_choose_47 rfl ⟨rfl, 2, 0, n, hB, rfl⟩

/-- the numbers behind findNext -/
def zs_f (σ : Nat → Int) (i s k p n : Nat) : Nat → Int := zk_up (zk_up (zs_k (zk_up σ 18 s) (k : Int) (if k = 2 then -1 else (p : Int)) (n : Int)) 13 ((i : Int) + n)) 14 (mt_s s k p n : Nat)
theorem zs_f_keep (σ : Nat → Int) (i s k p n : Nat) (hk : k ≠ 0) (h14 : σ 14 = (s : Int)) : zk_up (zs_k (zk_up σ 18 s) (k : Int) (if k = 2 then -1 else (p : Int)) (n : Int)) 13 ((i : Int) + n) = zs_f σ i s k p n := by
  unfold zs_f
  have e : mt_s s k p n = s := by
    unfold mt_s
    rw [if_neg hk]
  rw [e]
  funext j
  show _ = if j = 14 then (s : Int) else _
  by_cases h : j = 14
  · rw [if_pos h, h]
    exact h14
  · rw [if_neg h]

set_option maxRecDepth 100000 in
set_option maxHeartbeats 4000000 in
theorem kS_findNext (G : zk_G) (sw : Bool) (σ : Nat → Int) (α : Nat → Nat → Int) (t : zk_H) (hn0 : 0 ≤ σ 0 ∧ σ 0 ≤ (zr_N 0 : Int)) (hn1 : 0 ≤ σ 1 ∧ σ 1 ≤ (zr_N 1 : Int)) (hv0 : ∀ j, 0 ≤ α 0 j ∧ α 0 j ≤ 255) (hv1 : ∀ j, 0 ≤ α 1 j ∧ α 1 j ≤ 255) (hc : ∀ j, j < 5 → 0 ≤ zs_c σ j ∧ zs_c σ j ≤ 100) (hT : zs_T σ α) {i s : Nat} (h13 : σ 13 = (i : Int)) (h14 : σ 14 = (s : Int)) (hil : i ≤ (σ 1).toNat) (hs : s ≤ (σ 0).toNat) : zk_K G mS_findNext (4, 95) 0 0 [.inr (some 18)] (zk_mk G sw σ α t) (fun v h' => (i = (σ 1).toNat ∧ v = some (.inl 0) ∧ h' = (zk_mk G sw σ α t)) ∨ (i < (σ 1).toNat ∧ v = some (.inl 1) ∧ ∃ k p n : Nat, zs_B σ α i s k p n ∧ h' = zk_mk G sw (zs_f σ i s k p n) α t)) := by
  have eN0 : (zr_N 0 : Int) = 40 := rfl
  have eN1 : (zr_N 1 : Int) = 40 := rfl
  refine zk_K.of (ls := [some (.inr (some 18))]) (by decide +kernel) (Nat.le_of_ble_eq_true rfl) rfl ?_
  refine zk_aload_n dS_findNext_0 rfl ?_
  refine zk_get zfS_98 dS_findNext_1 (v := .inl (σ 13)) rfl (by decide) rfl ?_
  refine zk_aload_n dS_findNext_4 rfl ?_
  refine zk_get zfS_25 dS_findNext_5 (v := .inr (some 4)) rfl (by decide) rfl ?_
  refine zk_callV (av := []) (st := [.inl (σ 13)]) (d' := (0, 0)) (kc' := 0) (ks' := 0) zbS_37 dS_findNext_8 rfl (by decide) rfl rfl (Nat.le_of_ble_eq_true rfl) ⟨by decide, by decide⟩ rfl rfl (kR_length G sw σ α t (q := 1) (by decide)) (fun v9 h9 q9 => ?_)
  obtain ⟨rfl, rfl⟩ := q9
  refine zk_W.to (ls' := [some (.inr (some 18))]) (st' := [.inl (σ 1), .inl (σ 13)]) (h' := (zk_mk G sw σ α t)) rfl rfl rfl ?_
  refine zk_icmp_lt (tgt := 16) dS_findNext_11 (by decide) ⟨by omega, by omega⟩ ⟨by omega, by omega⟩ (fun h11 => ?_) (fun h11 => ?_)
  · skip
    have hi : i < (σ 1).toNat := by omega
    refine zk_aload_n dS_findNext_16 rfl ?_
    refine zk_aload_n dS_findNext_17 rfl ?_
    refine zk_get zfS_101 dS_findNext_18 (v := .inl (σ 14)) rfl (by decide) rfl ?_
    refine zk_put zfS_104 dS_findNext_21 (h' := (zk_mk G sw (zk_up σ 18 (σ 14)) α t)) rfl (by decide) (Nat.le_of_ble_eq_true rfl) rfl rfl rfl ?_
    refine zk_aload_n dS_findNext_24 rfl ?_
    refine zk_aload_n dS_findNext_25 rfl ?_
    refine zk_get zfS_98 dS_findNext_26 (v := .inl (σ 13)) rfl (by decide) rfl ?_
    refine zk_aload_n dS_findNext_29 rfl ?_
    refine zk_get zfS_101 dS_findNext_30 (v := .inl (σ 14)) rfl (by decide) rfl ?_
    rw [h13, h14]
    refine zk_callV (av := [.inl (i : Int), .inl (s : Int)]) (st := []) (d' := (3, 72)) (kc' := 0) (ks' := 0) zbS_107 dS_findNext_33 rfl (by decide) rfl rfl (Nat.le_of_ble_eq_true rfl) ⟨by decide, by decide⟩ rfl rfl (kS_choose G sw (zk_up σ 18 s) α t hn0 hn1 hv0 hv1 hc hT (i := i) (s := s) hi hs) (fun v9 h9 q9 => ?_)
    obtain ⟨rfl, k, p, n, hB, rfl⟩ := q9
    replace hB : zs_B σ α i s k p n := hB
    have hB1 := hB.1.1
    have hB2 := hB.1.2.1
    have hB3 : k ≤ 2 := by
      obtain ⟨-, -, ⟨x3, -⟩ | ⟨x3, -⟩ | ⟨x3, -⟩⟩ := hB.1 <;> omega
    refine zk_W.to (ls' := [some (.inr (some 18))]) (st' := []) (h' := (zk_mk G sw (zs_k (zk_up σ 18 s) (k : Int) (if k = 2 then -1 else (p : Int)) (n : Int)) α t)) rfl rfl rfl ?_
    refine zk_aload_n dS_findNext_36 rfl ?_
    refine zk_dup dS_findNext_37 ?_
    refine zk_get zfS_98 dS_findNext_38 (v := .inl (σ 13)) rfl (by decide) rfl ?_
    refine zk_aload_n dS_findNext_41 rfl ?_
    refine zk_get zfS_111 dS_findNext_42 (v := .inl (n : Int)) rfl (by decide) rfl ?_
    refine zk_iadd dS_findNext_45 ?_
    refine zk_put zfS_98 dS_findNext_46 (h' := (zk_mk G sw (zk_up (zs_k (zk_up σ 18 s) (k : Int) (if k = 2 then -1 else (p : Int)) (n : Int)) 13 ((σ 13) + (n : Int))) α t)) rfl (by decide) (Nat.le_of_ble_eq_true rfl) rfl rfl rfl ?_
    rw [h13]
    refine zk_aload_n dS_findNext_49 rfl ?_
    refine zk_get zfS_114 dS_findNext_50 (v := .inl (k : Int)) rfl (by decide) rfl ?_
    refine zk_if_ne (tgt := 69) dS_findNext_53 (by decide) ⟨by omega, by omega⟩ (fun h53 => ?_) (fun h53 => ?_)
    · skip
      refine zk_aload_n dS_findNext_69 rfl ?_
      refine zk_get zfS_111 dS_findNext_70 (v := .inl (n : Int)) rfl (by decide) rfl ?_
      refine zk_if_le (tgt := 80) dS_findNext_73 (by decide) ⟨by omega, by omega⟩ (fun h73 => ?_) (fun h73 => ?_)
      · skip
        refine zk_iconst dS_findNext_80 ?_
        first | (exact zk_zret dS_findNext_81 rfl (by decide) (Or.inl ⟨by omega, rfl, rfl⟩)) | (exfalso; omega)
      · skip
        refine zk_iconst dS_findNext_76 ?_
        refine zk_goto (tgt := 81) dS_findNext_77 (by decide) ?_
        refine zk_zret dS_findNext_81 rfl (by decide) (Or.inr ⟨hi, rfl, k, p, n, hB, ?_⟩)
        rw [← zs_f_keep σ i s k p n (by omega) h14]
    · skip
      refine zk_aload_n dS_findNext_56 rfl ?_
      refine zk_aload_n dS_findNext_57 rfl ?_
      refine zk_get zfS_117 dS_findNext_58 (v := .inl (if k = 2 then -1 else (p : Int))) rfl (by decide) rfl ?_
      refine zk_aload_n dS_findNext_61 rfl ?_
      refine zk_get zfS_111 dS_findNext_62 (v := .inl (n : Int)) rfl (by decide) rfl ?_
      refine zk_iadd dS_findNext_65 ?_
      refine zk_put zfS_101 dS_findNext_66 (h' := (zk_mk G sw (zk_up (zk_up (zs_k (zk_up σ 18 s) (k : Int) (if k = 2 then -1 else (p : Int)) (n : Int)) 13 (((i : Int)) + (n : Int))) 14 ((if k = 2 then -1 else (p : Int)) + (n : Int))) α t)) rfl (by decide) (Nat.le_of_ble_eq_true rfl) rfl rfl rfl ?_
      refine zk_aload_n dS_findNext_69 rfl ?_
      refine zk_get zfS_111 dS_findNext_70 (v := .inl (n : Int)) rfl (by decide) rfl ?_
      refine zk_if_le (tgt := 80) dS_findNext_73 (by decide) ⟨by omega, by omega⟩ (fun h73 => ?_) (fun h73 => ?_)
      · skip
        refine zk_iconst dS_findNext_80 ?_
        first | (exact zk_zret dS_findNext_81 rfl (by decide) (Or.inl ⟨by omega, rfl, rfl⟩)) | (exfalso; omega)
      · skip
        refine zk_iconst dS_findNext_76 ?_
        refine zk_goto (tgt := 81) dS_findNext_77 (by decide) ?_
        refine zk_zret dS_findNext_81 rfl (by decide) (Or.inr ⟨hi, rfl, k, p, n, hB, ?_⟩)
        have hk0 : k = 0 := by omega
        subst hk0
        rfl
  · skip
    refine zk_iconst dS_findNext_14 ?_
    first | (exact zk_zret dS_findNext_15 rfl (by decide) (Or.inl ⟨by omega, rfl, rfl⟩)) | (exfalso; omega)
