set_option maxRecDepth 100000 in
set_option maxHeartbeats 4000000 in
theorem kR_length (G : zk_G) (sw : Bool) (σ : Nat → Int) (α : Nat → Nat → Int) (t : zk_H) {q : Nat} (hq : q < 5) : zk_K G mR_length (0, 0) 0 0 [.inr (some (zr_p q))] (zk_mk G sw σ α t) (fun v h' => h' = (zk_mk G sw σ α t) ∧ v = some (.inl (σ q))) := by
  refine zk_K.of (ls := [some (.inr (some (zr_p q)))]) (by decide +kernel) (Nat.le_of_ble_eq_true rfl) rfl ?_
  refine zk_aload_n dR_length_0 rfl ?_
  refine zk_get zfR_21 dR_length_1 (mk_row hq) zr_p0 rfl ?_
  exact zk_iret dR_length_4 rfl ⟨rfl, rfl⟩

set_option maxRecDepth 100000 in
set_option maxHeartbeats 4000000 in
theorem kR_isFull (G : zk_G) (sw : Bool) (σ : Nat → Int) (α : Nat → Nat → Int) (t : zk_H) {q : Nat} (hq : q < 5) (hnq : 0 ≤ σ q ∧ σ q ≤ (zr_N q : Int)) : zk_K G mR_isFull (0, 0) 0 0 [.inr (some (zr_p q))] (zk_mk G sw σ α t) (fun v h' => h' = (zk_mk G sw σ α t) ∧ ((((zr_N q : Int) ≤ σ q) ∧ v = some (.inl 1)) ∨ ((σ q < (zr_N q : Int)) ∧ v = some (.inl 0)))) := by
  have hNq : zr_N q ≤ 4102 := zr_Nle
  refine zk_K.of (ls := [some (.inr (some (zr_p q)))]) (by decide +kernel) (Nat.le_of_ble_eq_true rfl) rfl ?_
  refine zk_aload_n dR_isFull_0 rfl ?_
  refine zk_get zfR_21 dR_isFull_1 (mk_row hq) zr_p0 rfl ?_
  refine zk_aload_n dR_isFull_4 rfl ?_
  refine zk_get zfR_15 dR_isFull_5 (mk_row hq) zr_p0 rfl ?_
  refine zk_alen dR_isFull_8 (mk_arr hq) ?_
  refine zk_icmp_lt (tgt := 16) dR_isFull_9 (by decide) ⟨by omega, by omega⟩ ⟨by omega, by omega⟩ (fun h9 => ?_) (fun h9 => ?_)
  · skip
    refine zk_iconst dR_isFull_16 ?_
    exact zk_zret dR_isFull_17 rfl (by decide) ⟨rfl, Or.inr ⟨h9, rfl⟩⟩
  · skip
    refine zk_iconst dR_isFull_12 ?_
    refine zk_goto (tgt := 17) dR_isFull_13 (by decide) ?_
    exact zk_zret dR_isFull_17 rfl (by decide) ⟨rfl, Or.inl ⟨h9, rfl⟩⟩

set_option maxRecDepth 100000 in
set_option maxHeartbeats 4000000 in
theorem kR_has (G : zk_G) (sw : Bool) (σ : Nat → Int) (α : Nat → Nat → Int) (t : zk_H) {q : Nat} (hq : q < 5) (hnq : 0 ≤ σ q ∧ σ q ≤ (zr_N q : Int)) {i : Int} (hi : zk_rg i) : zk_K G mR_has (0, 0) 0 0 [.inr (some (zr_p q)), .inl i] (zk_mk G sw σ α t) (fun v h' => h' = (zk_mk G sw σ α t) ∧ (((0 ≤ i ∧ i < σ q) ∧ v = some (.inl 1)) ∨ ((¬ (0 ≤ i ∧ i < σ q)) ∧ v = some (.inl 0)))) := by
  have hNq : zr_N q ≤ 4102 := zr_Nle
  refine zk_K.of (ls := [some (.inr (some (zr_p q))), some (.inl i)]) (by decide +kernel) (Nat.le_of_ble_eq_true rfl) rfl ?_
  refine zk_iload_n dR_has_0 rfl ?_
  refine zk_if_lt (tgt := 16) dR_has_1 (by decide) hi (fun h1 => ?_) (fun h1 => ?_)
  · skip
    refine zk_iconst dR_has_16 ?_
    exact zk_zret dR_has_17 rfl (by decide) ⟨rfl, Or.inr ⟨by omega, rfl⟩⟩
  · skip
    refine zk_iload_n dR_has_4 rfl ?_
    refine zk_aload_n dR_has_5 rfl ?_
    refine zk_get zfR_21 dR_has_6 (mk_row hq) zr_p0 rfl ?_
    refine zk_icmp_ge (tgt := 16) dR_has_9 (by decide) hi ⟨by omega, by omega⟩ (fun h9 => ?_) (fun h9 => ?_)
    · skip
      refine zk_iconst dR_has_16 ?_
      exact zk_zret dR_has_17 rfl (by decide) ⟨rfl, Or.inr ⟨by omega, rfl⟩⟩
    · skip
      refine zk_iconst dR_has_12 ?_
      refine zk_goto (tgt := 17) dR_has_13 (by decide) ?_
      exact zk_zret dR_has_17 rfl (by decide) ⟨rfl, Or.inl ⟨⟨h1, h9⟩, rfl⟩⟩

set_option maxRecDepth 100000 in
set_option maxHeartbeats 4000000 in
theorem kR_get (G : zk_G) (sw : Bool) (σ : Nat → Int) (α : Nat → Nat → Int) (t : zk_H) {q : Nat} (hq : q < 5) (hnq : 0 ≤ σ q ∧ σ q ≤ (zr_N q : Int)) {i : Int} (hi : zk_rg i) : zk_K G mR_get (1, 21) 0 0 [.inr (some (zr_p q)), .inl i] (zk_mk G sw σ α t) (fun v h' => h' = (zk_mk G sw σ α t) ∧ (((0 ≤ i ∧ i < σ q) ∧ v = some (.inl (α q i.toNat))) ∨ ((¬ (0 ≤ i ∧ i < σ q)) ∧ v = some (.inl (-1))))) := by
  have hNq : zr_N q ≤ 4102 := zr_Nle
  refine zk_K.of (ls := [some (.inr (some (zr_p q))), some (.inl i)]) (by decide +kernel) (Nat.le_of_ble_eq_true rfl) rfl ?_
  refine zk_aload_n dR_get_0 rfl ?_
  refine zk_iload_n dR_get_1 rfl ?_
  refine zk_callV (av := [.inl i]) (st := []) (d' := (0, 0)) (kc' := 0) (ks' := 0) zbR_25 dR_get_2 (mk_row hq) zr_p0 rfl rfl (Nat.le_of_ble_eq_true rfl) ⟨by decide, by decide⟩ rfl rfl (kR_has G sw σ α t hq hnq hi) (fun v9 h9 q9 => ?_)
  rcases q9 with ⟨rfl, ⟨hc2, rfl⟩ | ⟨hc2, rfl⟩⟩
  · skip
    refine zk_W.to (ls' := [some (.inr (some (zr_p q))), some (.inl i)]) (st' := [.inl 1]) (h' := (zk_mk G sw σ α t)) rfl rfl rfl ?_
    refine zk_if_eq (tgt := 17) dR_get_5 (by decide) ⟨by decide, by decide⟩ (fun h5 => ?_) (fun h5 => ?_)
    · skip
      exact absurd h5 (by decide)
    · skip
      refine zk_aload_n dR_get_8 rfl ?_
      refine zk_get zfR_15 dR_get_9 (mk_row hq) zr_p0 rfl ?_
      refine zk_iload_n dR_get_12 rfl ?_
      refine zk_iald dR_get_13 (mk_arr hq) (by omega) (by omega) (by omega) ?_
      refine zk_goto (tgt := 18) dR_get_14 (by decide) ?_
      exact zk_iret dR_get_18 rfl ⟨rfl, Or.inl ⟨hc2, rfl⟩⟩
  · skip
    refine zk_W.to (ls' := [some (.inr (some (zr_p q))), some (.inl i)]) (st' := [.inl 0]) (h' := (zk_mk G sw σ α t)) rfl rfl rfl ?_
    refine zk_if_eq (tgt := 17) dR_get_5 (by decide) ⟨by decide, by decide⟩ (fun h5 => ?_) (fun h5 => ?_)
    · skip
      refine zk_iconst dR_get_17 ?_
      exact zk_iret dR_get_18 rfl ⟨rfl, Or.inr ⟨hc2, rfl⟩⟩
    · skip
      exact absurd h5 (by decide)

set_option maxRecDepth 100000 in
set_option maxHeartbeats 4000000 in
theorem kR_set (G : zk_G) (sw : Bool) (σ : Nat → Int) (α : Nat → Nat → Int) (t : zk_H) {q : Nat} (hq : q < 5) (hnq : 0 ≤ σ q ∧ σ q ≤ (zr_N q : Int)) {i x : Int} (hi : zk_rg i) : zk_K G mR_set (1, 21) 0 0 [.inr (some (zr_p q)), .inl i, .inl x] (zk_mk G sw σ α t) (fun v h' => v = none ∧ (((0 ≤ i ∧ i < σ q) ∧ h' = zk_mk G sw σ (zk_ua α q (zk_up (α q) i.toNat x)) t) ∨ ((¬ (0 ≤ i ∧ i < σ q)) ∧ h' = zk_mk G sw σ α t))) := by
  have hNq : zr_N q ≤ 4102 := zr_Nle
  refine zk_K.of (ls := [some (.inr (some (zr_p q))), some (.inl i), some (.inl x)]) (by decide +kernel) (Nat.le_of_ble_eq_true rfl) rfl ?_
  refine zk_aload_n dR_set_0 rfl ?_
  refine zk_iload_n dR_set_1 rfl ?_
  refine zk_callV (av := [.inl i]) (st := []) (d' := (0, 0)) (kc' := 0) (ks' := 0) zbR_25 dR_set_2 (mk_row hq) zr_p0 rfl rfl (Nat.le_of_ble_eq_true rfl) ⟨by decide, by decide⟩ rfl rfl (kR_has G sw σ α t hq hnq hi) (fun v9 h9 q9 => ?_)
  rcases q9 with ⟨rfl, ⟨hc2, rfl⟩ | ⟨hc2, rfl⟩⟩
  · skip
    refine zk_W.to (ls' := [some (.inr (some (zr_p q))), some (.inl i), some (.inl x)]) (st' := [.inl 1]) (h' := (zk_mk G sw σ α t)) rfl rfl rfl ?_
    refine zk_if_eq (tgt := 15) dR_set_5 (by decide) ⟨by decide, by decide⟩ (fun h5 => ?_) (fun h5 => ?_)
    · skip
      exact absurd h5 (by decide)
    · skip
      refine zk_aload_n dR_set_8 rfl ?_
      refine zk_get zfR_15 dR_set_9 (mk_row hq) zr_p0 rfl ?_
      refine zk_iload_n dR_set_12 rfl ?_
      refine zk_iload_n dR_set_13 rfl ?_
      refine zk_iast dR_set_14 (mk_arr hq) zr_a0 (by omega) (by omega) (by omega) (mk_sarr hq) ?_
      exact zk_ret dR_set_15 rfl ⟨rfl, Or.inl ⟨hc2, rfl⟩⟩
  · skip
    refine zk_W.to (ls' := [some (.inr (some (zr_p q))), some (.inl i), some (.inl x)]) (st' := [.inl 0]) (h' := (zk_mk G sw σ α t)) rfl rfl rfl ?_
    refine zk_if_eq (tgt := 15) dR_set_5 (by decide) ⟨by decide, by decide⟩ (fun h5 => ?_) (fun h5 => ?_)
    · skip
      exact zk_ret dR_set_15 rfl ⟨rfl, Or.inr ⟨hc2, rfl⟩⟩
    · skip
      exact absurd h5 (by decide)

set_option maxRecDepth 100000 in
set_option maxHeartbeats 4000000 in
theorem kR_append (G : zk_G) (sw : Bool) (σ : Nat → Int) (α : Nat → Nat → Int) (t : zk_H) {q : Nat} (hq : q < 5) (hnq : 0 ≤ σ q ∧ σ q ≤ (zr_N q : Int)) {x : Int} : zk_K G mR_append (1, 20) 0 0 [.inr (some (zr_p q)), .inl x] (zk_mk G sw σ α t) (fun v h' => v = none ∧ ((σ q < (zr_N q : Int) ∧ h' = zk_mk G sw (zk_up σ q (σ q + 1)) (zk_ua α q (zk_up (α q) (σ q).toNat x)) t) ∨ (((zr_N q : Int) ≤ σ q) ∧ h' = zk_mk G sw σ α t))) := by
  have hNq : zr_N q ≤ 4102 := zr_Nle
  refine zk_K.of (ls := [some (.inr (some (zr_p q))), some (.inl x)]) (by decide +kernel) (Nat.le_of_ble_eq_true rfl) rfl ?_
  refine zk_aload_n dR_append_0 rfl ?_
  refine zk_callV (av := []) (st := []) (d' := (0, 0)) (kc' := 0) (ks' := 0) zbR_29 dR_append_1 (mk_row hq) zr_p0 rfl rfl (Nat.le_of_ble_eq_true rfl) ⟨by decide, by decide⟩ rfl rfl (kR_isFull G sw σ α t hq hnq) (fun v9 h9 q9 => ?_)
  rcases q9 with ⟨rfl, ⟨hc1, rfl⟩ | ⟨hc1, rfl⟩⟩
  · skip
    refine zk_W.to (ls' := [some (.inr (some (zr_p q))), some (.inl x)]) (st' := [.inl 1]) (h' := (zk_mk G sw σ α t)) rfl rfl rfl ?_
    refine zk_if_ne (tgt := 27) dR_append_4 (by decide) ⟨by decide, by decide⟩ (fun h4 => ?_) (fun h4 => ?_)
    · skip
      exact zk_ret dR_append_27 rfl ⟨rfl, Or.inr ⟨hc1, rfl⟩⟩
    · skip
      exact absurd h4 (by decide)
  · skip
    refine zk_W.to (ls' := [some (.inr (some (zr_p q))), some (.inl x)]) (st' := [.inl 0]) (h' := (zk_mk G sw σ α t)) rfl rfl rfl ?_
    refine zk_if_ne (tgt := 27) dR_append_4 (by decide) ⟨by decide, by decide⟩ (fun h4 => ?_) (fun h4 => ?_)
    · skip
      exact absurd h4 (by decide)
    · skip
      refine zk_aload_n dR_append_7 rfl ?_
      refine zk_get zfR_15 dR_append_8 (mk_row hq) zr_p0 rfl ?_
      refine zk_aload_n dR_append_11 rfl ?_
      refine zk_get zfR_21 dR_append_12 (mk_row hq) zr_p0 rfl ?_
      refine zk_iload_n dR_append_15 rfl ?_
      refine zk_iast dR_append_16 (mk_arr hq) zr_a0 (by omega) (by omega) (by omega) (mk_sarr hq) ?_
      refine zk_aload_n dR_append_17 rfl ?_
      refine zk_dup dR_append_18 ?_
      refine zk_get zfR_21 dR_append_19 (mk_row hq) zr_p0 rfl ?_
      refine zk_iconst dR_append_22 ?_
      refine zk_iadd dR_append_23 ?_
      refine zk_put zfR_21 dR_append_24 (mk_row hq) zr_p0 (Nat.le_of_ble_eq_true rfl) rfl rfl (mk_srow hq) ?_
      exact zk_ret dR_append_27 rfl ⟨rfl, Or.inl ⟨hc1, rfl⟩⟩

set_option maxRecDepth 100000 in
set_option maxHeartbeats 4000000 in
theorem kR_dropLast (G : zk_G) (sw : Bool) (σ : Nat → Int) (α : Nat → Nat → Int) (t : zk_H) {q : Nat} (hq : q < 5) (hnq : 0 ≤ σ q ∧ σ q ≤ (zr_N q : Int)) {n : Int} (hn : zk_rg n) : zk_K G mR_dropLast (1, 18) 0 0 [.inr (some (zr_p q)), .inl n] (zk_mk G sw σ α t) (fun v h' => v = none ∧ h' = zk_mk G sw (zk_up σ q (σ q - max 0 (min n (σ q)))) α t) := by
  have hNq : zr_N q ≤ 4102 := zr_Nle
  have hn1 := hn.1
  have hn2 := hn.2
  refine zk_K.of (ls := [some (.inr (some (zr_p q))), some (.inl n)]) (by decide +kernel) (Nat.le_of_ble_eq_true rfl) rfl ?_
  refine zk_aload_n dR_dropLast_0 rfl ?_
  refine zk_dup dR_dropLast_1 ?_
  refine zk_get zfR_21 dR_dropLast_2 (mk_row hq) zr_p0 rfl ?_
  refine zk_iconst dR_dropLast_5 ?_
  refine zk_iload_n dR_dropLast_6 rfl ?_
  refine zk_aload_n dR_dropLast_7 rfl ?_
  refine zk_get zfR_21 dR_dropLast_8 (mk_row hq) zr_p0 rfl ?_
  refine zk_mmin dR_dropLast_11 zlR_33 zw_mins zw_mi zw_minc ⟨by decide, Nat.le_of_ble_eq_true rfl⟩ hn ⟨by omega, by omega⟩ ?_
  refine zk_mmax dR_dropLast_14 zlR_9 zw_maxs zw_mi zw_maxc ⟨by decide, Nat.le_of_ble_eq_true rfl⟩ ⟨by decide, by decide⟩ ⟨by omega, by omega⟩ ?_
  refine zk_isub dR_dropLast_17 ?_
  refine zk_put zfR_21 dR_dropLast_18 (mk_row hq) zr_p0 (Nat.le_of_ble_eq_true rfl) rfl rfl (mk_srow hq) ?_
  exact zk_ret dR_dropLast_21 rfl ⟨rfl, rfl⟩

set_option maxRecDepth 100000 in
set_option maxHeartbeats 4000000 in
theorem kR_dropAll (G : zk_G) (sw : Bool) (σ : Nat → Int) (α : Nat → Nat → Int) (t : zk_H) {q : Nat} (hq : q < 5) : zk_K G mR_dropAll (0, 0) 0 0 [.inr (some (zr_p q))] (zk_mk G sw σ α t) (fun v h' => v = none ∧ h' = zk_mk G sw (zk_up σ q 0) α t) := by
  refine zk_K.of (ls := [some (.inr (some (zr_p q)))]) (by decide +kernel) (Nat.le_of_ble_eq_true rfl) rfl ?_
  refine zk_aload_n dR_dropAll_0 rfl ?_
  refine zk_iconst dR_dropAll_1 ?_
  refine zk_put zfR_21 dR_dropAll_2 (mk_row hq) zr_p0 (Nat.le_of_ble_eq_true rfl) rfl rfl (mk_srow hq) ?_
  exact zk_ret dR_dropAll_5 rfl ⟨rfl, rfl⟩

set_option maxRecDepth 100000 in
set_option maxHeartbeats 4000000 in
theorem wR_sum (G : zk_G) (sw : Bool) (σ : Nat → Int) (α : Nat → Nat → Int) (t : zk_H) {q : Nat} (hq : q < 5) (hnq : 0 ≤ σ q ∧ σ q ≤ (zr_N q : Int)) (hv : ∀ j, 0 ≤ α q j ∧ α q j ≤ 255) : ∀ (n i : Nat), (i : Int) ≤ σ q → σ q < (i : Int) + n → zk_W G mR_sum (0, 0) 0 0 4 [some (.inr (some (zr_p q))), some (.inl (mt_sum (α q) i)), some (.inl (i : Int))] [] (zk_mk G sw σ α t) (fun v h' => h' = (zk_mk G sw σ α t) ∧ v = some (.inl (mt_sum (α q) (σ q).toNat))) := by
  intro n
  induction n with
  | zero =>
    intro i h1 h2
    omega
  | succ n ih =>
    intro i h1 h2
    have hNq : zr_N q ≤ 4102 := zr_Nle
    have hs := mt_sum_rg (α q) i
    have hvi := hv ((i : Int)).toNat
    have hin : ((i : Int)).toNat = i := rfl
    refine zk_iload_n dR_sum_4 rfl ?_
    refine zk_aload_n dR_sum_5 rfl ?_
    refine zk_get zfR_21 dR_sum_6 (mk_row hq) zr_p0 rfl ?_
    refine zk_icmp_ge (tgt := 33) dR_sum_9 (by decide) ⟨by omega, by omega⟩ ⟨by omega, by omega⟩ (fun h9 => ?_) (fun h9 => ?_)
    · skip
      refine zk_iload_n dR_sum_33 rfl ?_
      have he : i = (σ q).toNat := by omega
      subst he
      exact zk_iret dR_sum_34 rfl ⟨rfl, rfl⟩
    · skip
      refine zk_iload_n dR_sum_12 rfl ?_
      refine zk_bipush dR_sum_13 (by decide) ?_
      refine zk_imul dR_sum_15 ?_
      refine zk_aload_n dR_sum_16 rfl ?_
      refine zk_get zfR_15 dR_sum_17 (mk_row hq) zr_p0 rfl ?_
      refine zk_iload_n dR_sum_20 rfl ?_
      refine zk_iald dR_sum_21 (mk_arr hq) (by omega) (by omega) (by omega) ?_
      refine zk_iadd dR_sum_22 ?_
      refine zk_ldc (z := 65521) dR_sum_23 zcR_36 ?_
      refine zk_irem dR_sum_25 (by omega) ⟨by omega, by omega⟩ (by omega) ⟨by decide, by decide⟩ ?_
      refine zk_istore_n (ls' := [some (.inr (some (zr_p q))), some (.inl ((((mt_sum (α q) i) * 31) + (α q (i : Int).toNat)) % 65521)), some (.inl (i : Int))]) dR_sum_26 (by decide) rfl ?_
      refine zk_iinc (ls' := [some (.inr (some (zr_p q))), some (.inl ((((mt_sum (α q) i) * 31) + (α q (i : Int).toNat)) % 65521)), some (.inl ((i : Int) + 1))]) dR_sum_27 rfl (by decide) rfl ?_
      refine zk_goto (tgt := 4) dR_sum_30 (by decide) ?_
      have e1 : (mt_sum (α q) i * 31 + α q ((i : Int)).toNat) % 65521 = mt_sum (α q) (i + 1) := rfl
      have e2 : (i : Int) + 1 = ((i + 1 : Nat) : Int) := by omega
      rw [e1, e2]
      exact ih (i + 1) (by omega) (by omega)

set_option maxRecDepth 100000 in
set_option maxHeartbeats 4000000 in
theorem kR_sum (G : zk_G) (sw : Bool) (σ : Nat → Int) (α : Nat → Nat → Int) (t : zk_H) {q : Nat} (hq : q < 5) (hnq : 0 ≤ σ q ∧ σ q ≤ (zr_N q : Int)) (hv : ∀ j, 0 ≤ α q j ∧ α q j ≤ 255) : zk_K G mR_sum (0, 0) 0 0 [.inr (some (zr_p q))] (zk_mk G sw σ α t) (fun v h' => h' = (zk_mk G sw σ α t) ∧ v = some (.inl (mt_sum (α q) (σ q).toNat))) := by
  refine zk_K.of (ls := [some (.inr (some (zr_p q))), none, none]) (by decide +kernel) (Nat.le_of_ble_eq_true rfl) rfl ?_
  refine zk_iconst dR_sum_0 ?_
  refine zk_istore_n (ls' := [some (.inr (some (zr_p q))), some (.inl 1), none]) dR_sum_1 (by decide) rfl ?_
  refine zk_iconst dR_sum_2 ?_
  refine zk_istore_n (ls' := [some (.inr (some (zr_p q))), some (.inl 1), some (.inl 0)]) dR_sum_3 (by decide) rfl ?_
  exact wR_sum G sw σ α t hq hnq hv (σ q + 1).toNat 0 (by omega) (by omega)

set_option maxRecDepth 100000 in
set_option maxHeartbeats 4000000 in
theorem wR_countSame (G : zk_G) (sw : Bool) (σ : Nat → Int) (α : Nat → Nat → Int) (t : zk_H) {q : Nat} (hq : q < 5) {r : Nat} (hr : r < 5) (hnq : 0 ≤ σ q ∧ σ q ≤ (zr_N q : Int)) (hnr : 0 ≤ σ r ∧ σ r ≤ (zr_N r : Int)) (hv : ∀ j, 0 ≤ α q j ∧ α q j ≤ 255) (hw : ∀ j, 0 ≤ α r j ∧ α r j ≤ 255) {i j : Int} (hi : 0 ≤ i ∧ i < σ q) (hj : 0 ≤ j ∧ j < σ r) : ∀ (k n : Nat), (n : Int) ≤ min (σ q - i) (σ r - j) → min (σ q - i) (σ r - j) < (n : Int) + k → (∀ s, s < n → α q (i.toNat + s) = α r (j.toNat + s)) → zk_W G mR_countSame (1, 21) 0 0 38 [some (.inr (some (zr_p q))), some (.inl i), some (.inr (some (zr_p r))), some (.inl j), some (.inl (min (σ q - i) (σ r - j))), some (.inl (n : Int))] [] (zk_mk G sw σ α t) (fun v h' => h' = (zk_mk G sw σ α t) ∧ v = some (.inl (if (0 ≤ i ∧ i < σ q) ∧ (0 ≤ j ∧ j < σ r) then (mt_len (α q) (α r) i.toNat j.toNat (min (σ q - i) (σ r - j)).toNat : Int) else 0))) := by
  intro k
  induction k with
  | zero =>
    intro n h1 h2
    omega
  | succ k ih =>
    intro n g1 g2 g3
    have hNq : zr_N q ≤ 4102 := zr_Nle
    have hNr : zr_N r ≤ 4102 := zr_Nle
    have hvi := hv (i + (n : Int)).toNat
    have hwi := hw (j + (n : Int)).toNat
    have ei : (i + (n : Int)).toNat = i.toNat + n := by omega
    have ej : (j + (n : Int)).toNat = j.toNat + n := by omega
    refine zk_iload dR_countSame_38 rfl ?_
    refine zk_iload dR_countSame_40 rfl ?_
    refine zk_icmp_ge (tgt := 75) dR_countSame_42 (by decide) ⟨by omega, by omega⟩ ⟨by omega, by omega⟩ (fun h42 => ?_) (fun h42 => ?_)
    · skip
      refine zk_iload dR_countSame_75 rfl ?_
      refine zk_iret dR_countSame_77 rfl ⟨rfl, ?_⟩
      rw [if_pos ⟨hi, hj⟩, mt_len_eq (n := n) (by omega) g3 (Or.inl (by omega))]
      congr 2
      omega
    · skip
      refine zk_aload_n dR_countSame_45 rfl ?_
      refine zk_get zfR_15 dR_countSame_46 (mk_row hq) zr_p0 rfl ?_
      refine zk_iload_n dR_countSame_49 rfl ?_
      refine zk_iload dR_countSame_50 rfl ?_
      refine zk_iadd dR_countSame_52 ?_
      refine zk_iald dR_countSame_53 (mk_arr hq) (by omega) (by omega) (by omega) ?_
      refine zk_aload_n dR_countSame_54 rfl ?_
      refine zk_get zfR_15 dR_countSame_55 (mk_row hr) zr_p0 rfl ?_
      refine zk_iload_n dR_countSame_58 rfl ?_
      refine zk_iload dR_countSame_59 rfl ?_
      refine zk_iadd dR_countSame_61 ?_
      refine zk_iald dR_countSame_62 (mk_arr hr) (by omega) (by omega) (by omega) ?_
      refine zk_icmp_eq (tgt := 69) dR_countSame_63 (by decide) ⟨by omega, by omega⟩ ⟨by omega, by omega⟩ (fun h63 => ?_) (fun h63 => ?_)
      · skip
        refine zk_iinc (ls' := [some (.inr (some (zr_p q))), some (.inl i), some (.inr (some (zr_p r))), some (.inl j), some (.inl (min (σ q - i) (σ r - j))), some (.inl ((n : Int) + 1))]) dR_countSame_69 rfl (by decide) rfl ?_
        refine zk_goto (tgt := 38) dR_countSame_72 (by decide) ?_
        have e2 : (n : Int) + 1 = ((n + 1 : Nat) : Int) := by omega
        rw [e2]
        refine ih (n + 1) (by omega) (by omega) (fun s hs => ?_)
        by_cases he : s < n
        · exact g3 s he
        · have hsn : s = n := by omega
          subst hsn
          rw [← ei, ← ej]
          exact h63
      · skip
        refine zk_iload dR_countSame_66 rfl ?_
        refine zk_iret dR_countSame_68 rfl ⟨rfl, ?_⟩
        rw [if_pos ⟨hi, hj⟩, mt_len_eq (n := n) (by omega) g3 (Or.inr (by rw [← ei, ← ej]; exact h63))]

set_option maxRecDepth 100000 in
set_option maxHeartbeats 4000000 in
theorem kR_countSame (G : zk_G) (sw : Bool) (σ : Nat → Int) (α : Nat → Nat → Int) (t : zk_H) {q : Nat} (hq : q < 5) {r : Nat} (hr : r < 5) (hnq : 0 ≤ σ q ∧ σ q ≤ (zr_N q : Int)) (hnr : 0 ≤ σ r ∧ σ r ≤ (zr_N r : Int)) (hv : ∀ j, 0 ≤ α q j ∧ α q j ≤ 255) (hw : ∀ j, 0 ≤ α r j ∧ α r j ≤ 255) {i j : Int} (hri : zk_rg i) (hrj : zk_rg j) : zk_K G mR_countSame (1, 21) 0 0 [.inr (some (zr_p q)), .inl i, .inr (some (zr_p r)), .inl j] (zk_mk G sw σ α t) (fun v h' => h' = (zk_mk G sw σ α t) ∧ v = some (.inl (if (0 ≤ i ∧ i < σ q) ∧ (0 ≤ j ∧ j < σ r) then (mt_len (α q) (α r) i.toNat j.toNat (min (σ q - i) (σ r - j)).toNat : Int) else 0))) := by
  have hNq : zr_N q ≤ 4102 := zr_Nle
  have hNr : zr_N r ≤ 4102 := zr_Nle
  refine zk_K.of (ls := [some (.inr (some (zr_p q))), some (.inl i), some (.inr (some (zr_p r))), some (.inl j), none, none]) (by decide +kernel) (Nat.le_of_ble_eq_true rfl) rfl ?_
  refine zk_aload_n dR_countSame_0 rfl ?_
  refine zk_iload_n dR_countSame_1 rfl ?_
  refine zk_callV (av := [.inl i]) (st := []) (d' := (0, 0)) (kc' := 0) (ks' := 0) zbR_25 dR_countSame_2 (mk_row hq) zr_p0 rfl rfl (Nat.le_of_ble_eq_true rfl) ⟨by decide, by decide⟩ rfl rfl (kR_has G sw σ α t hq hnq hri) (fun v9 h9 q9 => ?_)
  rcases q9 with ⟨rfl, ⟨hc2, rfl⟩ | ⟨hc2, rfl⟩⟩
  · skip
    refine zk_W.to (ls' := [some (.inr (some (zr_p q))), some (.inl i), some (.inr (some (zr_p r))), some (.inl j), none, none]) (st' := [.inl 1]) (h' := (zk_mk G sw σ α t)) rfl rfl rfl ?_
    refine zk_if_eq (tgt := 16) dR_countSame_5 (by decide) ⟨by decide, by decide⟩ (fun h5 => ?_) (fun h5 => ?_)
    · skip
      exact absurd h5 (by decide)
    · skip
      refine zk_aload_n dR_countSame_8 rfl ?_
      refine zk_iload_n dR_countSame_9 rfl ?_
      refine zk_callV (av := [.inl j]) (st := []) (d' := (0, 0)) (kc' := 0) (ks' := 0) zbR_25 dR_countSame_10 (mk_row hr) zr_p0 rfl rfl (Nat.le_of_ble_eq_true rfl) ⟨by decide, by decide⟩ rfl rfl (kR_has G sw σ α t hr hnr hrj) (fun v9 h9 q9 => ?_)
      rcases q9 with ⟨rfl, ⟨hc10, rfl⟩ | ⟨hc10, rfl⟩⟩
      · skip
        refine zk_W.to (ls' := [some (.inr (some (zr_p q))), some (.inl i), some (.inr (some (zr_p r))), some (.inl j), none, none]) (st' := [.inl 1]) (h' := (zk_mk G sw σ α t)) rfl rfl rfl ?_
        refine zk_if_ne (tgt := 18) dR_countSame_13 (by decide) ⟨by decide, by decide⟩ (fun h13 => ?_) (fun h13 => ?_)
        · skip
          refine zk_aload_n dR_countSame_18 rfl ?_
          refine zk_get zfR_21 dR_countSame_19 (mk_row hq) zr_p0 rfl ?_
          refine zk_iload_n dR_countSame_22 rfl ?_
          refine zk_isub dR_countSame_23 ?_
          refine zk_aload_n dR_countSame_24 rfl ?_
          refine zk_get zfR_21 dR_countSame_25 (mk_row hr) zr_p0 rfl ?_
          refine zk_iload_n dR_countSame_28 rfl ?_
          refine zk_isub dR_countSame_29 ?_
          refine zk_mmin dR_countSame_30 zlR_33 zw_mins zw_mi zw_minc ⟨by decide, Nat.le_of_ble_eq_true rfl⟩ ⟨by omega, by omega⟩ ⟨by omega, by omega⟩ ?_
          refine zk_istore (ls' := [some (.inr (some (zr_p q))), some (.inl i), some (.inr (some (zr_p r))), some (.inl j), some (.inl (min ((σ q) - i) ((σ r) - j))), none]) dR_countSame_33 (by decide) rfl ?_
          refine zk_iconst dR_countSame_35 ?_
          refine zk_istore (ls' := [some (.inr (some (zr_p q))), some (.inl i), some (.inr (some (zr_p r))), some (.inl j), some (.inl (min ((σ q) - i) ((σ r) - j))), some (.inl 0)]) dR_countSame_36 (by decide) rfl ?_
          exact wR_countSame G sw σ α t hq hr hnq hnr hv hw hc2 hc10 (min (σ q - i) (σ r - j) + 1).toNat 0 (by omega) (by omega) (fun s hs => absurd hs (Nat.not_lt_zero s))
        · skip
          exact absurd h13 (by decide)
      · skip
        refine zk_W.to (ls' := [some (.inr (some (zr_p q))), some (.inl i), some (.inr (some (zr_p r))), some (.inl j), none, none]) (st' := [.inl 0]) (h' := (zk_mk G sw σ α t)) rfl rfl rfl ?_
        refine zk_if_ne (tgt := 18) dR_countSame_13 (by decide) ⟨by decide, by decide⟩ (fun h13 => ?_) (fun h13 => ?_)
        · skip
          exact absurd h13 (by decide)
        · skip
          refine zk_iconst dR_countSame_16 ?_
          refine zk_iret dR_countSame_17 rfl ⟨rfl, ?_⟩
          rw [if_neg (fun hh => absurd hh (by omega))]
  · skip
    refine zk_W.to (ls' := [some (.inr (some (zr_p q))), some (.inl i), some (.inr (some (zr_p r))), some (.inl j), none, none]) (st' := [.inl 0]) (h' := (zk_mk G sw σ α t)) rfl rfl rfl ?_
    refine zk_if_eq (tgt := 16) dR_countSame_5 (by decide) ⟨by decide, by decide⟩ (fun h5 => ?_) (fun h5 => ?_)
    · skip
      refine zk_iconst dR_countSame_16 ?_
      refine zk_iret dR_countSame_17 rfl ⟨rfl, ?_⟩
      rw [if_neg (fun hh => absurd hh (by omega))]
    · skip
      exact absurd h5 (by decide)
