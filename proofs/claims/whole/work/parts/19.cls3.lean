set_option maxRecDepth 100000 in
set_option maxHeartbeats 4000000 in
theorem kR_changeFor (G : zk_G) (sw : Bool) (σ : Nat → Int) (α : Nat → Nat → Int) (t : zk_H) : zk_K G mR_changeFor (0, 0) 0 0 [.inr (some 2), .inr (some 4)] (zk_mk G sw σ α t) (fun v h' => v = none ∧ h' = zk_mk G (!sw) (zk_up (zk_up σ 0 (σ 1)) 1 (σ 0)) (zk_ua (zk_ua α 0 (α 1)) 1 (α 0)) t) := by
  refine zk_K.of (ls := [some (.inr (some 2)), some (.inr (some 4)), none, none]) (by decide +kernel) (Nat.le_of_ble_eq_true rfl) rfl ?_
  refine zk_aload_n dR_changeFor_0 rfl ?_
  refine zk_get zfR_15 dR_changeFor_1 (v := .inr (some (bif sw then 3 else 5))) rfl (by decide) rfl ?_
  refine zk_astore_n (ls' := [some (.inr (some 2)), some (.inr (some 4)), some (.inr (some (bif sw then 3 else 5))), none]) dR_changeFor_4 (by decide) rfl ?_
  refine zk_aload_n dR_changeFor_5 rfl ?_
  refine zk_get zfR_21 dR_changeFor_6 (v := .inl (σ 1)) rfl (by decide) rfl ?_
  refine zk_istore_n (ls' := [some (.inr (some 2)), some (.inr (some 4)), some (.inr (some (bif sw then 3 else 5))), some (.inl (σ 1))]) dR_changeFor_9 (by decide) rfl ?_
  refine zk_aload_n dR_changeFor_10 rfl ?_
  refine zk_aload_n dR_changeFor_11 rfl ?_
  refine zk_get zfR_15 dR_changeFor_12 (v := .inr (some (bif sw then 5 else 3))) rfl (by decide) rfl ?_
  refine zk_put zfR_15 dR_changeFor_15 (h' := (List.set (zk_mk G sw σ α t) 4 (.inr (2, [.inr (some (bif sw then 5 else 3)), .inl (σ 1)])))) rfl (by decide) (Nat.le_of_ble_eq_true rfl) rfl rfl rfl ?_
  refine zk_aload_n dR_changeFor_18 rfl ?_
  refine zk_aload_n dR_changeFor_19 rfl ?_
  refine zk_get zfR_21 dR_changeFor_20 (v := .inl (σ 0)) rfl (by decide) rfl ?_
  refine zk_put zfR_21 dR_changeFor_23 (h' := (List.set (List.set (zk_mk G sw σ α t) 4 (.inr (2, [.inr (some (bif sw then 5 else 3)), .inl (σ 1)]))) 4 (.inr (2, [.inr (some (bif sw then 5 else 3)), .inl (σ 0)])))) rfl (by decide) (Nat.le_of_ble_eq_true rfl) rfl rfl rfl ?_
  refine zk_aload_n dR_changeFor_26 rfl ?_
  refine zk_aload_n dR_changeFor_27 rfl ?_
  refine zk_put zfR_15 dR_changeFor_28 (h' := (List.set (List.set (List.set (zk_mk G sw σ α t) 4 (.inr (2, [.inr (some (bif sw then 5 else 3)), .inl (σ 1)]))) 4 (.inr (2, [.inr (some (bif sw then 5 else 3)), .inl (σ 0)]))) 2 (.inr (2, [.inr (some (bif sw then 3 else 5)), .inl (σ 0)])))) rfl (by decide) (Nat.le_of_ble_eq_true rfl) rfl rfl rfl ?_
  refine zk_aload_n dR_changeFor_31 rfl ?_
  refine zk_iload_n dR_changeFor_32 rfl ?_
  refine zk_put zfR_21 dR_changeFor_33 (h' := (List.set (List.set (List.set (List.set (zk_mk G sw σ α t) 4 (.inr (2, [.inr (some (bif sw then 5 else 3)), .inl (σ 1)]))) 4 (.inr (2, [.inr (some (bif sw then 5 else 3)), .inl (σ 0)]))) 2 (.inr (2, [.inr (some (bif sw then 3 else 5)), .inl (σ 0)]))) 2 (.inr (2, [.inr (some (bif sw then 3 else 5)), .inl (σ 1)])))) rfl (by decide) (Nat.le_of_ble_eq_true rfl) rfl rfl rfl ?_
  refine zk_ret dR_changeFor_36 rfl ⟨rfl, ?_⟩
  cases sw <;> rfl

set_option maxRecDepth 100000 in
set_option maxHeartbeats 4000000 in
theorem kC_turn (G : zk_G) (sw : Bool) (σ : Nat → Int) (α : Nat → Nat → Int) (t : zk_H) (hI : zc_I σ α)  : zk_K G mC_turn (1, 23) 0 0 [.inr (some 1)] (zk_mk G sw σ α t) (fun v h' => h' = zk_mk G (!sw) (zk_up (zk_up (zk_up σ 0 (σ 1)) 1 (σ 0)) 12 0) (zk_ua (zk_ua α 0 (α 1)) 1 (α 0)) t ∧ v = some (.inl (σ 1))) := by
  have hn0 := hI.1 0 (by decide)
  have hn1 := hI.1 1 (by decide)
  have hn2 := hI.1 2 (by decide)
  have hn3 := hI.1 3 (by decide)
  have hn4 := hI.1 4 (by decide)
  have eN0 : (zr_N 0 : Int) = 40 := rfl
  have eN1 : (zr_N 1 : Int) = 40 := rfl
  have eN2 : (zr_N 2 : Int) = 80 := rfl
  have eN3 : (zr_N 3 : Int) = 4102 := rfl
  have eN4 : (zr_N 4 : Int) = 4000 := rfl
  have hv0 := hI.2.1 0 (by decide)
  have hv1 := hI.2.1 1 (by decide)
  have hv2 := hI.2.1 2 (by decide)
  have hv3 := hI.2.1 3 (by decide)
  have hv4 := hI.2.1 4 (by decide)
  have hc := hI.2.2.1
  have hs10 := hI.2.2.2.1
  have hs11 := hI.2.2.2.2.1
  have ha := hI.2.2.2.2.2.1
  refine zk_K.of (ls := [some (.inr (some 1))]) (by decide +kernel) (Nat.le_of_ble_eq_true rfl) rfl ?_
  refine zk_aload_n dC_turn_0 rfl ?_
  refine zk_get zfC_14 dC_turn_1 (v := .inr (some 2)) rfl (by decide) rfl ?_
  refine zk_aload_n dC_turn_4 rfl ?_
  refine zk_get zfC_18 dC_turn_5 (v := .inr (some 4)) rfl (by decide) rfl ?_
  refine zk_callV (av := [.inr (some 4)]) (st := []) (d' := (0, 0)) (kc' := 0) (ks' := 0) zbC_87 dC_turn_8 rfl (by decide) rfl rfl (Nat.le_of_ble_eq_true rfl) ⟨by decide, by decide⟩ rfl rfl (kR_changeFor G sw σ α t) (fun v9 h9 q9 => ?_)
  obtain ⟨rfl, rfl⟩ := q9
  refine zk_W.to (ls' := [some (.inr (some 1))]) (st' := []) (h' := (zk_mk G (!sw) (zk_up (zk_up σ 0 (σ 1)) 1 (σ 0)) (zk_ua (zk_ua α 0 (α 1)) 1 (α 0)) t)) rfl rfl rfl ?_
  refine zk_aload_n dC_turn_11 rfl ?_
  refine zk_get zfC_46 dC_turn_12 (v := .inr (some 18)) rfl (by decide) rfl ?_
  refine zk_callV (av := []) (st := []) (d' := (0, 0)) (kc' := 0) (ks' := 0) zbC_63 dC_turn_15 rfl (by decide) rfl rfl (Nat.le_of_ble_eq_true rfl) ⟨by decide, by decide⟩ rfl rfl (kS_forget G (!sw) (zk_up (zk_up σ 0 (σ 1)) 1 (σ 0)) (zk_ua (zk_ua α 0 (α 1)) 1 (α 0)) t) (fun v9 h9 q9 => ?_)
  obtain ⟨rfl, rfl⟩ := q9
  refine zk_W.to (ls' := [some (.inr (some 1))]) (st' := []) (h' := (zk_mk G (!sw) (zk_up (zk_up (zk_up σ 0 (σ 1)) 1 (σ 0)) 12 0) (zk_ua (zk_ua α 0 (α 1)) 1 (α 0)) t)) rfl rfl rfl ?_
  refine zk_aload_n dC_turn_18 rfl ?_
  refine zk_get zfC_14 dC_turn_19 (v := .inr (some 2)) rfl (by decide) rfl ?_
  refine zk_callV (av := []) (st := []) (d' := (0, 0)) (kc' := 0) (ks' := 0) zbC_50 dC_turn_22 rfl (by decide) rfl rfl (Nat.le_of_ble_eq_true rfl) ⟨by decide, by decide⟩ rfl rfl (kR_length G (!sw) (zk_up (zk_up (zk_up σ 0 (σ 1)) 1 (σ 0)) 12 0) (zk_ua (zk_ua α 0 (α 1)) 1 (α 0)) t (q := 0) (by decide)) (fun v9 h9 q9 => ?_)
  obtain ⟨rfl, rfl⟩ := q9
  refine zk_W.to (ls' := [some (.inr (some 1))]) (st' := [.inl (σ 1)]) (h' := (zk_mk G (!sw) (zk_up (zk_up (zk_up σ 0 (σ 1)) 1 (σ 0)) 12 0) (zk_ua (zk_ua α 0 (α 1)) 1 (α 0)) t)) rfl rfl rfl ?_
  exact zk_iret dC_turn_25 rfl ⟨rfl, rfl⟩

set_option maxRecDepth 100000 in
set_option maxHeartbeats 4000000 in
theorem kR_isSame (G : zk_G) (sw : Bool) (σ : Nat → Int) (α : Nat → Nat → Int) (t : zk_H) {q : Nat} (hq : q < 5) {r : Nat} (hr : r < 5) (hnq : 0 ≤ σ q ∧ σ q ≤ (zr_N q : Int)) (hnr : 0 ≤ σ r ∧ σ r ≤ (zr_N r : Int)) (hv : ∀ j, 0 ≤ α q j ∧ α q j ≤ 255) (hw : ∀ j, 0 ≤ α r j ∧ α r j ≤ 255) : zk_K G mR_isSame (2, 46) 0 0 [.inr (some (zr_p q)), .inr (some (zr_p r))] (zk_mk G sw σ α t) (fun v h' => h' = (zk_mk G sw σ α t) ∧ (((σ q = σ r ∧ ∀ j, j < (σ q).toNat → α q j = α r j) ∧ v = some (.inl 1)) ∨ ((¬ (σ q = σ r ∧ ∀ j, j < (σ q).toNat → α q j = α r j)) ∧ v = some (.inl 0)))) := by
  have hNq : zr_N q ≤ 4102 := zr_Nle
  have hNr : zr_N r ≤ 4102 := zr_Nle
  have hml := mt_len_le (α q) (α r) (σ q).toNat 0 0
  refine zk_K.of (ls := [some (.inr (some (zr_p q))), some (.inr (some (zr_p r)))]) (by decide +kernel) (Nat.le_of_ble_eq_true rfl) rfl ?_
  refine zk_aload_n dR_isSame_0 rfl ?_
  refine zk_get zfR_21 dR_isSame_1 (mk_row hq) zr_p0 rfl ?_
  refine zk_aload_n dR_isSame_4 rfl ?_
  refine zk_get zfR_21 dR_isSame_5 (mk_row hr) zr_p0 rfl ?_
  refine zk_icmp_ne (tgt := 29) dR_isSame_8 (by decide) ⟨by omega, by omega⟩ ⟨by omega, by omega⟩ (fun h8 => ?_) (fun h8 => ?_)
  · skip
    refine zk_iconst dR_isSame_29 ?_
    first | exact zk_zret dR_isSame_30 rfl (by decide) ⟨rfl, Or.inr ⟨fun hh => absurd hh.1 h8, rfl⟩⟩ | exact zk_zret dR_isSame_30 rfl (by decide) ⟨rfl, Or.inr ⟨fun hh => h22 (by rw [mt_len_eq (n := (σ q).toNat) (Nat.le_refl _) (fun t' ht => by rw [Nat.zero_add]; exact hh.2 t' ht) (Or.inl rfl)]; omega), rfl⟩⟩
  · skip
    refine zk_aload_n dR_isSame_11 rfl ?_
    refine zk_iconst dR_isSame_12 ?_
    refine zk_aload_n dR_isSame_13 rfl ?_
    refine zk_iconst dR_isSame_14 ?_
    refine zk_callV (av := [.inl 0, .inr (some (zr_p r)), .inl 0]) (st := []) (d' := (1, 21)) (kc' := 0) (ks' := 0) zbR_37 dR_isSame_15 (mk_row hq) zr_p0 rfl rfl (Nat.le_of_ble_eq_true rfl) ⟨by decide, by decide⟩ rfl rfl (kR_countSame G sw σ α t hq hr hnq hnr hv hw (i := 0) (j := 0) ⟨by decide, by decide⟩ ⟨by decide, by decide⟩) (fun v9 h9 q9 => ?_)
    obtain ⟨rfl, rfl⟩ := q9
    refine zk_W.to (ls' := [some (.inr (some (zr_p q))), some (.inr (some (zr_p r)))]) (st' := [.inl (if (0 ≤ (0 : Int) ∧ 0 < σ q) ∧ (0 ≤ (0 : Int) ∧ 0 < σ r) then (mt_len (α q) (α r) (0 : Int).toNat (0 : Int).toNat (min (σ q - 0) (σ r - 0)).toNat : Int) else 0)]) (h' := (zk_mk G sw σ α t)) rfl rfl rfl ?_
    have ecs : (if (0 ≤ (0 : Int) ∧ 0 < σ q) ∧ (0 ≤ (0 : Int) ∧ 0 < σ r) then (mt_len (α q) (α r) (0 : Int).toNat (0 : Int).toNat (min (σ q - 0) (σ r - 0)).toNat : Int) else 0) = (mt_len (α q) (α r) 0 0 (σ q).toNat : Int) := by
      by_cases h0 : 0 < σ q
      · rw [if_pos (by omega), show (min (σ q - 0) (σ r - 0)).toNat = (σ q).toNat by omega]; rfl
      · rw [if_neg (by omega), show (σ q).toNat = 0 by omega]; rfl
    rw [ecs]
    refine zk_aload_n dR_isSame_18 rfl ?_
    refine zk_get zfR_21 dR_isSame_19 (mk_row hq) zr_p0 rfl ?_
    refine zk_icmp_ne (tgt := 29) dR_isSame_22 (by decide) ⟨by omega, by omega⟩ ⟨by omega, by omega⟩ (fun h22 => ?_) (fun h22 => ?_)
    · skip
      refine zk_iconst dR_isSame_29 ?_
      first | exact zk_zret dR_isSame_30 rfl (by decide) ⟨rfl, Or.inr ⟨fun hh => absurd hh.1 h8, rfl⟩⟩ | exact zk_zret dR_isSame_30 rfl (by decide) ⟨rfl, Or.inr ⟨fun hh => h22 (by rw [mt_len_eq (n := (σ q).toNat) (Nat.le_refl _) (fun t' ht => by rw [Nat.zero_add]; exact hh.2 t' ht) (Or.inl rfl)]; omega), rfl⟩⟩
    · skip
      refine zk_iconst dR_isSame_25 ?_
      refine zk_goto (tgt := 30) dR_isSame_26 (by decide) ?_
      refine zk_zret dR_isSame_30 rfl (by decide) ⟨rfl, Or.inl ⟨⟨h8, fun j hj => ?_⟩, rfl⟩⟩
      have h3 := mt_len_lt (f := α q) (g := α r) (m := (σ q).toNat) (i := 0) (j := 0) (t := j) (by omega)
      rw [Nat.zero_add] at h3
      exact h3

set_option maxRecDepth 100000 in
set_option maxHeartbeats 4000000 in
theorem kC_isNew (G : zk_G) (sw : Bool) (σ : Nat → Int) (α : Nat → Nat → Int) (t : zk_H) (hI : zc_I σ α)  : zk_K G mC_isNew (3, 67) 0 0 [.inr (some 1)] (zk_mk G sw σ α t) (fun v h' => h' = (zk_mk G sw σ α t) ∧ (((σ 2 = σ 1 ∧ ∀ j, j < (σ 2).toNat → α 2 j = α 1 j) ∧ v = some (.inl 1)) ∨ ((¬ (σ 2 = σ 1 ∧ ∀ j, j < (σ 2).toNat → α 2 j = α 1 j)) ∧ v = some (.inl 0)))) := by
  have hn0 := hI.1 0 (by decide)
  have hn1 := hI.1 1 (by decide)
  have hn2 := hI.1 2 (by decide)
  have hn3 := hI.1 3 (by decide)
  have hn4 := hI.1 4 (by decide)
  have eN0 : (zr_N 0 : Int) = 40 := rfl
  have eN1 : (zr_N 1 : Int) = 40 := rfl
  have eN2 : (zr_N 2 : Int) = 80 := rfl
  have eN3 : (zr_N 3 : Int) = 4102 := rfl
  have eN4 : (zr_N 4 : Int) = 4000 := rfl
  have hv0 := hI.2.1 0 (by decide)
  have hv1 := hI.2.1 1 (by decide)
  have hv2 := hI.2.1 2 (by decide)
  have hv3 := hI.2.1 3 (by decide)
  have hv4 := hI.2.1 4 (by decide)
  have hc := hI.2.2.1
  have hs10 := hI.2.2.2.1
  have hs11 := hI.2.2.2.2.1
  have ha := hI.2.2.2.2.2.1
  refine zk_K.of (ls := [some (.inr (some 1))]) (by decide +kernel) (Nat.le_of_ble_eq_true rfl) rfl ?_
  refine zk_aload_n dC_isNew_0 rfl ?_
  refine zk_get zfC_21 dC_isNew_1 (v := .inr (some 6)) rfl (by decide) rfl ?_
  refine zk_aload_n dC_isNew_4 rfl ?_
  refine zk_get zfC_18 dC_isNew_5 (v := .inr (some 4)) rfl (by decide) rfl ?_
  refine zk_callV (av := [.inr (some 4)]) (st := []) (d' := (2, 46)) (kc' := 0) (ks' := 0) zbC_171 dC_isNew_8 rfl (by decide) rfl rfl (Nat.le_of_ble_eq_true rfl) ⟨by decide, by decide⟩ rfl rfl (kR_isSame G sw σ α t (q := 2) (by decide) (r := 1) (by decide) hn2 hn1 hv2 hv1) (fun v9 h9 q9 => ?_)
  rcases q9 with ⟨rfl, ⟨hsm, rfl⟩ | ⟨hsm, rfl⟩⟩
  · skip
    refine zk_W.to (ls' := [some (.inr (some 1))]) (st' := [.inl 1]) (h' := (zk_mk G sw σ α t)) rfl rfl rfl ?_
    refine zk_if_eq (tgt := 18) dC_isNew_11 (by decide) ⟨by decide, by decide⟩ (fun h11 => ?_) (fun h11 => ?_)
    · skip
      exact absurd h11 (by decide)
    · skip
      refine zk_iconst dC_isNew_14 ?_
      refine zk_goto (tgt := 19) dC_isNew_15 (by decide) ?_
      exact zk_iret dC_isNew_19 rfl ⟨rfl, Or.inl ⟨hsm, rfl⟩⟩
  · skip
    refine zk_W.to (ls' := [some (.inr (some 1))]) (st' := [.inl 0]) (h' := (zk_mk G sw σ α t)) rfl rfl rfl ?_
    refine zk_if_eq (tgt := 18) dC_isNew_11 (by decide) ⟨by decide, by decide⟩ (fun h11 => ?_) (fun h11 => ?_)
    · skip
      refine zk_iconst dC_isNew_18 ?_
      exact zk_iret dC_isNew_19 rfl ⟨rfl, Or.inr ⟨hsm, rfl⟩⟩
    · skip
      exact absurd h11 (by decide)

set_option maxRecDepth 100000 in
set_option maxHeartbeats 4000000 in
theorem wC_cost (G : zk_G) (sw : Bool) (σ : Nat → Int) (α : Nat → Nat → Int) (t : zk_H) (hI : zc_I σ α) : ∀ (k : Nat) (k0 : Nat), ((k0 : Int) ≤ σ 10) → (σ 10 < (k0 : Int) + k) → zk_W G mC_cost (3, 63) 0 0 4 [some (.inr (some 1)), some (.inl (mt_csum (zs_c σ) (α 5) (α 6) (α 7) k0)), some (.inl (k0 : Int))] [] (zk_mk G sw σ α t) (fun v h' => h' = (zk_mk G sw σ α t) ∧ v = some (.inl (mt_csum (zs_c σ) (α 5) (α 6) (α 7) (σ 10).toNat))) := by
  intro k
  induction k with
  | zero =>
    intro k0 g1 g2
    exfalso
    omega
  | succ k ih =>
    intro k0 g1 g2
    have hn0 := hI.1 0 (by decide)
    have hn1 := hI.1 1 (by decide)
    have hn2 := hI.1 2 (by decide)
    have hn3 := hI.1 3 (by decide)
    have hn4 := hI.1 4 (by decide)
    have eN0 : (zr_N 0 : Int) = 40 := rfl
    have eN1 : (zr_N 1 : Int) = 40 := rfl
    have eN2 : (zr_N 2 : Int) = 80 := rfl
    have eN3 : (zr_N 3 : Int) = 4102 := rfl
    have eN4 : (zr_N 4 : Int) = 4000 := rfl
    have hv0 := hI.2.1 0 (by decide)
    have hv1 := hI.2.1 1 (by decide)
    have hv2 := hI.2.1 2 (by decide)
    have hv3 := hI.2.1 3 (by decide)
    have hv4 := hI.2.1 4 (by decide)
    have hc := hI.2.2.1
    have hs10 := hI.2.2.2.1
    have hs11 := hI.2.2.2.2.1
    have ha := hI.2.2.2.2.2.1
    refine zk_iload_n dC_cost_4 rfl ?_
    refine zk_aload_n dC_cost_5 rfl ?_
    refine zk_get zfC_37 dC_cost_6 (v := .inr (some 11)) rfl (by decide) rfl ?_
    refine zk_callV (av := []) (st := [.inl (k0 : Int)]) (d' := (0, 0)) (kc' := 0) (ks' := 0) zbC_113 dC_cost_9 rfl (by decide) rfl rfl (Nat.le_of_ble_eq_true rfl) ⟨by decide, by decide⟩ rfl rfl (kA_length G sw σ α t) (fun v9 h9 q9 => ?_)
    obtain ⟨rfl, rfl⟩ := q9
    refine zk_W.to (ls' := [some (.inr (some 1)), some (.inl (mt_csum (zs_c σ) (α 5) (α 6) (α 7) k0)), some (.inl (k0 : Int))]) (st' := [.inl (σ 10), .inl (k0 : Int)]) (h' := (zk_mk G sw σ α t)) rfl rfl rfl ?_
    refine zk_icmp_ge (tgt := 29) dC_cost_12 (by decide) ⟨by omega, by omega⟩ ⟨by omega, by omega⟩ (fun h12 => ?_) (fun h12 => ?_)
    · skip
      refine zk_iload_n dC_cost_29 rfl ?_
      have en : k0 = (σ 10).toNat := by omega
      subst en
      exact zk_iret dC_cost_30 rfl ⟨rfl, rfl⟩
    · skip
      refine zk_iload_n dC_cost_15 rfl ?_
      refine zk_aload_n dC_cost_16 rfl ?_
      refine zk_iload_n dC_cost_17 rfl ?_
      refine zk_callV (av := [.inl (k0 : Int)]) (st := [.inl (mt_csum (zs_c σ) (α 5) (α 6) (α 7) k0)]) (d' := (2, 42)) (kc' := 0) (ks' := 0) zbC_114 dC_cost_18 rfl (by decide) rfl rfl (Nat.le_of_ble_eq_true rfl) ⟨by decide, by decide⟩ rfl rfl (kC_costOf G sw σ α t hs10 ha (k := (k0 : Int)) (by omega) (by have h9 := zc_spot hI (n := ((k0 : Int)).toNat) (by omega); exact ⟨by omega, by omega⟩)) (fun v9 h9 q9 => ?_)
      obtain ⟨rfl, rfl⟩ := q9
      refine zk_W.to (ls' := [some (.inr (some 1)), some (.inl (mt_csum (zs_c σ) (α 5) (α 6) (α 7) k0)), some (.inl (k0 : Int))]) (st' := [.inl (mt_cost (zs_c σ) (α 5) (α 6) (α 7) k0), .inl (mt_csum (zs_c σ) (α 5) (α 6) (α 7) k0)]) (h' := (zk_mk G sw σ α t)) rfl rfl rfl ?_
      refine zk_iadd dC_cost_21 ?_
      refine zk_istore_n (ls' := [some (.inr (some 1)), some (.inl ((mt_csum (zs_c σ) (α 5) (α 6) (α 7) k0) + (mt_cost (zs_c σ) (α 5) (α 6) (α 7) k0))), some (.inl (k0 : Int))]) dC_cost_22 (by decide) rfl ?_
      refine zk_iinc (ls' := [some (.inr (some 1)), some (.inl ((mt_csum (zs_c σ) (α 5) (α 6) (α 7) k0) + (mt_cost (zs_c σ) (α 5) (α 6) (α 7) k0))), some (.inl ((k0 : Int) + 1))]) dC_cost_23 rfl (by decide) rfl ?_
      refine zk_goto (tgt := 4) dC_cost_26 (by decide) ?_
      have e1 : (mt_csum (zs_c σ) (α 5) (α 6) (α 7) k0) + (mt_cost (zs_c σ) (α 5) (α 6) (α 7) k0) = mt_csum (zs_c σ) (α 5) (α 6) (α 7) (k0 + 1) := rfl
      have e2 : (k0 : Int) + 1 = ((k0 + 1 : Nat) : Int) := by omega
      rw [e1, e2]
      exact ih (k0 + 1) (by omega) (by omega)

set_option maxRecDepth 100000 in
set_option maxHeartbeats 4000000 in
theorem kC_cost (G : zk_G) (sw : Bool) (σ : Nat → Int) (α : Nat → Nat → Int) (t : zk_H) (hI : zc_I σ α)  : zk_K G mC_cost (3, 63) 0 0 [.inr (some 1)] (zk_mk G sw σ α t) (fun v h' => h' = (zk_mk G sw σ α t) ∧ v = some (.inl (mt_csum (zs_c σ) (α 5) (α 6) (α 7) (σ 10).toNat))) := by
  have hn0 := hI.1 0 (by decide)
  have hn1 := hI.1 1 (by decide)
  have hn2 := hI.1 2 (by decide)
  have hn3 := hI.1 3 (by decide)
  have hn4 := hI.1 4 (by decide)
  have eN0 : (zr_N 0 : Int) = 40 := rfl
  have eN1 : (zr_N 1 : Int) = 40 := rfl
  have eN2 : (zr_N 2 : Int) = 80 := rfl
  have eN3 : (zr_N 3 : Int) = 4102 := rfl
  have eN4 : (zr_N 4 : Int) = 4000 := rfl
  have hv0 := hI.2.1 0 (by decide)
  have hv1 := hI.2.1 1 (by decide)
  have hv2 := hI.2.1 2 (by decide)
  have hv3 := hI.2.1 3 (by decide)
  have hv4 := hI.2.1 4 (by decide)
  have hc := hI.2.2.1
  have hs10 := hI.2.2.2.1
  have hs11 := hI.2.2.2.2.1
  have ha := hI.2.2.2.2.2.1
  refine zk_K.of (ls := [some (.inr (some 1)), none, none]) (by decide +kernel) (Nat.le_of_ble_eq_true rfl) rfl ?_
  refine zk_iconst dC_cost_0 ?_
  refine zk_istore_n (ls' := [some (.inr (some 1)), some (.inl 0), none]) dC_cost_1 (by decide) rfl ?_
  refine zk_iconst dC_cost_2 ?_
  refine zk_istore_n (ls' := [some (.inr (some 1)), some (.inl 0), some (.inl 0)]) dC_cost_3 (by decide) rfl ?_
  exact wC_cost G sw σ α t hI (σ 10 + 1).toNat 0 (by omega) (by omega)

set_option maxRecDepth 100000 in
set_option maxHeartbeats 4000000 in
theorem kC_rest (G : zk_G) (sw : Bool) (σ : Nat → Int) (α : Nat → Nat → Int) (t : zk_H) (hI : zc_I σ α) {x y : Int} (hx : zk_rg x) (hy : zk_rg y) : zk_K G mC_rest (5, 117) 0 0 [.inr (some 1), .inl x, .inl y] (zk_mk G sw σ α t) (fun v h' => ((¬ ((0 ≤ x ∧ x ≤ σ 1) ∧ (0 ≤ y ∧ y ≤ σ 0))) ∧ h' = (zk_mk G sw σ α t) ∧ v = some (.inl (-2))) ∨ (((0 ≤ x ∧ x ≤ σ 1) ∧ (0 ≤ y ∧ y ≤ σ 0)) ∧ ∃ f b e, zs_T σ (zs_3 α f b e) ∧ h' = zk_mk G sw (zk_up σ 12 1) (zs_3 α f b e) t ∧ v = some (.inl (mt_tb f x.toNat y.toNat)))) := by
  have hn0 := hI.1 0 (by decide)
  have hn1 := hI.1 1 (by decide)
  have hn2 := hI.1 2 (by decide)
  have hn3 := hI.1 3 (by decide)
  have hn4 := hI.1 4 (by decide)
  have eN0 : (zr_N 0 : Int) = 40 := rfl
  have eN1 : (zr_N 1 : Int) = 40 := rfl
  have eN2 : (zr_N 2 : Int) = 80 := rfl
  have eN3 : (zr_N 3 : Int) = 4102 := rfl
  have eN4 : (zr_N 4 : Int) = 4000 := rfl
  have hv0 := hI.2.1 0 (by decide)
  have hv1 := hI.2.1 1 (by decide)
  have hv2 := hI.2.1 2 (by decide)
  have hv3 := hI.2.1 3 (by decide)
  have hv4 := hI.2.1 4 (by decide)
  have hc := hI.2.2.1
  have hs10 := hI.2.2.2.1
  have hs11 := hI.2.2.2.2.1
  have ha := hI.2.2.2.2.2.1
  refine zk_K.of (ls := [some (.inr (some 1)), some (.inl x), some (.inl y)]) (by decide +kernel) (Nat.le_of_ble_eq_true rfl) rfl ?_
  refine zk_iload_n dC_rest_0 rfl ?_
  refine zk_if_lt (tgt := 30) dC_rest_1 (by decide) hx (fun h1 => ?_) (fun h1 => ?_)
  · skip
    refine zk_bipush dC_rest_30 (by decide) ?_
    exact zk_iret dC_rest_32 rfl (Or.inl ⟨by omega, rfl, rfl⟩)
  · skip
    refine zk_iload_n dC_rest_4 rfl ?_
    refine zk_aload_n dC_rest_5 rfl ?_
    refine zk_get zfC_18 dC_rest_6 (v := .inr (some 4)) rfl (by decide) rfl ?_
    refine zk_callV (av := []) (st := [.inl x]) (d' := (0, 0)) (kc' := 0) (ks' := 0) zbC_50 dC_rest_9 rfl (by decide) rfl rfl (Nat.le_of_ble_eq_true rfl) ⟨by decide, by decide⟩ rfl rfl (kR_length G sw σ α t (q := 1) (by decide)) (fun v9 h9 q9 => ?_)
    obtain ⟨rfl, rfl⟩ := q9
    refine zk_W.to (ls' := [some (.inr (some 1)), some (.inl x), some (.inl y)]) (st' := [.inl (σ 1), .inl x]) (h' := (zk_mk G sw σ α t)) rfl rfl rfl ?_
    refine zk_icmp_gt (tgt := 30) dC_rest_12 (by decide) hx ⟨by omega, by omega⟩ (fun h12 => ?_) (fun h12 => ?_)
    · skip
      refine zk_bipush dC_rest_30 (by decide) ?_
      exact zk_iret dC_rest_32 rfl (Or.inl ⟨by omega, rfl, rfl⟩)
    · skip
      refine zk_iload_n dC_rest_15 rfl ?_
      refine zk_if_lt (tgt := 30) dC_rest_16 (by decide) hy (fun h16 => ?_) (fun h16 => ?_)
      · skip
        refine zk_bipush dC_rest_30 (by decide) ?_
        exact zk_iret dC_rest_32 rfl (Or.inl ⟨by omega, rfl, rfl⟩)
      · skip
        refine zk_iload_n dC_rest_19 rfl ?_
        refine zk_aload_n dC_rest_20 rfl ?_
        refine zk_get zfC_14 dC_rest_21 (v := .inr (some 2)) rfl (by decide) rfl ?_
        refine zk_callV (av := []) (st := [.inl y]) (d' := (0, 0)) (kc' := 0) (ks' := 0) zbC_50 dC_rest_24 rfl (by decide) rfl rfl (Nat.le_of_ble_eq_true rfl) ⟨by decide, by decide⟩ rfl rfl (kR_length G sw σ α t (q := 0) (by decide)) (fun v9 h9 q9 => ?_)
        obtain ⟨rfl, rfl⟩ := q9
        refine zk_W.to (ls' := [some (.inr (some 1)), some (.inl x), some (.inl y)]) (st' := [.inl (σ 0), .inl y]) (h' := (zk_mk G sw σ α t)) rfl rfl rfl ?_
        refine zk_icmp_le (tgt := 33) dC_rest_27 (by decide) hy ⟨by omega, by omega⟩ (fun h27 => ?_) (fun h27 => ?_)
        · skip
          refine zk_aload_n dC_rest_33 rfl ?_
          refine zk_get zfC_46 dC_rest_34 (v := .inr (some 18)) rfl (by decide) rfl ?_
          refine zk_callV (av := []) (st := []) (d' := (4, 95)) (kc' := 0) (ks' := 0) zbC_118 dC_rest_37 rfl (by decide) rfl rfl (Nat.le_of_ble_eq_true rfl) ⟨by decide, by decide⟩ rfl rfl (kS_workOut G sw σ α t hn0 hn1 hv0 hv1 hc hI.2.2.2.2.2.2.2.2.1 hI.2.2.2.2.2.2.2.2.2) (fun v9 h9 q9 => ?_)
          obtain ⟨rfl, f, b, e, hT, rfl⟩ := q9
          refine zk_W.to (ls' := [some (.inr (some 1)), some (.inl x), some (.inl y)]) (st' := []) (h' := (zk_mk G sw (zk_up σ 12 1) (zs_3 α f b e) t)) rfl rfl rfl ?_
          refine zk_aload_n dC_rest_40 rfl ?_
          refine zk_get zfC_46 dC_rest_41 (v := .inr (some 18)) rfl (by decide) rfl ?_
          refine zk_iload_n dC_rest_44 rfl ?_
          refine zk_iload_n dC_rest_45 rfl ?_
          refine zk_callV (av := [.inl x, .inl y]) (st := []) (d' := (0, 0)) (kc' := 0) (ks' := 0) zbC_121 dC_rest_46 rfl (by decide) rfl rfl (Nat.le_of_ble_eq_true rfl) ⟨by decide, by decide⟩ rfl rfl (kS_leastFrom G sw (zk_up σ 12 1) (zs_3 α f b e) t ⟨by omega, by omega⟩ ⟨by omega, by omega⟩) (fun v9 h9 q9 => ?_)
          obtain ⟨rfl, rfl⟩ := q9
          refine zk_W.to (ls' := [some (.inr (some 1)), some (.inl x), some (.inl y)]) (st' := [.inl (f (x * 41 + y).toNat)]) (h' := (zk_mk G sw (zk_up σ 12 1) (zs_3 α f b e) t)) rfl rfl rfl ?_
          refine zk_iret dC_rest_49 rfl (Or.inr ⟨by omega, f, b, e, hT, rfl, ?_⟩)
          rw [show (x * 41 + y).toNat = 41 * x.toNat + y.toNat by omega]
          rfl
        · skip
          refine zk_bipush dC_rest_30 (by decide) ?_
          exact zk_iret dC_rest_32 rfl (Or.inl ⟨by omega, rfl, rfl⟩)

set_option maxRecDepth 100000 in
set_option maxHeartbeats 4000000 in
theorem kC_act (G : zk_G) (sw : Bool) (σ : Nat → Int) (α : Nat → Nat → Int) (t : zk_H) (hI : zc_I σ α) {x y : Int} (hx : zk_rg x) (hy : zk_rg y) : zk_K G mC_act (3, 63) 0 0 [.inr (some 1), .inl x, .inl y] (zk_mk G sw σ α t) (fun v h' => h' = (zk_mk G sw σ α t) ∧ (((¬ ((0 ≤ x ∧ x < σ 10) ∧ (0 ≤ y ∧ y ≤ 4))) ∧ v = some (.inl (-2))) ∨ ((0 ≤ x ∧ x < σ 10) ∧ ((y = 0 ∧ v = some (.inl (α 5 x.toNat))) ∨ (y = 1 ∧ v = some (.inl (α 7 x.toNat))) ∨ (y = 2 ∧ v = some (.inl (α 6 x.toNat))) ∨ (y = 3 ∧ v = some (.inl (mt_spot (α 5) (α 6) (α 7) x.toNat))) ∨ (y = 4 ∧ v = some (.inl (mt_cost (zs_c σ) (α 5) (α 6) (α 7) x.toNat))))))) := by
  have hn0 := hI.1 0 (by decide)
  have hn1 := hI.1 1 (by decide)
  have hn2 := hI.1 2 (by decide)
  have hn3 := hI.1 3 (by decide)
  have hn4 := hI.1 4 (by decide)
  have eN0 : (zr_N 0 : Int) = 40 := rfl
  have eN1 : (zr_N 1 : Int) = 40 := rfl
  have eN2 : (zr_N 2 : Int) = 80 := rfl
  have eN3 : (zr_N 3 : Int) = 4102 := rfl
  have eN4 : (zr_N 4 : Int) = 4000 := rfl
  have hv0 := hI.2.1 0 (by decide)
  have hv1 := hI.2.1 1 (by decide)
  have hv2 := hI.2.1 2 (by decide)
  have hv3 := hI.2.1 3 (by decide)
  have hv4 := hI.2.1 4 (by decide)
  have hc := hI.2.2.1
  have hs10 := hI.2.2.2.1
  have hs11 := hI.2.2.2.2.1
  have ha := hI.2.2.2.2.2.1
  refine zk_K.of (ls := [some (.inr (some 1)), some (.inl x), some (.inl y)]) (by decide +kernel) (Nat.le_of_ble_eq_true rfl) rfl ?_
  refine zk_aload_n dC_act_0 rfl ?_
  refine zk_get zfC_37 dC_act_1 (v := .inr (some 11)) rfl (by decide) rfl ?_
  refine zk_iload_n dC_act_4 rfl ?_
  refine zk_callV (av := [.inl x]) (st := []) (d' := (0, 0)) (kc' := 0) (ks' := 0) zbC_132 dC_act_5 rfl (by decide) rfl rfl (Nat.le_of_ble_eq_true rfl) ⟨by decide, by decide⟩ rfl rfl (kA_has G sw σ α t ⟨by omega, by omega⟩ hx) (fun v9 h9 q9 => ?_)
  rcases q9 with ⟨rfl, ⟨hh5, rfl⟩ | ⟨hh5, rfl⟩⟩
  · skip
    refine zk_W.to (ls' := [some (.inr (some 1)), some (.inl x), some (.inl y)]) (st' := [.inl 1]) (h' := (zk_mk G sw σ α t)) rfl rfl rfl ?_
    refine zk_if_ne (tgt := 14) dC_act_8 (by decide) ⟨by decide, by decide⟩ (fun h8 => ?_) (fun h8 => ?_)
    · skip
      refine zk_iload_n dC_act_14 rfl ?_
      by_cases h15_0 : y = 0
      · skip
        refine zk_tableIn (tgt := 48) dC_act_15 hy (by omega) (by omega) (by rw [h15_0]; rfl) (by decide) ?_
        refine zk_aload_n dC_act_48 rfl ?_
        refine zk_get zfC_37 dC_act_49 (v := .inr (some 11)) rfl (by decide) rfl ?_
        refine zk_iload_n dC_act_52 rfl ?_
        refine zk_callV (av := [.inl x]) (st := []) (d' := (1, 21)) (kc' := 0) (ks' := 0) zbC_133 dC_act_53 rfl (by decide) rfl rfl (Nat.le_of_ble_eq_true rfl) ⟨by decide, by decide⟩ rfl rfl (kA_kind G sw σ α t hs10 hx) (fun v9 h9 q9 => ?_)
        rcases q9 with ⟨rfl, ⟨hka53, rfl⟩ | ⟨hka53, rfl⟩⟩
        · skip
          refine zk_W.to (ls' := [some (.inr (some 1)), some (.inl x), some (.inl y)]) (st' := [.inl (α 5 x.toNat)]) (h' := (zk_mk G sw σ α t)) rfl rfl rfl ?_
          exact zk_iret dC_act_56 rfl ⟨rfl, Or.inr ⟨by omega, Or.inl ⟨by assumption, rfl⟩⟩⟩
        · skip
          exfalso; omega
      by_cases h15_1 : y = 1
      · skip
        refine zk_tableIn (tgt := 57) dC_act_15 hy (by omega) (by omega) (by rw [h15_1]; rfl) (by decide) ?_
        refine zk_aload_n dC_act_57 rfl ?_
        refine zk_get zfC_37 dC_act_58 (v := .inr (some 11)) rfl (by decide) rfl ?_
        refine zk_iload_n dC_act_61 rfl ?_
        refine zk_callV (av := [.inl x]) (st := []) (d' := (1, 21)) (kc' := 0) (ks' := 0) zbC_136 dC_act_62 rfl (by decide) rfl rfl (Nat.le_of_ble_eq_true rfl) ⟨by decide, by decide⟩ rfl rfl (kA_count G sw σ α t hs10 hx) (fun v9 h9 q9 => ?_)
        rcases q9 with ⟨rfl, ⟨hka62, rfl⟩ | ⟨hka62, rfl⟩⟩
        · skip
          refine zk_W.to (ls' := [some (.inr (some 1)), some (.inl x), some (.inl y)]) (st' := [.inl (α 7 x.toNat)]) (h' := (zk_mk G sw σ α t)) rfl rfl rfl ?_
          exact zk_iret dC_act_65 rfl ⟨rfl, Or.inr ⟨by omega, Or.inr (Or.inl ⟨by assumption, rfl⟩)⟩⟩
        · skip
          exfalso; omega
      by_cases h15_2 : y = 2
      · skip
        refine zk_tableIn (tgt := 66) dC_act_15 hy (by omega) (by omega) (by rw [h15_2]; rfl) (by decide) ?_
        refine zk_aload_n dC_act_66 rfl ?_
        refine zk_get zfC_37 dC_act_67 (v := .inr (some 11)) rfl (by decide) rfl ?_
        refine zk_iload_n dC_act_70 rfl ?_
        refine zk_callV (av := [.inl x]) (st := []) (d' := (1, 21)) (kc' := 0) (ks' := 0) zbC_139 dC_act_71 rfl (by decide) rfl rfl (Nat.le_of_ble_eq_true rfl) ⟨by decide, by decide⟩ rfl rfl (kA_place G sw σ α t hs10 hx) (fun v9 h9 q9 => ?_)
        rcases q9 with ⟨rfl, ⟨hka71, rfl⟩ | ⟨hka71, rfl⟩⟩
        · skip
          refine zk_W.to (ls' := [some (.inr (some 1)), some (.inl x), some (.inl y)]) (st' := [.inl (α 6 x.toNat)]) (h' := (zk_mk G sw σ α t)) rfl rfl rfl ?_
          exact zk_iret dC_act_74 rfl ⟨rfl, Or.inr ⟨by omega, Or.inr (Or.inr (Or.inl ⟨by assumption, rfl⟩))⟩⟩
        · skip
          exfalso; omega
      by_cases h15_3 : y = 3
      · skip
        refine zk_tableIn (tgt := 75) dC_act_15 hy (by omega) (by omega) (by rw [h15_3]; rfl) (by decide) ?_
        refine zk_aload_n dC_act_75 rfl ?_
        refine zk_get zfC_37 dC_act_76 (v := .inr (some 11)) rfl (by decide) rfl ?_
        refine zk_iload_n dC_act_79 rfl ?_
        refine zk_callV (av := [.inl x]) (st := []) (d' := (1, 18)) (kc' := 0) (ks' := 0) zbC_142 dC_act_80 rfl (by decide) rfl rfl (Nat.le_of_ble_eq_true rfl) ⟨by decide, by decide⟩ rfl rfl (kA_spotAhead G sw σ α t ha hs10 (k := x) (by omega)) (fun v9 h9 q9 => ?_)
        obtain ⟨rfl, rfl⟩ := q9
        refine zk_W.to (ls' := [some (.inr (some 1)), some (.inl x), some (.inl y)]) (st' := [.inl (mt_spot (α 5) (α 6) (α 7) x.toNat)]) (h' := (zk_mk G sw σ α t)) rfl rfl rfl ?_
        exact zk_iret dC_act_83 rfl ⟨rfl, Or.inr ⟨by omega, Or.inr (Or.inr (Or.inr (Or.inl ⟨by assumption, rfl⟩)))⟩⟩
      by_cases h15_4 : y = 4
      · skip
        refine zk_tableIn (tgt := 84) dC_act_15 hy (by omega) (by omega) (by rw [h15_4]; rfl) (by decide) ?_
        refine zk_aload_n dC_act_84 rfl ?_
        refine zk_iload_n dC_act_85 rfl ?_
        refine zk_callV (av := [.inl x]) (st := []) (d' := (2, 42)) (kc' := 0) (ks' := 0) zbC_114 dC_act_86 rfl (by decide) rfl rfl (Nat.le_of_ble_eq_true rfl) ⟨by decide, by decide⟩ rfl rfl (kC_costOf G sw σ α t hs10 ha (k := x) (by omega) (by have h9 := zc_spot hI (n := (x).toNat) (by omega); exact ⟨by omega, by omega⟩)) (fun v9 h9 q9 => ?_)
        obtain ⟨rfl, rfl⟩ := q9
        refine zk_W.to (ls' := [some (.inr (some 1)), some (.inl x), some (.inl y)]) (st' := [.inl (mt_cost (zs_c σ) (α 5) (α 6) (α 7) x.toNat)]) (h' := (zk_mk G sw σ α t)) rfl rfl rfl ?_
        exact zk_iret dC_act_89 rfl ⟨rfl, Or.inr ⟨by omega, Or.inr (Or.inr (Or.inr (Or.inr (⟨by assumption, rfl⟩))))⟩⟩
      refine zk_tableOut (tgt := 90) dC_act_15 hy (by omega) (by decide) ?_
      refine zk_bipush dC_act_90 (by decide) ?_
      exact zk_iret dC_act_92 rfl ⟨rfl, Or.inl ⟨by omega, rfl⟩⟩
    · skip
      exact absurd h8 (by decide)
  · skip
    refine zk_W.to (ls' := [some (.inr (some 1)), some (.inl x), some (.inl y)]) (st' := [.inl 0]) (h' := (zk_mk G sw σ α t)) rfl rfl rfl ?_
    refine zk_if_ne (tgt := 14) dC_act_8 (by decide) ⟨by decide, by decide⟩ (fun h8 => ?_) (fun h8 => ?_)
    · skip
      exact absurd h8 (by decide)
    · skip
      refine zk_bipush dC_act_11 (by decide) ?_
      exact zk_iret dC_act_13 rfl ⟨rfl, Or.inl ⟨by omega, rfl⟩⟩

theorem mt_lsum_le {K C : Nat → Int} {n : Nat} : ∀ {m : Nat}, n ≤ m → (∀ k, k < m → 1 ≤ C k ∧ C k ≤ 40) → mt_lsum K C n ≤ mt_lsum K C m
  | 0, h, _ => by rw [show n = 0 by omega]; exact Int.le_refl _
  | m + 1, h, hC => by
    by_cases e : n = m + 1
    · rw [e]; exact Int.le_refl _
    · have h1 := mt_lsum_le (K := K) (n := n) (m := m) (by omega) (fun k hk => hC k (by omega))
      have h2 := hC m (by omega)
      show _ ≤ mt_lsum K C m + (if K m = 2 then C m else 0)
      split <;> omega
theorem mt_lsum_rg {K C : Nat → Int} : ∀ {n : Nat}, (∀ k, k < n → 1 ≤ C k ∧ C k ≤ 40) → 0 ≤ mt_lsum K C n ∧ mt_lsum K C n ≤ 40 * n
  | 0, _ => ⟨Int.le_refl 0, Int.le_refl 0⟩
  | n + 1, h => by
    have h1 := mt_lsum_rg (K := K) (n := n) (fun k hk => h k (by omega))
    have h2 := h n (by omega)
    show 0 ≤ mt_lsum K C n + (if K n = 2 then C n else 0) ∧ mt_lsum K C n + (if K n = 2 then C n else 0) ≤ 40 * ((n + 1 : Nat) : Int)
    split <;> omega
/-- the bytes of a LAY lie within the row of what is laid -/
theorem zc_lay {σ : Nat → Int} {α : Nat → Nat → Int} (hI : zc_I σ α) {k : Nat} (hk : k < (σ 10).toNat) (h2 : α 5 k = 2) {j : Int} (hj : 0 ≤ j ∧ j < α 7 k) : 0 ≤ α 8 k + j ∧ α 8 k + j < σ 4 := by
  have hA := hI.2.2.2.2.2.2.1
  have hC : ∀ k, k < (σ 10).toNat → 1 ≤ α 7 k ∧ α 7 k ≤ 40 := fun k hk => (hA k hk).2.1
  have e := (hA k hk).2.2.2.2
  have e4 := hI.2.2.2.2.2.2.2.1
  have l1 := mt_lsum_rg (K := α 5) (C := α 7) (n := k) (fun k' hk' => hC k' (by omega))
  have l2 := mt_lsum_le (K := α 5) (C := α 7) (n := k + 1) (m := (σ 10).toNat) (by omega) hC
  have l3 : mt_lsum (α 5) (α 7) (k + 1) = mt_lsum (α 5) (α 7) k + α 7 k := by
    show mt_lsum (α 5) (α 7) k + (if α 5 k = 2 then α 7 k else 0) = _
    rw [if_pos h2]
  omega

set_option maxRecDepth 100000 in
set_option maxHeartbeats 4000000 in
theorem kC_laid (G : zk_G) (sw : Bool) (σ : Nat → Int) (α : Nat → Nat → Int) (t : zk_H) (hI : zc_I σ α) {x y : Int} (hx : zk_rg x) (hy : zk_rg y) : zk_K G mC_laid (3, 64) 0 0 [.inr (some 1), .inl x, .inl y] (zk_mk G sw σ α t) (fun v h' => h' = (zk_mk G sw σ α t) ∧ (((¬ ((0 ≤ x ∧ x < σ 10) ∧ α 5 x.toNat = 2 ∧ (0 ≤ y ∧ y < α 7 x.toNat))) ∧ v = some (.inl (-2))) ∨ (((0 ≤ x ∧ x < σ 10) ∧ α 5 x.toNat = 2 ∧ (0 ≤ y ∧ y < α 7 x.toNat)) ∧ v = some (.inl (α 4 (α 8 x.toNat + y).toNat))))) := by
  have hn0 := hI.1 0 (by decide)
  have hn1 := hI.1 1 (by decide)
  have hn2 := hI.1 2 (by decide)
  have hn3 := hI.1 3 (by decide)
  have hn4 := hI.1 4 (by decide)
  have eN0 : (zr_N 0 : Int) = 40 := rfl
  have eN1 : (zr_N 1 : Int) = 40 := rfl
  have eN2 : (zr_N 2 : Int) = 80 := rfl
  have eN3 : (zr_N 3 : Int) = 4102 := rfl
  have eN4 : (zr_N 4 : Int) = 4000 := rfl
  have hv0 := hI.2.1 0 (by decide)
  have hv1 := hI.2.1 1 (by decide)
  have hv2 := hI.2.1 2 (by decide)
  have hv3 := hI.2.1 3 (by decide)
  have hv4 := hI.2.1 4 (by decide)
  have hc := hI.2.2.1
  have hs10 := hI.2.2.2.1
  have hs11 := hI.2.2.2.2.1
  have ha := hI.2.2.2.2.2.1
  refine zk_K.of (ls := [some (.inr (some 1)), some (.inl x), some (.inl y)]) (by decide +kernel) (Nat.le_of_ble_eq_true rfl) rfl ?_
  refine zk_aload_n dC_laid_0 rfl ?_
  refine zk_get zfC_37 dC_laid_1 (v := .inr (some 11)) rfl (by decide) rfl ?_
  refine zk_iload_n dC_laid_4 rfl ?_
  refine zk_callV (av := [.inl x]) (st := []) (d' := (0, 0)) (kc' := 0) (ks' := 0) zbC_132 dC_laid_5 rfl (by decide) rfl rfl (Nat.le_of_ble_eq_true rfl) ⟨by decide, by decide⟩ rfl rfl (kA_has G sw σ α t ⟨by omega, by omega⟩ hx) (fun v9 h9 q9 => ?_)
  rcases q9 with ⟨rfl, ⟨hh5, rfl⟩ | ⟨hh5, rfl⟩⟩
  · skip
    refine zk_W.to (ls' := [some (.inr (some 1)), some (.inl x), some (.inl y)]) (st' := [.inl 1]) (h' := (zk_mk G sw σ α t)) rfl rfl rfl ?_
    refine zk_if_eq (tgt := 39) dC_laid_8 (by decide) ⟨by decide, by decide⟩ (fun h8 => ?_) (fun h8 => ?_)
    · skip
      exact absurd h8 (by decide)
    · skip
      refine zk_aload_n dC_laid_11 rfl ?_
      refine zk_get zfC_37 dC_laid_12 (v := .inr (some 11)) rfl (by decide) rfl ?_
      refine zk_iload_n dC_laid_15 rfl ?_
      refine zk_callV (av := [.inl x]) (st := []) (d' := (1, 21)) (kc' := 0) (ks' := 0) zbC_133 dC_laid_16 rfl (by decide) rfl rfl (Nat.le_of_ble_eq_true rfl) ⟨by decide, by decide⟩ rfl rfl (kA_kind G sw σ α t hs10 hx) (fun v9 h9 q9 => ?_)
      rcases q9 with ⟨rfl, ⟨hka16, rfl⟩ | ⟨hka16, rfl⟩⟩
      · skip
        refine zk_W.to (ls' := [some (.inr (some 1)), some (.inl x), some (.inl y)]) (st' := [.inl (α 5 x.toNat)]) (h' := (zk_mk G sw σ α t)) rfl rfl rfl ?_
        refine zk_iconst dC_laid_19 ?_
        refine zk_icmp_ne (tgt := 39) dC_laid_20 (by decide) (ha _ _ (by decide)) ⟨by decide, by decide⟩ (fun h20 => ?_) (fun h20 => ?_)
        · skip
          refine zk_bipush dC_laid_39 (by decide) ?_
          exact zk_iret dC_laid_41 rfl ⟨rfl, Or.inl ⟨by omega, rfl⟩⟩
        · skip
          refine zk_iload_n dC_laid_23 rfl ?_
          refine zk_if_lt (tgt := 39) dC_laid_24 (by decide) hy (fun h24 => ?_) (fun h24 => ?_)
          · skip
            refine zk_bipush dC_laid_39 (by decide) ?_
            exact zk_iret dC_laid_41 rfl ⟨rfl, Or.inl ⟨by omega, rfl⟩⟩
          · skip
            refine zk_iload_n dC_laid_27 rfl ?_
            refine zk_aload_n dC_laid_28 rfl ?_
            refine zk_get zfC_37 dC_laid_29 (v := .inr (some 11)) rfl (by decide) rfl ?_
            refine zk_iload_n dC_laid_32 rfl ?_
            refine zk_callV (av := [.inl x]) (st := [.inl y]) (d' := (1, 21)) (kc' := 0) (ks' := 0) zbC_136 dC_laid_33 rfl (by decide) rfl rfl (Nat.le_of_ble_eq_true rfl) ⟨by decide, by decide⟩ rfl rfl (kA_count G sw σ α t hs10 hx) (fun v9 h9 q9 => ?_)
            rcases q9 with ⟨rfl, ⟨hka33, rfl⟩ | ⟨hka33, rfl⟩⟩
            · skip
              refine zk_W.to (ls' := [some (.inr (some 1)), some (.inl x), some (.inl y)]) (st' := [.inl (α 7 x.toNat), .inl y]) (h' := (zk_mk G sw σ α t)) rfl rfl rfl ?_
              refine zk_icmp_lt (tgt := 42) dC_laid_36 (by decide) hy (ha _ _ (by decide)) (fun h36 => ?_) (fun h36 => ?_)
              · skip
                refine zk_aload_n dC_laid_42 rfl ?_
                refine zk_get zfC_37 dC_laid_43 (v := .inr (some 11)) rfl (by decide) rfl ?_
                refine zk_iload_n dC_laid_46 rfl ?_
                refine zk_iload_n dC_laid_47 rfl ?_
                refine zk_callV (av := [.inl x, .inl y]) (st := []) (d' := (2, 42)) (kc' := 0) (ks' := 0) zbC_145 dC_laid_48 rfl (by decide) rfl rfl (Nat.le_of_ble_eq_true rfl) ⟨by decide, by decide⟩ rfl rfl (kA_laidByte G sw σ α t hs10 hn4 (k := x) (by omega) (i := y) (zc_lay hI (k := (x).toNat) (by omega) h20 (by omega))) (fun v9 h9 q9 => ?_)
                obtain ⟨rfl, rfl⟩ := q9
                refine zk_W.to (ls' := [some (.inr (some 1)), some (.inl x), some (.inl y)]) (st' := [.inl (α 4 (α 8 x.toNat + y).toNat)]) (h' := (zk_mk G sw σ α t)) rfl rfl rfl ?_
                exact zk_iret dC_laid_51 rfl ⟨rfl, Or.inr ⟨by omega, rfl⟩⟩
              · skip
                refine zk_bipush dC_laid_39 (by decide) ?_
                exact zk_iret dC_laid_41 rfl ⟨rfl, Or.inl ⟨by omega, rfl⟩⟩
            · skip
              exfalso; omega
      · skip
        exfalso; omega
  · skip
    refine zk_W.to (ls' := [some (.inr (some 1)), some (.inl x), some (.inl y)]) (st' := [.inl 0]) (h' := (zk_mk G sw σ α t)) rfl rfl rfl ?_
    refine zk_if_eq (tgt := 39) dC_laid_8 (by decide) ⟨by decide, by decide⟩ (fun h8 => ?_) (fun h8 => ?_)
    · skip
      refine zk_bipush dC_laid_39 (by decide) ?_
      exact zk_iret dC_laid_41 rfl ⟨rfl, Or.inl ⟨by omega, rfl⟩⟩
    · skip
      exact absurd h8 (by decide)

set_option maxRecDepth 100000 in
set_option maxHeartbeats 4000000 in
theorem kC_add (G : zk_G) (sw : Bool) (σ : Nat → Int) (α : Nat → Nat → Int) (t : zk_H) (hI : zc_I σ α) {x y z : Int} (hx : zk_rg x) (hy : zk_rg y) (hz : zk_rg z) : zk_K G mC_add (2, 43) 0 0 [.inr (some 1), .inl x, .inl y, .inl z] (zk_mk G sw σ α t) (fun v h' => ((¬ ((x = 0 ∨ x = 1) ∧ (0 ≤ y ∧ y ≤ 79) ∧ (1 ≤ z ∧ z ≤ 40))) ∧ h' = (zk_mk G sw σ α t) ∧ v = some (.inl (-2))) ∨ (((x = 0 ∨ x = 1) ∧ (0 ≤ y ∧ y ≤ 79) ∧ (1 ≤ z ∧ z ≤ 40)) ∧ 100 ≤ σ 10 ∧ h' = (zk_mk G sw σ α t) ∧ v = some (.inl (-3))) ∨ (((x = 0 ∨ x = 1) ∧ (0 ≤ y ∧ y ≤ 79) ∧ (1 ≤ z ∧ z ≤ 40)) ∧ σ 10 < 100 ∧ h' = zk_mk G sw (zk_up σ 10 (σ 10 + 1)) (zk_ua (zk_ua (zk_ua (zk_ua α 5 (zk_up (α 5) (σ 10).toNat x)) 6 (zk_up (α 6) (σ 10).toNat y)) 7 (zk_up (α 7) (σ 10).toNat z)) 8 (zk_up (α 8) (σ 10).toNat (σ 4))) t ∧ v = some (.inl (σ 10 + 1)))) := by
  have hn0 := hI.1 0 (by decide)
  have hn1 := hI.1 1 (by decide)
  have hn2 := hI.1 2 (by decide)
  have hn3 := hI.1 3 (by decide)
  have hn4 := hI.1 4 (by decide)
  have eN0 : (zr_N 0 : Int) = 40 := rfl
  have eN1 : (zr_N 1 : Int) = 40 := rfl
  have eN2 : (zr_N 2 : Int) = 80 := rfl
  have eN3 : (zr_N 3 : Int) = 4102 := rfl
  have eN4 : (zr_N 4 : Int) = 4000 := rfl
  have hv0 := hI.2.1 0 (by decide)
  have hv1 := hI.2.1 1 (by decide)
  have hv2 := hI.2.1 2 (by decide)
  have hv3 := hI.2.1 3 (by decide)
  have hv4 := hI.2.1 4 (by decide)
  have hc := hI.2.2.1
  have hs10 := hI.2.2.2.1
  have hs11 := hI.2.2.2.2.1
  have ha := hI.2.2.2.2.2.1
  refine zk_K.of (ls := [some (.inr (some 1)), some (.inl x), some (.inl y), some (.inl z)]) (by decide +kernel) (Nat.le_of_ble_eq_true rfl) rfl ?_
  refine zk_iload_n dC_add_0 rfl ?_
  refine zk_if_eq (tgt := 12) dC_add_1 (by decide) hx (fun h1 => ?_) (fun h1 => ?_)
  · skip
    refine zk_iload_n dC_add_12 rfl ?_
    refine zk_if_lt (tgt := 33) dC_add_13 (by decide) hy (fun h13 => ?_) (fun h13 => ?_)
    · skip
      refine zk_bipush dC_add_33 (by decide) ?_
      exact zk_iret dC_add_35 rfl (Or.inl ⟨by omega, rfl, rfl⟩)
    · skip
      refine zk_iload_n dC_add_16 rfl ?_
      refine zk_bipush dC_add_17 (by decide) ?_
      refine zk_icmp_gt (tgt := 33) dC_add_19 (by decide) hy ⟨by decide, by decide⟩ (fun h19 => ?_) (fun h19 => ?_)
      · skip
        refine zk_bipush dC_add_33 (by decide) ?_
        exact zk_iret dC_add_35 rfl (Or.inl ⟨by omega, rfl, rfl⟩)
      · skip
        refine zk_iload_n dC_add_22 rfl ?_
        refine zk_iconst dC_add_23 ?_
        refine zk_icmp_lt (tgt := 33) dC_add_24 (by decide) hz ⟨by decide, by decide⟩ (fun h24 => ?_) (fun h24 => ?_)
        · skip
          refine zk_bipush dC_add_33 (by decide) ?_
          exact zk_iret dC_add_35 rfl (Or.inl ⟨by omega, rfl, rfl⟩)
        · skip
          refine zk_iload_n dC_add_27 rfl ?_
          refine zk_bipush dC_add_28 (by decide) ?_
          refine zk_icmp_le (tgt := 36) dC_add_30 (by decide) hz ⟨by decide, by decide⟩ (fun h30 => ?_) (fun h30 => ?_)
          · skip
            refine zk_aload_n dC_add_36 rfl ?_
            refine zk_get zfC_37 dC_add_37 (v := .inr (some 11)) rfl (by decide) rfl ?_
            refine zk_callV (av := []) (st := []) (d' := (0, 0)) (kc' := 0) (ks' := 0) zbC_148 dC_add_40 rfl (by decide) rfl rfl (Nat.le_of_ble_eq_true rfl) ⟨by decide, by decide⟩ rfl rfl (kA_isFull G sw σ α t ⟨by omega, by omega⟩) (fun v9 h9 q9 => ?_)
            rcases q9 with ⟨rfl, ⟨hc40, rfl⟩ | ⟨hc40, rfl⟩⟩
            · skip
              refine zk_W.to (ls' := [some (.inr (some 1)), some (.inl x), some (.inl y), some (.inl z)]) (st' := [.inl 1]) (h' := (zk_mk G sw σ α t)) rfl rfl rfl ?_
              refine zk_if_eq (tgt := 49) dC_add_43 (by decide) ⟨by decide, by decide⟩ (fun h43 => ?_) (fun h43 => ?_)
              · skip
                exact absurd h43 (by decide)
              · skip
                refine zk_bipush dC_add_46 (by decide) ?_
                exact zk_iret dC_add_48 rfl (Or.inr (Or.inl ⟨by omega, by omega, rfl, rfl⟩))
            · skip
              refine zk_W.to (ls' := [some (.inr (some 1)), some (.inl x), some (.inl y), some (.inl z)]) (st' := [.inl 0]) (h' := (zk_mk G sw σ α t)) rfl rfl rfl ?_
              refine zk_if_eq (tgt := 49) dC_add_43 (by decide) ⟨by decide, by decide⟩ (fun h43 => ?_) (fun h43 => ?_)
              · skip
                refine zk_aload_n dC_add_49 rfl ?_
                refine zk_get zfC_37 dC_add_50 (v := .inr (some 11)) rfl (by decide) rfl ?_
                refine zk_iload_n dC_add_53 rfl ?_
                refine zk_iload_n dC_add_54 rfl ?_
                refine zk_iload_n dC_add_55 rfl ?_
                refine zk_callV (av := [.inl x, .inl y, .inl z]) (st := []) (d' := (1, 20)) (kc' := 0) (ks' := 0) zbC_149 dC_add_56 rfl (by decide) rfl rfl (Nat.le_of_ble_eq_true rfl) ⟨by decide, by decide⟩ rfl rfl (kA_append G sw σ α t hs10 (by omega)) (fun v9 h9 q9 => ?_)
                obtain ⟨rfl, rfl⟩ := q9
                refine zk_W.to (ls' := [some (.inr (some 1)), some (.inl x), some (.inl y), some (.inl z)]) (st' := []) (h' := (zk_mk G sw (zk_up σ 10 (σ 10 + 1)) (zk_ua (zk_ua (zk_ua (zk_ua α 5 (zk_up (α 5) (σ 10).toNat x)) 6 (zk_up (α 6) (σ 10).toNat y)) 7 (zk_up (α 7) (σ 10).toNat z)) 8 (zk_up (α 8) (σ 10).toNat (σ 4))) t)) rfl rfl rfl ?_
                refine zk_aload_n dC_add_59 rfl ?_
                refine zk_get zfC_37 dC_add_60 (v := .inr (some 11)) rfl (by decide) rfl ?_
                refine zk_callV (av := []) (st := []) (d' := (0, 0)) (kc' := 0) (ks' := 0) zbC_113 dC_add_63 rfl (by decide) rfl rfl (Nat.le_of_ble_eq_true rfl) ⟨by decide, by decide⟩ rfl rfl (kA_length G sw (zk_up σ 10 (σ 10 + 1)) (zk_ua (zk_ua (zk_ua (zk_ua α 5 (zk_up (α 5) (σ 10).toNat x)) 6 (zk_up (α 6) (σ 10).toNat y)) 7 (zk_up (α 7) (σ 10).toNat z)) 8 (zk_up (α 8) (σ 10).toNat (σ 4))) t) (fun v9 h9 q9 => ?_)
                obtain ⟨rfl, rfl⟩ := q9
                refine zk_W.to (ls' := [some (.inr (some 1)), some (.inl x), some (.inl y), some (.inl z)]) (st' := [.inl (σ 10 + 1)]) (h' := (zk_mk G sw (zk_up σ 10 (σ 10 + 1)) (zk_ua (zk_ua (zk_ua (zk_ua α 5 (zk_up (α 5) (σ 10).toNat x)) 6 (zk_up (α 6) (σ 10).toNat y)) 7 (zk_up (α 7) (σ 10).toNat z)) 8 (zk_up (α 8) (σ 10).toNat (σ 4))) t)) rfl rfl rfl ?_
                exact zk_iret dC_add_66 rfl (Or.inr (Or.inr ⟨by omega, by omega, rfl, rfl⟩))
              · skip
                exact absurd h43 (by decide)
          · skip
            refine zk_bipush dC_add_33 (by decide) ?_
            exact zk_iret dC_add_35 rfl (Or.inl ⟨by omega, rfl, rfl⟩)
  · skip
    refine zk_iload_n dC_add_4 rfl ?_
    refine zk_iconst dC_add_5 ?_
    refine zk_icmp_eq (tgt := 12) dC_add_6 (by decide) hx ⟨by decide, by decide⟩ (fun h6 => ?_) (fun h6 => ?_)
    · skip
      refine zk_iload_n dC_add_12 rfl ?_
      refine zk_if_lt (tgt := 33) dC_add_13 (by decide) hy (fun h13 => ?_) (fun h13 => ?_)
      · skip
        refine zk_bipush dC_add_33 (by decide) ?_
        exact zk_iret dC_add_35 rfl (Or.inl ⟨by omega, rfl, rfl⟩)
      · skip
        refine zk_iload_n dC_add_16 rfl ?_
        refine zk_bipush dC_add_17 (by decide) ?_
        refine zk_icmp_gt (tgt := 33) dC_add_19 (by decide) hy ⟨by decide, by decide⟩ (fun h19 => ?_) (fun h19 => ?_)
        · skip
          refine zk_bipush dC_add_33 (by decide) ?_
          exact zk_iret dC_add_35 rfl (Or.inl ⟨by omega, rfl, rfl⟩)
        · skip
          refine zk_iload_n dC_add_22 rfl ?_
          refine zk_iconst dC_add_23 ?_
          refine zk_icmp_lt (tgt := 33) dC_add_24 (by decide) hz ⟨by decide, by decide⟩ (fun h24 => ?_) (fun h24 => ?_)
          · skip
            refine zk_bipush dC_add_33 (by decide) ?_
            exact zk_iret dC_add_35 rfl (Or.inl ⟨by omega, rfl, rfl⟩)
          · skip
            refine zk_iload_n dC_add_27 rfl ?_
            refine zk_bipush dC_add_28 (by decide) ?_
            refine zk_icmp_le (tgt := 36) dC_add_30 (by decide) hz ⟨by decide, by decide⟩ (fun h30 => ?_) (fun h30 => ?_)
            · skip
              refine zk_aload_n dC_add_36 rfl ?_
              refine zk_get zfC_37 dC_add_37 (v := .inr (some 11)) rfl (by decide) rfl ?_
              refine zk_callV (av := []) (st := []) (d' := (0, 0)) (kc' := 0) (ks' := 0) zbC_148 dC_add_40 rfl (by decide) rfl rfl (Nat.le_of_ble_eq_true rfl) ⟨by decide, by decide⟩ rfl rfl (kA_isFull G sw σ α t ⟨by omega, by omega⟩) (fun v9 h9 q9 => ?_)
              rcases q9 with ⟨rfl, ⟨hc40, rfl⟩ | ⟨hc40, rfl⟩⟩
              · skip
                refine zk_W.to (ls' := [some (.inr (some 1)), some (.inl x), some (.inl y), some (.inl z)]) (st' := [.inl 1]) (h' := (zk_mk G sw σ α t)) rfl rfl rfl ?_
                refine zk_if_eq (tgt := 49) dC_add_43 (by decide) ⟨by decide, by decide⟩ (fun h43 => ?_) (fun h43 => ?_)
                · skip
                  exact absurd h43 (by decide)
                · skip
                  refine zk_bipush dC_add_46 (by decide) ?_
                  exact zk_iret dC_add_48 rfl (Or.inr (Or.inl ⟨by omega, by omega, rfl, rfl⟩))
              · skip
                refine zk_W.to (ls' := [some (.inr (some 1)), some (.inl x), some (.inl y), some (.inl z)]) (st' := [.inl 0]) (h' := (zk_mk G sw σ α t)) rfl rfl rfl ?_
                refine zk_if_eq (tgt := 49) dC_add_43 (by decide) ⟨by decide, by decide⟩ (fun h43 => ?_) (fun h43 => ?_)
                · skip
                  refine zk_aload_n dC_add_49 rfl ?_
                  refine zk_get zfC_37 dC_add_50 (v := .inr (some 11)) rfl (by decide) rfl ?_
                  refine zk_iload_n dC_add_53 rfl ?_
                  refine zk_iload_n dC_add_54 rfl ?_
                  refine zk_iload_n dC_add_55 rfl ?_
                  refine zk_callV (av := [.inl x, .inl y, .inl z]) (st := []) (d' := (1, 20)) (kc' := 0) (ks' := 0) zbC_149 dC_add_56 rfl (by decide) rfl rfl (Nat.le_of_ble_eq_true rfl) ⟨by decide, by decide⟩ rfl rfl (kA_append G sw σ α t hs10 (by omega)) (fun v9 h9 q9 => ?_)
                  obtain ⟨rfl, rfl⟩ := q9
                  refine zk_W.to (ls' := [some (.inr (some 1)), some (.inl x), some (.inl y), some (.inl z)]) (st' := []) (h' := (zk_mk G sw (zk_up σ 10 (σ 10 + 1)) (zk_ua (zk_ua (zk_ua (zk_ua α 5 (zk_up (α 5) (σ 10).toNat x)) 6 (zk_up (α 6) (σ 10).toNat y)) 7 (zk_up (α 7) (σ 10).toNat z)) 8 (zk_up (α 8) (σ 10).toNat (σ 4))) t)) rfl rfl rfl ?_
                  refine zk_aload_n dC_add_59 rfl ?_
                  refine zk_get zfC_37 dC_add_60 (v := .inr (some 11)) rfl (by decide) rfl ?_
                  refine zk_callV (av := []) (st := []) (d' := (0, 0)) (kc' := 0) (ks' := 0) zbC_113 dC_add_63 rfl (by decide) rfl rfl (Nat.le_of_ble_eq_true rfl) ⟨by decide, by decide⟩ rfl rfl (kA_length G sw (zk_up σ 10 (σ 10 + 1)) (zk_ua (zk_ua (zk_ua (zk_ua α 5 (zk_up (α 5) (σ 10).toNat x)) 6 (zk_up (α 6) (σ 10).toNat y)) 7 (zk_up (α 7) (σ 10).toNat z)) 8 (zk_up (α 8) (σ 10).toNat (σ 4))) t) (fun v9 h9 q9 => ?_)
                  obtain ⟨rfl, rfl⟩ := q9
                  refine zk_W.to (ls' := [some (.inr (some 1)), some (.inl x), some (.inl y), some (.inl z)]) (st' := [.inl (σ 10 + 1)]) (h' := (zk_mk G sw (zk_up σ 10 (σ 10 + 1)) (zk_ua (zk_ua (zk_ua (zk_ua α 5 (zk_up (α 5) (σ 10).toNat x)) 6 (zk_up (α 6) (σ 10).toNat y)) 7 (zk_up (α 7) (σ 10).toNat z)) 8 (zk_up (α 8) (σ 10).toNat (σ 4))) t)) rfl rfl rfl ?_
                  exact zk_iret dC_add_66 rfl (Or.inr (Or.inr ⟨by omega, by omega, rfl, rfl⟩))
                · skip
                  exact absurd h43 (by decide)
            · skip
              refine zk_bipush dC_add_33 (by decide) ?_
              exact zk_iret dC_add_35 rfl (Or.inl ⟨by omega, rfl, rfl⟩)
    · skip
      refine zk_bipush dC_add_9 (by decide) ?_
      exact zk_iret dC_add_11 rfl (Or.inl ⟨by omega, rfl, rfl⟩)

theorem zc_4 {σ : Nat → Int} {α : Nat → Nat → Int} (hI : zc_I σ α) : σ 4 ≤ 40 * σ 10 := by
  have hC : ∀ k, k < (σ 10).toNat → 1 ≤ α 7 k ∧ α 7 k ≤ 40 := fun k hk => (hI.2.2.2.2.2.2.1 k hk).2.1
  have l1 := mt_lsum_rg (K := α 5) (C := α 7) (n := (σ 10).toNat) hC
  have e4 := hI.2.2.2.2.2.2.2.1
  have h10 := hI.2.2.2.1
  omega
theorem zc_4l {σ : Nat → Int} {α : Nat → Nat → Int} (hI : zc_I σ α) (ht : zk_tk σ α) : σ 4 < 4000 := by
  have hC : ∀ k, k < (σ 10).toNat → 1 ≤ α 7 k ∧ α 7 k ≤ 40 := fun k hk => (hI.2.2.2.2.2.2.1 k hk).2.1
  have e4 := hI.2.2.2.2.2.2.2.1
  have h10 := hI.2.2.2.1
  obtain ⟨t1, t2, t3⟩ := ht
  have l1 := mt_lsum_rg (K := α 5) (C := α 7) (n := (σ 10).toNat - 1) (fun k hk => hC k (by omega))
  have e : (σ 10).toNat = ((σ 10).toNat - 1) + 1 := by omega
  have e2 : (σ 10 - 1).toNat = (σ 10).toNat - 1 := by omega
  rw [e2] at t2 t3
  have l3 : mt_lsum (α 5) (α 7) (((σ 10).toNat - 1) + 1) = mt_lsum (α 5) (α 7) ((σ 10).toNat - 1) + α 7 ((σ 10).toNat - 1) := by
    show mt_lsum (α 5) (α 7) ((σ 10).toNat - 1) + (if α 5 ((σ 10).toNat - 1) = 2 then α 7 ((σ 10).toNat - 1) else 0) = _
    rw [if_pos t2]
  rw [← e] at l3
  omega

theorem zk_up_rg {f : Nat → Int} {k : Nat} {x : Int} (h : ∀ j, zk_rg (f j)) (hx : zk_rg x) : ∀ j, zk_rg (zk_up f k x j) := by
  intro j
  unfold zk_up
  split
  · exact hx
  · exact h j
theorem zc_open_rg {σ : Nat → Int} {α : Nat → Nat → Int} (ha : ∀ q j, q < 9 → zk_rg (α q j)) (hs10 : 0 ≤ σ 10 ∧ σ 10 ≤ 100) (hn4 : 0 ≤ σ 4 ∧ σ 4 ≤ (zr_N 4 : Int)) : ∀ q j, q < 9 → zk_rg ((zk_ua (zk_ua (zk_ua (zk_ua α 5 (zk_up (α 5) (σ 10).toNat 2)) 6 (zk_up (α 6) (σ 10).toNat (-1))) 7 (zk_up (α 7) (σ 10).toNat 0)) 8 (zk_up (α 8) (σ 10).toNat (σ 4))) q j) := by
  have e4 : (zr_N 4 : Int) = 4000 := rfl
  intro q j hq
  unfold zk_ua
  (repeat' split)
  · exact zk_up_rg (fun j => ha 8 j (by decide)) ⟨by omega, by omega⟩ j
  · exact zk_up_rg (fun j => ha 7 j (by decide)) ⟨by omega, by omega⟩ j
  · exact zk_up_rg (fun j => ha 6 j (by decide)) ⟨by omega, by omega⟩ j
  · exact zk_up_rg (fun j => ha 5 j (by decide)) ⟨by omega, by omega⟩ j
  · exact ha q j hq
theorem zc_open_tk {σ : Nat → Int} {α : Nat → Nat → Int} (hs10 : 0 ≤ σ 10 ∧ σ 10 ≤ 100) : zk_tk (zk_up σ 10 (σ 10 + 1)) (zk_ua (zk_ua (zk_ua (zk_ua α 5 (zk_up (α 5) (σ 10).toNat 2)) 6 (zk_up (α 6) (σ 10).toNat (-1))) 7 (zk_up (α 7) (σ 10).toNat 0)) 8 (zk_up (α 8) (σ 10).toNat (σ 4))) := by
  refine ⟨show 0 < σ 10 + 1 by omega, ?_, ?_⟩
  · show zk_up (α 5) (σ 10).toNat 2 (σ 10 + 1 - 1).toNat = 2
    rw [show σ 10 + 1 - 1 = σ 10 by omega]
    unfold zk_up
    rw [if_pos rfl]
  · show zk_up (α 7) (σ 10).toNat 0 (σ 10 + 1 - 1).toNat < 40
    rw [show σ 10 + 1 - 1 = σ 10 by omega]
    unfold zk_up
    rw [if_pos rfl]
    decide

set_option maxRecDepth 100000 in
set_option maxHeartbeats 4000000 in
theorem kC_lay (G : zk_G) (sw : Bool) (σ : Nat → Int) (α : Nat → Nat → Int) (t : zk_H) (hI : zc_I σ α) {x : Int} (hx : zk_rg x) : zk_K G mC_lay (4, 83) 0 0 [.inr (some 1), .inl x] (zk_mk G sw σ α t) (fun v h' => ((¬ (0 ≤ x ∧ x ≤ 255)) ∧ h' = (zk_mk G sw σ α t) ∧ v = some (.inl (-2))) ∨ ((0 ≤ x ∧ x ≤ 255) ∧ zk_tk σ α ∧ h' = zk_mk G sw (zk_up σ 4 (σ 4 + 1)) (zk_ua (zk_ua α 4 (zk_up (α 4) (σ 4).toNat x)) 7 (zk_up (α 7) (σ 10 - 1).toNat (α 7 (σ 10 - 1).toNat + 1))) t ∧ v = some (.inl (σ 10))) ∨ ((0 ≤ x ∧ x ≤ 255) ∧ (¬ zk_tk σ α) ∧ 100 ≤ σ 10 ∧ h' = (zk_mk G sw σ α t) ∧ v = some (.inl (-3))) ∨ ((0 ≤ x ∧ x ≤ 255) ∧ (¬ zk_tk σ α) ∧ σ 10 < 100 ∧ h' = zk_mk G sw (zk_up (zk_up σ 10 (σ 10 + 1)) 4 (σ 4 + 1)) (zk_ua (zk_ua (zk_ua (zk_ua (zk_ua (zk_ua α 5 (zk_up (α 5) (σ 10).toNat 2)) 6 (zk_up (α 6) (σ 10).toNat (-1))) 7 (zk_up (α 7) (σ 10).toNat 0)) 8 (zk_up (α 8) (σ 10).toNat (σ 4))) 4 (zk_up (α 4) (σ 4).toNat x)) 7 (zk_up (zk_up (α 7) (σ 10).toNat 0) (σ 10 + 1 - 1).toNat (zk_up (α 7) (σ 10).toNat 0 (σ 10 + 1 - 1).toNat + 1))) t ∧ v = some (.inl (σ 10 + 1)))) := by
  have hn0 := hI.1 0 (by decide)
  have hn1 := hI.1 1 (by decide)
  have hn2 := hI.1 2 (by decide)
  have hn3 := hI.1 3 (by decide)
  have hn4 := hI.1 4 (by decide)
  have eN0 : (zr_N 0 : Int) = 40 := rfl
  have eN1 : (zr_N 1 : Int) = 40 := rfl
  have eN2 : (zr_N 2 : Int) = 80 := rfl
  have eN3 : (zr_N 3 : Int) = 4102 := rfl
  have eN4 : (zr_N 4 : Int) = 4000 := rfl
  have hv0 := hI.2.1 0 (by decide)
  have hv1 := hI.2.1 1 (by decide)
  have hv2 := hI.2.1 2 (by decide)
  have hv3 := hI.2.1 3 (by decide)
  have hv4 := hI.2.1 4 (by decide)
  have hc := hI.2.2.1
  have hs10 := hI.2.2.2.1
  have hs11 := hI.2.2.2.2.1
  have ha := hI.2.2.2.2.2.1
  have h44 := zc_4 hI
  refine zk_K.of (ls := [some (.inr (some 1)), some (.inl x)]) (by decide +kernel) (Nat.le_of_ble_eq_true rfl) rfl ?_
  refine zk_iload_n dC_lay_0 rfl ?_
  refine zk_callS (av := [.inl x]) (st := []) (d' := (0, 0)) (kc' := 0) (ks' := 0) zbC_70 dC_lay_1 rfl rfl (Nat.le_of_ble_eq_true rfl) ⟨by decide, by decide⟩ rfl rfl (kC_isByte G sw σ α t hx) (fun v9 h9 q9 => ?_)
  rcases q9 with ⟨rfl, ⟨hc1, rfl⟩ | ⟨hc1, rfl⟩⟩
  · skip
    refine zk_W.to (ls' := [some (.inr (some 1)), some (.inl x)]) (st' := [.inl 1]) (h' := (zk_mk G sw σ α t)) rfl rfl rfl ?_
    refine zk_if_ne (tgt := 10) dC_lay_4 (by decide) ⟨by decide, by decide⟩ (fun h4 => ?_) (fun h4 => ?_)
    · skip
      refine zk_aload_n dC_lay_10 rfl ?_
      refine zk_get zfC_37 dC_lay_11 (v := .inr (some 11)) rfl (by decide) rfl ?_
      refine zk_callV (av := []) (st := []) (d' := (2, 42)) (kc' := 0) (ks' := 0) zbC_152 dC_lay_14 rfl (by decide) rfl rfl (Nat.le_of_ble_eq_true rfl) ⟨by decide, by decide⟩ rfl rfl (kA_takesByte G sw σ α t hs10 ha) (fun v9 h9 q9 => ?_)
      rcases q9 with ⟨rfl, ⟨hc14, rfl⟩ | ⟨hc14, rfl⟩⟩
      · skip
        refine zk_W.to (ls' := [some (.inr (some 1)), some (.inl x)]) (st' := [.inl 1]) (h' := (zk_mk G sw σ α t)) rfl rfl rfl ?_
        refine zk_if_ne (tgt := 40) dC_lay_17 (by decide) ⟨by decide, by decide⟩ (fun h17 => ?_) (fun h17 => ?_)
        · skip
          refine zk_aload_n dC_lay_40 rfl ?_
          refine zk_get zfC_37 dC_lay_41 (v := .inr (some 11)) rfl (by decide) rfl ?_
          refine zk_iload_n dC_lay_44 rfl ?_
          refine zk_callV (av := [.inl x]) (st := []) (d' := (3, 62)) (kc' := 0) (ks' := 0) zbC_158 dC_lay_45 rfl (by decide) rfl rfl (Nat.le_of_ble_eq_true rfl) ⟨by decide, by decide⟩ rfl rfl (kA_layByte G sw σ α t hs10 ha hn4 hc14 (zc_4l hI hc14)) (fun v9 h9 q9 => ?_)
          obtain ⟨rfl, rfl⟩ := q9
          refine zk_W.to (ls' := [some (.inr (some 1)), some (.inl x)]) (st' := []) (h' := (zk_mk G sw (zk_up σ 4 (σ 4 + 1)) (zk_ua (zk_ua α 4 (zk_up (α 4) (σ 4).toNat x)) 7 (zk_up (α 7) (σ 10 - 1).toNat ((α 7) (σ 10 - 1).toNat + 1))) t)) rfl rfl rfl ?_
          refine zk_aload_n dC_lay_48 rfl ?_
          refine zk_get zfC_37 dC_lay_49 (v := .inr (some 11)) rfl (by decide) rfl ?_
          refine zk_callV (av := []) (st := []) (d' := (0, 0)) (kc' := 0) (ks' := 0) zbC_113 dC_lay_52 rfl (by decide) rfl rfl (Nat.le_of_ble_eq_true rfl) ⟨by decide, by decide⟩ rfl rfl (kA_length G sw (zk_up σ 4 (σ 4 + 1)) (zk_ua (zk_ua α 4 (zk_up (α 4) (σ 4).toNat x)) 7 (zk_up (α 7) (σ 10 - 1).toNat ((α 7) (σ 10 - 1).toNat + 1))) t) (fun v9 h9 q9 => ?_)
          obtain ⟨rfl, rfl⟩ := q9
          refine zk_W.to (ls' := [some (.inr (some 1)), some (.inl x)]) (st' := [.inl (σ 10)]) (h' := (zk_mk G sw (zk_up σ 4 (σ 4 + 1)) (zk_ua (zk_ua α 4 (zk_up (α 4) (σ 4).toNat x)) 7 (zk_up (α 7) (σ 10 - 1).toNat ((α 7) (σ 10 - 1).toNat + 1))) t)) rfl rfl rfl ?_
          exact zk_iret dC_lay_55 rfl (Or.inr (Or.inl ⟨by omega, hc14, rfl, rfl⟩))
        · skip
          exact absurd h17 (by decide)
      · skip
        refine zk_W.to (ls' := [some (.inr (some 1)), some (.inl x)]) (st' := [.inl 0]) (h' := (zk_mk G sw σ α t)) rfl rfl rfl ?_
        refine zk_if_ne (tgt := 40) dC_lay_17 (by decide) ⟨by decide, by decide⟩ (fun h17 => ?_) (fun h17 => ?_)
        · skip
          exact absurd h17 (by decide)
        · skip
          refine zk_aload_n dC_lay_20 rfl ?_
          refine zk_get zfC_37 dC_lay_21 (v := .inr (some 11)) rfl (by decide) rfl ?_
          refine zk_callV (av := []) (st := []) (d' := (0, 0)) (kc' := 0) (ks' := 0) zbC_148 dC_lay_24 rfl (by decide) rfl rfl (Nat.le_of_ble_eq_true rfl) ⟨by decide, by decide⟩ rfl rfl (kA_isFull G sw σ α t ⟨by omega, by omega⟩) (fun v9 h9 q9 => ?_)
          rcases q9 with ⟨rfl, ⟨hc24, rfl⟩ | ⟨hc24, rfl⟩⟩
          · skip
            refine zk_W.to (ls' := [some (.inr (some 1)), some (.inl x)]) (st' := [.inl 1]) (h' := (zk_mk G sw σ α t)) rfl rfl rfl ?_
            refine zk_if_eq (tgt := 33) dC_lay_27 (by decide) ⟨by decide, by decide⟩ (fun h27 => ?_) (fun h27 => ?_)
            · skip
              exact absurd h27 (by decide)
            · skip
              refine zk_bipush dC_lay_30 (by decide) ?_
              exact zk_iret dC_lay_32 rfl (Or.inr (Or.inr (Or.inl ⟨by omega, hc14, by omega, rfl, rfl⟩)))
          · skip
            refine zk_W.to (ls' := [some (.inr (some 1)), some (.inl x)]) (st' := [.inl 0]) (h' := (zk_mk G sw σ α t)) rfl rfl rfl ?_
            refine zk_if_eq (tgt := 33) dC_lay_27 (by decide) ⟨by decide, by decide⟩ (fun h27 => ?_) (fun h27 => ?_)
            · skip
              refine zk_aload_n dC_lay_33 rfl ?_
              refine zk_get zfC_37 dC_lay_34 (v := .inr (some 11)) rfl (by decide) rfl ?_
              refine zk_callV (av := []) (st := []) (d' := (2, 43)) (kc' := 0) (ks' := 0) zbC_155 dC_lay_37 rfl (by decide) rfl rfl (Nat.le_of_ble_eq_true rfl) ⟨by decide, by decide⟩ rfl rfl (kA_openLay G sw σ α t hs10 (by omega)) (fun v9 h9 q9 => ?_)
              obtain ⟨rfl, rfl⟩ := q9
              refine zk_W.to (ls' := [some (.inr (some 1)), some (.inl x)]) (st' := []) (h' := (zk_mk G sw (zk_up σ 10 (σ 10 + 1)) (zk_ua (zk_ua (zk_ua (zk_ua α 5 (zk_up (α 5) (σ 10).toNat 2)) 6 (zk_up (α 6) (σ 10).toNat (-1))) 7 (zk_up (α 7) (σ 10).toNat 0)) 8 (zk_up (α 8) (σ 10).toNat (σ 4))) t)) rfl rfl rfl ?_
              refine zk_aload_n dC_lay_40 rfl ?_
              refine zk_get zfC_37 dC_lay_41 (v := .inr (some 11)) rfl (by decide) rfl ?_
              refine zk_iload_n dC_lay_44 rfl ?_
              refine zk_callV (av := [.inl x]) (st := []) (d' := (3, 62)) (kc' := 0) (ks' := 0) zbC_158 dC_lay_45 rfl (by decide) rfl rfl (Nat.le_of_ble_eq_true rfl) ⟨by decide, by decide⟩ rfl rfl (kA_layByte G sw (zk_up σ 10 (σ 10 + 1)) (zk_ua (zk_ua (zk_ua (zk_ua α 5 (zk_up (α 5) (σ 10).toNat 2)) 6 (zk_up (α 6) (σ 10).toNat (-1))) 7 (zk_up (α 7) (σ 10).toNat 0)) 8 (zk_up (α 8) (σ 10).toNat (σ 4))) t (show 0 ≤ σ 10 + 1 ∧ σ 10 + 1 ≤ 100 by omega) (fun q j hq => zc_open_rg ha hs10 hn4 q j hq) hn4 (zc_open_tk hs10) (show σ 4 < 4000 by omega)) (fun v9 h9 q9 => ?_)
              obtain ⟨rfl, rfl⟩ := q9
              refine zk_W.to (ls' := [some (.inr (some 1)), some (.inl x)]) (st' := []) (h' := (zk_mk G sw (zk_up (zk_up σ 10 (σ 10 + 1)) 4 (σ 4 + 1)) (zk_ua (zk_ua (zk_ua (zk_ua (zk_ua (zk_ua α 5 (zk_up (α 5) (σ 10).toNat 2)) 6 (zk_up (α 6) (σ 10).toNat (-1))) 7 (zk_up (α 7) (σ 10).toNat 0)) 8 (zk_up (α 8) (σ 10).toNat (σ 4))) 4 (zk_up (α 4) (σ 4).toNat x)) 7 (zk_up (zk_up (α 7) (σ 10).toNat 0) (σ 10 + 1 - 1).toNat ((zk_up (α 7) (σ 10).toNat 0) (σ 10 + 1 - 1).toNat + 1))) t)) rfl rfl rfl ?_
              refine zk_aload_n dC_lay_48 rfl ?_
              refine zk_get zfC_37 dC_lay_49 (v := .inr (some 11)) rfl (by decide) rfl ?_
              refine zk_callV (av := []) (st := []) (d' := (0, 0)) (kc' := 0) (ks' := 0) zbC_113 dC_lay_52 rfl (by decide) rfl rfl (Nat.le_of_ble_eq_true rfl) ⟨by decide, by decide⟩ rfl rfl (kA_length G sw (zk_up (zk_up σ 10 (σ 10 + 1)) 4 (σ 4 + 1)) (zk_ua (zk_ua (zk_ua (zk_ua (zk_ua (zk_ua α 5 (zk_up (α 5) (σ 10).toNat 2)) 6 (zk_up (α 6) (σ 10).toNat (-1))) 7 (zk_up (α 7) (σ 10).toNat 0)) 8 (zk_up (α 8) (σ 10).toNat (σ 4))) 4 (zk_up (α 4) (σ 4).toNat x)) 7 (zk_up (zk_up (α 7) (σ 10).toNat 0) (σ 10 + 1 - 1).toNat ((zk_up (α 7) (σ 10).toNat 0) (σ 10 + 1 - 1).toNat + 1))) t) (fun v9 h9 q9 => ?_)
              obtain ⟨rfl, rfl⟩ := q9
              refine zk_W.to (ls' := [some (.inr (some 1)), some (.inl x)]) (st' := [.inl (σ 10 + 1)]) (h' := (zk_mk G sw (zk_up (zk_up σ 10 (σ 10 + 1)) 4 (σ 4 + 1)) (zk_ua (zk_ua (zk_ua (zk_ua (zk_ua (zk_ua α 5 (zk_up (α 5) (σ 10).toNat 2)) 6 (zk_up (α 6) (σ 10).toNat (-1))) 7 (zk_up (α 7) (σ 10).toNat 0)) 8 (zk_up (α 8) (σ 10).toNat (σ 4))) 4 (zk_up (α 4) (σ 4).toNat x)) 7 (zk_up (zk_up (α 7) (σ 10).toNat 0) (σ 10 + 1 - 1).toNat ((zk_up (α 7) (σ 10).toNat 0) (σ 10 + 1 - 1).toNat + 1))) t)) rfl rfl rfl ?_
              exact zk_iret dC_lay_55 rfl (Or.inr (Or.inr (Or.inr ⟨by omega, hc14, by omega, rfl, rfl⟩)))
            · skip
              exact absurd h27 (by decide)
    · skip
      exact absurd h4 (by decide)
  · skip
    refine zk_W.to (ls' := [some (.inr (some 1)), some (.inl x)]) (st' := [.inl 0]) (h' := (zk_mk G sw σ α t)) rfl rfl rfl ?_
    refine zk_if_ne (tgt := 10) dC_lay_4 (by decide) ⟨by decide, by decide⟩ (fun h4 => ?_) (fun h4 => ?_)
    · skip
      exact absurd h4 (by decide)
    · skip
      refine zk_bipush dC_lay_7 (by decide) ?_
      exact zk_iret dC_lay_9 rfl (Or.inl ⟨by omega, rfl, rfl⟩)
