set_option maxRecDepth 100000 in
set_option maxHeartbeats 4000000 in
theorem kS_foundKind (G : zk_G) (sw : Bool) (σ : Nat → Int) (α : Nat → Nat → Int) (t : zk_H) : zk_K G mS_foundKind (0, 0) 0 0 [.inr (some 18)] (zk_mk G sw σ α t) (fun v h' => h' = (zk_mk G sw σ α t) ∧ v = some (.inl (σ 15))) := by
  refine zk_K.of (ls := [some (.inr (some 18))]) (by decide +kernel) (Nat.le_of_ble_eq_true rfl) rfl ?_
  refine zk_aload_n dS_foundKind_0 rfl ?_
  refine zk_get zfS_114 dS_foundKind_1 (v := .inl (σ 15)) rfl (by decide) rfl ?_
  exact zk_iret dS_foundKind_4 rfl ⟨rfl, rfl⟩

set_option maxRecDepth 100000 in
set_option maxHeartbeats 4000000 in
theorem kS_foundPlace (G : zk_G) (sw : Bool) (σ : Nat → Int) (α : Nat → Nat → Int) (t : zk_H) : zk_K G mS_foundPlace (0, 0) 0 0 [.inr (some 18)] (zk_mk G sw σ α t) (fun v h' => h' = (zk_mk G sw σ α t) ∧ v = some (.inl (σ 16))) := by
  refine zk_K.of (ls := [some (.inr (some 18))]) (by decide +kernel) (Nat.le_of_ble_eq_true rfl) rfl ?_
  refine zk_aload_n dS_foundPlace_0 rfl ?_
  refine zk_get zfS_117 dS_foundPlace_1 (v := .inl (σ 16)) rfl (by decide) rfl ?_
  exact zk_iret dS_foundPlace_4 rfl ⟨rfl, rfl⟩

set_option maxRecDepth 100000 in
set_option maxHeartbeats 4000000 in
theorem kS_foundCount (G : zk_G) (sw : Bool) (σ : Nat → Int) (α : Nat → Nat → Int) (t : zk_H) : zk_K G mS_foundCount (0, 0) 0 0 [.inr (some 18)] (zk_mk G sw σ α t) (fun v h' => h' = (zk_mk G sw σ α t) ∧ v = some (.inl (σ 17))) := by
  refine zk_K.of (ls := [some (.inr (some 18))]) (by decide +kernel) (Nat.le_of_ble_eq_true rfl) rfl ?_
  refine zk_aload_n dS_foundCount_0 rfl ?_
  refine zk_get zfS_111 dS_foundCount_1 (v := .inl (σ 17)) rfl (by decide) rfl ?_
  exact zk_iret dS_foundCount_4 rfl ⟨rfl, rfl⟩

set_option maxRecDepth 100000 in
set_option maxHeartbeats 4000000 in
theorem kS_foundAt (G : zk_G) (sw : Bool) (σ : Nat → Int) (α : Nat → Nat → Int) (t : zk_H) : zk_K G mS_foundAt (0, 0) 0 0 [.inr (some 18)] (zk_mk G sw σ α t) (fun v h' => h' = (zk_mk G sw σ α t) ∧ v = some (.inl (σ 13 - σ 17))) := by
  refine zk_K.of (ls := [some (.inr (some 18))]) (by decide +kernel) (Nat.le_of_ble_eq_true rfl) rfl ?_
  refine zk_aload_n dS_foundAt_0 rfl ?_
  refine zk_get zfS_98 dS_foundAt_1 (v := .inl (σ 13)) rfl (by decide) rfl ?_
  refine zk_aload_n dS_foundAt_4 rfl ?_
  refine zk_get zfS_111 dS_foundAt_5 (v := .inl (σ 17)) rfl (by decide) rfl ?_
  refine zk_isub dS_foundAt_8 ?_
  exact zk_iret dS_foundAt_9 rfl ⟨rfl, rfl⟩

set_option maxRecDepth 100000 in
set_option maxHeartbeats 4000000 in
theorem kS_forget (G : zk_G) (sw : Bool) (σ : Nat → Int) (α : Nat → Nat → Int) (t : zk_H) : zk_K G mS_forget (0, 0) 0 0 [.inr (some 18)] (zk_mk G sw σ α t) (fun v h' => v = none ∧ h' = zk_mk G sw (zk_up σ 12 0) α t) := by
  refine zk_K.of (ls := [some (.inr (some 18))]) (by decide +kernel) (Nat.le_of_ble_eq_true rfl) rfl ?_
  refine zk_aload_n dS_forget_0 rfl ?_
  refine zk_iconst dS_forget_1 ?_
  refine zk_put zfS_32 dS_forget_2 (h' := (zk_mk G sw (zk_up σ 12 0) α t)) rfl (by decide) (Nat.le_of_ble_eq_true rfl) rfl rfl rfl ?_
  exact zk_ret dS_forget_5 rfl ⟨rfl, rfl⟩

set_option maxRecDepth 100000 in
set_option maxHeartbeats 4000000 in
theorem kI_compare (G : zk_G) (sw : Bool) (σ : Nat → Int) (α : Nat → Nat → Int) (t : zk_H) {x y : Int} (hx : zk_rg x) (hy : zk_rg y) : zk_K G mI_compare (0, 0) 0 0 [.inl x, .inl y] (zk_mk G sw σ α t) (fun v h' => h' = (zk_mk G sw σ α t) ∧ v = some (.inl (if x < y then -1 else if x = y then 0 else 1))) := by
  refine zk_K.of (ls := [some (.inl x), some (.inl y)]) (by decide +kernel) (Nat.le_of_ble_eq_true rfl) rfl ?_
  refine zk_iload_n dI_compare_0 rfl ?_
  refine zk_iload_n dI_compare_1 rfl ?_
  refine zk_icmp_ge (tgt := 9) dI_compare_2 (by decide) hx hy (fun h2 => ?_) (fun h2 => ?_)
  · skip
    refine zk_iload_n dI_compare_9 rfl ?_
    refine zk_iload_n dI_compare_10 rfl ?_
    refine zk_icmp_ne (tgt := 18) dI_compare_11 (by decide) hx hy (fun h11 => ?_) (fun h11 => ?_)
    · skip
      refine zk_iconst dI_compare_18 ?_
      refine zk_iret dI_compare_19 rfl ⟨rfl, ?_⟩
      rw [if_neg (by omega), if_neg h11]
    · skip
      refine zk_iconst dI_compare_14 ?_
      refine zk_goto (tgt := 19) dI_compare_15 (by decide) ?_
      refine zk_iret dI_compare_19 rfl ⟨rfl, ?_⟩
      rw [if_neg (by omega), if_pos h11]
  · skip
    refine zk_iconst dI_compare_5 ?_
    refine zk_goto (tgt := 19) dI_compare_6 (by decide) ?_
    refine zk_iret dI_compare_19 rfl ⟨rfl, ?_⟩
    rw [if_pos h2]

set_option maxRecDepth 100000 in
set_option maxHeartbeats 4000000 in
theorem kS_wayOfFound (G : zk_G) (sw : Bool) (σ : Nat → Int) (α : Nat → Nat → Int) (t : zk_H) (h15 : zk_rg (σ 15)) (h16 : zk_rg (σ 16)) (h18 : zk_rg (σ 18)) : zk_K G mS_wayOfFound (1, 21) 0 0 [.inr (some 18)] (zk_mk G sw σ α t) (fun v h' => h' = (zk_mk G sw σ α t) ∧ v = some (.inl (if σ 15 = 0 then 1 + (if σ 16 < σ 18 then -1 else if σ 16 = σ 18 then 0 else 1) else if σ 15 = 1 then 3 else 4))) := by
  refine zk_K.of (ls := [some (.inr (some 18))]) (by decide +kernel) (Nat.le_of_ble_eq_true rfl) rfl ?_
  refine zk_aload_n dS_wayOfFound_0 rfl ?_
  refine zk_get zfS_114 dS_wayOfFound_1 (v := .inl (σ 15)) rfl (by decide) rfl ?_
  refine zk_if_ne (tgt := 21) dS_wayOfFound_4 (by decide) h15 (fun h4 => ?_) (fun h4 => ?_)
  · skip
    refine zk_aload_n dS_wayOfFound_21 rfl ?_
    refine zk_get zfS_114 dS_wayOfFound_22 (v := .inl (σ 15)) rfl (by decide) rfl ?_
    refine zk_iconst dS_wayOfFound_25 ?_
    refine zk_icmp_ne (tgt := 33) dS_wayOfFound_26 (by decide) h15 ⟨by decide, by decide⟩ (fun h26 => ?_) (fun h26 => ?_)
    · skip
      refine zk_iconst dS_wayOfFound_33 ?_
      refine zk_iret dS_wayOfFound_34 rfl ⟨rfl, ?_⟩
      rw [if_neg h4, if_neg h26]
    · skip
      refine zk_iconst dS_wayOfFound_29 ?_
      refine zk_goto (tgt := 34) dS_wayOfFound_30 (by decide) ?_
      refine zk_iret dS_wayOfFound_34 rfl ⟨rfl, ?_⟩
      rw [if_neg h4, if_pos h26]
  · skip
    refine zk_iconst dS_wayOfFound_7 ?_
    refine zk_aload_n dS_wayOfFound_8 rfl ?_
    refine zk_get zfS_117 dS_wayOfFound_9 (v := .inl (σ 16)) rfl (by decide) rfl ?_
    refine zk_aload_n dS_wayOfFound_12 rfl ?_
    refine zk_get zfS_104 dS_wayOfFound_13 (v := .inl (σ 18)) rfl (by decide) rfl ?_
    refine zk_callS (av := [.inl (σ 16), .inl (σ 18)]) (st := [.inl 1]) (d' := (0, 0)) (kc' := 0) (ks' := 0) zbS_120 dS_wayOfFound_16 rfl rfl (Nat.le_of_ble_eq_true rfl) ⟨by decide, by decide⟩ rfl rfl (kI_compare G sw σ α t h16 h18) (fun v9 h9 q9 => ?_)
    obtain ⟨rfl, rfl⟩ := q9
    refine zk_W.to (ls' := [some (.inr (some 18))]) (st' := [.inl (if σ 16 < σ 18 then -1 else if σ 16 = σ 18 then 0 else 1), .inl 1]) (h' := (zk_mk G sw σ α t)) rfl rfl rfl ?_
    refine zk_iadd dS_wayOfFound_19 ?_
    refine zk_iret dS_wayOfFound_20 rfl ⟨rfl, ?_⟩
    rw [if_pos h4]

set_option maxRecDepth 100000 in
set_option maxHeartbeats 4000000 in
theorem kS_begin (G : zk_G) (sw : Bool) (σ : Nat → Int) (α : Nat → Nat → Int) (t : zk_H) (hn0 : 0 ≤ σ 0 ∧ σ 0 ≤ (zr_N 0 : Int)) (hn1 : 0 ≤ σ 1 ∧ σ 1 ≤ (zr_N 1 : Int)) (hv0 : ∀ j, 0 ≤ α 0 j ∧ α 0 j ≤ 255) (hv1 : ∀ j, 0 ≤ α 1 j ∧ α 1 j ≤ 255) (hc : ∀ j, j < 5 → 0 ≤ zs_c σ j ∧ zs_c σ j ≤ 100) (h12 : σ 12 = 0 ∨ σ 12 = 1) (hkn : σ 12 = 1 → zs_T σ α) : zk_K G mS_begin (5, 117) 0 0 [.inr (some 18)] (zk_mk G sw σ α t) (fun v h' => v = none ∧ ∃ f b e, zs_T σ (zs_3 α f b e) ∧ h' = zk_mk G sw (zk_up (zk_up (zk_up σ 12 1) 13 0) 14 0) (zs_3 α f b e) t) := by
  refine zk_K.of (ls := [some (.inr (some 18))]) (by decide +kernel) (Nat.le_of_ble_eq_true rfl) rfl ?_
  refine zk_aload_n dS_begin_0 rfl ?_
  refine zk_callV (av := []) (st := []) (d' := (4, 95)) (kc' := 0) (ks' := 0) zbS_95 dS_begin_1 rfl (by decide) rfl rfl (Nat.le_of_ble_eq_true rfl) ⟨by decide, by decide⟩ rfl rfl (kS_workOut G sw σ α t hn0 hn1 hv0 hv1 hc h12 hkn) (fun v9 h9 q9 => ?_)
  obtain ⟨rfl, f, b, e, hT, rfl⟩ := q9
  refine zk_W.to (ls' := [some (.inr (some 18))]) (st' := []) (h' := (zk_mk G sw (zk_up σ 12 1) (zs_3 α f b e) t)) rfl rfl rfl ?_
  refine zk_aload_n dS_begin_4 rfl ?_
  refine zk_iconst dS_begin_5 ?_
  refine zk_put zfS_98 dS_begin_6 (h' := (zk_mk G sw (zk_up (zk_up σ 12 1) 13 0) (zs_3 α f b e) t)) rfl (by decide) (Nat.le_of_ble_eq_true rfl) rfl rfl rfl ?_
  refine zk_aload_n dS_begin_9 rfl ?_
  refine zk_iconst dS_begin_10 ?_
  refine zk_put zfS_101 dS_begin_11 (h' := (zk_mk G sw (zk_up (zk_up (zk_up σ 12 1) 13 0) 14 0) (zs_3 α f b e) t)) rfl (by decide) (Nat.le_of_ble_eq_true rfl) rfl rfl rfl ?_
  exact zk_ret dS_begin_14 rfl ⟨rfl, f, b, e, hT, rfl⟩

set_option maxRecDepth 100000 in
set_option maxHeartbeats 4000000 in
theorem kC_isText (G : zk_G) (sw : Bool) (σ : Nat → Int) (α : Nat → Nat → Int) (t : zk_H) {x : Int} (hx : zk_rg x) : zk_K G mC_isText (0, 0) 0 0 [.inl x] (zk_mk G sw σ α t) (fun v h' => h' = (zk_mk G sw σ α t) ∧ (((x = 0 ∨ x = 1) ∧ v = some (.inl 1)) ∨ ((¬ (x = 0 ∨ x = 1)) ∧ v = some (.inl 0)))) := by
  refine zk_K.of (ls := [some (.inl x)]) (by decide +kernel) (Nat.le_of_ble_eq_true rfl) rfl ?_
  refine zk_iload_n dC_isText_0 rfl ?_
  refine zk_if_eq (tgt := 9) dC_isText_1 (by decide) hx (fun h1 => ?_) (fun h1 => ?_)
  · skip
    refine zk_iconst dC_isText_9 ?_
    refine zk_goto (tgt := 14) dC_isText_10 (by decide) ?_
    exact zk_zret dC_isText_14 rfl (by decide) ⟨rfl, Or.inl ⟨by omega, rfl⟩⟩
  · skip
    refine zk_iload_n dC_isText_4 rfl ?_
    refine zk_iconst dC_isText_5 ?_
    refine zk_icmp_ne (tgt := 13) dC_isText_6 (by decide) hx ⟨by decide, by decide⟩ (fun h6 => ?_) (fun h6 => ?_)
    · skip
      refine zk_iconst dC_isText_13 ?_
      exact zk_zret dC_isText_14 rfl (by decide) ⟨rfl, Or.inr ⟨by omega, rfl⟩⟩
    · skip
      refine zk_iconst dC_isText_9 ?_
      refine zk_goto (tgt := 14) dC_isText_10 (by decide) ?_
      exact zk_zret dC_isText_14 rfl (by decide) ⟨rfl, Or.inl ⟨by omega, rfl⟩⟩

set_option maxRecDepth 100000 in
set_option maxHeartbeats 4000000 in
theorem kC_isByte (G : zk_G) (sw : Bool) (σ : Nat → Int) (α : Nat → Nat → Int) (t : zk_H) {x : Int} (hx : zk_rg x) : zk_K G mC_isByte (0, 0) 0 0 [.inl x] (zk_mk G sw σ α t) (fun v h' => h' = (zk_mk G sw σ α t) ∧ (((0 ≤ x ∧ x ≤ 255) ∧ v = some (.inl 1)) ∨ ((¬ (0 ≤ x ∧ x ≤ 255)) ∧ v = some (.inl 0)))) := by
  refine zk_K.of (ls := [some (.inl x)]) (by decide +kernel) (Nat.le_of_ble_eq_true rfl) rfl ?_
  refine zk_iload_n dC_isByte_0 rfl ?_
  refine zk_if_lt (tgt := 15) dC_isByte_1 (by decide) hx (fun h1 => ?_) (fun h1 => ?_)
  · skip
    refine zk_iconst dC_isByte_15 ?_
    exact zk_zret dC_isByte_16 rfl (by decide) ⟨rfl, Or.inr ⟨by omega, rfl⟩⟩
  · skip
    refine zk_iload_n dC_isByte_4 rfl ?_
    refine zk_sipush dC_isByte_5 (by decide) ?_
    refine zk_icmp_gt (tgt := 15) dC_isByte_8 (by decide) hx ⟨by decide, by decide⟩ (fun h8 => ?_) (fun h8 => ?_)
    · skip
      refine zk_iconst dC_isByte_15 ?_
      exact zk_zret dC_isByte_16 rfl (by decide) ⟨rfl, Or.inr ⟨by omega, rfl⟩⟩
    · skip
      refine zk_iconst dC_isByte_11 ?_
      refine zk_goto (tgt := 16) dC_isByte_12 (by decide) ?_
      exact zk_zret dC_isByte_16 rfl (by decide) ⟨rfl, Or.inl ⟨by omega, rfl⟩⟩

set_option maxRecDepth 100000 in
set_option maxHeartbeats 4000000 in
theorem kC_isNumber (G : zk_G) (sw : Bool) (σ : Nat → Int) (α : Nat → Nat → Int) (t : zk_H) {x : Int} (hx : zk_rg x) : zk_K G mC_isNumber (0, 0) 0 0 [.inl x] (zk_mk G sw σ α t) (fun v h' => h' = (zk_mk G sw σ α t) ∧ (((0 ≤ x ∧ x ≤ 100) ∧ v = some (.inl 1)) ∨ ((¬ (0 ≤ x ∧ x ≤ 100)) ∧ v = some (.inl 0)))) := by
  refine zk_K.of (ls := [some (.inl x)]) (by decide +kernel) (Nat.le_of_ble_eq_true rfl) rfl ?_
  refine zk_iload_n dC_isNumber_0 rfl ?_
  refine zk_if_lt (tgt := 14) dC_isNumber_1 (by decide) hx (fun h1 => ?_) (fun h1 => ?_)
  · skip
    refine zk_iconst dC_isNumber_14 ?_
    exact zk_zret dC_isNumber_15 rfl (by decide) ⟨rfl, Or.inr ⟨by omega, rfl⟩⟩
  · skip
    refine zk_iload_n dC_isNumber_4 rfl ?_
    refine zk_bipush dC_isNumber_5 (by decide) ?_
    refine zk_icmp_gt (tgt := 14) dC_isNumber_7 (by decide) hx ⟨by decide, by decide⟩ (fun h7 => ?_) (fun h7 => ?_)
    · skip
      refine zk_iconst dC_isNumber_14 ?_
      exact zk_zret dC_isNumber_15 rfl (by decide) ⟨rfl, Or.inr ⟨by omega, rfl⟩⟩
    · skip
      refine zk_iconst dC_isNumber_10 ?_
      refine zk_goto (tgt := 15) dC_isNumber_11 (by decide) ?_
      exact zk_zret dC_isNumber_15 rfl (by decide) ⟨rfl, Or.inl ⟨by omega, rfl⟩⟩

set_option maxRecDepth 100000 in
set_option maxHeartbeats 4000000 in
theorem kC_textOf (G : zk_G) (sw : Bool) (σ : Nat → Int) (α : Nat → Nat → Int) (t : zk_H) {x : Int} (hx : zk_rg x) : zk_K G mC_textOf (0, 0) 0 0 [.inr (some 1), .inl x] (zk_mk G sw σ α t) (fun v h' => h' = (zk_mk G sw σ α t) ∧ ((x = 0 ∧ v = some (.inr (some 2))) ∨ (x ≠ 0 ∧ v = some (.inr (some 4))))) := by
  refine zk_K.of (ls := [some (.inr (some 1)), some (.inl x)]) (by decide +kernel) (Nat.le_of_ble_eq_true rfl) rfl ?_
  refine zk_iload_n dC_textOf_0 rfl ?_
  refine zk_if_ne (tgt := 11) dC_textOf_1 (by decide) hx (fun h1 => ?_) (fun h1 => ?_)
  · skip
    refine zk_aload_n dC_textOf_11 rfl ?_
    refine zk_get zfC_18 dC_textOf_12 (v := .inr (some 4)) rfl (by decide) rfl ?_
    exact zk_aret dC_textOf_15 rfl (Or.inl ⟨_, rfl⟩) ⟨rfl, Or.inr ⟨h1, rfl⟩⟩
  · skip
    refine zk_aload_n dC_textOf_4 rfl ?_
    refine zk_get zfC_14 dC_textOf_5 (v := .inr (some 2)) rfl (by decide) rfl ?_
    refine zk_goto (tgt := 15) dC_textOf_8 (by decide) ?_
    exact zk_aret dC_textOf_15 rfl (Or.inl ⟨_, rfl⟩) ⟨rfl, Or.inl ⟨h1, rfl⟩⟩

/-- the cost of an act -/
def mt_cost (c : Nat → Int) (K P C : Nat → Int) (k : Nat) : Int := if K k = 0 then (if P k = mt_spot K P C k then c 0 else c 0 + c 1) else if K k = 1 then c 2 else c 3 + c 4 * C k

set_option maxRecDepth 100000 in
set_option maxHeartbeats 4000000 in
theorem kC_costOf (G : zk_G) (sw : Bool) (σ : Nat → Int) (α : Nat → Nat → Int) (t : zk_H) (hs10 : 0 ≤ σ 10 ∧ σ 10 ≤ 100) (ha : ∀ q j, q < 9 → zk_rg (α q j)) {k : Int} (hk : 0 ≤ k ∧ k < σ 10) (hsp : zk_rg (mt_spot (α 5) (α 6) (α 7) k.toNat)) : zk_K G mC_costOf (2, 42) 0 0 [.inr (some 1), .inl k] (zk_mk G sw σ α t) (fun v h' => h' = (zk_mk G sw σ α t) ∧ v = some (.inl (mt_cost (zs_c σ) (α 5) (α 6) (α 7) k.toNat))) := by
  refine zk_K.of (ls := [some (.inr (some 1)), some (.inl k)]) (by decide +kernel) (Nat.le_of_ble_eq_true rfl) rfl ?_
  refine zk_aload_n dC_costOf_0 rfl ?_
  refine zk_get zfC_37 dC_costOf_1 (v := .inr (some 11)) rfl (by decide) rfl ?_
  refine zk_iload_n dC_costOf_4 rfl ?_
  refine zk_callV (av := [.inl k]) (st := []) (d' := (1, 21)) (kc' := 0) (ks' := 0) zbC_133 dC_costOf_5 rfl (by decide) rfl rfl (Nat.le_of_ble_eq_true rfl) ⟨by decide, by decide⟩ rfl rfl (kA_kind G sw σ α t hs10 ⟨by omega, by omega⟩) (fun v9 h9 q9 => ?_)
  rcases q9 with ⟨rfl, ⟨hc5, rfl⟩ | ⟨hc5, rfl⟩⟩
  · skip
    refine zk_W.to (ls' := [some (.inr (some 1)), some (.inl k)]) (st' := [.inl (α 5 k.toNat)]) (h' := (zk_mk G sw σ α t)) rfl rfl rfl ?_
    by_cases h8_0 : α 5 k.toNat = 0
    · skip
      refine zk_lookup (tgt := 36) dC_costOf_8 (by decide) (ha _ _ (by decide)) (by rw [h8_0]) (by decide) ?_
      refine zk_aload_n dC_costOf_36 rfl ?_
      refine zk_get zfC_30 dC_costOf_37 (v := .inr (some 10)) rfl (by decide) rfl ?_
      refine zk_aload_n dC_costOf_40 rfl ?_
      refine zk_get zfC_37 dC_costOf_41 (v := .inr (some 11)) rfl (by decide) rfl ?_
      refine zk_iload_n dC_costOf_44 rfl ?_
      refine zk_callV (av := [.inl k]) (st := [.inr (some 10)]) (d' := (1, 21)) (kc' := 0) (ks' := 0) zbC_139 dC_costOf_45 rfl (by decide) rfl rfl (Nat.le_of_ble_eq_true rfl) ⟨by decide, by decide⟩ rfl rfl (kA_place G sw σ α t hs10 ⟨by omega, by omega⟩) (fun v9 h9 q9 => ?_)
      rcases q9 with ⟨rfl, ⟨hc45, rfl⟩ | ⟨hc45, rfl⟩⟩
      · skip
        refine zk_W.to (ls' := [some (.inr (some 1)), some (.inl k)]) (st' := [.inl (α 6 k.toNat), .inr (some 10)]) (h' := (zk_mk G sw σ α t)) rfl rfl rfl ?_
        refine zk_aload_n dC_costOf_48 rfl ?_
        refine zk_get zfC_37 dC_costOf_49 (v := .inr (some 11)) rfl (by decide) rfl ?_
        refine zk_iload_n dC_costOf_52 rfl ?_
        refine zk_callV (av := [.inl k]) (st := [.inl (α 6 k.toNat), .inr (some 10)]) (d' := (1, 18)) (kc' := 0) (ks' := 0) zbC_142 dC_costOf_53 rfl (by decide) rfl rfl (Nat.le_of_ble_eq_true rfl) ⟨by decide, by decide⟩ rfl rfl (kA_spotAhead G sw σ α t ha hs10 (k := k) (by omega)) (fun v9 h9 q9 => ?_)
        obtain ⟨rfl, rfl⟩ := q9
        refine zk_W.to (ls' := [some (.inr (some 1)), some (.inl k)]) (st' := [.inl (mt_spot (α 5) (α 6) (α 7) k.toNat), .inl (α 6 k.toNat), .inr (some 10)]) (h' := (zk_mk G sw σ α t)) rfl rfl rfl ?_
        refine zk_callV (av := [.inl (α 6 k.toNat), .inl (mt_spot (α 5) (α 6) (α 7) k.toNat)]) (st := []) (d' := (0, 0)) (kc' := 0) (ks' := 0) zbC_194 dC_costOf_56 rfl (by decide) rfl rfl (Nat.le_of_ble_eq_true rfl) ⟨by decide, by decide⟩ rfl rfl (kN_ofCopy G sw σ α t (ha _ _ (by decide)) hsp) (fun v9 h9 q9 => ?_)
        obtain ⟨rfl, rfl⟩ := q9
        refine zk_W.to (ls' := [some (.inr (some 1)), some (.inl k)]) (st' := [.inl (if α 6 k.toNat = mt_spot (α 5) (α 6) (α 7) k.toNat then σ 5 else σ 5 + σ 6)]) (h' := (zk_mk G sw σ α t)) rfl rfl rfl ?_
        refine zk_iret dC_costOf_59 rfl ⟨rfl, ?_⟩
        unfold mt_cost
        first | (rw [if_pos h8_0]; rfl) | (rw [if_neg h8_0, if_pos h8_1]; rfl) | (rw [if_neg h8_0, if_neg h8_1]; rfl)
      · skip
        exact absurd hk hc45
    by_cases h8_1 : α 5 k.toNat = 1
    · skip
      refine zk_lookup (tgt := 60) dC_costOf_8 (by decide) (ha _ _ (by decide)) (by rw [h8_1]) (by decide) ?_
      refine zk_aload_n dC_costOf_60 rfl ?_
      refine zk_get zfC_30 dC_costOf_61 (v := .inr (some 10)) rfl (by decide) rfl ?_
      refine zk_callV (av := []) (st := []) (d' := (0, 0)) (kc' := 0) (ks' := 0) zbC_197 dC_costOf_64 rfl (by decide) rfl rfl (Nat.le_of_ble_eq_true rfl) ⟨by decide, by decide⟩ rfl rfl (kN_ofSelf G sw σ α t) (fun v9 h9 q9 => ?_)
      obtain ⟨rfl, rfl⟩ := q9
      refine zk_W.to (ls' := [some (.inr (some 1)), some (.inl k)]) (st' := [.inl (σ 7)]) (h' := (zk_mk G sw σ α t)) rfl rfl rfl ?_
      refine zk_iret dC_costOf_67 rfl ⟨rfl, ?_⟩
      unfold mt_cost
      first | (rw [if_pos h8_0]; rfl) | (rw [if_neg h8_0, if_pos h8_1]; rfl) | (rw [if_neg h8_0, if_neg h8_1]; rfl)
    refine zk_lookup (tgt := 68) dC_costOf_8 (by decide) (ha _ _ (by decide)) (by show Op.lookupswitch.offset [(0, 28), (1, 52)] 60 _ = 60; rw [Op.lookupswitch.offset_cons, if_neg (fun e => h8_0 e.symm), Op.lookupswitch.offset_cons, if_neg (fun e => h8_1 e.symm)]; rfl) (by decide) ?_
    refine zk_aload_n dC_costOf_68 rfl ?_
    refine zk_get zfC_30 dC_costOf_69 (v := .inr (some 10)) rfl (by decide) rfl ?_
    refine zk_aload_n dC_costOf_72 rfl ?_
    refine zk_get zfC_37 dC_costOf_73 (v := .inr (some 11)) rfl (by decide) rfl ?_
    refine zk_iload_n dC_costOf_76 rfl ?_
    refine zk_callV (av := [.inl k]) (st := [.inr (some 10)]) (d' := (1, 21)) (kc' := 0) (ks' := 0) zbC_136 dC_costOf_77 rfl (by decide) rfl rfl (Nat.le_of_ble_eq_true rfl) ⟨by decide, by decide⟩ rfl rfl (kA_count G sw σ α t hs10 ⟨by omega, by omega⟩) (fun v9 h9 q9 => ?_)
    rcases q9 with ⟨rfl, ⟨hc77, rfl⟩ | ⟨hc77, rfl⟩⟩
    · skip
      refine zk_W.to (ls' := [some (.inr (some 1)), some (.inl k)]) (st' := [.inl (α 7 k.toNat), .inr (some 10)]) (h' := (zk_mk G sw σ α t)) rfl rfl rfl ?_
      refine zk_callV (av := [.inl (α 7 k.toNat)]) (st := []) (d' := (0, 0)) (kc' := 0) (ks' := 0) zbC_200 dC_costOf_80 rfl (by decide) rfl rfl (Nat.le_of_ble_eq_true rfl) ⟨by decide, by decide⟩ rfl rfl (kN_ofLay G sw σ α t) (fun v9 h9 q9 => ?_)
      obtain ⟨rfl, rfl⟩ := q9
      refine zk_W.to (ls' := [some (.inr (some 1)), some (.inl k)]) (st' := [.inl (σ 8 + σ 9 * (α 7 k.toNat))]) (h' := (zk_mk G sw σ α t)) rfl rfl rfl ?_
      refine zk_iret dC_costOf_83 rfl ⟨rfl, ?_⟩
      unfold mt_cost
      first | (rw [if_pos h8_0]; rfl) | (rw [if_neg h8_0, if_pos h8_1]; rfl) | (rw [if_neg h8_0, if_neg h8_1]; rfl)
    · skip
      exact absurd hk hc77
  · skip
    exact absurd hk hc5

set_option maxRecDepth 100000 in
set_option maxHeartbeats 4000000 in
theorem kC_fails (G : zk_G) (sw : Bool) (σ : Nat → Int) (α : Nat → Nat → Int) (t : zk_H) (hs10 : 0 ≤ σ 10 ∧ σ 10 ≤ 100) (ha : ∀ q j, q < 9 → zk_rg (α q j)) (hn0 : 0 ≤ σ 0 ∧ σ 0 ≤ 40) (hn2 : 0 ≤ σ 2 ∧ σ 2 ≤ 80) {k : Int} (hk : 0 ≤ k ∧ k < σ 10) (hC : 0 ≤ α 7 k.toNat ∧ α 7 k.toNat ≤ 40) (hP : -1 ≤ α 6 k.toNat ∧ α 6 k.toNat ≤ 79) : zk_K G mC_fails (2, 42) 0 0 [.inr (some 1), .inl k] (zk_mk G sw σ α t) (fun v h' => h' = (zk_mk G sw σ α t) ∧ (((80 < σ 2 + α 7 k.toNat ∨ (α 5 k.toNat = 0 ∧ σ 0 < α 6 k.toNat + α 7 k.toNat) ∨ (α 5 k.toNat = 1 ∧ σ 2 ≤ α 6 k.toNat)) ∧ v = some (.inl 1)) ∨ ((¬ (80 < σ 2 + α 7 k.toNat ∨ (α 5 k.toNat = 0 ∧ σ 0 < α 6 k.toNat + α 7 k.toNat) ∨ (α 5 k.toNat = 1 ∧ σ 2 ≤ α 6 k.toNat))) ∧ v = some (.inl 0)))) := by
  refine zk_K.of (ls := [some (.inr (some 1)), some (.inl k), none]) (by decide +kernel) (Nat.le_of_ble_eq_true rfl) rfl ?_
  refine zk_aload_n dC_fails_0 rfl ?_
  refine zk_get zfC_37 dC_fails_1 (v := .inr (some 11)) rfl (by decide) rfl ?_
  refine zk_iload_n dC_fails_4 rfl ?_
  refine zk_callV (av := [.inl k]) (st := []) (d' := (1, 21)) (kc' := 0) (ks' := 0) zbC_136 dC_fails_5 rfl (by decide) rfl rfl (Nat.le_of_ble_eq_true rfl) ⟨by decide, by decide⟩ rfl rfl (kA_count G sw σ α t hs10 ⟨by omega, by omega⟩) (fun v9 h9 q9 => ?_)
  rcases q9 with ⟨rfl, ⟨hc5, rfl⟩ | ⟨hc5, rfl⟩⟩
  · skip
    refine zk_W.to (ls' := [some (.inr (some 1)), some (.inl k), none]) (st' := [.inl (α 7 k.toNat)]) (h' := (zk_mk G sw σ α t)) rfl rfl rfl ?_
    refine zk_istore_n (ls' := [some (.inr (some 1)), some (.inl k), some (.inl (α 7 k.toNat))]) dC_fails_8 (by decide) rfl ?_
    refine zk_aload_n dC_fails_9 rfl ?_
    refine zk_get zfC_21 dC_fails_10 (v := .inr (some 6)) rfl (by decide) rfl ?_
    refine zk_callV (av := []) (st := []) (d' := (0, 0)) (kc' := 0) (ks' := 0) zbC_50 dC_fails_13 rfl (by decide) rfl rfl (Nat.le_of_ble_eq_true rfl) ⟨by decide, by decide⟩ rfl rfl (kR_length G sw σ α t (q := 2) (by decide)) (fun v9 h9 q9 => ?_)
    obtain ⟨rfl, rfl⟩ := q9
    refine zk_W.to (ls' := [some (.inr (some 1)), some (.inl k), some (.inl (α 7 k.toNat))]) (st' := [.inl (σ 2)]) (h' := (zk_mk G sw σ α t)) rfl rfl rfl ?_
    refine zk_iload_n dC_fails_16 rfl ?_
    refine zk_iadd dC_fails_17 ?_
    refine zk_bipush dC_fails_18 (by decide) ?_
    refine zk_icmp_le (tgt := 25) dC_fails_20 (by decide) ⟨by omega, by omega⟩ ⟨by decide, by decide⟩ (fun h20 => ?_) (fun h20 => ?_)
    · skip
      refine zk_aload_n dC_fails_25 rfl ?_
      refine zk_get zfC_37 dC_fails_26 (v := .inr (some 11)) rfl (by decide) rfl ?_
      refine zk_iload_n dC_fails_29 rfl ?_
      refine zk_callV (av := [.inl k]) (st := []) (d' := (1, 21)) (kc' := 0) (ks' := 0) zbC_133 dC_fails_30 rfl (by decide) rfl rfl (Nat.le_of_ble_eq_true rfl) ⟨by decide, by decide⟩ rfl rfl (kA_kind G sw σ α t hs10 ⟨by omega, by omega⟩) (fun v9 h9 q9 => ?_)
      rcases q9 with ⟨rfl, ⟨hc30, rfl⟩ | ⟨hc30, rfl⟩⟩
      · skip
        refine zk_W.to (ls' := [some (.inr (some 1)), some (.inl k), some (.inl (α 7 k.toNat))]) (st' := [.inl (α 5 k.toNat)]) (h' := (zk_mk G sw σ α t)) rfl rfl rfl ?_
        by_cases h33_0 : α 5 k.toNat = 0
        · skip
          refine zk_lookup (tgt := 60) dC_fails_33 (by decide) (ha _ _ (by decide)) (by rw [h33_0]) (by decide) ?_
          refine zk_aload_n dC_fails_60 rfl ?_
          refine zk_get zfC_37 dC_fails_61 (v := .inr (some 11)) rfl (by decide) rfl ?_
          refine zk_iload_n dC_fails_64 rfl ?_
          refine zk_callV (av := [.inl k]) (st := []) (d' := (1, 21)) (kc' := 0) (ks' := 0) zbC_139 dC_fails_65 rfl (by decide) rfl rfl (Nat.le_of_ble_eq_true rfl) ⟨by decide, by decide⟩ rfl rfl (kA_place G sw σ α t hs10 ⟨by omega, by omega⟩) (fun v9 h9 q9 => ?_)
          rcases q9 with ⟨rfl, ⟨hc65, rfl⟩ | ⟨hc65, rfl⟩⟩
          · skip
            refine zk_W.to (ls' := [some (.inr (some 1)), some (.inl k), some (.inl (α 7 k.toNat))]) (st' := [.inl (α 6 k.toNat)]) (h' := (zk_mk G sw σ α t)) rfl rfl rfl ?_
            refine zk_iload_n dC_fails_68 rfl ?_
            refine zk_iadd dC_fails_69 ?_
            refine zk_aload_n dC_fails_70 rfl ?_
            refine zk_get zfC_14 dC_fails_71 (v := .inr (some 2)) rfl (by decide) rfl ?_
            refine zk_callV (av := []) (st := [.inl ((α 6 k.toNat) + (α 7 k.toNat))]) (d' := (0, 0)) (kc' := 0) (ks' := 0) zbC_50 dC_fails_74 rfl (by decide) rfl rfl (Nat.le_of_ble_eq_true rfl) ⟨by decide, by decide⟩ rfl rfl (kR_length G sw σ α t (q := 0) (by decide)) (fun v9 h9 q9 => ?_)
            obtain ⟨rfl, rfl⟩ := q9
            refine zk_W.to (ls' := [some (.inr (some 1)), some (.inl k), some (.inl (α 7 k.toNat))]) (st' := [.inl (σ 0), .inl ((α 6 k.toNat) + (α 7 k.toNat))]) (h' := (zk_mk G sw σ α t)) rfl rfl rfl ?_
            refine zk_icmp_le (tgt := 84) dC_fails_77 (by decide) ⟨by omega, by omega⟩ ⟨by omega, by omega⟩ (fun h77 => ?_) (fun h77 => ?_)
            · skip
              refine zk_iconst dC_fails_84 ?_
              exact zk_zret dC_fails_85 rfl (by decide) ⟨rfl, Or.inr ⟨by omega, rfl⟩⟩
            · skip
              refine zk_iconst dC_fails_80 ?_
              refine zk_goto (tgt := 85) dC_fails_81 (by decide) ?_
              exact zk_zret dC_fails_85 rfl (by decide) ⟨rfl, Or.inl ⟨by omega, rfl⟩⟩
          · skip
            exact absurd hk hc65
        by_cases h33_1 : α 5 k.toNat = 1
        · skip
          refine zk_lookup (tgt := 86) dC_fails_33 (by decide) (ha _ _ (by decide)) (by rw [h33_1]) (by decide) ?_
          refine zk_aload_n dC_fails_86 rfl ?_
          refine zk_get zfC_37 dC_fails_87 (v := .inr (some 11)) rfl (by decide) rfl ?_
          refine zk_iload_n dC_fails_90 rfl ?_
          refine zk_callV (av := [.inl k]) (st := []) (d' := (1, 21)) (kc' := 0) (ks' := 0) zbC_139 dC_fails_91 rfl (by decide) rfl rfl (Nat.le_of_ble_eq_true rfl) ⟨by decide, by decide⟩ rfl rfl (kA_place G sw σ α t hs10 ⟨by omega, by omega⟩) (fun v9 h9 q9 => ?_)
          rcases q9 with ⟨rfl, ⟨hc91, rfl⟩ | ⟨hc91, rfl⟩⟩
          · skip
            refine zk_W.to (ls' := [some (.inr (some 1)), some (.inl k), some (.inl (α 7 k.toNat))]) (st' := [.inl (α 6 k.toNat)]) (h' := (zk_mk G sw σ α t)) rfl rfl rfl ?_
            refine zk_aload_n dC_fails_94 rfl ?_
            refine zk_get zfC_21 dC_fails_95 (v := .inr (some 6)) rfl (by decide) rfl ?_
            refine zk_callV (av := []) (st := [.inl (α 6 k.toNat)]) (d' := (0, 0)) (kc' := 0) (ks' := 0) zbC_50 dC_fails_98 rfl (by decide) rfl rfl (Nat.le_of_ble_eq_true rfl) ⟨by decide, by decide⟩ rfl rfl (kR_length G sw σ α t (q := 2) (by decide)) (fun v9 h9 q9 => ?_)
            obtain ⟨rfl, rfl⟩ := q9
            refine zk_W.to (ls' := [some (.inr (some 1)), some (.inl k), some (.inl (α 7 k.toNat))]) (st' := [.inl (σ 2), .inl (α 6 k.toNat)]) (h' := (zk_mk G sw σ α t)) rfl rfl rfl ?_
            refine zk_icmp_lt (tgt := 108) dC_fails_101 (by decide) ⟨by omega, by omega⟩ ⟨by omega, by omega⟩ (fun h101 => ?_) (fun h101 => ?_)
            · skip
              refine zk_iconst dC_fails_108 ?_
              exact zk_zret dC_fails_109 rfl (by decide) ⟨rfl, Or.inr ⟨by omega, rfl⟩⟩
            · skip
              refine zk_iconst dC_fails_104 ?_
              refine zk_goto (tgt := 109) dC_fails_105 (by decide) ?_
              exact zk_zret dC_fails_109 rfl (by decide) ⟨rfl, Or.inl ⟨by omega, rfl⟩⟩
          · skip
            exact absurd hk hc91
        refine zk_lookup (tgt := 110) dC_fails_33 (by decide) (ha _ _ (by decide)) (by show Op.lookupswitch.offset [(0, 27), (1, 53)] 77 _ = 77; rw [Op.lookupswitch.offset_cons, if_neg (fun e => h33_0 e.symm), Op.lookupswitch.offset_cons, if_neg (fun e => h33_1 e.symm)]; rfl) (by decide) ?_
        refine zk_iconst dC_fails_110 ?_
        exact zk_zret dC_fails_111 rfl (by decide) ⟨rfl, Or.inr ⟨by omega, rfl⟩⟩
      · skip
        exact absurd hk hc30
    · skip
      refine zk_iconst dC_fails_23 ?_
      exact zk_zret dC_fails_24 rfl (by decide) ⟨rfl, Or.inl ⟨by omega, rfl⟩⟩
  · skip
    exact absurd hk hc5

set_option maxRecDepth 100000 in
set_option maxHeartbeats 4000000 in
theorem kC_byteOf (G : zk_G) (sw : Bool) (σ : Nat → Int) (α : Nat → Nat → Int) (t : zk_H) (hs10 : 0 ≤ σ 10 ∧ σ 10 ≤ 100) (ha : ∀ q j, q < 9 → zk_rg (α q j)) (hn0 : 0 ≤ σ 0 ∧ σ 0 ≤ (zr_N 0 : Int)) (hn2 : 0 ≤ σ 2 ∧ σ 2 ≤ (zr_N 2 : Int)) (hn4 : 0 ≤ σ 4 ∧ σ 4 ≤ (zr_N 4 : Int)) {k : Int} (hk : 0 ≤ k ∧ k < σ 10) {j : Int} (hb0 : α 5 k.toNat = 0 → 0 ≤ α 6 k.toNat + j ∧ α 6 k.toNat + j < σ 0) (hb1 : α 5 k.toNat = 1 → 0 ≤ α 6 k.toNat + j ∧ α 6 k.toNat + j < σ 2) (hb2 : α 5 k.toNat ≠ 0 → α 5 k.toNat ≠ 1 → 0 ≤ α 8 k.toNat + j ∧ α 8 k.toNat + j < σ 4) : zk_K G mC_byteOf (3, 64) 0 0 [.inr (some 1), .inl k, .inl j] (zk_mk G sw σ α t) (fun v h' => h' = (zk_mk G sw σ α t) ∧ v = some (.inl (if α 5 k.toNat = 0 then α 0 (α 6 k.toNat + j).toNat else if α 5 k.toNat = 1 then α 2 (α 6 k.toNat + j).toNat else α 4 (α 8 k.toNat + j).toNat))) := by
  have eN0 : (zr_N 0 : Int) = 40 := rfl
  have eN2 : (zr_N 2 : Int) = 80 := rfl
  have eN4 : (zr_N 4 : Int) = 4000 := rfl
  refine zk_K.of (ls := [some (.inr (some 1)), some (.inl k), some (.inl j)]) (by decide +kernel) (Nat.le_of_ble_eq_true rfl) rfl ?_
  refine zk_aload_n dC_byteOf_0 rfl ?_
  refine zk_get zfC_37 dC_byteOf_1 (v := .inr (some 11)) rfl (by decide) rfl ?_
  refine zk_iload_n dC_byteOf_4 rfl ?_
  refine zk_callV (av := [.inl k]) (st := []) (d' := (1, 21)) (kc' := 0) (ks' := 0) zbC_133 dC_byteOf_5 rfl (by decide) rfl rfl (Nat.le_of_ble_eq_true rfl) ⟨by decide, by decide⟩ rfl rfl (kA_kind G sw σ α t hs10 ⟨by omega, by omega⟩) (fun v9 h9 q9 => ?_)
  rcases q9 with ⟨rfl, ⟨hc5, rfl⟩ | ⟨hc5, rfl⟩⟩
  · skip
    refine zk_W.to (ls' := [some (.inr (some 1)), some (.inl k), some (.inl j)]) (st' := [.inl (α 5 k.toNat)]) (h' := (zk_mk G sw σ α t)) rfl rfl rfl ?_
    by_cases h8_0 : α 5 k.toNat = 0
    · skip
      refine zk_lookup (tgt := 36) dC_byteOf_8 (by decide) (ha _ _ (by decide)) (by rw [h8_0]) (by decide) ?_
      have hb := hb0 h8_0
      refine zk_aload_n dC_byteOf_36 rfl ?_
      refine zk_get zfC_14 dC_byteOf_37 (v := .inr (some 2)) rfl (by decide) rfl ?_
      refine zk_aload_n dC_byteOf_40 rfl ?_
      refine zk_get zfC_37 dC_byteOf_41 (v := .inr (some 11)) rfl (by decide) rfl ?_
      refine zk_iload_n dC_byteOf_44 rfl ?_
      refine zk_callV (av := [.inl k]) (st := [.inr (some 2)]) (d' := (1, 21)) (kc' := 0) (ks' := 0) zbC_139 dC_byteOf_45 rfl (by decide) rfl rfl (Nat.le_of_ble_eq_true rfl) ⟨by decide, by decide⟩ rfl rfl (kA_place G sw σ α t hs10 ⟨by omega, by omega⟩) (fun v9 h9 q9 => ?_)
      rcases q9 with ⟨rfl, ⟨hc45, rfl⟩ | ⟨hc45, rfl⟩⟩
      · skip
        refine zk_W.to (ls' := [some (.inr (some 1)), some (.inl k), some (.inl j)]) (st' := [.inl (α 6 k.toNat), .inr (some 2)]) (h' := (zk_mk G sw σ α t)) rfl rfl rfl ?_
        refine zk_iload_n dC_byteOf_48 rfl ?_
        refine zk_iadd dC_byteOf_49 ?_
        refine zk_callV (av := [.inl ((α 6 k.toNat) + j)]) (st := []) (d' := (1, 21)) (kc' := 0) (ks' := 0) zbC_168 dC_byteOf_50 rfl (by decide) rfl rfl (Nat.le_of_ble_eq_true rfl) ⟨by decide, by decide⟩ rfl rfl (kR_get G sw σ α t (q := 0) (by decide) hn0 ⟨by omega, by omega⟩) (fun v9 h9 q9 => ?_)
        rcases q9 with ⟨rfl, ⟨hc50, rfl⟩ | ⟨hc50, rfl⟩⟩
        · skip
          refine zk_W.to (ls' := [some (.inr (some 1)), some (.inl k), some (.inl j)]) (st' := [.inl (α 0 ((α 6 k.toNat) + j).toNat)]) (h' := (zk_mk G sw σ α t)) rfl rfl rfl ?_
          refine zk_iret dC_byteOf_53 rfl ⟨rfl, ?_⟩
          first | rw [if_pos h8_0] | rw [if_neg h8_0, if_pos h8_1] | rw [if_neg h8_0, if_neg h8_1]
        · skip
          exact absurd (⟨by omega, by omega⟩ : 0 ≤ (α 6 k.toNat) + j ∧ (α 6 k.toNat) + j < σ 0) hc50
      · skip
        exact absurd hk hc45
    by_cases h8_1 : α 5 k.toNat = 1
    · skip
      refine zk_lookup (tgt := 54) dC_byteOf_8 (by decide) (ha _ _ (by decide)) (by rw [h8_1]) (by decide) ?_
      have hb := hb1 h8_1
      refine zk_aload_n dC_byteOf_54 rfl ?_
      refine zk_get zfC_21 dC_byteOf_55 (v := .inr (some 6)) rfl (by decide) rfl ?_
      refine zk_aload_n dC_byteOf_58 rfl ?_
      refine zk_get zfC_37 dC_byteOf_59 (v := .inr (some 11)) rfl (by decide) rfl ?_
      refine zk_iload_n dC_byteOf_62 rfl ?_
      refine zk_callV (av := [.inl k]) (st := [.inr (some 6)]) (d' := (1, 21)) (kc' := 0) (ks' := 0) zbC_139 dC_byteOf_63 rfl (by decide) rfl rfl (Nat.le_of_ble_eq_true rfl) ⟨by decide, by decide⟩ rfl rfl (kA_place G sw σ α t hs10 ⟨by omega, by omega⟩) (fun v9 h9 q9 => ?_)
      rcases q9 with ⟨rfl, ⟨hc63, rfl⟩ | ⟨hc63, rfl⟩⟩
      · skip
        refine zk_W.to (ls' := [some (.inr (some 1)), some (.inl k), some (.inl j)]) (st' := [.inl (α 6 k.toNat), .inr (some 6)]) (h' := (zk_mk G sw σ α t)) rfl rfl rfl ?_
        refine zk_iload_n dC_byteOf_66 rfl ?_
        refine zk_iadd dC_byteOf_67 ?_
        refine zk_callV (av := [.inl ((α 6 k.toNat) + j)]) (st := []) (d' := (1, 21)) (kc' := 0) (ks' := 0) zbC_168 dC_byteOf_68 rfl (by decide) rfl rfl (Nat.le_of_ble_eq_true rfl) ⟨by decide, by decide⟩ rfl rfl (kR_get G sw σ α t (q := 2) (by decide) hn2 ⟨by omega, by omega⟩) (fun v9 h9 q9 => ?_)
        rcases q9 with ⟨rfl, ⟨hc68, rfl⟩ | ⟨hc68, rfl⟩⟩
        · skip
          refine zk_W.to (ls' := [some (.inr (some 1)), some (.inl k), some (.inl j)]) (st' := [.inl (α 2 ((α 6 k.toNat) + j).toNat)]) (h' := (zk_mk G sw σ α t)) rfl rfl rfl ?_
          refine zk_iret dC_byteOf_71 rfl ⟨rfl, ?_⟩
          first | rw [if_pos h8_0] | rw [if_neg h8_0, if_pos h8_1] | rw [if_neg h8_0, if_neg h8_1]
        · skip
          exact absurd (⟨by omega, by omega⟩ : 0 ≤ (α 6 k.toNat) + j ∧ (α 6 k.toNat) + j < σ 2) hc68
      · skip
        exact absurd hk hc63
    refine zk_lookup (tgt := 72) dC_byteOf_8 (by decide) (ha _ _ (by decide)) (by show Op.lookupswitch.offset [(0, 28), (1, 46)] 64 _ = 64; rw [Op.lookupswitch.offset_cons, if_neg (fun e => h8_0 e.symm), Op.lookupswitch.offset_cons, if_neg (fun e => h8_1 e.symm)]; rfl) (by decide) ?_
    have hlb := hb2 h8_0 h8_1
    refine zk_aload_n dC_byteOf_72 rfl ?_
    refine zk_get zfC_37 dC_byteOf_73 (v := .inr (some 11)) rfl (by decide) rfl ?_
    refine zk_iload_n dC_byteOf_76 rfl ?_
    refine zk_iload_n dC_byteOf_77 rfl ?_
    refine zk_callV (av := [.inl k, .inl j]) (st := []) (d' := (2, 42)) (kc' := 0) (ks' := 0) zbC_145 dC_byteOf_78 rfl (by decide) rfl rfl (Nat.le_of_ble_eq_true rfl) ⟨by decide, by decide⟩ rfl rfl (kA_laidByte G sw σ α t hs10 hn4 hk (i := j) hlb) (fun v9 h9 q9 => ?_)
    obtain ⟨rfl, rfl⟩ := q9
    refine zk_W.to (ls' := [some (.inr (some 1)), some (.inl k), some (.inl j)]) (st' := [.inl (α 4 (α 8 k.toNat + j).toNat)]) (h' := (zk_mk G sw σ α t)) rfl rfl rfl ?_
    refine zk_iret dC_byteOf_81 rfl ⟨rfl, ?_⟩
    first | rw [if_pos h8_0] | rw [if_neg h8_0, if_pos h8_1] | rw [if_neg h8_0, if_neg h8_1]
  · skip
    exact absurd hk hc5
