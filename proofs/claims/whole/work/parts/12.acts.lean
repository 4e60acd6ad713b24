set_option maxRecDepth 100000 in
set_option maxHeartbeats 4000000 in
theorem kN_set (G : zk_G) (sw : Bool) (σ : Nat → Int) (α : Nat → Nat → Int) (t : zk_H) (x0 x1 x2 x3 x4 : Int) : zk_K G mN_set (0, 0) 0 0 [.inr (some 10), .inl x0, .inl x1, .inl x2, .inl x3, .inl x4] (zk_mk G sw σ α t) (fun v h' => v = none ∧ h' = zk_mk G sw (zk_up (zk_up (zk_up (zk_up (zk_up σ 5 x0) 6 x1) 7 x2) 8 x3) 9 x4) α t) := by
  refine zk_K.of (ls := [some (.inr (some 10)), some (.inl x0), some (.inl x1), some (.inl x2), some (.inl x3), some (.inl x4)]) (by decide +kernel) (Nat.le_of_ble_eq_true rfl) rfl ?_
  refine zk_aload_n dN_set_0 rfl ?_
  refine zk_iload_n dN_set_1 rfl ?_
  refine zk_put zfN_18 dN_set_2 (h' := (zk_mk G sw (zk_up σ 5 x0) α t)) rfl (by decide) (Nat.le_of_ble_eq_true rfl) rfl rfl rfl ?_
  refine zk_aload_n dN_set_5 rfl ?_
  refine zk_iload_n dN_set_6 rfl ?_
  refine zk_put zfN_22 dN_set_7 (h' := (zk_mk G sw (zk_up (zk_up σ 5 x0) 6 x1) α t)) rfl (by decide) (Nat.le_of_ble_eq_true rfl) rfl rfl rfl ?_
  refine zk_aload_n dN_set_10 rfl ?_
  refine zk_iload_n dN_set_11 rfl ?_
  refine zk_put zfN_25 dN_set_12 (h' := (zk_mk G sw (zk_up (zk_up (zk_up σ 5 x0) 6 x1) 7 x2) α t)) rfl (by decide) (Nat.le_of_ble_eq_true rfl) rfl rfl rfl ?_
  refine zk_aload_n dN_set_15 rfl ?_
  refine zk_iload dN_set_16 rfl ?_
  refine zk_put zfN_28 dN_set_18 (h' := (zk_mk G sw (zk_up (zk_up (zk_up (zk_up σ 5 x0) 6 x1) 7 x2) 8 x3) α t)) rfl (by decide) (Nat.le_of_ble_eq_true rfl) rfl rfl rfl ?_
  refine zk_aload_n dN_set_21 rfl ?_
  refine zk_iload dN_set_22 rfl ?_
  refine zk_put zfN_31 dN_set_24 (h' := (zk_mk G sw (zk_up (zk_up (zk_up (zk_up (zk_up σ 5 x0) 6 x1) 7 x2) 8 x3) 9 x4) α t)) rfl (by decide) (Nat.le_of_ble_eq_true rfl) rfl rfl rfl ?_
  exact zk_ret dN_set_27 rfl ⟨rfl, rfl⟩

set_option maxRecDepth 100000 in
set_option maxHeartbeats 4000000 in
theorem kN_setFirstOnes (G : zk_G) (sw : Bool) (σ : Nat → Int) (α : Nat → Nat → Int) (t : zk_H) : zk_K G mN_setFirstOnes (1, 25) 0 0 [.inr (some 10)] (zk_mk G sw σ α t) (fun v h' => v = none ∧ h' = zk_mk G sw (zk_up (zk_up (zk_up (zk_up (zk_up σ 5 4) 6 2) 7 4) 8 2) 9 3) α t) := by
  refine zk_K.of (ls := [some (.inr (some 10))]) (by decide +kernel) (Nat.le_of_ble_eq_true rfl) rfl ?_
  refine zk_aload_n dN_setFirstOnes_0 rfl ?_
  refine zk_iconst dN_setFirstOnes_1 ?_
  refine zk_iconst dN_setFirstOnes_2 ?_
  refine zk_iconst dN_setFirstOnes_3 ?_
  refine zk_iconst dN_setFirstOnes_4 ?_
  refine zk_iconst dN_setFirstOnes_5 ?_
  refine zk_callV (av := [.inl 4, .inl 2, .inl 4, .inl 2, .inl 3]) (st := []) (d' := (0, 0)) (kc' := 0) (ks' := 0) zbN_14 dN_setFirstOnes_6 rfl (by decide) rfl rfl (Nat.le_of_ble_eq_true rfl) ⟨by decide, by decide⟩ rfl rfl (kN_set G sw σ α t 4 2 4 2 3) (fun v9 h9 q9 => ?_)
  obtain ⟨rfl, rfl⟩ := q9
  refine zk_W.to (ls' := [some (.inr (some 10))]) (st' := []) (h' := (zk_mk G sw (zk_up (zk_up (zk_up (zk_up (zk_up σ 5 4) 6 2) 7 4) 8 2) 9 3) α t)) rfl rfl rfl ?_
  exact zk_ret dN_setFirstOnes_9 rfl ⟨rfl, rfl⟩

set_option maxRecDepth 100000 in
set_option maxHeartbeats 4000000 in
theorem kN_oneIfOther (G : zk_G) (sw : Bool) (σ : Nat → Int) (α : Nat → Nat → Int) (t : zk_H) {a b : Int} (h1 : zk_rg a) (h2 : zk_rg b) : zk_K G mN_oneIfOther (0, 0) 0 0 [.inl a, .inl b] (zk_mk G sw σ α t) (fun v h' => h' = (zk_mk G sw σ α t) ∧ v = some (.inl (if a = b then 0 else 1))) := by
  refine zk_K.of (ls := [some (.inl a), some (.inl b)]) (by decide +kernel) (Nat.le_of_ble_eq_true rfl) rfl ?_
  refine zk_iload_n dN_oneIfOther_0 rfl ?_
  refine zk_iload_n dN_oneIfOther_1 rfl ?_
  refine zk_icmp_ne (tgt := 9) dN_oneIfOther_2 (by decide) h1 h2 (fun h2' => ?_) (fun h2' => ?_)
  · skip
    refine zk_iconst dN_oneIfOther_9 ?_
    refine zk_iret dN_oneIfOther_10 rfl ⟨rfl, ?_⟩
    rw [if_neg h2']
  · skip
    refine zk_iconst dN_oneIfOther_5 ?_
    refine zk_goto (tgt := 10) dN_oneIfOther_6 (by decide) ?_
    refine zk_iret dN_oneIfOther_10 rfl ⟨rfl, ?_⟩
    rw [if_pos h2']

set_option maxRecDepth 100000 in
set_option maxHeartbeats 4000000 in
theorem kN_countOthers (G : zk_G) (sw : Bool) (σ : Nat → Int) (α : Nat → Nat → Int) (t : zk_H) (hc : ∀ j, j < 5 → 0 ≤ zs_c σ j ∧ zs_c σ j ≤ 100) (x0 x1 x2 x3 x4 : Int) (hx0 : zk_rg x0) (hx1 : zk_rg x1) (hx2 : zk_rg x2) (hx3 : zk_rg x3) (hx4 : zk_rg x4) : zk_K G mN_countOthers (1, 21) 0 0 [.inr (some 10), .inl x0, .inl x1, .inl x2, .inl x3, .inl x4] (zk_mk G sw σ α t) (fun v h' => h' = (zk_mk G sw σ α t) ∧ v = some (.inl ((((((if σ 5 = x0 then 0 else 1) + (if σ 6 = x1 then 0 else 1)) + (if σ 7 = x2 then 0 else 1)) + (if σ 8 = x3 then 0 else 1)) + (if σ 9 = x4 then 0 else 1))))) := by
  refine zk_K.of (ls := [some (.inr (some 10)), some (.inl x0), some (.inl x1), some (.inl x2), some (.inl x3), some (.inl x4)]) (by decide +kernel) (Nat.le_of_ble_eq_true rfl) rfl ?_
  refine zk_aload_n dN_countOthers_0 rfl ?_
  refine zk_get zfN_18 dN_countOthers_1 (v := .inl (σ 5)) rfl (by decide) rfl ?_
  refine zk_iload_n dN_countOthers_4 rfl ?_
  refine zk_callS (av := [.inl (σ 5), .inl x0]) (st := []) (d' := (0, 0)) (kc' := 0) (ks' := 0) zbN_34 dN_countOthers_5 rfl rfl (Nat.le_of_ble_eq_true rfl) ⟨by decide, by decide⟩ rfl rfl (kN_oneIfOther G sw σ α t ⟨by have h9 : 0 ≤ σ 5 ∧ σ 5 ≤ 100 := hc 0 (by decide); omega, by have h9 : 0 ≤ σ 5 ∧ σ 5 ≤ 100 := hc 0 (by decide); omega⟩ hx0) (fun v9 h9 q9 => ?_)
  obtain ⟨rfl, rfl⟩ := q9
  refine zk_W.to (ls' := [some (.inr (some 10)), some (.inl x0), some (.inl x1), some (.inl x2), some (.inl x3), some (.inl x4)]) (st' := [.inl (if σ 5 = x0 then 0 else 1)]) (h' := (zk_mk G sw σ α t)) rfl rfl rfl ?_
  refine zk_aload_n dN_countOthers_8 rfl ?_
  refine zk_get zfN_22 dN_countOthers_9 (v := .inl (σ 6)) rfl (by decide) rfl ?_
  refine zk_iload_n dN_countOthers_12 rfl ?_
  refine zk_callS (av := [.inl (σ 6), .inl x1]) (st := [.inl (if σ 5 = x0 then 0 else 1)]) (d' := (0, 0)) (kc' := 0) (ks' := 0) zbN_34 dN_countOthers_13 rfl rfl (Nat.le_of_ble_eq_true rfl) ⟨by decide, by decide⟩ rfl rfl (kN_oneIfOther G sw σ α t ⟨by have h9 : 0 ≤ σ 6 ∧ σ 6 ≤ 100 := hc 1 (by decide); omega, by have h9 : 0 ≤ σ 6 ∧ σ 6 ≤ 100 := hc 1 (by decide); omega⟩ hx1) (fun v9 h9 q9 => ?_)
  obtain ⟨rfl, rfl⟩ := q9
  refine zk_W.to (ls' := [some (.inr (some 10)), some (.inl x0), some (.inl x1), some (.inl x2), some (.inl x3), some (.inl x4)]) (st' := [.inl (if σ 6 = x1 then 0 else 1), .inl (if σ 5 = x0 then 0 else 1)]) (h' := (zk_mk G sw σ α t)) rfl rfl rfl ?_
  refine zk_iadd dN_countOthers_16 ?_
  refine zk_aload_n dN_countOthers_17 rfl ?_
  refine zk_get zfN_25 dN_countOthers_18 (v := .inl (σ 7)) rfl (by decide) rfl ?_
  refine zk_iload_n dN_countOthers_21 rfl ?_
  refine zk_callS (av := [.inl (σ 7), .inl x2]) (st := [.inl ((if σ 5 = x0 then 0 else 1) + (if σ 6 = x1 then 0 else 1))]) (d' := (0, 0)) (kc' := 0) (ks' := 0) zbN_34 dN_countOthers_22 rfl rfl (Nat.le_of_ble_eq_true rfl) ⟨by decide, by decide⟩ rfl rfl (kN_oneIfOther G sw σ α t ⟨by have h9 : 0 ≤ σ 7 ∧ σ 7 ≤ 100 := hc 2 (by decide); omega, by have h9 : 0 ≤ σ 7 ∧ σ 7 ≤ 100 := hc 2 (by decide); omega⟩ hx2) (fun v9 h9 q9 => ?_)
  obtain ⟨rfl, rfl⟩ := q9
  refine zk_W.to (ls' := [some (.inr (some 10)), some (.inl x0), some (.inl x1), some (.inl x2), some (.inl x3), some (.inl x4)]) (st' := [.inl (if σ 7 = x2 then 0 else 1), .inl ((if σ 5 = x0 then 0 else 1) + (if σ 6 = x1 then 0 else 1))]) (h' := (zk_mk G sw σ α t)) rfl rfl rfl ?_
  refine zk_iadd dN_countOthers_25 ?_
  refine zk_aload_n dN_countOthers_26 rfl ?_
  refine zk_get zfN_28 dN_countOthers_27 (v := .inl (σ 8)) rfl (by decide) rfl ?_
  refine zk_iload dN_countOthers_30 rfl ?_
  refine zk_callS (av := [.inl (σ 8), .inl x3]) (st := [.inl (((if σ 5 = x0 then 0 else 1) + (if σ 6 = x1 then 0 else 1)) + (if σ 7 = x2 then 0 else 1))]) (d' := (0, 0)) (kc' := 0) (ks' := 0) zbN_34 dN_countOthers_32 rfl rfl (Nat.le_of_ble_eq_true rfl) ⟨by decide, by decide⟩ rfl rfl (kN_oneIfOther G sw σ α t ⟨by have h9 : 0 ≤ σ 8 ∧ σ 8 ≤ 100 := hc 3 (by decide); omega, by have h9 : 0 ≤ σ 8 ∧ σ 8 ≤ 100 := hc 3 (by decide); omega⟩ hx3) (fun v9 h9 q9 => ?_)
  obtain ⟨rfl, rfl⟩ := q9
  refine zk_W.to (ls' := [some (.inr (some 10)), some (.inl x0), some (.inl x1), some (.inl x2), some (.inl x3), some (.inl x4)]) (st' := [.inl (if σ 8 = x3 then 0 else 1), .inl (((if σ 5 = x0 then 0 else 1) + (if σ 6 = x1 then 0 else 1)) + (if σ 7 = x2 then 0 else 1))]) (h' := (zk_mk G sw σ α t)) rfl rfl rfl ?_
  refine zk_iadd dN_countOthers_35 ?_
  refine zk_aload_n dN_countOthers_36 rfl ?_
  refine zk_get zfN_31 dN_countOthers_37 (v := .inl (σ 9)) rfl (by decide) rfl ?_
  refine zk_iload dN_countOthers_40 rfl ?_
  refine zk_callS (av := [.inl (σ 9), .inl x4]) (st := [.inl ((((if σ 5 = x0 then 0 else 1) + (if σ 6 = x1 then 0 else 1)) + (if σ 7 = x2 then 0 else 1)) + (if σ 8 = x3 then 0 else 1))]) (d' := (0, 0)) (kc' := 0) (ks' := 0) zbN_34 dN_countOthers_42 rfl rfl (Nat.le_of_ble_eq_true rfl) ⟨by decide, by decide⟩ rfl rfl (kN_oneIfOther G sw σ α t ⟨by have h9 : 0 ≤ σ 9 ∧ σ 9 ≤ 100 := hc 4 (by decide); omega, by have h9 : 0 ≤ σ 9 ∧ σ 9 ≤ 100 := hc 4 (by decide); omega⟩ hx4) (fun v9 h9 q9 => ?_)
  obtain ⟨rfl, rfl⟩ := q9
  refine zk_W.to (ls' := [some (.inr (some 10)), some (.inl x0), some (.inl x1), some (.inl x2), some (.inl x3), some (.inl x4)]) (st' := [.inl (if σ 9 = x4 then 0 else 1), .inl ((((if σ 5 = x0 then 0 else 1) + (if σ 6 = x1 then 0 else 1)) + (if σ 7 = x2 then 0 else 1)) + (if σ 8 = x3 then 0 else 1))]) (h' := (zk_mk G sw σ α t)) rfl rfl rfl ?_
  refine zk_iadd dN_countOthers_45 ?_
  exact zk_iret dN_countOthers_46 rfl ⟨rfl, rfl⟩

set_option maxRecDepth 100000 in
set_option maxHeartbeats 4000000 in
theorem kN_get (G : zk_G) (sw : Bool) (σ : Nat → Int) (α : Nat → Nat → Int) (t : zk_H) {i : Int} (hi : zk_rg i) : zk_K G mN_get (0, 0) 0 0 [.inr (some 10), .inl i] (zk_mk G sw σ α t) (fun v h' => h' = (zk_mk G sw σ α t) ∧ v = some (.inl (if 0 ≤ i ∧ i ≤ 4 then σ (5 + i.toNat) else -2))) := by
  refine zk_K.of (ls := [some (.inr (some 10)), some (.inl i)]) (by decide +kernel) (Nat.le_of_ble_eq_true rfl) rfl ?_
  refine zk_iload_n dN_get_0 rfl ?_
  by_cases h1_0 : i = 0
  · skip
    refine zk_tableIn (tgt := 36) dN_get_1 hi (by omega) (by omega) (by rw [h1_0]; rfl) (by decide) ?_
    refine zk_aload_n dN_get_36 rfl ?_
    refine zk_get zfN_18 dN_get_37 (v := .inl (σ 5)) rfl (by decide) rfl ?_
    refine zk_iret dN_get_40 rfl ⟨rfl, ?_⟩
    first | (rw [h1_0]; rfl) | (rw [h1_1]; rfl) | (rw [h1_2]; rfl) | (rw [h1_3]; rfl) | (rw [h1_4]; rfl) | (rw [if_neg (by omega)])
  by_cases h1_1 : i = 1
  · skip
    refine zk_tableIn (tgt := 41) dN_get_1 hi (by omega) (by omega) (by rw [h1_1]; rfl) (by decide) ?_
    refine zk_aload_n dN_get_41 rfl ?_
    refine zk_get zfN_22 dN_get_42 (v := .inl (σ 6)) rfl (by decide) rfl ?_
    refine zk_iret dN_get_45 rfl ⟨rfl, ?_⟩
    first | (rw [h1_0]; rfl) | (rw [h1_1]; rfl) | (rw [h1_2]; rfl) | (rw [h1_3]; rfl) | (rw [h1_4]; rfl) | (rw [if_neg (by omega)])
  by_cases h1_2 : i = 2
  · skip
    refine zk_tableIn (tgt := 46) dN_get_1 hi (by omega) (by omega) (by rw [h1_2]; rfl) (by decide) ?_
    refine zk_aload_n dN_get_46 rfl ?_
    refine zk_get zfN_25 dN_get_47 (v := .inl (σ 7)) rfl (by decide) rfl ?_
    refine zk_iret dN_get_50 rfl ⟨rfl, ?_⟩
    first | (rw [h1_0]; rfl) | (rw [h1_1]; rfl) | (rw [h1_2]; rfl) | (rw [h1_3]; rfl) | (rw [h1_4]; rfl) | (rw [if_neg (by omega)])
  by_cases h1_3 : i = 3
  · skip
    refine zk_tableIn (tgt := 51) dN_get_1 hi (by omega) (by omega) (by rw [h1_3]; rfl) (by decide) ?_
    refine zk_aload_n dN_get_51 rfl ?_
    refine zk_get zfN_28 dN_get_52 (v := .inl (σ 8)) rfl (by decide) rfl ?_
    refine zk_iret dN_get_55 rfl ⟨rfl, ?_⟩
    first | (rw [h1_0]; rfl) | (rw [h1_1]; rfl) | (rw [h1_2]; rfl) | (rw [h1_3]; rfl) | (rw [h1_4]; rfl) | (rw [if_neg (by omega)])
  by_cases h1_4 : i = 4
  · skip
    refine zk_tableIn (tgt := 56) dN_get_1 hi (by omega) (by omega) (by rw [h1_4]; rfl) (by decide) ?_
    refine zk_aload_n dN_get_56 rfl ?_
    refine zk_get zfN_31 dN_get_57 (v := .inl (σ 9)) rfl (by decide) rfl ?_
    refine zk_iret dN_get_60 rfl ⟨rfl, ?_⟩
    first | (rw [h1_0]; rfl) | (rw [h1_1]; rfl) | (rw [h1_2]; rfl) | (rw [h1_3]; rfl) | (rw [h1_4]; rfl) | (rw [if_neg (by omega)])
  refine zk_tableOut (tgt := 61) dN_get_1 hi (by omega) (by decide) ?_
  refine zk_bipush dN_get_61 (by decide) ?_
  refine zk_iret dN_get_63 rfl ⟨rfl, ?_⟩
  first | (rw [h1_0]; rfl) | (rw [h1_1]; rfl) | (rw [h1_2]; rfl) | (rw [h1_3]; rfl) | (rw [h1_4]; rfl) | (rw [if_neg (by omega)])

set_option maxRecDepth 100000 in
set_option maxHeartbeats 4000000 in
theorem kN_ofCopy (G : zk_G) (sw : Bool) (σ : Nat → Int) (α : Nat → Nat → Int) (t : zk_H) {p s : Int} (hp : zk_rg p) (hs' : zk_rg s) : zk_K G mN_ofCopy (0, 0) 0 0 [.inr (some 10), .inl p, .inl s] (zk_mk G sw σ α t) (fun v h' => h' = (zk_mk G sw σ α t) ∧ v = some (.inl (if p = s then σ 5 else σ 5 + σ 6))) := by
  refine zk_K.of (ls := [some (.inr (some 10)), some (.inl p), some (.inl s)]) (by decide +kernel) (Nat.le_of_ble_eq_true rfl) rfl ?_
  refine zk_iload_n dN_ofCopy_0 rfl ?_
  refine zk_iload_n dN_ofCopy_1 rfl ?_
  refine zk_icmp_ne (tgt := 12) dN_ofCopy_2 (by decide) hp hs' (fun h2 => ?_) (fun h2 => ?_)
  · skip
    refine zk_aload_n dN_ofCopy_12 rfl ?_
    refine zk_get zfN_18 dN_ofCopy_13 (v := .inl (σ 5)) rfl (by decide) rfl ?_
    refine zk_aload_n dN_ofCopy_16 rfl ?_
    refine zk_get zfN_22 dN_ofCopy_17 (v := .inl (σ 6)) rfl (by decide) rfl ?_
    refine zk_iadd dN_ofCopy_20 ?_
    refine zk_iret dN_ofCopy_21 rfl ⟨rfl, ?_⟩
    rw [if_neg h2]
  · skip
    refine zk_aload_n dN_ofCopy_5 rfl ?_
    refine zk_get zfN_18 dN_ofCopy_6 (v := .inl (σ 5)) rfl (by decide) rfl ?_
    refine zk_goto (tgt := 21) dN_ofCopy_9 (by decide) ?_
    refine zk_iret dN_ofCopy_21 rfl ⟨rfl, ?_⟩
    rw [if_pos h2]

set_option maxRecDepth 100000 in
set_option maxHeartbeats 4000000 in
theorem kN_ofSelf (G : zk_G) (sw : Bool) (σ : Nat → Int) (α : Nat → Nat → Int) (t : zk_H) : zk_K G mN_ofSelf (0, 0) 0 0 [.inr (some 10)] (zk_mk G sw σ α t) (fun v h' => h' = (zk_mk G sw σ α t) ∧ v = some (.inl (σ 7))) := by
  refine zk_K.of (ls := [some (.inr (some 10))]) (by decide +kernel) (Nat.le_of_ble_eq_true rfl) rfl ?_
  refine zk_aload_n dN_ofSelf_0 rfl ?_
  refine zk_get zfN_25 dN_ofSelf_1 (v := .inl (σ 7)) rfl (by decide) rfl ?_
  exact zk_iret dN_ofSelf_4 rfl ⟨rfl, rfl⟩

set_option maxRecDepth 100000 in
set_option maxHeartbeats 4000000 in
theorem kN_ofLay (G : zk_G) (sw : Bool) (σ : Nat → Int) (α : Nat → Nat → Int) (t : zk_H) {n : Int} : zk_K G mN_ofLay (0, 0) 0 0 [.inr (some 10), .inl n] (zk_mk G sw σ α t) (fun v h' => h' = (zk_mk G sw σ α t) ∧ v = some (.inl (σ 8 + σ 9 * n))) := by
  refine zk_K.of (ls := [some (.inr (some 10)), some (.inl n)]) (by decide +kernel) (Nat.le_of_ble_eq_true rfl) rfl ?_
  refine zk_aload_n dN_ofLay_0 rfl ?_
  refine zk_get zfN_28 dN_ofLay_1 (v := .inl (σ 8)) rfl (by decide) rfl ?_
  refine zk_aload_n dN_ofLay_4 rfl ?_
  refine zk_get zfN_31 dN_ofLay_5 (v := .inl (σ 9)) rfl (by decide) rfl ?_
  refine zk_iload_n dN_ofLay_8 rfl ?_
  refine zk_imul dN_ofLay_9 ?_
  refine zk_iadd dN_ofLay_10 ?_
  exact zk_iret dN_ofLay_11 rfl ⟨rfl, rfl⟩

set_option maxRecDepth 100000 in
set_option maxHeartbeats 4000000 in
theorem kA_begin (G : zk_G) (sw : Bool) (σ : Nat → Int) (α : Nat → Nat → Int) (t : zk_H) {x : Int} : zk_K G mA_begin (1, 20) 0 0 [.inr (some 11), .inl x] (zk_mk G sw σ α t) (fun v h' => v = none ∧ h' = zk_mk G sw (zk_up (zk_up (zk_up σ 10 0) 4 0) 11 x) α t) := by
  refine zk_K.of (ls := [some (.inr (some 11)), some (.inl x)]) (by decide +kernel) (Nat.le_of_ble_eq_true rfl) rfl ?_
  refine zk_aload_n dA_begin_0 rfl ?_
  refine zk_iconst dA_begin_1 ?_
  refine zk_put zfA_37 dA_begin_2 (h' := (zk_mk G sw (zk_up σ 10 0) α t)) rfl (by decide) (Nat.le_of_ble_eq_true rfl) rfl rfl rfl ?_
  refine zk_aload_n dA_begin_5 rfl ?_
  refine zk_get zfA_29 dA_begin_6 (v := .inr (some 16)) rfl (by decide) rfl ?_
  refine zk_callV (av := []) (st := []) (d' := (0, 0)) (kc' := 0) (ks' := 0) zbA_40 dA_begin_9 rfl (by decide) rfl rfl (Nat.le_of_ble_eq_true rfl) ⟨by decide, by decide⟩ rfl rfl (kR_dropAll G sw (zk_up σ 10 0) α t (q := 4) (by decide)) (fun v9 h9 q9 => ?_)
  obtain ⟨rfl, rfl⟩ := q9
  refine zk_W.to (ls' := [some (.inr (some 11)), some (.inl x)]) (st' := []) (h' := (zk_mk G sw (zk_up (zk_up σ 10 0) 4 0) α t)) rfl rfl rfl ?_
  refine zk_aload_n dA_begin_12 rfl ?_
  refine zk_iload_n dA_begin_13 rfl ?_
  refine zk_put zfA_33 dA_begin_14 (h' := (zk_mk G sw (zk_up (zk_up (zk_up σ 10 0) 4 0) 11 x) α t)) rfl (by decide) (Nat.le_of_ble_eq_true rfl) rfl rfl rfl ?_
  exact zk_ret dA_begin_17 rfl ⟨rfl, rfl⟩

set_option maxRecDepth 100000 in
set_option maxHeartbeats 4000000 in
theorem kA_length (G : zk_G) (sw : Bool) (σ : Nat → Int) (α : Nat → Nat → Int) (t : zk_H) : zk_K G mA_length (0, 0) 0 0 [.inr (some 11)] (zk_mk G sw σ α t) (fun v h' => h' = (zk_mk G sw σ α t) ∧ v = some (.inl (σ 10))) := by
  refine zk_K.of (ls := [some (.inr (some 11))]) (by decide +kernel) (Nat.le_of_ble_eq_true rfl) rfl ?_
  refine zk_aload_n dA_length_0 rfl ?_
  refine zk_get zfA_37 dA_length_1 (v := .inl (σ 10)) rfl (by decide) rfl ?_
  exact zk_iret dA_length_4 rfl ⟨rfl, rfl⟩

set_option maxRecDepth 100000 in
set_option maxHeartbeats 4000000 in
theorem kA_sum (G : zk_G) (sw : Bool) (σ : Nat → Int) (α : Nat → Nat → Int) (t : zk_H) : zk_K G mA_sum (0, 0) 0 0 [.inr (some 11)] (zk_mk G sw σ α t) (fun v h' => h' = (zk_mk G sw σ α t) ∧ v = some (.inl (σ 11))) := by
  refine zk_K.of (ls := [some (.inr (some 11))]) (by decide +kernel) (Nat.le_of_ble_eq_true rfl) rfl ?_
  refine zk_aload_n dA_sum_0 rfl ?_
  refine zk_get zfA_33 dA_sum_1 (v := .inl (σ 11)) rfl (by decide) rfl ?_
  exact zk_iret dA_sum_4 rfl ⟨rfl, rfl⟩

set_option maxRecDepth 100000 in
set_option maxHeartbeats 4000000 in
theorem kA_isFull (G : zk_G) (sw : Bool) (σ : Nat → Int) (α : Nat → Nat → Int) (t : zk_H) (hs : zk_rg (σ 10)) : zk_K G mA_isFull (0, 0) 0 0 [.inr (some 11)] (zk_mk G sw σ α t) (fun v h' => h' = (zk_mk G sw σ α t) ∧ ((100 ≤ σ 10 ∧ v = some (.inl 1)) ∨ (σ 10 < 100 ∧ v = some (.inl 0)))) := by
  refine zk_K.of (ls := [some (.inr (some 11))]) (by decide +kernel) (Nat.le_of_ble_eq_true rfl) rfl ?_
  refine zk_aload_n dA_isFull_0 rfl ?_
  refine zk_get zfA_37 dA_isFull_1 (v := .inl (σ 10)) rfl (by decide) rfl ?_
  refine zk_bipush dA_isFull_4 (by decide) ?_
  refine zk_icmp_lt (tgt := 13) dA_isFull_6 (by decide) hs ⟨by decide, by decide⟩ (fun h6 => ?_) (fun h6 => ?_)
  · skip
    refine zk_iconst dA_isFull_13 ?_
    exact zk_zret dA_isFull_14 rfl (by decide) ⟨rfl, Or.inr ⟨h6, rfl⟩⟩
  · skip
    refine zk_iconst dA_isFull_9 ?_
    refine zk_goto (tgt := 14) dA_isFull_10 (by decide) ?_
    exact zk_zret dA_isFull_14 rfl (by decide) ⟨rfl, Or.inl ⟨h6, rfl⟩⟩

set_option maxRecDepth 100000 in
set_option maxHeartbeats 4000000 in
theorem kA_has (G : zk_G) (sw : Bool) (σ : Nat → Int) (α : Nat → Nat → Int) (t : zk_H) (hs : zk_rg (σ 10)) {k : Int} (hk : zk_rg k) : zk_K G mA_has (0, 0) 0 0 [.inr (some 11), .inl k] (zk_mk G sw σ α t) (fun v h' => h' = (zk_mk G sw σ α t) ∧ (((0 ≤ k ∧ k < σ 10) ∧ v = some (.inl 1)) ∨ ((¬ (0 ≤ k ∧ k < σ 10)) ∧ v = some (.inl 0)))) := by
  refine zk_K.of (ls := [some (.inr (some 11)), some (.inl k)]) (by decide +kernel) (Nat.le_of_ble_eq_true rfl) rfl ?_
  refine zk_iload_n dA_has_0 rfl ?_
  refine zk_if_lt (tgt := 16) dA_has_1 (by decide) hk (fun h1 => ?_) (fun h1 => ?_)
  · skip
    refine zk_iconst dA_has_16 ?_
    exact zk_zret dA_has_17 rfl (by decide) ⟨rfl, Or.inr ⟨by omega, rfl⟩⟩
  · skip
    refine zk_iload_n dA_has_4 rfl ?_
    refine zk_aload_n dA_has_5 rfl ?_
    refine zk_get zfA_37 dA_has_6 (v := .inl (σ 10)) rfl (by decide) rfl ?_
    refine zk_icmp_ge (tgt := 16) dA_has_9 (by decide) hk hs (fun h9 => ?_) (fun h9 => ?_)
    · skip
      refine zk_iconst dA_has_16 ?_
      exact zk_zret dA_has_17 rfl (by decide) ⟨rfl, Or.inr ⟨by omega, rfl⟩⟩
    · skip
      refine zk_iconst dA_has_12 ?_
      refine zk_goto (tgt := 17) dA_has_13 (by decide) ?_
      exact zk_zret dA_has_17 rfl (by decide) ⟨rfl, Or.inl ⟨⟨h1, h9⟩, rfl⟩⟩

set_option maxRecDepth 100000 in
set_option maxHeartbeats 4000000 in
theorem kA_kind (G : zk_G) (sw : Bool) (σ : Nat → Int) (α : Nat → Nat → Int) (t : zk_H) (hs : 0 ≤ σ 10 ∧ σ 10 ≤ 100) {k : Int} (hk : zk_rg k) : zk_K G mA_kind (1, 21) 0 0 [.inr (some 11), .inl k] (zk_mk G sw σ α t) (fun v h' => h' = (zk_mk G sw σ α t) ∧ (((0 ≤ k ∧ k < σ 10) ∧ v = some (.inl (α 5 k.toNat))) ∨ ((¬ (0 ≤ k ∧ k < σ 10)) ∧ v = some (.inl (-1))))) := by
  refine zk_K.of (ls := [some (.inr (some 11)), some (.inl k)]) (by decide +kernel) (Nat.le_of_ble_eq_true rfl) rfl ?_
  refine zk_aload_n dA_kind_0 rfl ?_
  refine zk_iload_n dA_kind_1 rfl ?_
  refine zk_callV (av := [.inl k]) (st := []) (d' := (0, 0)) (kc' := 0) (ks' := 0) zbA_43 dA_kind_2 rfl (by decide) rfl rfl (Nat.le_of_ble_eq_true rfl) ⟨by decide, by decide⟩ rfl rfl (kA_has G sw σ α t ⟨by omega, by omega⟩ hk) (fun v9 h9 q9 => ?_)
  rcases q9 with ⟨rfl, ⟨hc2, rfl⟩ | ⟨hc2, rfl⟩⟩
  · skip
    refine zk_W.to (ls' := [some (.inr (some 11)), some (.inl k)]) (st' := [.inl 1]) (h' := (zk_mk G sw σ α t)) rfl rfl rfl ?_
    refine zk_if_eq (tgt := 17) dA_kind_5 (by decide) ⟨by decide, by decide⟩ (fun h5 => ?_) (fun h5 => ?_)
    · skip
      exact absurd h5 (by decide)
    · skip
      refine zk_aload_n dA_kind_8 rfl ?_
      refine zk_get zfA_9 dA_kind_9 (v := .inr (some 12)) rfl (by decide) rfl ?_
      refine zk_iload_n dA_kind_12 rfl ?_
      refine zk_iald dA_kind_13 (n := 100) (f := α 5) rfl (by omega) (by omega) (by omega) ?_
      refine zk_goto (tgt := 18) dA_kind_14 (by decide) ?_
      exact zk_iret dA_kind_18 rfl ⟨rfl, Or.inl ⟨hc2, rfl⟩⟩
  · skip
    refine zk_W.to (ls' := [some (.inr (some 11)), some (.inl k)]) (st' := [.inl 0]) (h' := (zk_mk G sw σ α t)) rfl rfl rfl ?_
    refine zk_if_eq (tgt := 17) dA_kind_5 (by decide) ⟨by decide, by decide⟩ (fun h5 => ?_) (fun h5 => ?_)
    · skip
      refine zk_iconst dA_kind_17 ?_
      exact zk_iret dA_kind_18 rfl ⟨rfl, Or.inr ⟨hc2, rfl⟩⟩
    · skip
      exact absurd h5 (by decide)

set_option maxRecDepth 100000 in
set_option maxHeartbeats 4000000 in
theorem kA_count (G : zk_G) (sw : Bool) (σ : Nat → Int) (α : Nat → Nat → Int) (t : zk_H) (hs : 0 ≤ σ 10 ∧ σ 10 ≤ 100) {k : Int} (hk : zk_rg k) : zk_K G mA_count (1, 21) 0 0 [.inr (some 11), .inl k] (zk_mk G sw σ α t) (fun v h' => h' = (zk_mk G sw σ α t) ∧ (((0 ≤ k ∧ k < σ 10) ∧ v = some (.inl (α 7 k.toNat))) ∨ ((¬ (0 ≤ k ∧ k < σ 10)) ∧ v = some (.inl 0)))) := by
  refine zk_K.of (ls := [some (.inr (some 11)), some (.inl k)]) (by decide +kernel) (Nat.le_of_ble_eq_true rfl) rfl ?_
  refine zk_aload_n dA_count_0 rfl ?_
  refine zk_iload_n dA_count_1 rfl ?_
  refine zk_callV (av := [.inl k]) (st := []) (d' := (0, 0)) (kc' := 0) (ks' := 0) zbA_43 dA_count_2 rfl (by decide) rfl rfl (Nat.le_of_ble_eq_true rfl) ⟨by decide, by decide⟩ rfl rfl (kA_has G sw σ α t ⟨by omega, by omega⟩ hk) (fun v9 h9 q9 => ?_)
  rcases q9 with ⟨rfl, ⟨hc2, rfl⟩ | ⟨hc2, rfl⟩⟩
  · skip
    refine zk_W.to (ls' := [some (.inr (some 11)), some (.inl k)]) (st' := [.inl 1]) (h' := (zk_mk G sw σ α t)) rfl rfl rfl ?_
    refine zk_if_eq (tgt := 17) dA_count_5 (by decide) ⟨by decide, by decide⟩ (fun h5 => ?_) (fun h5 => ?_)
    · skip
      exact absurd h5 (by decide)
    · skip
      refine zk_aload_n dA_count_8 rfl ?_
      refine zk_get zfA_18 dA_count_9 (v := .inr (some 14)) rfl (by decide) rfl ?_
      refine zk_iload_n dA_count_12 rfl ?_
      refine zk_iald dA_count_13 (n := 100) (f := α 7) rfl (by omega) (by omega) (by omega) ?_
      refine zk_goto (tgt := 18) dA_count_14 (by decide) ?_
      exact zk_iret dA_count_18 rfl ⟨rfl, Or.inl ⟨hc2, rfl⟩⟩
  · skip
    refine zk_W.to (ls' := [some (.inr (some 11)), some (.inl k)]) (st' := [.inl 0]) (h' := (zk_mk G sw σ α t)) rfl rfl rfl ?_
    refine zk_if_eq (tgt := 17) dA_count_5 (by decide) ⟨by decide, by decide⟩ (fun h5 => ?_) (fun h5 => ?_)
    · skip
      refine zk_iconst dA_count_17 ?_
      exact zk_iret dA_count_18 rfl ⟨rfl, Or.inr ⟨hc2, rfl⟩⟩
    · skip
      exact absurd h5 (by decide)

set_option maxRecDepth 100000 in
set_option maxHeartbeats 4000000 in
theorem kA_place (G : zk_G) (sw : Bool) (σ : Nat → Int) (α : Nat → Nat → Int) (t : zk_H) (hs : 0 ≤ σ 10 ∧ σ 10 ≤ 100) {k : Int} (hk : zk_rg k) : zk_K G mA_place (1, 21) 0 0 [.inr (some 11), .inl k] (zk_mk G sw σ α t) (fun v h' => h' = (zk_mk G sw σ α t) ∧ (((0 ≤ k ∧ k < σ 10) ∧ v = some (.inl (α 6 k.toNat))) ∨ ((¬ (0 ≤ k ∧ k < σ 10)) ∧ v = some (.inl (-1))))) := by
  refine zk_K.of (ls := [some (.inr (some 11)), some (.inl k)]) (by decide +kernel) (Nat.le_of_ble_eq_true rfl) rfl ?_
  refine zk_aload_n dA_place_0 rfl ?_
  refine zk_iload_n dA_place_1 rfl ?_
  refine zk_callV (av := [.inl k]) (st := []) (d' := (0, 0)) (kc' := 0) (ks' := 0) zbA_43 dA_place_2 rfl (by decide) rfl rfl (Nat.le_of_ble_eq_true rfl) ⟨by decide, by decide⟩ rfl rfl (kA_has G sw σ α t ⟨by omega, by omega⟩ hk) (fun v9 h9 q9 => ?_)
  rcases q9 with ⟨rfl, ⟨hc2, rfl⟩ | ⟨hc2, rfl⟩⟩
  · skip
    refine zk_W.to (ls' := [some (.inr (some 11)), some (.inl k)]) (st' := [.inl 1]) (h' := (zk_mk G sw σ α t)) rfl rfl rfl ?_
    refine zk_if_eq (tgt := 17) dA_place_5 (by decide) ⟨by decide, by decide⟩ (fun h5 => ?_) (fun h5 => ?_)
    · skip
      exact absurd h5 (by decide)
    · skip
      refine zk_aload_n dA_place_8 rfl ?_
      refine zk_get zfA_15 dA_place_9 (v := .inr (some 13)) rfl (by decide) rfl ?_
      refine zk_iload_n dA_place_12 rfl ?_
      refine zk_iald dA_place_13 (n := 100) (f := α 6) rfl (by omega) (by omega) (by omega) ?_
      refine zk_goto (tgt := 18) dA_place_14 (by decide) ?_
      exact zk_iret dA_place_18 rfl ⟨rfl, Or.inl ⟨hc2, rfl⟩⟩
  · skip
    refine zk_W.to (ls' := [some (.inr (some 11)), some (.inl k)]) (st' := [.inl 0]) (h' := (zk_mk G sw σ α t)) rfl rfl rfl ?_
    refine zk_if_eq (tgt := 17) dA_place_5 (by decide) ⟨by decide, by decide⟩ (fun h5 => ?_) (fun h5 => ?_)
    · skip
      refine zk_iconst dA_place_17 ?_
      exact zk_iret dA_place_18 rfl ⟨rfl, Or.inr ⟨hc2, rfl⟩⟩
    · skip
      exact absurd h5 (by decide)

set_option maxRecDepth 100000 in
set_option maxHeartbeats 4000000 in
theorem kA_laidByte (G : zk_G) (sw : Bool) (σ : Nat → Int) (α : Nat → Nat → Int) (t : zk_H) (hs : 0 ≤ σ 10 ∧ σ 10 ≤ 100) (hn4 : 0 ≤ σ 4 ∧ σ 4 ≤ (zr_N 4 : Int)) {k i : Int} (hk : 0 ≤ k ∧ k < σ 10) (hi : 0 ≤ α 8 k.toNat + i ∧ α 8 k.toNat + i < σ 4) : zk_K G mA_laidByte (2, 42) 0 0 [.inr (some 11), .inl k, .inl i] (zk_mk G sw σ α t) (fun v h' => h' = (zk_mk G sw σ α t) ∧ v = some (.inl (α 4 (α 8 k.toNat + i).toNat))) := by
  have hN4 : (zr_N 4 : Int) = 4000 := rfl
  refine zk_K.of (ls := [some (.inr (some 11)), some (.inl k), some (.inl i)]) (by decide +kernel) (Nat.le_of_ble_eq_true rfl) rfl ?_
  refine zk_aload_n dA_laidByte_0 rfl ?_
  refine zk_iload_n dA_laidByte_1 rfl ?_
  refine zk_callV (av := [.inl k]) (st := []) (d' := (0, 0)) (kc' := 0) (ks' := 0) zbA_43 dA_laidByte_2 rfl (by decide) rfl rfl (Nat.le_of_ble_eq_true rfl) ⟨by decide, by decide⟩ rfl rfl (kA_has G sw σ α t ⟨by omega, by omega⟩ ⟨by omega, by omega⟩) (fun v9 h9 q9 => ?_)
  rcases q9 with ⟨rfl, ⟨hc2, rfl⟩ | ⟨hc2, rfl⟩⟩
  · skip
    refine zk_W.to (ls' := [some (.inr (some 11)), some (.inl k), some (.inl i)]) (st' := [.inl 1]) (h' := (zk_mk G sw σ α t)) rfl rfl rfl ?_
    refine zk_if_eq (tgt := 26) dA_laidByte_5 (by decide) ⟨by decide, by decide⟩ (fun h5 => ?_) (fun h5 => ?_)
    · skip
      exact absurd h5 (by decide)
    · skip
      refine zk_aload_n dA_laidByte_8 rfl ?_
      refine zk_get zfA_29 dA_laidByte_9 (v := .inr (some 16)) rfl (by decide) rfl ?_
      refine zk_aload_n dA_laidByte_12 rfl ?_
      refine zk_get zfA_21 dA_laidByte_13 (v := .inr (some 15)) rfl (by decide) rfl ?_
      refine zk_iload_n dA_laidByte_16 rfl ?_
      refine zk_iald dA_laidByte_17 (n := 100) (f := α 8) rfl (by omega) (by omega) (by omega) ?_
      refine zk_iload_n dA_laidByte_18 rfl ?_
      refine zk_iadd dA_laidByte_19 ?_
      refine zk_callV (av := [.inl ((α 8 k.toNat) + i)]) (st := []) (d' := (1, 21)) (kc' := 0) (ks' := 0) zbA_47 dA_laidByte_20 rfl (by decide) rfl rfl (Nat.le_of_ble_eq_true rfl) ⟨by decide, by decide⟩ rfl rfl (kR_get G sw σ α t (q := 4) (by decide) hn4 ⟨by omega, by omega⟩) (fun v9 h9 q9 => ?_)
      rcases q9 with ⟨rfl, ⟨hc20, rfl⟩ | ⟨hc20, rfl⟩⟩
      · skip
        refine zk_W.to (ls' := [some (.inr (some 11)), some (.inl k), some (.inl i)]) (st' := [.inl (α 4 ((α 8 k.toNat) + i).toNat)]) (h' := (zk_mk G sw σ α t)) rfl rfl rfl ?_
        refine zk_goto (tgt := 27) dA_laidByte_23 (by decide) ?_
        exact zk_iret dA_laidByte_27 rfl ⟨rfl, rfl⟩
      · skip
        refine zk_W.to (ls' := [some (.inr (some 11)), some (.inl k), some (.inl i)]) (st' := [.inl (-1)]) (h' := (zk_mk G sw σ α t)) rfl rfl rfl ?_
        refine zk_goto (tgt := 27) dA_laidByte_23 (by decide) ?_
        first | exact absurd hk hc2 | exact absurd hi hc20
  · skip
    refine zk_W.to (ls' := [some (.inr (some 11)), some (.inl k), some (.inl i)]) (st' := [.inl 0]) (h' := (zk_mk G sw σ α t)) rfl rfl rfl ?_
    refine zk_if_eq (tgt := 26) dA_laidByte_5 (by decide) ⟨by decide, by decide⟩ (fun h5 => ?_) (fun h5 => ?_)
    · skip
      refine zk_iconst dA_laidByte_26 ?_
      first | exact absurd hk hc2 | exact absurd hi hc20
    · skip
      exact absurd h5 (by decide)

def mt_spot (K P C : Nat → Int) : Nat → Int
  | 0 => 0
  | n + 1 => if K n = 0 then P n + C n else mt_spot K P C n

set_option maxRecDepth 100000 in
set_option maxHeartbeats 4000000 in
theorem wA_spotAhead (G : zk_G) (sw : Bool) (σ : Nat → Int) (α : Nat → Nat → Int) (t : zk_H) (ha : ∀ q j, q < 9 → zk_rg (α q j)) (hs : 0 ≤ σ 10 ∧ σ 10 ≤ 100) {k : Int} : ∀ (n : Nat), (n : Int) ≤ σ 10 → mt_spot (α 5) (α 6) (α 7) n = mt_spot (α 5) (α 6) (α 7) k.toNat → zk_W G mA_spotAhead (1, 18) 0 0 11 [some (.inr (some 11)), some (.inl k), some (.inl ((n : Int) - 1))] [] (zk_mk G sw σ α t) (fun v h' => h' = (zk_mk G sw σ α t) ∧ v = some (.inl (mt_spot (α 5) (α 6) (α 7) k.toNat))) := by
  intro n
  induction n with
  | zero =>
    intro g1 g2
    refine zk_iload_n dA_spotAhead_11 rfl ?_
    refine zk_if_lt (tgt := 44) dA_spotAhead_12 (by decide) ⟨by omega, by omega⟩ (fun h12 => ?_) (fun h12 => ?_)
    · skip
      refine zk_iconst dA_spotAhead_44 ?_
      exact zk_iret dA_spotAhead_45 rfl ⟨rfl, by rw [← g2]; rfl⟩
    · skip
      exfalso; omega
  | succ n ih =>
    intro g1 g2
    have en : (((n + 1 : Nat) : Int) - 1).toNat = n := by omega
    have hk := ha 5 (((n + 1 : Nat) : Int) - 1).toNat (by decide)
    refine zk_iload_n dA_spotAhead_11 rfl ?_
    refine zk_if_lt (tgt := 44) dA_spotAhead_12 (by decide) ⟨by omega, by omega⟩ (fun h12 => ?_) (fun h12 => ?_)
    · skip
      exfalso; omega
    · skip
      refine zk_aload_n dA_spotAhead_15 rfl ?_
      refine zk_get zfA_9 dA_spotAhead_16 (v := .inr (some 12)) rfl (by decide) rfl ?_
      refine zk_iload_n dA_spotAhead_19 rfl ?_
      refine zk_iald dA_spotAhead_20 (n := 100) (f := α 5) rfl (by omega) (by omega) (by omega) ?_
      refine zk_if_ne (tgt := 38) dA_spotAhead_21 (by decide) hk (fun h21 => ?_) (fun h21 => ?_)
      · skip
        refine zk_iinc (ls' := [some (.inr (some 11)), some (.inl k), some (.inl (((n + 1 : Nat) : Int) - 1 + (-1)))]) dA_spotAhead_38 rfl (by decide) rfl ?_
        refine zk_goto (tgt := 11) dA_spotAhead_41 (by decide) ?_
        have e2 : ((n + 1 : Nat) : Int) - 1 + (-1) = (n : Int) - 1 := by omega
        rw [e2]
        refine ih (by omega) ?_
        rw [← g2]
        rw [en] at h21
        show _ = (if α 5 n = 0 then α 6 n + α 7 n else mt_spot (α 5) (α 6) (α 7) n)
        rw [if_neg h21]
      · skip
        refine zk_aload_n dA_spotAhead_24 rfl ?_
        refine zk_get zfA_15 dA_spotAhead_25 (v := .inr (some 13)) rfl (by decide) rfl ?_
        refine zk_iload_n dA_spotAhead_28 rfl ?_
        refine zk_iald dA_spotAhead_29 (n := 100) (f := α 6) rfl (by omega) (by omega) (by omega) ?_
        refine zk_aload_n dA_spotAhead_30 rfl ?_
        refine zk_get zfA_18 dA_spotAhead_31 (v := .inr (some 14)) rfl (by decide) rfl ?_
        refine zk_iload_n dA_spotAhead_34 rfl ?_
        refine zk_iald dA_spotAhead_35 (n := 100) (f := α 7) rfl (by omega) (by omega) (by omega) ?_
        refine zk_iadd dA_spotAhead_36 ?_
        refine zk_iret dA_spotAhead_37 rfl ⟨rfl, ?_⟩
        rw [en] at h21
        rw [← g2, en]
        show _ = some (Sum.inl (if α 5 n = 0 then α 6 n + α 7 n else mt_spot (α 5) (α 6) (α 7) n))
        rw [if_pos h21]

set_option maxRecDepth 100000 in
set_option maxHeartbeats 4000000 in
theorem kA_spotAhead (G : zk_G) (sw : Bool) (σ : Nat → Int) (α : Nat → Nat → Int) (t : zk_H) (ha : ∀ q j, q < 9 → zk_rg (α q j)) (hs : 0 ≤ σ 10 ∧ σ 10 ≤ 100) {k : Int} (hk : 0 ≤ k ∧ k ≤ σ 10) : zk_K G mA_spotAhead (1, 18) 0 0 [.inr (some 11), .inl k] (zk_mk G sw σ α t) (fun v h' => h' = (zk_mk G sw σ α t) ∧ v = some (.inl (mt_spot (α 5) (α 6) (α 7) k.toNat))) := by
  refine zk_K.of (ls := [some (.inr (some 11)), some (.inl k), none]) (by decide +kernel) (Nat.le_of_ble_eq_true rfl) rfl ?_
  refine zk_iload_n dA_spotAhead_0 rfl ?_
  refine zk_aload_n dA_spotAhead_1 rfl ?_
  refine zk_get zfA_37 dA_spotAhead_2 (v := .inl (σ 10)) rfl (by decide) rfl ?_
  refine zk_mmin dA_spotAhead_5 zlA_51 zw_mins zw_mi zw_minc ⟨by decide, Nat.le_of_ble_eq_true rfl⟩ ⟨by omega, by omega⟩ ⟨by omega, by omega⟩ ?_
  refine zk_iconst dA_spotAhead_8 ?_
  refine zk_isub dA_spotAhead_9 ?_
  refine zk_istore_n (ls' := [some (.inr (some 11)), some (.inl k), some (.inl ((min k (σ 10)) - 1))]) dA_spotAhead_10 (by decide) rfl ?_
  have e1 : min k (σ 10) - 1 = ((k.toNat : Nat) : Int) - 1 := by omega
  rw [e1]
  exact wA_spotAhead G sw σ α t ha hs k.toNat (by omega) rfl

set_option maxRecDepth 100000 in
set_option maxHeartbeats 4000000 in
theorem kA_append (G : zk_G) (sw : Bool) (σ : Nat → Int) (α : Nat → Nat → Int) (t : zk_H) (hs : 0 ≤ σ 10 ∧ σ 10 ≤ 100) (hf : σ 10 < 100) {x p n : Int} : zk_K G mA_append (1, 20) 0 0 [.inr (some 11), .inl x, .inl p, .inl n] (zk_mk G sw σ α t) (fun v h' => v = none ∧ h' = zk_mk G sw (zk_up σ 10 (σ 10 + 1)) (zk_ua (zk_ua (zk_ua (zk_ua α 5 (zk_up (α 5) (σ 10).toNat x)) 6 (zk_up (α 6) (σ 10).toNat p)) 7 (zk_up (α 7) (σ 10).toNat n)) 8 (zk_up (α 8) (σ 10).toNat (σ 4))) t) := by
  refine zk_K.of (ls := [some (.inr (some 11)), some (.inl x), some (.inl p), some (.inl n)]) (by decide +kernel) (Nat.le_of_ble_eq_true rfl) rfl ?_
  refine zk_aload_n dA_append_0 rfl ?_
  refine zk_callV (av := []) (st := []) (d' := (0, 0)) (kc' := 0) (ks' := 0) zbA_57 dA_append_1 rfl (by decide) rfl rfl (Nat.le_of_ble_eq_true rfl) ⟨by decide, by decide⟩ rfl rfl (kA_isFull G sw σ α t ⟨by omega, by omega⟩) (fun v9 h9 q9 => ?_)
  rcases q9 with ⟨rfl, ⟨hc1, rfl⟩ | ⟨hc1, rfl⟩⟩
  · skip
    refine zk_W.to (ls' := [some (.inr (some 11)), some (.inl x), some (.inl p), some (.inl n)]) (st' := [.inl 1]) (h' := (zk_mk G sw σ α t)) rfl rfl rfl ?_
    refine zk_if_ne (tgt := 63) dA_append_4 (by decide) ⟨by decide, by decide⟩ (fun h4 => ?_) (fun h4 => ?_)
    · skip
      exfalso; omega
    · skip
      exact absurd h4 (by decide)
  · skip
    refine zk_W.to (ls' := [some (.inr (some 11)), some (.inl x), some (.inl p), some (.inl n)]) (st' := [.inl 0]) (h' := (zk_mk G sw σ α t)) rfl rfl rfl ?_
    refine zk_if_ne (tgt := 63) dA_append_4 (by decide) ⟨by decide, by decide⟩ (fun h4 => ?_) (fun h4 => ?_)
    · skip
      exact absurd h4 (by decide)
    · skip
      refine zk_aload_n dA_append_7 rfl ?_
      refine zk_get zfA_9 dA_append_8 (v := .inr (some 12)) rfl (by decide) rfl ?_
      refine zk_aload_n dA_append_11 rfl ?_
      refine zk_get zfA_37 dA_append_12 (v := .inl (σ 10)) rfl (by decide) rfl ?_
      refine zk_iload_n dA_append_15 rfl ?_
      refine zk_iast dA_append_16 (n := 100) (f := α 5) (h' := (zk_mk G sw σ (zk_ua α 5 (zk_up (α 5) (σ 10).toNat x)) t)) rfl (by decide) (by omega) (by omega) (by omega) rfl ?_
      refine zk_aload_n dA_append_17 rfl ?_
      refine zk_get zfA_15 dA_append_18 (v := .inr (some 13)) rfl (by decide) rfl ?_
      refine zk_aload_n dA_append_21 rfl ?_
      refine zk_get zfA_37 dA_append_22 (v := .inl (σ 10)) rfl (by decide) rfl ?_
      refine zk_iload_n dA_append_25 rfl ?_
      refine zk_iast dA_append_26 (n := 100) (f := α 6) (h' := (zk_mk G sw σ (zk_ua (zk_ua α 5 (zk_up (α 5) (σ 10).toNat x)) 6 (zk_up (α 6) (σ 10).toNat p)) t)) rfl (by decide) (by omega) (by omega) (by omega) rfl ?_
      refine zk_aload_n dA_append_27 rfl ?_
      refine zk_get zfA_18 dA_append_28 (v := .inr (some 14)) rfl (by decide) rfl ?_
      refine zk_aload_n dA_append_31 rfl ?_
      refine zk_get zfA_37 dA_append_32 (v := .inl (σ 10)) rfl (by decide) rfl ?_
      refine zk_iload_n dA_append_35 rfl ?_
      refine zk_iast dA_append_36 (n := 100) (f := α 7) (h' := (zk_mk G sw σ (zk_ua (zk_ua (zk_ua α 5 (zk_up (α 5) (σ 10).toNat x)) 6 (zk_up (α 6) (σ 10).toNat p)) 7 (zk_up (α 7) (σ 10).toNat n)) t)) rfl (by decide) (by omega) (by omega) (by omega) rfl ?_
      refine zk_aload_n dA_append_37 rfl ?_
      refine zk_get zfA_21 dA_append_38 (v := .inr (some 15)) rfl (by decide) rfl ?_
      refine zk_aload_n dA_append_41 rfl ?_
      refine zk_get zfA_37 dA_append_42 (v := .inl (σ 10)) rfl (by decide) rfl ?_
      refine zk_aload_n dA_append_45 rfl ?_
      refine zk_get zfA_29 dA_append_46 (v := .inr (some 16)) rfl (by decide) rfl ?_
      refine zk_callV (av := []) (st := [.inl (σ 10), .inr (some 15)]) (d' := (0, 0)) (kc' := 0) (ks' := 0) zbA_61 dA_append_49 rfl (by decide) rfl rfl (Nat.le_of_ble_eq_true rfl) ⟨by decide, by decide⟩ rfl rfl (kR_length G sw σ (zk_ua (zk_ua (zk_ua α 5 (zk_up (α 5) (σ 10).toNat x)) 6 (zk_up (α 6) (σ 10).toNat p)) 7 (zk_up (α 7) (σ 10).toNat n)) t (q := 4) (by decide)) (fun v9 h9 q9 => ?_)
      obtain ⟨rfl, rfl⟩ := q9
      refine zk_W.to (ls' := [some (.inr (some 11)), some (.inl x), some (.inl p), some (.inl n)]) (st' := [.inl (σ 4), .inl (σ 10), .inr (some 15)]) (h' := (zk_mk G sw σ (zk_ua (zk_ua (zk_ua α 5 (zk_up (α 5) (σ 10).toNat x)) 6 (zk_up (α 6) (σ 10).toNat p)) 7 (zk_up (α 7) (σ 10).toNat n)) t)) rfl rfl rfl ?_
      refine zk_iast dA_append_52 (n := 100) (f := α 8) (h' := (zk_mk G sw σ (zk_ua (zk_ua (zk_ua (zk_ua α 5 (zk_up (α 5) (σ 10).toNat x)) 6 (zk_up (α 6) (σ 10).toNat p)) 7 (zk_up (α 7) (σ 10).toNat n)) 8 (zk_up (α 8) (σ 10).toNat (σ 4))) t)) rfl (by decide) (by omega) (by omega) (by omega) rfl ?_
      refine zk_aload_n dA_append_53 rfl ?_
      refine zk_dup dA_append_54 ?_
      refine zk_get zfA_37 dA_append_55 (v := .inl (σ 10)) rfl (by decide) rfl ?_
      refine zk_iconst dA_append_58 ?_
      refine zk_iadd dA_append_59 ?_
      refine zk_put zfA_37 dA_append_60 (h' := (zk_mk G sw (zk_up σ 10 ((σ 10) + 1)) (zk_ua (zk_ua (zk_ua (zk_ua α 5 (zk_up (α 5) (σ 10).toNat x)) 6 (zk_up (α 6) (σ 10).toNat p)) 7 (zk_up (α 7) (σ 10).toNat n)) 8 (zk_up (α 8) (σ 10).toNat (σ 4))) t)) rfl (by decide) (Nat.le_of_ble_eq_true rfl) rfl rfl rfl ?_
      exact zk_ret dA_append_63 rfl ⟨rfl, rfl⟩

set_option maxRecDepth 100000 in
set_option maxHeartbeats 4000000 in
theorem kA_openLay (G : zk_G) (sw : Bool) (σ : Nat → Int) (α : Nat → Nat → Int) (t : zk_H) (hs10 : 0 ≤ σ 10 ∧ σ 10 ≤ 100) (hf10 : σ 10 < 100) : zk_K G mA_openLay (2, 43) 0 0 [.inr (some 11)] (zk_mk G sw σ α t) (fun v h' => v = none ∧ h' = zk_mk G sw (zk_up σ 10 (σ 10 + 1)) (zk_ua (zk_ua (zk_ua (zk_ua α 5 (zk_up (α 5) (σ 10).toNat 2)) 6 (zk_up (α 6) (σ 10).toNat (-1))) 7 (zk_up (α 7) (σ 10).toNat 0)) 8 (zk_up (α 8) (σ 10).toNat (σ 4))) t) := by
  refine zk_K.of (ls := [some (.inr (some 11))]) (by decide +kernel) (Nat.le_of_ble_eq_true rfl) rfl ?_
  refine zk_aload_n dA_openLay_0 rfl ?_
  refine zk_iconst dA_openLay_1 ?_
  refine zk_iconst dA_openLay_2 ?_
  refine zk_iconst dA_openLay_3 ?_
  refine zk_callV (av := [.inl 2, .inl (-1), .inl 0]) (st := []) (d' := (1, 20)) (kc' := 0) (ks' := 0) zbA_65 dA_openLay_4 rfl (by decide) rfl rfl (Nat.le_of_ble_eq_true rfl) ⟨by decide, by decide⟩ rfl rfl (kA_append G sw σ α t hs10 hf10) (fun v9 h9 q9 => ?_)
  obtain ⟨rfl, rfl⟩ := q9
  refine zk_W.to (ls' := [some (.inr (some 11))]) (st' := []) (h' := (zk_mk G sw (zk_up σ 10 (σ 10 + 1)) (zk_ua (zk_ua (zk_ua (zk_ua α 5 (zk_up (α 5) (σ 10).toNat 2)) 6 (zk_up (α 6) (σ 10).toNat (-1))) 7 (zk_up (α 7) (σ 10).toNat 0)) 8 (zk_up (α 8) (σ 10).toNat (σ 4))) t)) rfl rfl rfl ?_
  exact zk_ret dA_openLay_7 rfl ⟨rfl, rfl⟩

/-- the last act is a LAY of less than 40 -/
def zk_tk (σ : Nat → Int) (α : Nat → Nat → Int) : Prop := 0 < σ 10 ∧ α 5 (σ 10 - 1).toNat = 2 ∧ α 7 (σ 10 - 1).toNat < 40

set_option maxRecDepth 100000 in
set_option maxHeartbeats 4000000 in
theorem kA_takesByte (G : zk_G) (sw : Bool) (σ : Nat → Int) (α : Nat → Nat → Int) (t : zk_H) (hs10 : 0 ≤ σ 10 ∧ σ 10 ≤ 100) (ha : ∀ q j, q < 9 → zk_rg (α q j)) : zk_K G mA_takesByte (2, 42) 0 0 [.inr (some 11)] (zk_mk G sw σ α t) (fun v h' => h' = (zk_mk G sw σ α t) ∧ ((zk_tk σ α ∧ v = some (.inl 1)) ∨ ((¬ zk_tk σ α) ∧ v = some (.inl 0)))) := by
  refine zk_K.of (ls := [some (.inr (some 11))]) (by decide +kernel) (Nat.le_of_ble_eq_true rfl) rfl ?_
  refine zk_aload_n dA_takesByte_0 rfl ?_
  refine zk_aload_n dA_takesByte_1 rfl ?_
  refine zk_get zfA_37 dA_takesByte_2 (v := .inl (σ 10)) rfl (by decide) rfl ?_
  refine zk_iconst dA_takesByte_5 ?_
  refine zk_isub dA_takesByte_6 ?_
  refine zk_callV (av := [.inl ((σ 10) - 1)]) (st := []) (d' := (1, 21)) (kc' := 0) (ks' := 0) zbA_69 dA_takesByte_7 rfl (by decide) rfl rfl (Nat.le_of_ble_eq_true rfl) ⟨by decide, by decide⟩ rfl rfl (kA_kind G sw σ α t hs10 ⟨by omega, by omega⟩) (fun v9 h9 q9 => ?_)
  rcases q9 with ⟨rfl, ⟨hc7, rfl⟩ | ⟨hc7, rfl⟩⟩
  · skip
    refine zk_W.to (ls' := [some (.inr (some 11))]) (st' := [.inl (α 5 ((σ 10) - 1).toNat)]) (h' := (zk_mk G sw σ α t)) rfl rfl rfl ?_
    refine zk_iconst dA_takesByte_10 ?_
    refine zk_icmp_ne (tgt := 33) dA_takesByte_11 (by decide) (ha _ _ (by decide)) ⟨by decide, by decide⟩ (fun h11 => ?_) (fun h11 => ?_)
    · skip
      refine zk_iconst dA_takesByte_33 ?_
      refine zk_zret dA_takesByte_34 rfl (by decide) ⟨rfl, Or.inr ⟨fun hh => ?_, rfl⟩⟩
      have g1 := hh.1
      have g2 := hh.2.1
      have g3 := hh.2.2
      first | (exfalso; omega) | exact absurd g2 h11 | exact absurd g3 (by omega)
    · skip
      refine zk_aload_n dA_takesByte_14 rfl ?_
      refine zk_aload_n dA_takesByte_15 rfl ?_
      refine zk_get zfA_37 dA_takesByte_16 (v := .inl (σ 10)) rfl (by decide) rfl ?_
      refine zk_iconst dA_takesByte_19 ?_
      refine zk_isub dA_takesByte_20 ?_
      refine zk_callV (av := [.inl ((σ 10) - 1)]) (st := []) (d' := (1, 21)) (kc' := 0) (ks' := 0) zbA_72 dA_takesByte_21 rfl (by decide) rfl rfl (Nat.le_of_ble_eq_true rfl) ⟨by decide, by decide⟩ rfl rfl (kA_count G sw σ α t hs10 ⟨by omega, by omega⟩) (fun v9 h9 q9 => ?_)
      rcases q9 with ⟨rfl, ⟨hc21, rfl⟩ | ⟨hc21, rfl⟩⟩
      · skip
        refine zk_W.to (ls' := [some (.inr (some 11))]) (st' := [.inl (α 7 ((σ 10) - 1).toNat)]) (h' := (zk_mk G sw σ α t)) rfl rfl rfl ?_
        refine zk_bipush dA_takesByte_24 (by decide) ?_
        refine zk_icmp_ge (tgt := 33) dA_takesByte_26 (by decide) (ha _ _ (by decide)) ⟨by decide, by decide⟩ (fun h26 => ?_) (fun h26 => ?_)
        · skip
          refine zk_iconst dA_takesByte_33 ?_
          refine zk_zret dA_takesByte_34 rfl (by decide) ⟨rfl, Or.inr ⟨fun hh => ?_, rfl⟩⟩
          have g1 := hh.1
          have g2 := hh.2.1
          have g3 := hh.2.2
          first | (exfalso; omega) | exact absurd g2 h11 | exact absurd g3 (by omega)
        · skip
          refine zk_iconst dA_takesByte_29 ?_
          refine zk_goto (tgt := 34) dA_takesByte_30 (by decide) ?_
          first | exact zk_zret dA_takesByte_34 rfl (by decide) ⟨rfl, Or.inl ⟨⟨by omega, h11, h26⟩, rfl⟩⟩ | (exfalso; omega)
      · skip
        refine zk_W.to (ls' := [some (.inr (some 11))]) (st' := [.inl 0]) (h' := (zk_mk G sw σ α t)) rfl rfl rfl ?_
        refine zk_bipush dA_takesByte_24 (by decide) ?_
        refine zk_icmp_ge (tgt := 33) dA_takesByte_26 (by decide) ⟨by decide, by decide⟩ ⟨by decide, by decide⟩ (fun h26 => ?_) (fun h26 => ?_)
        · skip
          exact absurd h26 (by decide)
        · skip
          refine zk_iconst dA_takesByte_29 ?_
          refine zk_goto (tgt := 34) dA_takesByte_30 (by decide) ?_
          first | exact zk_zret dA_takesByte_34 rfl (by decide) ⟨rfl, Or.inl ⟨⟨by omega, h11, h26⟩, rfl⟩⟩ | (exfalso; omega)
  · skip
    refine zk_W.to (ls' := [some (.inr (some 11))]) (st' := [.inl (-1)]) (h' := (zk_mk G sw σ α t)) rfl rfl rfl ?_
    refine zk_iconst dA_takesByte_10 ?_
    refine zk_icmp_ne (tgt := 33) dA_takesByte_11 (by decide) ⟨by decide, by decide⟩ ⟨by decide, by decide⟩ (fun h11 => ?_) (fun h11 => ?_)
    · skip
      refine zk_iconst dA_takesByte_33 ?_
      refine zk_zret dA_takesByte_34 rfl (by decide) ⟨rfl, Or.inr ⟨fun hh => ?_, rfl⟩⟩
      have g1 := hh.1
      have g2 := hh.2.1
      have g3 := hh.2.2
      first | (exfalso; omega) | exact absurd g2 h11 | exact absurd g3 (by omega)
    · skip
      exact absurd h11 (by decide)

set_option maxRecDepth 100000 in
set_option maxHeartbeats 4000000 in
theorem kA_layByte (G : zk_G) (sw : Bool) (σ : Nat → Int) (α : Nat → Nat → Int) (t : zk_H) (hs10 : 0 ≤ σ 10 ∧ σ 10 ≤ 100) (ha : ∀ q j, q < 9 → zk_rg (α q j)) (hn4 : 0 ≤ σ 4 ∧ σ 4 ≤ (zr_N 4 : Int)) (hk : zk_tk σ α) (h4 : σ 4 < 4000) {x : Int} : zk_K G mA_layByte (3, 62) 0 0 [.inr (some 11), .inl x] (zk_mk G sw σ α t) (fun v h' => v = none ∧ h' = zk_mk G sw (zk_up σ 4 (σ 4 + 1)) (zk_ua (zk_ua α 4 (zk_up (α 4) (σ 4).toNat x)) 7 (zk_up (α 7) (σ 10 - 1).toNat (α 7 (σ 10 - 1).toNat + 1))) t) := by
  have hk1 := hk.1
  refine zk_K.of (ls := [some (.inr (some 11)), some (.inl x)]) (by decide +kernel) (Nat.le_of_ble_eq_true rfl) rfl ?_
  refine zk_aload_n dA_layByte_0 rfl ?_
  refine zk_callV (av := []) (st := []) (d' := (2, 42)) (kc' := 0) (ks' := 0) zbA_75 dA_layByte_1 rfl (by decide) rfl rfl (Nat.le_of_ble_eq_true rfl) ⟨by decide, by decide⟩ rfl rfl (kA_takesByte G sw σ α t hs10 ha) (fun v9 h9 q9 => ?_)
  rcases q9 with ⟨rfl, ⟨hc1, rfl⟩ | ⟨hc1, rfl⟩⟩
  · skip
    refine zk_W.to (ls' := [some (.inr (some 11)), some (.inl x)]) (st' := [.inl 1]) (h' := (zk_mk G sw σ α t)) rfl rfl rfl ?_
    refine zk_if_eq (tgt := 30) dA_layByte_4 (by decide) ⟨by decide, by decide⟩ (fun h4 => ?_) (fun h4 => ?_)
    · skip
      exact absurd h4 (by decide)
    · skip
      refine zk_aload_n dA_layByte_7 rfl ?_
      refine zk_get zfA_29 dA_layByte_8 (v := .inr (some 16)) rfl (by decide) rfl ?_
      refine zk_iload_n dA_layByte_11 rfl ?_
      refine zk_callV (av := [.inl x]) (st := []) (d' := (1, 20)) (kc' := 0) (ks' := 0) zbA_78 dA_layByte_12 rfl (by decide) rfl rfl (Nat.le_of_ble_eq_true rfl) ⟨by decide, by decide⟩ rfl rfl (kR_append G sw σ α t (q := 4) (by decide) hn4) (fun v9 h9 q9 => ?_)
      rcases q9 with ⟨rfl, ⟨hc12, rfl⟩ | ⟨hc12, rfl⟩⟩
      · skip
        refine zk_W.to (ls' := [some (.inr (some 11)), some (.inl x)]) (st' := []) (h' := (zk_mk G sw (zk_up σ 4 (σ 4 + 1)) (zk_ua α 4 (zk_up (α 4) (σ 4).toNat x)) t)) rfl rfl rfl ?_
        refine zk_aload_n dA_layByte_15 rfl ?_
        refine zk_get zfA_18 dA_layByte_16 (v := .inr (some 14)) rfl (by decide) rfl ?_
        refine zk_aload_n dA_layByte_19 rfl ?_
        refine zk_get zfA_37 dA_layByte_20 (v := .inl (σ 10)) rfl (by decide) rfl ?_
        refine zk_iconst dA_layByte_23 ?_
        refine zk_isub dA_layByte_24 ?_
        refine zk_dup2 dA_layByte_25 ?_
        refine zk_iald dA_layByte_26 (n := 100) (f := α 7) rfl (by omega) (by omega) (by omega) ?_
        refine zk_iconst dA_layByte_27 ?_
        refine zk_iadd dA_layByte_28 ?_
        refine zk_iast dA_layByte_29 (n := 100) (f := α 7) (h' := (zk_mk G sw (zk_up σ 4 (σ 4 + 1)) (zk_ua (zk_ua α 4 (zk_up (α 4) (σ 4).toNat x)) 7 (zk_up (α 7) ((σ 10) - 1).toNat ((α 7 ((σ 10) - 1).toNat) + 1))) t)) rfl (by decide) (by omega) (by omega) (by omega) rfl ?_
        exact zk_ret dA_layByte_30 rfl ⟨rfl, rfl⟩
      · skip
        refine zk_W.to (ls' := [some (.inr (some 11)), some (.inl x)]) (st' := []) (h' := (zk_mk G sw σ α t)) rfl rfl rfl ?_
        refine zk_aload_n dA_layByte_15 rfl ?_
        refine zk_get zfA_18 dA_layByte_16 (v := .inr (some 14)) rfl (by decide) rfl ?_
        refine zk_aload_n dA_layByte_19 rfl ?_
        refine zk_get zfA_37 dA_layByte_20 (v := .inl (σ 10)) rfl (by decide) rfl ?_
        refine zk_iconst dA_layByte_23 ?_
        refine zk_isub dA_layByte_24 ?_
        refine zk_dup2 dA_layByte_25 ?_
        refine zk_iald dA_layByte_26 (n := 100) (f := α 7) rfl (by omega) (by omega) (by omega) ?_
        refine zk_iconst dA_layByte_27 ?_
        refine zk_iadd dA_layByte_28 ?_
        refine zk_iast dA_layByte_29 (n := 100) (f := α 7) (h' := (zk_mk G sw σ (zk_ua α 7 (zk_up (α 7) ((σ 10) - 1).toNat ((α 7 ((σ 10) - 1).toNat) + 1))) t)) rfl (by decide) (by omega) (by omega) (by omega) rfl ?_
        first | exact absurd hk hc1 | (have hN4 : (zr_N 4 : Int) = 4000 := rfl; exfalso; omega)
  · skip
    refine zk_W.to (ls' := [some (.inr (some 11)), some (.inl x)]) (st' := [.inl 0]) (h' := (zk_mk G sw σ α t)) rfl rfl rfl ?_
    refine zk_if_eq (tgt := 30) dA_layByte_4 (by decide) ⟨by decide, by decide⟩ (fun h4 => ?_) (fun h4 => ?_)
    · skip
      first | exact absurd hk hc1 | (have hN4 : (zr_N 4 : Int) = 4000 := rfl; exfalso; omega)
    · skip
      exact absurd h4 (by decide)
