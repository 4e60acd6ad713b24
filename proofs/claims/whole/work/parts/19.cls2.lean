/-- how many bytes the acts below n lay -/
def mt_lsum (K C : Nat → Int) : Nat → Int
  | 0 => 0
  | n + 1 => mt_lsum K C n + (if K n = 2 then C n else 0)
/-- act k is one that can stand in a plan -/
def zc_a (α : Nat → Nat → Int) (k : Nat) : Prop := (α 5 k = 0 ∨ α 5 k = 1 ∨ α 5 k = 2) ∧ (1 ≤ α 7 k ∧ α 7 k ≤ 40) ∧ (α 5 k ≠ 2 → 0 ≤ α 6 k ∧ α 6 k ≤ 79) ∧ (α 5 k = 2 → α 6 k = -1) ∧ α 8 k = mt_lsum (α 5) (α 7) k
/-- what holds of the class between its calls -/
def zc_I (σ : Nat → Int) (α : Nat → Nat → Int) : Prop := (∀ q, q < 5 → 0 ≤ σ q ∧ σ q ≤ (zr_N q : Int)) ∧ (∀ q, q < 5 → ∀ j, 0 ≤ α q j ∧ α q j ≤ 255) ∧ (∀ j, j < 5 → 0 ≤ zs_c σ j ∧ zs_c σ j ≤ 100) ∧ (0 ≤ σ 10 ∧ σ 10 ≤ 100) ∧ (0 ≤ σ 11 ∧ σ 11 ≤ 65535) ∧ (∀ q j, q < 9 → zk_rg (α q j)) ∧ (∀ k, k < (σ 10).toNat → zc_a α k) ∧ σ 4 = mt_lsum (α 5) (α 7) (σ 10).toNat ∧ (σ 12 = 0 ∨ σ 12 = 1) ∧ (σ 12 = 1 → zs_T σ α)
theorem mt_spot_rg {K P C : Nat → Int} : ∀ {n : Nat}, (∀ k, k < n → (K k = 0 → 0 ≤ P k ∧ P k ≤ 79) ∧ (1 ≤ C k ∧ C k ≤ 40)) → 0 ≤ mt_spot K P C n ∧ mt_spot K P C n ≤ 119
  | 0, _ => ⟨Int.le_refl 0, by show (0 : Int) ≤ 119; omega⟩
  | n + 1, h => by
    show 0 ≤ (if K n = 0 then P n + C n else mt_spot K P C n) ∧ (if K n = 0 then P n + C n else mt_spot K P C n) ≤ 119
    have h1 := h n (by omega)
    split
    next hk =>
      have := h1.1 hk
      omega
    next => exact mt_spot_rg (fun k hk => h k (by omega))
theorem zc_spot {σ : Nat → Int} {α : Nat → Nat → Int} (hI : zc_I σ α) {n : Nat} (hn : n ≤ (σ 10).toNat) : 0 ≤ mt_spot (α 5) (α 6) (α 7) n ∧ mt_spot (α 5) (α 6) (α 7) n ≤ 119 :=
  mt_spot_rg (fun k hk => ⟨fun h0 => (hI.2.2.2.2.2.2.1 k (by omega)).2.2.1 (by omega), (hI.2.2.2.2.2.2.1 k (by omega)).2.1⟩)
theorem mt_cost_rg {c K P C : Nat → Int} {k : Nat} (hc : ∀ j, j < 5 → 0 ≤ c j ∧ c j ≤ 100) (hC : 1 ≤ C k ∧ C k ≤ 40) : 0 ≤ mt_cost c K P C k ∧ mt_cost c K P C k ≤ 4100 := by
  have c0 := hc 0 (by omega)
  have c1 := hc 1 (by omega)
  have c2 := hc 2 (by omega)
  have c3 := hc 3 (by omega)
  have c4 := hc 4 (by omega)
  have hm : 0 ≤ c 4 * C k ∧ c 4 * C k ≤ 4000 := by
    refine ⟨Int.mul_nonneg c4.1 (by omega), ?_⟩
    have h1 : c 4 * C k ≤ 100 * C k := Int.mul_le_mul_of_nonneg_right c4.2 (by omega)
    omega
  unfold mt_cost
  (repeat' split) <;> omega
/-- the costs of the acts below n together -/
def mt_csum (c K P C : Nat → Int) : Nat → Int
  | 0 => 0
  | n + 1 => mt_csum c K P C n + mt_cost c K P C n
theorem mt_csum_rg {c K P C : Nat → Int} (hc : ∀ j, j < 5 → 0 ≤ c j ∧ c j ≤ 100) : ∀ {n : Nat}, (∀ k, k < n → 1 ≤ C k ∧ C k ≤ 40) → 0 ≤ mt_csum c K P C n ∧ mt_csum c K P C n ≤ 4100 * n
  | 0, _ => ⟨Int.le_refl 0, Int.le_refl 0⟩
  | n + 1, h => by
    have h1 := mt_csum_rg (K := K) (P := P) hc (n := n) (fun k hk => h k (by omega))
    have h2 := mt_cost_rg (K := K) (P := P) hc (h n (by omega))
    show 0 ≤ mt_csum c K P C n + mt_cost c K P C n ∧ mt_csum c K P C n + mt_cost c K P C n ≤ 4100 * ((n + 1 : Nat) : Int)
    omega

set_option maxRecDepth 100000 in
set_option maxHeartbeats 4000000 in
theorem kC_clear (G : zk_G) (sw : Bool) (σ : Nat → Int) (α : Nat → Nat → Int) (t : zk_H) (hI : zc_I σ α)  : zk_K G mC_clear (2, 45) 0 0 [.inr (some 1)] (zk_mk G sw σ α t) (fun v h' => h' = zk_mk G sw (zk_up (zk_up (zk_up (zk_up (zk_up (zk_up (zk_up (zk_up (zk_up (zk_up (zk_up (zk_up (zk_up σ 0 0) 1 0) 2 0) 3 0) 5 4) 6 2) 7 4) 8 2) 9 3) 10 0) 4 0) 11 1) 12 0) α t ∧ v = some (.inl (σ 0 + σ 1))) := by
  have hn0 := hI.1 0 (by decide)
  have hn1 := hI.1 1 (by decide)
  have hn2 := hI.1 2 (by decide)
  have hn3 := hI.1 3 (by decide)
  have hn4 := hI.1 4 (by decide)
  have eN0 : (zr_N 0 : Int) = 40 := rfl
  have eN1 : (zr_N 1 : Int) = 40 := rfl
  have eN2 : (zr_N 2 : Int) = 80 := rfl
  have eN3 : (zr_N 3 : Int) = 4102 := rfl
  have eN4 : (zr_N 4 : Int) = 4000 := rfl
  have hv0 := hI.2.1 0 (by decide)
  have hv1 := hI.2.1 1 (by decide)
  have hv2 := hI.2.1 2 (by decide)
  have hv3 := hI.2.1 3 (by decide)
  have hv4 := hI.2.1 4 (by decide)
  have hc := hI.2.2.1
  have hs10 := hI.2.2.2.1
  have hs11 := hI.2.2.2.2.1
  have ha := hI.2.2.2.2.2.1
  refine zk_K.of (ls := [some (.inr (some 1)), none]) (by decide +kernel) (Nat.le_of_ble_eq_true rfl) rfl ?_
  refine zk_aload_n dC_clear_0 rfl ?_
  refine zk_get zfC_14 dC_clear_1 (v := .inr (some 2)) rfl (by decide) rfl ?_
  refine zk_callV (av := []) (st := []) (d' := (0, 0)) (kc' := 0) (ks' := 0) zbC_50 dC_clear_4 rfl (by decide) rfl rfl (Nat.le_of_ble_eq_true rfl) ⟨by decide, by decide⟩ rfl rfl (kR_length G sw σ α t (q := 0) (by decide)) (fun v9 h9 q9 => ?_)
  obtain ⟨rfl, rfl⟩ := q9
  refine zk_W.to (ls' := [some (.inr (some 1)), none]) (st' := [.inl (σ 0)]) (h' := (zk_mk G sw σ α t)) rfl rfl rfl ?_
  refine zk_aload_n dC_clear_7 rfl ?_
  refine zk_get zfC_18 dC_clear_8 (v := .inr (some 4)) rfl (by decide) rfl ?_
  refine zk_callV (av := []) (st := [.inl (σ 0)]) (d' := (0, 0)) (kc' := 0) (ks' := 0) zbC_50 dC_clear_11 rfl (by decide) rfl rfl (Nat.le_of_ble_eq_true rfl) ⟨by decide, by decide⟩ rfl rfl (kR_length G sw σ α t (q := 1) (by decide)) (fun v9 h9 q9 => ?_)
  obtain ⟨rfl, rfl⟩ := q9
  refine zk_W.to (ls' := [some (.inr (some 1)), none]) (st' := [.inl (σ 1), .inl (σ 0)]) (h' := (zk_mk G sw σ α t)) rfl rfl rfl ?_
  refine zk_iadd dC_clear_14 ?_
  refine zk_istore_n (ls' := [some (.inr (some 1)), some (.inl ((σ 0) + (σ 1)))]) dC_clear_15 (by decide) rfl ?_
  refine zk_aload_n dC_clear_16 rfl ?_
  refine zk_get zfC_14 dC_clear_17 (v := .inr (some 2)) rfl (by decide) rfl ?_
  refine zk_callV (av := []) (st := []) (d' := (0, 0)) (kc' := 0) (ks' := 0) zbC_54 dC_clear_20 rfl (by decide) rfl rfl (Nat.le_of_ble_eq_true rfl) ⟨by decide, by decide⟩ rfl rfl (kR_dropAll G sw σ α t (q := 0) (by decide)) (fun v9 h9 q9 => ?_)
  obtain ⟨rfl, rfl⟩ := q9
  refine zk_W.to (ls' := [some (.inr (some 1)), some (.inl ((σ 0) + (σ 1)))]) (st' := []) (h' := (zk_mk G sw (zk_up σ 0 0) α t)) rfl rfl rfl ?_
  refine zk_aload_n dC_clear_23 rfl ?_
  refine zk_get zfC_18 dC_clear_24 (v := .inr (some 4)) rfl (by decide) rfl ?_
  refine zk_callV (av := []) (st := []) (d' := (0, 0)) (kc' := 0) (ks' := 0) zbC_54 dC_clear_27 rfl (by decide) rfl rfl (Nat.le_of_ble_eq_true rfl) ⟨by decide, by decide⟩ rfl rfl (kR_dropAll G sw (zk_up σ 0 0) α t (q := 1) (by decide)) (fun v9 h9 q9 => ?_)
  obtain ⟨rfl, rfl⟩ := q9
  refine zk_W.to (ls' := [some (.inr (some 1)), some (.inl ((σ 0) + (σ 1)))]) (st' := []) (h' := (zk_mk G sw (zk_up (zk_up σ 0 0) 1 0) α t)) rfl rfl rfl ?_
  refine zk_aload_n dC_clear_30 rfl ?_
  refine zk_get zfC_21 dC_clear_31 (v := .inr (some 6)) rfl (by decide) rfl ?_
  refine zk_callV (av := []) (st := []) (d' := (0, 0)) (kc' := 0) (ks' := 0) zbC_54 dC_clear_34 rfl (by decide) rfl rfl (Nat.le_of_ble_eq_true rfl) ⟨by decide, by decide⟩ rfl rfl (kR_dropAll G sw (zk_up (zk_up σ 0 0) 1 0) α t (q := 2) (by decide)) (fun v9 h9 q9 => ?_)
  obtain ⟨rfl, rfl⟩ := q9
  refine zk_W.to (ls' := [some (.inr (some 1)), some (.inl ((σ 0) + (σ 1)))]) (st' := []) (h' := (zk_mk G sw (zk_up (zk_up (zk_up σ 0 0) 1 0) 2 0) α t)) rfl rfl rfl ?_
  refine zk_aload_n dC_clear_37 rfl ?_
  refine zk_get zfC_24 dC_clear_38 (v := .inr (some 8)) rfl (by decide) rfl ?_
  refine zk_callV (av := []) (st := []) (d' := (0, 0)) (kc' := 0) (ks' := 0) zbC_54 dC_clear_41 rfl (by decide) rfl rfl (Nat.le_of_ble_eq_true rfl) ⟨by decide, by decide⟩ rfl rfl (kR_dropAll G sw (zk_up (zk_up (zk_up σ 0 0) 1 0) 2 0) α t (q := 3) (by decide)) (fun v9 h9 q9 => ?_)
  obtain ⟨rfl, rfl⟩ := q9
  refine zk_W.to (ls' := [some (.inr (some 1)), some (.inl ((σ 0) + (σ 1)))]) (st' := []) (h' := (zk_mk G sw (zk_up (zk_up (zk_up (zk_up σ 0 0) 1 0) 2 0) 3 0) α t)) rfl rfl rfl ?_
  refine zk_aload_n dC_clear_44 rfl ?_
  refine zk_get zfC_30 dC_clear_45 (v := .inr (some 10)) rfl (by decide) rfl ?_
  refine zk_callV (av := []) (st := []) (d' := (1, 25)) (kc' := 0) (ks' := 0) zbC_57 dC_clear_48 rfl (by decide) rfl rfl (Nat.le_of_ble_eq_true rfl) ⟨by decide, by decide⟩ rfl rfl (kN_setFirstOnes G sw (zk_up (zk_up (zk_up (zk_up σ 0 0) 1 0) 2 0) 3 0) α t) (fun v9 h9 q9 => ?_)
  obtain ⟨rfl, rfl⟩ := q9
  refine zk_W.to (ls' := [some (.inr (some 1)), some (.inl ((σ 0) + (σ 1)))]) (st' := []) (h' := (zk_mk G sw (zk_up (zk_up (zk_up (zk_up (zk_up (zk_up (zk_up (zk_up (zk_up σ 0 0) 1 0) 2 0) 3 0) 5 4) 6 2) 7 4) 8 2) 9 3) α t)) rfl rfl rfl ?_
  refine zk_aload_n dC_clear_51 rfl ?_
  refine zk_get zfC_37 dC_clear_52 (v := .inr (some 11)) rfl (by decide) rfl ?_
  refine zk_iconst dC_clear_55 ?_
  refine zk_callV (av := [.inl 1]) (st := []) (d' := (1, 20)) (kc' := 0) (ks' := 0) zbC_60 dC_clear_56 rfl (by decide) rfl rfl (Nat.le_of_ble_eq_true rfl) ⟨by decide, by decide⟩ rfl rfl (kA_begin G sw (zk_up (zk_up (zk_up (zk_up (zk_up (zk_up (zk_up (zk_up (zk_up σ 0 0) 1 0) 2 0) 3 0) 5 4) 6 2) 7 4) 8 2) 9 3) α t) (fun v9 h9 q9 => ?_)
  obtain ⟨rfl, rfl⟩ := q9
  refine zk_W.to (ls' := [some (.inr (some 1)), some (.inl ((σ 0) + (σ 1)))]) (st' := []) (h' := (zk_mk G sw (zk_up (zk_up (zk_up (zk_up (zk_up (zk_up (zk_up (zk_up (zk_up (zk_up (zk_up (zk_up σ 0 0) 1 0) 2 0) 3 0) 5 4) 6 2) 7 4) 8 2) 9 3) 10 0) 4 0) 11 1) α t)) rfl rfl rfl ?_
  refine zk_aload_n dC_clear_59 rfl ?_
  refine zk_get zfC_46 dC_clear_60 (v := .inr (some 18)) rfl (by decide) rfl ?_
  refine zk_callV (av := []) (st := []) (d' := (0, 0)) (kc' := 0) (ks' := 0) zbC_63 dC_clear_63 rfl (by decide) rfl rfl (Nat.le_of_ble_eq_true rfl) ⟨by decide, by decide⟩ rfl rfl (kS_forget G sw (zk_up (zk_up (zk_up (zk_up (zk_up (zk_up (zk_up (zk_up (zk_up (zk_up (zk_up (zk_up σ 0 0) 1 0) 2 0) 3 0) 5 4) 6 2) 7 4) 8 2) 9 3) 10 0) 4 0) 11 1) α t) (fun v9 h9 q9 => ?_)
  obtain ⟨rfl, rfl⟩ := q9
  refine zk_W.to (ls' := [some (.inr (some 1)), some (.inl ((σ 0) + (σ 1)))]) (st' := []) (h' := (zk_mk G sw (zk_up (zk_up (zk_up (zk_up (zk_up (zk_up (zk_up (zk_up (zk_up (zk_up (zk_up (zk_up (zk_up σ 0 0) 1 0) 2 0) 3 0) 5 4) 6 2) 7 4) 8 2) 9 3) 10 0) 4 0) 11 1) 12 0) α t)) rfl rfl rfl ?_
  refine zk_iload_n dC_clear_66 rfl ?_
  exact zk_iret dC_clear_67 rfl ⟨rfl, rfl⟩

set_option maxRecDepth 100000 in
set_option maxHeartbeats 4000000 in
theorem kC_put (G : zk_G) (sw : Bool) (σ : Nat → Int) (α : Nat → Nat → Int) (t : zk_H) (hI : zc_I σ α) {x y : Int} (hx : zk_rg x) (hy : zk_rg y) : zk_K G mC_put (2, 41) 0 0 [.inr (some 1), .inl x, .inl y] (zk_mk G sw σ α t) (fun v h' => ((¬ (x = 0 ∨ x = 1) ∨ ¬ (0 ≤ y ∧ y ≤ 255)) ∧ h' = (zk_mk G sw σ α t) ∧ v = some (.inl (-2))) ∨ (∃ q : Nat, q < 2 ∧ x = (q : Int) ∧ (0 ≤ y ∧ y ≤ 255) ∧ 40 ≤ σ q ∧ h' = (zk_mk G sw σ α t) ∧ v = some (.inl (-3))) ∨ (∃ q : Nat, q < 2 ∧ x = (q : Int) ∧ (0 ≤ y ∧ y ≤ 255) ∧ σ q < 40 ∧ h' = zk_mk G sw (zk_up (zk_up σ q (σ q + 1)) 12 0) (zk_ua α q (zk_up (α q) (σ q).toNat y)) t ∧ v = some (.inl (σ q + 1)))) := by
  have hn0 := hI.1 0 (by decide)
  have hn1 := hI.1 1 (by decide)
  have hn2 := hI.1 2 (by decide)
  have hn3 := hI.1 3 (by decide)
  have hn4 := hI.1 4 (by decide)
  have eN0 : (zr_N 0 : Int) = 40 := rfl
  have eN1 : (zr_N 1 : Int) = 40 := rfl
  have eN2 : (zr_N 2 : Int) = 80 := rfl
  have eN3 : (zr_N 3 : Int) = 4102 := rfl
  have eN4 : (zr_N 4 : Int) = 4000 := rfl
  have hv0 := hI.2.1 0 (by decide)
  have hv1 := hI.2.1 1 (by decide)
  have hv2 := hI.2.1 2 (by decide)
  have hv3 := hI.2.1 3 (by decide)
  have hv4 := hI.2.1 4 (by decide)
  have hc := hI.2.2.1
  have hs10 := hI.2.2.2.1
  have hs11 := hI.2.2.2.2.1
  have ha := hI.2.2.2.2.2.1
  refine zk_K.of (ls := [some (.inr (some 1)), some (.inl x), some (.inl y), none]) (by decide +kernel) (Nat.le_of_ble_eq_true rfl) rfl ?_
  refine zk_iload_n dC_put_0 rfl ?_
  refine zk_callS (av := [.inl x]) (st := []) (d' := (0, 0)) (kc' := 0) (ks' := 0) zbC_66 dC_put_1 rfl rfl (Nat.le_of_ble_eq_true rfl) ⟨by decide, by decide⟩ rfl rfl (kC_isText G sw σ α t hx) (fun v9 h9 q9 => ?_)
  rcases q9 with ⟨rfl, ⟨hc1, rfl⟩ | ⟨hc1, rfl⟩⟩
  · skip
    refine zk_W.to (ls' := [some (.inr (some 1)), some (.inl x), some (.inl y), none]) (st' := [.inl 1]) (h' := (zk_mk G sw σ α t)) rfl rfl rfl ?_
    refine zk_if_eq (tgt := 14) dC_put_4 (by decide) ⟨by decide, by decide⟩ (fun h4 => ?_) (fun h4 => ?_)
    · skip
      exact absurd h4 (by decide)
    · skip
      refine zk_iload_n dC_put_7 rfl ?_
      refine zk_callS (av := [.inl y]) (st := []) (d' := (0, 0)) (kc' := 0) (ks' := 0) zbC_70 dC_put_8 rfl rfl (Nat.le_of_ble_eq_true rfl) ⟨by decide, by decide⟩ rfl rfl (kC_isByte G sw σ α t hy) (fun v9 h9 q9 => ?_)
      rcases q9 with ⟨rfl, ⟨hc8, rfl⟩ | ⟨hc8, rfl⟩⟩
      · skip
        refine zk_W.to (ls' := [some (.inr (some 1)), some (.inl x), some (.inl y), none]) (st' := [.inl 1]) (h' := (zk_mk G sw σ α t)) rfl rfl rfl ?_
        refine zk_if_ne (tgt := 17) dC_put_11 (by decide) ⟨by decide, by decide⟩ (fun h11 => ?_) (fun h11 => ?_)
        · skip
          refine zk_aload_n dC_put_17 rfl ?_
          refine zk_iload_n dC_put_18 rfl ?_
          refine zk_callV (av := [.inl x]) (st := []) (d' := (0, 0)) (kc' := 0) (ks' := 0) zbC_73 dC_put_19 rfl (by decide) rfl rfl (Nat.le_of_ble_eq_true rfl) ⟨by decide, by decide⟩ rfl rfl (kC_textOf G sw σ α t hx) (fun v9 h9 q9 => ?_)
          rcases q9 with ⟨rfl, ⟨hx19, rfl⟩ | ⟨hx19, rfl⟩⟩
          · skip
            refine zk_W.to (ls' := [some (.inr (some 1)), some (.inl x), some (.inl y), none]) (st' := [.inr (some 2)]) (h' := (zk_mk G sw σ α t)) rfl rfl rfl ?_
            refine zk_astore_n (ls' := [some (.inr (some 1)), some (.inl x), some (.inl y), some (.inr (some 2))]) dC_put_22 (by decide) rfl ?_
            refine zk_aload_n dC_put_23 rfl ?_
            refine zk_callV (av := []) (st := []) (d' := (0, 0)) (kc' := 0) (ks' := 0) zbC_77 dC_put_24 rfl (by decide) rfl rfl (Nat.le_of_ble_eq_true rfl) ⟨by decide, by decide⟩ rfl rfl (kR_isFull G sw σ α t (q := 0) (by decide) hn0) (fun v9 h9 q9 => ?_)
            rcases q9 with ⟨rfl, ⟨hf24, rfl⟩ | ⟨hf24, rfl⟩⟩
            · skip
              refine zk_W.to (ls' := [some (.inr (some 1)), some (.inl x), some (.inl y), some (.inr (some 2))]) (st' := [.inl 1]) (h' := (zk_mk G sw σ α t)) rfl rfl rfl ?_
              refine zk_if_eq (tgt := 33) dC_put_27 (by decide) ⟨by decide, by decide⟩ (fun h27 => ?_) (fun h27 => ?_)
              · skip
                exact absurd h27 (by decide)
              · skip
                refine zk_bipush dC_put_30 (by decide) ?_
                exact zk_iret dC_put_32 rfl (Or.inr (Or.inl ⟨0, by decide, by omega, by omega, by have h7 : 40 ≤ σ 0 := hf24; omega, rfl, rfl⟩))
            · skip
              refine zk_W.to (ls' := [some (.inr (some 1)), some (.inl x), some (.inl y), some (.inr (some 2))]) (st' := [.inl 0]) (h' := (zk_mk G sw σ α t)) rfl rfl rfl ?_
              refine zk_if_eq (tgt := 33) dC_put_27 (by decide) ⟨by decide, by decide⟩ (fun h27 => ?_) (fun h27 => ?_)
              · skip
                refine zk_aload_n dC_put_33 rfl ?_
                refine zk_iload_n dC_put_34 rfl ?_
                refine zk_callV (av := [.inl y]) (st := []) (d' := (1, 20)) (kc' := 0) (ks' := 0) zbC_81 dC_put_35 rfl (by decide) rfl rfl (Nat.le_of_ble_eq_true rfl) ⟨by decide, by decide⟩ rfl rfl (kR_append G sw σ α t (q := 0) (by decide) hn0) (fun v9 h9 q9 => ?_)
                rcases q9 with ⟨rfl, ⟨hap35, rfl⟩ | ⟨hap35, rfl⟩⟩
                · skip
                  refine zk_W.to (ls' := [some (.inr (some 1)), some (.inl x), some (.inl y), some (.inr (some 2))]) (st' := []) (h' := (zk_mk G sw (zk_up σ 0 (σ 0 + 1)) (zk_ua α 0 (zk_up (α 0) (σ 0).toNat y)) t)) rfl rfl rfl ?_
                  refine zk_aload_n dC_put_38 rfl ?_
                  refine zk_get zfC_46 dC_put_39 (v := .inr (some 18)) rfl (by decide) rfl ?_
                  refine zk_callV (av := []) (st := []) (d' := (0, 0)) (kc' := 0) (ks' := 0) zbC_63 dC_put_42 rfl (by decide) rfl rfl (Nat.le_of_ble_eq_true rfl) ⟨by decide, by decide⟩ rfl rfl (kS_forget G sw (zk_up σ 0 (σ 0 + 1)) (zk_ua α 0 (zk_up (α 0) (σ 0).toNat y)) t) (fun v9 h9 q9 => ?_)
                  obtain ⟨rfl, rfl⟩ := q9
                  refine zk_W.to (ls' := [some (.inr (some 1)), some (.inl x), some (.inl y), some (.inr (some 2))]) (st' := []) (h' := (zk_mk G sw (zk_up (zk_up σ 0 (σ 0 + 1)) 12 0) (zk_ua α 0 (zk_up (α 0) (σ 0).toNat y)) t)) rfl rfl rfl ?_
                  refine zk_aload_n dC_put_45 rfl ?_
                  refine zk_callV (av := []) (st := []) (d' := (0, 0)) (kc' := 0) (ks' := 0) zbC_50 dC_put_46 rfl (by decide) rfl rfl (Nat.le_of_ble_eq_true rfl) ⟨by decide, by decide⟩ rfl rfl (kR_length G sw (zk_up (zk_up σ 0 (σ 0 + 1)) 12 0) (zk_ua α 0 (zk_up (α 0) (σ 0).toNat y)) t (q := 0) (by decide)) (fun v9 h9 q9 => ?_)
                  obtain ⟨rfl, rfl⟩ := q9
                  refine zk_W.to (ls' := [some (.inr (some 1)), some (.inl x), some (.inl y), some (.inr (some 2))]) (st' := [.inl (σ 0 + 1)]) (h' := (zk_mk G sw (zk_up (zk_up σ 0 (σ 0 + 1)) 12 0) (zk_ua α 0 (zk_up (α 0) (σ 0).toNat y)) t)) rfl rfl rfl ?_
                  exact zk_iret dC_put_49 rfl (Or.inr (Or.inr ⟨0, by decide, by omega, by omega, by have h7 : σ 0 < 40 := hf24; omega, rfl, rfl⟩))
                · skip
                  have hap2 : 40 ≤ σ 0 := hap35
                  exfalso; omega
              · skip
                exact absurd h27 (by decide)
          · skip
            refine zk_W.to (ls' := [some (.inr (some 1)), some (.inl x), some (.inl y), none]) (st' := [.inr (some 4)]) (h' := (zk_mk G sw σ α t)) rfl rfl rfl ?_
            refine zk_astore_n (ls' := [some (.inr (some 1)), some (.inl x), some (.inl y), some (.inr (some 4))]) dC_put_22 (by decide) rfl ?_
            refine zk_aload_n dC_put_23 rfl ?_
            refine zk_callV (av := []) (st := []) (d' := (0, 0)) (kc' := 0) (ks' := 0) zbC_77 dC_put_24 rfl (by decide) rfl rfl (Nat.le_of_ble_eq_true rfl) ⟨by decide, by decide⟩ rfl rfl (kR_isFull G sw σ α t (q := 1) (by decide) hn1) (fun v9 h9 q9 => ?_)
            rcases q9 with ⟨rfl, ⟨hf24, rfl⟩ | ⟨hf24, rfl⟩⟩
            · skip
              refine zk_W.to (ls' := [some (.inr (some 1)), some (.inl x), some (.inl y), some (.inr (some 4))]) (st' := [.inl 1]) (h' := (zk_mk G sw σ α t)) rfl rfl rfl ?_
              refine zk_if_eq (tgt := 33) dC_put_27 (by decide) ⟨by decide, by decide⟩ (fun h27 => ?_) (fun h27 => ?_)
              · skip
                exact absurd h27 (by decide)
              · skip
                refine zk_bipush dC_put_30 (by decide) ?_
                exact zk_iret dC_put_32 rfl (Or.inr (Or.inl ⟨1, by decide, by omega, by omega, by have h7 : 40 ≤ σ 1 := hf24; omega, rfl, rfl⟩))
            · skip
              refine zk_W.to (ls' := [some (.inr (some 1)), some (.inl x), some (.inl y), some (.inr (some 4))]) (st' := [.inl 0]) (h' := (zk_mk G sw σ α t)) rfl rfl rfl ?_
              refine zk_if_eq (tgt := 33) dC_put_27 (by decide) ⟨by decide, by decide⟩ (fun h27 => ?_) (fun h27 => ?_)
              · skip
                refine zk_aload_n dC_put_33 rfl ?_
                refine zk_iload_n dC_put_34 rfl ?_
                refine zk_callV (av := [.inl y]) (st := []) (d' := (1, 20)) (kc' := 0) (ks' := 0) zbC_81 dC_put_35 rfl (by decide) rfl rfl (Nat.le_of_ble_eq_true rfl) ⟨by decide, by decide⟩ rfl rfl (kR_append G sw σ α t (q := 1) (by decide) hn1) (fun v9 h9 q9 => ?_)
                rcases q9 with ⟨rfl, ⟨hap35, rfl⟩ | ⟨hap35, rfl⟩⟩
                · skip
                  refine zk_W.to (ls' := [some (.inr (some 1)), some (.inl x), some (.inl y), some (.inr (some 4))]) (st' := []) (h' := (zk_mk G sw (zk_up σ 1 (σ 1 + 1)) (zk_ua α 1 (zk_up (α 1) (σ 1).toNat y)) t)) rfl rfl rfl ?_
                  refine zk_aload_n dC_put_38 rfl ?_
                  refine zk_get zfC_46 dC_put_39 (v := .inr (some 18)) rfl (by decide) rfl ?_
                  refine zk_callV (av := []) (st := []) (d' := (0, 0)) (kc' := 0) (ks' := 0) zbC_63 dC_put_42 rfl (by decide) rfl rfl (Nat.le_of_ble_eq_true rfl) ⟨by decide, by decide⟩ rfl rfl (kS_forget G sw (zk_up σ 1 (σ 1 + 1)) (zk_ua α 1 (zk_up (α 1) (σ 1).toNat y)) t) (fun v9 h9 q9 => ?_)
                  obtain ⟨rfl, rfl⟩ := q9
                  refine zk_W.to (ls' := [some (.inr (some 1)), some (.inl x), some (.inl y), some (.inr (some 4))]) (st' := []) (h' := (zk_mk G sw (zk_up (zk_up σ 1 (σ 1 + 1)) 12 0) (zk_ua α 1 (zk_up (α 1) (σ 1).toNat y)) t)) rfl rfl rfl ?_
                  refine zk_aload_n dC_put_45 rfl ?_
                  refine zk_callV (av := []) (st := []) (d' := (0, 0)) (kc' := 0) (ks' := 0) zbC_50 dC_put_46 rfl (by decide) rfl rfl (Nat.le_of_ble_eq_true rfl) ⟨by decide, by decide⟩ rfl rfl (kR_length G sw (zk_up (zk_up σ 1 (σ 1 + 1)) 12 0) (zk_ua α 1 (zk_up (α 1) (σ 1).toNat y)) t (q := 1) (by decide)) (fun v9 h9 q9 => ?_)
                  obtain ⟨rfl, rfl⟩ := q9
                  refine zk_W.to (ls' := [some (.inr (some 1)), some (.inl x), some (.inl y), some (.inr (some 4))]) (st' := [.inl (σ 1 + 1)]) (h' := (zk_mk G sw (zk_up (zk_up σ 1 (σ 1 + 1)) 12 0) (zk_ua α 1 (zk_up (α 1) (σ 1).toNat y)) t)) rfl rfl rfl ?_
                  exact zk_iret dC_put_49 rfl (Or.inr (Or.inr ⟨1, by decide, by omega, by omega, by have h7 : σ 1 < 40 := hf24; omega, rfl, rfl⟩))
                · skip
                  have hap2 : 40 ≤ σ 1 := hap35
                  exfalso; omega
              · skip
                exact absurd h27 (by decide)
        · skip
          exact absurd h11 (by decide)
      · skip
        refine zk_W.to (ls' := [some (.inr (some 1)), some (.inl x), some (.inl y), none]) (st' := [.inl 0]) (h' := (zk_mk G sw σ α t)) rfl rfl rfl ?_
        refine zk_if_ne (tgt := 17) dC_put_11 (by decide) ⟨by decide, by decide⟩ (fun h11 => ?_) (fun h11 => ?_)
        · skip
          exact absurd h11 (by decide)
        · skip
          refine zk_bipush dC_put_14 (by decide) ?_
          exact zk_iret dC_put_16 rfl (Or.inl ⟨by omega, rfl, rfl⟩)
  · skip
    refine zk_W.to (ls' := [some (.inr (some 1)), some (.inl x), some (.inl y), none]) (st' := [.inl 0]) (h' := (zk_mk G sw σ α t)) rfl rfl rfl ?_
    refine zk_if_eq (tgt := 14) dC_put_4 (by decide) ⟨by decide, by decide⟩ (fun h4 => ?_) (fun h4 => ?_)
    · skip
      refine zk_bipush dC_put_14 (by decide) ?_
      exact zk_iret dC_put_16 rfl (Or.inl ⟨by omega, rfl, rfl⟩)
    · skip
      exact absurd h4 (by decide)

set_option maxRecDepth 100000 in
set_option maxHeartbeats 4000000 in
theorem kC_cut (G : zk_G) (sw : Bool) (σ : Nat → Int) (α : Nat → Nat → Int) (t : zk_H) (hI : zc_I σ α) {x y : Int} (hx : zk_rg x) (hy : zk_rg y) : zk_K G mC_cut (2, 39) 0 0 [.inr (some 1), .inl x, .inl y] (zk_mk G sw σ α t) (fun v h' => ((¬ (x = 0 ∨ x = 1)) ∧ h' = (zk_mk G sw σ α t) ∧ v = some (.inl (-2))) ∨ (∃ q : Nat, q < 2 ∧ x = (q : Int) ∧ ¬ (0 ≤ y ∧ y ≤ σ q) ∧ h' = (zk_mk G sw σ α t) ∧ v = some (.inl (-2))) ∨ (∃ q : Nat, q < 2 ∧ x = (q : Int) ∧ (0 ≤ y ∧ y ≤ σ q) ∧ h' = zk_mk G sw (zk_up (zk_up σ q (σ q - y)) 12 0) α t ∧ v = some (.inl (σ q - y)))) := by
  have hn0 := hI.1 0 (by decide)
  have hn1 := hI.1 1 (by decide)
  have hn2 := hI.1 2 (by decide)
  have hn3 := hI.1 3 (by decide)
  have hn4 := hI.1 4 (by decide)
  have eN0 : (zr_N 0 : Int) = 40 := rfl
  have eN1 : (zr_N 1 : Int) = 40 := rfl
  have eN2 : (zr_N 2 : Int) = 80 := rfl
  have eN3 : (zr_N 3 : Int) = 4102 := rfl
  have eN4 : (zr_N 4 : Int) = 4000 := rfl
  have hv0 := hI.2.1 0 (by decide)
  have hv1 := hI.2.1 1 (by decide)
  have hv2 := hI.2.1 2 (by decide)
  have hv3 := hI.2.1 3 (by decide)
  have hv4 := hI.2.1 4 (by decide)
  have hc := hI.2.2.1
  have hs10 := hI.2.2.2.1
  have hs11 := hI.2.2.2.2.1
  have ha := hI.2.2.2.2.2.1
  refine zk_K.of (ls := [some (.inr (some 1)), some (.inl x), some (.inl y), none]) (by decide +kernel) (Nat.le_of_ble_eq_true rfl) rfl ?_
  refine zk_iload_n dC_cut_0 rfl ?_
  refine zk_callS (av := [.inl x]) (st := []) (d' := (0, 0)) (kc' := 0) (ks' := 0) zbC_66 dC_cut_1 rfl rfl (Nat.le_of_ble_eq_true rfl) ⟨by decide, by decide⟩ rfl rfl (kC_isText G sw σ α t hx) (fun v9 h9 q9 => ?_)
  rcases q9 with ⟨rfl, ⟨hc1, rfl⟩ | ⟨hc1, rfl⟩⟩
  · skip
    refine zk_W.to (ls' := [some (.inr (some 1)), some (.inl x), some (.inl y), none]) (st' := [.inl 1]) (h' := (zk_mk G sw σ α t)) rfl rfl rfl ?_
    refine zk_if_ne (tgt := 10) dC_cut_4 (by decide) ⟨by decide, by decide⟩ (fun h4 => ?_) (fun h4 => ?_)
    · skip
      refine zk_aload_n dC_cut_10 rfl ?_
      refine zk_iload_n dC_cut_11 rfl ?_
      refine zk_callV (av := [.inl x]) (st := []) (d' := (0, 0)) (kc' := 0) (ks' := 0) zbC_73 dC_cut_12 rfl (by decide) rfl rfl (Nat.le_of_ble_eq_true rfl) ⟨by decide, by decide⟩ rfl rfl (kC_textOf G sw σ α t hx) (fun v9 h9 q9 => ?_)
      rcases q9 with ⟨rfl, ⟨hx12, rfl⟩ | ⟨hx12, rfl⟩⟩
      · skip
        refine zk_W.to (ls' := [some (.inr (some 1)), some (.inl x), some (.inl y), none]) (st' := [.inr (some 2)]) (h' := (zk_mk G sw σ α t)) rfl rfl rfl ?_
        refine zk_astore_n (ls' := [some (.inr (some 1)), some (.inl x), some (.inl y), some (.inr (some 2))]) dC_cut_15 (by decide) rfl ?_
        refine zk_iload_n dC_cut_16 rfl ?_
        refine zk_if_lt (tgt := 28) dC_cut_17 (by decide) hy (fun h17 => ?_) (fun h17 => ?_)
        · skip
          refine zk_bipush dC_cut_28 (by decide) ?_
          exact zk_iret dC_cut_30 rfl (Or.inr (Or.inl ⟨0, by decide, by omega, by omega, rfl, rfl⟩))
        · skip
          refine zk_iload_n dC_cut_20 rfl ?_
          refine zk_aload_n dC_cut_21 rfl ?_
          refine zk_callV (av := []) (st := [.inl y]) (d' := (0, 0)) (kc' := 0) (ks' := 0) zbC_50 dC_cut_22 rfl (by decide) rfl rfl (Nat.le_of_ble_eq_true rfl) ⟨by decide, by decide⟩ rfl rfl (kR_length G sw σ α t (q := 0) (by decide)) (fun v9 h9 q9 => ?_)
          obtain ⟨rfl, rfl⟩ := q9
          refine zk_W.to (ls' := [some (.inr (some 1)), some (.inl x), some (.inl y), some (.inr (some 2))]) (st' := [.inl (σ 0), .inl y]) (h' := (zk_mk G sw σ α t)) rfl rfl rfl ?_
          refine zk_icmp_le (tgt := 31) dC_cut_25 (by decide) hy ⟨by omega, by omega⟩ (fun h25 => ?_) (fun h25 => ?_)
          · skip
            refine zk_aload_n dC_cut_31 rfl ?_
            refine zk_iload_n dC_cut_32 rfl ?_
            refine zk_callV (av := [.inl y]) (st := []) (d' := (1, 18)) (kc' := 0) (ks' := 0) zbC_84 dC_cut_33 rfl (by decide) rfl rfl (Nat.le_of_ble_eq_true rfl) ⟨by decide, by decide⟩ rfl rfl (kR_dropLast G sw σ α t (q := 0) (by decide) hn0 hy) (fun v9 h9 q9 => ?_)
            obtain ⟨rfl, rfl⟩ := q9
            refine zk_W.to (ls' := [some (.inr (some 1)), some (.inl x), some (.inl y), some (.inr (some 2))]) (st' := []) (h' := (zk_mk G sw (zk_up σ 0 (σ 0 - max 0 (min y (σ 0)))) α t)) rfl rfl rfl ?_
            refine zk_aload_n dC_cut_36 rfl ?_
            refine zk_get zfC_46 dC_cut_37 (v := .inr (some 18)) rfl (by decide) rfl ?_
            refine zk_callV (av := []) (st := []) (d' := (0, 0)) (kc' := 0) (ks' := 0) zbC_63 dC_cut_40 rfl (by decide) rfl rfl (Nat.le_of_ble_eq_true rfl) ⟨by decide, by decide⟩ rfl rfl (kS_forget G sw (zk_up σ 0 (σ 0 - max 0 (min y (σ 0)))) α t) (fun v9 h9 q9 => ?_)
            obtain ⟨rfl, rfl⟩ := q9
            refine zk_W.to (ls' := [some (.inr (some 1)), some (.inl x), some (.inl y), some (.inr (some 2))]) (st' := []) (h' := (zk_mk G sw (zk_up (zk_up σ 0 (σ 0 - max 0 (min y (σ 0)))) 12 0) α t)) rfl rfl rfl ?_
            refine zk_aload_n dC_cut_43 rfl ?_
            refine zk_callV (av := []) (st := []) (d' := (0, 0)) (kc' := 0) (ks' := 0) zbC_50 dC_cut_44 rfl (by decide) rfl rfl (Nat.le_of_ble_eq_true rfl) ⟨by decide, by decide⟩ rfl rfl (kR_length G sw (zk_up (zk_up σ 0 (σ 0 - max 0 (min y (σ 0)))) 12 0) α t (q := 0) (by decide)) (fun v9 h9 q9 => ?_)
            obtain ⟨rfl, rfl⟩ := q9
            refine zk_W.to (ls' := [some (.inr (some 1)), some (.inl x), some (.inl y), some (.inr (some 2))]) (st' := [.inl (σ 0 - max 0 (min y (σ 0)))]) (h' := (zk_mk G sw (zk_up (zk_up σ 0 (σ 0 - max 0 (min y (σ 0)))) 12 0) α t)) rfl rfl rfl ?_
            have em : max 0 (min y (σ 0)) = y := by omega
            refine zk_iret dC_cut_47 rfl (Or.inr (Or.inr ⟨0, by decide, by omega, by omega, ?_, ?_⟩))
            · rw [em]
            · rw [em]
          · skip
            refine zk_bipush dC_cut_28 (by decide) ?_
            exact zk_iret dC_cut_30 rfl (Or.inr (Or.inl ⟨0, by decide, by omega, by omega, rfl, rfl⟩))
      · skip
        refine zk_W.to (ls' := [some (.inr (some 1)), some (.inl x), some (.inl y), none]) (st' := [.inr (some 4)]) (h' := (zk_mk G sw σ α t)) rfl rfl rfl ?_
        refine zk_astore_n (ls' := [some (.inr (some 1)), some (.inl x), some (.inl y), some (.inr (some 4))]) dC_cut_15 (by decide) rfl ?_
        refine zk_iload_n dC_cut_16 rfl ?_
        refine zk_if_lt (tgt := 28) dC_cut_17 (by decide) hy (fun h17 => ?_) (fun h17 => ?_)
        · skip
          refine zk_bipush dC_cut_28 (by decide) ?_
          exact zk_iret dC_cut_30 rfl (Or.inr (Or.inl ⟨1, by decide, by omega, by omega, rfl, rfl⟩))
        · skip
          refine zk_iload_n dC_cut_20 rfl ?_
          refine zk_aload_n dC_cut_21 rfl ?_
          refine zk_callV (av := []) (st := [.inl y]) (d' := (0, 0)) (kc' := 0) (ks' := 0) zbC_50 dC_cut_22 rfl (by decide) rfl rfl (Nat.le_of_ble_eq_true rfl) ⟨by decide, by decide⟩ rfl rfl (kR_length G sw σ α t (q := 1) (by decide)) (fun v9 h9 q9 => ?_)
          obtain ⟨rfl, rfl⟩ := q9
          refine zk_W.to (ls' := [some (.inr (some 1)), some (.inl x), some (.inl y), some (.inr (some 4))]) (st' := [.inl (σ 1), .inl y]) (h' := (zk_mk G sw σ α t)) rfl rfl rfl ?_
          refine zk_icmp_le (tgt := 31) dC_cut_25 (by decide) hy ⟨by omega, by omega⟩ (fun h25 => ?_) (fun h25 => ?_)
          · skip
            refine zk_aload_n dC_cut_31 rfl ?_
            refine zk_iload_n dC_cut_32 rfl ?_
            refine zk_callV (av := [.inl y]) (st := []) (d' := (1, 18)) (kc' := 0) (ks' := 0) zbC_84 dC_cut_33 rfl (by decide) rfl rfl (Nat.le_of_ble_eq_true rfl) ⟨by decide, by decide⟩ rfl rfl (kR_dropLast G sw σ α t (q := 1) (by decide) hn1 hy) (fun v9 h9 q9 => ?_)
            obtain ⟨rfl, rfl⟩ := q9
            refine zk_W.to (ls' := [some (.inr (some 1)), some (.inl x), some (.inl y), some (.inr (some 4))]) (st' := []) (h' := (zk_mk G sw (zk_up σ 1 (σ 1 - max 0 (min y (σ 1)))) α t)) rfl rfl rfl ?_
            refine zk_aload_n dC_cut_36 rfl ?_
            refine zk_get zfC_46 dC_cut_37 (v := .inr (some 18)) rfl (by decide) rfl ?_
            refine zk_callV (av := []) (st := []) (d' := (0, 0)) (kc' := 0) (ks' := 0) zbC_63 dC_cut_40 rfl (by decide) rfl rfl (Nat.le_of_ble_eq_true rfl) ⟨by decide, by decide⟩ rfl rfl (kS_forget G sw (zk_up σ 1 (σ 1 - max 0 (min y (σ 1)))) α t) (fun v9 h9 q9 => ?_)
            obtain ⟨rfl, rfl⟩ := q9
            refine zk_W.to (ls' := [some (.inr (some 1)), some (.inl x), some (.inl y), some (.inr (some 4))]) (st' := []) (h' := (zk_mk G sw (zk_up (zk_up σ 1 (σ 1 - max 0 (min y (σ 1)))) 12 0) α t)) rfl rfl rfl ?_
            refine zk_aload_n dC_cut_43 rfl ?_
            refine zk_callV (av := []) (st := []) (d' := (0, 0)) (kc' := 0) (ks' := 0) zbC_50 dC_cut_44 rfl (by decide) rfl rfl (Nat.le_of_ble_eq_true rfl) ⟨by decide, by decide⟩ rfl rfl (kR_length G sw (zk_up (zk_up σ 1 (σ 1 - max 0 (min y (σ 1)))) 12 0) α t (q := 1) (by decide)) (fun v9 h9 q9 => ?_)
            obtain ⟨rfl, rfl⟩ := q9
            refine zk_W.to (ls' := [some (.inr (some 1)), some (.inl x), some (.inl y), some (.inr (some 4))]) (st' := [.inl (σ 1 - max 0 (min y (σ 1)))]) (h' := (zk_mk G sw (zk_up (zk_up σ 1 (σ 1 - max 0 (min y (σ 1)))) 12 0) α t)) rfl rfl rfl ?_
            have em : max 0 (min y (σ 1)) = y := by omega
            refine zk_iret dC_cut_47 rfl (Or.inr (Or.inr ⟨1, by decide, by omega, by omega, ?_, ?_⟩))
            · rw [em]
            · rw [em]
          · skip
            refine zk_bipush dC_cut_28 (by decide) ?_
            exact zk_iret dC_cut_30 rfl (Or.inr (Or.inl ⟨1, by decide, by omega, by omega, rfl, rfl⟩))
    · skip
      exact absurd h4 (by decide)
  · skip
    refine zk_W.to (ls' := [some (.inr (some 1)), some (.inl x), some (.inl y), none]) (st' := [.inl 0]) (h' := (zk_mk G sw σ α t)) rfl rfl rfl ?_
    refine zk_if_ne (tgt := 10) dC_cut_4 (by decide) ⟨by decide, by decide⟩ (fun h4 => ?_) (fun h4 => ?_)
    · skip
      exact absurd h4 (by decide)
    · skip
      refine zk_bipush dC_cut_7 (by decide) ?_
      exact zk_iret dC_cut_9 rfl (Or.inl ⟨by omega, rfl, rfl⟩)

set_option maxRecDepth 100000 in
set_option maxHeartbeats 4000000 in
theorem kC_costs (G : zk_G) (sw : Bool) (σ : Nat → Int) (α : Nat → Nat → Int) (t : zk_H) (hI : zc_I σ α) (x0 x1 x2 x3 x4 : Int) (hx0 : zk_rg x0) (hx1 : zk_rg x1) (hx2 : zk_rg x2) (hx3 : zk_rg x3) (hx4 : zk_rg x4) : zk_K G mC_costs (2, 46) 0 0 [.inr (some 1), .inl x0, .inl x1, .inl x2, .inl x3, .inl x4] (zk_mk G sw σ α t) (fun v h' => ((¬ ((0 ≤ x0 ∧ x0 ≤ 100) ∧ (0 ≤ x1 ∧ x1 ≤ 100) ∧ (0 ≤ x2 ∧ x2 ≤ 100) ∧ (0 ≤ x3 ∧ x3 ≤ 100) ∧ (0 ≤ x4 ∧ x4 ≤ 100))) ∧ h' = (zk_mk G sw σ α t) ∧ v = some (.inl (-2))) ∨ (((0 ≤ x0 ∧ x0 ≤ 100) ∧ (0 ≤ x1 ∧ x1 ≤ 100) ∧ (0 ≤ x2 ∧ x2 ≤ 100) ∧ (0 ≤ x3 ∧ x3 ≤ 100) ∧ (0 ≤ x4 ∧ x4 ≤ 100)) ∧ h' = zk_mk G sw (zk_up (zk_up (zk_up (zk_up (zk_up (zk_up σ 5 x0) 6 x1) 7 x2) 8 x3) 9 x4) 12 0) α t ∧ v = some (.inl ((((((if σ 5 = x0 then 0 else 1) + (if σ 6 = x1 then 0 else 1)) + (if σ 7 = x2 then 0 else 1)) + (if σ 8 = x3 then 0 else 1)) + (if σ 9 = x4 then 0 else 1)))))) := by
  have hn0 := hI.1 0 (by decide)
  have hn1 := hI.1 1 (by decide)
  have hn2 := hI.1 2 (by decide)
  have hn3 := hI.1 3 (by decide)
  have hn4 := hI.1 4 (by decide)
  have eN0 : (zr_N 0 : Int) = 40 := rfl
  have eN1 : (zr_N 1 : Int) = 40 := rfl
  have eN2 : (zr_N 2 : Int) = 80 := rfl
  have eN3 : (zr_N 3 : Int) = 4102 := rfl
  have eN4 : (zr_N 4 : Int) = 4000 := rfl
  have hv0 := hI.2.1 0 (by decide)
  have hv1 := hI.2.1 1 (by decide)
  have hv2 := hI.2.1 2 (by decide)
  have hv3 := hI.2.1 3 (by decide)
  have hv4 := hI.2.1 4 (by decide)
  have hc := hI.2.2.1
  have hs10 := hI.2.2.2.1
  have hs11 := hI.2.2.2.2.1
  have ha := hI.2.2.2.2.2.1
  refine zk_K.of (ls := [some (.inr (some 1)), some (.inl x0), some (.inl x1), some (.inl x2), some (.inl x3), some (.inl x4), none]) (by decide +kernel) (Nat.le_of_ble_eq_true rfl) rfl ?_
  refine zk_iload_n dC_costs_0 rfl ?_
  refine zk_callS (av := [.inl x0]) (st := []) (d' := (0, 0)) (kc' := 0) (ks' := 0) zbC_91 dC_costs_1 rfl rfl (Nat.le_of_ble_eq_true rfl) ⟨by decide, by decide⟩ rfl rfl (kC_isNumber G sw σ α t hx0) (fun v9 h9 q9 => ?_)
  rcases q9 with ⟨rfl, ⟨hc1, rfl⟩ | ⟨hc1, rfl⟩⟩
  · skip
    refine zk_W.to (ls' := [some (.inr (some 1)), some (.inl x0), some (.inl x1), some (.inl x2), some (.inl x3), some (.inl x4), none]) (st' := [.inl 1]) (h' := (zk_mk G sw σ α t)) rfl rfl rfl ?_
    refine zk_if_eq (tgt := 37) dC_costs_4 (by decide) ⟨by decide, by decide⟩ (fun h4 => ?_) (fun h4 => ?_)
    · skip
      exact absurd h4 (by decide)
    · skip
      refine zk_iload_n dC_costs_7 rfl ?_
      refine zk_callS (av := [.inl x1]) (st := []) (d' := (0, 0)) (kc' := 0) (ks' := 0) zbC_91 dC_costs_8 rfl rfl (Nat.le_of_ble_eq_true rfl) ⟨by decide, by decide⟩ rfl rfl (kC_isNumber G sw σ α t hx1) (fun v9 h9 q9 => ?_)
      rcases q9 with ⟨rfl, ⟨hc8, rfl⟩ | ⟨hc8, rfl⟩⟩
      · skip
        refine zk_W.to (ls' := [some (.inr (some 1)), some (.inl x0), some (.inl x1), some (.inl x2), some (.inl x3), some (.inl x4), none]) (st' := [.inl 1]) (h' := (zk_mk G sw σ α t)) rfl rfl rfl ?_
        refine zk_if_eq (tgt := 37) dC_costs_11 (by decide) ⟨by decide, by decide⟩ (fun h11 => ?_) (fun h11 => ?_)
        · skip
          exact absurd h11 (by decide)
        · skip
          refine zk_iload_n dC_costs_14 rfl ?_
          refine zk_callS (av := [.inl x2]) (st := []) (d' := (0, 0)) (kc' := 0) (ks' := 0) zbC_91 dC_costs_15 rfl rfl (Nat.le_of_ble_eq_true rfl) ⟨by decide, by decide⟩ rfl rfl (kC_isNumber G sw σ α t hx2) (fun v9 h9 q9 => ?_)
          rcases q9 with ⟨rfl, ⟨hc15, rfl⟩ | ⟨hc15, rfl⟩⟩
          · skip
            refine zk_W.to (ls' := [some (.inr (some 1)), some (.inl x0), some (.inl x1), some (.inl x2), some (.inl x3), some (.inl x4), none]) (st' := [.inl 1]) (h' := (zk_mk G sw σ α t)) rfl rfl rfl ?_
            refine zk_if_eq (tgt := 37) dC_costs_18 (by decide) ⟨by decide, by decide⟩ (fun h18 => ?_) (fun h18 => ?_)
            · skip
              exact absurd h18 (by decide)
            · skip
              refine zk_iload dC_costs_21 rfl ?_
              refine zk_callS (av := [.inl x3]) (st := []) (d' := (0, 0)) (kc' := 0) (ks' := 0) zbC_91 dC_costs_23 rfl rfl (Nat.le_of_ble_eq_true rfl) ⟨by decide, by decide⟩ rfl rfl (kC_isNumber G sw σ α t hx3) (fun v9 h9 q9 => ?_)
              rcases q9 with ⟨rfl, ⟨hc23, rfl⟩ | ⟨hc23, rfl⟩⟩
              · skip
                refine zk_W.to (ls' := [some (.inr (some 1)), some (.inl x0), some (.inl x1), some (.inl x2), some (.inl x3), some (.inl x4), none]) (st' := [.inl 1]) (h' := (zk_mk G sw σ α t)) rfl rfl rfl ?_
                refine zk_if_eq (tgt := 37) dC_costs_26 (by decide) ⟨by decide, by decide⟩ (fun h26 => ?_) (fun h26 => ?_)
                · skip
                  exact absurd h26 (by decide)
                · skip
                  refine zk_iload dC_costs_29 rfl ?_
                  refine zk_callS (av := [.inl x4]) (st := []) (d' := (0, 0)) (kc' := 0) (ks' := 0) zbC_91 dC_costs_31 rfl rfl (Nat.le_of_ble_eq_true rfl) ⟨by decide, by decide⟩ rfl rfl (kC_isNumber G sw σ α t hx4) (fun v9 h9 q9 => ?_)
                  rcases q9 with ⟨rfl, ⟨hc31, rfl⟩ | ⟨hc31, rfl⟩⟩
                  · skip
                    refine zk_W.to (ls' := [some (.inr (some 1)), some (.inl x0), some (.inl x1), some (.inl x2), some (.inl x3), some (.inl x4), none]) (st' := [.inl 1]) (h' := (zk_mk G sw σ α t)) rfl rfl rfl ?_
                    refine zk_if_ne (tgt := 40) dC_costs_34 (by decide) ⟨by decide, by decide⟩ (fun h34 => ?_) (fun h34 => ?_)
                    · skip
                      refine zk_aload_n dC_costs_40 rfl ?_
                      refine zk_get zfC_30 dC_costs_41 (v := .inr (some 10)) rfl (by decide) rfl ?_
                      refine zk_iload_n dC_costs_44 rfl ?_
                      refine zk_iload_n dC_costs_45 rfl ?_
                      refine zk_iload_n dC_costs_46 rfl ?_
                      refine zk_iload dC_costs_47 rfl ?_
                      refine zk_iload dC_costs_49 rfl ?_
                      refine zk_callV (av := [.inl x0, .inl x1, .inl x2, .inl x3, .inl x4]) (st := []) (d' := (1, 21)) (kc' := 0) (ks' := 0) zbC_94 dC_costs_51 rfl (by decide) rfl rfl (Nat.le_of_ble_eq_true rfl) ⟨by decide, by decide⟩ rfl rfl (kN_countOthers G sw σ α t hc x0 x1 x2 x3 x4 hx0 hx1 hx2 hx3 hx4) (fun v9 h9 q9 => ?_)
                      obtain ⟨rfl, rfl⟩ := q9
                      refine zk_W.to (ls' := [some (.inr (some 1)), some (.inl x0), some (.inl x1), some (.inl x2), some (.inl x3), some (.inl x4), none]) (st' := [.inl (((((((if σ 5 = x0 then 0 else 1) + (if σ 6 = x1 then 0 else 1)) + (if σ 7 = x2 then 0 else 1)) + (if σ 8 = x3 then 0 else 1)) + (if σ 9 = x4 then 0 else 1))))]) (h' := (zk_mk G sw σ α t)) rfl rfl rfl ?_
                      refine zk_istore (ls' := [some (.inr (some 1)), some (.inl x0), some (.inl x1), some (.inl x2), some (.inl x3), some (.inl x4), some (.inl (((((((if σ 5 = x0 then 0 else 1) + (if σ 6 = x1 then 0 else 1)) + (if σ 7 = x2 then 0 else 1)) + (if σ 8 = x3 then 0 else 1)) + (if σ 9 = x4 then 0 else 1)))))]) dC_costs_54 (by decide) rfl ?_
                      refine zk_aload_n dC_costs_56 rfl ?_
                      refine zk_get zfC_30 dC_costs_57 (v := .inr (some 10)) rfl (by decide) rfl ?_
                      refine zk_iload_n dC_costs_60 rfl ?_
                      refine zk_iload_n dC_costs_61 rfl ?_
                      refine zk_iload_n dC_costs_62 rfl ?_
                      refine zk_iload dC_costs_63 rfl ?_
                      refine zk_iload dC_costs_65 rfl ?_
                      refine zk_callV (av := [.inl x0, .inl x1, .inl x2, .inl x3, .inl x4]) (st := []) (d' := (0, 0)) (kc' := 0) (ks' := 0) zbC_98 dC_costs_67 rfl (by decide) rfl rfl (Nat.le_of_ble_eq_true rfl) ⟨by decide, by decide⟩ rfl rfl (kN_set G sw σ α t x0 x1 x2 x3 x4) (fun v9 h9 q9 => ?_)
                      obtain ⟨rfl, rfl⟩ := q9
                      refine zk_W.to (ls' := [some (.inr (some 1)), some (.inl x0), some (.inl x1), some (.inl x2), some (.inl x3), some (.inl x4), some (.inl (((((((if σ 5 = x0 then 0 else 1) + (if σ 6 = x1 then 0 else 1)) + (if σ 7 = x2 then 0 else 1)) + (if σ 8 = x3 then 0 else 1)) + (if σ 9 = x4 then 0 else 1)))))]) (st' := []) (h' := (zk_mk G sw (zk_up (zk_up (zk_up (zk_up (zk_up σ 5 x0) 6 x1) 7 x2) 8 x3) 9 x4) α t)) rfl rfl rfl ?_
                      refine zk_aload_n dC_costs_70 rfl ?_
                      refine zk_get zfC_46 dC_costs_71 (v := .inr (some 18)) rfl (by decide) rfl ?_
                      refine zk_callV (av := []) (st := []) (d' := (0, 0)) (kc' := 0) (ks' := 0) zbC_63 dC_costs_74 rfl (by decide) rfl rfl (Nat.le_of_ble_eq_true rfl) ⟨by decide, by decide⟩ rfl rfl (kS_forget G sw (zk_up (zk_up (zk_up (zk_up (zk_up σ 5 x0) 6 x1) 7 x2) 8 x3) 9 x4) α t) (fun v9 h9 q9 => ?_)
                      obtain ⟨rfl, rfl⟩ := q9
                      refine zk_W.to (ls' := [some (.inr (some 1)), some (.inl x0), some (.inl x1), some (.inl x2), some (.inl x3), some (.inl x4), some (.inl (((((((if σ 5 = x0 then 0 else 1) + (if σ 6 = x1 then 0 else 1)) + (if σ 7 = x2 then 0 else 1)) + (if σ 8 = x3 then 0 else 1)) + (if σ 9 = x4 then 0 else 1)))))]) (st' := []) (h' := (zk_mk G sw (zk_up (zk_up (zk_up (zk_up (zk_up (zk_up σ 5 x0) 6 x1) 7 x2) 8 x3) 9 x4) 12 0) α t)) rfl rfl rfl ?_
                      refine zk_iload dC_costs_77 rfl ?_
                      exact zk_iret dC_costs_79 rfl (Or.inr ⟨by omega, rfl, rfl⟩)
                    · skip
                      exact absurd h34 (by decide)
                  · skip
                    refine zk_W.to (ls' := [some (.inr (some 1)), some (.inl x0), some (.inl x1), some (.inl x2), some (.inl x3), some (.inl x4), none]) (st' := [.inl 0]) (h' := (zk_mk G sw σ α t)) rfl rfl rfl ?_
                    refine zk_if_ne (tgt := 40) dC_costs_34 (by decide) ⟨by decide, by decide⟩ (fun h34 => ?_) (fun h34 => ?_)
                    · skip
                      exact absurd h34 (by decide)
                    · skip
                      refine zk_bipush dC_costs_37 (by decide) ?_
                      exact zk_iret dC_costs_39 rfl (Or.inl ⟨by omega, rfl, rfl⟩)
              · skip
                refine zk_W.to (ls' := [some (.inr (some 1)), some (.inl x0), some (.inl x1), some (.inl x2), some (.inl x3), some (.inl x4), none]) (st' := [.inl 0]) (h' := (zk_mk G sw σ α t)) rfl rfl rfl ?_
                refine zk_if_eq (tgt := 37) dC_costs_26 (by decide) ⟨by decide, by decide⟩ (fun h26 => ?_) (fun h26 => ?_)
                · skip
                  refine zk_bipush dC_costs_37 (by decide) ?_
                  exact zk_iret dC_costs_39 rfl (Or.inl ⟨by omega, rfl, rfl⟩)
                · skip
                  exact absurd h26 (by decide)
          · skip
            refine zk_W.to (ls' := [some (.inr (some 1)), some (.inl x0), some (.inl x1), some (.inl x2), some (.inl x3), some (.inl x4), none]) (st' := [.inl 0]) (h' := (zk_mk G sw σ α t)) rfl rfl rfl ?_
            refine zk_if_eq (tgt := 37) dC_costs_18 (by decide) ⟨by decide, by decide⟩ (fun h18 => ?_) (fun h18 => ?_)
            · skip
              refine zk_bipush dC_costs_37 (by decide) ?_
              exact zk_iret dC_costs_39 rfl (Or.inl ⟨by omega, rfl, rfl⟩)
            · skip
              exact absurd h18 (by decide)
      · skip
        refine zk_W.to (ls' := [some (.inr (some 1)), some (.inl x0), some (.inl x1), some (.inl x2), some (.inl x3), some (.inl x4), none]) (st' := [.inl 0]) (h' := (zk_mk G sw σ α t)) rfl rfl rfl ?_
        refine zk_if_eq (tgt := 37) dC_costs_11 (by decide) ⟨by decide, by decide⟩ (fun h11 => ?_) (fun h11 => ?_)
        · skip
          refine zk_bipush dC_costs_37 (by decide) ?_
          exact zk_iret dC_costs_39 rfl (Or.inl ⟨by omega, rfl, rfl⟩)
        · skip
          exact absurd h11 (by decide)
  · skip
    refine zk_W.to (ls' := [some (.inr (some 1)), some (.inl x0), some (.inl x1), some (.inl x2), some (.inl x3), some (.inl x4), none]) (st' := [.inl 0]) (h' := (zk_mk G sw σ α t)) rfl rfl rfl ?_
    refine zk_if_eq (tgt := 37) dC_costs_4 (by decide) ⟨by decide, by decide⟩ (fun h4 => ?_) (fun h4 => ?_)
    · skip
      refine zk_bipush dC_costs_37 (by decide) ?_
      exact zk_iret dC_costs_39 rfl (Or.inl ⟨by omega, rfl, rfl⟩)
    · skip
      exact absurd h4 (by decide)

set_option maxRecDepth 100000 in
set_option maxHeartbeats 4000000 in
theorem kC_match (G : zk_G) (sw : Bool) (σ : Nat → Int) (α : Nat → Nat → Int) (t : zk_H) (hI : zc_I σ α) {x y z : Int} (hx : zk_rg x) (hy : zk_rg y) (hz : zk_rg z) : zk_K G mC_match (2, 46) 0 0 [.inr (some 1), .inl x, .inl y, .inl z] (zk_mk G sw σ α t) (fun v h' => ((¬ (x = 0 ∨ x = 1)) ∧ h' = (zk_mk G sw σ α t) ∧ v = some (.inl (-2))) ∨ (∃ q : Nat, q < 2 ∧ x = (q : Int) ∧ ¬ ((0 ≤ y ∧ y < σ q) ∧ (0 ≤ z ∧ z < σ 1)) ∧ h' = (zk_mk G sw σ α t) ∧ v = some (.inl (-2))) ∨ (∃ q : Nat, q < 2 ∧ x = (q : Int) ∧ (0 ≤ y ∧ y < σ q) ∧ (0 ≤ z ∧ z < σ 1) ∧ h' = (zk_mk G sw σ α t) ∧ v = some (.inl (mt_len (α q) (α 1) y.toNat z.toNat (min (σ q - y) (σ 1 - z)).toNat : Int)))) := by
  have hn0 := hI.1 0 (by decide)
  have hn1 := hI.1 1 (by decide)
  have hn2 := hI.1 2 (by decide)
  have hn3 := hI.1 3 (by decide)
  have hn4 := hI.1 4 (by decide)
  have eN0 : (zr_N 0 : Int) = 40 := rfl
  have eN1 : (zr_N 1 : Int) = 40 := rfl
  have eN2 : (zr_N 2 : Int) = 80 := rfl
  have eN3 : (zr_N 3 : Int) = 4102 := rfl
  have eN4 : (zr_N 4 : Int) = 4000 := rfl
  have hv0 := hI.2.1 0 (by decide)
  have hv1 := hI.2.1 1 (by decide)
  have hv2 := hI.2.1 2 (by decide)
  have hv3 := hI.2.1 3 (by decide)
  have hv4 := hI.2.1 4 (by decide)
  have hc := hI.2.2.1
  have hs10 := hI.2.2.2.1
  have hs11 := hI.2.2.2.2.1
  have ha := hI.2.2.2.2.2.1
  refine zk_K.of (ls := [some (.inr (some 1)), some (.inl x), some (.inl y), some (.inl z)]) (by decide +kernel) (Nat.le_of_ble_eq_true rfl) rfl ?_
  refine zk_iload_n dC_match_0 rfl ?_
  refine zk_callS (av := [.inl x]) (st := []) (d' := (0, 0)) (kc' := 0) (ks' := 0) zbC_66 dC_match_1 rfl rfl (Nat.le_of_ble_eq_true rfl) ⟨by decide, by decide⟩ rfl rfl (kC_isText G sw σ α t hx) (fun v9 h9 q9 => ?_)
  rcases q9 with ⟨rfl, ⟨hc1, rfl⟩ | ⟨hc1, rfl⟩⟩
  · skip
    refine zk_W.to (ls' := [some (.inr (some 1)), some (.inl x), some (.inl y), some (.inl z)]) (st' := [.inl 1]) (h' := (zk_mk G sw σ α t)) rfl rfl rfl ?_
    refine zk_if_eq (tgt := 30) dC_match_4 (by decide) ⟨by decide, by decide⟩ (fun h4 => ?_) (fun h4 => ?_)
    · skip
      exact absurd h4 (by decide)
    · skip
      refine zk_aload_n dC_match_7 rfl ?_
      refine zk_iload_n dC_match_8 rfl ?_
      refine zk_callV (av := [.inl x]) (st := []) (d' := (0, 0)) (kc' := 0) (ks' := 0) zbC_73 dC_match_9 rfl (by decide) rfl rfl (Nat.le_of_ble_eq_true rfl) ⟨by decide, by decide⟩ rfl rfl (kC_textOf G sw σ α t hx) (fun v9 h9 q9 => ?_)
      rcases q9 with ⟨rfl, ⟨hx9, rfl⟩ | ⟨hx9, rfl⟩⟩
      · skip
        refine zk_W.to (ls' := [some (.inr (some 1)), some (.inl x), some (.inl y), some (.inl z)]) (st' := [.inr (some 2)]) (h' := (zk_mk G sw σ α t)) rfl rfl rfl ?_
        refine zk_iload_n dC_match_12 rfl ?_
        refine zk_callV (av := [.inl y]) (st := []) (d' := (0, 0)) (kc' := 0) (ks' := 0) zbC_125 dC_match_13 rfl (by decide) rfl rfl (Nat.le_of_ble_eq_true rfl) ⟨by decide, by decide⟩ rfl rfl (kR_has G sw σ α t (q := 0) (by decide) hn0 hy) (fun v9 h9 q9 => ?_)
        rcases q9 with ⟨rfl, ⟨hh13, rfl⟩ | ⟨hh13, rfl⟩⟩
        · skip
          refine zk_W.to (ls' := [some (.inr (some 1)), some (.inl x), some (.inl y), some (.inl z)]) (st' := [.inl 1]) (h' := (zk_mk G sw σ α t)) rfl rfl rfl ?_
          refine zk_if_eq (tgt := 30) dC_match_16 (by decide) ⟨by decide, by decide⟩ (fun h16 => ?_) (fun h16 => ?_)
          · skip
            exact absurd h16 (by decide)
          · skip
            refine zk_aload_n dC_match_19 rfl ?_
            refine zk_get zfC_18 dC_match_20 (v := .inr (some 4)) rfl (by decide) rfl ?_
            refine zk_iload_n dC_match_23 rfl ?_
            refine zk_callV (av := [.inl z]) (st := []) (d' := (0, 0)) (kc' := 0) (ks' := 0) zbC_125 dC_match_24 rfl (by decide) rfl rfl (Nat.le_of_ble_eq_true rfl) ⟨by decide, by decide⟩ rfl rfl (kR_has G sw σ α t (q := 1) (by decide) hn1 hz) (fun v9 h9 q9 => ?_)
            rcases q9 with ⟨rfl, ⟨hh24, rfl⟩ | ⟨hh24, rfl⟩⟩
            · skip
              refine zk_W.to (ls' := [some (.inr (some 1)), some (.inl x), some (.inl y), some (.inl z)]) (st' := [.inl 1]) (h' := (zk_mk G sw σ α t)) rfl rfl rfl ?_
              refine zk_if_ne (tgt := 33) dC_match_27 (by decide) ⟨by decide, by decide⟩ (fun h27 => ?_) (fun h27 => ?_)
              · skip
                refine zk_aload_n dC_match_33 rfl ?_
                refine zk_iload_n dC_match_34 rfl ?_
                refine zk_callV (av := [.inl x]) (st := []) (d' := (0, 0)) (kc' := 0) (ks' := 0) zbC_73 dC_match_35 rfl (by decide) rfl rfl (Nat.le_of_ble_eq_true rfl) ⟨by decide, by decide⟩ rfl rfl (kC_textOf G sw σ α t hx) (fun v9 h9 q9 => ?_)
                rcases q9 with ⟨rfl, ⟨hx35, rfl⟩ | ⟨hx35, rfl⟩⟩
                · skip
                  refine zk_W.to (ls' := [some (.inr (some 1)), some (.inl x), some (.inl y), some (.inl z)]) (st' := [.inr (some 2)]) (h' := (zk_mk G sw σ α t)) rfl rfl rfl ?_
                  refine zk_iload_n dC_match_38 rfl ?_
                  refine zk_aload_n dC_match_39 rfl ?_
                  refine zk_get zfC_18 dC_match_40 (v := .inr (some 4)) rfl (by decide) rfl ?_
                  refine zk_iload_n dC_match_43 rfl ?_
                  refine zk_callV (av := [.inl y, .inr (some 4), .inl z]) (st := []) (d' := (1, 21)) (kc' := 0) (ks' := 0) zbC_128 dC_match_44 rfl (by decide) rfl rfl (Nat.le_of_ble_eq_true rfl) ⟨by decide, by decide⟩ rfl rfl (kR_countSame G sw σ α t (q := 0) (by decide) (r := 1) (by decide) hn0 hn1 hv0 hv1 (i := y) (j := z) hy hz) (fun v9 h9 q9 => ?_)
                  obtain ⟨rfl, rfl⟩ := q9
                  refine zk_W.to (ls' := [some (.inr (some 1)), some (.inl x), some (.inl y), some (.inl z)]) (st' := [.inl (if (0 ≤ y ∧ y < σ 0) ∧ (0 ≤ z ∧ z < σ 1) then (mt_len (α 0) (α 1) y.toNat z.toNat (min (σ 0 - y) (σ 1 - z)).toNat : Int) else 0)]) (h' := (zk_mk G sw σ α t)) rfl rfl rfl ?_
                  refine zk_iret dC_match_47 rfl (Or.inr (Or.inr ⟨0, by decide, by omega, by omega, by omega, rfl, ?_⟩))
                  rw [if_pos (by omega)]
                · skip
                  refine zk_W.to (ls' := [some (.inr (some 1)), some (.inl x), some (.inl y), some (.inl z)]) (st' := [.inr (some 4)]) (h' := (zk_mk G sw σ α t)) rfl rfl rfl ?_
                  refine zk_iload_n dC_match_38 rfl ?_
                  refine zk_aload_n dC_match_39 rfl ?_
                  refine zk_get zfC_18 dC_match_40 (v := .inr (some 4)) rfl (by decide) rfl ?_
                  refine zk_iload_n dC_match_43 rfl ?_
                  refine zk_callV (av := [.inl y, .inr (some 4), .inl z]) (st := []) (d' := (1, 21)) (kc' := 0) (ks' := 0) zbC_128 dC_match_44 rfl (by decide) rfl rfl (Nat.le_of_ble_eq_true rfl) ⟨by decide, by decide⟩ rfl rfl (kR_countSame G sw σ α t (q := 1) (by decide) (r := 1) (by decide) hn1 hn1 hv1 hv1 (i := y) (j := z) hy hz) (fun v9 h9 q9 => ?_)
                  obtain ⟨rfl, rfl⟩ := q9
                  refine zk_W.to (ls' := [some (.inr (some 1)), some (.inl x), some (.inl y), some (.inl z)]) (st' := [.inl (if (0 ≤ y ∧ y < σ 1) ∧ (0 ≤ z ∧ z < σ 1) then (mt_len (α 1) (α 1) y.toNat z.toNat (min (σ 1 - y) (σ 1 - z)).toNat : Int) else 0)]) (h' := (zk_mk G sw σ α t)) rfl rfl rfl ?_
                  refine zk_iret dC_match_47 rfl (Or.inr (Or.inr ⟨1, by decide, by omega, by omega, by omega, rfl, ?_⟩))
                  rw [if_pos (by omega)]
              · skip
                exact absurd h27 (by decide)
            · skip
              refine zk_W.to (ls' := [some (.inr (some 1)), some (.inl x), some (.inl y), some (.inl z)]) (st' := [.inl 0]) (h' := (zk_mk G sw σ α t)) rfl rfl rfl ?_
              refine zk_if_ne (tgt := 33) dC_match_27 (by decide) ⟨by decide, by decide⟩ (fun h27 => ?_) (fun h27 => ?_)
              · skip
                exact absurd h27 (by decide)
              · skip
                refine zk_bipush dC_match_30 (by decide) ?_
                first | exact zk_iret dC_match_32 rfl (Or.inl ⟨by omega, rfl, rfl⟩) | exact zk_iret dC_match_32 rfl (Or.inr (Or.inl ⟨0, by decide, by omega, by omega, rfl, rfl⟩)) | exact zk_iret dC_match_32 rfl (Or.inr (Or.inl ⟨1, by decide, by omega, by omega, rfl, rfl⟩))
        · skip
          refine zk_W.to (ls' := [some (.inr (some 1)), some (.inl x), some (.inl y), some (.inl z)]) (st' := [.inl 0]) (h' := (zk_mk G sw σ α t)) rfl rfl rfl ?_
          refine zk_if_eq (tgt := 30) dC_match_16 (by decide) ⟨by decide, by decide⟩ (fun h16 => ?_) (fun h16 => ?_)
          · skip
            refine zk_bipush dC_match_30 (by decide) ?_
            first | exact zk_iret dC_match_32 rfl (Or.inl ⟨by omega, rfl, rfl⟩) | exact zk_iret dC_match_32 rfl (Or.inr (Or.inl ⟨0, by decide, by omega, by omega, rfl, rfl⟩)) | exact zk_iret dC_match_32 rfl (Or.inr (Or.inl ⟨1, by decide, by omega, by omega, rfl, rfl⟩))
          · skip
            exact absurd h16 (by decide)
      · skip
        refine zk_W.to (ls' := [some (.inr (some 1)), some (.inl x), some (.inl y), some (.inl z)]) (st' := [.inr (some 4)]) (h' := (zk_mk G sw σ α t)) rfl rfl rfl ?_
        refine zk_iload_n dC_match_12 rfl ?_
        refine zk_callV (av := [.inl y]) (st := []) (d' := (0, 0)) (kc' := 0) (ks' := 0) zbC_125 dC_match_13 rfl (by decide) rfl rfl (Nat.le_of_ble_eq_true rfl) ⟨by decide, by decide⟩ rfl rfl (kR_has G sw σ α t (q := 1) (by decide) hn1 hy) (fun v9 h9 q9 => ?_)
        rcases q9 with ⟨rfl, ⟨hh13, rfl⟩ | ⟨hh13, rfl⟩⟩
        · skip
          refine zk_W.to (ls' := [some (.inr (some 1)), some (.inl x), some (.inl y), some (.inl z)]) (st' := [.inl 1]) (h' := (zk_mk G sw σ α t)) rfl rfl rfl ?_
          refine zk_if_eq (tgt := 30) dC_match_16 (by decide) ⟨by decide, by decide⟩ (fun h16 => ?_) (fun h16 => ?_)
          · skip
            exact absurd h16 (by decide)
          · skip
            refine zk_aload_n dC_match_19 rfl ?_
            refine zk_get zfC_18 dC_match_20 (v := .inr (some 4)) rfl (by decide) rfl ?_
            refine zk_iload_n dC_match_23 rfl ?_
            refine zk_callV (av := [.inl z]) (st := []) (d' := (0, 0)) (kc' := 0) (ks' := 0) zbC_125 dC_match_24 rfl (by decide) rfl rfl (Nat.le_of_ble_eq_true rfl) ⟨by decide, by decide⟩ rfl rfl (kR_has G sw σ α t (q := 1) (by decide) hn1 hz) (fun v9 h9 q9 => ?_)
            rcases q9 with ⟨rfl, ⟨hh24, rfl⟩ | ⟨hh24, rfl⟩⟩
            · skip
              refine zk_W.to (ls' := [some (.inr (some 1)), some (.inl x), some (.inl y), some (.inl z)]) (st' := [.inl 1]) (h' := (zk_mk G sw σ α t)) rfl rfl rfl ?_
              refine zk_if_ne (tgt := 33) dC_match_27 (by decide) ⟨by decide, by decide⟩ (fun h27 => ?_) (fun h27 => ?_)
              · skip
                refine zk_aload_n dC_match_33 rfl ?_
                refine zk_iload_n dC_match_34 rfl ?_
                refine zk_callV (av := [.inl x]) (st := []) (d' := (0, 0)) (kc' := 0) (ks' := 0) zbC_73 dC_match_35 rfl (by decide) rfl rfl (Nat.le_of_ble_eq_true rfl) ⟨by decide, by decide⟩ rfl rfl (kC_textOf G sw σ α t hx) (fun v9 h9 q9 => ?_)
                rcases q9 with ⟨rfl, ⟨hx35, rfl⟩ | ⟨hx35, rfl⟩⟩
                · skip
                  refine zk_W.to (ls' := [some (.inr (some 1)), some (.inl x), some (.inl y), some (.inl z)]) (st' := [.inr (some 2)]) (h' := (zk_mk G sw σ α t)) rfl rfl rfl ?_
                  refine zk_iload_n dC_match_38 rfl ?_
                  refine zk_aload_n dC_match_39 rfl ?_
                  refine zk_get zfC_18 dC_match_40 (v := .inr (some 4)) rfl (by decide) rfl ?_
                  refine zk_iload_n dC_match_43 rfl ?_
                  refine zk_callV (av := [.inl y, .inr (some 4), .inl z]) (st := []) (d' := (1, 21)) (kc' := 0) (ks' := 0) zbC_128 dC_match_44 rfl (by decide) rfl rfl (Nat.le_of_ble_eq_true rfl) ⟨by decide, by decide⟩ rfl rfl (kR_countSame G sw σ α t (q := 0) (by decide) (r := 1) (by decide) hn0 hn1 hv0 hv1 (i := y) (j := z) hy hz) (fun v9 h9 q9 => ?_)
                  obtain ⟨rfl, rfl⟩ := q9
                  refine zk_W.to (ls' := [some (.inr (some 1)), some (.inl x), some (.inl y), some (.inl z)]) (st' := [.inl (if (0 ≤ y ∧ y < σ 0) ∧ (0 ≤ z ∧ z < σ 1) then (mt_len (α 0) (α 1) y.toNat z.toNat (min (σ 0 - y) (σ 1 - z)).toNat : Int) else 0)]) (h' := (zk_mk G sw σ α t)) rfl rfl rfl ?_
                  refine zk_iret dC_match_47 rfl (Or.inr (Or.inr ⟨0, by decide, by omega, by omega, by omega, rfl, ?_⟩))
                  rw [if_pos (by omega)]
                · skip
                  refine zk_W.to (ls' := [some (.inr (some 1)), some (.inl x), some (.inl y), some (.inl z)]) (st' := [.inr (some 4)]) (h' := (zk_mk G sw σ α t)) rfl rfl rfl ?_
                  refine zk_iload_n dC_match_38 rfl ?_
                  refine zk_aload_n dC_match_39 rfl ?_
                  refine zk_get zfC_18 dC_match_40 (v := .inr (some 4)) rfl (by decide) rfl ?_
                  refine zk_iload_n dC_match_43 rfl ?_
                  refine zk_callV (av := [.inl y, .inr (some 4), .inl z]) (st := []) (d' := (1, 21)) (kc' := 0) (ks' := 0) zbC_128 dC_match_44 rfl (by decide) rfl rfl (Nat.le_of_ble_eq_true rfl) ⟨by decide, by decide⟩ rfl rfl (kR_countSame G sw σ α t (q := 1) (by decide) (r := 1) (by decide) hn1 hn1 hv1 hv1 (i := y) (j := z) hy hz) (fun v9 h9 q9 => ?_)
                  obtain ⟨rfl, rfl⟩ := q9
                  refine zk_W.to (ls' := [some (.inr (some 1)), some (.inl x), some (.inl y), some (.inl z)]) (st' := [.inl (if (0 ≤ y ∧ y < σ 1) ∧ (0 ≤ z ∧ z < σ 1) then (mt_len (α 1) (α 1) y.toNat z.toNat (min (σ 1 - y) (σ 1 - z)).toNat : Int) else 0)]) (h' := (zk_mk G sw σ α t)) rfl rfl rfl ?_
                  refine zk_iret dC_match_47 rfl (Or.inr (Or.inr ⟨1, by decide, by omega, by omega, by omega, rfl, ?_⟩))
                  rw [if_pos (by omega)]
              · skip
                exact absurd h27 (by decide)
            · skip
              refine zk_W.to (ls' := [some (.inr (some 1)), some (.inl x), some (.inl y), some (.inl z)]) (st' := [.inl 0]) (h' := (zk_mk G sw σ α t)) rfl rfl rfl ?_
              refine zk_if_ne (tgt := 33) dC_match_27 (by decide) ⟨by decide, by decide⟩ (fun h27 => ?_) (fun h27 => ?_)
              · skip
                exact absurd h27 (by decide)
              · skip
                refine zk_bipush dC_match_30 (by decide) ?_
                first | exact zk_iret dC_match_32 rfl (Or.inl ⟨by omega, rfl, rfl⟩) | exact zk_iret dC_match_32 rfl (Or.inr (Or.inl ⟨0, by decide, by omega, by omega, rfl, rfl⟩)) | exact zk_iret dC_match_32 rfl (Or.inr (Or.inl ⟨1, by decide, by omega, by omega, rfl, rfl⟩))
        · skip
          refine zk_W.to (ls' := [some (.inr (some 1)), some (.inl x), some (.inl y), some (.inl z)]) (st' := [.inl 0]) (h' := (zk_mk G sw σ α t)) rfl rfl rfl ?_
          refine zk_if_eq (tgt := 30) dC_match_16 (by decide) ⟨by decide, by decide⟩ (fun h16 => ?_) (fun h16 => ?_)
          · skip
            refine zk_bipush dC_match_30 (by decide) ?_
            first | exact zk_iret dC_match_32 rfl (Or.inl ⟨by omega, rfl, rfl⟩) | exact zk_iret dC_match_32 rfl (Or.inr (Or.inl ⟨0, by decide, by omega, by omega, rfl, rfl⟩)) | exact zk_iret dC_match_32 rfl (Or.inr (Or.inl ⟨1, by decide, by omega, by omega, rfl, rfl⟩))
          · skip
            exact absurd h16 (by decide)
  · skip
    refine zk_W.to (ls' := [some (.inr (some 1)), some (.inl x), some (.inl y), some (.inl z)]) (st' := [.inl 0]) (h' := (zk_mk G sw σ α t)) rfl rfl rfl ?_
    refine zk_if_eq (tgt := 30) dC_match_4 (by decide) ⟨by decide, by decide⟩ (fun h4 => ?_) (fun h4 => ?_)
    · skip
      refine zk_bipush dC_match_30 (by decide) ?_
      first | exact zk_iret dC_match_32 rfl (Or.inl ⟨by omega, rfl, rfl⟩) | exact zk_iret dC_match_32 rfl (Or.inr (Or.inl ⟨0, by decide, by omega, by omega, rfl, rfl⟩)) | exact zk_iret dC_match_32 rfl (Or.inr (Or.inl ⟨1, by decide, by omega, by omega, rfl, rfl⟩))
    · skip
      exact absurd h4 (by decide)

set_option maxRecDepth 100000 in
set_option maxHeartbeats 4000000 in
theorem kC_made (G : zk_G) (sw : Bool) (σ : Nat → Int) (α : Nat → Nat → Int) (t : zk_H) (hI : zc_I σ α) {x : Int} (hx : zk_rg x) : zk_K G mC_made (2, 42) 0 0 [.inr (some 1), .inl x] (zk_mk G sw σ α t) (fun v h' => h' = (zk_mk G sw σ α t) ∧ (((0 ≤ x ∧ x < σ 2) ∧ v = some (.inl (α 2 x.toNat))) ∨ ((¬ (0 ≤ x ∧ x < σ 2)) ∧ v = some (.inl (-1))))) := by
  have hn0 := hI.1 0 (by decide)
  have hn1 := hI.1 1 (by decide)
  have hn2 := hI.1 2 (by decide)
  have hn3 := hI.1 3 (by decide)
  have hn4 := hI.1 4 (by decide)
  have eN0 : (zr_N 0 : Int) = 40 := rfl
  have eN1 : (zr_N 1 : Int) = 40 := rfl
  have eN2 : (zr_N 2 : Int) = 80 := rfl
  have eN3 : (zr_N 3 : Int) = 4102 := rfl
  have eN4 : (zr_N 4 : Int) = 4000 := rfl
  have hv0 := hI.2.1 0 (by decide)
  have hv1 := hI.2.1 1 (by decide)
  have hv2 := hI.2.1 2 (by decide)
  have hv3 := hI.2.1 3 (by decide)
  have hv4 := hI.2.1 4 (by decide)
  have hc := hI.2.2.1
  have hs10 := hI.2.2.2.1
  have hs11 := hI.2.2.2.2.1
  have ha := hI.2.2.2.2.2.1
  refine zk_K.of (ls := [some (.inr (some 1)), some (.inl x)]) (by decide +kernel) (Nat.le_of_ble_eq_true rfl) rfl ?_
  refine zk_aload_n dC_made_0 rfl ?_
  refine zk_get zfC_21 dC_made_1 (v := .inr (some 6)) rfl (by decide) rfl ?_
  refine zk_iload_n dC_made_4 rfl ?_
  refine zk_callV (av := [.inl x]) (st := []) (d' := (1, 21)) (kc' := 0) (ks' := 0) zbC_168 dC_made_5 rfl (by decide) rfl rfl (Nat.le_of_ble_eq_true rfl) ⟨by decide, by decide⟩ rfl rfl (kR_get G sw σ α t (q := 2) (by decide) hn2 hx) (fun v9 h9 q9 => ?_)
  rcases q9 with ⟨rfl, ⟨hg5, rfl⟩ | ⟨hg5, rfl⟩⟩
  · skip
    refine zk_W.to (ls' := [some (.inr (some 1)), some (.inl x)]) (st' := [.inl (α 2 x.toNat)]) (h' := (zk_mk G sw σ α t)) rfl rfl rfl ?_
    first | exact zk_iret dC_made_8 rfl ⟨rfl, Or.inl ⟨by assumption, rfl⟩⟩ | exact zk_iret dC_made_8 rfl ⟨rfl, Or.inr ⟨by assumption, rfl⟩⟩
  · skip
    refine zk_W.to (ls' := [some (.inr (some 1)), some (.inl x)]) (st' := [.inl (-1)]) (h' := (zk_mk G sw σ α t)) rfl rfl rfl ?_
    first | exact zk_iret dC_made_8 rfl ⟨rfl, Or.inl ⟨by assumption, rfl⟩⟩ | exact zk_iret dC_made_8 rfl ⟨rfl, Or.inr ⟨by assumption, rfl⟩⟩

set_option maxRecDepth 100000 in
set_option maxHeartbeats 4000000 in
theorem kC_code (G : zk_G) (sw : Bool) (σ : Nat → Int) (α : Nat → Nat → Int) (t : zk_H) (hI : zc_I σ α) {x : Int} (hx : zk_rg x) : zk_K G mC_code (2, 42) 0 0 [.inr (some 1), .inl x] (zk_mk G sw σ α t) (fun v h' => h' = (zk_mk G sw σ α t) ∧ (((0 ≤ x ∧ x < σ 3) ∧ v = some (.inl (α 3 x.toNat))) ∨ ((¬ (0 ≤ x ∧ x < σ 3)) ∧ v = some (.inl (-1))))) := by
  have hn0 := hI.1 0 (by decide)
  have hn1 := hI.1 1 (by decide)
  have hn2 := hI.1 2 (by decide)
  have hn3 := hI.1 3 (by decide)
  have hn4 := hI.1 4 (by decide)
  have eN0 : (zr_N 0 : Int) = 40 := rfl
  have eN1 : (zr_N 1 : Int) = 40 := rfl
  have eN2 : (zr_N 2 : Int) = 80 := rfl
  have eN3 : (zr_N 3 : Int) = 4102 := rfl
  have eN4 : (zr_N 4 : Int) = 4000 := rfl
  have hv0 := hI.2.1 0 (by decide)
  have hv1 := hI.2.1 1 (by decide)
  have hv2 := hI.2.1 2 (by decide)
  have hv3 := hI.2.1 3 (by decide)
  have hv4 := hI.2.1 4 (by decide)
  have hc := hI.2.2.1
  have hs10 := hI.2.2.2.1
  have hs11 := hI.2.2.2.2.1
  have ha := hI.2.2.2.2.2.1
  refine zk_K.of (ls := [some (.inr (some 1)), some (.inl x)]) (by decide +kernel) (Nat.le_of_ble_eq_true rfl) rfl ?_
  refine zk_aload_n dC_code_0 rfl ?_
  refine zk_get zfC_24 dC_code_1 (v := .inr (some 8)) rfl (by decide) rfl ?_
  refine zk_iload_n dC_code_4 rfl ?_
  refine zk_callV (av := [.inl x]) (st := []) (d' := (1, 21)) (kc' := 0) (ks' := 0) zbC_168 dC_code_5 rfl (by decide) rfl rfl (Nat.le_of_ble_eq_true rfl) ⟨by decide, by decide⟩ rfl rfl (kR_get G sw σ α t (q := 3) (by decide) hn3 hx) (fun v9 h9 q9 => ?_)
  rcases q9 with ⟨rfl, ⟨hg5, rfl⟩ | ⟨hg5, rfl⟩⟩
  · skip
    refine zk_W.to (ls' := [some (.inr (some 1)), some (.inl x)]) (st' := [.inl (α 3 x.toNat)]) (h' := (zk_mk G sw σ α t)) rfl rfl rfl ?_
    first | exact zk_iret dC_code_8 rfl ⟨rfl, Or.inl ⟨by assumption, rfl⟩⟩ | exact zk_iret dC_code_8 rfl ⟨rfl, Or.inr ⟨by assumption, rfl⟩⟩
  · skip
    refine zk_W.to (ls' := [some (.inr (some 1)), some (.inl x)]) (st' := [.inl (-1)]) (h' := (zk_mk G sw σ α t)) rfl rfl rfl ?_
    first | exact zk_iret dC_code_8 rfl ⟨rfl, Or.inl ⟨by assumption, rfl⟩⟩ | exact zk_iret dC_code_8 rfl ⟨rfl, Or.inr ⟨by assumption, rfl⟩⟩

set_option maxRecDepth 100000 in
set_option maxHeartbeats 4000000 in
theorem kC_at (G : zk_G) (sw : Bool) (σ : Nat → Int) (α : Nat → Nat → Int) (t : zk_H) (hI : zc_I σ α) {x y : Int} (hx : zk_rg x) (hy : zk_rg y) : zk_K G mC_at (2, 42) 0 0 [.inr (some 1), .inl x, .inl y] (zk_mk G sw σ α t) (fun v h' => ((¬ (x = 0 ∨ x = 1)) ∧ h' = (zk_mk G sw σ α t) ∧ v = some (.inl (-2))) ∨ (∃ q : Nat, q < 2 ∧ x = (q : Int) ∧ ¬ (0 ≤ y ∧ y < σ q) ∧ h' = (zk_mk G sw σ α t) ∧ v = some (.inl (-2))) ∨ (∃ q : Nat, q < 2 ∧ x = (q : Int) ∧ (0 ≤ y ∧ y < σ q) ∧ h' = (zk_mk G sw σ α t) ∧ v = some (.inl (α q y.toNat)))) := by
  have hn0 := hI.1 0 (by decide)
  have hn1 := hI.1 1 (by decide)
  have hn2 := hI.1 2 (by decide)
  have hn3 := hI.1 3 (by decide)
  have hn4 := hI.1 4 (by decide)
  have eN0 : (zr_N 0 : Int) = 40 := rfl
  have eN1 : (zr_N 1 : Int) = 40 := rfl
  have eN2 : (zr_N 2 : Int) = 80 := rfl
  have eN3 : (zr_N 3 : Int) = 4102 := rfl
  have eN4 : (zr_N 4 : Int) = 4000 := rfl
  have hv0 := hI.2.1 0 (by decide)
  have hv1 := hI.2.1 1 (by decide)
  have hv2 := hI.2.1 2 (by decide)
  have hv3 := hI.2.1 3 (by decide)
  have hv4 := hI.2.1 4 (by decide)
  have hc := hI.2.2.1
  have hs10 := hI.2.2.2.1
  have hs11 := hI.2.2.2.2.1
  have ha := hI.2.2.2.2.2.1
  refine zk_K.of (ls := [some (.inr (some 1)), some (.inl x), some (.inl y)]) (by decide +kernel) (Nat.le_of_ble_eq_true rfl) rfl ?_
  refine zk_iload_n dC_at_0 rfl ?_
  refine zk_callS (av := [.inl x]) (st := []) (d' := (0, 0)) (kc' := 0) (ks' := 0) zbC_66 dC_at_1 rfl rfl (Nat.le_of_ble_eq_true rfl) ⟨by decide, by decide⟩ rfl rfl (kC_isText G sw σ α t hx) (fun v9 h9 q9 => ?_)
  rcases q9 with ⟨rfl, ⟨hc1, rfl⟩ | ⟨hc1, rfl⟩⟩
  · skip
    refine zk_W.to (ls' := [some (.inr (some 1)), some (.inl x), some (.inl y)]) (st' := [.inl 1]) (h' := (zk_mk G sw σ α t)) rfl rfl rfl ?_
    refine zk_if_eq (tgt := 19) dC_at_4 (by decide) ⟨by decide, by decide⟩ (fun h4 => ?_) (fun h4 => ?_)
    · skip
      exact absurd h4 (by decide)
    · skip
      refine zk_aload_n dC_at_7 rfl ?_
      refine zk_iload_n dC_at_8 rfl ?_
      refine zk_callV (av := [.inl x]) (st := []) (d' := (0, 0)) (kc' := 0) (ks' := 0) zbC_73 dC_at_9 rfl (by decide) rfl rfl (Nat.le_of_ble_eq_true rfl) ⟨by decide, by decide⟩ rfl rfl (kC_textOf G sw σ α t hx) (fun v9 h9 q9 => ?_)
      rcases q9 with ⟨rfl, ⟨hx9, rfl⟩ | ⟨hx9, rfl⟩⟩
      · skip
        refine zk_W.to (ls' := [some (.inr (some 1)), some (.inl x), some (.inl y)]) (st' := [.inr (some 2)]) (h' := (zk_mk G sw σ α t)) rfl rfl rfl ?_
        refine zk_iload_n dC_at_12 rfl ?_
        refine zk_callV (av := [.inl y]) (st := []) (d' := (0, 0)) (kc' := 0) (ks' := 0) zbC_125 dC_at_13 rfl (by decide) rfl rfl (Nat.le_of_ble_eq_true rfl) ⟨by decide, by decide⟩ rfl rfl (kR_has G sw σ α t (q := 0) (by decide) hn0 hy) (fun v9 h9 q9 => ?_)
        rcases q9 with ⟨rfl, ⟨hh13, rfl⟩ | ⟨hh13, rfl⟩⟩
        · skip
          refine zk_W.to (ls' := [some (.inr (some 1)), some (.inl x), some (.inl y)]) (st' := [.inl 1]) (h' := (zk_mk G sw σ α t)) rfl rfl rfl ?_
          refine zk_if_ne (tgt := 22) dC_at_16 (by decide) ⟨by decide, by decide⟩ (fun h16 => ?_) (fun h16 => ?_)
          · skip
            refine zk_aload_n dC_at_22 rfl ?_
            refine zk_iload_n dC_at_23 rfl ?_
            refine zk_callV (av := [.inl x]) (st := []) (d' := (0, 0)) (kc' := 0) (ks' := 0) zbC_73 dC_at_24 rfl (by decide) rfl rfl (Nat.le_of_ble_eq_true rfl) ⟨by decide, by decide⟩ rfl rfl (kC_textOf G sw σ α t hx) (fun v9 h9 q9 => ?_)
            rcases q9 with ⟨rfl, ⟨hx24, rfl⟩ | ⟨hx24, rfl⟩⟩
            · skip
              refine zk_W.to (ls' := [some (.inr (some 1)), some (.inl x), some (.inl y)]) (st' := [.inr (some 2)]) (h' := (zk_mk G sw σ α t)) rfl rfl rfl ?_
              refine zk_iload_n dC_at_27 rfl ?_
              refine zk_callV (av := [.inl y]) (st := []) (d' := (1, 21)) (kc' := 0) (ks' := 0) zbC_168 dC_at_28 rfl (by decide) rfl rfl (Nat.le_of_ble_eq_true rfl) ⟨by decide, by decide⟩ rfl rfl (kR_get G sw σ α t (q := 0) (by decide) hn0 hy) (fun v9 h9 q9 => ?_)
              rcases q9 with ⟨rfl, ⟨hg28, rfl⟩ | ⟨hg28, rfl⟩⟩
              · skip
                refine zk_W.to (ls' := [some (.inr (some 1)), some (.inl x), some (.inl y)]) (st' := [.inl (α 0 y.toNat)]) (h' := (zk_mk G sw σ α t)) rfl rfl rfl ?_
                exact zk_iret dC_at_31 rfl (Or.inr (Or.inr ⟨0, by decide, by omega, by omega, rfl, rfl⟩))
              · skip
                refine zk_W.to (ls' := [some (.inr (some 1)), some (.inl x), some (.inl y)]) (st' := [.inl (-1)]) (h' := (zk_mk G sw σ α t)) rfl rfl rfl ?_
                exfalso; omega
            · skip
              refine zk_W.to (ls' := [some (.inr (some 1)), some (.inl x), some (.inl y)]) (st' := [.inr (some 4)]) (h' := (zk_mk G sw σ α t)) rfl rfl rfl ?_
              refine zk_iload_n dC_at_27 rfl ?_
              refine zk_callV (av := [.inl y]) (st := []) (d' := (1, 21)) (kc' := 0) (ks' := 0) zbC_168 dC_at_28 rfl (by decide) rfl rfl (Nat.le_of_ble_eq_true rfl) ⟨by decide, by decide⟩ rfl rfl (kR_get G sw σ α t (q := 1) (by decide) hn1 hy) (fun v9 h9 q9 => ?_)
              rcases q9 with ⟨rfl, ⟨hg28, rfl⟩ | ⟨hg28, rfl⟩⟩
              · skip
                refine zk_W.to (ls' := [some (.inr (some 1)), some (.inl x), some (.inl y)]) (st' := [.inl (α 1 y.toNat)]) (h' := (zk_mk G sw σ α t)) rfl rfl rfl ?_
                exact zk_iret dC_at_31 rfl (Or.inr (Or.inr ⟨1, by decide, by omega, by omega, rfl, rfl⟩))
              · skip
                refine zk_W.to (ls' := [some (.inr (some 1)), some (.inl x), some (.inl y)]) (st' := [.inl (-1)]) (h' := (zk_mk G sw σ α t)) rfl rfl rfl ?_
                exfalso; omega
          · skip
            exact absurd h16 (by decide)
        · skip
          refine zk_W.to (ls' := [some (.inr (some 1)), some (.inl x), some (.inl y)]) (st' := [.inl 0]) (h' := (zk_mk G sw σ α t)) rfl rfl rfl ?_
          refine zk_if_ne (tgt := 22) dC_at_16 (by decide) ⟨by decide, by decide⟩ (fun h16 => ?_) (fun h16 => ?_)
          · skip
            exact absurd h16 (by decide)
          · skip
            refine zk_bipush dC_at_19 (by decide) ?_
            first | exact zk_iret dC_at_21 rfl (Or.inl ⟨by omega, rfl, rfl⟩) | exact zk_iret dC_at_21 rfl (Or.inr (Or.inl ⟨0, by decide, by omega, by omega, rfl, rfl⟩)) | exact zk_iret dC_at_21 rfl (Or.inr (Or.inl ⟨1, by decide, by omega, by omega, rfl, rfl⟩))
      · skip
        refine zk_W.to (ls' := [some (.inr (some 1)), some (.inl x), some (.inl y)]) (st' := [.inr (some 4)]) (h' := (zk_mk G sw σ α t)) rfl rfl rfl ?_
        refine zk_iload_n dC_at_12 rfl ?_
        refine zk_callV (av := [.inl y]) (st := []) (d' := (0, 0)) (kc' := 0) (ks' := 0) zbC_125 dC_at_13 rfl (by decide) rfl rfl (Nat.le_of_ble_eq_true rfl) ⟨by decide, by decide⟩ rfl rfl (kR_has G sw σ α t (q := 1) (by decide) hn1 hy) (fun v9 h9 q9 => ?_)
        rcases q9 with ⟨rfl, ⟨hh13, rfl⟩ | ⟨hh13, rfl⟩⟩
        · skip
          refine zk_W.to (ls' := [some (.inr (some 1)), some (.inl x), some (.inl y)]) (st' := [.inl 1]) (h' := (zk_mk G sw σ α t)) rfl rfl rfl ?_
          refine zk_if_ne (tgt := 22) dC_at_16 (by decide) ⟨by decide, by decide⟩ (fun h16 => ?_) (fun h16 => ?_)
          · skip
            refine zk_aload_n dC_at_22 rfl ?_
            refine zk_iload_n dC_at_23 rfl ?_
            refine zk_callV (av := [.inl x]) (st := []) (d' := (0, 0)) (kc' := 0) (ks' := 0) zbC_73 dC_at_24 rfl (by decide) rfl rfl (Nat.le_of_ble_eq_true rfl) ⟨by decide, by decide⟩ rfl rfl (kC_textOf G sw σ α t hx) (fun v9 h9 q9 => ?_)
            rcases q9 with ⟨rfl, ⟨hx24, rfl⟩ | ⟨hx24, rfl⟩⟩
            · skip
              refine zk_W.to (ls' := [some (.inr (some 1)), some (.inl x), some (.inl y)]) (st' := [.inr (some 2)]) (h' := (zk_mk G sw σ α t)) rfl rfl rfl ?_
              refine zk_iload_n dC_at_27 rfl ?_
              refine zk_callV (av := [.inl y]) (st := []) (d' := (1, 21)) (kc' := 0) (ks' := 0) zbC_168 dC_at_28 rfl (by decide) rfl rfl (Nat.le_of_ble_eq_true rfl) ⟨by decide, by decide⟩ rfl rfl (kR_get G sw σ α t (q := 0) (by decide) hn0 hy) (fun v9 h9 q9 => ?_)
              rcases q9 with ⟨rfl, ⟨hg28, rfl⟩ | ⟨hg28, rfl⟩⟩
              · skip
                refine zk_W.to (ls' := [some (.inr (some 1)), some (.inl x), some (.inl y)]) (st' := [.inl (α 0 y.toNat)]) (h' := (zk_mk G sw σ α t)) rfl rfl rfl ?_
                exact zk_iret dC_at_31 rfl (Or.inr (Or.inr ⟨0, by decide, by omega, by omega, rfl, rfl⟩))
              · skip
                refine zk_W.to (ls' := [some (.inr (some 1)), some (.inl x), some (.inl y)]) (st' := [.inl (-1)]) (h' := (zk_mk G sw σ α t)) rfl rfl rfl ?_
                exfalso; omega
            · skip
              refine zk_W.to (ls' := [some (.inr (some 1)), some (.inl x), some (.inl y)]) (st' := [.inr (some 4)]) (h' := (zk_mk G sw σ α t)) rfl rfl rfl ?_
              refine zk_iload_n dC_at_27 rfl ?_
              refine zk_callV (av := [.inl y]) (st := []) (d' := (1, 21)) (kc' := 0) (ks' := 0) zbC_168 dC_at_28 rfl (by decide) rfl rfl (Nat.le_of_ble_eq_true rfl) ⟨by decide, by decide⟩ rfl rfl (kR_get G sw σ α t (q := 1) (by decide) hn1 hy) (fun v9 h9 q9 => ?_)
              rcases q9 with ⟨rfl, ⟨hg28, rfl⟩ | ⟨hg28, rfl⟩⟩
              · skip
                refine zk_W.to (ls' := [some (.inr (some 1)), some (.inl x), some (.inl y)]) (st' := [.inl (α 1 y.toNat)]) (h' := (zk_mk G sw σ α t)) rfl rfl rfl ?_
                exact zk_iret dC_at_31 rfl (Or.inr (Or.inr ⟨1, by decide, by omega, by omega, rfl, rfl⟩))
              · skip
                refine zk_W.to (ls' := [some (.inr (some 1)), some (.inl x), some (.inl y)]) (st' := [.inl (-1)]) (h' := (zk_mk G sw σ α t)) rfl rfl rfl ?_
                exfalso; omega
          · skip
            exact absurd h16 (by decide)
        · skip
          refine zk_W.to (ls' := [some (.inr (some 1)), some (.inl x), some (.inl y)]) (st' := [.inl 0]) (h' := (zk_mk G sw σ α t)) rfl rfl rfl ?_
          refine zk_if_ne (tgt := 22) dC_at_16 (by decide) ⟨by decide, by decide⟩ (fun h16 => ?_) (fun h16 => ?_)
          · skip
            exact absurd h16 (by decide)
          · skip
            refine zk_bipush dC_at_19 (by decide) ?_
            first | exact zk_iret dC_at_21 rfl (Or.inl ⟨by omega, rfl, rfl⟩) | exact zk_iret dC_at_21 rfl (Or.inr (Or.inl ⟨0, by decide, by omega, by omega, rfl, rfl⟩)) | exact zk_iret dC_at_21 rfl (Or.inr (Or.inl ⟨1, by decide, by omega, by omega, rfl, rfl⟩))
  · skip
    refine zk_W.to (ls' := [some (.inr (some 1)), some (.inl x), some (.inl y)]) (st' := [.inl 0]) (h' := (zk_mk G sw σ α t)) rfl rfl rfl ?_
    refine zk_if_eq (tgt := 19) dC_at_4 (by decide) ⟨by decide, by decide⟩ (fun h4 => ?_) (fun h4 => ?_)
    · skip
      refine zk_bipush dC_at_19 (by decide) ?_
      first | exact zk_iret dC_at_21 rfl (Or.inl ⟨by omega, rfl, rfl⟩) | exact zk_iret dC_at_21 rfl (Or.inr (Or.inl ⟨0, by decide, by omega, by omega, rfl, rfl⟩)) | exact zk_iret dC_at_21 rfl (Or.inr (Or.inl ⟨1, by decide, by omega, by omega, rfl, rfl⟩))
    · skip
      exact absurd h4 (by decide)

set_option maxRecDepth 100000 in
set_option maxHeartbeats 4000000 in
theorem kC_poke (G : zk_G) (sw : Bool) (σ : Nat → Int) (α : Nat → Nat → Int) (t : zk_H) (hI : zc_I σ α) {x y : Int} (hx : zk_rg x) (hy : zk_rg y) : zk_K G mC_poke (2, 43) 0 0 [.inr (some 1), .inl x, .inl y] (zk_mk G sw σ α t) (fun v h' => ((¬ ((0 ≤ x ∧ x < σ 3) ∧ (0 ≤ y ∧ y ≤ 255))) ∧ h' = (zk_mk G sw σ α t) ∧ v = some (.inl (-2))) ∨ (((0 ≤ x ∧ x < σ 3) ∧ (0 ≤ y ∧ y ≤ 255)) ∧ h' = zk_mk G sw σ (zk_ua α 3 (zk_up (α 3) x.toNat y)) t ∧ v = some (.inl (α 3 x.toNat)))) := by
  have hn0 := hI.1 0 (by decide)
  have hn1 := hI.1 1 (by decide)
  have hn2 := hI.1 2 (by decide)
  have hn3 := hI.1 3 (by decide)
  have hn4 := hI.1 4 (by decide)
  have eN0 : (zr_N 0 : Int) = 40 := rfl
  have eN1 : (zr_N 1 : Int) = 40 := rfl
  have eN2 : (zr_N 2 : Int) = 80 := rfl
  have eN3 : (zr_N 3 : Int) = 4102 := rfl
  have eN4 : (zr_N 4 : Int) = 4000 := rfl
  have hv0 := hI.2.1 0 (by decide)
  have hv1 := hI.2.1 1 (by decide)
  have hv2 := hI.2.1 2 (by decide)
  have hv3 := hI.2.1 3 (by decide)
  have hv4 := hI.2.1 4 (by decide)
  have hc := hI.2.2.1
  have hs10 := hI.2.2.2.1
  have hs11 := hI.2.2.2.2.1
  have ha := hI.2.2.2.2.2.1
  refine zk_K.of (ls := [some (.inr (some 1)), some (.inl x), some (.inl y), none]) (by decide +kernel) (Nat.le_of_ble_eq_true rfl) rfl ?_
  refine zk_aload_n dC_poke_0 rfl ?_
  refine zk_get zfC_24 dC_poke_1 (v := .inr (some 8)) rfl (by decide) rfl ?_
  refine zk_iload_n dC_poke_4 rfl ?_
  refine zk_callV (av := [.inl x]) (st := []) (d' := (0, 0)) (kc' := 0) (ks' := 0) zbC_125 dC_poke_5 rfl (by decide) rfl rfl (Nat.le_of_ble_eq_true rfl) ⟨by decide, by decide⟩ rfl rfl (kR_has G sw σ α t (q := 3) (by decide) hn3 hx) (fun v9 h9 q9 => ?_)
  rcases q9 with ⟨rfl, ⟨hh5, rfl⟩ | ⟨hh5, rfl⟩⟩
  · skip
    refine zk_W.to (ls' := [some (.inr (some 1)), some (.inl x), some (.inl y), none]) (st' := [.inl 1]) (h' := (zk_mk G sw σ α t)) rfl rfl rfl ?_
    refine zk_if_eq (tgt := 18) dC_poke_8 (by decide) ⟨by decide, by decide⟩ (fun h8 => ?_) (fun h8 => ?_)
    · skip
      exact absurd h8 (by decide)
    · skip
      refine zk_iload_n dC_poke_11 rfl ?_
      refine zk_callS (av := [.inl y]) (st := []) (d' := (0, 0)) (kc' := 0) (ks' := 0) zbC_70 dC_poke_12 rfl rfl (Nat.le_of_ble_eq_true rfl) ⟨by decide, by decide⟩ rfl rfl (kC_isByte G sw σ α t hy) (fun v9 h9 q9 => ?_)
      rcases q9 with ⟨rfl, ⟨hc12, rfl⟩ | ⟨hc12, rfl⟩⟩
      · skip
        refine zk_W.to (ls' := [some (.inr (some 1)), some (.inl x), some (.inl y), none]) (st' := [.inl 1]) (h' := (zk_mk G sw σ α t)) rfl rfl rfl ?_
        refine zk_if_ne (tgt := 21) dC_poke_15 (by decide) ⟨by decide, by decide⟩ (fun h15 => ?_) (fun h15 => ?_)
        · skip
          refine zk_aload_n dC_poke_21 rfl ?_
          refine zk_get zfC_24 dC_poke_22 (v := .inr (some 8)) rfl (by decide) rfl ?_
          refine zk_iload_n dC_poke_25 rfl ?_
          refine zk_callV (av := [.inl x]) (st := []) (d' := (1, 21)) (kc' := 0) (ks' := 0) zbC_168 dC_poke_26 rfl (by decide) rfl rfl (Nat.le_of_ble_eq_true rfl) ⟨by decide, by decide⟩ rfl rfl (kR_get G sw σ α t (q := 3) (by decide) hn3 hx) (fun v9 h9 q9 => ?_)
          rcases q9 with ⟨rfl, ⟨hg26, rfl⟩ | ⟨hg26, rfl⟩⟩
          · skip
            refine zk_W.to (ls' := [some (.inr (some 1)), some (.inl x), some (.inl y), none]) (st' := [.inl (α 3 x.toNat)]) (h' := (zk_mk G sw σ α t)) rfl rfl rfl ?_
            refine zk_istore_n (ls' := [some (.inr (some 1)), some (.inl x), some (.inl y), some (.inl (α 3 x.toNat))]) dC_poke_29 (by decide) rfl ?_
            refine zk_aload_n dC_poke_30 rfl ?_
            refine zk_get zfC_24 dC_poke_31 (v := .inr (some 8)) rfl (by decide) rfl ?_
            refine zk_iload_n dC_poke_34 rfl ?_
            refine zk_iload_n dC_poke_35 rfl ?_
            refine zk_callV (av := [.inl x, .inl y]) (st := []) (d' := (1, 21)) (kc' := 0) (ks' := 0) zbC_178 dC_poke_36 rfl (by decide) rfl rfl (Nat.le_of_ble_eq_true rfl) ⟨by decide, by decide⟩ rfl rfl (kR_set G sw σ α t (q := 3) (by decide) hn3 (x := y) hx) (fun v9 h9 q9 => ?_)
            rcases q9 with ⟨rfl, ⟨hst36, rfl⟩ | ⟨hst36, rfl⟩⟩
            · skip
              refine zk_W.to (ls' := [some (.inr (some 1)), some (.inl x), some (.inl y), some (.inl (α 3 x.toNat))]) (st' := []) (h' := (zk_mk G sw σ (zk_ua α 3 (zk_up (α 3) x.toNat y)) t)) rfl rfl rfl ?_
              refine zk_iload_n dC_poke_39 rfl ?_
              first | exact zk_iret dC_poke_40 rfl (Or.inl ⟨by omega, rfl, rfl⟩) | exact zk_iret dC_poke_40 rfl (Or.inr ⟨by omega, rfl, rfl⟩) | (exfalso; omega)
            · skip
              exfalso; omega
          · skip
            refine zk_W.to (ls' := [some (.inr (some 1)), some (.inl x), some (.inl y), none]) (st' := [.inl (-1)]) (h' := (zk_mk G sw σ α t)) rfl rfl rfl ?_
            refine zk_istore_n (ls' := [some (.inr (some 1)), some (.inl x), some (.inl y), some (.inl (-1))]) dC_poke_29 (by decide) rfl ?_
            refine zk_aload_n dC_poke_30 rfl ?_
            refine zk_get zfC_24 dC_poke_31 (v := .inr (some 8)) rfl (by decide) rfl ?_
            refine zk_iload_n dC_poke_34 rfl ?_
            refine zk_iload_n dC_poke_35 rfl ?_
            refine zk_callV (av := [.inl x, .inl y]) (st := []) (d' := (1, 21)) (kc' := 0) (ks' := 0) zbC_178 dC_poke_36 rfl (by decide) rfl rfl (Nat.le_of_ble_eq_true rfl) ⟨by decide, by decide⟩ rfl rfl (kR_set G sw σ α t (q := 3) (by decide) hn3 (x := y) hx) (fun v9 h9 q9 => ?_)
            rcases q9 with ⟨rfl, ⟨hst36, rfl⟩ | ⟨hst36, rfl⟩⟩
            · skip
              refine zk_W.to (ls' := [some (.inr (some 1)), some (.inl x), some (.inl y), some (.inl (-1))]) (st' := []) (h' := (zk_mk G sw σ (zk_ua α 3 (zk_up (α 3) x.toNat y)) t)) rfl rfl rfl ?_
              refine zk_iload_n dC_poke_39 rfl ?_
              first | exact zk_iret dC_poke_40 rfl (Or.inl ⟨by omega, rfl, rfl⟩) | exact zk_iret dC_poke_40 rfl (Or.inr ⟨by omega, rfl, rfl⟩) | (exfalso; omega)
            · skip
              exfalso; omega
        · skip
          exact absurd h15 (by decide)
      · skip
        refine zk_W.to (ls' := [some (.inr (some 1)), some (.inl x), some (.inl y), none]) (st' := [.inl 0]) (h' := (zk_mk G sw σ α t)) rfl rfl rfl ?_
        refine zk_if_ne (tgt := 21) dC_poke_15 (by decide) ⟨by decide, by decide⟩ (fun h15 => ?_) (fun h15 => ?_)
        · skip
          exact absurd h15 (by decide)
        · skip
          refine zk_bipush dC_poke_18 (by decide) ?_
          first | exact zk_iret dC_poke_20 rfl (Or.inl ⟨by omega, rfl, rfl⟩) | exact zk_iret dC_poke_20 rfl (Or.inr ⟨by omega, rfl, rfl⟩) | (exfalso; omega)
  · skip
    refine zk_W.to (ls' := [some (.inr (some 1)), some (.inl x), some (.inl y), none]) (st' := [.inl 0]) (h' := (zk_mk G sw σ α t)) rfl rfl rfl ?_
    refine zk_if_eq (tgt := 18) dC_poke_8 (by decide) ⟨by decide, by decide⟩ (fun h8 => ?_) (fun h8 => ?_)
    · skip
      refine zk_bipush dC_poke_18 (by decide) ?_
      first | exact zk_iret dC_poke_20 rfl (Or.inl ⟨by omega, rfl, rfl⟩) | exact zk_iret dC_poke_20 rfl (Or.inr ⟨by omega, rfl, rfl⟩) | (exfalso; omega)
    · skip
      exact absurd h8 (by decide)

set_option maxRecDepth 100000 in
set_option maxHeartbeats 4000000 in
theorem kC_shorten (G : zk_G) (sw : Bool) (σ : Nat → Int) (α : Nat → Nat → Int) (t : zk_H) (hI : zc_I σ α) {x : Int} (hx : zk_rg x) : zk_K G mC_shorten (2, 39) 0 0 [.inr (some 1), .inl x] (zk_mk G sw σ α t) (fun v h' => ((¬ (0 ≤ x ∧ x ≤ σ 3)) ∧ h' = (zk_mk G sw σ α t) ∧ v = some (.inl (-2))) ∨ ((0 ≤ x ∧ x ≤ σ 3) ∧ h' = zk_mk G sw (zk_up σ 3 (σ 3 - x)) α t ∧ v = some (.inl (σ 3 - x)))) := by
  have hn0 := hI.1 0 (by decide)
  have hn1 := hI.1 1 (by decide)
  have hn2 := hI.1 2 (by decide)
  have hn3 := hI.1 3 (by decide)
  have hn4 := hI.1 4 (by decide)
  have eN0 : (zr_N 0 : Int) = 40 := rfl
  have eN1 : (zr_N 1 : Int) = 40 := rfl
  have eN2 : (zr_N 2 : Int) = 80 := rfl
  have eN3 : (zr_N 3 : Int) = 4102 := rfl
  have eN4 : (zr_N 4 : Int) = 4000 := rfl
  have hv0 := hI.2.1 0 (by decide)
  have hv1 := hI.2.1 1 (by decide)
  have hv2 := hI.2.1 2 (by decide)
  have hv3 := hI.2.1 3 (by decide)
  have hv4 := hI.2.1 4 (by decide)
  have hc := hI.2.2.1
  have hs10 := hI.2.2.2.1
  have hs11 := hI.2.2.2.2.1
  have ha := hI.2.2.2.2.2.1
  refine zk_K.of (ls := [some (.inr (some 1)), some (.inl x)]) (by decide +kernel) (Nat.le_of_ble_eq_true rfl) rfl ?_
  refine zk_iload_n dC_shorten_0 rfl ?_
  refine zk_if_lt (tgt := 15) dC_shorten_1 (by decide) hx (fun h1 => ?_) (fun h1 => ?_)
  · skip
    refine zk_bipush dC_shorten_15 (by decide) ?_
    exact zk_iret dC_shorten_17 rfl (Or.inl ⟨by omega, rfl, rfl⟩)
  · skip
    refine zk_iload_n dC_shorten_4 rfl ?_
    refine zk_aload_n dC_shorten_5 rfl ?_
    refine zk_get zfC_24 dC_shorten_6 (v := .inr (some 8)) rfl (by decide) rfl ?_
    refine zk_callV (av := []) (st := [.inl x]) (d' := (0, 0)) (kc' := 0) (ks' := 0) zbC_50 dC_shorten_9 rfl (by decide) rfl rfl (Nat.le_of_ble_eq_true rfl) ⟨by decide, by decide⟩ rfl rfl (kR_length G sw σ α t (q := 3) (by decide)) (fun v9 h9 q9 => ?_)
    obtain ⟨rfl, rfl⟩ := q9
    refine zk_W.to (ls' := [some (.inr (some 1)), some (.inl x)]) (st' := [.inl (σ 3), .inl x]) (h' := (zk_mk G sw σ α t)) rfl rfl rfl ?_
    refine zk_icmp_le (tgt := 18) dC_shorten_12 (by decide) hx ⟨by omega, by omega⟩ (fun h12 => ?_) (fun h12 => ?_)
    · skip
      refine zk_aload_n dC_shorten_18 rfl ?_
      refine zk_get zfC_24 dC_shorten_19 (v := .inr (some 8)) rfl (by decide) rfl ?_
      refine zk_iload_n dC_shorten_22 rfl ?_
      refine zk_callV (av := [.inl x]) (st := []) (d' := (1, 18)) (kc' := 0) (ks' := 0) zbC_84 dC_shorten_23 rfl (by decide) rfl rfl (Nat.le_of_ble_eq_true rfl) ⟨by decide, by decide⟩ rfl rfl (kR_dropLast G sw σ α t (q := 3) (by decide) hn3 hx) (fun v9 h9 q9 => ?_)
      obtain ⟨rfl, rfl⟩ := q9
      refine zk_W.to (ls' := [some (.inr (some 1)), some (.inl x)]) (st' := []) (h' := (zk_mk G sw (zk_up σ 3 (σ 3 - max 0 (min x (σ 3)))) α t)) rfl rfl rfl ?_
      refine zk_aload_n dC_shorten_26 rfl ?_
      refine zk_get zfC_24 dC_shorten_27 (v := .inr (some 8)) rfl (by decide) rfl ?_
      refine zk_callV (av := []) (st := []) (d' := (0, 0)) (kc' := 0) (ks' := 0) zbC_50 dC_shorten_30 rfl (by decide) rfl rfl (Nat.le_of_ble_eq_true rfl) ⟨by decide, by decide⟩ rfl rfl (kR_length G sw (zk_up σ 3 (σ 3 - max 0 (min x (σ 3)))) α t (q := 3) (by decide)) (fun v9 h9 q9 => ?_)
      obtain ⟨rfl, rfl⟩ := q9
      refine zk_W.to (ls' := [some (.inr (some 1)), some (.inl x)]) (st' := [.inl (σ 3 - max 0 (min x (σ 3)))]) (h' := (zk_mk G sw (zk_up σ 3 (σ 3 - max 0 (min x (σ 3)))) α t)) rfl rfl rfl ?_
      have em : max 0 (min x (σ 3)) = x := by omega
      refine zk_iret dC_shorten_33 rfl (Or.inr ⟨by omega, ?_, ?_⟩)
      · rw [em]
      · rw [em]
    · skip
      refine zk_bipush dC_shorten_15 (by decide) ?_
      exact zk_iret dC_shorten_17 rfl (Or.inl ⟨by omega, rfl, rfl⟩)

set_option maxRecDepth 100000 in
set_option maxHeartbeats 4000000 in
theorem kC_empty (G : zk_G) (sw : Bool) (σ : Nat → Int) (α : Nat → Nat → Int) (t : zk_H) (hI : zc_I σ α)  : zk_K G mC_empty (2, 41) 0 0 [.inr (some 1)] (zk_mk G sw σ α t) (fun v h' => h' = zk_mk G sw (zk_up (zk_up (zk_up σ 10 0) 4 0) 11 (mt_sum (α 0) (σ 0).toNat)) α t ∧ v = some (.inl (σ 10))) := by
  have hn0 := hI.1 0 (by decide)
  have hn1 := hI.1 1 (by decide)
  have hn2 := hI.1 2 (by decide)
  have hn3 := hI.1 3 (by decide)
  have hn4 := hI.1 4 (by decide)
  have eN0 : (zr_N 0 : Int) = 40 := rfl
  have eN1 : (zr_N 1 : Int) = 40 := rfl
  have eN2 : (zr_N 2 : Int) = 80 := rfl
  have eN3 : (zr_N 3 : Int) = 4102 := rfl
  have eN4 : (zr_N 4 : Int) = 4000 := rfl
  have hv0 := hI.2.1 0 (by decide)
  have hv1 := hI.2.1 1 (by decide)
  have hv2 := hI.2.1 2 (by decide)
  have hv3 := hI.2.1 3 (by decide)
  have hv4 := hI.2.1 4 (by decide)
  have hc := hI.2.2.1
  have hs10 := hI.2.2.2.1
  have hs11 := hI.2.2.2.2.1
  have ha := hI.2.2.2.2.2.1
  refine zk_K.of (ls := [some (.inr (some 1)), none]) (by decide +kernel) (Nat.le_of_ble_eq_true rfl) rfl ?_
  refine zk_aload_n dC_empty_0 rfl ?_
  refine zk_get zfC_37 dC_empty_1 (v := .inr (some 11)) rfl (by decide) rfl ?_
  refine zk_callV (av := []) (st := []) (d' := (0, 0)) (kc' := 0) (ks' := 0) zbC_113 dC_empty_4 rfl (by decide) rfl rfl (Nat.le_of_ble_eq_true rfl) ⟨by decide, by decide⟩ rfl rfl (kA_length G sw σ α t) (fun v9 h9 q9 => ?_)
  obtain ⟨rfl, rfl⟩ := q9
  refine zk_W.to (ls' := [some (.inr (some 1)), none]) (st' := [.inl (σ 10)]) (h' := (zk_mk G sw σ α t)) rfl rfl rfl ?_
  refine zk_istore_n (ls' := [some (.inr (some 1)), some (.inl (σ 10))]) dC_empty_7 (by decide) rfl ?_
  refine zk_aload_n dC_empty_8 rfl ?_
  refine zk_get zfC_37 dC_empty_9 (v := .inr (some 11)) rfl (by decide) rfl ?_
  refine zk_aload_n dC_empty_12 rfl ?_
  refine zk_get zfC_14 dC_empty_13 (v := .inr (some 2)) rfl (by decide) rfl ?_
  refine zk_callV (av := []) (st := [.inr (some 11)]) (d' := (0, 0)) (kc' := 0) (ks' := 0) zbC_102 dC_empty_16 rfl (by decide) rfl rfl (Nat.le_of_ble_eq_true rfl) ⟨by decide, by decide⟩ rfl rfl (kR_sum G sw σ α t (q := 0) (by decide) hn0 hv0) (fun v9 h9 q9 => ?_)
  obtain ⟨rfl, rfl⟩ := q9
  refine zk_W.to (ls' := [some (.inr (some 1)), some (.inl (σ 10))]) (st' := [.inl (mt_sum (α 0) (σ 0).toNat), .inr (some 11)]) (h' := (zk_mk G sw σ α t)) rfl rfl rfl ?_
  refine zk_callV (av := [.inl (mt_sum (α 0) (σ 0).toNat)]) (st := []) (d' := (1, 20)) (kc' := 0) (ks' := 0) zbC_60 dC_empty_19 rfl (by decide) rfl rfl (Nat.le_of_ble_eq_true rfl) ⟨by decide, by decide⟩ rfl rfl (kA_begin G sw σ α t) (fun v9 h9 q9 => ?_)
  obtain ⟨rfl, rfl⟩ := q9
  refine zk_W.to (ls' := [some (.inr (some 1)), some (.inl (σ 10))]) (st' := []) (h' := (zk_mk G sw (zk_up (zk_up (zk_up σ 10 0) 4 0) 11 (mt_sum (α 0) (σ 0).toNat)) α t)) rfl rfl rfl ?_
  refine zk_iload_n dC_empty_22 rfl ?_
  exact zk_iret dC_empty_23 rfl ⟨rfl, rfl⟩

/-- numbers that are the same int -/
theorem zk_wrap {G : zk_G} {M : zk_M} {d : Nat × Nat} {kc ks pc : Nat} {ls : List (Option zk_V)} {st : List zk_V} {h : zk_H} {Q : Option zk_V → zk_H → Prop} {x y : Int} (e : Int32.ofInt x = Int32.ofInt y) (w : zk_W G M d kc ks pc ls (.inl y :: st) h Q) : zk_W G M d kc ks pc ls (.inl x :: st) h Q := by
  intro p e1 R s m args below meth c X H locs cells slots mc ms lsr Qs hP hS h1 h2 h3 h4 hL hE
  have k := w p e1 R s m args below meth c X H locs cells slots mc ms lsr Qs hP hS h1 h2 h3 h4 hL hE
  have e2 : (Sum.inl x :: st : List zk_V).map (zk_rv G) = (Sum.inl y :: st : List zk_V).map (zk_rv G) := by
    show (Value.int (Int32.ofInt x) :: _) = (Value.int (Int32.ofInt y) :: _)
    rw [e]
  rw [e2]
  exact k
theorem zk_wrap32 (x : Int) : Int32.ofInt x = Int32.ofInt (x + 4294967296) := by
  rw [Int32.ofInt_add]
  have : Int32.ofInt 4294967296 = 0 := by decide
  rw [this, Int32.add_zero]

set_option maxRecDepth 100000 in
set_option maxHeartbeats 4000000 in
theorem kC_of (G : zk_G) (sw : Bool) (σ : Nat → Int) (α : Nat → Nat → Int) (t : zk_H) (hI : zc_I σ α) {x : Int} (hx : zk_rg x) : zk_K G mC_of (1, 22) 0 0 [.inr (some 1), .inl x] (zk_mk G sw σ α t) (fun v h' => h' = (zk_mk G sw σ α t) ∧ ((x = 0 ∧ v = some (.inl (σ 0))) ∨ (x = 1 ∧ v = some (.inl (σ 1))) ∨ (x = 2 ∧ v = some (.inl (σ 10))) ∨ (x = 3 ∧ v = some (.inl (σ 3))) ∨ (x = 4 ∧ v = some (.inl (σ 2))) ∨ (x = 5 ∧ v = some (.inl (mt_sum (α 0) (σ 0).toNat))) ∨ (x = 6 ∧ v = some (.inl (mt_sum (α 1) (σ 1).toNat))) ∨ (x = 7 ∧ v = some (.inl (σ 11))) ∨ ((x < 0 ∨ 7 < x) ∧ v = some (.inl (if 0 ≤ x - 8 ∧ x - 8 ≤ 4 then σ (5 + (x - 8).toNat) else -2))))) := by
  have hn0 := hI.1 0 (by decide)
  have hn1 := hI.1 1 (by decide)
  have hn2 := hI.1 2 (by decide)
  have hn3 := hI.1 3 (by decide)
  have hn4 := hI.1 4 (by decide)
  have eN0 : (zr_N 0 : Int) = 40 := rfl
  have eN1 : (zr_N 1 : Int) = 40 := rfl
  have eN2 : (zr_N 2 : Int) = 80 := rfl
  have eN3 : (zr_N 3 : Int) = 4102 := rfl
  have eN4 : (zr_N 4 : Int) = 4000 := rfl
  have hv0 := hI.2.1 0 (by decide)
  have hv1 := hI.2.1 1 (by decide)
  have hv2 := hI.2.1 2 (by decide)
  have hv3 := hI.2.1 3 (by decide)
  have hv4 := hI.2.1 4 (by decide)
  have hc := hI.2.2.1
  have hs10 := hI.2.2.2.1
  have hs11 := hI.2.2.2.2.1
  have ha := hI.2.2.2.2.2.1
  refine zk_K.of (ls := [some (.inr (some 1)), some (.inl x)]) (by decide +kernel) (Nat.le_of_ble_eq_true rfl) rfl ?_
  refine zk_iload_n dC_of_0 rfl ?_
  by_cases h1_0 : x = 0
  · skip
    refine zk_tableIn (tgt := 48) dC_of_1 ⟨by have := hx.1; omega, by have := hx.2; omega⟩ (by omega) (by omega) (by rw [h1_0]; rfl) (by decide) ?_
    refine zk_aload_n dC_of_48 rfl ?_
    refine zk_get zfC_14 dC_of_49 (v := .inr (some 2)) rfl (by decide) rfl ?_
    refine zk_callV (av := []) (st := []) (d' := (0, 0)) (kc' := 0) (ks' := 0) zbC_50 dC_of_52 rfl (by decide) rfl rfl (Nat.le_of_ble_eq_true rfl) ⟨by decide, by decide⟩ rfl rfl (kR_length G sw σ α t (q := 0) (by decide)) (fun v9 h9 q9 => ?_)
    obtain ⟨rfl, rfl⟩ := q9
    refine zk_W.to (ls' := [some (.inr (some 1)), some (.inl x)]) (st' := [.inl (σ 0)]) (h' := (zk_mk G sw σ α t)) rfl rfl rfl ?_
    refine zk_iret dC_of_55 rfl ⟨rfl, ?_⟩
    exact Or.inl ⟨by assumption, rfl⟩
  by_cases h1_1 : x = 1
  · skip
    refine zk_tableIn (tgt := 56) dC_of_1 ⟨by have := hx.1; omega, by have := hx.2; omega⟩ (by omega) (by omega) (by rw [h1_1]; rfl) (by decide) ?_
    refine zk_aload_n dC_of_56 rfl ?_
    refine zk_get zfC_18 dC_of_57 (v := .inr (some 4)) rfl (by decide) rfl ?_
    refine zk_callV (av := []) (st := []) (d' := (0, 0)) (kc' := 0) (ks' := 0) zbC_50 dC_of_60 rfl (by decide) rfl rfl (Nat.le_of_ble_eq_true rfl) ⟨by decide, by decide⟩ rfl rfl (kR_length G sw σ α t (q := 1) (by decide)) (fun v9 h9 q9 => ?_)
    obtain ⟨rfl, rfl⟩ := q9
    refine zk_W.to (ls' := [some (.inr (some 1)), some (.inl x)]) (st' := [.inl (σ 1)]) (h' := (zk_mk G sw σ α t)) rfl rfl rfl ?_
    refine zk_iret dC_of_63 rfl ⟨rfl, ?_⟩
    exact Or.inr (Or.inl ⟨by assumption, rfl⟩)
  by_cases h1_2 : x = 2
  · skip
    refine zk_tableIn (tgt := 64) dC_of_1 ⟨by have := hx.1; omega, by have := hx.2; omega⟩ (by omega) (by omega) (by rw [h1_2]; rfl) (by decide) ?_
    refine zk_aload_n dC_of_64 rfl ?_
    refine zk_get zfC_37 dC_of_65 (v := .inr (some 11)) rfl (by decide) rfl ?_
    refine zk_callV (av := []) (st := []) (d' := (0, 0)) (kc' := 0) (ks' := 0) zbC_113 dC_of_68 rfl (by decide) rfl rfl (Nat.le_of_ble_eq_true rfl) ⟨by decide, by decide⟩ rfl rfl (kA_length G sw σ α t) (fun v9 h9 q9 => ?_)
    obtain ⟨rfl, rfl⟩ := q9
    refine zk_W.to (ls' := [some (.inr (some 1)), some (.inl x)]) (st' := [.inl (σ 10)]) (h' := (zk_mk G sw σ α t)) rfl rfl rfl ?_
    refine zk_iret dC_of_71 rfl ⟨rfl, ?_⟩
    exact Or.inr (Or.inr (Or.inl ⟨by assumption, rfl⟩))
  by_cases h1_3 : x = 3
  · skip
    refine zk_tableIn (tgt := 72) dC_of_1 ⟨by have := hx.1; omega, by have := hx.2; omega⟩ (by omega) (by omega) (by rw [h1_3]; rfl) (by decide) ?_
    refine zk_aload_n dC_of_72 rfl ?_
    refine zk_get zfC_24 dC_of_73 (v := .inr (some 8)) rfl (by decide) rfl ?_
    refine zk_callV (av := []) (st := []) (d' := (0, 0)) (kc' := 0) (ks' := 0) zbC_50 dC_of_76 rfl (by decide) rfl rfl (Nat.le_of_ble_eq_true rfl) ⟨by decide, by decide⟩ rfl rfl (kR_length G sw σ α t (q := 3) (by decide)) (fun v9 h9 q9 => ?_)
    obtain ⟨rfl, rfl⟩ := q9
    refine zk_W.to (ls' := [some (.inr (some 1)), some (.inl x)]) (st' := [.inl (σ 3)]) (h' := (zk_mk G sw σ α t)) rfl rfl rfl ?_
    refine zk_iret dC_of_79 rfl ⟨rfl, ?_⟩
    exact Or.inr (Or.inr (Or.inr (Or.inl ⟨by assumption, rfl⟩)))
  by_cases h1_4 : x = 4
  · skip
    refine zk_tableIn (tgt := 80) dC_of_1 ⟨by have := hx.1; omega, by have := hx.2; omega⟩ (by omega) (by omega) (by rw [h1_4]; rfl) (by decide) ?_
    refine zk_aload_n dC_of_80 rfl ?_
    refine zk_get zfC_21 dC_of_81 (v := .inr (some 6)) rfl (by decide) rfl ?_
    refine zk_callV (av := []) (st := []) (d' := (0, 0)) (kc' := 0) (ks' := 0) zbC_50 dC_of_84 rfl (by decide) rfl rfl (Nat.le_of_ble_eq_true rfl) ⟨by decide, by decide⟩ rfl rfl (kR_length G sw σ α t (q := 2) (by decide)) (fun v9 h9 q9 => ?_)
    obtain ⟨rfl, rfl⟩ := q9
    refine zk_W.to (ls' := [some (.inr (some 1)), some (.inl x)]) (st' := [.inl (σ 2)]) (h' := (zk_mk G sw σ α t)) rfl rfl rfl ?_
    refine zk_iret dC_of_87 rfl ⟨rfl, ?_⟩
    exact Or.inr (Or.inr (Or.inr (Or.inr (Or.inl ⟨by assumption, rfl⟩))))
  by_cases h1_5 : x = 5
  · skip
    refine zk_tableIn (tgt := 88) dC_of_1 ⟨by have := hx.1; omega, by have := hx.2; omega⟩ (by omega) (by omega) (by rw [h1_5]; rfl) (by decide) ?_
    refine zk_aload_n dC_of_88 rfl ?_
    refine zk_get zfC_14 dC_of_89 (v := .inr (some 2)) rfl (by decide) rfl ?_
    refine zk_callV (av := []) (st := []) (d' := (0, 0)) (kc' := 0) (ks' := 0) zbC_102 dC_of_92 rfl (by decide) rfl rfl (Nat.le_of_ble_eq_true rfl) ⟨by decide, by decide⟩ rfl rfl (kR_sum G sw σ α t (q := 0) (by decide) hn0 hv0) (fun v9 h9 q9 => ?_)
    obtain ⟨rfl, rfl⟩ := q9
    refine zk_W.to (ls' := [some (.inr (some 1)), some (.inl x)]) (st' := [.inl (mt_sum (α 0) (σ 0).toNat)]) (h' := (zk_mk G sw σ α t)) rfl rfl rfl ?_
    refine zk_iret dC_of_95 rfl ⟨rfl, ?_⟩
    exact Or.inr (Or.inr (Or.inr (Or.inr (Or.inr (Or.inl ⟨by assumption, rfl⟩)))))
  by_cases h1_6 : x = 6
  · skip
    refine zk_tableIn (tgt := 96) dC_of_1 ⟨by have := hx.1; omega, by have := hx.2; omega⟩ (by omega) (by omega) (by rw [h1_6]; rfl) (by decide) ?_
    refine zk_aload_n dC_of_96 rfl ?_
    refine zk_get zfC_18 dC_of_97 (v := .inr (some 4)) rfl (by decide) rfl ?_
    refine zk_callV (av := []) (st := []) (d' := (0, 0)) (kc' := 0) (ks' := 0) zbC_102 dC_of_100 rfl (by decide) rfl rfl (Nat.le_of_ble_eq_true rfl) ⟨by decide, by decide⟩ rfl rfl (kR_sum G sw σ α t (q := 1) (by decide) hn1 hv1) (fun v9 h9 q9 => ?_)
    obtain ⟨rfl, rfl⟩ := q9
    refine zk_W.to (ls' := [some (.inr (some 1)), some (.inl x)]) (st' := [.inl (mt_sum (α 1) (σ 1).toNat)]) (h' := (zk_mk G sw σ α t)) rfl rfl rfl ?_
    refine zk_iret dC_of_103 rfl ⟨rfl, ?_⟩
    exact Or.inr (Or.inr (Or.inr (Or.inr (Or.inr (Or.inr (Or.inl ⟨by assumption, rfl⟩))))))
  by_cases h1_7 : x = 7
  · skip
    refine zk_tableIn (tgt := 104) dC_of_1 ⟨by have := hx.1; omega, by have := hx.2; omega⟩ (by omega) (by omega) (by rw [h1_7]; rfl) (by decide) ?_
    refine zk_aload_n dC_of_104 rfl ?_
    refine zk_get zfC_37 dC_of_105 (v := .inr (some 11)) rfl (by decide) rfl ?_
    refine zk_callV (av := []) (st := []) (d' := (0, 0)) (kc' := 0) (ks' := 0) zbC_161 dC_of_108 rfl (by decide) rfl rfl (Nat.le_of_ble_eq_true rfl) ⟨by decide, by decide⟩ rfl rfl (kA_sum G sw σ α t) (fun v9 h9 q9 => ?_)
    obtain ⟨rfl, rfl⟩ := q9
    refine zk_W.to (ls' := [some (.inr (some 1)), some (.inl x)]) (st' := [.inl (σ 11)]) (h' := (zk_mk G sw σ α t)) rfl rfl rfl ?_
    refine zk_iret dC_of_111 rfl ⟨rfl, ?_⟩
    exact Or.inr (Or.inr (Or.inr (Or.inr (Or.inr (Or.inr (Or.inr (Or.inl ⟨by assumption, rfl⟩)))))))
  refine zk_tableOut (tgt := 112) dC_of_1 ⟨by have := hx.1; omega, by have := hx.2; omega⟩ (by omega) (by decide) ?_
  refine zk_aload_n dC_of_112 rfl ?_
  refine zk_get zfC_30 dC_of_113 (v := .inr (some 10)) rfl (by decide) rfl ?_
  refine zk_iload_n dC_of_116 rfl ?_
  refine zk_bipush dC_of_117 (by decide) ?_
  refine zk_isub dC_of_119 ?_
  have hx1 := hx.1
  have hx2 := hx.2
  by_cases hw : -2147483640 ≤ x
  · skip
    refine zk_callV (av := [.inl (x - 8)]) (st := []) (d' := (0, 0)) (kc' := 0) (ks' := 0) zbC_193 dC_of_120 rfl (by decide) rfl rfl (Nat.le_of_ble_eq_true rfl) ⟨by decide, by decide⟩ rfl rfl (kN_get G sw σ α t ⟨by omega, by omega⟩) (fun v9 h9 q9 => ?_)
    obtain ⟨rfl, rfl⟩ := q9
    refine zk_W.to (ls' := [some (.inr (some 1)), some (.inl x)]) (st' := [.inl (if 0 ≤ x - 8 ∧ x - 8 ≤ 4 then σ (5 + (x - 8).toNat) else -2)]) (h' := (zk_mk G sw σ α t)) rfl rfl rfl ?_
    refine zk_iret dC_of_123 rfl ⟨rfl, ?_⟩
    refine Or.inr (Or.inr (Or.inr (Or.inr (Or.inr (Or.inr (Or.inr (Or.inr (⟨by omega, ?_⟩))))))))
    first | rfl | (rw [if_neg (by omega), if_neg (by omega)])
  · refine zk_wrap (zk_wrap32 (x - 8)) ?_
    refine zk_callV (av := [.inl (x - 8 + 4294967296)]) (st := []) (d' := (0, 0)) (kc' := 0) (ks' := 0) zbC_193 dC_of_120 rfl (by decide) rfl rfl (Nat.le_of_ble_eq_true rfl) ⟨by decide, by decide⟩ rfl rfl (kN_get G sw σ α t ⟨by omega, by omega⟩) (fun v9 h9 q9 => ?_)
    obtain ⟨rfl, rfl⟩ := q9
    refine zk_W.to (ls' := [some (.inr (some 1)), some (.inl x)]) (st' := [.inl (if 0 ≤ x - 8 + 4294967296 ∧ x - 8 + 4294967296 ≤ 4 then σ (5 + (x - 8 + 4294967296).toNat) else -2)]) (h' := (zk_mk G sw σ α t)) rfl rfl rfl ?_
    refine zk_iret dC_of_123 rfl ⟨rfl, ?_⟩
    refine Or.inr (Or.inr (Or.inr (Or.inr (Or.inr (Or.inr (Or.inr (Or.inr (⟨by omega, ?_⟩))))))))
    first | rfl | (rw [if_neg (by omega), if_neg (by omega)])
