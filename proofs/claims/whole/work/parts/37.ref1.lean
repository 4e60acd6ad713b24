/-- act k of the reference is one that can stand in a plan -/
def zm_a (β : Nat → Nat → Int) (k : Nat) : Prop := (β 2 k = 0 ∨ β 2 k = 1 ∨ β 2 k = 2) ∧ (1 ≤ β 4 k ∧ β 4 k ≤ 40) ∧ (0 ≤ β 3 k ∧ β 3 k ≤ 79)
/-- what holds of the reference between its calls -/
def zm_J (τ : Nat → Int) (β : Nat → Nat → Int) : Prop := zm_I τ β ∧ (0 ≤ τ 5 ∧ τ 5 ≤ 100) ∧ (0 ≤ τ 6 ∧ τ 6 ≤ 65535) ∧ (0 ≤ τ 7 ∧ τ 7 ≤ 4102) ∧ (0 ≤ τ 8 ∧ τ 8 ≤ 80) ∧ (∀ k, k < (τ 5).toNat → zm_a β k) ∧ (∀ k, k < (τ 5).toNat → β 2 k = 2 → ∀ j : Nat, (j : Int) < β 4 k → 0 ≤ β 5 (40 * k + j) ∧ β 5 (40 * k + j) ≤ 255) ∧ (∀ x, x < (τ 7).toNat → 0 ≤ β 6 x ∧ β 6 x ≤ 255) ∧ (∀ x, x < (τ 8).toNat → 0 ≤ β 7 x ∧ β 7 x ≤ 255) ∧ (τ 9 = 0 ∨ τ 9 = 1) ∧ (τ 9 = 1 → zm_K τ β)
theorem mm_spot_rg {τ : Nat → Int} {β : Nat → Nat → Int} (hJ : zm_J τ β) {n : Nat} (hn : n ≤ (τ 5).toNat) : 0 ≤ mt_spot (β 2) (β 3) (β 4) n ∧ mt_spot (β 2) (β 3) (β 4) n ≤ 119 :=
  mt_spot_rg (fun k hk => ⟨fun _ => (hJ.2.2.2.2.2.1 k (by omega)).2.2, (hJ.2.2.2.2.2.1 k (by omega)).2.1⟩)

set_option maxRecDepth 100000 in
set_option maxHeartbeats 4000000 in
theorem kM_clear (G : zk_G) (sw : Bool) (σ : Nat → Int) (α : Nat → Nat → Int) (τ : Nat → Int) (β : Nat → Nat → Int) (t : zk_H) (hJ : zm_J τ β)  : zk_K G mM_clear (1, 20) 0 0 [.inr (some 22)] (zk_mk G sw σ α (zk_md τ β t)) (fun v h' => h' = zk_mk G sw σ α (zk_md (zk_up (zk_up (zk_up (zk_up (zk_up (zk_up (zk_up (zk_up (zk_up (zk_up τ 0 4) 1 2) 2 4) 3 2) 4 3) 5 0) 6 1) 7 0) 8 0) 9 0) (zk_ua (zk_ua β 1 (zk_up (β 1) 0 0)) 1 (zk_up (zk_up (β 1) 0 0) 1 0)) t) ∧ v = some (.inl (β 1 0 + β 1 1))) := by
  have hI := hJ.1
  have i0 := hI.1
  have i1 := hI.2.1
  have c0 : 0 ≤ τ 0 ∧ τ 0 ≤ 100 := hI.2.2.2 0 (by decide)
  have c1 : 0 ≤ τ 1 ∧ τ 1 ≤ 100 := hI.2.2.2 1 (by decide)
  have c2 : 0 ≤ τ 2 ∧ τ 2 ≤ 100 := hI.2.2.2 2 (by decide)
  have c3 : 0 ≤ τ 3 ∧ τ 3 ≤ 100 := hI.2.2.2 3 (by decide)
  have c4 : 0 ≤ τ 4 ∧ τ 4 ≤ 100 := hI.2.2.2 4 (by decide)
  have j5 := hJ.2.1
  have j6 := hJ.2.2.1
  have j7 := hJ.2.2.2.1
  have j8 := hJ.2.2.2.2.1
  have hA := hJ.2.2.2.2.2.1
  refine zk_K.of (ls := [some (.inr (some 22)), none]) (by decide +kernel) (Nat.le_of_ble_eq_true rfl) rfl ?_
  refine zk_aload_n dM_clear_0 rfl ?_
  refine zk_get zfM_13 dM_clear_1 (v := .inr (some 24)) rfl (by decide) rfl ?_
  refine zk_iconst dM_clear_4 ?_
  refine zk_iald dM_clear_5 (n := 2) (f := β 1) rfl (by omega) (by omega) (by omega) ?_
  refine zk_W.to (ls' := [some (.inr (some 22)), none]) (st' := [.inl (β 1 0)]) (h' := (zk_mk G sw σ α (zk_md τ β t))) rfl rfl rfl ?_
  refine zk_aload_n dM_clear_6 rfl ?_
  refine zk_get zfM_13 dM_clear_7 (v := .inr (some 24)) rfl (by decide) rfl ?_
  refine zk_iconst dM_clear_10 ?_
  refine zk_iald dM_clear_11 (n := 2) (f := β 1) rfl (by omega) (by omega) (by omega) ?_
  refine zk_W.to (ls' := [some (.inr (some 22)), none]) (st' := [.inl (β 1 1), .inl (β 1 0)]) (h' := (zk_mk G sw σ α (zk_md τ β t))) rfl rfl rfl ?_
  refine zk_iadd dM_clear_12 ?_
  refine zk_istore_n (ls' := [some (.inr (some 22)), some (.inl ((β 1 0) + (β 1 1)))]) dM_clear_13 (by decide) rfl ?_
  refine zk_aload_n dM_clear_14 rfl ?_
  refine zk_callV (av := []) (st := []) (d' := (0, 0)) (kc' := 0) (ks' := 0) zbM_37 dM_clear_15 rfl (by decide) rfl rfl (Nat.le_of_ble_eq_true rfl) ⟨by decide, by decide⟩ rfl rfl (kM_begin G sw σ α τ β t) (fun v9 h9 q9 => ?_)
  obtain ⟨rfl, rfl⟩ := q9
  refine zk_W.to (ls' := [some (.inr (some 22)), some (.inl ((β 1 0) + (β 1 1)))]) (st' := []) (h' := (zk_mk G sw σ α (zk_md (zk_up (zk_up (zk_up (zk_up (zk_up (zk_up (zk_up (zk_up (zk_up (zk_up τ 0 4) 1 2) 2 4) 3 2) 4 3) 5 0) 6 1) 7 0) 8 0) 9 0) (zk_ua (zk_ua β 1 (zk_up (β 1) 0 0)) 1 (zk_up (zk_up (β 1) 0 0) 1 0)) t))) rfl rfl rfl ?_
  refine zk_iload_n dM_clear_18 rfl ?_
  exact zk_iret dM_clear_19 rfl ⟨rfl, rfl⟩

set_option maxRecDepth 100000 in
set_option maxHeartbeats 4000000 in
theorem kM_put (G : zk_G) (sw : Bool) (σ : Nat → Int) (α : Nat → Nat → Int) (τ : Nat → Int) (β : Nat → Nat → Int) (t : zk_H) (hJ : zm_J τ β) {x y : Int} (hx : zk_rg x) (hy : zk_rg y) : zk_K G mM_put (1, 22) 0 0 [.inr (some 22), .inl x, .inl y] (zk_mk G sw σ α (zk_md τ β t)) (fun v h' => ((¬ ((0 ≤ x ∧ x ≤ 1) ∧ (0 ≤ y ∧ y ≤ 255))) ∧ h' = (zk_mk G sw σ α (zk_md τ β t)) ∧ v = some (.inl (-2))) ∨ (((0 ≤ x ∧ x ≤ 1) ∧ (0 ≤ y ∧ y ≤ 255)) ∧ β 1 x.toNat = 40 ∧ h' = (zk_mk G sw σ α (zk_md τ β t)) ∧ v = some (.inl (-3))) ∨ (((0 ≤ x ∧ x ≤ 1) ∧ (0 ≤ y ∧ y ≤ 255)) ∧ β 1 x.toNat ≠ 40 ∧ h' = zk_mk G sw σ α (zk_md (zk_up τ 9 0) (zk_ua (zk_ua β 0 (zk_up (β 0) (40 * x + β 1 x.toNat).toNat y)) 1 (zk_up (β 1) x.toNat (β 1 x.toNat + 1))) t) ∧ v = some (.inl (β 1 x.toNat + 1)))) := by
  have hI := hJ.1
  have i0 := hI.1
  have i1 := hI.2.1
  have c0 : 0 ≤ τ 0 ∧ τ 0 ≤ 100 := hI.2.2.2 0 (by decide)
  have c1 : 0 ≤ τ 1 ∧ τ 1 ≤ 100 := hI.2.2.2 1 (by decide)
  have c2 : 0 ≤ τ 2 ∧ τ 2 ≤ 100 := hI.2.2.2 2 (by decide)
  have c3 : 0 ≤ τ 3 ∧ τ 3 ≤ 100 := hI.2.2.2 3 (by decide)
  have c4 : 0 ≤ τ 4 ∧ τ 4 ≤ 100 := hI.2.2.2 4 (by decide)
  have j5 := hJ.2.1
  have j6 := hJ.2.2.1
  have j7 := hJ.2.2.2.1
  have j8 := hJ.2.2.2.2.1
  have hA := hJ.2.2.2.2.2.1
  refine zk_K.of (ls := [some (.inr (some 22)), some (.inl x), some (.inl y)]) (by decide +kernel) (Nat.le_of_ble_eq_true rfl) rfl ?_
  refine zk_iload_n dM_put_0 rfl ?_
  refine zk_iconst dM_put_1 ?_
  refine zk_iconst dM_put_2 ?_
  refine zk_callS (av := [.inl x, .inl 0, .inl 1]) (st := []) (d' := (0, 0)) (kc' := 0) (ks' := 0) zbM_77 dM_put_3 rfl rfl (Nat.le_of_ble_eq_true rfl) ⟨by decide, by decide⟩ rfl rfl (kM_isIn G sw σ α τ β t hx ⟨by decide, by decide⟩ ⟨by decide, by decide⟩) (fun v9 h9 q9 => ?_)
  rcases q9 with ⟨rfl, ⟨hc3, rfl⟩ | ⟨hc3, rfl⟩⟩
  · skip
    refine zk_W.to (ls' := [some (.inr (some 22)), some (.inl x), some (.inl y)]) (st' := [.inl 1]) (h' := (zk_mk G sw σ α (zk_md τ β t))) rfl rfl rfl ?_
    refine zk_if_eq (tgt := 20) dM_put_6 (by decide) ⟨by decide, by decide⟩ (fun h6 => ?_) (fun h6 => ?_)
    · skip
      exact absurd h6 (by decide)
    · skip
      refine zk_iload_n dM_put_9 rfl ?_
      refine zk_iconst dM_put_10 ?_
      refine zk_sipush dM_put_11 (by decide) ?_
      refine zk_callS (av := [.inl y, .inl 0, .inl 255]) (st := []) (d' := (0, 0)) (kc' := 0) (ks' := 0) zbM_77 dM_put_14 rfl rfl (Nat.le_of_ble_eq_true rfl) ⟨by decide, by decide⟩ rfl rfl (kM_isIn G sw σ α τ β t hy ⟨by decide, by decide⟩ ⟨by decide, by decide⟩) (fun v9 h9 q9 => ?_)
      rcases q9 with ⟨rfl, ⟨hc14, rfl⟩ | ⟨hc14, rfl⟩⟩
      · skip
        refine zk_W.to (ls' := [some (.inr (some 22)), some (.inl x), some (.inl y)]) (st' := [.inl 1]) (h' := (zk_mk G sw σ α (zk_md τ β t))) rfl rfl rfl ?_
        refine zk_if_ne (tgt := 23) dM_put_17 (by decide) ⟨by decide, by decide⟩ (fun h17 => ?_) (fun h17 => ?_)
        · skip
          have iq := zm_I_q hI (q := x.toNat) (by omega)
          refine zk_aload_n dM_put_23 rfl ?_
          refine zk_get zfM_13 dM_put_24 (v := .inr (some 24)) rfl (by decide) rfl ?_
          refine zk_iload_n dM_put_27 rfl ?_
          refine zk_iald dM_put_28 (n := 2) (f := β 1) rfl (by omega) (by omega) (by omega) ?_
          refine zk_bipush dM_put_29 (by decide) ?_
          refine zk_icmp_ne (tgt := 37) dM_put_31 (by decide) ⟨by omega, by omega⟩ ⟨by decide, by decide⟩ (fun h31 => ?_) (fun h31 => ?_)
          · skip
            refine zk_aload_n dM_put_37 rfl ?_
            refine zk_get zfM_7 dM_put_38 (v := .inr (some 23)) rfl (by decide) rfl ?_
            refine zk_bipush dM_put_41 (by decide) ?_
            refine zk_iload_n dM_put_43 rfl ?_
            refine zk_imul dM_put_44 ?_
            refine zk_aload_n dM_put_45 rfl ?_
            refine zk_get zfM_13 dM_put_46 (v := .inr (some 24)) rfl (by decide) rfl ?_
            refine zk_iload_n dM_put_49 rfl ?_
            refine zk_iald dM_put_50 (n := 2) (f := β 1) rfl (by omega) (by omega) (by omega) ?_
            refine zk_iadd dM_put_51 ?_
            refine zk_iload_n dM_put_52 rfl ?_
            refine zk_iast dM_put_53 (n := 80) (f := β 0) (h' := (zk_mk G sw σ α (zk_md τ (zk_ua β 0 (zk_up (β 0) ((40 * x) + (β 1 x.toNat)).toNat y)) t))) rfl (by decide) (by omega) (by omega) (by omega) rfl ?_
            refine zk_aload_n dM_put_54 rfl ?_
            refine zk_get zfM_13 dM_put_55 (v := .inr (some 24)) rfl (by decide) rfl ?_
            refine zk_iload_n dM_put_58 rfl ?_
            refine zk_dup2 dM_put_59 ?_
            refine zk_iald dM_put_60 (n := 2) (f := β 1) rfl (by omega) (by omega) (by omega) ?_
            refine zk_iconst dM_put_61 ?_
            refine zk_iadd dM_put_62 ?_
            refine zk_iast dM_put_63 (n := 2) (f := β 1) (h' := (zk_mk G sw σ α (zk_md τ (zk_ua (zk_ua β 0 (zk_up (β 0) ((40 * x) + (β 1 x.toNat)).toNat y)) 1 (zk_up (β 1) x.toNat ((β 1 x.toNat) + 1))) t))) rfl (by decide) (by omega) (by omega) (by omega) rfl ?_
            refine zk_aload_n dM_put_64 rfl ?_
            refine zk_iconst dM_put_65 ?_
            refine zk_put zfM_68 dM_put_66 (h' := (zk_mk G sw σ α (zk_md (zk_up τ 9 0) (zk_ua (zk_ua β 0 (zk_up (β 0) ((40 * x) + (β 1 x.toNat)).toNat y)) 1 (zk_up (β 1) x.toNat ((β 1 x.toNat) + 1))) t))) rfl (by decide) (Nat.le_of_ble_eq_true rfl) rfl rfl rfl ?_
            refine zk_aload_n dM_put_69 rfl ?_
            refine zk_get zfM_13 dM_put_70 (v := .inr (some 24)) rfl (by decide) rfl ?_
            refine zk_iload_n dM_put_73 rfl ?_
            refine zk_iald dM_put_74 (n := 2) (f := zk_up (β 1) x.toNat ((β 1 x.toNat) + 1)) rfl (by omega) (by omega) (by omega) ?_
            refine zk_iret dM_put_75 rfl (Or.inr (Or.inr ⟨by omega, by omega, rfl, ?_⟩))
            rw [zk_up_at]
          · skip
            refine zk_bipush dM_put_34 (by decide) ?_
            exact zk_iret dM_put_36 rfl (Or.inr (Or.inl ⟨by omega, by omega, rfl, rfl⟩))
        · skip
          exact absurd h17 (by decide)
      · skip
        refine zk_W.to (ls' := [some (.inr (some 22)), some (.inl x), some (.inl y)]) (st' := [.inl 0]) (h' := (zk_mk G sw σ α (zk_md τ β t))) rfl rfl rfl ?_
        refine zk_if_ne (tgt := 23) dM_put_17 (by decide) ⟨by decide, by decide⟩ (fun h17 => ?_) (fun h17 => ?_)
        · skip
          exact absurd h17 (by decide)
        · skip
          refine zk_bipush dM_put_20 (by decide) ?_
          exact zk_iret dM_put_22 rfl (Or.inl ⟨by omega, rfl, rfl⟩)
  · skip
    refine zk_W.to (ls' := [some (.inr (some 22)), some (.inl x), some (.inl y)]) (st' := [.inl 0]) (h' := (zk_mk G sw σ α (zk_md τ β t))) rfl rfl rfl ?_
    refine zk_if_eq (tgt := 20) dM_put_6 (by decide) ⟨by decide, by decide⟩ (fun h6 => ?_) (fun h6 => ?_)
    · skip
      refine zk_bipush dM_put_20 (by decide) ?_
      exact zk_iret dM_put_22 rfl (Or.inl ⟨by omega, rfl, rfl⟩)
    · skip
      exact absurd h6 (by decide)

set_option maxRecDepth 100000 in
set_option maxHeartbeats 4000000 in
theorem kM_cut (G : zk_G) (sw : Bool) (σ : Nat → Int) (α : Nat → Nat → Int) (τ : Nat → Int) (β : Nat → Nat → Int) (t : zk_H) (hJ : zm_J τ β) {x y : Int} (hx : zk_rg x) (hy : zk_rg y) : zk_K G mM_cut (1, 22) 0 0 [.inr (some 22), .inl x, .inl y] (zk_mk G sw σ α (zk_md τ β t)) (fun v h' => ((¬ ((0 ≤ x ∧ x ≤ 1) ∧ (0 ≤ y ∧ y ≤ β 1 x.toNat))) ∧ h' = (zk_mk G sw σ α (zk_md τ β t)) ∧ v = some (.inl (-2))) ∨ (((0 ≤ x ∧ x ≤ 1) ∧ (0 ≤ y ∧ y ≤ β 1 x.toNat)) ∧ h' = zk_mk G sw σ α (zk_md (zk_up τ 9 0) (zk_ua β 1 (zk_up (β 1) x.toNat (β 1 x.toNat - y))) t) ∧ v = some (.inl (β 1 x.toNat - y)))) := by
  have hI := hJ.1
  have i0 := hI.1
  have i1 := hI.2.1
  have c0 : 0 ≤ τ 0 ∧ τ 0 ≤ 100 := hI.2.2.2 0 (by decide)
  have c1 : 0 ≤ τ 1 ∧ τ 1 ≤ 100 := hI.2.2.2 1 (by decide)
  have c2 : 0 ≤ τ 2 ∧ τ 2 ≤ 100 := hI.2.2.2 2 (by decide)
  have c3 : 0 ≤ τ 3 ∧ τ 3 ≤ 100 := hI.2.2.2 3 (by decide)
  have c4 : 0 ≤ τ 4 ∧ τ 4 ≤ 100 := hI.2.2.2 4 (by decide)
  have j5 := hJ.2.1
  have j6 := hJ.2.2.1
  have j7 := hJ.2.2.2.1
  have j8 := hJ.2.2.2.2.1
  have hA := hJ.2.2.2.2.2.1
  refine zk_K.of (ls := [some (.inr (some 22)), some (.inl x), some (.inl y)]) (by decide +kernel) (Nat.le_of_ble_eq_true rfl) rfl ?_
  refine zk_iload_n dM_cut_0 rfl ?_
  refine zk_iconst dM_cut_1 ?_
  refine zk_iconst dM_cut_2 ?_
  refine zk_callS (av := [.inl x, .inl 0, .inl 1]) (st := []) (d' := (0, 0)) (kc' := 0) (ks' := 0) zbM_77 dM_cut_3 rfl rfl (Nat.le_of_ble_eq_true rfl) ⟨by decide, by decide⟩ rfl rfl (kM_isIn G sw σ α τ β t hx ⟨by decide, by decide⟩ ⟨by decide, by decide⟩) (fun v9 h9 q9 => ?_)
  rcases q9 with ⟨rfl, ⟨hc3, rfl⟩ | ⟨hc3, rfl⟩⟩
  · skip
    refine zk_W.to (ls' := [some (.inr (some 22)), some (.inl x), some (.inl y)]) (st' := [.inl 1]) (h' := (zk_mk G sw σ α (zk_md τ β t))) rfl rfl rfl ?_
    refine zk_if_eq (tgt := 23) dM_cut_6 (by decide) ⟨by decide, by decide⟩ (fun h6 => ?_) (fun h6 => ?_)
    · skip
      exact absurd h6 (by decide)
    · skip
      have iq := zm_I_q hI (q := x.toNat) (by omega)
      refine zk_iload_n dM_cut_9 rfl ?_
      refine zk_iconst dM_cut_10 ?_
      refine zk_aload_n dM_cut_11 rfl ?_
      refine zk_get zfM_13 dM_cut_12 (v := .inr (some 24)) rfl (by decide) rfl ?_
      refine zk_iload_n dM_cut_15 rfl ?_
      refine zk_iald dM_cut_16 (n := 2) (f := β 1) rfl (by omega) (by omega) (by omega) ?_
      refine zk_callS (av := [.inl y, .inl 0, .inl (β 1 x.toNat)]) (st := []) (d' := (0, 0)) (kc' := 0) (ks' := 0) zbM_77 dM_cut_17 rfl rfl (Nat.le_of_ble_eq_true rfl) ⟨by decide, by decide⟩ rfl rfl (kM_isIn G sw σ α τ β t hy ⟨by decide, by decide⟩ ⟨by omega, by omega⟩) (fun v9 h9 q9 => ?_)
      rcases q9 with ⟨rfl, ⟨hc17, rfl⟩ | ⟨hc17, rfl⟩⟩
      · skip
        refine zk_W.to (ls' := [some (.inr (some 22)), some (.inl x), some (.inl y)]) (st' := [.inl 1]) (h' := (zk_mk G sw σ α (zk_md τ β t))) rfl rfl rfl ?_
        refine zk_if_ne (tgt := 26) dM_cut_20 (by decide) ⟨by decide, by decide⟩ (fun h20 => ?_) (fun h20 => ?_)
        · skip
          refine zk_aload_n dM_cut_26 rfl ?_
          refine zk_get zfM_13 dM_cut_27 (v := .inr (some 24)) rfl (by decide) rfl ?_
          refine zk_iload_n dM_cut_30 rfl ?_
          refine zk_dup2 dM_cut_31 ?_
          refine zk_iald dM_cut_32 (n := 2) (f := β 1) rfl (by omega) (by omega) (by omega) ?_
          refine zk_iload_n dM_cut_33 rfl ?_
          refine zk_isub dM_cut_34 ?_
          refine zk_iast dM_cut_35 (n := 2) (f := β 1) (h' := (zk_mk G sw σ α (zk_md τ (zk_ua β 1 (zk_up (β 1) x.toNat ((β 1 x.toNat) - y))) t))) rfl (by decide) (by omega) (by omega) (by omega) rfl ?_
          refine zk_aload_n dM_cut_36 rfl ?_
          refine zk_iconst dM_cut_37 ?_
          refine zk_put zfM_68 dM_cut_38 (h' := (zk_mk G sw σ α (zk_md (zk_up τ 9 0) (zk_ua β 1 (zk_up (β 1) x.toNat ((β 1 x.toNat) - y))) t))) rfl (by decide) (Nat.le_of_ble_eq_true rfl) rfl rfl rfl ?_
          refine zk_aload_n dM_cut_41 rfl ?_
          refine zk_get zfM_13 dM_cut_42 (v := .inr (some 24)) rfl (by decide) rfl ?_
          refine zk_iload_n dM_cut_45 rfl ?_
          refine zk_iald dM_cut_46 (n := 2) (f := zk_up (β 1) x.toNat ((β 1 x.toNat) - y)) rfl (by omega) (by omega) (by omega) ?_
          refine zk_iret dM_cut_47 rfl (Or.inr ⟨by omega, rfl, ?_⟩)
          rw [zk_up_at]
        · skip
          exact absurd h20 (by decide)
      · skip
        refine zk_W.to (ls' := [some (.inr (some 22)), some (.inl x), some (.inl y)]) (st' := [.inl 0]) (h' := (zk_mk G sw σ α (zk_md τ β t))) rfl rfl rfl ?_
        refine zk_if_ne (tgt := 26) dM_cut_20 (by decide) ⟨by decide, by decide⟩ (fun h20 => ?_) (fun h20 => ?_)
        · skip
          exact absurd h20 (by decide)
        · skip
          refine zk_bipush dM_cut_23 (by decide) ?_
          exact zk_iret dM_cut_25 rfl (Or.inl ⟨by omega, rfl, rfl⟩)
  · skip
    refine zk_W.to (ls' := [some (.inr (some 22)), some (.inl x), some (.inl y)]) (st' := [.inl 0]) (h' := (zk_mk G sw σ α (zk_md τ β t))) rfl rfl rfl ?_
    refine zk_if_eq (tgt := 23) dM_cut_6 (by decide) ⟨by decide, by decide⟩ (fun h6 => ?_) (fun h6 => ?_)
    · skip
      refine zk_bipush dM_cut_23 (by decide) ?_
      exact zk_iret dM_cut_25 rfl (Or.inl ⟨by omega, rfl, rfl⟩)
    · skip
      exact absurd h6 (by decide)

/-- the first i bytes of OLD and NEW are changed for one another -/
def mt_tu (f : Nat → Int) (i : Nat) : Nat → Int := fun j => if j < i then f (40 + j) else if 40 ≤ j ∧ j < 40 + i then f (j - 40) else f j
theorem mt_tu_0 (f : Nat → Int) : mt_tu f 0 = f := by
  funext j
  unfold mt_tu
  rw [if_neg (by omega), if_neg (by omega)]
theorem mt_tu_up {f : Nat → Int} {i : Nat} (hi : i < 40) : zk_up (zk_up (mt_tu f i) i (mt_tu f i (40 + i))) (40 + i) (mt_tu f i i) = mt_tu f (i + 1) := by
  have e1 : mt_tu f i (40 + i) = f (40 + i) := by
    unfold mt_tu
    rw [if_neg (by omega), if_neg (by omega)]
  have e2 : mt_tu f i i = f i := by
    unfold mt_tu
    rw [if_neg (by omega), if_neg (by omega)]
  rw [e1, e2]
  funext j
  unfold zk_up mt_tu
  by_cases h1 : j = 40 + i
  · subst h1
    rw [if_pos rfl, if_neg (by omega), if_pos (by omega), show 40 + i - 40 = i by omega]
  · rw [if_neg h1]
    by_cases h2 : j = i
    · subst h2
      rw [if_pos rfl, if_pos (by omega)]
    · rw [if_neg h2]
      by_cases h3 : j < i
      · rw [if_pos h3, if_pos (by omega)]
      · rw [if_neg h3]
        by_cases h4 : 40 ≤ j ∧ j < 40 + i
        · rw [if_pos h4, if_neg (by omega), if_pos (by omega)]
        · rw [if_neg h4, if_neg (by omega), if_neg (by omega)]

set_option maxRecDepth 100000 in
set_option maxHeartbeats 4000000 in
theorem wM_turn (G : zk_G) (sw : Bool) (σ : Nat → Int) (α : Nat → Nat → Int) (τ : Nat → Int) (β : Nat → Nat → Int) (t : zk_H) : ∀ (k : Nat) (i : Nat), (i ≤ 40) → (40 < i + k) → zk_W G mM_turn (0, 0) 0 0 2 [some (.inr (some 22)), some (.inl (i : Int)), none] [] (zk_mk G sw σ α (zk_md τ (zk_ua β 0 (mt_tu (β 0) i)) t)) (fun v h' => h' = zk_mk G sw σ α (zk_md (zk_up τ 9 0) (zk_ua (zk_ua β 0 (mt_tu (β 0) 40)) 1 (zk_up (zk_up (β 1) 0 (β 1 1)) 1 (β 1 0))) t) ∧ v = some (.inl (β 1 1))) := by
  intro k
  induction k with
  | zero =>
    intro i g1 g2
    exfalso
    omega
  | succ k ih =>
    intro i g1 g2
    refine zk_iload_n dM_turn_2 rfl ?_
    refine zk_bipush dM_turn_3 (by decide) ?_
    refine zk_icmp_ge (tgt := 46) dM_turn_5 (by decide) ⟨by omega, by omega⟩ ⟨by decide, by decide⟩ (fun h5 => ?_) (fun h5 => ?_)
    · skip
      refine zk_aload_n dM_turn_46 rfl ?_
      refine zk_get zfM_13 dM_turn_47 (v := .inr (some 24)) rfl (by decide) rfl ?_
      refine zk_iconst dM_turn_50 ?_
      refine zk_iald dM_turn_51 (n := 2) (f := β 1) rfl (by omega) (by omega) (by omega) ?_
      refine zk_W.to (ls' := [some (.inr (some 22)), some (.inl (i : Int)), none]) (st' := [.inl (β 1 0)]) (h' := (zk_mk G sw σ α (zk_md τ (zk_ua β 0 (mt_tu (β 0) i)) t))) rfl rfl rfl ?_
      refine zk_istore_n (ls' := [some (.inr (some 22)), some (.inl (β 1 0)), none]) dM_turn_52 (by decide) rfl ?_
      refine zk_aload_n dM_turn_53 rfl ?_
      refine zk_get zfM_13 dM_turn_54 (v := .inr (some 24)) rfl (by decide) rfl ?_
      refine zk_iconst dM_turn_57 ?_
      refine zk_aload_n dM_turn_58 rfl ?_
      refine zk_get zfM_13 dM_turn_59 (v := .inr (some 24)) rfl (by decide) rfl ?_
      refine zk_iconst dM_turn_62 ?_
      refine zk_iald dM_turn_63 (n := 2) (f := β 1) rfl (by omega) (by omega) (by omega) ?_
      refine zk_W.to (ls' := [some (.inr (some 22)), some (.inl (β 1 0)), none]) (st' := [.inl (β 1 1), .inl 0, .inr (some 24)]) (h' := (zk_mk G sw σ α (zk_md τ (zk_ua β 0 (mt_tu (β 0) i)) t))) rfl rfl rfl ?_
      refine zk_iast dM_turn_64 (n := 2) (f := β 1) (h' := (zk_mk G sw σ α (zk_md τ (zk_ua (zk_ua β 0 (mt_tu (β 0) i)) 1 (zk_up (β 1) 0 (β 1 1))) t))) rfl (by decide) (by omega) (by omega) (by omega) rfl ?_
      refine zk_aload_n dM_turn_65 rfl ?_
      refine zk_get zfM_13 dM_turn_66 (v := .inr (some 24)) rfl (by decide) rfl ?_
      refine zk_iconst dM_turn_69 ?_
      refine zk_iload_n dM_turn_70 rfl ?_
      refine zk_iast dM_turn_71 (n := 2) (f := zk_up (β 1) 0 (β 1 1)) (h' := (zk_mk G sw σ α (zk_md τ (zk_ua (zk_ua (zk_ua β 0 (mt_tu (β 0) i)) 1 (zk_up (β 1) 0 (β 1 1))) 1 (zk_up (zk_up (β 1) 0 (β 1 1)) 1 (β 1 0))) t))) rfl (by decide) (by omega) (by omega) (by omega) rfl ?_
      refine zk_aload_n dM_turn_72 rfl ?_
      refine zk_iconst dM_turn_73 ?_
      refine zk_put zfM_68 dM_turn_74 (h' := (zk_mk G sw σ α (zk_md (zk_up τ 9 0) (zk_ua (zk_ua (zk_ua β 0 (mt_tu (β 0) i)) 1 (zk_up (β 1) 0 (β 1 1))) 1 (zk_up (zk_up (β 1) 0 (β 1 1)) 1 (β 1 0))) t))) rfl (by decide) (Nat.le_of_ble_eq_true rfl) rfl rfl rfl ?_
      refine zk_aload_n dM_turn_77 rfl ?_
      refine zk_get zfM_13 dM_turn_78 (v := .inr (some 24)) rfl (by decide) rfl ?_
      refine zk_iconst dM_turn_81 ?_
      refine zk_iald dM_turn_82 (n := 2) (f := zk_up (zk_up (β 1) 0 (β 1 1)) 1 (β 1 0)) rfl (by omega) (by omega) (by omega) ?_
      refine zk_W.to (ls' := [some (.inr (some 22)), some (.inl (β 1 0)), none]) (st' := [.inl ((zk_up (zk_up (β 1) 0 (β 1 1)) 1 (β 1 0)) 0)]) (h' := (zk_mk G sw σ α (zk_md (zk_up τ 9 0) (zk_ua (zk_ua (zk_ua β 0 (mt_tu (β 0) i)) 1 (zk_up (β 1) 0 (β 1 1))) 1 (zk_up (zk_up (β 1) 0 (β 1 1)) 1 (β 1 0))) t))) rfl rfl rfl ?_
      have ei : i = 40 := by omega
      subst ei
      exact zk_iret dM_turn_83 rfl ⟨rfl, rfl⟩
    · skip
      refine zk_aload_n dM_turn_8 rfl ?_
      refine zk_get zfM_7 dM_turn_9 (v := .inr (some 23)) rfl (by decide) rfl ?_
      refine zk_iload_n dM_turn_12 rfl ?_
      refine zk_iald dM_turn_13 (n := 80) (f := mt_tu (β 0) i) rfl (by omega) (by omega) (by omega) ?_
      refine zk_W.to (ls' := [some (.inr (some 22)), some (.inl (i : Int)), none]) (st' := [.inl ((mt_tu (β 0) i) i)]) (h' := (zk_mk G sw σ α (zk_md τ (zk_ua β 0 (mt_tu (β 0) i)) t))) rfl rfl rfl ?_
      refine zk_istore_n (ls' := [some (.inr (some 22)), some (.inl (i : Int)), some (.inl ((mt_tu (β 0) i) i))]) dM_turn_14 (by decide) rfl ?_
      refine zk_aload_n dM_turn_15 rfl ?_
      refine zk_get zfM_7 dM_turn_16 (v := .inr (some 23)) rfl (by decide) rfl ?_
      refine zk_iload_n dM_turn_19 rfl ?_
      refine zk_aload_n dM_turn_20 rfl ?_
      refine zk_get zfM_7 dM_turn_21 (v := .inr (some 23)) rfl (by decide) rfl ?_
      refine zk_bipush dM_turn_24 (by decide) ?_
      refine zk_iload_n dM_turn_26 rfl ?_
      refine zk_iadd dM_turn_27 ?_
      refine zk_iald dM_turn_28 (n := 80) (f := mt_tu (β 0) i) rfl (by omega) (by omega) (by omega) ?_
      refine zk_iast dM_turn_29 (n := 80) (f := mt_tu (β 0) i) (h' := (zk_mk G sw σ α (zk_md τ (zk_ua (zk_ua β 0 (mt_tu (β 0) i)) 0 (zk_up (mt_tu (β 0) i) i ((mt_tu (β 0) i) (40 + (i : Int)).toNat))) t))) rfl (by decide) (by omega) (by omega) (by omega) rfl ?_
      refine zk_aload_n dM_turn_30 rfl ?_
      refine zk_get zfM_7 dM_turn_31 (v := .inr (some 23)) rfl (by decide) rfl ?_
      refine zk_bipush dM_turn_34 (by decide) ?_
      refine zk_iload_n dM_turn_36 rfl ?_
      refine zk_iadd dM_turn_37 ?_
      refine zk_iload_n dM_turn_38 rfl ?_
      refine zk_iast dM_turn_39 (n := 80) (f := zk_up (mt_tu (β 0) i) i ((mt_tu (β 0) i) (40 + (i : Int)).toNat)) (h' := (zk_mk G sw σ α (zk_md τ (zk_ua (zk_ua (zk_ua β 0 (mt_tu (β 0) i)) 0 (zk_up (mt_tu (β 0) i) i ((mt_tu (β 0) i) (40 + (i : Int)).toNat))) 0 (zk_up (zk_up (mt_tu (β 0) i) i ((mt_tu (β 0) i) (40 + (i : Int)).toNat)) (40 + (i : Int)).toNat ((mt_tu (β 0) i) i))) t))) rfl (by decide) (by omega) (by omega) (by omega) rfl ?_
      refine zk_iinc (ls' := [some (.inr (some 22)), some (.inl ((i : Int) + 1)), some (.inl ((mt_tu (β 0) i) i))]) dM_turn_40 rfl (by decide) rfl ?_
      refine zk_goto (tgt := 2) dM_turn_43 (by decide) ?_
      have e2 : (i : Int) + 1 = ((i + 1 : Nat) : Int) := by omega
      rw [zk_ua_ua, zk_ua_ua, e2, show (40 + (i : Int)).toNat = 40 + i by omega, mt_tu_up (by omega)]
      refine zk_W.drop 2 rfl ?_
      exact ih (i + 1) (by omega) (by omega)

set_option maxRecDepth 100000 in
set_option maxHeartbeats 4000000 in
theorem kM_turn (G : zk_G) (sw : Bool) (σ : Nat → Int) (α : Nat → Nat → Int) (τ : Nat → Int) (β : Nat → Nat → Int) (t : zk_H) (hJ : zm_J τ β)  : zk_K G mM_turn (0, 0) 0 0 [.inr (some 22)] (zk_mk G sw σ α (zk_md τ β t)) (fun v h' => h' = zk_mk G sw σ α (zk_md (zk_up τ 9 0) (zk_ua (zk_ua β 0 (mt_tu (β 0) 40)) 1 (zk_up (zk_up (β 1) 0 (β 1 1)) 1 (β 1 0))) t) ∧ v = some (.inl (β 1 1))) := by
  have hI := hJ.1
  have i0 := hI.1
  have i1 := hI.2.1
  have c0 : 0 ≤ τ 0 ∧ τ 0 ≤ 100 := hI.2.2.2 0 (by decide)
  have c1 : 0 ≤ τ 1 ∧ τ 1 ≤ 100 := hI.2.2.2 1 (by decide)
  have c2 : 0 ≤ τ 2 ∧ τ 2 ≤ 100 := hI.2.2.2 2 (by decide)
  have c3 : 0 ≤ τ 3 ∧ τ 3 ≤ 100 := hI.2.2.2 3 (by decide)
  have c4 : 0 ≤ τ 4 ∧ τ 4 ≤ 100 := hI.2.2.2 4 (by decide)
  have j5 := hJ.2.1
  have j6 := hJ.2.2.1
  have j7 := hJ.2.2.2.1
  have j8 := hJ.2.2.2.2.1
  have hA := hJ.2.2.2.2.2.1
  refine zk_K.of (ls := [some (.inr (some 22)), none, none]) (by decide +kernel) (Nat.le_of_ble_eq_true rfl) rfl ?_
  refine zk_iconst dM_turn_0 ?_
  refine zk_istore_n (ls' := [some (.inr (some 22)), some (.inl 0), none]) dM_turn_1 (by decide) rfl ?_
  have key := wM_turn G sw σ α τ β t 41 0 (by omega) (by omega)
  rw [mt_tu_0, zk_ua_self] at key
  exact key

set_option maxRecDepth 100000 in
set_option maxHeartbeats 4000000 in
theorem kM_costs (G : zk_G) (sw : Bool) (σ : Nat → Int) (α : Nat → Nat → Int) (τ : Nat → Int) (β : Nat → Nat → Int) (t : zk_H) (hJ : zm_J τ β) {x0 x1 x2 x3 x4 : Int} (hx0 : zk_rg x0) (hx1 : zk_rg x1) (hx2 : zk_rg x2) (hx3 : zk_rg x3) (hx4 : zk_rg x4) : zk_K G mM_costs (1, 22) 0 0 [.inr (some 22), .inl x0, .inl x1, .inl x2, .inl x3, .inl x4] (zk_mk G sw σ α (zk_md τ β t)) (fun v h' => ((¬ ((0 ≤ x0 ∧ x0 ≤ 100) ∧ (0 ≤ x1 ∧ x1 ≤ 100) ∧ (0 ≤ x2 ∧ x2 ≤ 100) ∧ (0 ≤ x3 ∧ x3 ≤ 100) ∧ (0 ≤ x4 ∧ x4 ≤ 100))) ∧ h' = (zk_mk G sw σ α (zk_md τ β t)) ∧ v = some (.inl (-2))) ∨ (((0 ≤ x0 ∧ x0 ≤ 100) ∧ (0 ≤ x1 ∧ x1 ≤ 100) ∧ (0 ≤ x2 ∧ x2 ≤ 100) ∧ (0 ≤ x3 ∧ x3 ≤ 100) ∧ (0 ≤ x4 ∧ x4 ≤ 100)) ∧ h' = zk_mk G sw σ α (zk_md (zk_up (zk_up (zk_up (zk_up (zk_up (zk_up τ 0 x0) 1 x1) 2 x2) 3 x3) 4 x4) 9 0) β t) ∧ v = some (.inl (((((if x0 = τ 0 then (0 : Int) else 1) + (if x1 = τ 1 then 0 else 1)) + (if x2 = τ 2 then 0 else 1)) + (if x3 = τ 3 then 0 else 1)) + (if x4 = τ 4 then 0 else 1))))) := by
  have hI := hJ.1
  have i0 := hI.1
  have i1 := hI.2.1
  have c0 : 0 ≤ τ 0 ∧ τ 0 ≤ 100 := hI.2.2.2 0 (by decide)
  have c1 : 0 ≤ τ 1 ∧ τ 1 ≤ 100 := hI.2.2.2 1 (by decide)
  have c2 : 0 ≤ τ 2 ∧ τ 2 ≤ 100 := hI.2.2.2 2 (by decide)
  have c3 : 0 ≤ τ 3 ∧ τ 3 ≤ 100 := hI.2.2.2 3 (by decide)
  have c4 : 0 ≤ τ 4 ∧ τ 4 ≤ 100 := hI.2.2.2 4 (by decide)
  have j5 := hJ.2.1
  have j6 := hJ.2.2.1
  have j7 := hJ.2.2.2.1
  have j8 := hJ.2.2.2.2.1
  have hA := hJ.2.2.2.2.2.1
  refine zk_K.of (ls := [some (.inr (some 22)), some (.inl x0), some (.inl x1), some (.inl x2), some (.inl x3), some (.inl x4), none]) (by decide +kernel) (Nat.le_of_ble_eq_true rfl) rfl ?_
  refine zk_iload_n dM_costs_0 rfl ?_
  refine zk_iconst dM_costs_1 ?_
  refine zk_bipush dM_costs_2 (by decide) ?_
  refine zk_callS (av := [.inl x0, .inl 0, .inl 100]) (st := []) (d' := (0, 0)) (kc' := 0) (ks' := 0) zbM_77 dM_costs_4 rfl rfl (Nat.le_of_ble_eq_true rfl) ⟨by decide, by decide⟩ rfl rfl (kM_isIn G sw σ α τ β t hx0 ⟨by decide, by decide⟩ ⟨by decide, by decide⟩) (fun v9 h9 q9 => ?_)
  rcases q9 with ⟨rfl, ⟨hc4, rfl⟩ | ⟨hc4, rfl⟩⟩
  · skip
    refine zk_W.to (ls' := [some (.inr (some 22)), some (.inl x0), some (.inl x1), some (.inl x2), some (.inl x3), some (.inl x4), none]) (st' := [.inl 1]) (h' := (zk_mk G sw σ α (zk_md τ β t))) rfl rfl rfl ?_
    refine zk_if_eq (tgt := 52) dM_costs_7 (by decide) ⟨by decide, by decide⟩ (fun h7 => ?_) (fun h7 => ?_)
    · skip
      exact absurd h7 (by decide)
    · skip
      refine zk_iload_n dM_costs_10 rfl ?_
      refine zk_iconst dM_costs_11 ?_
      refine zk_bipush dM_costs_12 (by decide) ?_
      refine zk_callS (av := [.inl x1, .inl 0, .inl 100]) (st := []) (d' := (0, 0)) (kc' := 0) (ks' := 0) zbM_77 dM_costs_14 rfl rfl (Nat.le_of_ble_eq_true rfl) ⟨by decide, by decide⟩ rfl rfl (kM_isIn G sw σ α τ β t hx1 ⟨by decide, by decide⟩ ⟨by decide, by decide⟩) (fun v9 h9 q9 => ?_)
      rcases q9 with ⟨rfl, ⟨hc14, rfl⟩ | ⟨hc14, rfl⟩⟩
      · skip
        refine zk_W.to (ls' := [some (.inr (some 22)), some (.inl x0), some (.inl x1), some (.inl x2), some (.inl x3), some (.inl x4), none]) (st' := [.inl 1]) (h' := (zk_mk G sw σ α (zk_md τ β t))) rfl rfl rfl ?_
        refine zk_if_eq (tgt := 52) dM_costs_17 (by decide) ⟨by decide, by decide⟩ (fun h17 => ?_) (fun h17 => ?_)
        · skip
          exact absurd h17 (by decide)
        · skip
          refine zk_iload_n dM_costs_20 rfl ?_
          refine zk_iconst dM_costs_21 ?_
          refine zk_bipush dM_costs_22 (by decide) ?_
          refine zk_callS (av := [.inl x2, .inl 0, .inl 100]) (st := []) (d' := (0, 0)) (kc' := 0) (ks' := 0) zbM_77 dM_costs_24 rfl rfl (Nat.le_of_ble_eq_true rfl) ⟨by decide, by decide⟩ rfl rfl (kM_isIn G sw σ α τ β t hx2 ⟨by decide, by decide⟩ ⟨by decide, by decide⟩) (fun v9 h9 q9 => ?_)
          rcases q9 with ⟨rfl, ⟨hc24, rfl⟩ | ⟨hc24, rfl⟩⟩
          · skip
            refine zk_W.to (ls' := [some (.inr (some 22)), some (.inl x0), some (.inl x1), some (.inl x2), some (.inl x3), some (.inl x4), none]) (st' := [.inl 1]) (h' := (zk_mk G sw σ α (zk_md τ β t))) rfl rfl rfl ?_
            refine zk_if_eq (tgt := 52) dM_costs_27 (by decide) ⟨by decide, by decide⟩ (fun h27 => ?_) (fun h27 => ?_)
            · skip
              exact absurd h27 (by decide)
            · skip
              refine zk_iload dM_costs_30 rfl ?_
              refine zk_iconst dM_costs_32 ?_
              refine zk_bipush dM_costs_33 (by decide) ?_
              refine zk_callS (av := [.inl x3, .inl 0, .inl 100]) (st := []) (d' := (0, 0)) (kc' := 0) (ks' := 0) zbM_77 dM_costs_35 rfl rfl (Nat.le_of_ble_eq_true rfl) ⟨by decide, by decide⟩ rfl rfl (kM_isIn G sw σ α τ β t hx3 ⟨by decide, by decide⟩ ⟨by decide, by decide⟩) (fun v9 h9 q9 => ?_)
              rcases q9 with ⟨rfl, ⟨hc35, rfl⟩ | ⟨hc35, rfl⟩⟩
              · skip
                refine zk_W.to (ls' := [some (.inr (some 22)), some (.inl x0), some (.inl x1), some (.inl x2), some (.inl x3), some (.inl x4), none]) (st' := [.inl 1]) (h' := (zk_mk G sw σ α (zk_md τ β t))) rfl rfl rfl ?_
                refine zk_if_eq (tgt := 52) dM_costs_38 (by decide) ⟨by decide, by decide⟩ (fun h38 => ?_) (fun h38 => ?_)
                · skip
                  exact absurd h38 (by decide)
                · skip
                  refine zk_iload dM_costs_41 rfl ?_
                  refine zk_iconst dM_costs_43 ?_
                  refine zk_bipush dM_costs_44 (by decide) ?_
                  refine zk_callS (av := [.inl x4, .inl 0, .inl 100]) (st := []) (d' := (0, 0)) (kc' := 0) (ks' := 0) zbM_77 dM_costs_46 rfl rfl (Nat.le_of_ble_eq_true rfl) ⟨by decide, by decide⟩ rfl rfl (kM_isIn G sw σ α τ β t hx4 ⟨by decide, by decide⟩ ⟨by decide, by decide⟩) (fun v9 h9 q9 => ?_)
                  rcases q9 with ⟨rfl, ⟨hc46, rfl⟩ | ⟨hc46, rfl⟩⟩
                  · skip
                    refine zk_W.to (ls' := [some (.inr (some 22)), some (.inl x0), some (.inl x1), some (.inl x2), some (.inl x3), some (.inl x4), none]) (st' := [.inl 1]) (h' := (zk_mk G sw σ α (zk_md τ β t))) rfl rfl rfl ?_
                    refine zk_if_ne (tgt := 55) dM_costs_49 (by decide) ⟨by decide, by decide⟩ (fun h49 => ?_) (fun h49 => ?_)
                    · skip
                      refine zk_iload_n dM_costs_55 rfl ?_
                      refine zk_aload_n dM_costs_56 rfl ?_
                      refine zk_get zfM_40 dM_costs_57 (v := .inl (τ 0)) rfl (by decide) rfl ?_
                      refine zk_icmp_ne (tgt := 67) dM_costs_60 (by decide) hx0 ⟨by omega, by omega⟩ (fun h60 => ?_) (fun h60 => ?_)
                      · skip
                        refine zk_iconst dM_costs_67 ?_
                        refine zk_iload_n dM_costs_68 rfl ?_
                        refine zk_aload_n dM_costs_69 rfl ?_
                        refine zk_get zfM_44 dM_costs_70 (v := .inl (τ 1)) rfl (by decide) rfl ?_
                        refine zk_icmp_ne (tgt := 80) dM_costs_73 (by decide) hx1 ⟨by omega, by omega⟩ (fun h73 => ?_) (fun h73 => ?_)
                        · skip
                          refine zk_iconst dM_costs_80 ?_
                          refine zk_iadd dM_costs_81 ?_
                          refine zk_iload_n dM_costs_82 rfl ?_
                          refine zk_aload_n dM_costs_83 rfl ?_
                          refine zk_get zfM_47 dM_costs_84 (v := .inl (τ 2)) rfl (by decide) rfl ?_
                          refine zk_icmp_ne (tgt := 94) dM_costs_87 (by decide) hx2 ⟨by omega, by omega⟩ (fun h87 => ?_) (fun h87 => ?_)
                          · skip
                            refine zk_iconst dM_costs_94 ?_
                            refine zk_iadd dM_costs_95 ?_
                            refine zk_iload dM_costs_96 rfl ?_
                            refine zk_aload_n dM_costs_98 rfl ?_
                            refine zk_get zfM_50 dM_costs_99 (v := .inl (τ 3)) rfl (by decide) rfl ?_
                            refine zk_icmp_ne (tgt := 109) dM_costs_102 (by decide) hx3 ⟨by omega, by omega⟩ (fun h102 => ?_) (fun h102 => ?_)
                            · skip
                              refine zk_iconst dM_costs_109 ?_
                              refine zk_iadd dM_costs_110 ?_
                              refine zk_iload dM_costs_111 rfl ?_
                              refine zk_aload_n dM_costs_113 rfl ?_
                              refine zk_get zfM_53 dM_costs_114 (v := .inl (τ 4)) rfl (by decide) rfl ?_
                              refine zk_icmp_ne (tgt := 124) dM_costs_117 (by decide) hx4 ⟨by omega, by omega⟩ (fun h117 => ?_) (fun h117 => ?_)
                              · skip
                                refine zk_iconst dM_costs_124 ?_
                                refine zk_iadd dM_costs_125 ?_
                                refine zk_istore (ls' := [some (.inr (some 22)), some (.inl x0), some (.inl x1), some (.inl x2), some (.inl x3), some (.inl x4), some (.inl ((((1 + 1) + 1) + 1) + 1))]) dM_costs_126 (by decide) rfl ?_
                                refine zk_aload_n dM_costs_128 rfl ?_
                                refine zk_iload_n dM_costs_129 rfl ?_
                                refine zk_put zfM_40 dM_costs_130 (h' := (zk_mk G sw σ α (zk_md (zk_up τ 0 x0) β t))) rfl (by decide) (Nat.le_of_ble_eq_true rfl) rfl rfl rfl ?_
                                refine zk_aload_n dM_costs_133 rfl ?_
                                refine zk_iload_n dM_costs_134 rfl ?_
                                refine zk_put zfM_44 dM_costs_135 (h' := (zk_mk G sw σ α (zk_md (zk_up (zk_up τ 0 x0) 1 x1) β t))) rfl (by decide) (Nat.le_of_ble_eq_true rfl) rfl rfl rfl ?_
                                refine zk_aload_n dM_costs_138 rfl ?_
                                refine zk_iload_n dM_costs_139 rfl ?_
                                refine zk_put zfM_47 dM_costs_140 (h' := (zk_mk G sw σ α (zk_md (zk_up (zk_up (zk_up τ 0 x0) 1 x1) 2 x2) β t))) rfl (by decide) (Nat.le_of_ble_eq_true rfl) rfl rfl rfl ?_
                                refine zk_aload_n dM_costs_143 rfl ?_
                                refine zk_iload dM_costs_144 rfl ?_
                                refine zk_put zfM_50 dM_costs_146 (h' := (zk_mk G sw σ α (zk_md (zk_up (zk_up (zk_up (zk_up τ 0 x0) 1 x1) 2 x2) 3 x3) β t))) rfl (by decide) (Nat.le_of_ble_eq_true rfl) rfl rfl rfl ?_
                                refine zk_aload_n dM_costs_149 rfl ?_
                                refine zk_iload dM_costs_150 rfl ?_
                                refine zk_put zfM_53 dM_costs_152 (h' := (zk_mk G sw σ α (zk_md (zk_up (zk_up (zk_up (zk_up (zk_up τ 0 x0) 1 x1) 2 x2) 3 x3) 4 x4) β t))) rfl (by decide) (Nat.le_of_ble_eq_true rfl) rfl rfl rfl ?_
                                refine zk_aload_n dM_costs_155 rfl ?_
                                refine zk_iconst dM_costs_156 ?_
                                refine zk_put zfM_68 dM_costs_157 (h' := (zk_mk G sw σ α (zk_md (zk_up (zk_up (zk_up (zk_up (zk_up (zk_up τ 0 x0) 1 x1) 2 x2) 3 x3) 4 x4) 9 0) β t))) rfl (by decide) (Nat.le_of_ble_eq_true rfl) rfl rfl rfl ?_
                                refine zk_iload dM_costs_160 rfl ?_
                                refine zk_iret dM_costs_162 rfl (Or.inr ⟨by omega, rfl, ?_⟩)
                                first | rw [if_pos h60] | rw [if_neg h60]
                                first | rw [if_pos h73] | rw [if_neg h73]
                                first | rw [if_pos h87] | rw [if_neg h87]
                                first | rw [if_pos h102] | rw [if_neg h102]
                                first | rw [if_pos h117] | rw [if_neg h117]
                              · skip
                                refine zk_iconst dM_costs_120 ?_
                                refine zk_goto (tgt := 125) dM_costs_121 (by decide) ?_
                                refine zk_iadd dM_costs_125 ?_
                                refine zk_istore (ls' := [some (.inr (some 22)), some (.inl x0), some (.inl x1), some (.inl x2), some (.inl x3), some (.inl x4), some (.inl ((((1 + 1) + 1) + 1) + 0))]) dM_costs_126 (by decide) rfl ?_
                                refine zk_aload_n dM_costs_128 rfl ?_
                                refine zk_iload_n dM_costs_129 rfl ?_
                                refine zk_put zfM_40 dM_costs_130 (h' := (zk_mk G sw σ α (zk_md (zk_up τ 0 x0) β t))) rfl (by decide) (Nat.le_of_ble_eq_true rfl) rfl rfl rfl ?_
                                refine zk_aload_n dM_costs_133 rfl ?_
                                refine zk_iload_n dM_costs_134 rfl ?_
                                refine zk_put zfM_44 dM_costs_135 (h' := (zk_mk G sw σ α (zk_md (zk_up (zk_up τ 0 x0) 1 x1) β t))) rfl (by decide) (Nat.le_of_ble_eq_true rfl) rfl rfl rfl ?_
                                refine zk_aload_n dM_costs_138 rfl ?_
                                refine zk_iload_n dM_costs_139 rfl ?_
                                refine zk_put zfM_47 dM_costs_140 (h' := (zk_mk G sw σ α (zk_md (zk_up (zk_up (zk_up τ 0 x0) 1 x1) 2 x2) β t))) rfl (by decide) (Nat.le_of_ble_eq_true rfl) rfl rfl rfl ?_
                                refine zk_aload_n dM_costs_143 rfl ?_
                                refine zk_iload dM_costs_144 rfl ?_
                                refine zk_put zfM_50 dM_costs_146 (h' := (zk_mk G sw σ α (zk_md (zk_up (zk_up (zk_up (zk_up τ 0 x0) 1 x1) 2 x2) 3 x3) β t))) rfl (by decide) (Nat.le_of_ble_eq_true rfl) rfl rfl rfl ?_
                                refine zk_aload_n dM_costs_149 rfl ?_
                                refine zk_iload dM_costs_150 rfl ?_
                                refine zk_put zfM_53 dM_costs_152 (h' := (zk_mk G sw σ α (zk_md (zk_up (zk_up (zk_up (zk_up (zk_up τ 0 x0) 1 x1) 2 x2) 3 x3) 4 x4) β t))) rfl (by decide) (Nat.le_of_ble_eq_true rfl) rfl rfl rfl ?_
                                refine zk_aload_n dM_costs_155 rfl ?_
                                refine zk_iconst dM_costs_156 ?_
                                refine zk_put zfM_68 dM_costs_157 (h' := (zk_mk G sw σ α (zk_md (zk_up (zk_up (zk_up (zk_up (zk_up (zk_up τ 0 x0) 1 x1) 2 x2) 3 x3) 4 x4) 9 0) β t))) rfl (by decide) (Nat.le_of_ble_eq_true rfl) rfl rfl rfl ?_
                                refine zk_iload dM_costs_160 rfl ?_
                                refine zk_iret dM_costs_162 rfl (Or.inr ⟨by omega, rfl, ?_⟩)
                                first | rw [if_pos h60] | rw [if_neg h60]
                                first | rw [if_pos h73] | rw [if_neg h73]
                                first | rw [if_pos h87] | rw [if_neg h87]
                                first | rw [if_pos h102] | rw [if_neg h102]
                                first | rw [if_pos h117] | rw [if_neg h117]
                            · skip
                              refine zk_iconst dM_costs_105 ?_
                              refine zk_goto (tgt := 110) dM_costs_106 (by decide) ?_
                              refine zk_iadd dM_costs_110 ?_
                              refine zk_iload dM_costs_111 rfl ?_
                              refine zk_aload_n dM_costs_113 rfl ?_
                              refine zk_get zfM_53 dM_costs_114 (v := .inl (τ 4)) rfl (by decide) rfl ?_
                              refine zk_icmp_ne (tgt := 124) dM_costs_117 (by decide) hx4 ⟨by omega, by omega⟩ (fun h117 => ?_) (fun h117 => ?_)
                              · skip
                                refine zk_iconst dM_costs_124 ?_
                                refine zk_iadd dM_costs_125 ?_
                                refine zk_istore (ls' := [some (.inr (some 22)), some (.inl x0), some (.inl x1), some (.inl x2), some (.inl x3), some (.inl x4), some (.inl ((((1 + 1) + 1) + 0) + 1))]) dM_costs_126 (by decide) rfl ?_
                                refine zk_aload_n dM_costs_128 rfl ?_
                                refine zk_iload_n dM_costs_129 rfl ?_
                                refine zk_put zfM_40 dM_costs_130 (h' := (zk_mk G sw σ α (zk_md (zk_up τ 0 x0) β t))) rfl (by decide) (Nat.le_of_ble_eq_true rfl) rfl rfl rfl ?_
                                refine zk_aload_n dM_costs_133 rfl ?_
                                refine zk_iload_n dM_costs_134 rfl ?_
                                refine zk_put zfM_44 dM_costs_135 (h' := (zk_mk G sw σ α (zk_md (zk_up (zk_up τ 0 x0) 1 x1) β t))) rfl (by decide) (Nat.le_of_ble_eq_true rfl) rfl rfl rfl ?_
                                refine zk_aload_n dM_costs_138 rfl ?_
                                refine zk_iload_n dM_costs_139 rfl ?_
                                refine zk_put zfM_47 dM_costs_140 (h' := (zk_mk G sw σ α (zk_md (zk_up (zk_up (zk_up τ 0 x0) 1 x1) 2 x2) β t))) rfl (by decide) (Nat.le_of_ble_eq_true rfl) rfl rfl rfl ?_
                                refine zk_aload_n dM_costs_143 rfl ?_
                                refine zk_iload dM_costs_144 rfl ?_
                                refine zk_put zfM_50 dM_costs_146 (h' := (zk_mk G sw σ α (zk_md (zk_up (zk_up (zk_up (zk_up τ 0 x0) 1 x1) 2 x2) 3 x3) β t))) rfl (by decide) (Nat.le_of_ble_eq_true rfl) rfl rfl rfl ?_
                                refine zk_aload_n dM_costs_149 rfl ?_
                                refine zk_iload dM_costs_150 rfl ?_
                                refine zk_put zfM_53 dM_costs_152 (h' := (zk_mk G sw σ α (zk_md (zk_up (zk_up (zk_up (zk_up (zk_up τ 0 x0) 1 x1) 2 x2) 3 x3) 4 x4) β t))) rfl (by decide) (Nat.le_of_ble_eq_true rfl) rfl rfl rfl ?_
                                refine zk_aload_n dM_costs_155 rfl ?_
                                refine zk_iconst dM_costs_156 ?_
                                refine zk_put zfM_68 dM_costs_157 (h' := (zk_mk G sw σ α (zk_md (zk_up (zk_up (zk_up (zk_up (zk_up (zk_up τ 0 x0) 1 x1) 2 x2) 3 x3) 4 x4) 9 0) β t))) rfl (by decide) (Nat.le_of_ble_eq_true rfl) rfl rfl rfl ?_
                                refine zk_iload dM_costs_160 rfl ?_
                                refine zk_iret dM_costs_162 rfl (Or.inr ⟨by omega, rfl, ?_⟩)
                                first | rw [if_pos h60] | rw [if_neg h60]
                                first | rw [if_pos h73] | rw [if_neg h73]
                                first | rw [if_pos h87] | rw [if_neg h87]
                                first | rw [if_pos h102] | rw [if_neg h102]
                                first | rw [if_pos h117] | rw [if_neg h117]
                              · skip
                                refine zk_iconst dM_costs_120 ?_
                                refine zk_goto (tgt := 125) dM_costs_121 (by decide) ?_
                                refine zk_iadd dM_costs_125 ?_
                                refine zk_istore (ls' := [some (.inr (some 22)), some (.inl x0), some (.inl x1), some (.inl x2), some (.inl x3), some (.inl x4), some (.inl ((((1 + 1) + 1) + 0) + 0))]) dM_costs_126 (by decide) rfl ?_
                                refine zk_aload_n dM_costs_128 rfl ?_
                                refine zk_iload_n dM_costs_129 rfl ?_
                                refine zk_put zfM_40 dM_costs_130 (h' := (zk_mk G sw σ α (zk_md (zk_up τ 0 x0) β t))) rfl (by decide) (Nat.le_of_ble_eq_true rfl) rfl rfl rfl ?_
                                refine zk_aload_n dM_costs_133 rfl ?_
                                refine zk_iload_n dM_costs_134 rfl ?_
                                refine zk_put zfM_44 dM_costs_135 (h' := (zk_mk G sw σ α (zk_md (zk_up (zk_up τ 0 x0) 1 x1) β t))) rfl (by decide) (Nat.le_of_ble_eq_true rfl) rfl rfl rfl ?_
                                refine zk_aload_n dM_costs_138 rfl ?_
                                refine zk_iload_n dM_costs_139 rfl ?_
                                refine zk_put zfM_47 dM_costs_140 (h' := (zk_mk G sw σ α (zk_md (zk_up (zk_up (zk_up τ 0 x0) 1 x1) 2 x2) β t))) rfl (by decide) (Nat.le_of_ble_eq_true rfl) rfl rfl rfl ?_
                                refine zk_aload_n dM_costs_143 rfl ?_
                                refine zk_iload dM_costs_144 rfl ?_
                                refine zk_put zfM_50 dM_costs_146 (h' := (zk_mk G sw σ α (zk_md (zk_up (zk_up (zk_up (zk_up τ 0 x0) 1 x1) 2 x2) 3 x3) β t))) rfl (by decide) (Nat.le_of_ble_eq_true rfl) rfl rfl rfl ?_
                                refine zk_aload_n dM_costs_149 rfl ?_
                                refine zk_iload dM_costs_150 rfl ?_
                                refine zk_put zfM_53 dM_costs_152 (h' := (zk_mk G sw σ α (zk_md (zk_up (zk_up (zk_up (zk_up (zk_up τ 0 x0) 1 x1) 2 x2) 3 x3) 4 x4) β t))) rfl (by decide) (Nat.le_of_ble_eq_true rfl) rfl rfl rfl ?_
                                refine zk_aload_n dM_costs_155 rfl ?_
                                refine zk_iconst dM_costs_156 ?_
                                refine zk_put zfM_68 dM_costs_157 (h' := (zk_mk G sw σ α (zk_md (zk_up (zk_up (zk_up (zk_up (zk_up (zk_up τ 0 x0) 1 x1) 2 x2) 3 x3) 4 x4) 9 0) β t))) rfl (by decide) (Nat.le_of_ble_eq_true rfl) rfl rfl rfl ?_
                                refine zk_iload dM_costs_160 rfl ?_
                                refine zk_iret dM_costs_162 rfl (Or.inr ⟨by omega, rfl, ?_⟩)
                                first | rw [if_pos h60] | rw [if_neg h60]
                                first | rw [if_pos h73] | rw [if_neg h73]
                                first | rw [if_pos h87] | rw [if_neg h87]
                                first | rw [if_pos h102] | rw [if_neg h102]
                                first | rw [if_pos h117] | rw [if_neg h117]
                          · skip
                            refine zk_iconst dM_costs_90 ?_
                            refine zk_goto (tgt := 95) dM_costs_91 (by decide) ?_
                            refine zk_iadd dM_costs_95 ?_
                            refine zk_iload dM_costs_96 rfl ?_
                            refine zk_aload_n dM_costs_98 rfl ?_
                            refine zk_get zfM_50 dM_costs_99 (v := .inl (τ 3)) rfl (by decide) rfl ?_
                            refine zk_icmp_ne (tgt := 109) dM_costs_102 (by decide) hx3 ⟨by omega, by omega⟩ (fun h102 => ?_) (fun h102 => ?_)
                            · skip
                              refine zk_iconst dM_costs_109 ?_
                              refine zk_iadd dM_costs_110 ?_
                              refine zk_iload dM_costs_111 rfl ?_
                              refine zk_aload_n dM_costs_113 rfl ?_
                              refine zk_get zfM_53 dM_costs_114 (v := .inl (τ 4)) rfl (by decide) rfl ?_
                              refine zk_icmp_ne (tgt := 124) dM_costs_117 (by decide) hx4 ⟨by omega, by omega⟩ (fun h117 => ?_) (fun h117 => ?_)
                              · skip
                                refine zk_iconst dM_costs_124 ?_
                                refine zk_iadd dM_costs_125 ?_
                                refine zk_istore (ls' := [some (.inr (some 22)), some (.inl x0), some (.inl x1), some (.inl x2), some (.inl x3), some (.inl x4), some (.inl ((((1 + 1) + 0) + 1) + 1))]) dM_costs_126 (by decide) rfl ?_
                                refine zk_aload_n dM_costs_128 rfl ?_
                                refine zk_iload_n dM_costs_129 rfl ?_
                                refine zk_put zfM_40 dM_costs_130 (h' := (zk_mk G sw σ α (zk_md (zk_up τ 0 x0) β t))) rfl (by decide) (Nat.le_of_ble_eq_true rfl) rfl rfl rfl ?_
                                refine zk_aload_n dM_costs_133 rfl ?_
                                refine zk_iload_n dM_costs_134 rfl ?_
                                refine zk_put zfM_44 dM_costs_135 (h' := (zk_mk G sw σ α (zk_md (zk_up (zk_up τ 0 x0) 1 x1) β t))) rfl (by decide) (Nat.le_of_ble_eq_true rfl) rfl rfl rfl ?_
                                refine zk_aload_n dM_costs_138 rfl ?_
                                refine zk_iload_n dM_costs_139 rfl ?_
                                refine zk_put zfM_47 dM_costs_140 (h' := (zk_mk G sw σ α (zk_md (zk_up (zk_up (zk_up τ 0 x0) 1 x1) 2 x2) β t))) rfl (by decide) (Nat.le_of_ble_eq_true rfl) rfl rfl rfl ?_
                                refine zk_aload_n dM_costs_143 rfl ?_
                                refine zk_iload dM_costs_144 rfl ?_
                                refine zk_put zfM_50 dM_costs_146 (h' := (zk_mk G sw σ α (zk_md (zk_up (zk_up (zk_up (zk_up τ 0 x0) 1 x1) 2 x2) 3 x3) β t))) rfl (by decide) (Nat.le_of_ble_eq_true rfl) rfl rfl rfl ?_
                                refine zk_aload_n dM_costs_149 rfl ?_
                                refine zk_iload dM_costs_150 rfl ?_
                                refine zk_put zfM_53 dM_costs_152 (h' := (zk_mk G sw σ α (zk_md (zk_up (zk_up (zk_up (zk_up (zk_up τ 0 x0) 1 x1) 2 x2) 3 x3) 4 x4) β t))) rfl (by decide) (Nat.le_of_ble_eq_true rfl) rfl rfl rfl ?_
                                refine zk_aload_n dM_costs_155 rfl ?_
                                refine zk_iconst dM_costs_156 ?_
                                refine zk_put zfM_68 dM_costs_157 (h' := (zk_mk G sw σ α (zk_md (zk_up (zk_up (zk_up (zk_up (zk_up (zk_up τ 0 x0) 1 x1) 2 x2) 3 x3) 4 x4) 9 0) β t))) rfl (by decide) (Nat.le_of_ble_eq_true rfl) rfl rfl rfl ?_
                                refine zk_iload dM_costs_160 rfl ?_
                                refine zk_iret dM_costs_162 rfl (Or.inr ⟨by omega, rfl, ?_⟩)
                                first | rw [if_pos h60] | rw [if_neg h60]
                                first | rw [if_pos h73] | rw [if_neg h73]
                                first | rw [if_pos h87] | rw [if_neg h87]
                                first | rw [if_pos h102] | rw [if_neg h102]
                                first | rw [if_pos h117] | rw [if_neg h117]
                              · skip
                                refine zk_iconst dM_costs_120 ?_
                                refine zk_goto (tgt := 125) dM_costs_121 (by decide) ?_
                                refine zk_iadd dM_costs_125 ?_
                                refine zk_istore (ls' := [some (.inr (some 22)), some (.inl x0), some (.inl x1), some (.inl x2), some (.inl x3), some (.inl x4), some (.inl ((((1 + 1) + 0) + 1) + 0))]) dM_costs_126 (by decide) rfl ?_
                                refine zk_aload_n dM_costs_128 rfl ?_
                                refine zk_iload_n dM_costs_129 rfl ?_
                                refine zk_put zfM_40 dM_costs_130 (h' := (zk_mk G sw σ α (zk_md (zk_up τ 0 x0) β t))) rfl (by decide) (Nat.le_of_ble_eq_true rfl) rfl rfl rfl ?_
                                refine zk_aload_n dM_costs_133 rfl ?_
                                refine zk_iload_n dM_costs_134 rfl ?_
                                refine zk_put zfM_44 dM_costs_135 (h' := (zk_mk G sw σ α (zk_md (zk_up (zk_up τ 0 x0) 1 x1) β t))) rfl (by decide) (Nat.le_of_ble_eq_true rfl) rfl rfl rfl ?_
                                refine zk_aload_n dM_costs_138 rfl ?_
                                refine zk_iload_n dM_costs_139 rfl ?_
                                refine zk_put zfM_47 dM_costs_140 (h' := (zk_mk G sw σ α (zk_md (zk_up (zk_up (zk_up τ 0 x0) 1 x1) 2 x2) β t))) rfl (by decide) (Nat.le_of_ble_eq_true rfl) rfl rfl rfl ?_
                                refine zk_aload_n dM_costs_143 rfl ?_
                                refine zk_iload dM_costs_144 rfl ?_
                                refine zk_put zfM_50 dM_costs_146 (h' := (zk_mk G sw σ α (zk_md (zk_up (zk_up (zk_up (zk_up τ 0 x0) 1 x1) 2 x2) 3 x3) β t))) rfl (by decide) (Nat.le_of_ble_eq_true rfl) rfl rfl rfl ?_
                                refine zk_aload_n dM_costs_149 rfl ?_
                                refine zk_iload dM_costs_150 rfl ?_
                                refine zk_put zfM_53 dM_costs_152 (h' := (zk_mk G sw σ α (zk_md (zk_up (zk_up (zk_up (zk_up (zk_up τ 0 x0) 1 x1) 2 x2) 3 x3) 4 x4) β t))) rfl (by decide) (Nat.le_of_ble_eq_true rfl) rfl rfl rfl ?_
                                refine zk_aload_n dM_costs_155 rfl ?_
                                refine zk_iconst dM_costs_156 ?_
                                refine zk_put zfM_68 dM_costs_157 (h' := (zk_mk G sw σ α (zk_md (zk_up (zk_up (zk_up (zk_up (zk_up (zk_up τ 0 x0) 1 x1) 2 x2) 3 x3) 4 x4) 9 0) β t))) rfl (by decide) (Nat.le_of_ble_eq_true rfl) rfl rfl rfl ?_
                                refine zk_iload dM_costs_160 rfl ?_
                                refine zk_iret dM_costs_162 rfl (Or.inr ⟨by omega, rfl, ?_⟩)
                                first | rw [if_pos h60] | rw [if_neg h60]
                                first | rw [if_pos h73] | rw [if_neg h73]
                                first | rw [if_pos h87] | rw [if_neg h87]
                                first | rw [if_pos h102] | rw [if_neg h102]
                                first | rw [if_pos h117] | rw [if_neg h117]
                            · skip
                              refine zk_iconst dM_costs_105 ?_
                              refine zk_goto (tgt := 110) dM_costs_106 (by decide) ?_
                              refine zk_iadd dM_costs_110 ?_
                              refine zk_iload dM_costs_111 rfl ?_
                              refine zk_aload_n dM_costs_113 rfl ?_
                              refine zk_get zfM_53 dM_costs_114 (v := .inl (τ 4)) rfl (by decide) rfl ?_
                              refine zk_icmp_ne (tgt := 124) dM_costs_117 (by decide) hx4 ⟨by omega, by omega⟩ (fun h117 => ?_) (fun h117 => ?_)
                              · skip
                                refine zk_iconst dM_costs_124 ?_
                                refine zk_iadd dM_costs_125 ?_
                                refine zk_istore (ls' := [some (.inr (some 22)), some (.inl x0), some (.inl x1), some (.inl x2), some (.inl x3), some (.inl x4), some (.inl ((((1 + 1) + 0) + 0) + 1))]) dM_costs_126 (by decide) rfl ?_
                                refine zk_aload_n dM_costs_128 rfl ?_
                                refine zk_iload_n dM_costs_129 rfl ?_
                                refine zk_put zfM_40 dM_costs_130 (h' := (zk_mk G sw σ α (zk_md (zk_up τ 0 x0) β t))) rfl (by decide) (Nat.le_of_ble_eq_true rfl) rfl rfl rfl ?_
                                refine zk_aload_n dM_costs_133 rfl ?_
                                refine zk_iload_n dM_costs_134 rfl ?_
                                refine zk_put zfM_44 dM_costs_135 (h' := (zk_mk G sw σ α (zk_md (zk_up (zk_up τ 0 x0) 1 x1) β t))) rfl (by decide) (Nat.le_of_ble_eq_true rfl) rfl rfl rfl ?_
                                refine zk_aload_n dM_costs_138 rfl ?_
                                refine zk_iload_n dM_costs_139 rfl ?_
                                refine zk_put zfM_47 dM_costs_140 (h' := (zk_mk G sw σ α (zk_md (zk_up (zk_up (zk_up τ 0 x0) 1 x1) 2 x2) β t))) rfl (by decide) (Nat.le_of_ble_eq_true rfl) rfl rfl rfl ?_
                                refine zk_aload_n dM_costs_143 rfl ?_
                                refine zk_iload dM_costs_144 rfl ?_
                                refine zk_put zfM_50 dM_costs_146 (h' := (zk_mk G sw σ α (zk_md (zk_up (zk_up (zk_up (zk_up τ 0 x0) 1 x1) 2 x2) 3 x3) β t))) rfl (by decide) (Nat.le_of_ble_eq_true rfl) rfl rfl rfl ?_
                                refine zk_aload_n dM_costs_149 rfl ?_
                                refine zk_iload dM_costs_150 rfl ?_
                                refine zk_put zfM_53 dM_costs_152 (h' := (zk_mk G sw σ α (zk_md (zk_up (zk_up (zk_up (zk_up (zk_up τ 0 x0) 1 x1) 2 x2) 3 x3) 4 x4) β t))) rfl (by decide) (Nat.le_of_ble_eq_true rfl) rfl rfl rfl ?_
                                refine zk_aload_n dM_costs_155 rfl ?_
                                refine zk_iconst dM_costs_156 ?_
                                refine zk_put zfM_68 dM_costs_157 (h' := (zk_mk G sw σ α (zk_md (zk_up (zk_up (zk_up (zk_up (zk_up (zk_up τ 0 x0) 1 x1) 2 x2) 3 x3) 4 x4) 9 0) β t))) rfl (by decide) (Nat.le_of_ble_eq_true rfl) rfl rfl rfl ?_
                                refine zk_iload dM_costs_160 rfl ?_
                                refine zk_iret dM_costs_162 rfl (Or.inr ⟨by omega, rfl, ?_⟩)
                                first | rw [if_pos h60] | rw [if_neg h60]
                                first | rw [if_pos h73] | rw [if_neg h73]
                                first | rw [if_pos h87] | rw [if_neg h87]
                                first | rw [if_pos h102] | rw [if_neg h102]
                                first | rw [if_pos h117] | rw [if_neg h117]
                              · skip
                                refine zk_iconst dM_costs_120 ?_
                                refine zk_goto (tgt := 125) dM_costs_121 (by decide) ?_
                                refine zk_iadd dM_costs_125 ?_
                                refine zk_istore (ls' := [some (.inr (some 22)), some (.inl x0), some (.inl x1), some (.inl x2), some (.inl x3), some (.inl x4), some (.inl ((((1 + 1) + 0) + 0) + 0))]) dM_costs_126 (by decide) rfl ?_
                                refine zk_aload_n dM_costs_128 rfl ?_
                                refine zk_iload_n dM_costs_129 rfl ?_
                                refine zk_put zfM_40 dM_costs_130 (h' := (zk_mk G sw σ α (zk_md (zk_up τ 0 x0) β t))) rfl (by decide) (Nat.le_of_ble_eq_true rfl) rfl rfl rfl ?_
                                refine zk_aload_n dM_costs_133 rfl ?_
                                refine zk_iload_n dM_costs_134 rfl ?_
                                refine zk_put zfM_44 dM_costs_135 (h' := (zk_mk G sw σ α (zk_md (zk_up (zk_up τ 0 x0) 1 x1) β t))) rfl (by decide) (Nat.le_of_ble_eq_true rfl) rfl rfl rfl ?_
                                refine zk_aload_n dM_costs_138 rfl ?_
                                refine zk_iload_n dM_costs_139 rfl ?_
                                refine zk_put zfM_47 dM_costs_140 (h' := (zk_mk G sw σ α (zk_md (zk_up (zk_up (zk_up τ 0 x0) 1 x1) 2 x2) β t))) rfl (by decide) (Nat.le_of_ble_eq_true rfl) rfl rfl rfl ?_
                                refine zk_aload_n dM_costs_143 rfl ?_
                                refine zk_iload dM_costs_144 rfl ?_
                                refine zk_put zfM_50 dM_costs_146 (h' := (zk_mk G sw σ α (zk_md (zk_up (zk_up (zk_up (zk_up τ 0 x0) 1 x1) 2 x2) 3 x3) β t))) rfl (by decide) (Nat.le_of_ble_eq_true rfl) rfl rfl rfl ?_
                                refine zk_aload_n dM_costs_149 rfl ?_
                                refine zk_iload dM_costs_150 rfl ?_
                                refine zk_put zfM_53 dM_costs_152 (h' := (zk_mk G sw σ α (zk_md (zk_up (zk_up (zk_up (zk_up (zk_up τ 0 x0) 1 x1) 2 x2) 3 x3) 4 x4) β t))) rfl (by decide) (Nat.le_of_ble_eq_true rfl) rfl rfl rfl ?_
                                refine zk_aload_n dM_costs_155 rfl ?_
                                refine zk_iconst dM_costs_156 ?_
                                refine zk_put zfM_68 dM_costs_157 (h' := (zk_mk G sw σ α (zk_md (zk_up (zk_up (zk_up (zk_up (zk_up (zk_up τ 0 x0) 1 x1) 2 x2) 3 x3) 4 x4) 9 0) β t))) rfl (by decide) (Nat.le_of_ble_eq_true rfl) rfl rfl rfl ?_
                                refine zk_iload dM_costs_160 rfl ?_
                                refine zk_iret dM_costs_162 rfl (Or.inr ⟨by omega, rfl, ?_⟩)
                                first | rw [if_pos h60] | rw [if_neg h60]
                                first | rw [if_pos h73] | rw [if_neg h73]
                                first | rw [if_pos h87] | rw [if_neg h87]
                                first | rw [if_pos h102] | rw [if_neg h102]
                                first | rw [if_pos h117] | rw [if_neg h117]
                        · skip
                          refine zk_iconst dM_costs_76 ?_
                          refine zk_goto (tgt := 81) dM_costs_77 (by decide) ?_
                          refine zk_iadd dM_costs_81 ?_
                          refine zk_iload_n dM_costs_82 rfl ?_
                          refine zk_aload_n dM_costs_83 rfl ?_
                          refine zk_get zfM_47 dM_costs_84 (v := .inl (τ 2)) rfl (by decide) rfl ?_
                          refine zk_icmp_ne (tgt := 94) dM_costs_87 (by decide) hx2 ⟨by omega, by omega⟩ (fun h87 => ?_) (fun h87 => ?_)
                          · skip
                            refine zk_iconst dM_costs_94 ?_
                            refine zk_iadd dM_costs_95 ?_
                            refine zk_iload dM_costs_96 rfl ?_
                            refine zk_aload_n dM_costs_98 rfl ?_
                            refine zk_get zfM_50 dM_costs_99 (v := .inl (τ 3)) rfl (by decide) rfl ?_
                            refine zk_icmp_ne (tgt := 109) dM_costs_102 (by decide) hx3 ⟨by omega, by omega⟩ (fun h102 => ?_) (fun h102 => ?_)
                            · skip
                              refine zk_iconst dM_costs_109 ?_
                              refine zk_iadd dM_costs_110 ?_
                              refine zk_iload dM_costs_111 rfl ?_
                              refine zk_aload_n dM_costs_113 rfl ?_
                              refine zk_get zfM_53 dM_costs_114 (v := .inl (τ 4)) rfl (by decide) rfl ?_
                              refine zk_icmp_ne (tgt := 124) dM_costs_117 (by decide) hx4 ⟨by omega, by omega⟩ (fun h117 => ?_) (fun h117 => ?_)
                              · skip
                                refine zk_iconst dM_costs_124 ?_
                                refine zk_iadd dM_costs_125 ?_
                                refine zk_istore (ls' := [some (.inr (some 22)), some (.inl x0), some (.inl x1), some (.inl x2), some (.inl x3), some (.inl x4), some (.inl ((((1 + 0) + 1) + 1) + 1))]) dM_costs_126 (by decide) rfl ?_
                                refine zk_aload_n dM_costs_128 rfl ?_
                                refine zk_iload_n dM_costs_129 rfl ?_
                                refine zk_put zfM_40 dM_costs_130 (h' := (zk_mk G sw σ α (zk_md (zk_up τ 0 x0) β t))) rfl (by decide) (Nat.le_of_ble_eq_true rfl) rfl rfl rfl ?_
                                refine zk_aload_n dM_costs_133 rfl ?_
                                refine zk_iload_n dM_costs_134 rfl ?_
                                refine zk_put zfM_44 dM_costs_135 (h' := (zk_mk G sw σ α (zk_md (zk_up (zk_up τ 0 x0) 1 x1) β t))) rfl (by decide) (Nat.le_of_ble_eq_true rfl) rfl rfl rfl ?_
                                refine zk_aload_n dM_costs_138 rfl ?_
                                refine zk_iload_n dM_costs_139 rfl ?_
                                refine zk_put zfM_47 dM_costs_140 (h' := (zk_mk G sw σ α (zk_md (zk_up (zk_up (zk_up τ 0 x0) 1 x1) 2 x2) β t))) rfl (by decide) (Nat.le_of_ble_eq_true rfl) rfl rfl rfl ?_
                                refine zk_aload_n dM_costs_143 rfl ?_
                                refine zk_iload dM_costs_144 rfl ?_
                                refine zk_put zfM_50 dM_costs_146 (h' := (zk_mk G sw σ α (zk_md (zk_up (zk_up (zk_up (zk_up τ 0 x0) 1 x1) 2 x2) 3 x3) β t))) rfl (by decide) (Nat.le_of_ble_eq_true rfl) rfl rfl rfl ?_
                                refine zk_aload_n dM_costs_149 rfl ?_
                                refine zk_iload dM_costs_150 rfl ?_
                                refine zk_put zfM_53 dM_costs_152 (h' := (zk_mk G sw σ α (zk_md (zk_up (zk_up (zk_up (zk_up (zk_up τ 0 x0) 1 x1) 2 x2) 3 x3) 4 x4) β t))) rfl (by decide) (Nat.le_of_ble_eq_true rfl) rfl rfl rfl ?_
                                refine zk_aload_n dM_costs_155 rfl ?_
                                refine zk_iconst dM_costs_156 ?_
                                refine zk_put zfM_68 dM_costs_157 (h' := (zk_mk G sw σ α (zk_md (zk_up (zk_up (zk_up (zk_up (zk_up (zk_up τ 0 x0) 1 x1) 2 x2) 3 x3) 4 x4) 9 0) β t))) rfl (by decide) (Nat.le_of_ble_eq_true rfl) rfl rfl rfl ?_
                                refine zk_iload dM_costs_160 rfl ?_
                                refine zk_iret dM_costs_162 rfl (Or.inr ⟨by omega, rfl, ?_⟩)
                                first | rw [if_pos h60] | rw [if_neg h60]
                                first | rw [if_pos h73] | rw [if_neg h73]
                                first | rw [if_pos h87] | rw [if_neg h87]
                                first | rw [if_pos h102] | rw [if_neg h102]
                                first | rw [if_pos h117] | rw [if_neg h117]
                              · skip
                                refine zk_iconst dM_costs_120 ?_
                                refine zk_goto (tgt := 125) dM_costs_121 (by decide) ?_
                                refine zk_iadd dM_costs_125 ?_
                                refine zk_istore (ls' := [some (.inr (some 22)), some (.inl x0), some (.inl x1), some (.inl x2), some (.inl x3), some (.inl x4), some (.inl ((((1 + 0) + 1) + 1) + 0))]) dM_costs_126 (by decide) rfl ?_
                                refine zk_aload_n dM_costs_128 rfl ?_
                                refine zk_iload_n dM_costs_129 rfl ?_
                                refine zk_put zfM_40 dM_costs_130 (h' := (zk_mk G sw σ α (zk_md (zk_up τ 0 x0) β t))) rfl (by decide) (Nat.le_of_ble_eq_true rfl) rfl rfl rfl ?_
                                refine zk_aload_n dM_costs_133 rfl ?_
                                refine zk_iload_n dM_costs_134 rfl ?_
                                refine zk_put zfM_44 dM_costs_135 (h' := (zk_mk G sw σ α (zk_md (zk_up (zk_up τ 0 x0) 1 x1) β t))) rfl (by decide) (Nat.le_of_ble_eq_true rfl) rfl rfl rfl ?_
                                refine zk_aload_n dM_costs_138 rfl ?_
                                refine zk_iload_n dM_costs_139 rfl ?_
                                refine zk_put zfM_47 dM_costs_140 (h' := (zk_mk G sw σ α (zk_md (zk_up (zk_up (zk_up τ 0 x0) 1 x1) 2 x2) β t))) rfl (by decide) (Nat.le_of_ble_eq_true rfl) rfl rfl rfl ?_
                                refine zk_aload_n dM_costs_143 rfl ?_
                                refine zk_iload dM_costs_144 rfl ?_
                                refine zk_put zfM_50 dM_costs_146 (h' := (zk_mk G sw σ α (zk_md (zk_up (zk_up (zk_up (zk_up τ 0 x0) 1 x1) 2 x2) 3 x3) β t))) rfl (by decide) (Nat.le_of_ble_eq_true rfl) rfl rfl rfl ?_
                                refine zk_aload_n dM_costs_149 rfl ?_
                                refine zk_iload dM_costs_150 rfl ?_
                                refine zk_put zfM_53 dM_costs_152 (h' := (zk_mk G sw σ α (zk_md (zk_up (zk_up (zk_up (zk_up (zk_up τ 0 x0) 1 x1) 2 x2) 3 x3) 4 x4) β t))) rfl (by decide) (Nat.le_of_ble_eq_true rfl) rfl rfl rfl ?_
                                refine zk_aload_n dM_costs_155 rfl ?_
                                refine zk_iconst dM_costs_156 ?_
                                refine zk_put zfM_68 dM_costs_157 (h' := (zk_mk G sw σ α (zk_md (zk_up (zk_up (zk_up (zk_up (zk_up (zk_up τ 0 x0) 1 x1) 2 x2) 3 x3) 4 x4) 9 0) β t))) rfl (by decide) (Nat.le_of_ble_eq_true rfl) rfl rfl rfl ?_
                                refine zk_iload dM_costs_160 rfl ?_
                                refine zk_iret dM_costs_162 rfl (Or.inr ⟨by omega, rfl, ?_⟩)
                                first | rw [if_pos h60] | rw [if_neg h60]
                                first | rw [if_pos h73] | rw [if_neg h73]
                                first | rw [if_pos h87] | rw [if_neg h87]
                                first | rw [if_pos h102] | rw [if_neg h102]
                                first | rw [if_pos h117] | rw [if_neg h117]
                            · skip
                              refine zk_iconst dM_costs_105 ?_
                              refine zk_goto (tgt := 110) dM_costs_106 (by decide) ?_
                              refine zk_iadd dM_costs_110 ?_
                              refine zk_iload dM_costs_111 rfl ?_
                              refine zk_aload_n dM_costs_113 rfl ?_
                              refine zk_get zfM_53 dM_costs_114 (v := .inl (τ 4)) rfl (by decide) rfl ?_
                              refine zk_icmp_ne (tgt := 124) dM_costs_117 (by decide) hx4 ⟨by omega, by omega⟩ (fun h117 => ?_) (fun h117 => ?_)
                              · skip
                                refine zk_iconst dM_costs_124 ?_
                                refine zk_iadd dM_costs_125 ?_
                                refine zk_istore (ls' := [some (.inr (some 22)), some (.inl x0), some (.inl x1), some (.inl x2), some (.inl x3), some (.inl x4), some (.inl ((((1 + 0) + 1) + 0) + 1))]) dM_costs_126 (by decide) rfl ?_
                                refine zk_aload_n dM_costs_128 rfl ?_
                                refine zk_iload_n dM_costs_129 rfl ?_
                                refine zk_put zfM_40 dM_costs_130 (h' := (zk_mk G sw σ α (zk_md (zk_up τ 0 x0) β t))) rfl (by decide) (Nat.le_of_ble_eq_true rfl) rfl rfl rfl ?_
                                refine zk_aload_n dM_costs_133 rfl ?_
                                refine zk_iload_n dM_costs_134 rfl ?_
                                refine zk_put zfM_44 dM_costs_135 (h' := (zk_mk G sw σ α (zk_md (zk_up (zk_up τ 0 x0) 1 x1) β t))) rfl (by decide) (Nat.le_of_ble_eq_true rfl) rfl rfl rfl ?_
                                refine zk_aload_n dM_costs_138 rfl ?_
                                refine zk_iload_n dM_costs_139 rfl ?_
                                refine zk_put zfM_47 dM_costs_140 (h' := (zk_mk G sw σ α (zk_md (zk_up (zk_up (zk_up τ 0 x0) 1 x1) 2 x2) β t))) rfl (by decide) (Nat.le_of_ble_eq_true rfl) rfl rfl rfl ?_
                                refine zk_aload_n dM_costs_143 rfl ?_
                                refine zk_iload dM_costs_144 rfl ?_
                                refine zk_put zfM_50 dM_costs_146 (h' := (zk_mk G sw σ α (zk_md (zk_up (zk_up (zk_up (zk_up τ 0 x0) 1 x1) 2 x2) 3 x3) β t))) rfl (by decide) (Nat.le_of_ble_eq_true rfl) rfl rfl rfl ?_
                                refine zk_aload_n dM_costs_149 rfl ?_
                                refine zk_iload dM_costs_150 rfl ?_
                                refine zk_put zfM_53 dM_costs_152 (h' := (zk_mk G sw σ α (zk_md (zk_up (zk_up (zk_up (zk_up (zk_up τ 0 x0) 1 x1) 2 x2) 3 x3) 4 x4) β t))) rfl (by decide) (Nat.le_of_ble_eq_true rfl) rfl rfl rfl ?_
                                refine zk_aload_n dM_costs_155 rfl ?_
                                refine zk_iconst dM_costs_156 ?_
                                refine zk_put zfM_68 dM_costs_157 (h' := (zk_mk G sw σ α (zk_md (zk_up (zk_up (zk_up (zk_up (zk_up (zk_up τ 0 x0) 1 x1) 2 x2) 3 x3) 4 x4) 9 0) β t))) rfl (by decide) (Nat.le_of_ble_eq_true rfl) rfl rfl rfl ?_
                                refine zk_iload dM_costs_160 rfl ?_
                                refine zk_iret dM_costs_162 rfl (Or.inr ⟨by omega, rfl, ?_⟩)
                                first | rw [if_pos h60] | rw [if_neg h60]
                                first | rw [if_pos h73] | rw [if_neg h73]
                                first | rw [if_pos h87] | rw [if_neg h87]
                                first | rw [if_pos h102] | rw [if_neg h102]
                                first | rw [if_pos h117] | rw [if_neg h117]
                              · skip
                                refine zk_iconst dM_costs_120 ?_
                                refine zk_goto (tgt := 125) dM_costs_121 (by decide) ?_
                                refine zk_iadd dM_costs_125 ?_
                                refine zk_istore (ls' := [some (.inr (some 22)), some (.inl x0), some (.inl x1), some (.inl x2), some (.inl x3), some (.inl x4), some (.inl ((((1 + 0) + 1) + 0) + 0))]) dM_costs_126 (by decide) rfl ?_
                                refine zk_aload_n dM_costs_128 rfl ?_
                                refine zk_iload_n dM_costs_129 rfl ?_
                                refine zk_put zfM_40 dM_costs_130 (h' := (zk_mk G sw σ α (zk_md (zk_up τ 0 x0) β t))) rfl (by decide) (Nat.le_of_ble_eq_true rfl) rfl rfl rfl ?_
                                refine zk_aload_n dM_costs_133 rfl ?_
                                refine zk_iload_n dM_costs_134 rfl ?_
                                refine zk_put zfM_44 dM_costs_135 (h' := (zk_mk G sw σ α (zk_md (zk_up (zk_up τ 0 x0) 1 x1) β t))) rfl (by decide) (Nat.le_of_ble_eq_true rfl) rfl rfl rfl ?_
                                refine zk_aload_n dM_costs_138 rfl ?_
                                refine zk_iload_n dM_costs_139 rfl ?_
                                refine zk_put zfM_47 dM_costs_140 (h' := (zk_mk G sw σ α (zk_md (zk_up (zk_up (zk_up τ 0 x0) 1 x1) 2 x2) β t))) rfl (by decide) (Nat.le_of_ble_eq_true rfl) rfl rfl rfl ?_
                                refine zk_aload_n dM_costs_143 rfl ?_
                                refine zk_iload dM_costs_144 rfl ?_
                                refine zk_put zfM_50 dM_costs_146 (h' := (zk_mk G sw σ α (zk_md (zk_up (zk_up (zk_up (zk_up τ 0 x0) 1 x1) 2 x2) 3 x3) β t))) rfl (by decide) (Nat.le_of_ble_eq_true rfl) rfl rfl rfl ?_
                                refine zk_aload_n dM_costs_149 rfl ?_
                                refine zk_iload dM_costs_150 rfl ?_
                                refine zk_put zfM_53 dM_costs_152 (h' := (zk_mk G sw σ α (zk_md (zk_up (zk_up (zk_up (zk_up (zk_up τ 0 x0) 1 x1) 2 x2) 3 x3) 4 x4) β t))) rfl (by decide) (Nat.le_of_ble_eq_true rfl) rfl rfl rfl ?_
                                refine zk_aload_n dM_costs_155 rfl ?_
                                refine zk_iconst dM_costs_156 ?_
                                refine zk_put zfM_68 dM_costs_157 (h' := (zk_mk G sw σ α (zk_md (zk_up (zk_up (zk_up (zk_up (zk_up (zk_up τ 0 x0) 1 x1) 2 x2) 3 x3) 4 x4) 9 0) β t))) rfl (by decide) (Nat.le_of_ble_eq_true rfl) rfl rfl rfl ?_
                                refine zk_iload dM_costs_160 rfl ?_
                                refine zk_iret dM_costs_162 rfl (Or.inr ⟨by omega, rfl, ?_⟩)
                                first | rw [if_pos h60] | rw [if_neg h60]
                                first | rw [if_pos h73] | rw [if_neg h73]
                                first | rw [if_pos h87] | rw [if_neg h87]
                                first | rw [if_pos h102] | rw [if_neg h102]
                                first | rw [if_pos h117] | rw [if_neg h117]
                          · skip
                            refine zk_iconst dM_costs_90 ?_
                            refine zk_goto (tgt := 95) dM_costs_91 (by decide) ?_
                            refine zk_iadd dM_costs_95 ?_
                            refine zk_iload dM_costs_96 rfl ?_
                            refine zk_aload_n dM_costs_98 rfl ?_
                            refine zk_get zfM_50 dM_costs_99 (v := .inl (τ 3)) rfl (by decide) rfl ?_
                            refine zk_icmp_ne (tgt := 109) dM_costs_102 (by decide) hx3 ⟨by omega, by omega⟩ (fun h102 => ?_) (fun h102 => ?_)
                            · skip
                              refine zk_iconst dM_costs_109 ?_
                              refine zk_iadd dM_costs_110 ?_
                              refine zk_iload dM_costs_111 rfl ?_
                              refine zk_aload_n dM_costs_113 rfl ?_
                              refine zk_get zfM_53 dM_costs_114 (v := .inl (τ 4)) rfl (by decide) rfl ?_
                              refine zk_icmp_ne (tgt := 124) dM_costs_117 (by decide) hx4 ⟨by omega, by omega⟩ (fun h117 => ?_) (fun h117 => ?_)
                              · skip
                                refine zk_iconst dM_costs_124 ?_
                                refine zk_iadd dM_costs_125 ?_
                                refine zk_istore (ls' := [some (.inr (some 22)), some (.inl x0), some (.inl x1), some (.inl x2), some (.inl x3), some (.inl x4), some (.inl ((((1 + 0) + 0) + 1) + 1))]) dM_costs_126 (by decide) rfl ?_
                                refine zk_aload_n dM_costs_128 rfl ?_
                                refine zk_iload_n dM_costs_129 rfl ?_
                                refine zk_put zfM_40 dM_costs_130 (h' := (zk_mk G sw σ α (zk_md (zk_up τ 0 x0) β t))) rfl (by decide) (Nat.le_of_ble_eq_true rfl) rfl rfl rfl ?_
                                refine zk_aload_n dM_costs_133 rfl ?_
                                refine zk_iload_n dM_costs_134 rfl ?_
                                refine zk_put zfM_44 dM_costs_135 (h' := (zk_mk G sw σ α (zk_md (zk_up (zk_up τ 0 x0) 1 x1) β t))) rfl (by decide) (Nat.le_of_ble_eq_true rfl) rfl rfl rfl ?_
                                refine zk_aload_n dM_costs_138 rfl ?_
                                refine zk_iload_n dM_costs_139 rfl ?_
                                refine zk_put zfM_47 dM_costs_140 (h' := (zk_mk G sw σ α (zk_md (zk_up (zk_up (zk_up τ 0 x0) 1 x1) 2 x2) β t))) rfl (by decide) (Nat.le_of_ble_eq_true rfl) rfl rfl rfl ?_
                                refine zk_aload_n dM_costs_143 rfl ?_
                                refine zk_iload dM_costs_144 rfl ?_
                                refine zk_put zfM_50 dM_costs_146 (h' := (zk_mk G sw σ α (zk_md (zk_up (zk_up (zk_up (zk_up τ 0 x0) 1 x1) 2 x2) 3 x3) β t))) rfl (by decide) (Nat.le_of_ble_eq_true rfl) rfl rfl rfl ?_
                                refine zk_aload_n dM_costs_149 rfl ?_
                                refine zk_iload dM_costs_150 rfl ?_
                                refine zk_put zfM_53 dM_costs_152 (h' := (zk_mk G sw σ α (zk_md (zk_up (zk_up (zk_up (zk_up (zk_up τ 0 x0) 1 x1) 2 x2) 3 x3) 4 x4) β t))) rfl (by decide) (Nat.le_of_ble_eq_true rfl) rfl rfl rfl ?_
                                refine zk_aload_n dM_costs_155 rfl ?_
                                refine zk_iconst dM_costs_156 ?_
                                refine zk_put zfM_68 dM_costs_157 (h' := (zk_mk G sw σ α (zk_md (zk_up (zk_up (zk_up (zk_up (zk_up (zk_up τ 0 x0) 1 x1) 2 x2) 3 x3) 4 x4) 9 0) β t))) rfl (by decide) (Nat.le_of_ble_eq_true rfl) rfl rfl rfl ?_
                                refine zk_iload dM_costs_160 rfl ?_
                                refine zk_iret dM_costs_162 rfl (Or.inr ⟨by omega, rfl, ?_⟩)
                                first | rw [if_pos h60] | rw [if_neg h60]
                                first | rw [if_pos h73] | rw [if_neg h73]
                                first | rw [if_pos h87] | rw [if_neg h87]
                                first | rw [if_pos h102] | rw [if_neg h102]
                                first | rw [if_pos h117] | rw [if_neg h117]
                              · skip
                                refine zk_iconst dM_costs_120 ?_
                                refine zk_goto (tgt := 125) dM_costs_121 (by decide) ?_
                                refine zk_iadd dM_costs_125 ?_
                                refine zk_istore (ls' := [some (.inr (some 22)), some (.inl x0), some (.inl x1), some (.inl x2), some (.inl x3), some (.inl x4), some (.inl ((((1 + 0) + 0) + 1) + 0))]) dM_costs_126 (by decide) rfl ?_
                                refine zk_aload_n dM_costs_128 rfl ?_
                                refine zk_iload_n dM_costs_129 rfl ?_
                                refine zk_put zfM_40 dM_costs_130 (h' := (zk_mk G sw σ α (zk_md (zk_up τ 0 x0) β t))) rfl (by decide) (Nat.le_of_ble_eq_true rfl) rfl rfl rfl ?_
                                refine zk_aload_n dM_costs_133 rfl ?_
                                refine zk_iload_n dM_costs_134 rfl ?_
                                refine zk_put zfM_44 dM_costs_135 (h' := (zk_mk G sw σ α (zk_md (zk_up (zk_up τ 0 x0) 1 x1) β t))) rfl (by decide) (Nat.le_of_ble_eq_true rfl) rfl rfl rfl ?_
                                refine zk_aload_n dM_costs_138 rfl ?_
                                refine zk_iload_n dM_costs_139 rfl ?_
                                refine zk_put zfM_47 dM_costs_140 (h' := (zk_mk G sw σ α (zk_md (zk_up (zk_up (zk_up τ 0 x0) 1 x1) 2 x2) β t))) rfl (by decide) (Nat.le_of_ble_eq_true rfl) rfl rfl rfl ?_
                                refine zk_aload_n dM_costs_143 rfl ?_
                                refine zk_iload dM_costs_144 rfl ?_
                                refine zk_put zfM_50 dM_costs_146 (h' := (zk_mk G sw σ α (zk_md (zk_up (zk_up (zk_up (zk_up τ 0 x0) 1 x1) 2 x2) 3 x3) β t))) rfl (by decide) (Nat.le_of_ble_eq_true rfl) rfl rfl rfl ?_
                                refine zk_aload_n dM_costs_149 rfl ?_
                                refine zk_iload dM_costs_150 rfl ?_
                                refine zk_put zfM_53 dM_costs_152 (h' := (zk_mk G sw σ α (zk_md (zk_up (zk_up (zk_up (zk_up (zk_up τ 0 x0) 1 x1) 2 x2) 3 x3) 4 x4) β t))) rfl (by decide) (Nat.le_of_ble_eq_true rfl) rfl rfl rfl ?_
                                refine zk_aload_n dM_costs_155 rfl ?_
                                refine zk_iconst dM_costs_156 ?_
                                refine zk_put zfM_68 dM_costs_157 (h' := (zk_mk G sw σ α (zk_md (zk_up (zk_up (zk_up (zk_up (zk_up (zk_up τ 0 x0) 1 x1) 2 x2) 3 x3) 4 x4) 9 0) β t))) rfl (by decide) (Nat.le_of_ble_eq_true rfl) rfl rfl rfl ?_
                                refine zk_iload dM_costs_160 rfl ?_
                                refine zk_iret dM_costs_162 rfl (Or.inr ⟨by omega, rfl, ?_⟩)
                                first | rw [if_pos h60] | rw [if_neg h60]
                                first | rw [if_pos h73] | rw [if_neg h73]
                                first | rw [if_pos h87] | rw [if_neg h87]
                                first | rw [if_pos h102] | rw [if_neg h102]
                                first | rw [if_pos h117] | rw [if_neg h117]
                            · skip
                              refine zk_iconst dM_costs_105 ?_
                              refine zk_goto (tgt := 110) dM_costs_106 (by decide) ?_
                              refine zk_iadd dM_costs_110 ?_
                              refine zk_iload dM_costs_111 rfl ?_
                              refine zk_aload_n dM_costs_113 rfl ?_
                              refine zk_get zfM_53 dM_costs_114 (v := .inl (τ 4)) rfl (by decide) rfl ?_
                              refine zk_icmp_ne (tgt := 124) dM_costs_117 (by decide) hx4 ⟨by omega, by omega⟩ (fun h117 => ?_) (fun h117 => ?_)
                              · skip
                                refine zk_iconst dM_costs_124 ?_
                                refine zk_iadd dM_costs_125 ?_
                                refine zk_istore (ls' := [some (.inr (some 22)), some (.inl x0), some (.inl x1), some (.inl x2), some (.inl x3), some (.inl x4), some (.inl ((((1 + 0) + 0) + 0) + 1))]) dM_costs_126 (by decide) rfl ?_
                                refine zk_aload_n dM_costs_128 rfl ?_
                                refine zk_iload_n dM_costs_129 rfl ?_
                                refine zk_put zfM_40 dM_costs_130 (h' := (zk_mk G sw σ α (zk_md (zk_up τ 0 x0) β t))) rfl (by decide) (Nat.le_of_ble_eq_true rfl) rfl rfl rfl ?_
                                refine zk_aload_n dM_costs_133 rfl ?_
                                refine zk_iload_n dM_costs_134 rfl ?_
                                refine zk_put zfM_44 dM_costs_135 (h' := (zk_mk G sw σ α (zk_md (zk_up (zk_up τ 0 x0) 1 x1) β t))) rfl (by decide) (Nat.le_of_ble_eq_true rfl) rfl rfl rfl ?_
                                refine zk_aload_n dM_costs_138 rfl ?_
                                refine zk_iload_n dM_costs_139 rfl ?_
                                refine zk_put zfM_47 dM_costs_140 (h' := (zk_mk G sw σ α (zk_md (zk_up (zk_up (zk_up τ 0 x0) 1 x1) 2 x2) β t))) rfl (by decide) (Nat.le_of_ble_eq_true rfl) rfl rfl rfl ?_
                                refine zk_aload_n dM_costs_143 rfl ?_
                                refine zk_iload dM_costs_144 rfl ?_
                                refine zk_put zfM_50 dM_costs_146 (h' := (zk_mk G sw σ α (zk_md (zk_up (zk_up (zk_up (zk_up τ 0 x0) 1 x1) 2 x2) 3 x3) β t))) rfl (by decide) (Nat.le_of_ble_eq_true rfl) rfl rfl rfl ?_
                                refine zk_aload_n dM_costs_149 rfl ?_
                                refine zk_iload dM_costs_150 rfl ?_
                                refine zk_put zfM_53 dM_costs_152 (h' := (zk_mk G sw σ α (zk_md (zk_up (zk_up (zk_up (zk_up (zk_up τ 0 x0) 1 x1) 2 x2) 3 x3) 4 x4) β t))) rfl (by decide) (Nat.le_of_ble_eq_true rfl) rfl rfl rfl ?_
                                refine zk_aload_n dM_costs_155 rfl ?_
                                refine zk_iconst dM_costs_156 ?_
                                refine zk_put zfM_68 dM_costs_157 (h' := (zk_mk G sw σ α (zk_md (zk_up (zk_up (zk_up (zk_up (zk_up (zk_up τ 0 x0) 1 x1) 2 x2) 3 x3) 4 x4) 9 0) β t))) rfl (by decide) (Nat.le_of_ble_eq_true rfl) rfl rfl rfl ?_
                                refine zk_iload dM_costs_160 rfl ?_
                                refine zk_iret dM_costs_162 rfl (Or.inr ⟨by omega, rfl, ?_⟩)
                                first | rw [if_pos h60] | rw [if_neg h60]
                                first | rw [if_pos h73] | rw [if_neg h73]
                                first | rw [if_pos h87] | rw [if_neg h87]
                                first | rw [if_pos h102] | rw [if_neg h102]
                                first | rw [if_pos h117] | rw [if_neg h117]
                              · skip
                                refine zk_iconst dM_costs_120 ?_
                                refine zk_goto (tgt := 125) dM_costs_121 (by decide) ?_
                                refine zk_iadd dM_costs_125 ?_
                                refine zk_istore (ls' := [some (.inr (some 22)), some (.inl x0), some (.inl x1), some (.inl x2), some (.inl x3), some (.inl x4), some (.inl ((((1 + 0) + 0) + 0) + 0))]) dM_costs_126 (by decide) rfl ?_
                                refine zk_aload_n dM_costs_128 rfl ?_
                                refine zk_iload_n dM_costs_129 rfl ?_
                                refine zk_put zfM_40 dM_costs_130 (h' := (zk_mk G sw σ α (zk_md (zk_up τ 0 x0) β t))) rfl (by decide) (Nat.le_of_ble_eq_true rfl) rfl rfl rfl ?_
                                refine zk_aload_n dM_costs_133 rfl ?_
                                refine zk_iload_n dM_costs_134 rfl ?_
                                refine zk_put zfM_44 dM_costs_135 (h' := (zk_mk G sw σ α (zk_md (zk_up (zk_up τ 0 x0) 1 x1) β t))) rfl (by decide) (Nat.le_of_ble_eq_true rfl) rfl rfl rfl ?_
                                refine zk_aload_n dM_costs_138 rfl ?_
                                refine zk_iload_n dM_costs_139 rfl ?_
                                refine zk_put zfM_47 dM_costs_140 (h' := (zk_mk G sw σ α (zk_md (zk_up (zk_up (zk_up τ 0 x0) 1 x1) 2 x2) β t))) rfl (by decide) (Nat.le_of_ble_eq_true rfl) rfl rfl rfl ?_
                                refine zk_aload_n dM_costs_143 rfl ?_
                                refine zk_iload dM_costs_144 rfl ?_
                                refine zk_put zfM_50 dM_costs_146 (h' := (zk_mk G sw σ α (zk_md (zk_up (zk_up (zk_up (zk_up τ 0 x0) 1 x1) 2 x2) 3 x3) β t))) rfl (by decide) (Nat.le_of_ble_eq_true rfl) rfl rfl rfl ?_
                                refine zk_aload_n dM_costs_149 rfl ?_
                                refine zk_iload dM_costs_150 rfl ?_
                                refine zk_put zfM_53 dM_costs_152 (h' := (zk_mk G sw σ α (zk_md (zk_up (zk_up (zk_up (zk_up (zk_up τ 0 x0) 1 x1) 2 x2) 3 x3) 4 x4) β t))) rfl (by decide) (Nat.le_of_ble_eq_true rfl) rfl rfl rfl ?_
                                refine zk_aload_n dM_costs_155 rfl ?_
                                refine zk_iconst dM_costs_156 ?_
                                refine zk_put zfM_68 dM_costs_157 (h' := (zk_mk G sw σ α (zk_md (zk_up (zk_up (zk_up (zk_up (zk_up (zk_up τ 0 x0) 1 x1) 2 x2) 3 x3) 4 x4) 9 0) β t))) rfl (by decide) (Nat.le_of_ble_eq_true rfl) rfl rfl rfl ?_
                                refine zk_iload dM_costs_160 rfl ?_
                                refine zk_iret dM_costs_162 rfl (Or.inr ⟨by omega, rfl, ?_⟩)
                                first | rw [if_pos h60] | rw [if_neg h60]
                                first | rw [if_pos h73] | rw [if_neg h73]
                                first | rw [if_pos h87] | rw [if_neg h87]
                                first | rw [if_pos h102] | rw [if_neg h102]
                                first | rw [if_pos h117] | rw [if_neg h117]
                      · skip
                        refine zk_iconst dM_costs_63 ?_
                        refine zk_goto (tgt := 68) dM_costs_64 (by decide) ?_
                        refine zk_iload_n dM_costs_68 rfl ?_
                        refine zk_aload_n dM_costs_69 rfl ?_
                        refine zk_get zfM_44 dM_costs_70 (v := .inl (τ 1)) rfl (by decide) rfl ?_
                        refine zk_icmp_ne (tgt := 80) dM_costs_73 (by decide) hx1 ⟨by omega, by omega⟩ (fun h73 => ?_) (fun h73 => ?_)
                        · skip
                          refine zk_iconst dM_costs_80 ?_
                          refine zk_iadd dM_costs_81 ?_
                          refine zk_iload_n dM_costs_82 rfl ?_
                          refine zk_aload_n dM_costs_83 rfl ?_
                          refine zk_get zfM_47 dM_costs_84 (v := .inl (τ 2)) rfl (by decide) rfl ?_
                          refine zk_icmp_ne (tgt := 94) dM_costs_87 (by decide) hx2 ⟨by omega, by omega⟩ (fun h87 => ?_) (fun h87 => ?_)
                          · skip
                            refine zk_iconst dM_costs_94 ?_
                            refine zk_iadd dM_costs_95 ?_
                            refine zk_iload dM_costs_96 rfl ?_
                            refine zk_aload_n dM_costs_98 rfl ?_
                            refine zk_get zfM_50 dM_costs_99 (v := .inl (τ 3)) rfl (by decide) rfl ?_
                            refine zk_icmp_ne (tgt := 109) dM_costs_102 (by decide) hx3 ⟨by omega, by omega⟩ (fun h102 => ?_) (fun h102 => ?_)
                            · skip
                              refine zk_iconst dM_costs_109 ?_
                              refine zk_iadd dM_costs_110 ?_
                              refine zk_iload dM_costs_111 rfl ?_
                              refine zk_aload_n dM_costs_113 rfl ?_
                              refine zk_get zfM_53 dM_costs_114 (v := .inl (τ 4)) rfl (by decide) rfl ?_
                              refine zk_icmp_ne (tgt := 124) dM_costs_117 (by decide) hx4 ⟨by omega, by omega⟩ (fun h117 => ?_) (fun h117 => ?_)
                              · skip
                                refine zk_iconst dM_costs_124 ?_
                                refine zk_iadd dM_costs_125 ?_
                                refine zk_istore (ls' := [some (.inr (some 22)), some (.inl x0), some (.inl x1), some (.inl x2), some (.inl x3), some (.inl x4), some (.inl ((((0 + 1) + 1) + 1) + 1))]) dM_costs_126 (by decide) rfl ?_
                                refine zk_aload_n dM_costs_128 rfl ?_
                                refine zk_iload_n dM_costs_129 rfl ?_
                                refine zk_put zfM_40 dM_costs_130 (h' := (zk_mk G sw σ α (zk_md (zk_up τ 0 x0) β t))) rfl (by decide) (Nat.le_of_ble_eq_true rfl) rfl rfl rfl ?_
                                refine zk_aload_n dM_costs_133 rfl ?_
                                refine zk_iload_n dM_costs_134 rfl ?_
                                refine zk_put zfM_44 dM_costs_135 (h' := (zk_mk G sw σ α (zk_md (zk_up (zk_up τ 0 x0) 1 x1) β t))) rfl (by decide) (Nat.le_of_ble_eq_true rfl) rfl rfl rfl ?_
                                refine zk_aload_n dM_costs_138 rfl ?_
                                refine zk_iload_n dM_costs_139 rfl ?_
                                refine zk_put zfM_47 dM_costs_140 (h' := (zk_mk G sw σ α (zk_md (zk_up (zk_up (zk_up τ 0 x0) 1 x1) 2 x2) β t))) rfl (by decide) (Nat.le_of_ble_eq_true rfl) rfl rfl rfl ?_
                                refine zk_aload_n dM_costs_143 rfl ?_
                                refine zk_iload dM_costs_144 rfl ?_
                                refine zk_put zfM_50 dM_costs_146 (h' := (zk_mk G sw σ α (zk_md (zk_up (zk_up (zk_up (zk_up τ 0 x0) 1 x1) 2 x2) 3 x3) β t))) rfl (by decide) (Nat.le_of_ble_eq_true rfl) rfl rfl rfl ?_
                                refine zk_aload_n dM_costs_149 rfl ?_
                                refine zk_iload dM_costs_150 rfl ?_
                                refine zk_put zfM_53 dM_costs_152 (h' := (zk_mk G sw σ α (zk_md (zk_up (zk_up (zk_up (zk_up (zk_up τ 0 x0) 1 x1) 2 x2) 3 x3) 4 x4) β t))) rfl (by decide) (Nat.le_of_ble_eq_true rfl) rfl rfl rfl ?_
                                refine zk_aload_n dM_costs_155 rfl ?_
                                refine zk_iconst dM_costs_156 ?_
                                refine zk_put zfM_68 dM_costs_157 (h' := (zk_mk G sw σ α (zk_md (zk_up (zk_up (zk_up (zk_up (zk_up (zk_up τ 0 x0) 1 x1) 2 x2) 3 x3) 4 x4) 9 0) β t))) rfl (by decide) (Nat.le_of_ble_eq_true rfl) rfl rfl rfl ?_
                                refine zk_iload dM_costs_160 rfl ?_
                                refine zk_iret dM_costs_162 rfl (Or.inr ⟨by omega, rfl, ?_⟩)
                                first | rw [if_pos h60] | rw [if_neg h60]
                                first | rw [if_pos h73] | rw [if_neg h73]
                                first | rw [if_pos h87] | rw [if_neg h87]
                                first | rw [if_pos h102] | rw [if_neg h102]
                                first | rw [if_pos h117] | rw [if_neg h117]
                              · skip
                                refine zk_iconst dM_costs_120 ?_
                                refine zk_goto (tgt := 125) dM_costs_121 (by decide) ?_
                                refine zk_iadd dM_costs_125 ?_
                                refine zk_istore (ls' := [some (.inr (some 22)), some (.inl x0), some (.inl x1), some (.inl x2), some (.inl x3), some (.inl x4), some (.inl ((((0 + 1) + 1) + 1) + 0))]) dM_costs_126 (by decide) rfl ?_
                                refine zk_aload_n dM_costs_128 rfl ?_
                                refine zk_iload_n dM_costs_129 rfl ?_
                                refine zk_put zfM_40 dM_costs_130 (h' := (zk_mk G sw σ α (zk_md (zk_up τ 0 x0) β t))) rfl (by decide) (Nat.le_of_ble_eq_true rfl) rfl rfl rfl ?_
                                refine zk_aload_n dM_costs_133 rfl ?_
                                refine zk_iload_n dM_costs_134 rfl ?_
                                refine zk_put zfM_44 dM_costs_135 (h' := (zk_mk G sw σ α (zk_md (zk_up (zk_up τ 0 x0) 1 x1) β t))) rfl (by decide) (Nat.le_of_ble_eq_true rfl) rfl rfl rfl ?_
                                refine zk_aload_n dM_costs_138 rfl ?_
                                refine zk_iload_n dM_costs_139 rfl ?_
                                refine zk_put zfM_47 dM_costs_140 (h' := (zk_mk G sw σ α (zk_md (zk_up (zk_up (zk_up τ 0 x0) 1 x1) 2 x2) β t))) rfl (by decide) (Nat.le_of_ble_eq_true rfl) rfl rfl rfl ?_
                                refine zk_aload_n dM_costs_143 rfl ?_
                                refine zk_iload dM_costs_144 rfl ?_
                                refine zk_put zfM_50 dM_costs_146 (h' := (zk_mk G sw σ α (zk_md (zk_up (zk_up (zk_up (zk_up τ 0 x0) 1 x1) 2 x2) 3 x3) β t))) rfl (by decide) (Nat.le_of_ble_eq_true rfl) rfl rfl rfl ?_
                                refine zk_aload_n dM_costs_149 rfl ?_
                                refine zk_iload dM_costs_150 rfl ?_
                                refine zk_put zfM_53 dM_costs_152 (h' := (zk_mk G sw σ α (zk_md (zk_up (zk_up (zk_up (zk_up (zk_up τ 0 x0) 1 x1) 2 x2) 3 x3) 4 x4) β t))) rfl (by decide) (Nat.le_of_ble_eq_true rfl) rfl rfl rfl ?_
                                refine zk_aload_n dM_costs_155 rfl ?_
                                refine zk_iconst dM_costs_156 ?_
                                refine zk_put zfM_68 dM_costs_157 (h' := (zk_mk G sw σ α (zk_md (zk_up (zk_up (zk_up (zk_up (zk_up (zk_up τ 0 x0) 1 x1) 2 x2) 3 x3) 4 x4) 9 0) β t))) rfl (by decide) (Nat.le_of_ble_eq_true rfl) rfl rfl rfl ?_
                                refine zk_iload dM_costs_160 rfl ?_
                                refine zk_iret dM_costs_162 rfl (Or.inr ⟨by omega, rfl, ?_⟩)
                                first | rw [if_pos h60] | rw [if_neg h60]
                                first | rw [if_pos h73] | rw [if_neg h73]
                                first | rw [if_pos h87] | rw [if_neg h87]
                                first | rw [if_pos h102] | rw [if_neg h102]
                                first | rw [if_pos h117] | rw [if_neg h117]
                            · skip
                              refine zk_iconst dM_costs_105 ?_
                              refine zk_goto (tgt := 110) dM_costs_106 (by decide) ?_
                              refine zk_iadd dM_costs_110 ?_
                              refine zk_iload dM_costs_111 rfl ?_
                              refine zk_aload_n dM_costs_113 rfl ?_
                              refine zk_get zfM_53 dM_costs_114 (v := .inl (τ 4)) rfl (by decide) rfl ?_
                              refine zk_icmp_ne (tgt := 124) dM_costs_117 (by decide) hx4 ⟨by omega, by omega⟩ (fun h117 => ?_) (fun h117 => ?_)
                              · skip
                                refine zk_iconst dM_costs_124 ?_
                                refine zk_iadd dM_costs_125 ?_
                                refine zk_istore (ls' := [some (.inr (some 22)), some (.inl x0), some (.inl x1), some (.inl x2), some (.inl x3), some (.inl x4), some (.inl ((((0 + 1) + 1) + 0) + 1))]) dM_costs_126 (by decide) rfl ?_
                                refine zk_aload_n dM_costs_128 rfl ?_
                                refine zk_iload_n dM_costs_129 rfl ?_
                                refine zk_put zfM_40 dM_costs_130 (h' := (zk_mk G sw σ α (zk_md (zk_up τ 0 x0) β t))) rfl (by decide) (Nat.le_of_ble_eq_true rfl) rfl rfl rfl ?_
                                refine zk_aload_n dM_costs_133 rfl ?_
                                refine zk_iload_n dM_costs_134 rfl ?_
                                refine zk_put zfM_44 dM_costs_135 (h' := (zk_mk G sw σ α (zk_md (zk_up (zk_up τ 0 x0) 1 x1) β t))) rfl (by decide) (Nat.le_of_ble_eq_true rfl) rfl rfl rfl ?_
                                refine zk_aload_n dM_costs_138 rfl ?_
                                refine zk_iload_n dM_costs_139 rfl ?_
                                refine zk_put zfM_47 dM_costs_140 (h' := (zk_mk G sw σ α (zk_md (zk_up (zk_up (zk_up τ 0 x0) 1 x1) 2 x2) β t))) rfl (by decide) (Nat.le_of_ble_eq_true rfl) rfl rfl rfl ?_
                                refine zk_aload_n dM_costs_143 rfl ?_
                                refine zk_iload dM_costs_144 rfl ?_
                                refine zk_put zfM_50 dM_costs_146 (h' := (zk_mk G sw σ α (zk_md (zk_up (zk_up (zk_up (zk_up τ 0 x0) 1 x1) 2 x2) 3 x3) β t))) rfl (by decide) (Nat.le_of_ble_eq_true rfl) rfl rfl rfl ?_
                                refine zk_aload_n dM_costs_149 rfl ?_
                                refine zk_iload dM_costs_150 rfl ?_
                                refine zk_put zfM_53 dM_costs_152 (h' := (zk_mk G sw σ α (zk_md (zk_up (zk_up (zk_up (zk_up (zk_up τ 0 x0) 1 x1) 2 x2) 3 x3) 4 x4) β t))) rfl (by decide) (Nat.le_of_ble_eq_true rfl) rfl rfl rfl ?_
                                refine zk_aload_n dM_costs_155 rfl ?_
                                refine zk_iconst dM_costs_156 ?_
                                refine zk_put zfM_68 dM_costs_157 (h' := (zk_mk G sw σ α (zk_md (zk_up (zk_up (zk_up (zk_up (zk_up (zk_up τ 0 x0) 1 x1) 2 x2) 3 x3) 4 x4) 9 0) β t))) rfl (by decide) (Nat.le_of_ble_eq_true rfl) rfl rfl rfl ?_
                                refine zk_iload dM_costs_160 rfl ?_
                                refine zk_iret dM_costs_162 rfl (Or.inr ⟨by omega, rfl, ?_⟩)
                                first | rw [if_pos h60] | rw [if_neg h60]
                                first | rw [if_pos h73] | rw [if_neg h73]
                                first | rw [if_pos h87] | rw [if_neg h87]
                                first | rw [if_pos h102] | rw [if_neg h102]
                                first | rw [if_pos h117] | rw [if_neg h117]
                              · skip
                                refine zk_iconst dM_costs_120 ?_
                                refine zk_goto (tgt := 125) dM_costs_121 (by decide) ?_
                                refine zk_iadd dM_costs_125 ?_
                                refine zk_istore (ls' := [some (.inr (some 22)), some (.inl x0), some (.inl x1), some (.inl x2), some (.inl x3), some (.inl x4), some (.inl ((((0 + 1) + 1) + 0) + 0))]) dM_costs_126 (by decide) rfl ?_
                                refine zk_aload_n dM_costs_128 rfl ?_
                                refine zk_iload_n dM_costs_129 rfl ?_
                                refine zk_put zfM_40 dM_costs_130 (h' := (zk_mk G sw σ α (zk_md (zk_up τ 0 x0) β t))) rfl (by decide) (Nat.le_of_ble_eq_true rfl) rfl rfl rfl ?_
                                refine zk_aload_n dM_costs_133 rfl ?_
                                refine zk_iload_n dM_costs_134 rfl ?_
                                refine zk_put zfM_44 dM_costs_135 (h' := (zk_mk G sw σ α (zk_md (zk_up (zk_up τ 0 x0) 1 x1) β t))) rfl (by decide) (Nat.le_of_ble_eq_true rfl) rfl rfl rfl ?_
                                refine zk_aload_n dM_costs_138 rfl ?_
                                refine zk_iload_n dM_costs_139 rfl ?_
                                refine zk_put zfM_47 dM_costs_140 (h' := (zk_mk G sw σ α (zk_md (zk_up (zk_up (zk_up τ 0 x0) 1 x1) 2 x2) β t))) rfl (by decide) (Nat.le_of_ble_eq_true rfl) rfl rfl rfl ?_
                                refine zk_aload_n dM_costs_143 rfl ?_
                                refine zk_iload dM_costs_144 rfl ?_
                                refine zk_put zfM_50 dM_costs_146 (h' := (zk_mk G sw σ α (zk_md (zk_up (zk_up (zk_up (zk_up τ 0 x0) 1 x1) 2 x2) 3 x3) β t))) rfl (by decide) (Nat.le_of_ble_eq_true rfl) rfl rfl rfl ?_
                                refine zk_aload_n dM_costs_149 rfl ?_
                                refine zk_iload dM_costs_150 rfl ?_
                                refine zk_put zfM_53 dM_costs_152 (h' := (zk_mk G sw σ α (zk_md (zk_up (zk_up (zk_up (zk_up (zk_up τ 0 x0) 1 x1) 2 x2) 3 x3) 4 x4) β t))) rfl (by decide) (Nat.le_of_ble_eq_true rfl) rfl rfl rfl ?_
                                refine zk_aload_n dM_costs_155 rfl ?_
                                refine zk_iconst dM_costs_156 ?_
                                refine zk_put zfM_68 dM_costs_157 (h' := (zk_mk G sw σ α (zk_md (zk_up (zk_up (zk_up (zk_up (zk_up (zk_up τ 0 x0) 1 x1) 2 x2) 3 x3) 4 x4) 9 0) β t))) rfl (by decide) (Nat.le_of_ble_eq_true rfl) rfl rfl rfl ?_
                                refine zk_iload dM_costs_160 rfl ?_
                                refine zk_iret dM_costs_162 rfl (Or.inr ⟨by omega, rfl, ?_⟩)
                                first | rw [if_pos h60] | rw [if_neg h60]
                                first | rw [if_pos h73] | rw [if_neg h73]
                                first | rw [if_pos h87] | rw [if_neg h87]
                                first | rw [if_pos h102] | rw [if_neg h102]
                                first | rw [if_pos h117] | rw [if_neg h117]
                          · skip
                            refine zk_iconst dM_costs_90 ?_
                            refine zk_goto (tgt := 95) dM_costs_91 (by decide) ?_
                            refine zk_iadd dM_costs_95 ?_
                            refine zk_iload dM_costs_96 rfl ?_
                            refine zk_aload_n dM_costs_98 rfl ?_
                            refine zk_get zfM_50 dM_costs_99 (v := .inl (τ 3)) rfl (by decide) rfl ?_
                            refine zk_icmp_ne (tgt := 109) dM_costs_102 (by decide) hx3 ⟨by omega, by omega⟩ (fun h102 => ?_) (fun h102 => ?_)
                            · skip
                              refine zk_iconst dM_costs_109 ?_
                              refine zk_iadd dM_costs_110 ?_
                              refine zk_iload dM_costs_111 rfl ?_
                              refine zk_aload_n dM_costs_113 rfl ?_
                              refine zk_get zfM_53 dM_costs_114 (v := .inl (τ 4)) rfl (by decide) rfl ?_
                              refine zk_icmp_ne (tgt := 124) dM_costs_117 (by decide) hx4 ⟨by omega, by omega⟩ (fun h117 => ?_) (fun h117 => ?_)
                              · skip
                                refine zk_iconst dM_costs_124 ?_
                                refine zk_iadd dM_costs_125 ?_
                                refine zk_istore (ls' := [some (.inr (some 22)), some (.inl x0), some (.inl x1), some (.inl x2), some (.inl x3), some (.inl x4), some (.inl ((((0 + 1) + 0) + 1) + 1))]) dM_costs_126 (by decide) rfl ?_
                                refine zk_aload_n dM_costs_128 rfl ?_
                                refine zk_iload_n dM_costs_129 rfl ?_
                                refine zk_put zfM_40 dM_costs_130 (h' := (zk_mk G sw σ α (zk_md (zk_up τ 0 x0) β t))) rfl (by decide) (Nat.le_of_ble_eq_true rfl) rfl rfl rfl ?_
                                refine zk_aload_n dM_costs_133 rfl ?_
                                refine zk_iload_n dM_costs_134 rfl ?_
                                refine zk_put zfM_44 dM_costs_135 (h' := (zk_mk G sw σ α (zk_md (zk_up (zk_up τ 0 x0) 1 x1) β t))) rfl (by decide) (Nat.le_of_ble_eq_true rfl) rfl rfl rfl ?_
                                refine zk_aload_n dM_costs_138 rfl ?_
                                refine zk_iload_n dM_costs_139 rfl ?_
                                refine zk_put zfM_47 dM_costs_140 (h' := (zk_mk G sw σ α (zk_md (zk_up (zk_up (zk_up τ 0 x0) 1 x1) 2 x2) β t))) rfl (by decide) (Nat.le_of_ble_eq_true rfl) rfl rfl rfl ?_
                                refine zk_aload_n dM_costs_143 rfl ?_
                                refine zk_iload dM_costs_144 rfl ?_
                                refine zk_put zfM_50 dM_costs_146 (h' := (zk_mk G sw σ α (zk_md (zk_up (zk_up (zk_up (zk_up τ 0 x0) 1 x1) 2 x2) 3 x3) β t))) rfl (by decide) (Nat.le_of_ble_eq_true rfl) rfl rfl rfl ?_
                                refine zk_aload_n dM_costs_149 rfl ?_
                                refine zk_iload dM_costs_150 rfl ?_
                                refine zk_put zfM_53 dM_costs_152 (h' := (zk_mk G sw σ α (zk_md (zk_up (zk_up (zk_up (zk_up (zk_up τ 0 x0) 1 x1) 2 x2) 3 x3) 4 x4) β t))) rfl (by decide) (Nat.le_of_ble_eq_true rfl) rfl rfl rfl ?_
                                refine zk_aload_n dM_costs_155 rfl ?_
                                refine zk_iconst dM_costs_156 ?_
                                refine zk_put zfM_68 dM_costs_157 (h' := (zk_mk G sw σ α (zk_md (zk_up (zk_up (zk_up (zk_up (zk_up (zk_up τ 0 x0) 1 x1) 2 x2) 3 x3) 4 x4) 9 0) β t))) rfl (by decide) (Nat.le_of_ble_eq_true rfl) rfl rfl rfl ?_
                                refine zk_iload dM_costs_160 rfl ?_
                                refine zk_iret dM_costs_162 rfl (Or.inr ⟨by omega, rfl, ?_⟩)
                                first | rw [if_pos h60] | rw [if_neg h60]
                                first | rw [if_pos h73] | rw [if_neg h73]
                                first | rw [if_pos h87] | rw [if_neg h87]
                                first | rw [if_pos h102] | rw [if_neg h102]
                                first | rw [if_pos h117] | rw [if_neg h117]
                              · skip
                                refine zk_iconst dM_costs_120 ?_
                                refine zk_goto (tgt := 125) dM_costs_121 (by decide) ?_
                                refine zk_iadd dM_costs_125 ?_
                                refine zk_istore (ls' := [some (.inr (some 22)), some (.inl x0), some (.inl x1), some (.inl x2), some (.inl x3), some (.inl x4), some (.inl ((((0 + 1) + 0) + 1) + 0))]) dM_costs_126 (by decide) rfl ?_
                                refine zk_aload_n dM_costs_128 rfl ?_
                                refine zk_iload_n dM_costs_129 rfl ?_
                                refine zk_put zfM_40 dM_costs_130 (h' := (zk_mk G sw σ α (zk_md (zk_up τ 0 x0) β t))) rfl (by decide) (Nat.le_of_ble_eq_true rfl) rfl rfl rfl ?_
                                refine zk_aload_n dM_costs_133 rfl ?_
                                refine zk_iload_n dM_costs_134 rfl ?_
                                refine zk_put zfM_44 dM_costs_135 (h' := (zk_mk G sw σ α (zk_md (zk_up (zk_up τ 0 x0) 1 x1) β t))) rfl (by decide) (Nat.le_of_ble_eq_true rfl) rfl rfl rfl ?_
                                refine zk_aload_n dM_costs_138 rfl ?_
                                refine zk_iload_n dM_costs_139 rfl ?_
                                refine zk_put zfM_47 dM_costs_140 (h' := (zk_mk G sw σ α (zk_md (zk_up (zk_up (zk_up τ 0 x0) 1 x1) 2 x2) β t))) rfl (by decide) (Nat.le_of_ble_eq_true rfl) rfl rfl rfl ?_
                                refine zk_aload_n dM_costs_143 rfl ?_
                                refine zk_iload dM_costs_144 rfl ?_
                                refine zk_put zfM_50 dM_costs_146 (h' := (zk_mk G sw σ α (zk_md (zk_up (zk_up (zk_up (zk_up τ 0 x0) 1 x1) 2 x2) 3 x3) β t))) rfl (by decide) (Nat.le_of_ble_eq_true rfl) rfl rfl rfl ?_
                                refine zk_aload_n dM_costs_149 rfl ?_
                                refine zk_iload dM_costs_150 rfl ?_
                                refine zk_put zfM_53 dM_costs_152 (h' := (zk_mk G sw σ α (zk_md (zk_up (zk_up (zk_up (zk_up (zk_up τ 0 x0) 1 x1) 2 x2) 3 x3) 4 x4) β t))) rfl (by decide) (Nat.le_of_ble_eq_true rfl) rfl rfl rfl ?_
                                refine zk_aload_n dM_costs_155 rfl ?_
                                refine zk_iconst dM_costs_156 ?_
                                refine zk_put zfM_68 dM_costs_157 (h' := (zk_mk G sw σ α (zk_md (zk_up (zk_up (zk_up (zk_up (zk_up (zk_up τ 0 x0) 1 x1) 2 x2) 3 x3) 4 x4) 9 0) β t))) rfl (by decide) (Nat.le_of_ble_eq_true rfl) rfl rfl rfl ?_
                                refine zk_iload dM_costs_160 rfl ?_
                                refine zk_iret dM_costs_162 rfl (Or.inr ⟨by omega, rfl, ?_⟩)
                                first | rw [if_pos h60] | rw [if_neg h60]
                                first | rw [if_pos h73] | rw [if_neg h73]
                                first | rw [if_pos h87] | rw [if_neg h87]
                                first | rw [if_pos h102] | rw [if_neg h102]
                                first | rw [if_pos h117] | rw [if_neg h117]
                            · skip
                              refine zk_iconst dM_costs_105 ?_
                              refine zk_goto (tgt := 110) dM_costs_106 (by decide) ?_
                              refine zk_iadd dM_costs_110 ?_
                              refine zk_iload dM_costs_111 rfl ?_
                              refine zk_aload_n dM_costs_113 rfl ?_
                              refine zk_get zfM_53 dM_costs_114 (v := .inl (τ 4)) rfl (by decide) rfl ?_
                              refine zk_icmp_ne (tgt := 124) dM_costs_117 (by decide) hx4 ⟨by omega, by omega⟩ (fun h117 => ?_) (fun h117 => ?_)
                              · skip
                                refine zk_iconst dM_costs_124 ?_
                                refine zk_iadd dM_costs_125 ?_
                                refine zk_istore (ls' := [some (.inr (some 22)), some (.inl x0), some (.inl x1), some (.inl x2), some (.inl x3), some (.inl x4), some (.inl ((((0 + 1) + 0) + 0) + 1))]) dM_costs_126 (by decide) rfl ?_
                                refine zk_aload_n dM_costs_128 rfl ?_
                                refine zk_iload_n dM_costs_129 rfl ?_
                                refine zk_put zfM_40 dM_costs_130 (h' := (zk_mk G sw σ α (zk_md (zk_up τ 0 x0) β t))) rfl (by decide) (Nat.le_of_ble_eq_true rfl) rfl rfl rfl ?_
                                refine zk_aload_n dM_costs_133 rfl ?_
                                refine zk_iload_n dM_costs_134 rfl ?_
                                refine zk_put zfM_44 dM_costs_135 (h' := (zk_mk G sw σ α (zk_md (zk_up (zk_up τ 0 x0) 1 x1) β t))) rfl (by decide) (Nat.le_of_ble_eq_true rfl) rfl rfl rfl ?_
                                refine zk_aload_n dM_costs_138 rfl ?_
                                refine zk_iload_n dM_costs_139 rfl ?_
                                refine zk_put zfM_47 dM_costs_140 (h' := (zk_mk G sw σ α (zk_md (zk_up (zk_up (zk_up τ 0 x0) 1 x1) 2 x2) β t))) rfl (by decide) (Nat.le_of_ble_eq_true rfl) rfl rfl rfl ?_
                                refine zk_aload_n dM_costs_143 rfl ?_
                                refine zk_iload dM_costs_144 rfl ?_
                                refine zk_put zfM_50 dM_costs_146 (h' := (zk_mk G sw σ α (zk_md (zk_up (zk_up (zk_up (zk_up τ 0 x0) 1 x1) 2 x2) 3 x3) β t))) rfl (by decide) (Nat.le_of_ble_eq_true rfl) rfl rfl rfl ?_
                                refine zk_aload_n dM_costs_149 rfl ?_
                                refine zk_iload dM_costs_150 rfl ?_
                                refine zk_put zfM_53 dM_costs_152 (h' := (zk_mk G sw σ α (zk_md (zk_up (zk_up (zk_up (zk_up (zk_up τ 0 x0) 1 x1) 2 x2) 3 x3) 4 x4) β t))) rfl (by decide) (Nat.le_of_ble_eq_true rfl) rfl rfl rfl ?_
                                refine zk_aload_n dM_costs_155 rfl ?_
                                refine zk_iconst dM_costs_156 ?_
                                refine zk_put zfM_68 dM_costs_157 (h' := (zk_mk G sw σ α (zk_md (zk_up (zk_up (zk_up (zk_up (zk_up (zk_up τ 0 x0) 1 x1) 2 x2) 3 x3) 4 x4) 9 0) β t))) rfl (by decide) (Nat.le_of_ble_eq_true rfl) rfl rfl rfl ?_
                                refine zk_iload dM_costs_160 rfl ?_
                                refine zk_iret dM_costs_162 rfl (Or.inr ⟨by omega, rfl, ?_⟩)
                                first | rw [if_pos h60] | rw [if_neg h60]
                                first | rw [if_pos h73] | rw [if_neg h73]
                                first | rw [if_pos h87] | rw [if_neg h87]
                                first | rw [if_pos h102] | rw [if_neg h102]
                                first | rw [if_pos h117] | rw [if_neg h117]
                              · skip
                                refine zk_iconst dM_costs_120 ?_
                                refine zk_goto (tgt := 125) dM_costs_121 (by decide) ?_
                                refine zk_iadd dM_costs_125 ?_
                                refine zk_istore (ls' := [some (.inr (some 22)), some (.inl x0), some (.inl x1), some (.inl x2), some (.inl x3), some (.inl x4), some (.inl ((((0 + 1) + 0) + 0) + 0))]) dM_costs_126 (by decide) rfl ?_
                                refine zk_aload_n dM_costs_128 rfl ?_
                                refine zk_iload_n dM_costs_129 rfl ?_
                                refine zk_put zfM_40 dM_costs_130 (h' := (zk_mk G sw σ α (zk_md (zk_up τ 0 x0) β t))) rfl (by decide) (Nat.le_of_ble_eq_true rfl) rfl rfl rfl ?_
                                refine zk_aload_n dM_costs_133 rfl ?_
                                refine zk_iload_n dM_costs_134 rfl ?_
                                refine zk_put zfM_44 dM_costs_135 (h' := (zk_mk G sw σ α (zk_md (zk_up (zk_up τ 0 x0) 1 x1) β t))) rfl (by decide) (Nat.le_of_ble_eq_true rfl) rfl rfl rfl ?_
                                refine zk_aload_n dM_costs_138 rfl ?_
                                refine zk_iload_n dM_costs_139 rfl ?_
                                refine zk_put zfM_47 dM_costs_140 (h' := (zk_mk G sw σ α (zk_md (zk_up (zk_up (zk_up τ 0 x0) 1 x1) 2 x2) β t))) rfl (by decide) (Nat.le_of_ble_eq_true rfl) rfl rfl rfl ?_
                                refine zk_aload_n dM_costs_143 rfl ?_
                                refine zk_iload dM_costs_144 rfl ?_
                                refine zk_put zfM_50 dM_costs_146 (h' := (zk_mk G sw σ α (zk_md (zk_up (zk_up (zk_up (zk_up τ 0 x0) 1 x1) 2 x2) 3 x3) β t))) rfl (by decide) (Nat.le_of_ble_eq_true rfl) rfl rfl rfl ?_
                                refine zk_aload_n dM_costs_149 rfl ?_
                                refine zk_iload dM_costs_150 rfl ?_
                                refine zk_put zfM_53 dM_costs_152 (h' := (zk_mk G sw σ α (zk_md (zk_up (zk_up (zk_up (zk_up (zk_up τ 0 x0) 1 x1) 2 x2) 3 x3) 4 x4) β t))) rfl (by decide) (Nat.le_of_ble_eq_true rfl) rfl rfl rfl ?_
                                refine zk_aload_n dM_costs_155 rfl ?_
                                refine zk_iconst dM_costs_156 ?_
                                refine zk_put zfM_68 dM_costs_157 (h' := (zk_mk G sw σ α (zk_md (zk_up (zk_up (zk_up (zk_up (zk_up (zk_up τ 0 x0) 1 x1) 2 x2) 3 x3) 4 x4) 9 0) β t))) rfl (by decide) (Nat.le_of_ble_eq_true rfl) rfl rfl rfl ?_
                                refine zk_iload dM_costs_160 rfl ?_
                                refine zk_iret dM_costs_162 rfl (Or.inr ⟨by omega, rfl, ?_⟩)
                                first | rw [if_pos h60] | rw [if_neg h60]
                                first | rw [if_pos h73] | rw [if_neg h73]
                                first | rw [if_pos h87] | rw [if_neg h87]
                                first | rw [if_pos h102] | rw [if_neg h102]
                                first | rw [if_pos h117] | rw [if_neg h117]
                        · skip
                          refine zk_iconst dM_costs_76 ?_
                          refine zk_goto (tgt := 81) dM_costs_77 (by decide) ?_
                          refine zk_iadd dM_costs_81 ?_
                          refine zk_iload_n dM_costs_82 rfl ?_
                          refine zk_aload_n dM_costs_83 rfl ?_
                          refine zk_get zfM_47 dM_costs_84 (v := .inl (τ 2)) rfl (by decide) rfl ?_
                          refine zk_icmp_ne (tgt := 94) dM_costs_87 (by decide) hx2 ⟨by omega, by omega⟩ (fun h87 => ?_) (fun h87 => ?_)
                          · skip
                            refine zk_iconst dM_costs_94 ?_
                            refine zk_iadd dM_costs_95 ?_
                            refine zk_iload dM_costs_96 rfl ?_
                            refine zk_aload_n dM_costs_98 rfl ?_
                            refine zk_get zfM_50 dM_costs_99 (v := .inl (τ 3)) rfl (by decide) rfl ?_
                            refine zk_icmp_ne (tgt := 109) dM_costs_102 (by decide) hx3 ⟨by omega, by omega⟩ (fun h102 => ?_) (fun h102 => ?_)
                            · skip
                              refine zk_iconst dM_costs_109 ?_
                              refine zk_iadd dM_costs_110 ?_
                              refine zk_iload dM_costs_111 rfl ?_
                              refine zk_aload_n dM_costs_113 rfl ?_
                              refine zk_get zfM_53 dM_costs_114 (v := .inl (τ 4)) rfl (by decide) rfl ?_
                              refine zk_icmp_ne (tgt := 124) dM_costs_117 (by decide) hx4 ⟨by omega, by omega⟩ (fun h117 => ?_) (fun h117 => ?_)
                              · skip
                                refine zk_iconst dM_costs_124 ?_
                                refine zk_iadd dM_costs_125 ?_
                                refine zk_istore (ls' := [some (.inr (some 22)), some (.inl x0), some (.inl x1), some (.inl x2), some (.inl x3), some (.inl x4), some (.inl ((((0 + 0) + 1) + 1) + 1))]) dM_costs_126 (by decide) rfl ?_
                                refine zk_aload_n dM_costs_128 rfl ?_
                                refine zk_iload_n dM_costs_129 rfl ?_
                                refine zk_put zfM_40 dM_costs_130 (h' := (zk_mk G sw σ α (zk_md (zk_up τ 0 x0) β t))) rfl (by decide) (Nat.le_of_ble_eq_true rfl) rfl rfl rfl ?_
                                refine zk_aload_n dM_costs_133 rfl ?_
                                refine zk_iload_n dM_costs_134 rfl ?_
                                refine zk_put zfM_44 dM_costs_135 (h' := (zk_mk G sw σ α (zk_md (zk_up (zk_up τ 0 x0) 1 x1) β t))) rfl (by decide) (Nat.le_of_ble_eq_true rfl) rfl rfl rfl ?_
                                refine zk_aload_n dM_costs_138 rfl ?_
                                refine zk_iload_n dM_costs_139 rfl ?_
                                refine zk_put zfM_47 dM_costs_140 (h' := (zk_mk G sw σ α (zk_md (zk_up (zk_up (zk_up τ 0 x0) 1 x1) 2 x2) β t))) rfl (by decide) (Nat.le_of_ble_eq_true rfl) rfl rfl rfl ?_
                                refine zk_aload_n dM_costs_143 rfl ?_
                                refine zk_iload dM_costs_144 rfl ?_
                                refine zk_put zfM_50 dM_costs_146 (h' := (zk_mk G sw σ α (zk_md (zk_up (zk_up (zk_up (zk_up τ 0 x0) 1 x1) 2 x2) 3 x3) β t))) rfl (by decide) (Nat.le_of_ble_eq_true rfl) rfl rfl rfl ?_
                                refine zk_aload_n dM_costs_149 rfl ?_
                                refine zk_iload dM_costs_150 rfl ?_
                                refine zk_put zfM_53 dM_costs_152 (h' := (zk_mk G sw σ α (zk_md (zk_up (zk_up (zk_up (zk_up (zk_up τ 0 x0) 1 x1) 2 x2) 3 x3) 4 x4) β t))) rfl (by decide) (Nat.le_of_ble_eq_true rfl) rfl rfl rfl ?_
                                refine zk_aload_n dM_costs_155 rfl ?_
                                refine zk_iconst dM_costs_156 ?_
                                refine zk_put zfM_68 dM_costs_157 (h' := (zk_mk G sw σ α (zk_md (zk_up (zk_up (zk_up (zk_up (zk_up (zk_up τ 0 x0) 1 x1) 2 x2) 3 x3) 4 x4) 9 0) β t))) rfl (by decide) (Nat.le_of_ble_eq_true rfl) rfl rfl rfl ?_
                                refine zk_iload dM_costs_160 rfl ?_
                                refine zk_iret dM_costs_162 rfl (Or.inr ⟨by omega, rfl, ?_⟩)
                                first | rw [if_pos h60] | rw [if_neg h60]
                                first | rw [if_pos h73] | rw [if_neg h73]
                                first | rw [if_pos h87] | rw [if_neg h87]
                                first | rw [if_pos h102] | rw [if_neg h102]
                                first | rw [if_pos h117] | rw [if_neg h117]
                              · skip
                                refine zk_iconst dM_costs_120 ?_
                                refine zk_goto (tgt := 125) dM_costs_121 (by decide) ?_
                                refine zk_iadd dM_costs_125 ?_
                                refine zk_istore (ls' := [some (.inr (some 22)), some (.inl x0), some (.inl x1), some (.inl x2), some (.inl x3), some (.inl x4), some (.inl ((((0 + 0) + 1) + 1) + 0))]) dM_costs_126 (by decide) rfl ?_
                                refine zk_aload_n dM_costs_128 rfl ?_
                                refine zk_iload_n dM_costs_129 rfl ?_
                                refine zk_put zfM_40 dM_costs_130 (h' := (zk_mk G sw σ α (zk_md (zk_up τ 0 x0) β t))) rfl (by decide) (Nat.le_of_ble_eq_true rfl) rfl rfl rfl ?_
                                refine zk_aload_n dM_costs_133 rfl ?_
                                refine zk_iload_n dM_costs_134 rfl ?_
                                refine zk_put zfM_44 dM_costs_135 (h' := (zk_mk G sw σ α (zk_md (zk_up (zk_up τ 0 x0) 1 x1) β t))) rfl (by decide) (Nat.le_of_ble_eq_true rfl) rfl rfl rfl ?_
                                refine zk_aload_n dM_costs_138 rfl ?_
                                refine zk_iload_n dM_costs_139 rfl ?_
                                refine zk_put zfM_47 dM_costs_140 (h' := (zk_mk G sw σ α (zk_md (zk_up (zk_up (zk_up τ 0 x0) 1 x1) 2 x2) β t))) rfl (by decide) (Nat.le_of_ble_eq_true rfl) rfl rfl rfl ?_
                                refine zk_aload_n dM_costs_143 rfl ?_
                                refine zk_iload dM_costs_144 rfl ?_
                                refine zk_put zfM_50 dM_costs_146 (h' := (zk_mk G sw σ α (zk_md (zk_up (zk_up (zk_up (zk_up τ 0 x0) 1 x1) 2 x2) 3 x3) β t))) rfl (by decide) (Nat.le_of_ble_eq_true rfl) rfl rfl rfl ?_
                                refine zk_aload_n dM_costs_149 rfl ?_
                                refine zk_iload dM_costs_150 rfl ?_
                                refine zk_put zfM_53 dM_costs_152 (h' := (zk_mk G sw σ α (zk_md (zk_up (zk_up (zk_up (zk_up (zk_up τ 0 x0) 1 x1) 2 x2) 3 x3) 4 x4) β t))) rfl (by decide) (Nat.le_of_ble_eq_true rfl) rfl rfl rfl ?_
                                refine zk_aload_n dM_costs_155 rfl ?_
                                refine zk_iconst dM_costs_156 ?_
                                refine zk_put zfM_68 dM_costs_157 (h' := (zk_mk G sw σ α (zk_md (zk_up (zk_up (zk_up (zk_up (zk_up (zk_up τ 0 x0) 1 x1) 2 x2) 3 x3) 4 x4) 9 0) β t))) rfl (by decide) (Nat.le_of_ble_eq_true rfl) rfl rfl rfl ?_
                                refine zk_iload dM_costs_160 rfl ?_
                                refine zk_iret dM_costs_162 rfl (Or.inr ⟨by omega, rfl, ?_⟩)
                                first | rw [if_pos h60] | rw [if_neg h60]
                                first | rw [if_pos h73] | rw [if_neg h73]
                                first | rw [if_pos h87] | rw [if_neg h87]
                                first | rw [if_pos h102] | rw [if_neg h102]
                                first | rw [if_pos h117] | rw [if_neg h117]
                            · skip
                              refine zk_iconst dM_costs_105 ?_
                              refine zk_goto (tgt := 110) dM_costs_106 (by decide) ?_
                              refine zk_iadd dM_costs_110 ?_
                              refine zk_iload dM_costs_111 rfl ?_
                              refine zk_aload_n dM_costs_113 rfl ?_
                              refine zk_get zfM_53 dM_costs_114 (v := .inl (τ 4)) rfl (by decide) rfl ?_
                              refine zk_icmp_ne (tgt := 124) dM_costs_117 (by decide) hx4 ⟨by omega, by omega⟩ (fun h117 => ?_) (fun h117 => ?_)
                              · skip
                                refine zk_iconst dM_costs_124 ?_
                                refine zk_iadd dM_costs_125 ?_
                                refine zk_istore (ls' := [some (.inr (some 22)), some (.inl x0), some (.inl x1), some (.inl x2), some (.inl x3), some (.inl x4), some (.inl ((((0 + 0) + 1) + 0) + 1))]) dM_costs_126 (by decide) rfl ?_
                                refine zk_aload_n dM_costs_128 rfl ?_
                                refine zk_iload_n dM_costs_129 rfl ?_
                                refine zk_put zfM_40 dM_costs_130 (h' := (zk_mk G sw σ α (zk_md (zk_up τ 0 x0) β t))) rfl (by decide) (Nat.le_of_ble_eq_true rfl) rfl rfl rfl ?_
                                refine zk_aload_n dM_costs_133 rfl ?_
                                refine zk_iload_n dM_costs_134 rfl ?_
                                refine zk_put zfM_44 dM_costs_135 (h' := (zk_mk G sw σ α (zk_md (zk_up (zk_up τ 0 x0) 1 x1) β t))) rfl (by decide) (Nat.le_of_ble_eq_true rfl) rfl rfl rfl ?_
                                refine zk_aload_n dM_costs_138 rfl ?_
                                refine zk_iload_n dM_costs_139 rfl ?_
                                refine zk_put zfM_47 dM_costs_140 (h' := (zk_mk G sw σ α (zk_md (zk_up (zk_up (zk_up τ 0 x0) 1 x1) 2 x2) β t))) rfl (by decide) (Nat.le_of_ble_eq_true rfl) rfl rfl rfl ?_
                                refine zk_aload_n dM_costs_143 rfl ?_
                                refine zk_iload dM_costs_144 rfl ?_
                                refine zk_put zfM_50 dM_costs_146 (h' := (zk_mk G sw σ α (zk_md (zk_up (zk_up (zk_up (zk_up τ 0 x0) 1 x1) 2 x2) 3 x3) β t))) rfl (by decide) (Nat.le_of_ble_eq_true rfl) rfl rfl rfl ?_
                                refine zk_aload_n dM_costs_149 rfl ?_
                                refine zk_iload dM_costs_150 rfl ?_
                                refine zk_put zfM_53 dM_costs_152 (h' := (zk_mk G sw σ α (zk_md (zk_up (zk_up (zk_up (zk_up (zk_up τ 0 x0) 1 x1) 2 x2) 3 x3) 4 x4) β t))) rfl (by decide) (Nat.le_of_ble_eq_true rfl) rfl rfl rfl ?_
                                refine zk_aload_n dM_costs_155 rfl ?_
                                refine zk_iconst dM_costs_156 ?_
                                refine zk_put zfM_68 dM_costs_157 (h' := (zk_mk G sw σ α (zk_md (zk_up (zk_up (zk_up (zk_up (zk_up (zk_up τ 0 x0) 1 x1) 2 x2) 3 x3) 4 x4) 9 0) β t))) rfl (by decide) (Nat.le_of_ble_eq_true rfl) rfl rfl rfl ?_
                                refine zk_iload dM_costs_160 rfl ?_
                                refine zk_iret dM_costs_162 rfl (Or.inr ⟨by omega, rfl, ?_⟩)
                                first | rw [if_pos h60] | rw [if_neg h60]
                                first | rw [if_pos h73] | rw [if_neg h73]
                                first | rw [if_pos h87] | rw [if_neg h87]
                                first | rw [if_pos h102] | rw [if_neg h102]
                                first | rw [if_pos h117] | rw [if_neg h117]
                              · skip
                                refine zk_iconst dM_costs_120 ?_
                                refine zk_goto (tgt := 125) dM_costs_121 (by decide) ?_
                                refine zk_iadd dM_costs_125 ?_
                                refine zk_istore (ls' := [some (.inr (some 22)), some (.inl x0), some (.inl x1), some (.inl x2), some (.inl x3), some (.inl x4), some (.inl ((((0 + 0) + 1) + 0) + 0))]) dM_costs_126 (by decide) rfl ?_
                                refine zk_aload_n dM_costs_128 rfl ?_
                                refine zk_iload_n dM_costs_129 rfl ?_
                                refine zk_put zfM_40 dM_costs_130 (h' := (zk_mk G sw σ α (zk_md (zk_up τ 0 x0) β t))) rfl (by decide) (Nat.le_of_ble_eq_true rfl) rfl rfl rfl ?_
                                refine zk_aload_n dM_costs_133 rfl ?_
                                refine zk_iload_n dM_costs_134 rfl ?_
                                refine zk_put zfM_44 dM_costs_135 (h' := (zk_mk G sw σ α (zk_md (zk_up (zk_up τ 0 x0) 1 x1) β t))) rfl (by decide) (Nat.le_of_ble_eq_true rfl) rfl rfl rfl ?_
                                refine zk_aload_n dM_costs_138 rfl ?_
                                refine zk_iload_n dM_costs_139 rfl ?_
                                refine zk_put zfM_47 dM_costs_140 (h' := (zk_mk G sw σ α (zk_md (zk_up (zk_up (zk_up τ 0 x0) 1 x1) 2 x2) β t))) rfl (by decide) (Nat.le_of_ble_eq_true rfl) rfl rfl rfl ?_
                                refine zk_aload_n dM_costs_143 rfl ?_
                                refine zk_iload dM_costs_144 rfl ?_
                                refine zk_put zfM_50 dM_costs_146 (h' := (zk_mk G sw σ α (zk_md (zk_up (zk_up (zk_up (zk_up τ 0 x0) 1 x1) 2 x2) 3 x3) β t))) rfl (by decide) (Nat.le_of_ble_eq_true rfl) rfl rfl rfl ?_
                                refine zk_aload_n dM_costs_149 rfl ?_
                                refine zk_iload dM_costs_150 rfl ?_
                                refine zk_put zfM_53 dM_costs_152 (h' := (zk_mk G sw σ α (zk_md (zk_up (zk_up (zk_up (zk_up (zk_up τ 0 x0) 1 x1) 2 x2) 3 x3) 4 x4) β t))) rfl (by decide) (Nat.le_of_ble_eq_true rfl) rfl rfl rfl ?_
                                refine zk_aload_n dM_costs_155 rfl ?_
                                refine zk_iconst dM_costs_156 ?_
                                refine zk_put zfM_68 dM_costs_157 (h' := (zk_mk G sw σ α (zk_md (zk_up (zk_up (zk_up (zk_up (zk_up (zk_up τ 0 x0) 1 x1) 2 x2) 3 x3) 4 x4) 9 0) β t))) rfl (by decide) (Nat.le_of_ble_eq_true rfl) rfl rfl rfl ?_
                                refine zk_iload dM_costs_160 rfl ?_
                                refine zk_iret dM_costs_162 rfl (Or.inr ⟨by omega, rfl, ?_⟩)
                                first | rw [if_pos h60] | rw [if_neg h60]
                                first | rw [if_pos h73] | rw [if_neg h73]
                                first | rw [if_pos h87] | rw [if_neg h87]
                                first | rw [if_pos h102] | rw [if_neg h102]
                                first | rw [if_pos h117] | rw [if_neg h117]
                          · skip
                            refine zk_iconst dM_costs_90 ?_
                            refine zk_goto (tgt := 95) dM_costs_91 (by decide) ?_
                            refine zk_iadd dM_costs_95 ?_
                            refine zk_iload dM_costs_96 rfl ?_
                            refine zk_aload_n dM_costs_98 rfl ?_
                            refine zk_get zfM_50 dM_costs_99 (v := .inl (τ 3)) rfl (by decide) rfl ?_
                            refine zk_icmp_ne (tgt := 109) dM_costs_102 (by decide) hx3 ⟨by omega, by omega⟩ (fun h102 => ?_) (fun h102 => ?_)
                            · skip
                              refine zk_iconst dM_costs_109 ?_
                              refine zk_iadd dM_costs_110 ?_
                              refine zk_iload dM_costs_111 rfl ?_
                              refine zk_aload_n dM_costs_113 rfl ?_
                              refine zk_get zfM_53 dM_costs_114 (v := .inl (τ 4)) rfl (by decide) rfl ?_
                              refine zk_icmp_ne (tgt := 124) dM_costs_117 (by decide) hx4 ⟨by omega, by omega⟩ (fun h117 => ?_) (fun h117 => ?_)
                              · skip
                                refine zk_iconst dM_costs_124 ?_
                                refine zk_iadd dM_costs_125 ?_
                                refine zk_istore (ls' := [some (.inr (some 22)), some (.inl x0), some (.inl x1), some (.inl x2), some (.inl x3), some (.inl x4), some (.inl ((((0 + 0) + 0) + 1) + 1))]) dM_costs_126 (by decide) rfl ?_
                                refine zk_aload_n dM_costs_128 rfl ?_
                                refine zk_iload_n dM_costs_129 rfl ?_
                                refine zk_put zfM_40 dM_costs_130 (h' := (zk_mk G sw σ α (zk_md (zk_up τ 0 x0) β t))) rfl (by decide) (Nat.le_of_ble_eq_true rfl) rfl rfl rfl ?_
                                refine zk_aload_n dM_costs_133 rfl ?_
                                refine zk_iload_n dM_costs_134 rfl ?_
                                refine zk_put zfM_44 dM_costs_135 (h' := (zk_mk G sw σ α (zk_md (zk_up (zk_up τ 0 x0) 1 x1) β t))) rfl (by decide) (Nat.le_of_ble_eq_true rfl) rfl rfl rfl ?_
                                refine zk_aload_n dM_costs_138 rfl ?_
                                refine zk_iload_n dM_costs_139 rfl ?_
                                refine zk_put zfM_47 dM_costs_140 (h' := (zk_mk G sw σ α (zk_md (zk_up (zk_up (zk_up τ 0 x0) 1 x1) 2 x2) β t))) rfl (by decide) (Nat.le_of_ble_eq_true rfl) rfl rfl rfl ?_
                                refine zk_aload_n dM_costs_143 rfl ?_
                                refine zk_iload dM_costs_144 rfl ?_
                                refine zk_put zfM_50 dM_costs_146 (h' := (zk_mk G sw σ α (zk_md (zk_up (zk_up (zk_up (zk_up τ 0 x0) 1 x1) 2 x2) 3 x3) β t))) rfl (by decide) (Nat.le_of_ble_eq_true rfl) rfl rfl rfl ?_
                                refine zk_aload_n dM_costs_149 rfl ?_
                                refine zk_iload dM_costs_150 rfl ?_
                                refine zk_put zfM_53 dM_costs_152 (h' := (zk_mk G sw σ α (zk_md (zk_up (zk_up (zk_up (zk_up (zk_up τ 0 x0) 1 x1) 2 x2) 3 x3) 4 x4) β t))) rfl (by decide) (Nat.le_of_ble_eq_true rfl) rfl rfl rfl ?_
                                refine zk_aload_n dM_costs_155 rfl ?_
                                refine zk_iconst dM_costs_156 ?_
                                refine zk_put zfM_68 dM_costs_157 (h' := (zk_mk G sw σ α (zk_md (zk_up (zk_up (zk_up (zk_up (zk_up (zk_up τ 0 x0) 1 x1) 2 x2) 3 x3) 4 x4) 9 0) β t))) rfl (by decide) (Nat.le_of_ble_eq_true rfl) rfl rfl rfl ?_
                                refine zk_iload dM_costs_160 rfl ?_
                                refine zk_iret dM_costs_162 rfl (Or.inr ⟨by omega, rfl, ?_⟩)
                                first | rw [if_pos h60] | rw [if_neg h60]
                                first | rw [if_pos h73] | rw [if_neg h73]
                                first | rw [if_pos h87] | rw [if_neg h87]
                                first | rw [if_pos h102] | rw [if_neg h102]
                                first | rw [if_pos h117] | rw [if_neg h117]
                              · skip
                                refine zk_iconst dM_costs_120 ?_
                                refine zk_goto (tgt := 125) dM_costs_121 (by decide) ?_
                                refine zk_iadd dM_costs_125 ?_
                                refine zk_istore (ls' := [some (.inr (some 22)), some (.inl x0), some (.inl x1), some (.inl x2), some (.inl x3), some (.inl x4), some (.inl ((((0 + 0) + 0) + 1) + 0))]) dM_costs_126 (by decide) rfl ?_
                                refine zk_aload_n dM_costs_128 rfl ?_
                                refine zk_iload_n dM_costs_129 rfl ?_
                                refine zk_put zfM_40 dM_costs_130 (h' := (zk_mk G sw σ α (zk_md (zk_up τ 0 x0) β t))) rfl (by decide) (Nat.le_of_ble_eq_true rfl) rfl rfl rfl ?_
                                refine zk_aload_n dM_costs_133 rfl ?_
                                refine zk_iload_n dM_costs_134 rfl ?_
                                refine zk_put zfM_44 dM_costs_135 (h' := (zk_mk G sw σ α (zk_md (zk_up (zk_up τ 0 x0) 1 x1) β t))) rfl (by decide) (Nat.le_of_ble_eq_true rfl) rfl rfl rfl ?_
                                refine zk_aload_n dM_costs_138 rfl ?_
                                refine zk_iload_n dM_costs_139 rfl ?_
                                refine zk_put zfM_47 dM_costs_140 (h' := (zk_mk G sw σ α (zk_md (zk_up (zk_up (zk_up τ 0 x0) 1 x1) 2 x2) β t))) rfl (by decide) (Nat.le_of_ble_eq_true rfl) rfl rfl rfl ?_
                                refine zk_aload_n dM_costs_143 rfl ?_
                                refine zk_iload dM_costs_144 rfl ?_
                                refine zk_put zfM_50 dM_costs_146 (h' := (zk_mk G sw σ α (zk_md (zk_up (zk_up (zk_up (zk_up τ 0 x0) 1 x1) 2 x2) 3 x3) β t))) rfl (by decide) (Nat.le_of_ble_eq_true rfl) rfl rfl rfl ?_
                                refine zk_aload_n dM_costs_149 rfl ?_
                                refine zk_iload dM_costs_150 rfl ?_
                                refine zk_put zfM_53 dM_costs_152 (h' := (zk_mk G sw σ α (zk_md (zk_up (zk_up (zk_up (zk_up (zk_up τ 0 x0) 1 x1) 2 x2) 3 x3) 4 x4) β t))) rfl (by decide) (Nat.le_of_ble_eq_true rfl) rfl rfl rfl ?_
                                refine zk_aload_n dM_costs_155 rfl ?_
                                refine zk_iconst dM_costs_156 ?_
                                refine zk_put zfM_68 dM_costs_157 (h' := (zk_mk G sw σ α (zk_md (zk_up (zk_up (zk_up (zk_up (zk_up (zk_up τ 0 x0) 1 x1) 2 x2) 3 x3) 4 x4) 9 0) β t))) rfl (by decide) (Nat.le_of_ble_eq_true rfl) rfl rfl rfl ?_
                                refine zk_iload dM_costs_160 rfl ?_
                                refine zk_iret dM_costs_162 rfl (Or.inr ⟨by omega, rfl, ?_⟩)
                                first | rw [if_pos h60] | rw [if_neg h60]
                                first | rw [if_pos h73] | rw [if_neg h73]
                                first | rw [if_pos h87] | rw [if_neg h87]
                                first | rw [if_pos h102] | rw [if_neg h102]
                                first | rw [if_pos h117] | rw [if_neg h117]
                            · skip
                              refine zk_iconst dM_costs_105 ?_
                              refine zk_goto (tgt := 110) dM_costs_106 (by decide) ?_
                              refine zk_iadd dM_costs_110 ?_
                              refine zk_iload dM_costs_111 rfl ?_
                              refine zk_aload_n dM_costs_113 rfl ?_
                              refine zk_get zfM_53 dM_costs_114 (v := .inl (τ 4)) rfl (by decide) rfl ?_
                              refine zk_icmp_ne (tgt := 124) dM_costs_117 (by decide) hx4 ⟨by omega, by omega⟩ (fun h117 => ?_) (fun h117 => ?_)
                              · skip
                                refine zk_iconst dM_costs_124 ?_
                                refine zk_iadd dM_costs_125 ?_
                                refine zk_istore (ls' := [some (.inr (some 22)), some (.inl x0), some (.inl x1), some (.inl x2), some (.inl x3), some (.inl x4), some (.inl ((((0 + 0) + 0) + 0) + 1))]) dM_costs_126 (by decide) rfl ?_
                                refine zk_aload_n dM_costs_128 rfl ?_
                                refine zk_iload_n dM_costs_129 rfl ?_
                                refine zk_put zfM_40 dM_costs_130 (h' := (zk_mk G sw σ α (zk_md (zk_up τ 0 x0) β t))) rfl (by decide) (Nat.le_of_ble_eq_true rfl) rfl rfl rfl ?_
                                refine zk_aload_n dM_costs_133 rfl ?_
                                refine zk_iload_n dM_costs_134 rfl ?_
                                refine zk_put zfM_44 dM_costs_135 (h' := (zk_mk G sw σ α (zk_md (zk_up (zk_up τ 0 x0) 1 x1) β t))) rfl (by decide) (Nat.le_of_ble_eq_true rfl) rfl rfl rfl ?_
                                refine zk_aload_n dM_costs_138 rfl ?_
                                refine zk_iload_n dM_costs_139 rfl ?_
                                refine zk_put zfM_47 dM_costs_140 (h' := (zk_mk G sw σ α (zk_md (zk_up (zk_up (zk_up τ 0 x0) 1 x1) 2 x2) β t))) rfl (by decide) (Nat.le_of_ble_eq_true rfl) rfl rfl rfl ?_
                                refine zk_aload_n dM_costs_143 rfl ?_
                                refine zk_iload dM_costs_144 rfl ?_
                                refine zk_put zfM_50 dM_costs_146 (h' := (zk_mk G sw σ α (zk_md (zk_up (zk_up (zk_up (zk_up τ 0 x0) 1 x1) 2 x2) 3 x3) β t))) rfl (by decide) (Nat.le_of_ble_eq_true rfl) rfl rfl rfl ?_
                                refine zk_aload_n dM_costs_149 rfl ?_
                                refine zk_iload dM_costs_150 rfl ?_
                                refine zk_put zfM_53 dM_costs_152 (h' := (zk_mk G sw σ α (zk_md (zk_up (zk_up (zk_up (zk_up (zk_up τ 0 x0) 1 x1) 2 x2) 3 x3) 4 x4) β t))) rfl (by decide) (Nat.le_of_ble_eq_true rfl) rfl rfl rfl ?_
                                refine zk_aload_n dM_costs_155 rfl ?_
                                refine zk_iconst dM_costs_156 ?_
                                refine zk_put zfM_68 dM_costs_157 (h' := (zk_mk G sw σ α (zk_md (zk_up (zk_up (zk_up (zk_up (zk_up (zk_up τ 0 x0) 1 x1) 2 x2) 3 x3) 4 x4) 9 0) β t))) rfl (by decide) (Nat.le_of_ble_eq_true rfl) rfl rfl rfl ?_
                                refine zk_iload dM_costs_160 rfl ?_
                                refine zk_iret dM_costs_162 rfl (Or.inr ⟨by omega, rfl, ?_⟩)
                                first | rw [if_pos h60] | rw [if_neg h60]
                                first | rw [if_pos h73] | rw [if_neg h73]
                                first | rw [if_pos h87] | rw [if_neg h87]
                                first | rw [if_pos h102] | rw [if_neg h102]
                                first | rw [if_pos h117] | rw [if_neg h117]
                              · skip
                                refine zk_iconst dM_costs_120 ?_
                                refine zk_goto (tgt := 125) dM_costs_121 (by decide) ?_
                                refine zk_iadd dM_costs_125 ?_
                                refine zk_istore (ls' := [some (.inr (some 22)), some (.inl x0), some (.inl x1), some (.inl x2), some (.inl x3), some (.inl x4), some (.inl ((((0 + 0) + 0) + 0) + 0))]) dM_costs_126 (by decide) rfl ?_
                                refine zk_aload_n dM_costs_128 rfl ?_
                                refine zk_iload_n dM_costs_129 rfl ?_
                                refine zk_put zfM_40 dM_costs_130 (h' := (zk_mk G sw σ α (zk_md (zk_up τ 0 x0) β t))) rfl (by decide) (Nat.le_of_ble_eq_true rfl) rfl rfl rfl ?_
                                refine zk_aload_n dM_costs_133 rfl ?_
                                refine zk_iload_n dM_costs_134 rfl ?_
                                refine zk_put zfM_44 dM_costs_135 (h' := (zk_mk G sw σ α (zk_md (zk_up (zk_up τ 0 x0) 1 x1) β t))) rfl (by decide) (Nat.le_of_ble_eq_true rfl) rfl rfl rfl ?_
                                refine zk_aload_n dM_costs_138 rfl ?_
                                refine zk_iload_n dM_costs_139 rfl ?_
                                refine zk_put zfM_47 dM_costs_140 (h' := (zk_mk G sw σ α (zk_md (zk_up (zk_up (zk_up τ 0 x0) 1 x1) 2 x2) β t))) rfl (by decide) (Nat.le_of_ble_eq_true rfl) rfl rfl rfl ?_
                                refine zk_aload_n dM_costs_143 rfl ?_
                                refine zk_iload dM_costs_144 rfl ?_
                                refine zk_put zfM_50 dM_costs_146 (h' := (zk_mk G sw σ α (zk_md (zk_up (zk_up (zk_up (zk_up τ 0 x0) 1 x1) 2 x2) 3 x3) β t))) rfl (by decide) (Nat.le_of_ble_eq_true rfl) rfl rfl rfl ?_
                                refine zk_aload_n dM_costs_149 rfl ?_
                                refine zk_iload dM_costs_150 rfl ?_
                                refine zk_put zfM_53 dM_costs_152 (h' := (zk_mk G sw σ α (zk_md (zk_up (zk_up (zk_up (zk_up (zk_up τ 0 x0) 1 x1) 2 x2) 3 x3) 4 x4) β t))) rfl (by decide) (Nat.le_of_ble_eq_true rfl) rfl rfl rfl ?_
                                refine zk_aload_n dM_costs_155 rfl ?_
                                refine zk_iconst dM_costs_156 ?_
                                refine zk_put zfM_68 dM_costs_157 (h' := (zk_mk G sw σ α (zk_md (zk_up (zk_up (zk_up (zk_up (zk_up (zk_up τ 0 x0) 1 x1) 2 x2) 3 x3) 4 x4) 9 0) β t))) rfl (by decide) (Nat.le_of_ble_eq_true rfl) rfl rfl rfl ?_
                                refine zk_iload dM_costs_160 rfl ?_
                                refine zk_iret dM_costs_162 rfl (Or.inr ⟨by omega, rfl, ?_⟩)
                                first | rw [if_pos h60] | rw [if_neg h60]
                                first | rw [if_pos h73] | rw [if_neg h73]
                                first | rw [if_pos h87] | rw [if_neg h87]
                                first | rw [if_pos h102] | rw [if_neg h102]
                                first | rw [if_pos h117] | rw [if_neg h117]
                    · skip
                      exact absurd h49 (by decide)
                  · skip
                    refine zk_W.to (ls' := [some (.inr (some 22)), some (.inl x0), some (.inl x1), some (.inl x2), some (.inl x3), some (.inl x4), none]) (st' := [.inl 0]) (h' := (zk_mk G sw σ α (zk_md τ β t))) rfl rfl rfl ?_
                    refine zk_if_ne (tgt := 55) dM_costs_49 (by decide) ⟨by decide, by decide⟩ (fun h49 => ?_) (fun h49 => ?_)
                    · skip
                      exact absurd h49 (by decide)
                    · skip
                      refine zk_bipush dM_costs_52 (by decide) ?_
                      exact zk_iret dM_costs_54 rfl (Or.inl ⟨by omega, rfl, rfl⟩)
              · skip
                refine zk_W.to (ls' := [some (.inr (some 22)), some (.inl x0), some (.inl x1), some (.inl x2), some (.inl x3), some (.inl x4), none]) (st' := [.inl 0]) (h' := (zk_mk G sw σ α (zk_md τ β t))) rfl rfl rfl ?_
                refine zk_if_eq (tgt := 52) dM_costs_38 (by decide) ⟨by decide, by decide⟩ (fun h38 => ?_) (fun h38 => ?_)
                · skip
                  refine zk_bipush dM_costs_52 (by decide) ?_
                  exact zk_iret dM_costs_54 rfl (Or.inl ⟨by omega, rfl, rfl⟩)
                · skip
                  exact absurd h38 (by decide)
          · skip
            refine zk_W.to (ls' := [some (.inr (some 22)), some (.inl x0), some (.inl x1), some (.inl x2), some (.inl x3), some (.inl x4), none]) (st' := [.inl 0]) (h' := (zk_mk G sw σ α (zk_md τ β t))) rfl rfl rfl ?_
            refine zk_if_eq (tgt := 52) dM_costs_27 (by decide) ⟨by decide, by decide⟩ (fun h27 => ?_) (fun h27 => ?_)
            · skip
              refine zk_bipush dM_costs_52 (by decide) ?_
              exact zk_iret dM_costs_54 rfl (Or.inl ⟨by omega, rfl, rfl⟩)
            · skip
              exact absurd h27 (by decide)
      · skip
        refine zk_W.to (ls' := [some (.inr (some 22)), some (.inl x0), some (.inl x1), some (.inl x2), some (.inl x3), some (.inl x4), none]) (st' := [.inl 0]) (h' := (zk_mk G sw σ α (zk_md τ β t))) rfl rfl rfl ?_
        refine zk_if_eq (tgt := 52) dM_costs_17 (by decide) ⟨by decide, by decide⟩ (fun h17 => ?_) (fun h17 => ?_)
        · skip
          refine zk_bipush dM_costs_52 (by decide) ?_
          exact zk_iret dM_costs_54 rfl (Or.inl ⟨by omega, rfl, rfl⟩)
        · skip
          exact absurd h17 (by decide)
  · skip
    refine zk_W.to (ls' := [some (.inr (some 22)), some (.inl x0), some (.inl x1), some (.inl x2), some (.inl x3), some (.inl x4), none]) (st' := [.inl 0]) (h' := (zk_mk G sw σ α (zk_md τ β t))) rfl rfl rfl ?_
    refine zk_if_eq (tgt := 52) dM_costs_7 (by decide) ⟨by decide, by decide⟩ (fun h7 => ?_) (fun h7 => ?_)
    · skip
      refine zk_bipush dM_costs_52 (by decide) ?_
      exact zk_iret dM_costs_54 rfl (Or.inl ⟨by omega, rfl, rfl⟩)
    · skip
      exact absurd h7 (by decide)

set_option maxRecDepth 100000 in
set_option maxHeartbeats 4000000 in
theorem wM_spotOf (G : zk_G) (sw : Bool) (σ : Nat → Int) (α : Nat → Nat → Int) (τ : Nat → Int) (β : Nat → Nat → Int) (t : zk_H) (hJ : zm_J τ β) {k0 : Nat} (hk0 : (k0 : Int) ≤ τ 5) : ∀ (k : Nat) (j : Nat), (j ≤ k0) → (k0 < j + k) → zk_W G mM_spotOf (0, 0) 0 0 4 [some (.inr (some 22)), some (.inl (k0 : Int)), some (.inl (mt_spot (β 2) (β 3) (β 4) j)), some (.inl (j : Int))] [] (zk_mk G sw σ α (zk_md τ β t)) (fun v h' => h' = (zk_mk G sw σ α (zk_md τ β t)) ∧ v = some (.inl (mt_spot (β 2) (β 3) (β 4) k0))) := by
  intro k
  induction k with
  | zero =>
    intro j g1 g2
    exfalso
    omega
  | succ k ih =>
    intro j g1 g2
    have hI := hJ.1
    have i0 := hI.1
    have i1 := hI.2.1
    have c0 : 0 ≤ τ 0 ∧ τ 0 ≤ 100 := hI.2.2.2 0 (by decide)
    have c1 : 0 ≤ τ 1 ∧ τ 1 ≤ 100 := hI.2.2.2 1 (by decide)
    have c2 : 0 ≤ τ 2 ∧ τ 2 ≤ 100 := hI.2.2.2 2 (by decide)
    have c3 : 0 ≤ τ 3 ∧ τ 3 ≤ 100 := hI.2.2.2 3 (by decide)
    have c4 : 0 ≤ τ 4 ∧ τ 4 ≤ 100 := hI.2.2.2 4 (by decide)
    have j5 := hJ.2.1
    have j6 := hJ.2.2.1
    have j7 := hJ.2.2.2.1
    have j8 := hJ.2.2.2.2.1
    have hA := hJ.2.2.2.2.2.1
    refine zk_iload_n dM_spotOf_4 rfl ?_
    refine zk_iload_n dM_spotOf_5 rfl ?_
    refine zk_icmp_ge (tgt := 42) dM_spotOf_6 (by decide) ⟨by omega, by omega⟩ ⟨by omega, by omega⟩ (fun h6 => ?_) (fun h6 => ?_)
    · skip
      refine zk_iload_n dM_spotOf_42 rfl ?_
      have ej : j = k0 := by omega
      subst ej
      exact zk_iret dM_spotOf_43 rfl ⟨rfl, rfl⟩
    · skip
      obtain ⟨a1, a2, a3⟩ := hA j (by omega)
      refine zk_aload_n dM_spotOf_9 rfl ?_
      refine zk_get zfM_16 dM_spotOf_10 (v := .inr (some 25)) rfl (by decide) rfl ?_
      refine zk_iload_n dM_spotOf_13 rfl ?_
      refine zk_iald dM_spotOf_14 (n := 100) (f := β 2) rfl (by omega) (by omega) (by omega) ?_
      refine zk_W.to (ls' := [some (.inr (some 22)), some (.inl (k0 : Int)), some (.inl (mt_spot (β 2) (β 3) (β 4) j)), some (.inl (j : Int))]) (st' := [.inl (β 2 j)]) (h' := (zk_mk G sw σ α (zk_md τ β t))) rfl rfl rfl ?_
      refine zk_if_ne (tgt := 34) dM_spotOf_15 (by decide) ⟨by omega, by omega⟩ (fun h15 => ?_) (fun h15 => ?_)
      · skip
        refine zk_iload_n dM_spotOf_34 rfl ?_
        refine zk_istore_n (ls' := [some (.inr (some 22)), some (.inl (k0 : Int)), some (.inl (mt_spot (β 2) (β 3) (β 4) j)), some (.inl (j : Int))]) dM_spotOf_35 (by decide) rfl ?_
        refine zk_iinc (ls' := [some (.inr (some 22)), some (.inl (k0 : Int)), some (.inl (mt_spot (β 2) (β 3) (β 4) j)), some (.inl ((j : Int) + 1))]) dM_spotOf_36 rfl (by decide) rfl ?_
        refine zk_goto (tgt := 4) dM_spotOf_39 (by decide) ?_
        have e1 : mt_spot (β 2) (β 3) (β 4) j = mt_spot (β 2) (β 3) (β 4) (j + 1) := by
          show _ = (if β 2 j = 0 then β 3 j + β 4 j else mt_spot (β 2) (β 3) (β 4) j)
          rw [if_neg h15]
        have e2 : (j : Int) + 1 = ((j + 1 : Nat) : Int) := by omega
        rw [e1, e2]
        exact ih (j + 1) (by omega) (by omega)
      · skip
        refine zk_aload_n dM_spotOf_18 rfl ?_
        refine zk_get zfM_19 dM_spotOf_19 (v := .inr (some 26)) rfl (by decide) rfl ?_
        refine zk_iload_n dM_spotOf_22 rfl ?_
        refine zk_iald dM_spotOf_23 (n := 100) (f := β 3) rfl (by omega) (by omega) (by omega) ?_
        refine zk_W.to (ls' := [some (.inr (some 22)), some (.inl (k0 : Int)), some (.inl (mt_spot (β 2) (β 3) (β 4) j)), some (.inl (j : Int))]) (st' := [.inl (β 3 j)]) (h' := (zk_mk G sw σ α (zk_md τ β t))) rfl rfl rfl ?_
        refine zk_aload_n dM_spotOf_24 rfl ?_
        refine zk_get zfM_22 dM_spotOf_25 (v := .inr (some 27)) rfl (by decide) rfl ?_
        refine zk_iload_n dM_spotOf_28 rfl ?_
        refine zk_iald dM_spotOf_29 (n := 100) (f := β 4) rfl (by omega) (by omega) (by omega) ?_
        refine zk_W.to (ls' := [some (.inr (some 22)), some (.inl (k0 : Int)), some (.inl (mt_spot (β 2) (β 3) (β 4) j)), some (.inl (j : Int))]) (st' := [.inl (β 4 j), .inl (β 3 j)]) (h' := (zk_mk G sw σ α (zk_md τ β t))) rfl rfl rfl ?_
        refine zk_iadd dM_spotOf_30 ?_
        refine zk_goto (tgt := 35) dM_spotOf_31 (by decide) ?_
        refine zk_istore_n (ls' := [some (.inr (some 22)), some (.inl (k0 : Int)), some (.inl ((β 3 j) + (β 4 j))), some (.inl (j : Int))]) dM_spotOf_35 (by decide) rfl ?_
        refine zk_iinc (ls' := [some (.inr (some 22)), some (.inl (k0 : Int)), some (.inl ((β 3 j) + (β 4 j))), some (.inl ((j : Int) + 1))]) dM_spotOf_36 rfl (by decide) rfl ?_
        refine zk_goto (tgt := 4) dM_spotOf_39 (by decide) ?_
        have e1 : (β 3 j) + (β 4 j) = mt_spot (β 2) (β 3) (β 4) (j + 1) := by
          show _ = (if β 2 j = 0 then β 3 j + β 4 j else mt_spot (β 2) (β 3) (β 4) j)
          rw [if_pos h15]
        have e2 : (j : Int) + 1 = ((j + 1 : Nat) : Int) := by omega
        rw [e1, e2]
        exact ih (j + 1) (by omega) (by omega)

set_option maxRecDepth 100000 in
set_option maxHeartbeats 4000000 in
theorem kM_spotOf (G : zk_G) (sw : Bool) (σ : Nat → Int) (α : Nat → Nat → Int) (τ : Nat → Int) (β : Nat → Nat → Int) (t : zk_H) (hJ : zm_J τ β) {k0 : Nat} (hk0 : (k0 : Int) ≤ τ 5) : zk_K G mM_spotOf (0, 0) 0 0 [.inr (some 22), .inl (k0 : Int)] (zk_mk G sw σ α (zk_md τ β t)) (fun v h' => h' = (zk_mk G sw σ α (zk_md τ β t)) ∧ v = some (.inl (mt_spot (β 2) (β 3) (β 4) k0))) := by
  have hI := hJ.1
  have i0 := hI.1
  have i1 := hI.2.1
  have c0 : 0 ≤ τ 0 ∧ τ 0 ≤ 100 := hI.2.2.2 0 (by decide)
  have c1 : 0 ≤ τ 1 ∧ τ 1 ≤ 100 := hI.2.2.2 1 (by decide)
  have c2 : 0 ≤ τ 2 ∧ τ 2 ≤ 100 := hI.2.2.2 2 (by decide)
  have c3 : 0 ≤ τ 3 ∧ τ 3 ≤ 100 := hI.2.2.2 3 (by decide)
  have c4 : 0 ≤ τ 4 ∧ τ 4 ≤ 100 := hI.2.2.2 4 (by decide)
  have j5 := hJ.2.1
  have j6 := hJ.2.2.1
  have j7 := hJ.2.2.2.1
  have j8 := hJ.2.2.2.2.1
  have hA := hJ.2.2.2.2.2.1
  refine zk_K.of (ls := [some (.inr (some 22)), some (.inl (k0 : Int)), none, none]) (by decide +kernel) (Nat.le_of_ble_eq_true rfl) rfl ?_
  refine zk_iconst dM_spotOf_0 ?_
  refine zk_istore_n (ls' := [some (.inr (some 22)), some (.inl (k0 : Int)), some (.inl 0), none]) dM_spotOf_1 (by decide) rfl ?_
  refine zk_iconst dM_spotOf_2 ?_
  refine zk_istore_n (ls' := [some (.inr (some 22)), some (.inl (k0 : Int)), some (.inl 0), some (.inl 0)]) dM_spotOf_3 (by decide) rfl ?_
  exact wM_spotOf G sw σ α τ β t hJ hk0 (k0 + 1) 0 (by omega) (by omega)

set_option maxRecDepth 100000 in
set_option maxHeartbeats 4000000 in
theorem kM_costAt (G : zk_G) (sw : Bool) (σ : Nat → Int) (α : Nat → Nat → Int) (τ : Nat → Int) (β : Nat → Nat → Int) (t : zk_H) (hJ : zm_J τ β) {k0 : Nat} (hk0 : (k0 : Int) < τ 5) : zk_K G mM_costAt (1, 24) 0 0 [.inr (some 22), .inl (k0 : Int)] (zk_mk G sw σ α (zk_md τ β t)) (fun v h' => h' = (zk_mk G sw σ α (zk_md τ β t)) ∧ v = some (.inl (mt_cost (zm_c τ) (β 2) (β 3) (β 4) k0))) := by
  have hI := hJ.1
  have i0 := hI.1
  have i1 := hI.2.1
  have c0 : 0 ≤ τ 0 ∧ τ 0 ≤ 100 := hI.2.2.2 0 (by decide)
  have c1 : 0 ≤ τ 1 ∧ τ 1 ≤ 100 := hI.2.2.2 1 (by decide)
  have c2 : 0 ≤ τ 2 ∧ τ 2 ≤ 100 := hI.2.2.2 2 (by decide)
  have c3 : 0 ≤ τ 3 ∧ τ 3 ≤ 100 := hI.2.2.2 3 (by decide)
  have c4 : 0 ≤ τ 4 ∧ τ 4 ≤ 100 := hI.2.2.2 4 (by decide)
  have j5 := hJ.2.1
  have j6 := hJ.2.2.1
  have j7 := hJ.2.2.2.1
  have j8 := hJ.2.2.2.2.1
  have hA := hJ.2.2.2.2.2.1
  obtain ⟨a1, a2, a3⟩ := hA k0 (by omega)
  have hsp := mm_spot_rg hJ (n := k0) (by omega)
  refine zk_K.of (ls := [some (.inr (some 22)), some (.inl (k0 : Int))]) (by decide +kernel) (Nat.le_of_ble_eq_true rfl) rfl ?_
  refine zk_aload_n dM_costAt_0 rfl ?_
  refine zk_aload_n dM_costAt_1 rfl ?_
  refine zk_get zfM_16 dM_costAt_2 (v := .inr (some 25)) rfl (by decide) rfl ?_
  refine zk_iload_n dM_costAt_5 rfl ?_
  refine zk_iald dM_costAt_6 (n := 100) (f := β 2) rfl (by omega) (by omega) (by omega) ?_
  refine zk_W.to (ls' := [some (.inr (some 22)), some (.inl (k0 : Int))]) (st' := [.inl (β 2 k0), .inr (some 22)]) (h' := (zk_mk G sw σ α (zk_md τ β t))) rfl rfl rfl ?_
  refine zk_aload_n dM_costAt_7 rfl ?_
  refine zk_get zfM_19 dM_costAt_8 (v := .inr (some 26)) rfl (by decide) rfl ?_
  refine zk_iload_n dM_costAt_11 rfl ?_
  refine zk_iald dM_costAt_12 (n := 100) (f := β 3) rfl (by omega) (by omega) (by omega) ?_
  refine zk_W.to (ls' := [some (.inr (some 22)), some (.inl (k0 : Int))]) (st' := [.inl (β 3 k0), .inl (β 2 k0), .inr (some 22)]) (h' := (zk_mk G sw σ α (zk_md τ β t))) rfl rfl rfl ?_
  refine zk_aload_n dM_costAt_13 rfl ?_
  refine zk_get zfM_22 dM_costAt_14 (v := .inr (some 27)) rfl (by decide) rfl ?_
  refine zk_iload_n dM_costAt_17 rfl ?_
  refine zk_iald dM_costAt_18 (n := 100) (f := β 4) rfl (by omega) (by omega) (by omega) ?_
  refine zk_W.to (ls' := [some (.inr (some 22)), some (.inl (k0 : Int))]) (st' := [.inl (β 4 k0), .inl (β 3 k0), .inl (β 2 k0), .inr (some 22)]) (h' := (zk_mk G sw σ α (zk_md τ β t))) rfl rfl rfl ?_
  refine zk_aload_n dM_costAt_19 rfl ?_
  refine zk_iload_n dM_costAt_20 rfl ?_
  refine zk_callV (av := [.inl (k0 : Int)]) (st := [.inl (β 4 k0), .inl (β 3 k0), .inl (β 2 k0), .inr (some 22)]) (d' := (0, 0)) (kc' := 0) (ks' := 0) zbM_114 dM_costAt_21 rfl (by decide) rfl rfl (Nat.le_of_ble_eq_true rfl) ⟨by decide, by decide⟩ rfl rfl (kM_spotOf G sw σ α τ β t hJ (k0 := k0) (by omega)) (fun v9 h9 q9 => ?_)
  obtain ⟨rfl, rfl⟩ := q9
  refine zk_W.to (ls' := [some (.inr (some 22)), some (.inl (k0 : Int))]) (st' := [.inl (mt_spot (β 2) (β 3) (β 4) k0), .inl (β 4 k0), .inl (β 3 k0), .inl (β 2 k0), .inr (some 22)]) (h' := (zk_mk G sw σ α (zk_md τ β t))) rfl rfl rfl ?_
  refine zk_callV (av := [.inl (β 2 k0), .inl (β 3 k0), .inl (β 4 k0), .inl (mt_spot (β 2) (β 3) (β 4) k0)]) (st := []) (d' := (0, 0)) (kc' := 0) (ks' := 0) zbM_86 dM_costAt_24 rfl (by decide) rfl rfl (Nat.le_of_ble_eq_true rfl) ⟨by decide, by decide⟩ rfl rfl (kM_costOf G sw σ α τ β t ⟨by omega, by omega⟩ ⟨by omega, by omega⟩ ⟨by omega, by omega⟩) (fun v9 h9 q9 => ?_)
  obtain ⟨rfl, rfl⟩ := q9
  refine zk_W.to (ls' := [some (.inr (some 22)), some (.inl (k0 : Int))]) (st' := [.inl (if β 2 k0 = 0 then (if β 3 k0 = mt_spot (β 2) (β 3) (β 4) k0 then τ 0 else τ 0 + τ 1) else if β 2 k0 = 1 then τ 2 else τ 3 + τ 4 * (β 4 k0))]) (h' := (zk_mk G sw σ α (zk_md τ β t))) rfl rfl rfl ?_
  exact zk_iret dM_costAt_27 rfl ⟨rfl, rfl⟩

set_option maxRecDepth 100000 in
set_option maxHeartbeats 4000000 in
theorem wM_cost (G : zk_G) (sw : Bool) (σ : Nat → Int) (α : Nat → Nat → Int) (τ : Nat → Int) (β : Nat → Nat → Int) (t : zk_H) (hJ : zm_J τ β) : ∀ (k : Nat) (k0 : Nat), ((k0 : Int) ≤ τ 5) → (τ 5 < (k0 : Int) + k) → zk_W G mM_cost (2, 45) 0 0 4 [some (.inr (some 22)), some (.inl (mt_csum (zm_c τ) (β 2) (β 3) (β 4) k0)), some (.inl (k0 : Int))] [] (zk_mk G sw σ α (zk_md τ β t)) (fun v h' => h' = (zk_mk G sw σ α (zk_md τ β t)) ∧ v = some (.inl (mt_csum (zm_c τ) (β 2) (β 3) (β 4) (τ 5).toNat))) := by
  intro k
  induction k with
  | zero =>
    intro k0 g1 g2
    exfalso
    omega
  | succ k ih =>
    intro k0 g1 g2
    have hI := hJ.1
    have i0 := hI.1
    have i1 := hI.2.1
    have c0 : 0 ≤ τ 0 ∧ τ 0 ≤ 100 := hI.2.2.2 0 (by decide)
    have c1 : 0 ≤ τ 1 ∧ τ 1 ≤ 100 := hI.2.2.2 1 (by decide)
    have c2 : 0 ≤ τ 2 ∧ τ 2 ≤ 100 := hI.2.2.2 2 (by decide)
    have c3 : 0 ≤ τ 3 ∧ τ 3 ≤ 100 := hI.2.2.2 3 (by decide)
    have c4 : 0 ≤ τ 4 ∧ τ 4 ≤ 100 := hI.2.2.2 4 (by decide)
    have j5 := hJ.2.1
    have j6 := hJ.2.2.1
    have j7 := hJ.2.2.2.1
    have j8 := hJ.2.2.2.2.1
    have hA := hJ.2.2.2.2.2.1
    refine zk_iload_n dM_cost_4 rfl ?_
    refine zk_aload_n dM_cost_5 rfl ?_
    refine zk_get zfM_56 dM_cost_6 (v := .inl (τ 5)) rfl (by decide) rfl ?_
    refine zk_icmp_ge (tgt := 26) dM_cost_9 (by decide) ⟨by omega, by omega⟩ ⟨by omega, by omega⟩ (fun h9 => ?_) (fun h9 => ?_)
    · skip
      refine zk_iload_n dM_cost_26 rfl ?_
      have en : k0 = (τ 5).toNat := by omega
      subst en
      exact zk_iret dM_cost_27 rfl ⟨rfl, rfl⟩
    · skip
      refine zk_iload_n dM_cost_12 rfl ?_
      refine zk_aload_n dM_cost_13 rfl ?_
      refine zk_iload_n dM_cost_14 rfl ?_
      refine zk_callV (av := [.inl (k0 : Int)]) (st := [.inl (mt_csum (zm_c τ) (β 2) (β 3) (β 4) k0)]) (d' := (1, 24)) (kc' := 0) (ks' := 0) zbM_117 dM_cost_15 rfl (by decide) rfl rfl (Nat.le_of_ble_eq_true rfl) ⟨by decide, by decide⟩ rfl rfl (kM_costAt G sw σ α τ β t hJ (k0 := k0) (by omega)) (fun v9 h9 q9 => ?_)
      obtain ⟨rfl, rfl⟩ := q9
      refine zk_W.to (ls' := [some (.inr (some 22)), some (.inl (mt_csum (zm_c τ) (β 2) (β 3) (β 4) k0)), some (.inl (k0 : Int))]) (st' := [.inl (mt_cost (zm_c τ) (β 2) (β 3) (β 4) k0), .inl (mt_csum (zm_c τ) (β 2) (β 3) (β 4) k0)]) (h' := (zk_mk G sw σ α (zk_md τ β t))) rfl rfl rfl ?_
      refine zk_iadd dM_cost_18 ?_
      refine zk_istore_n (ls' := [some (.inr (some 22)), some (.inl ((mt_csum (zm_c τ) (β 2) (β 3) (β 4) k0) + (mt_cost (zm_c τ) (β 2) (β 3) (β 4) k0))), some (.inl (k0 : Int))]) dM_cost_19 (by decide) rfl ?_
      refine zk_iinc (ls' := [some (.inr (some 22)), some (.inl ((mt_csum (zm_c τ) (β 2) (β 3) (β 4) k0) + (mt_cost (zm_c τ) (β 2) (β 3) (β 4) k0))), some (.inl ((k0 : Int) + 1))]) dM_cost_20 rfl (by decide) rfl ?_
      refine zk_goto (tgt := 4) dM_cost_23 (by decide) ?_
      have e1 : (mt_csum (zm_c τ) (β 2) (β 3) (β 4) k0) + (mt_cost (zm_c τ) (β 2) (β 3) (β 4) k0) = mt_csum (zm_c τ) (β 2) (β 3) (β 4) (k0 + 1) := rfl
      have e2 : (k0 : Int) + 1 = ((k0 + 1 : Nat) : Int) := by omega
      rw [e1, e2]
      exact ih (k0 + 1) (by omega) (by omega)

set_option maxRecDepth 100000 in
set_option maxHeartbeats 4000000 in
theorem kM_cost (G : zk_G) (sw : Bool) (σ : Nat → Int) (α : Nat → Nat → Int) (τ : Nat → Int) (β : Nat → Nat → Int) (t : zk_H) (hJ : zm_J τ β)  : zk_K G mM_cost (2, 45) 0 0 [.inr (some 22)] (zk_mk G sw σ α (zk_md τ β t)) (fun v h' => h' = (zk_mk G sw σ α (zk_md τ β t)) ∧ v = some (.inl (mt_csum (zm_c τ) (β 2) (β 3) (β 4) (τ 5).toNat))) := by
  have hI := hJ.1
  have i0 := hI.1
  have i1 := hI.2.1
  have c0 : 0 ≤ τ 0 ∧ τ 0 ≤ 100 := hI.2.2.2 0 (by decide)
  have c1 : 0 ≤ τ 1 ∧ τ 1 ≤ 100 := hI.2.2.2 1 (by decide)
  have c2 : 0 ≤ τ 2 ∧ τ 2 ≤ 100 := hI.2.2.2 2 (by decide)
  have c3 : 0 ≤ τ 3 ∧ τ 3 ≤ 100 := hI.2.2.2 3 (by decide)
  have c4 : 0 ≤ τ 4 ∧ τ 4 ≤ 100 := hI.2.2.2 4 (by decide)
  have j5 := hJ.2.1
  have j6 := hJ.2.2.1
  have j7 := hJ.2.2.2.1
  have j8 := hJ.2.2.2.2.1
  have hA := hJ.2.2.2.2.2.1
  refine zk_K.of (ls := [some (.inr (some 22)), none, none]) (by decide +kernel) (Nat.le_of_ble_eq_true rfl) rfl ?_
  refine zk_iconst dM_cost_0 ?_
  refine zk_istore_n (ls' := [some (.inr (some 22)), some (.inl 0), none]) dM_cost_1 (by decide) rfl ?_
  refine zk_iconst dM_cost_2 ?_
  refine zk_istore_n (ls' := [some (.inr (some 22)), some (.inl 0), some (.inl 0)]) dM_cost_3 (by decide) rfl ?_
  exact wM_cost G sw σ α τ β t hJ (τ 5 + 1).toNat 0 (by omega) (by omega)

set_option maxRecDepth 100000 in
set_option maxHeartbeats 4000000 in
theorem kM_rest (G : zk_G) (sw : Bool) (σ : Nat → Int) (α : Nat → Nat → Int) (τ : Nat → Int) (β : Nat → Nat → Int) (t : zk_H) (hJ : zm_J τ β) {x y : Int} (hx : zk_rg x) (hy : zk_rg y) : zk_K G mM_rest (3, 71) 0 0 [.inr (some 22), .inl x, .inl y] (zk_mk G sw σ α (zk_md τ β t)) (fun v h' => ((¬ ((0 ≤ x ∧ x ≤ β 1 1) ∧ (0 ≤ y ∧ y ≤ β 1 0))) ∧ h' = (zk_mk G sw σ α (zk_md τ β t)) ∧ v = some (.inl (-2))) ∨ (((0 ≤ x ∧ x ≤ β 1 1) ∧ (0 ≤ y ∧ y ≤ β 1 0)) ∧ ∃ f, zm_K τ (zk_ua β 8 f) ∧ h' = zk_mk G sw σ α (zk_md (zk_up τ 9 1) (zk_ua β 8 f) t) ∧ v = some (.inl (mt_tb f x.toNat y.toNat)))) := by
  have hI := hJ.1
  have i0 := hI.1
  have i1 := hI.2.1
  have c0 : 0 ≤ τ 0 ∧ τ 0 ≤ 100 := hI.2.2.2 0 (by decide)
  have c1 : 0 ≤ τ 1 ∧ τ 1 ≤ 100 := hI.2.2.2 1 (by decide)
  have c2 : 0 ≤ τ 2 ∧ τ 2 ≤ 100 := hI.2.2.2 2 (by decide)
  have c3 : 0 ≤ τ 3 ∧ τ 3 ≤ 100 := hI.2.2.2 3 (by decide)
  have c4 : 0 ≤ τ 4 ∧ τ 4 ≤ 100 := hI.2.2.2 4 (by decide)
  have j5 := hJ.2.1
  have j6 := hJ.2.2.1
  have j7 := hJ.2.2.2.1
  have j8 := hJ.2.2.2.2.1
  have hA := hJ.2.2.2.2.2.1
  refine zk_K.of (ls := [some (.inr (some 22)), some (.inl x), some (.inl y)]) (by decide +kernel) (Nat.le_of_ble_eq_true rfl) rfl ?_
  refine zk_iload_n dM_rest_0 rfl ?_
  refine zk_iconst dM_rest_1 ?_
  refine zk_aload_n dM_rest_2 rfl ?_
  refine zk_get zfM_13 dM_rest_3 (v := .inr (some 24)) rfl (by decide) rfl ?_
  refine zk_iconst dM_rest_6 ?_
  refine zk_iald dM_rest_7 (n := 2) (f := β 1) rfl (by omega) (by omega) (by omega) ?_
  refine zk_W.to (ls' := [some (.inr (some 22)), some (.inl x), some (.inl y)]) (st' := [.inl (β 1 1), .inl 0, .inl x]) (h' := (zk_mk G sw σ α (zk_md τ β t))) rfl rfl rfl ?_
  refine zk_callS (av := [.inl x, .inl 0, .inl (β 1 1)]) (st := []) (d' := (0, 0)) (kc' := 0) (ks' := 0) zbM_77 dM_rest_8 rfl rfl (Nat.le_of_ble_eq_true rfl) ⟨by decide, by decide⟩ rfl rfl (kM_isIn G sw σ α τ β t hx ⟨by decide, by decide⟩ ⟨by omega, by omega⟩) (fun v9 h9 q9 => ?_)
  rcases q9 with ⟨rfl, ⟨hc8, rfl⟩ | ⟨hc8, rfl⟩⟩
  · skip
    refine zk_W.to (ls' := [some (.inr (some 22)), some (.inl x), some (.inl y)]) (st' := [.inl 1]) (h' := (zk_mk G sw σ α (zk_md τ β t))) rfl rfl rfl ?_
    refine zk_if_eq (tgt := 28) dM_rest_11 (by decide) ⟨by decide, by decide⟩ (fun h11 => ?_) (fun h11 => ?_)
    · skip
      exact absurd h11 (by decide)
    · skip
      refine zk_iload_n dM_rest_14 rfl ?_
      refine zk_iconst dM_rest_15 ?_
      refine zk_aload_n dM_rest_16 rfl ?_
      refine zk_get zfM_13 dM_rest_17 (v := .inr (some 24)) rfl (by decide) rfl ?_
      refine zk_iconst dM_rest_20 ?_
      refine zk_iald dM_rest_21 (n := 2) (f := β 1) rfl (by omega) (by omega) (by omega) ?_
      refine zk_W.to (ls' := [some (.inr (some 22)), some (.inl x), some (.inl y)]) (st' := [.inl (β 1 0), .inl 0, .inl y]) (h' := (zk_mk G sw σ α (zk_md τ β t))) rfl rfl rfl ?_
      refine zk_callS (av := [.inl y, .inl 0, .inl (β 1 0)]) (st := []) (d' := (0, 0)) (kc' := 0) (ks' := 0) zbM_77 dM_rest_22 rfl rfl (Nat.le_of_ble_eq_true rfl) ⟨by decide, by decide⟩ rfl rfl (kM_isIn G sw σ α τ β t hy ⟨by decide, by decide⟩ ⟨by omega, by omega⟩) (fun v9 h9 q9 => ?_)
      rcases q9 with ⟨rfl, ⟨hc22, rfl⟩ | ⟨hc22, rfl⟩⟩
      · skip
        refine zk_W.to (ls' := [some (.inr (some 22)), some (.inl x), some (.inl y)]) (st' := [.inl 1]) (h' := (zk_mk G sw σ α (zk_md τ β t))) rfl rfl rfl ?_
        refine zk_if_ne (tgt := 31) dM_rest_25 (by decide) ⟨by decide, by decide⟩ (fun h25 => ?_) (fun h25 => ?_)
        · skip
          refine zk_aload_n dM_rest_31 rfl ?_
          refine zk_callV (av := []) (st := []) (d' := (2, 46)) (kc' := 0) (ks' := 0) zbM_103 dM_rest_32 rfl (by decide) rfl rfl (Nat.le_of_ble_eq_true rfl) ⟨by decide, by decide⟩ rfl rfl (kM_learn G sw σ α τ β t hI hJ.2.2.2.2.2.2.2.2.2.1 hJ.2.2.2.2.2.2.2.2.2.2) (fun v9 h9 q9 => ?_)
          obtain ⟨rfl, f, hf, rfl⟩ := q9
          refine zk_W.to (ls' := [some (.inr (some 22)), some (.inl x), some (.inl y)]) (st' := []) (h' := (zk_mk G sw σ α (zk_md (zk_up τ 9 1) (zk_ua β 8 f) t))) rfl rfl rfl ?_
          refine zk_aload_n dM_rest_35 rfl ?_
          refine zk_get zfM_34 dM_rest_36 (v := .inr (some 31)) rfl (by decide) rfl ?_
          refine zk_bipush dM_rest_39 (by decide) ?_
          refine zk_iload_n dM_rest_41 rfl ?_
          refine zk_imul dM_rest_42 ?_
          refine zk_iload_n dM_rest_43 rfl ?_
          refine zk_iadd dM_rest_44 ?_
          refine zk_iald dM_rest_45 (n := 1681) (f := f) rfl (by omega) (by omega) (by omega) ?_
          refine zk_iret dM_rest_46 rfl (Or.inr ⟨by omega, f, hf, rfl, ?_⟩)
          rw [show (41 * x + y).toNat = 41 * x.toNat + y.toNat by omega]
          rfl
        · skip
          exact absurd h25 (by decide)
      · skip
        refine zk_W.to (ls' := [some (.inr (some 22)), some (.inl x), some (.inl y)]) (st' := [.inl 0]) (h' := (zk_mk G sw σ α (zk_md τ β t))) rfl rfl rfl ?_
        refine zk_if_ne (tgt := 31) dM_rest_25 (by decide) ⟨by decide, by decide⟩ (fun h25 => ?_) (fun h25 => ?_)
        · skip
          exact absurd h25 (by decide)
        · skip
          refine zk_bipush dM_rest_28 (by decide) ?_
          exact zk_iret dM_rest_30 rfl (Or.inl ⟨by omega, rfl, rfl⟩)
  · skip
    refine zk_W.to (ls' := [some (.inr (some 22)), some (.inl x), some (.inl y)]) (st' := [.inl 0]) (h' := (zk_mk G sw σ α (zk_md τ β t))) rfl rfl rfl ?_
    refine zk_if_eq (tgt := 28) dM_rest_11 (by decide) ⟨by decide, by decide⟩ (fun h11 => ?_) (fun h11 => ?_)
    · skip
      refine zk_bipush dM_rest_28 (by decide) ?_
      exact zk_iret dM_rest_30 rfl (Or.inl ⟨by omega, rfl, rfl⟩)
    · skip
      exact absurd h11 (by decide)

set_option maxRecDepth 100000 in
set_option maxHeartbeats 4000000 in
theorem kM_match (G : zk_G) (sw : Bool) (σ : Nat → Int) (α : Nat → Nat → Int) (τ : Nat → Int) (β : Nat → Nat → Int) (t : zk_H) (hJ : zm_J τ β) {x y z : Int} (hx : zk_rg x) (hy : zk_rg y) (hz : zk_rg z) : zk_K G mM_match (2, 46) 0 0 [.inr (some 22), .inl x, .inl y, .inl z] (zk_mk G sw σ α (zk_md τ β t)) (fun v h' => h' = (zk_mk G sw σ α (zk_md τ β t)) ∧ (((¬ ((0 ≤ x ∧ x ≤ 1) ∧ (0 ≤ y ∧ y ≤ β 1 x.toNat - 1) ∧ (0 ≤ z ∧ z ≤ β 1 1 - 1))) ∧ v = some (.inl (-2))) ∨ (((0 ≤ x ∧ x ≤ 1) ∧ (0 ≤ y ∧ y ≤ β 1 x.toNat - 1) ∧ (0 ≤ z ∧ z ≤ β 1 1 - 1)) ∧ v = some (.inl (mt_len (zm_T β x.toNat) (zm_T β 1) y.toNat z.toNat (min (zm_n β x.toNat - y.toNat) (zm_n β 1 - z.toNat)) : Int))))) := by
  have hI := hJ.1
  have i0 := hI.1
  have i1 := hI.2.1
  have c0 : 0 ≤ τ 0 ∧ τ 0 ≤ 100 := hI.2.2.2 0 (by decide)
  have c1 : 0 ≤ τ 1 ∧ τ 1 ≤ 100 := hI.2.2.2 1 (by decide)
  have c2 : 0 ≤ τ 2 ∧ τ 2 ≤ 100 := hI.2.2.2 2 (by decide)
  have c3 : 0 ≤ τ 3 ∧ τ 3 ≤ 100 := hI.2.2.2 3 (by decide)
  have c4 : 0 ≤ τ 4 ∧ τ 4 ≤ 100 := hI.2.2.2 4 (by decide)
  have j5 := hJ.2.1
  have j6 := hJ.2.2.1
  have j7 := hJ.2.2.2.1
  have j8 := hJ.2.2.2.2.1
  have hA := hJ.2.2.2.2.2.1
  refine zk_K.of (ls := [some (.inr (some 22)), some (.inl x), some (.inl y), some (.inl z)]) (by decide +kernel) (Nat.le_of_ble_eq_true rfl) rfl ?_
  refine zk_iload_n dM_match_0 rfl ?_
  refine zk_iconst dM_match_1 ?_
  refine zk_iconst dM_match_2 ?_
  refine zk_callS (av := [.inl x, .inl 0, .inl 1]) (st := []) (d' := (0, 0)) (kc' := 0) (ks' := 0) zbM_77 dM_match_3 rfl rfl (Nat.le_of_ble_eq_true rfl) ⟨by decide, by decide⟩ rfl rfl (kM_isIn G sw σ α τ β t hx ⟨by decide, by decide⟩ ⟨by decide, by decide⟩) (fun v9 h9 q9 => ?_)
  rcases q9 with ⟨rfl, ⟨hc3, rfl⟩ | ⟨hc3, rfl⟩⟩
  · skip
    refine zk_W.to (ls' := [some (.inr (some 22)), some (.inl x), some (.inl y), some (.inl z)]) (st' := [.inl 1]) (h' := (zk_mk G sw σ α (zk_md τ β t))) rfl rfl rfl ?_
    refine zk_if_eq (tgt := 41) dM_match_6 (by decide) ⟨by decide, by decide⟩ (fun h6 => ?_) (fun h6 => ?_)
    · skip
      exact absurd h6 (by decide)
    · skip
      have iq := zm_I_q hI (q := x.toNat) (by omega)
      refine zk_iload_n dM_match_9 rfl ?_
      refine zk_iconst dM_match_10 ?_
      refine zk_aload_n dM_match_11 rfl ?_
      refine zk_get zfM_13 dM_match_12 (v := .inr (some 24)) rfl (by decide) rfl ?_
      refine zk_iload_n dM_match_15 rfl ?_
      refine zk_iald dM_match_16 (n := 2) (f := β 1) rfl (by omega) (by omega) (by omega) ?_
      refine zk_iconst dM_match_17 ?_
      refine zk_isub dM_match_18 ?_
      refine zk_callS (av := [.inl y, .inl 0, .inl ((β 1 x.toNat) - 1)]) (st := []) (d' := (0, 0)) (kc' := 0) (ks' := 0) zbM_77 dM_match_19 rfl rfl (Nat.le_of_ble_eq_true rfl) ⟨by decide, by decide⟩ rfl rfl (kM_isIn G sw σ α τ β t hy ⟨by decide, by decide⟩ ⟨by omega, by omega⟩) (fun v9 h9 q9 => ?_)
      rcases q9 with ⟨rfl, ⟨hc19, rfl⟩ | ⟨hc19, rfl⟩⟩
      · skip
        refine zk_W.to (ls' := [some (.inr (some 22)), some (.inl x), some (.inl y), some (.inl z)]) (st' := [.inl 1]) (h' := (zk_mk G sw σ α (zk_md τ β t))) rfl rfl rfl ?_
        refine zk_if_eq (tgt := 41) dM_match_22 (by decide) ⟨by decide, by decide⟩ (fun h22 => ?_) (fun h22 => ?_)
        · skip
          exact absurd h22 (by decide)
        · skip
          refine zk_iload_n dM_match_25 rfl ?_
          refine zk_iconst dM_match_26 ?_
          refine zk_aload_n dM_match_27 rfl ?_
          refine zk_get zfM_13 dM_match_28 (v := .inr (some 24)) rfl (by decide) rfl ?_
          refine zk_iconst dM_match_31 ?_
          refine zk_iald dM_match_32 (n := 2) (f := β 1) rfl (by omega) (by omega) (by omega) ?_
          refine zk_W.to (ls' := [some (.inr (some 22)), some (.inl x), some (.inl y), some (.inl z)]) (st' := [.inl (β 1 1), .inl 0, .inl z]) (h' := (zk_mk G sw σ α (zk_md τ β t))) rfl rfl rfl ?_
          refine zk_iconst dM_match_33 ?_
          refine zk_isub dM_match_34 ?_
          refine zk_callS (av := [.inl z, .inl 0, .inl ((β 1 1) - 1)]) (st := []) (d' := (0, 0)) (kc' := 0) (ks' := 0) zbM_77 dM_match_35 rfl rfl (Nat.le_of_ble_eq_true rfl) ⟨by decide, by decide⟩ rfl rfl (kM_isIn G sw σ α τ β t hz ⟨by decide, by decide⟩ ⟨by omega, by omega⟩) (fun v9 h9 q9 => ?_)
          rcases q9 with ⟨rfl, ⟨hc35, rfl⟩ | ⟨hc35, rfl⟩⟩
          · skip
            refine zk_W.to (ls' := [some (.inr (some 22)), some (.inl x), some (.inl y), some (.inl z)]) (st' := [.inl 1]) (h' := (zk_mk G sw σ α (zk_md τ β t))) rfl rfl rfl ?_
            refine zk_if_ne (tgt := 44) dM_match_38 (by decide) ⟨by decide, by decide⟩ (fun h38 => ?_) (fun h38 => ?_)
            · skip
              have ex : x = ((x.toNat : Nat) : Int) := by omega
              have ey : y = ((y.toNat : Nat) : Int) := by omega
              have ez : z = ((z.toNat : Nat) : Int) := by omega
              have el : ([some (.inr (some 22)), some (.inl x), some (.inl y), some (.inl z)] : List (Option zk_V)) = [some (.inr (some 22)), some (.inl ((x.toNat : Nat) : Int)), some (.inl ((y.toNat : Nat) : Int)), some (.inl ((z.toNat : Nat) : Int))] := by rw [← ex, ← ey, ← ez]
              refine zk_W.to (ls' := [some (.inr (some 22)), some (.inl ((x.toNat : Nat) : Int)), some (.inl ((y.toNat : Nat) : Int)), some (.inl ((z.toNat : Nat) : Int))]) (st' := []) (h' := (zk_mk G sw σ α (zk_md τ β t))) el rfl rfl ?_
              refine zk_aload_n dM_match_44 rfl ?_
              refine zk_iload_n dM_match_45 rfl ?_
              refine zk_iload_n dM_match_46 rfl ?_
              refine zk_iload_n dM_match_47 rfl ?_
              refine zk_callV (av := [.inl ((x.toNat : Nat) : Int), .inl ((y.toNat : Nat) : Int), .inl ((z.toNat : Nat) : Int)]) (st := []) (d' := (1, 22)) (kc' := 0) (ks' := 0) zbM_82 dM_match_48 rfl (by decide) rfl rfl (Nat.le_of_ble_eq_true rfl) ⟨by decide, by decide⟩ rfl rfl (kM_like G sw σ α τ β t hI (q := x.toNat) (by omega) (p := y.toNat) (i := z.toNat) (by omega) (by omega)) (fun v9 h9 q9 => ?_)
              obtain ⟨rfl, rfl⟩ := q9
              refine zk_W.to (ls' := [some (.inr (some 22)), some (.inl ((x.toNat : Nat) : Int)), some (.inl ((y.toNat : Nat) : Int)), some (.inl ((z.toNat : Nat) : Int))]) (st' := [.inl ((mt_len (zm_T β x.toNat) (zm_T β 1) y.toNat z.toNat (min (zm_n β x.toNat - y.toNat) (zm_n β 1 - z.toNat)) : Int))]) (h' := (zk_mk G sw σ α (zk_md τ β t))) rfl rfl rfl ?_
              exact zk_iret dM_match_51 rfl ⟨rfl, Or.inr ⟨by omega, rfl⟩⟩
            · skip
              exact absurd h38 (by decide)
          · skip
            refine zk_W.to (ls' := [some (.inr (some 22)), some (.inl x), some (.inl y), some (.inl z)]) (st' := [.inl 0]) (h' := (zk_mk G sw σ α (zk_md τ β t))) rfl rfl rfl ?_
            refine zk_if_ne (tgt := 44) dM_match_38 (by decide) ⟨by decide, by decide⟩ (fun h38 => ?_) (fun h38 => ?_)
            · skip
              exact absurd h38 (by decide)
            · skip
              refine zk_bipush dM_match_41 (by decide) ?_
              exact zk_iret dM_match_43 rfl ⟨rfl, Or.inl ⟨by omega, rfl⟩⟩
      · skip
        refine zk_W.to (ls' := [some (.inr (some 22)), some (.inl x), some (.inl y), some (.inl z)]) (st' := [.inl 0]) (h' := (zk_mk G sw σ α (zk_md τ β t))) rfl rfl rfl ?_
        refine zk_if_eq (tgt := 41) dM_match_22 (by decide) ⟨by decide, by decide⟩ (fun h22 => ?_) (fun h22 => ?_)
        · skip
          refine zk_bipush dM_match_41 (by decide) ?_
          exact zk_iret dM_match_43 rfl ⟨rfl, Or.inl ⟨by omega, rfl⟩⟩
        · skip
          exact absurd h22 (by decide)
  · skip
    refine zk_W.to (ls' := [some (.inr (some 22)), some (.inl x), some (.inl y), some (.inl z)]) (st' := [.inl 0]) (h' := (zk_mk G sw σ α (zk_md τ β t))) rfl rfl rfl ?_
    refine zk_if_eq (tgt := 41) dM_match_6 (by decide) ⟨by decide, by decide⟩ (fun h6 => ?_) (fun h6 => ?_)
    · skip
      refine zk_bipush dM_match_41 (by decide) ?_
      exact zk_iret dM_match_43 rfl ⟨rfl, Or.inl ⟨by omega, rfl⟩⟩
    · skip
      exact absurd h6 (by decide)

set_option maxRecDepth 100000 in
set_option maxHeartbeats 4000000 in
theorem kM_act (G : zk_G) (sw : Bool) (σ : Nat → Int) (α : Nat → Nat → Int) (τ : Nat → Int) (β : Nat → Nat → Int) (t : zk_H) (hJ : zm_J τ β) {x y : Int} (hx : zk_rg x) (hy : zk_rg y) : zk_K G mM_act (2, 45) 0 0 [.inr (some 22), .inl x, .inl y] (zk_mk G sw σ α (zk_md τ β t)) (fun v h' => h' = (zk_mk G sw σ α (zk_md τ β t)) ∧ (((¬ ((0 ≤ x ∧ x ≤ τ 5 - 1) ∧ (0 ≤ y ∧ y ≤ 4))) ∧ v = some (.inl (-2))) ∨ (((0 ≤ x ∧ x ≤ τ 5 - 1) ∧ (0 ≤ y ∧ y ≤ 4)) ∧ ((y = 0 ∧ v = some (.inl (β 2 x.toNat))) ∨ (y = 1 ∧ v = some (.inl (β 4 x.toNat))) ∨ (y = 2 ∧ v = some (.inl ((if β 2 x.toNat = 2 then -1 else β 3 x.toNat)))) ∨ (y = 3 ∧ v = some (.inl (mt_spot (β 2) (β 3) (β 4) x.toNat))) ∨ (y = 4 ∧ v = some (.inl (mt_cost (zm_c τ) (β 2) (β 3) (β 4) x.toNat))))))) := by
  have hI := hJ.1
  have i0 := hI.1
  have i1 := hI.2.1
  have c0 : 0 ≤ τ 0 ∧ τ 0 ≤ 100 := hI.2.2.2 0 (by decide)
  have c1 : 0 ≤ τ 1 ∧ τ 1 ≤ 100 := hI.2.2.2 1 (by decide)
  have c2 : 0 ≤ τ 2 ∧ τ 2 ≤ 100 := hI.2.2.2 2 (by decide)
  have c3 : 0 ≤ τ 3 ∧ τ 3 ≤ 100 := hI.2.2.2 3 (by decide)
  have c4 : 0 ≤ τ 4 ∧ τ 4 ≤ 100 := hI.2.2.2 4 (by decide)
  have j5 := hJ.2.1
  have j6 := hJ.2.2.1
  have j7 := hJ.2.2.2.1
  have j8 := hJ.2.2.2.2.1
  have hA := hJ.2.2.2.2.2.1
  refine zk_K.of (ls := [some (.inr (some 22)), some (.inl x), some (.inl y)]) (by decide +kernel) (Nat.le_of_ble_eq_true rfl) rfl ?_
  refine zk_iload_n dM_act_0 rfl ?_
  refine zk_iconst dM_act_1 ?_
  refine zk_aload_n dM_act_2 rfl ?_
  refine zk_get zfM_56 dM_act_3 (v := .inl (τ 5)) rfl (by decide) rfl ?_
  refine zk_iconst dM_act_6 ?_
  refine zk_isub dM_act_7 ?_
  refine zk_callS (av := [.inl x, .inl 0, .inl ((τ 5) - 1)]) (st := []) (d' := (0, 0)) (kc' := 0) (ks' := 0) zbM_77 dM_act_8 rfl rfl (Nat.le_of_ble_eq_true rfl) ⟨by decide, by decide⟩ rfl rfl (kM_isIn G sw σ α τ β t hx ⟨by decide, by decide⟩ ⟨by omega, by omega⟩) (fun v9 h9 q9 => ?_)
  rcases q9 with ⟨rfl, ⟨hc8, rfl⟩ | ⟨hc8, rfl⟩⟩
  · skip
    refine zk_W.to (ls' := [some (.inr (some 22)), some (.inl x), some (.inl y)]) (st' := [.inl 1]) (h' := (zk_mk G sw σ α (zk_md τ β t))) rfl rfl rfl ?_
    refine zk_if_eq (tgt := 23) dM_act_11 (by decide) ⟨by decide, by decide⟩ (fun h11 => ?_) (fun h11 => ?_)
    · skip
      exact absurd h11 (by decide)
    · skip
      refine zk_iload_n dM_act_14 rfl ?_
      refine zk_iconst dM_act_15 ?_
      refine zk_iconst dM_act_16 ?_
      refine zk_callS (av := [.inl y, .inl 0, .inl 4]) (st := []) (d' := (0, 0)) (kc' := 0) (ks' := 0) zbM_77 dM_act_17 rfl rfl (Nat.le_of_ble_eq_true rfl) ⟨by decide, by decide⟩ rfl rfl (kM_isIn G sw σ α τ β t hy ⟨by decide, by decide⟩ ⟨by decide, by decide⟩) (fun v9 h9 q9 => ?_)
      rcases q9 with ⟨rfl, ⟨hc17, rfl⟩ | ⟨hc17, rfl⟩⟩
      · skip
        refine zk_W.to (ls' := [some (.inr (some 22)), some (.inl x), some (.inl y)]) (st' := [.inl 1]) (h' := (zk_mk G sw σ α (zk_md τ β t))) rfl rfl rfl ?_
        refine zk_if_ne (tgt := 26) dM_act_20 (by decide) ⟨by decide, by decide⟩ (fun h20 => ?_) (fun h20 => ?_)
        · skip
          have ex : x = ((x.toNat : Nat) : Int) := by omega
          have el : ([some (.inr (some 22)), some (.inl x), some (.inl y)] : List (Option zk_V)) = [some (.inr (some 22)), some (.inl ((x.toNat : Nat) : Int)), some (.inl y)] := by rw [← ex]
          refine zk_W.to (ls' := [some (.inr (some 22)), some (.inl ((x.toNat : Nat) : Int)), some (.inl y)]) (st' := []) (h' := (zk_mk G sw σ α (zk_md τ β t))) el rfl rfl ?_
          obtain ⟨a1, a2, a3⟩ := hA x.toNat (by omega)
          refine zk_iload_n dM_act_26 rfl ?_
          by_cases h27_0 : y = 0
          · skip
            refine zk_tableIn (tgt := 56) dM_act_27 hy (by omega) (by omega) (by rw [h27_0]; rfl) (by decide) ?_
            refine zk_aload_n dM_act_56 rfl ?_
            refine zk_get zfM_16 dM_act_57 (v := .inr (some 25)) rfl (by decide) rfl ?_
            refine zk_iload_n dM_act_60 rfl ?_
            refine zk_iald dM_act_61 (n := 100) (f := β 2) rfl (by omega) (by omega) (by omega) ?_
            refine zk_W.to (ls' := [some (.inr (some 22)), some (.inl ((x.toNat : Nat) : Int)), some (.inl y)]) (st' := [.inl (β 2 x.toNat)]) (h' := (zk_mk G sw σ α (zk_md τ β t))) rfl rfl rfl ?_
            refine zk_iret dM_act_62 rfl ⟨rfl, Or.inr ⟨by omega, Or.inl ⟨by omega, ?_⟩⟩⟩
            rfl
          by_cases h27_1 : y = 1
          · skip
            refine zk_tableIn (tgt := 63) dM_act_27 hy (by omega) (by omega) (by rw [h27_1]; rfl) (by decide) ?_
            refine zk_aload_n dM_act_63 rfl ?_
            refine zk_get zfM_22 dM_act_64 (v := .inr (some 27)) rfl (by decide) rfl ?_
            refine zk_iload_n dM_act_67 rfl ?_
            refine zk_iald dM_act_68 (n := 100) (f := β 4) rfl (by omega) (by omega) (by omega) ?_
            refine zk_W.to (ls' := [some (.inr (some 22)), some (.inl ((x.toNat : Nat) : Int)), some (.inl y)]) (st' := [.inl (β 4 x.toNat)]) (h' := (zk_mk G sw σ α (zk_md τ β t))) rfl rfl rfl ?_
            refine zk_iret dM_act_69 rfl ⟨rfl, Or.inr ⟨by omega, Or.inr (Or.inl ⟨by omega, ?_⟩)⟩⟩
            rfl
          by_cases h27_2 : y = 2
          · skip
            refine zk_tableIn (tgt := 70) dM_act_27 hy (by omega) (by omega) (by rw [h27_2]; rfl) (by decide) ?_
            refine zk_aload_n dM_act_70 rfl ?_
            refine zk_get zfM_16 dM_act_71 (v := .inr (some 25)) rfl (by decide) rfl ?_
            refine zk_iload_n dM_act_74 rfl ?_
            refine zk_iald dM_act_75 (n := 100) (f := β 2) rfl (by omega) (by omega) (by omega) ?_
            refine zk_W.to (ls' := [some (.inr (some 22)), some (.inl ((x.toNat : Nat) : Int)), some (.inl y)]) (st' := [.inl (β 2 x.toNat)]) (h' := (zk_mk G sw σ α (zk_md τ β t))) rfl rfl rfl ?_
            refine zk_iconst dM_act_76 ?_
            refine zk_icmp_ne (tgt := 84) dM_act_77 (by decide) ⟨by omega, by omega⟩ ⟨by decide, by decide⟩ (fun h77 => ?_) (fun h77 => ?_)
            · skip
              refine zk_aload_n dM_act_84 rfl ?_
              refine zk_get zfM_19 dM_act_85 (v := .inr (some 26)) rfl (by decide) rfl ?_
              refine zk_iload_n dM_act_88 rfl ?_
              refine zk_iald dM_act_89 (n := 100) (f := β 3) rfl (by omega) (by omega) (by omega) ?_
              refine zk_W.to (ls' := [some (.inr (some 22)), some (.inl ((x.toNat : Nat) : Int)), some (.inl y)]) (st' := [.inl (β 3 x.toNat)]) (h' := (zk_mk G sw σ α (zk_md τ β t))) rfl rfl rfl ?_
              refine zk_iret dM_act_90 rfl ⟨rfl, Or.inr ⟨by omega, Or.inr (Or.inr (Or.inl ⟨by omega, ?_⟩))⟩⟩
              rw [if_neg h77]
            · skip
              refine zk_iconst dM_act_80 ?_
              refine zk_goto (tgt := 90) dM_act_81 (by decide) ?_
              refine zk_iret dM_act_90 rfl ⟨rfl, Or.inr ⟨by omega, Or.inr (Or.inr (Or.inl ⟨by omega, ?_⟩))⟩⟩
              rw [if_pos h77]
          by_cases h27_3 : y = 3
          · skip
            refine zk_tableIn (tgt := 91) dM_act_27 hy (by omega) (by omega) (by rw [h27_3]; rfl) (by decide) ?_
            refine zk_aload_n dM_act_91 rfl ?_
            refine zk_iload_n dM_act_92 rfl ?_
            refine zk_callV (av := [.inl ((x.toNat : Nat) : Int)]) (st := []) (d' := (0, 0)) (kc' := 0) (ks' := 0) zbM_114 dM_act_93 rfl (by decide) rfl rfl (Nat.le_of_ble_eq_true rfl) ⟨by decide, by decide⟩ rfl rfl (kM_spotOf G sw σ α τ β t hJ (k0 := x.toNat) (by omega)) (fun v9 h9 q9 => ?_)
            obtain ⟨rfl, rfl⟩ := q9
            refine zk_W.to (ls' := [some (.inr (some 22)), some (.inl ((x.toNat : Nat) : Int)), some (.inl y)]) (st' := [.inl (mt_spot (β 2) (β 3) (β 4) x.toNat)]) (h' := (zk_mk G sw σ α (zk_md τ β t))) rfl rfl rfl ?_
            refine zk_iret dM_act_96 rfl ⟨rfl, Or.inr ⟨by omega, Or.inr (Or.inr (Or.inr (Or.inl ⟨by omega, ?_⟩)))⟩⟩
            rfl
          refine zk_tableOut (tgt := 97) dM_act_27 hy (by omega) (by decide) ?_
          refine zk_aload_n dM_act_97 rfl ?_
          refine zk_iload_n dM_act_98 rfl ?_
          refine zk_callV (av := [.inl ((x.toNat : Nat) : Int)]) (st := []) (d' := (1, 24)) (kc' := 0) (ks' := 0) zbM_117 dM_act_99 rfl (by decide) rfl rfl (Nat.le_of_ble_eq_true rfl) ⟨by decide, by decide⟩ rfl rfl (kM_costAt G sw σ α τ β t hJ (k0 := x.toNat) (by omega)) (fun v9 h9 q9 => ?_)
          obtain ⟨rfl, rfl⟩ := q9
          refine zk_W.to (ls' := [some (.inr (some 22)), some (.inl ((x.toNat : Nat) : Int)), some (.inl y)]) (st' := [.inl (mt_cost (zm_c τ) (β 2) (β 3) (β 4) x.toNat)]) (h' := (zk_mk G sw σ α (zk_md τ β t))) rfl rfl rfl ?_
          refine zk_iret dM_act_102 rfl ⟨rfl, Or.inr ⟨by omega, Or.inr (Or.inr (Or.inr (Or.inr (⟨by omega, ?_⟩))))⟩⟩
          rfl
        · skip
          exact absurd h20 (by decide)
      · skip
        refine zk_W.to (ls' := [some (.inr (some 22)), some (.inl x), some (.inl y)]) (st' := [.inl 0]) (h' := (zk_mk G sw σ α (zk_md τ β t))) rfl rfl rfl ?_
        refine zk_if_ne (tgt := 26) dM_act_20 (by decide) ⟨by decide, by decide⟩ (fun h20 => ?_) (fun h20 => ?_)
        · skip
          exact absurd h20 (by decide)
        · skip
          refine zk_bipush dM_act_23 (by decide) ?_
          exact zk_iret dM_act_25 rfl ⟨rfl, Or.inl ⟨by omega, rfl⟩⟩
  · skip
    refine zk_W.to (ls' := [some (.inr (some 22)), some (.inl x), some (.inl y)]) (st' := [.inl 0]) (h' := (zk_mk G sw σ α (zk_md τ β t))) rfl rfl rfl ?_
    refine zk_if_eq (tgt := 23) dM_act_11 (by decide) ⟨by decide, by decide⟩ (fun h11 => ?_) (fun h11 => ?_)
    · skip
      refine zk_bipush dM_act_23 (by decide) ?_
      exact zk_iret dM_act_25 rfl ⟨rfl, Or.inl ⟨by omega, rfl⟩⟩
    · skip
      exact absurd h11 (by decide)

set_option maxRecDepth 100000 in
set_option maxHeartbeats 4000000 in
theorem kM_laid (G : zk_G) (sw : Bool) (σ : Nat → Int) (α : Nat → Nat → Int) (τ : Nat → Int) (β : Nat → Nat → Int) (t : zk_H) (hJ : zm_J τ β) {x y : Int} (hx : zk_rg x) (hy : zk_rg y) : zk_K G mM_laid (1, 22) 0 0 [.inr (some 22), .inl x, .inl y] (zk_mk G sw σ α (zk_md τ β t)) (fun v h' => h' = (zk_mk G sw σ α (zk_md τ β t)) ∧ (((¬ ((0 ≤ x ∧ x ≤ τ 5 - 1) ∧ β 2 x.toNat = 2 ∧ (0 ≤ y ∧ y ≤ β 4 x.toNat - 1))) ∧ v = some (.inl (-2))) ∨ (((0 ≤ x ∧ x ≤ τ 5 - 1) ∧ β 2 x.toNat = 2 ∧ (0 ≤ y ∧ y ≤ β 4 x.toNat - 1)) ∧ v = some (.inl (β 5 (40 * x + y).toNat))))) := by
  have hI := hJ.1
  have i0 := hI.1
  have i1 := hI.2.1
  have c0 : 0 ≤ τ 0 ∧ τ 0 ≤ 100 := hI.2.2.2 0 (by decide)
  have c1 : 0 ≤ τ 1 ∧ τ 1 ≤ 100 := hI.2.2.2 1 (by decide)
  have c2 : 0 ≤ τ 2 ∧ τ 2 ≤ 100 := hI.2.2.2 2 (by decide)
  have c3 : 0 ≤ τ 3 ∧ τ 3 ≤ 100 := hI.2.2.2 3 (by decide)
  have c4 : 0 ≤ τ 4 ∧ τ 4 ≤ 100 := hI.2.2.2 4 (by decide)
  have j5 := hJ.2.1
  have j6 := hJ.2.2.1
  have j7 := hJ.2.2.2.1
  have j8 := hJ.2.2.2.2.1
  have hA := hJ.2.2.2.2.2.1
  refine zk_K.of (ls := [some (.inr (some 22)), some (.inl x), some (.inl y)]) (by decide +kernel) (Nat.le_of_ble_eq_true rfl) rfl ?_
  refine zk_iload_n dM_laid_0 rfl ?_
  refine zk_iconst dM_laid_1 ?_
  refine zk_aload_n dM_laid_2 rfl ?_
  refine zk_get zfM_56 dM_laid_3 (v := .inl (τ 5)) rfl (by decide) rfl ?_
  refine zk_iconst dM_laid_6 ?_
  refine zk_isub dM_laid_7 ?_
  refine zk_callS (av := [.inl x, .inl 0, .inl ((τ 5) - 1)]) (st := []) (d' := (0, 0)) (kc' := 0) (ks' := 0) zbM_77 dM_laid_8 rfl rfl (Nat.le_of_ble_eq_true rfl) ⟨by decide, by decide⟩ rfl rfl (kM_isIn G sw σ α τ β t hx ⟨by decide, by decide⟩ ⟨by omega, by omega⟩) (fun v9 h9 q9 => ?_)
  rcases q9 with ⟨rfl, ⟨hc8, rfl⟩ | ⟨hc8, rfl⟩⟩
  · skip
    refine zk_W.to (ls' := [some (.inr (some 22)), some (.inl x), some (.inl y)]) (st' := [.inl 1]) (h' := (zk_mk G sw σ α (zk_md τ β t))) rfl rfl rfl ?_
    refine zk_if_eq (tgt := 54) dM_laid_11 (by decide) ⟨by decide, by decide⟩ (fun h11 => ?_) (fun h11 => ?_)
    · skip
      exact absurd h11 (by decide)
    · skip
      obtain ⟨a1, a2, a3⟩ := hA x.toNat (by omega)
      refine zk_aload_n dM_laid_14 rfl ?_
      refine zk_get zfM_16 dM_laid_15 (v := .inr (some 25)) rfl (by decide) rfl ?_
      refine zk_iload_n dM_laid_18 rfl ?_
      refine zk_iald dM_laid_19 (n := 100) (f := β 2) rfl (by omega) (by omega) (by omega) ?_
      refine zk_iconst dM_laid_20 ?_
      refine zk_icmp_ne (tgt := 54) dM_laid_21 (by decide) ⟨by omega, by omega⟩ ⟨by decide, by decide⟩ (fun h21 => ?_) (fun h21 => ?_)
      · skip
        refine zk_bipush dM_laid_54 (by decide) ?_
        exact zk_iret dM_laid_56 rfl ⟨rfl, Or.inl ⟨by omega, rfl⟩⟩
      · skip
        refine zk_iload_n dM_laid_24 rfl ?_
        refine zk_iconst dM_laid_25 ?_
        refine zk_aload_n dM_laid_26 rfl ?_
        refine zk_get zfM_22 dM_laid_27 (v := .inr (some 27)) rfl (by decide) rfl ?_
        refine zk_iload_n dM_laid_30 rfl ?_
        refine zk_iald dM_laid_31 (n := 100) (f := β 4) rfl (by omega) (by omega) (by omega) ?_
        refine zk_iconst dM_laid_32 ?_
        refine zk_isub dM_laid_33 ?_
        refine zk_callS (av := [.inl y, .inl 0, .inl ((β 4 x.toNat) - 1)]) (st := []) (d' := (0, 0)) (kc' := 0) (ks' := 0) zbM_77 dM_laid_34 rfl rfl (Nat.le_of_ble_eq_true rfl) ⟨by decide, by decide⟩ rfl rfl (kM_isIn G sw σ α τ β t hy ⟨by decide, by decide⟩ ⟨by omega, by omega⟩) (fun v9 h9 q9 => ?_)
        rcases q9 with ⟨rfl, ⟨hc34, rfl⟩ | ⟨hc34, rfl⟩⟩
        · skip
          refine zk_W.to (ls' := [some (.inr (some 22)), some (.inl x), some (.inl y)]) (st' := [.inl 1]) (h' := (zk_mk G sw σ α (zk_md τ β t))) rfl rfl rfl ?_
          refine zk_if_eq (tgt := 54) dM_laid_37 (by decide) ⟨by decide, by decide⟩ (fun h37 => ?_) (fun h37 => ?_)
          · skip
            exact absurd h37 (by decide)
          · skip
            refine zk_aload_n dM_laid_40 rfl ?_
            refine zk_get zfM_25 dM_laid_41 (v := .inr (some 28)) rfl (by decide) rfl ?_
            refine zk_bipush dM_laid_44 (by decide) ?_
            refine zk_iload_n dM_laid_46 rfl ?_
            refine zk_imul dM_laid_47 ?_
            refine zk_iload_n dM_laid_48 rfl ?_
            refine zk_iadd dM_laid_49 ?_
            refine zk_iald dM_laid_50 (n := 4000) (f := β 5) rfl (by omega) (by omega) (by omega) ?_
            refine zk_goto (tgt := 56) dM_laid_51 (by decide) ?_
            exact zk_iret dM_laid_56 rfl ⟨rfl, Or.inr ⟨by omega, rfl⟩⟩
        · skip
          refine zk_W.to (ls' := [some (.inr (some 22)), some (.inl x), some (.inl y)]) (st' := [.inl 0]) (h' := (zk_mk G sw σ α (zk_md τ β t))) rfl rfl rfl ?_
          refine zk_if_eq (tgt := 54) dM_laid_37 (by decide) ⟨by decide, by decide⟩ (fun h37 => ?_) (fun h37 => ?_)
          · skip
            refine zk_bipush dM_laid_54 (by decide) ?_
            exact zk_iret dM_laid_56 rfl ⟨rfl, Or.inl ⟨by omega, rfl⟩⟩
          · skip
            exact absurd h37 (by decide)
  · skip
    refine zk_W.to (ls' := [some (.inr (some 22)), some (.inl x), some (.inl y)]) (st' := [.inl 0]) (h' := (zk_mk G sw σ α (zk_md τ β t))) rfl rfl rfl ?_
    refine zk_if_eq (tgt := 54) dM_laid_11 (by decide) ⟨by decide, by decide⟩ (fun h11 => ?_) (fun h11 => ?_)
    · skip
      refine zk_bipush dM_laid_54 (by decide) ?_
      exact zk_iret dM_laid_56 rfl ⟨rfl, Or.inl ⟨by omega, rfl⟩⟩
    · skip
      exact absurd h11 (by decide)

set_option maxRecDepth 100000 in
set_option maxHeartbeats 4000000 in
theorem kM_empty (G : zk_G) (sw : Bool) (σ : Nat → Int) (α : Nat → Nat → Int) (τ : Nat → Int) (β : Nat → Nat → Int) (t : zk_H) (hJ : zm_J τ β)  : zk_K G mM_empty (2, 45) 0 0 [.inr (some 22)] (zk_mk G sw σ α (zk_md τ β t)) (fun v h' => h' = zk_mk G sw σ α (zk_md (zk_up (zk_up τ 5 0) 6 (mt_sum (zm_T β 0) (zm_n β 0))) β t) ∧ v = some (.inl (τ 5))) := by
  have hI := hJ.1
  have i0 := hI.1
  have i1 := hI.2.1
  have c0 : 0 ≤ τ 0 ∧ τ 0 ≤ 100 := hI.2.2.2 0 (by decide)
  have c1 : 0 ≤ τ 1 ∧ τ 1 ≤ 100 := hI.2.2.2 1 (by decide)
  have c2 : 0 ≤ τ 2 ∧ τ 2 ≤ 100 := hI.2.2.2 2 (by decide)
  have c3 : 0 ≤ τ 3 ∧ τ 3 ≤ 100 := hI.2.2.2 3 (by decide)
  have c4 : 0 ≤ τ 4 ∧ τ 4 ≤ 100 := hI.2.2.2 4 (by decide)
  have j5 := hJ.2.1
  have j6 := hJ.2.2.1
  have j7 := hJ.2.2.2.1
  have j8 := hJ.2.2.2.2.1
  have hA := hJ.2.2.2.2.2.1
  refine zk_K.of (ls := [some (.inr (some 22)), none]) (by decide +kernel) (Nat.le_of_ble_eq_true rfl) rfl ?_
  refine zk_aload_n dM_empty_0 rfl ?_
  refine zk_get zfM_56 dM_empty_1 (v := .inl (τ 5)) rfl (by decide) rfl ?_
  refine zk_istore_n (ls' := [some (.inr (some 22)), some (.inl (τ 5))]) dM_empty_4 (by decide) rfl ?_
  refine zk_aload_n dM_empty_5 rfl ?_
  refine zk_iconst dM_empty_6 ?_
  refine zk_put zfM_56 dM_empty_7 (h' := (zk_mk G sw σ α (zk_md (zk_up τ 5 0) β t))) rfl (by decide) (Nat.le_of_ble_eq_true rfl) rfl rfl rfl ?_
  refine zk_aload_n dM_empty_10 rfl ?_
  refine zk_aload_n dM_empty_11 rfl ?_
  refine zk_iconst dM_empty_12 ?_
  refine zk_callV (av := [.inl 0]) (st := [.inr (some 22)]) (d' := (1, 22)) (kc' := 0) (ks' := 0) zbM_106 dM_empty_13 rfl (by decide) rfl rfl (Nat.le_of_ble_eq_true rfl) ⟨by decide, by decide⟩ rfl rfl (kM_sumOf G sw σ α (zk_up τ 5 0) β t hI (q := 0) (by decide)) (fun v9 h9 q9 => ?_)
  obtain ⟨rfl, rfl⟩ := q9
  refine zk_W.to (ls' := [some (.inr (some 22)), some (.inl (τ 5))]) (st' := [.inl (mt_sum (zm_T β 0) (zm_n β 0)), .inr (some 22)]) (h' := (zk_mk G sw σ α (zk_md (zk_up τ 5 0) β t))) rfl rfl rfl ?_
  refine zk_put zfM_59 dM_empty_16 (h' := (zk_mk G sw σ α (zk_md (zk_up (zk_up τ 5 0) 6 (mt_sum (zm_T β 0) (zm_n β 0))) β t))) rfl (by decide) (Nat.le_of_ble_eq_true rfl) rfl rfl rfl ?_
  refine zk_iload_n dM_empty_19 rfl ?_
  exact zk_iret dM_empty_20 rfl ⟨rfl, rfl⟩

set_option maxRecDepth 100000 in
set_option maxHeartbeats 4000000 in
theorem kM_add (G : zk_G) (sw : Bool) (σ : Nat → Int) (α : Nat → Nat → Int) (τ : Nat → Int) (β : Nat → Nat → Int) (t : zk_H) (hJ : zm_J τ β) {x y z : Int} (hx : zk_rg x) (hy : zk_rg y) (hz : zk_rg z) : zk_K G mM_add (1, 22) 0 0 [.inr (some 22), .inl x, .inl y, .inl z] (zk_mk G sw σ α (zk_md τ β t)) (fun v h' => ((¬ ((0 ≤ x ∧ x ≤ 1) ∧ (0 ≤ y ∧ y ≤ 79) ∧ (1 ≤ z ∧ z ≤ 40))) ∧ h' = (zk_mk G sw σ α (zk_md τ β t)) ∧ v = some (.inl (-2))) ∨ (((0 ≤ x ∧ x ≤ 1) ∧ (0 ≤ y ∧ y ≤ 79) ∧ (1 ≤ z ∧ z ≤ 40)) ∧ τ 5 = 100 ∧ h' = (zk_mk G sw σ α (zk_md τ β t)) ∧ v = some (.inl (-3))) ∨ (((0 ≤ x ∧ x ≤ 1) ∧ (0 ≤ y ∧ y ≤ 79) ∧ (1 ≤ z ∧ z ≤ 40)) ∧ τ 5 ≠ 100 ∧ h' = zk_mk G sw σ α (zk_md (zk_up τ 5 (τ 5 + 1)) (zk_ua (zk_ua (zk_ua β 2 (zk_up (β 2) (τ 5).toNat x)) 3 (zk_up (β 3) (τ 5).toNat y)) 4 (zk_up (β 4) (τ 5).toNat z)) t) ∧ v = some (.inl (τ 5 + 1)))) := by
  have hI := hJ.1
  have i0 := hI.1
  have i1 := hI.2.1
  have c0 : 0 ≤ τ 0 ∧ τ 0 ≤ 100 := hI.2.2.2 0 (by decide)
  have c1 : 0 ≤ τ 1 ∧ τ 1 ≤ 100 := hI.2.2.2 1 (by decide)
  have c2 : 0 ≤ τ 2 ∧ τ 2 ≤ 100 := hI.2.2.2 2 (by decide)
  have c3 : 0 ≤ τ 3 ∧ τ 3 ≤ 100 := hI.2.2.2 3 (by decide)
  have c4 : 0 ≤ τ 4 ∧ τ 4 ≤ 100 := hI.2.2.2 4 (by decide)
  have j5 := hJ.2.1
  have j6 := hJ.2.2.1
  have j7 := hJ.2.2.2.1
  have j8 := hJ.2.2.2.2.1
  have hA := hJ.2.2.2.2.2.1
  refine zk_K.of (ls := [some (.inr (some 22)), some (.inl x), some (.inl y), some (.inl z)]) (by decide +kernel) (Nat.le_of_ble_eq_true rfl) rfl ?_
  refine zk_iload_n dM_add_0 rfl ?_
  refine zk_iconst dM_add_1 ?_
  refine zk_iconst dM_add_2 ?_
  refine zk_callS (av := [.inl x, .inl 0, .inl 1]) (st := []) (d' := (0, 0)) (kc' := 0) (ks' := 0) zbM_77 dM_add_3 rfl rfl (Nat.le_of_ble_eq_true rfl) ⟨by decide, by decide⟩ rfl rfl (kM_isIn G sw σ α τ β t hx ⟨by decide, by decide⟩ ⟨by decide, by decide⟩) (fun v9 h9 q9 => ?_)
  rcases q9 with ⟨rfl, ⟨hc3, rfl⟩ | ⟨hc3, rfl⟩⟩
  · skip
    refine zk_W.to (ls' := [some (.inr (some 22)), some (.inl x), some (.inl y), some (.inl z)]) (st' := [.inl 1]) (h' := (zk_mk G sw σ α (zk_md τ β t))) rfl rfl rfl ?_
    refine zk_if_eq (tgt := 29) dM_add_6 (by decide) ⟨by decide, by decide⟩ (fun h6 => ?_) (fun h6 => ?_)
    · skip
      exact absurd h6 (by decide)
    · skip
      refine zk_iload_n dM_add_9 rfl ?_
      refine zk_iconst dM_add_10 ?_
      refine zk_bipush dM_add_11 (by decide) ?_
      refine zk_callS (av := [.inl y, .inl 0, .inl 79]) (st := []) (d' := (0, 0)) (kc' := 0) (ks' := 0) zbM_77 dM_add_13 rfl rfl (Nat.le_of_ble_eq_true rfl) ⟨by decide, by decide⟩ rfl rfl (kM_isIn G sw σ α τ β t hy ⟨by decide, by decide⟩ ⟨by decide, by decide⟩) (fun v9 h9 q9 => ?_)
      rcases q9 with ⟨rfl, ⟨hc13, rfl⟩ | ⟨hc13, rfl⟩⟩
      · skip
        refine zk_W.to (ls' := [some (.inr (some 22)), some (.inl x), some (.inl y), some (.inl z)]) (st' := [.inl 1]) (h' := (zk_mk G sw σ α (zk_md τ β t))) rfl rfl rfl ?_
        refine zk_if_eq (tgt := 29) dM_add_16 (by decide) ⟨by decide, by decide⟩ (fun h16 => ?_) (fun h16 => ?_)
        · skip
          exact absurd h16 (by decide)
        · skip
          refine zk_iload_n dM_add_19 rfl ?_
          refine zk_iconst dM_add_20 ?_
          refine zk_bipush dM_add_21 (by decide) ?_
          refine zk_callS (av := [.inl z, .inl 1, .inl 40]) (st := []) (d' := (0, 0)) (kc' := 0) (ks' := 0) zbM_77 dM_add_23 rfl rfl (Nat.le_of_ble_eq_true rfl) ⟨by decide, by decide⟩ rfl rfl (kM_isIn G sw σ α τ β t hz ⟨by decide, by decide⟩ ⟨by decide, by decide⟩) (fun v9 h9 q9 => ?_)
          rcases q9 with ⟨rfl, ⟨hc23, rfl⟩ | ⟨hc23, rfl⟩⟩
          · skip
            refine zk_W.to (ls' := [some (.inr (some 22)), some (.inl x), some (.inl y), some (.inl z)]) (st' := [.inl 1]) (h' := (zk_mk G sw σ α (zk_md τ β t))) rfl rfl rfl ?_
            refine zk_if_ne (tgt := 32) dM_add_26 (by decide) ⟨by decide, by decide⟩ (fun h26 => ?_) (fun h26 => ?_)
            · skip
              refine zk_aload_n dM_add_32 rfl ?_
              refine zk_get zfM_56 dM_add_33 (v := .inl (τ 5)) rfl (by decide) rfl ?_
              refine zk_bipush dM_add_36 (by decide) ?_
              refine zk_icmp_ne (tgt := 44) dM_add_38 (by decide) ⟨by omega, by omega⟩ ⟨by decide, by decide⟩ (fun h38 => ?_) (fun h38 => ?_)
              · skip
                refine zk_aload_n dM_add_44 rfl ?_
                refine zk_get zfM_16 dM_add_45 (v := .inr (some 25)) rfl (by decide) rfl ?_
                refine zk_aload_n dM_add_48 rfl ?_
                refine zk_get zfM_56 dM_add_49 (v := .inl (τ 5)) rfl (by decide) rfl ?_
                refine zk_iload_n dM_add_52 rfl ?_
                refine zk_iast dM_add_53 (n := 100) (f := β 2) (h' := (zk_mk G sw σ α (zk_md τ (zk_ua β 2 (zk_up (β 2) (τ 5).toNat x)) t))) rfl (by decide) (by omega) (by omega) (by omega) rfl ?_
                refine zk_aload_n dM_add_54 rfl ?_
                refine zk_get zfM_19 dM_add_55 (v := .inr (some 26)) rfl (by decide) rfl ?_
                refine zk_aload_n dM_add_58 rfl ?_
                refine zk_get zfM_56 dM_add_59 (v := .inl (τ 5)) rfl (by decide) rfl ?_
                refine zk_iload_n dM_add_62 rfl ?_
                refine zk_iast dM_add_63 (n := 100) (f := β 3) (h' := (zk_mk G sw σ α (zk_md τ (zk_ua (zk_ua β 2 (zk_up (β 2) (τ 5).toNat x)) 3 (zk_up (β 3) (τ 5).toNat y)) t))) rfl (by decide) (by omega) (by omega) (by omega) rfl ?_
                refine zk_aload_n dM_add_64 rfl ?_
                refine zk_get zfM_22 dM_add_65 (v := .inr (some 27)) rfl (by decide) rfl ?_
                refine zk_aload_n dM_add_68 rfl ?_
                refine zk_get zfM_56 dM_add_69 (v := .inl (τ 5)) rfl (by decide) rfl ?_
                refine zk_iload_n dM_add_72 rfl ?_
                refine zk_iast dM_add_73 (n := 100) (f := β 4) (h' := (zk_mk G sw σ α (zk_md τ (zk_ua (zk_ua (zk_ua β 2 (zk_up (β 2) (τ 5).toNat x)) 3 (zk_up (β 3) (τ 5).toNat y)) 4 (zk_up (β 4) (τ 5).toNat z)) t))) rfl (by decide) (by omega) (by omega) (by omega) rfl ?_
                refine zk_aload_n dM_add_74 rfl ?_
                refine zk_dup dM_add_75 ?_
                refine zk_get zfM_56 dM_add_76 (v := .inl (τ 5)) rfl (by decide) rfl ?_
                refine zk_iconst dM_add_79 ?_
                refine zk_iadd dM_add_80 ?_
                refine zk_put zfM_56 dM_add_81 (h' := (zk_mk G sw σ α (zk_md (zk_up τ 5 ((τ 5) + 1)) (zk_ua (zk_ua (zk_ua β 2 (zk_up (β 2) (τ 5).toNat x)) 3 (zk_up (β 3) (τ 5).toNat y)) 4 (zk_up (β 4) (τ 5).toNat z)) t))) rfl (by decide) (Nat.le_of_ble_eq_true rfl) rfl rfl rfl ?_
                refine zk_aload_n dM_add_84 rfl ?_
                refine zk_get zfM_56 dM_add_85 (v := .inl ((τ 5) + 1)) rfl (by decide) rfl ?_
                exact zk_iret dM_add_88 rfl (Or.inr (Or.inr ⟨by omega, by omega, rfl, rfl⟩))
              · skip
                refine zk_bipush dM_add_41 (by decide) ?_
                exact zk_iret dM_add_43 rfl (Or.inr (Or.inl ⟨by omega, by omega, rfl, rfl⟩))
            · skip
              exact absurd h26 (by decide)
          · skip
            refine zk_W.to (ls' := [some (.inr (some 22)), some (.inl x), some (.inl y), some (.inl z)]) (st' := [.inl 0]) (h' := (zk_mk G sw σ α (zk_md τ β t))) rfl rfl rfl ?_
            refine zk_if_ne (tgt := 32) dM_add_26 (by decide) ⟨by decide, by decide⟩ (fun h26 => ?_) (fun h26 => ?_)
            · skip
              exact absurd h26 (by decide)
            · skip
              refine zk_bipush dM_add_29 (by decide) ?_
              exact zk_iret dM_add_31 rfl (Or.inl ⟨by omega, rfl, rfl⟩)
      · skip
        refine zk_W.to (ls' := [some (.inr (some 22)), some (.inl x), some (.inl y), some (.inl z)]) (st' := [.inl 0]) (h' := (zk_mk G sw σ α (zk_md τ β t))) rfl rfl rfl ?_
        refine zk_if_eq (tgt := 29) dM_add_16 (by decide) ⟨by decide, by decide⟩ (fun h16 => ?_) (fun h16 => ?_)
        · skip
          refine zk_bipush dM_add_29 (by decide) ?_
          exact zk_iret dM_add_31 rfl (Or.inl ⟨by omega, rfl, rfl⟩)
        · skip
          exact absurd h16 (by decide)
  · skip
    refine zk_W.to (ls' := [some (.inr (some 22)), some (.inl x), some (.inl y), some (.inl z)]) (st' := [.inl 0]) (h' := (zk_mk G sw σ α (zk_md τ β t))) rfl rfl rfl ?_
    refine zk_if_eq (tgt := 29) dM_add_6 (by decide) ⟨by decide, by decide⟩ (fun h6 => ?_) (fun h6 => ?_)
    · skip
      refine zk_bipush dM_add_29 (by decide) ?_
      exact zk_iret dM_add_31 rfl (Or.inl ⟨by omega, rfl, rfl⟩)
    · skip
      exact absurd h6 (by decide)

/-- the last act of the reference is a LAY that takes one byte more -/
def zm_tk (τ : Nat → Int) (β : Nat → Nat → Int) : Prop := 0 < τ 5 ∧ β 2 (τ 5 - 1).toNat = 2 ∧ β 4 (τ 5 - 1).toNat < 40

set_option maxRecDepth 100000 in
set_option maxHeartbeats 4000000 in
theorem kM_lay (G : zk_G) (sw : Bool) (σ : Nat → Int) (α : Nat → Nat → Int) (τ : Nat → Int) (β : Nat → Nat → Int) (t : zk_H) (hJ : zm_J τ β) {x : Int} (hx : zk_rg x) : zk_K G mM_lay (1, 22) 0 0 [.inr (some 22), .inl x] (zk_mk G sw σ α (zk_md τ β t)) (fun v h' => ((¬ (0 ≤ x ∧ x ≤ 255)) ∧ h' = (zk_mk G sw σ α (zk_md τ β t)) ∧ v = some (.inl (-2))) ∨ ((0 ≤ x ∧ x ≤ 255) ∧ zm_tk τ β ∧ h' = zk_mk G sw σ α (zk_md τ (zk_ua (zk_ua β 5 (zk_up (β 5) (40 * (τ 5 - 1) + β 4 (τ 5 - 1).toNat).toNat x)) 4 (zk_up (β 4) (τ 5 - 1).toNat (β 4 (τ 5 - 1).toNat + 1))) t) ∧ v = some (.inl (τ 5))) ∨ ((0 ≤ x ∧ x ≤ 255) ∧ (¬ zm_tk τ β) ∧ τ 5 = 100 ∧ h' = (zk_mk G sw σ α (zk_md τ β t)) ∧ v = some (.inl (-3))) ∨ ((0 ≤ x ∧ x ≤ 255) ∧ (¬ zm_tk τ β) ∧ τ 5 ≠ 100 ∧ h' = zk_mk G sw σ α (zk_md (zk_up τ 5 (τ 5 + 1)) (zk_ua (zk_ua (zk_ua (zk_ua (zk_ua β 2 (zk_up (β 2) (τ 5).toNat 2)) 3 (zk_up (β 3) (τ 5).toNat 0)) 4 (zk_up (β 4) (τ 5).toNat 0)) 5 (zk_up (β 5) (40 * τ 5).toNat x)) 4 (zk_up (β 4) (τ 5).toNat 1)) t) ∧ v = some (.inl (τ 5 + 1)))) := by
  have hI := hJ.1
  have i0 := hI.1
  have i1 := hI.2.1
  have c0 : 0 ≤ τ 0 ∧ τ 0 ≤ 100 := hI.2.2.2 0 (by decide)
  have c1 : 0 ≤ τ 1 ∧ τ 1 ≤ 100 := hI.2.2.2 1 (by decide)
  have c2 : 0 ≤ τ 2 ∧ τ 2 ≤ 100 := hI.2.2.2 2 (by decide)
  have c3 : 0 ≤ τ 3 ∧ τ 3 ≤ 100 := hI.2.2.2 3 (by decide)
  have c4 : 0 ≤ τ 4 ∧ τ 4 ≤ 100 := hI.2.2.2 4 (by decide)
  have j5 := hJ.2.1
  have j6 := hJ.2.2.1
  have j7 := hJ.2.2.2.1
  have j8 := hJ.2.2.2.2.1
  have hA := hJ.2.2.2.2.2.1
  refine zk_K.of (ls := [some (.inr (some 22)), some (.inl x), none]) (by decide +kernel) (Nat.le_of_ble_eq_true rfl) rfl ?_
  refine zk_iload_n dM_lay_0 rfl ?_
  refine zk_iconst dM_lay_1 ?_
  refine zk_sipush dM_lay_2 (by decide) ?_
  refine zk_callS (av := [.inl x, .inl 0, .inl 255]) (st := []) (d' := (0, 0)) (kc' := 0) (ks' := 0) zbM_77 dM_lay_5 rfl rfl (Nat.le_of_ble_eq_true rfl) ⟨by decide, by decide⟩ rfl rfl (kM_isIn G sw σ α τ β t hx ⟨by decide, by decide⟩ ⟨by decide, by decide⟩) (fun v9 h9 q9 => ?_)
  rcases q9 with ⟨rfl, ⟨hc5, rfl⟩ | ⟨hc5, rfl⟩⟩
  · skip
    refine zk_W.to (ls' := [some (.inr (some 22)), some (.inl x), none]) (st' := [.inl 1]) (h' := (zk_mk G sw σ α (zk_md τ β t))) rfl rfl rfl ?_
    refine zk_if_ne (tgt := 14) dM_lay_8 (by decide) ⟨by decide, by decide⟩ (fun h8 => ?_) (fun h8 => ?_)
    · skip
      refine zk_aload_n dM_lay_14 rfl ?_
      refine zk_get zfM_56 dM_lay_15 (v := .inl (τ 5)) rfl (by decide) rfl ?_
      refine zk_if_le (tgt := 56) dM_lay_18 (by decide) ⟨by omega, by omega⟩ (fun h18 => ?_) (fun h18 => ?_)
      · skip
        refine zk_iconst dM_lay_56 ?_
        refine zk_istore_n (ls' := [some (.inr (some 22)), some (.inl x), some (.inl 0)]) dM_lay_57 (by decide) rfl ?_
        refine zk_iload_n dM_lay_58 rfl ?_
        refine zk_if_ne (tgt := 114) dM_lay_59 (by decide) ⟨by decide, by decide⟩ (fun h59 => ?_) (fun h59 => ?_)
        · skip
          exact absurd h59 (by decide)
        · skip
          refine zk_aload_n dM_lay_62 rfl ?_
          refine zk_get zfM_56 dM_lay_63 (v := .inl (τ 5)) rfl (by decide) rfl ?_
          refine zk_bipush dM_lay_66 (by decide) ?_
          refine zk_icmp_ne (tgt := 74) dM_lay_68 (by decide) ⟨by omega, by omega⟩ ⟨by decide, by decide⟩ (fun h68 => ?_) (fun h68 => ?_)
          · skip
            refine zk_aload_n dM_lay_74 rfl ?_
            refine zk_get zfM_16 dM_lay_75 (v := .inr (some 25)) rfl (by decide) rfl ?_
            refine zk_aload_n dM_lay_78 rfl ?_
            refine zk_get zfM_56 dM_lay_79 (v := .inl (τ 5)) rfl (by decide) rfl ?_
            refine zk_iconst dM_lay_82 ?_
            refine zk_iast dM_lay_83 (n := 100) (f := β 2) (h' := (zk_mk G sw σ α (zk_md τ (zk_ua β 2 (zk_up (β 2) (τ 5).toNat 2)) t))) rfl (by decide) (by omega) (by omega) (by omega) rfl ?_
            refine zk_aload_n dM_lay_84 rfl ?_
            refine zk_get zfM_19 dM_lay_85 (v := .inr (some 26)) rfl (by decide) rfl ?_
            refine zk_aload_n dM_lay_88 rfl ?_
            refine zk_get zfM_56 dM_lay_89 (v := .inl (τ 5)) rfl (by decide) rfl ?_
            refine zk_iconst dM_lay_92 ?_
            refine zk_iast dM_lay_93 (n := 100) (f := β 3) (h' := (zk_mk G sw σ α (zk_md τ (zk_ua (zk_ua β 2 (zk_up (β 2) (τ 5).toNat 2)) 3 (zk_up (β 3) (τ 5).toNat 0)) t))) rfl (by decide) (by omega) (by omega) (by omega) rfl ?_
            refine zk_aload_n dM_lay_94 rfl ?_
            refine zk_get zfM_22 dM_lay_95 (v := .inr (some 27)) rfl (by decide) rfl ?_
            refine zk_aload_n dM_lay_98 rfl ?_
            refine zk_get zfM_56 dM_lay_99 (v := .inl (τ 5)) rfl (by decide) rfl ?_
            refine zk_iconst dM_lay_102 ?_
            refine zk_iast dM_lay_103 (n := 100) (f := β 4) (h' := (zk_mk G sw σ α (zk_md τ (zk_ua (zk_ua (zk_ua β 2 (zk_up (β 2) (τ 5).toNat 2)) 3 (zk_up (β 3) (τ 5).toNat 0)) 4 (zk_up (β 4) (τ 5).toNat 0)) t))) rfl (by decide) (by omega) (by omega) (by omega) rfl ?_
            refine zk_aload_n dM_lay_104 rfl ?_
            refine zk_dup dM_lay_105 ?_
            refine zk_get zfM_56 dM_lay_106 (v := .inl (τ 5)) rfl (by decide) rfl ?_
            refine zk_iconst dM_lay_109 ?_
            refine zk_iadd dM_lay_110 ?_
            refine zk_put zfM_56 dM_lay_111 (h' := (zk_mk G sw σ α (zk_md (zk_up τ 5 ((τ 5) + 1)) (zk_ua (zk_ua (zk_ua β 2 (zk_up (β 2) (τ 5).toNat 2)) 3 (zk_up (β 3) (τ 5).toNat 0)) 4 (zk_up (β 4) (τ 5).toNat 0)) t))) rfl (by decide) (Nat.le_of_ble_eq_true rfl) rfl rfl rfl ?_
            have ez : (zk_up (β 4) (τ 5).toNat 0) (τ 5 + 1 - 1).toNat = 0 := by
              rw [show (τ 5 + 1 - 1).toNat = (τ 5).toNat by omega, zk_up_at]
            refine zk_aload_n dM_lay_114 rfl ?_
            refine zk_get zfM_25 dM_lay_115 (v := .inr (some 28)) rfl (by decide) rfl ?_
            refine zk_bipush dM_lay_118 (by decide) ?_
            refine zk_aload_n dM_lay_120 rfl ?_
            refine zk_get zfM_56 dM_lay_121 (v := .inl ((τ 5) + 1)) rfl (by decide) rfl ?_
            refine zk_iconst dM_lay_124 ?_
            refine zk_isub dM_lay_125 ?_
            refine zk_imul dM_lay_126 ?_
            refine zk_aload_n dM_lay_127 rfl ?_
            refine zk_get zfM_22 dM_lay_128 (v := .inr (some 27)) rfl (by decide) rfl ?_
            refine zk_aload_n dM_lay_131 rfl ?_
            refine zk_get zfM_56 dM_lay_132 (v := .inl ((τ 5) + 1)) rfl (by decide) rfl ?_
            refine zk_iconst dM_lay_135 ?_
            refine zk_isub dM_lay_136 ?_
            refine zk_iald dM_lay_137 (n := 100) (f := zk_up (β 4) (τ 5).toNat 0) rfl (by omega) (by omega) (by omega) ?_
            refine zk_iadd dM_lay_138 ?_
            refine zk_iload_n dM_lay_139 rfl ?_
            refine zk_iast dM_lay_140 (n := 4000) (f := β 5) (h' := (zk_mk G sw σ α (zk_md (zk_up τ 5 ((τ 5) + 1)) (zk_ua (zk_ua (zk_ua (zk_ua β 2 (zk_up (β 2) (τ 5).toNat 2)) 3 (zk_up (β 3) (τ 5).toNat 0)) 4 (zk_up (β 4) (τ 5).toNat 0)) 5 (zk_up (β 5) ((40 * (((τ 5) + 1) - 1)) + ((zk_up (β 4) (τ 5).toNat 0) (((τ 5) + 1) - 1).toNat)).toNat x)) t))) rfl (by decide) (by omega) (by omega) (by omega) rfl ?_
            refine zk_aload_n dM_lay_141 rfl ?_
            refine zk_get zfM_22 dM_lay_142 (v := .inr (some 27)) rfl (by decide) rfl ?_
            refine zk_aload_n dM_lay_145 rfl ?_
            refine zk_get zfM_56 dM_lay_146 (v := .inl ((τ 5) + 1)) rfl (by decide) rfl ?_
            refine zk_iconst dM_lay_149 ?_
            refine zk_isub dM_lay_150 ?_
            refine zk_dup2 dM_lay_151 ?_
            refine zk_iald dM_lay_152 (n := 100) (f := zk_up (β 4) (τ 5).toNat 0) rfl (by omega) (by omega) (by omega) ?_
            refine zk_iconst dM_lay_153 ?_
            refine zk_iadd dM_lay_154 ?_
            refine zk_iast dM_lay_155 (n := 100) (f := zk_up (β 4) (τ 5).toNat 0) (h' := (zk_mk G sw σ α (zk_md (zk_up τ 5 ((τ 5) + 1)) (zk_ua (zk_ua (zk_ua (zk_ua (zk_ua β 2 (zk_up (β 2) (τ 5).toNat 2)) 3 (zk_up (β 3) (τ 5).toNat 0)) 4 (zk_up (β 4) (τ 5).toNat 0)) 5 (zk_up (β 5) ((40 * (((τ 5) + 1) - 1)) + ((zk_up (β 4) (τ 5).toNat 0) (((τ 5) + 1) - 1).toNat)).toNat x)) 4 (zk_up (zk_up (β 4) (τ 5).toNat 0) (((τ 5) + 1) - 1).toNat (((zk_up (β 4) (τ 5).toNat 0) (((τ 5) + 1) - 1).toNat) + 1))) t))) rfl (by decide) (by omega) (by omega) (by omega) rfl ?_
            refine zk_aload_n dM_lay_156 rfl ?_
            refine zk_get zfM_56 dM_lay_157 (v := .inl ((τ 5) + 1)) rfl (by decide) rfl ?_
            refine zk_iret dM_lay_160 rfl (Or.inr (Or.inr (Or.inr ⟨by omega, (fun hh => by have t1 := hh.1; have t2 := hh.2.1; have t3 := hh.2.2; omega), by omega, ?_, rfl⟩)))
            rw [show (τ 5 + 1 - 1).toNat = (τ 5).toNat by omega, zk_up_at, show (40 * (τ 5 + 1 - 1) + 0).toNat = (40 * τ 5).toNat by omega, zk_up_up]
            rfl
          · skip
            refine zk_bipush dM_lay_71 (by decide) ?_
            exact zk_iret dM_lay_73 rfl (Or.inr (Or.inr (Or.inl ⟨by omega, (fun hh => by have t1 := hh.1; have t2 := hh.2.1; have t3 := hh.2.2; omega), by omega, rfl, rfl⟩)))
      · skip
        obtain ⟨a1, a2, a3⟩ := hA (τ 5 - 1).toNat (by omega)
        refine zk_aload_n dM_lay_21 rfl ?_
        refine zk_get zfM_16 dM_lay_22 (v := .inr (some 25)) rfl (by decide) rfl ?_
        refine zk_aload_n dM_lay_25 rfl ?_
        refine zk_get zfM_56 dM_lay_26 (v := .inl (τ 5)) rfl (by decide) rfl ?_
        refine zk_iconst dM_lay_29 ?_
        refine zk_isub dM_lay_30 ?_
        refine zk_iald dM_lay_31 (n := 100) (f := β 2) rfl (by omega) (by omega) (by omega) ?_
        refine zk_iconst dM_lay_32 ?_
        refine zk_icmp_ne (tgt := 56) dM_lay_33 (by decide) ⟨by omega, by omega⟩ ⟨by decide, by decide⟩ (fun h33 => ?_) (fun h33 => ?_)
        · skip
          refine zk_iconst dM_lay_56 ?_
          refine zk_istore_n (ls' := [some (.inr (some 22)), some (.inl x), some (.inl 0)]) dM_lay_57 (by decide) rfl ?_
          refine zk_iload_n dM_lay_58 rfl ?_
          refine zk_if_ne (tgt := 114) dM_lay_59 (by decide) ⟨by decide, by decide⟩ (fun h59 => ?_) (fun h59 => ?_)
          · skip
            exact absurd h59 (by decide)
          · skip
            refine zk_aload_n dM_lay_62 rfl ?_
            refine zk_get zfM_56 dM_lay_63 (v := .inl (τ 5)) rfl (by decide) rfl ?_
            refine zk_bipush dM_lay_66 (by decide) ?_
            refine zk_icmp_ne (tgt := 74) dM_lay_68 (by decide) ⟨by omega, by omega⟩ ⟨by decide, by decide⟩ (fun h68 => ?_) (fun h68 => ?_)
            · skip
              refine zk_aload_n dM_lay_74 rfl ?_
              refine zk_get zfM_16 dM_lay_75 (v := .inr (some 25)) rfl (by decide) rfl ?_
              refine zk_aload_n dM_lay_78 rfl ?_
              refine zk_get zfM_56 dM_lay_79 (v := .inl (τ 5)) rfl (by decide) rfl ?_
              refine zk_iconst dM_lay_82 ?_
              refine zk_iast dM_lay_83 (n := 100) (f := β 2) (h' := (zk_mk G sw σ α (zk_md τ (zk_ua β 2 (zk_up (β 2) (τ 5).toNat 2)) t))) rfl (by decide) (by omega) (by omega) (by omega) rfl ?_
              refine zk_aload_n dM_lay_84 rfl ?_
              refine zk_get zfM_19 dM_lay_85 (v := .inr (some 26)) rfl (by decide) rfl ?_
              refine zk_aload_n dM_lay_88 rfl ?_
              refine zk_get zfM_56 dM_lay_89 (v := .inl (τ 5)) rfl (by decide) rfl ?_
              refine zk_iconst dM_lay_92 ?_
              refine zk_iast dM_lay_93 (n := 100) (f := β 3) (h' := (zk_mk G sw σ α (zk_md τ (zk_ua (zk_ua β 2 (zk_up (β 2) (τ 5).toNat 2)) 3 (zk_up (β 3) (τ 5).toNat 0)) t))) rfl (by decide) (by omega) (by omega) (by omega) rfl ?_
              refine zk_aload_n dM_lay_94 rfl ?_
              refine zk_get zfM_22 dM_lay_95 (v := .inr (some 27)) rfl (by decide) rfl ?_
              refine zk_aload_n dM_lay_98 rfl ?_
              refine zk_get zfM_56 dM_lay_99 (v := .inl (τ 5)) rfl (by decide) rfl ?_
              refine zk_iconst dM_lay_102 ?_
              refine zk_iast dM_lay_103 (n := 100) (f := β 4) (h' := (zk_mk G sw σ α (zk_md τ (zk_ua (zk_ua (zk_ua β 2 (zk_up (β 2) (τ 5).toNat 2)) 3 (zk_up (β 3) (τ 5).toNat 0)) 4 (zk_up (β 4) (τ 5).toNat 0)) t))) rfl (by decide) (by omega) (by omega) (by omega) rfl ?_
              refine zk_aload_n dM_lay_104 rfl ?_
              refine zk_dup dM_lay_105 ?_
              refine zk_get zfM_56 dM_lay_106 (v := .inl (τ 5)) rfl (by decide) rfl ?_
              refine zk_iconst dM_lay_109 ?_
              refine zk_iadd dM_lay_110 ?_
              refine zk_put zfM_56 dM_lay_111 (h' := (zk_mk G sw σ α (zk_md (zk_up τ 5 ((τ 5) + 1)) (zk_ua (zk_ua (zk_ua β 2 (zk_up (β 2) (τ 5).toNat 2)) 3 (zk_up (β 3) (τ 5).toNat 0)) 4 (zk_up (β 4) (τ 5).toNat 0)) t))) rfl (by decide) (Nat.le_of_ble_eq_true rfl) rfl rfl rfl ?_
              have ez : (zk_up (β 4) (τ 5).toNat 0) (τ 5 + 1 - 1).toNat = 0 := by
                rw [show (τ 5 + 1 - 1).toNat = (τ 5).toNat by omega, zk_up_at]
              refine zk_aload_n dM_lay_114 rfl ?_
              refine zk_get zfM_25 dM_lay_115 (v := .inr (some 28)) rfl (by decide) rfl ?_
              refine zk_bipush dM_lay_118 (by decide) ?_
              refine zk_aload_n dM_lay_120 rfl ?_
              refine zk_get zfM_56 dM_lay_121 (v := .inl ((τ 5) + 1)) rfl (by decide) rfl ?_
              refine zk_iconst dM_lay_124 ?_
              refine zk_isub dM_lay_125 ?_
              refine zk_imul dM_lay_126 ?_
              refine zk_aload_n dM_lay_127 rfl ?_
              refine zk_get zfM_22 dM_lay_128 (v := .inr (some 27)) rfl (by decide) rfl ?_
              refine zk_aload_n dM_lay_131 rfl ?_
              refine zk_get zfM_56 dM_lay_132 (v := .inl ((τ 5) + 1)) rfl (by decide) rfl ?_
              refine zk_iconst dM_lay_135 ?_
              refine zk_isub dM_lay_136 ?_
              refine zk_iald dM_lay_137 (n := 100) (f := zk_up (β 4) (τ 5).toNat 0) rfl (by omega) (by omega) (by omega) ?_
              refine zk_iadd dM_lay_138 ?_
              refine zk_iload_n dM_lay_139 rfl ?_
              refine zk_iast dM_lay_140 (n := 4000) (f := β 5) (h' := (zk_mk G sw σ α (zk_md (zk_up τ 5 ((τ 5) + 1)) (zk_ua (zk_ua (zk_ua (zk_ua β 2 (zk_up (β 2) (τ 5).toNat 2)) 3 (zk_up (β 3) (τ 5).toNat 0)) 4 (zk_up (β 4) (τ 5).toNat 0)) 5 (zk_up (β 5) ((40 * (((τ 5) + 1) - 1)) + ((zk_up (β 4) (τ 5).toNat 0) (((τ 5) + 1) - 1).toNat)).toNat x)) t))) rfl (by decide) (by omega) (by omega) (by omega) rfl ?_
              refine zk_aload_n dM_lay_141 rfl ?_
              refine zk_get zfM_22 dM_lay_142 (v := .inr (some 27)) rfl (by decide) rfl ?_
              refine zk_aload_n dM_lay_145 rfl ?_
              refine zk_get zfM_56 dM_lay_146 (v := .inl ((τ 5) + 1)) rfl (by decide) rfl ?_
              refine zk_iconst dM_lay_149 ?_
              refine zk_isub dM_lay_150 ?_
              refine zk_dup2 dM_lay_151 ?_
              refine zk_iald dM_lay_152 (n := 100) (f := zk_up (β 4) (τ 5).toNat 0) rfl (by omega) (by omega) (by omega) ?_
              refine zk_iconst dM_lay_153 ?_
              refine zk_iadd dM_lay_154 ?_
              refine zk_iast dM_lay_155 (n := 100) (f := zk_up (β 4) (τ 5).toNat 0) (h' := (zk_mk G sw σ α (zk_md (zk_up τ 5 ((τ 5) + 1)) (zk_ua (zk_ua (zk_ua (zk_ua (zk_ua β 2 (zk_up (β 2) (τ 5).toNat 2)) 3 (zk_up (β 3) (τ 5).toNat 0)) 4 (zk_up (β 4) (τ 5).toNat 0)) 5 (zk_up (β 5) ((40 * (((τ 5) + 1) - 1)) + ((zk_up (β 4) (τ 5).toNat 0) (((τ 5) + 1) - 1).toNat)).toNat x)) 4 (zk_up (zk_up (β 4) (τ 5).toNat 0) (((τ 5) + 1) - 1).toNat (((zk_up (β 4) (τ 5).toNat 0) (((τ 5) + 1) - 1).toNat) + 1))) t))) rfl (by decide) (by omega) (by omega) (by omega) rfl ?_
              refine zk_aload_n dM_lay_156 rfl ?_
              refine zk_get zfM_56 dM_lay_157 (v := .inl ((τ 5) + 1)) rfl (by decide) rfl ?_
              refine zk_iret dM_lay_160 rfl (Or.inr (Or.inr (Or.inr ⟨by omega, (fun hh => by have t1 := hh.1; have t2 := hh.2.1; have t3 := hh.2.2; omega), by omega, ?_, rfl⟩)))
              rw [show (τ 5 + 1 - 1).toNat = (τ 5).toNat by omega, zk_up_at, show (40 * (τ 5 + 1 - 1) + 0).toNat = (40 * τ 5).toNat by omega, zk_up_up]
              rfl
            · skip
              refine zk_bipush dM_lay_71 (by decide) ?_
              exact zk_iret dM_lay_73 rfl (Or.inr (Or.inr (Or.inl ⟨by omega, (fun hh => by have t1 := hh.1; have t2 := hh.2.1; have t3 := hh.2.2; omega), by omega, rfl, rfl⟩)))
        · skip
          refine zk_aload_n dM_lay_36 rfl ?_
          refine zk_get zfM_22 dM_lay_37 (v := .inr (some 27)) rfl (by decide) rfl ?_
          refine zk_aload_n dM_lay_40 rfl ?_
          refine zk_get zfM_56 dM_lay_41 (v := .inl (τ 5)) rfl (by decide) rfl ?_
          refine zk_iconst dM_lay_44 ?_
          refine zk_isub dM_lay_45 ?_
          refine zk_iald dM_lay_46 (n := 100) (f := β 4) rfl (by omega) (by omega) (by omega) ?_
          refine zk_bipush dM_lay_47 (by decide) ?_
          refine zk_icmp_ge (tgt := 56) dM_lay_49 (by decide) ⟨by omega, by omega⟩ ⟨by decide, by decide⟩ (fun h49 => ?_) (fun h49 => ?_)
          · skip
            refine zk_iconst dM_lay_56 ?_
            refine zk_istore_n (ls' := [some (.inr (some 22)), some (.inl x), some (.inl 0)]) dM_lay_57 (by decide) rfl ?_
            refine zk_iload_n dM_lay_58 rfl ?_
            refine zk_if_ne (tgt := 114) dM_lay_59 (by decide) ⟨by decide, by decide⟩ (fun h59 => ?_) (fun h59 => ?_)
            · skip
              exact absurd h59 (by decide)
            · skip
              refine zk_aload_n dM_lay_62 rfl ?_
              refine zk_get zfM_56 dM_lay_63 (v := .inl (τ 5)) rfl (by decide) rfl ?_
              refine zk_bipush dM_lay_66 (by decide) ?_
              refine zk_icmp_ne (tgt := 74) dM_lay_68 (by decide) ⟨by omega, by omega⟩ ⟨by decide, by decide⟩ (fun h68 => ?_) (fun h68 => ?_)
              · skip
                refine zk_aload_n dM_lay_74 rfl ?_
                refine zk_get zfM_16 dM_lay_75 (v := .inr (some 25)) rfl (by decide) rfl ?_
                refine zk_aload_n dM_lay_78 rfl ?_
                refine zk_get zfM_56 dM_lay_79 (v := .inl (τ 5)) rfl (by decide) rfl ?_
                refine zk_iconst dM_lay_82 ?_
                refine zk_iast dM_lay_83 (n := 100) (f := β 2) (h' := (zk_mk G sw σ α (zk_md τ (zk_ua β 2 (zk_up (β 2) (τ 5).toNat 2)) t))) rfl (by decide) (by omega) (by omega) (by omega) rfl ?_
                refine zk_aload_n dM_lay_84 rfl ?_
                refine zk_get zfM_19 dM_lay_85 (v := .inr (some 26)) rfl (by decide) rfl ?_
                refine zk_aload_n dM_lay_88 rfl ?_
                refine zk_get zfM_56 dM_lay_89 (v := .inl (τ 5)) rfl (by decide) rfl ?_
                refine zk_iconst dM_lay_92 ?_
                refine zk_iast dM_lay_93 (n := 100) (f := β 3) (h' := (zk_mk G sw σ α (zk_md τ (zk_ua (zk_ua β 2 (zk_up (β 2) (τ 5).toNat 2)) 3 (zk_up (β 3) (τ 5).toNat 0)) t))) rfl (by decide) (by omega) (by omega) (by omega) rfl ?_
                refine zk_aload_n dM_lay_94 rfl ?_
                refine zk_get zfM_22 dM_lay_95 (v := .inr (some 27)) rfl (by decide) rfl ?_
                refine zk_aload_n dM_lay_98 rfl ?_
                refine zk_get zfM_56 dM_lay_99 (v := .inl (τ 5)) rfl (by decide) rfl ?_
                refine zk_iconst dM_lay_102 ?_
                refine zk_iast dM_lay_103 (n := 100) (f := β 4) (h' := (zk_mk G sw σ α (zk_md τ (zk_ua (zk_ua (zk_ua β 2 (zk_up (β 2) (τ 5).toNat 2)) 3 (zk_up (β 3) (τ 5).toNat 0)) 4 (zk_up (β 4) (τ 5).toNat 0)) t))) rfl (by decide) (by omega) (by omega) (by omega) rfl ?_
                refine zk_aload_n dM_lay_104 rfl ?_
                refine zk_dup dM_lay_105 ?_
                refine zk_get zfM_56 dM_lay_106 (v := .inl (τ 5)) rfl (by decide) rfl ?_
                refine zk_iconst dM_lay_109 ?_
                refine zk_iadd dM_lay_110 ?_
                refine zk_put zfM_56 dM_lay_111 (h' := (zk_mk G sw σ α (zk_md (zk_up τ 5 ((τ 5) + 1)) (zk_ua (zk_ua (zk_ua β 2 (zk_up (β 2) (τ 5).toNat 2)) 3 (zk_up (β 3) (τ 5).toNat 0)) 4 (zk_up (β 4) (τ 5).toNat 0)) t))) rfl (by decide) (Nat.le_of_ble_eq_true rfl) rfl rfl rfl ?_
                have ez : (zk_up (β 4) (τ 5).toNat 0) (τ 5 + 1 - 1).toNat = 0 := by
                  rw [show (τ 5 + 1 - 1).toNat = (τ 5).toNat by omega, zk_up_at]
                refine zk_aload_n dM_lay_114 rfl ?_
                refine zk_get zfM_25 dM_lay_115 (v := .inr (some 28)) rfl (by decide) rfl ?_
                refine zk_bipush dM_lay_118 (by decide) ?_
                refine zk_aload_n dM_lay_120 rfl ?_
                refine zk_get zfM_56 dM_lay_121 (v := .inl ((τ 5) + 1)) rfl (by decide) rfl ?_
                refine zk_iconst dM_lay_124 ?_
                refine zk_isub dM_lay_125 ?_
                refine zk_imul dM_lay_126 ?_
                refine zk_aload_n dM_lay_127 rfl ?_
                refine zk_get zfM_22 dM_lay_128 (v := .inr (some 27)) rfl (by decide) rfl ?_
                refine zk_aload_n dM_lay_131 rfl ?_
                refine zk_get zfM_56 dM_lay_132 (v := .inl ((τ 5) + 1)) rfl (by decide) rfl ?_
                refine zk_iconst dM_lay_135 ?_
                refine zk_isub dM_lay_136 ?_
                refine zk_iald dM_lay_137 (n := 100) (f := zk_up (β 4) (τ 5).toNat 0) rfl (by omega) (by omega) (by omega) ?_
                refine zk_iadd dM_lay_138 ?_
                refine zk_iload_n dM_lay_139 rfl ?_
                refine zk_iast dM_lay_140 (n := 4000) (f := β 5) (h' := (zk_mk G sw σ α (zk_md (zk_up τ 5 ((τ 5) + 1)) (zk_ua (zk_ua (zk_ua (zk_ua β 2 (zk_up (β 2) (τ 5).toNat 2)) 3 (zk_up (β 3) (τ 5).toNat 0)) 4 (zk_up (β 4) (τ 5).toNat 0)) 5 (zk_up (β 5) ((40 * (((τ 5) + 1) - 1)) + ((zk_up (β 4) (τ 5).toNat 0) (((τ 5) + 1) - 1).toNat)).toNat x)) t))) rfl (by decide) (by omega) (by omega) (by omega) rfl ?_
                refine zk_aload_n dM_lay_141 rfl ?_
                refine zk_get zfM_22 dM_lay_142 (v := .inr (some 27)) rfl (by decide) rfl ?_
                refine zk_aload_n dM_lay_145 rfl ?_
                refine zk_get zfM_56 dM_lay_146 (v := .inl ((τ 5) + 1)) rfl (by decide) rfl ?_
                refine zk_iconst dM_lay_149 ?_
                refine zk_isub dM_lay_150 ?_
                refine zk_dup2 dM_lay_151 ?_
                refine zk_iald dM_lay_152 (n := 100) (f := zk_up (β 4) (τ 5).toNat 0) rfl (by omega) (by omega) (by omega) ?_
                refine zk_iconst dM_lay_153 ?_
                refine zk_iadd dM_lay_154 ?_
                refine zk_iast dM_lay_155 (n := 100) (f := zk_up (β 4) (τ 5).toNat 0) (h' := (zk_mk G sw σ α (zk_md (zk_up τ 5 ((τ 5) + 1)) (zk_ua (zk_ua (zk_ua (zk_ua (zk_ua β 2 (zk_up (β 2) (τ 5).toNat 2)) 3 (zk_up (β 3) (τ 5).toNat 0)) 4 (zk_up (β 4) (τ 5).toNat 0)) 5 (zk_up (β 5) ((40 * (((τ 5) + 1) - 1)) + ((zk_up (β 4) (τ 5).toNat 0) (((τ 5) + 1) - 1).toNat)).toNat x)) 4 (zk_up (zk_up (β 4) (τ 5).toNat 0) (((τ 5) + 1) - 1).toNat (((zk_up (β 4) (τ 5).toNat 0) (((τ 5) + 1) - 1).toNat) + 1))) t))) rfl (by decide) (by omega) (by omega) (by omega) rfl ?_
                refine zk_aload_n dM_lay_156 rfl ?_
                refine zk_get zfM_56 dM_lay_157 (v := .inl ((τ 5) + 1)) rfl (by decide) rfl ?_
                refine zk_iret dM_lay_160 rfl (Or.inr (Or.inr (Or.inr ⟨by omega, (fun hh => by have t1 := hh.1; have t2 := hh.2.1; have t3 := hh.2.2; omega), by omega, ?_, rfl⟩)))
                rw [show (τ 5 + 1 - 1).toNat = (τ 5).toNat by omega, zk_up_at, show (40 * (τ 5 + 1 - 1) + 0).toNat = (40 * τ 5).toNat by omega, zk_up_up]
                rfl
              · skip
                refine zk_bipush dM_lay_71 (by decide) ?_
                exact zk_iret dM_lay_73 rfl (Or.inr (Or.inr (Or.inl ⟨by omega, (fun hh => by have t1 := hh.1; have t2 := hh.2.1; have t3 := hh.2.2; omega), by omega, rfl, rfl⟩)))
          · skip
            refine zk_iconst dM_lay_52 ?_
            refine zk_goto (tgt := 57) dM_lay_53 (by decide) ?_
            refine zk_istore_n (ls' := [some (.inr (some 22)), some (.inl x), some (.inl 1)]) dM_lay_57 (by decide) rfl ?_
            refine zk_iload_n dM_lay_58 rfl ?_
            refine zk_if_ne (tgt := 114) dM_lay_59 (by decide) ⟨by decide, by decide⟩ (fun h59 => ?_) (fun h59 => ?_)
            · skip
              refine zk_aload_n dM_lay_114 rfl ?_
              refine zk_get zfM_25 dM_lay_115 (v := .inr (some 28)) rfl (by decide) rfl ?_
              refine zk_bipush dM_lay_118 (by decide) ?_
              refine zk_aload_n dM_lay_120 rfl ?_
              refine zk_get zfM_56 dM_lay_121 (v := .inl (τ 5)) rfl (by decide) rfl ?_
              refine zk_iconst dM_lay_124 ?_
              refine zk_isub dM_lay_125 ?_
              refine zk_imul dM_lay_126 ?_
              refine zk_aload_n dM_lay_127 rfl ?_
              refine zk_get zfM_22 dM_lay_128 (v := .inr (some 27)) rfl (by decide) rfl ?_
              refine zk_aload_n dM_lay_131 rfl ?_
              refine zk_get zfM_56 dM_lay_132 (v := .inl (τ 5)) rfl (by decide) rfl ?_
              refine zk_iconst dM_lay_135 ?_
              refine zk_isub dM_lay_136 ?_
              refine zk_iald dM_lay_137 (n := 100) (f := β 4) rfl (by omega) (by omega) (by omega) ?_
              refine zk_iadd dM_lay_138 ?_
              refine zk_iload_n dM_lay_139 rfl ?_
              refine zk_iast dM_lay_140 (n := 4000) (f := β 5) (h' := (zk_mk G sw σ α (zk_md τ (zk_ua β 5 (zk_up (β 5) ((40 * ((τ 5) - 1)) + (β 4 ((τ 5) - 1).toNat)).toNat x)) t))) rfl (by decide) (by omega) (by omega) (by omega) rfl ?_
              refine zk_aload_n dM_lay_141 rfl ?_
              refine zk_get zfM_22 dM_lay_142 (v := .inr (some 27)) rfl (by decide) rfl ?_
              refine zk_aload_n dM_lay_145 rfl ?_
              refine zk_get zfM_56 dM_lay_146 (v := .inl (τ 5)) rfl (by decide) rfl ?_
              refine zk_iconst dM_lay_149 ?_
              refine zk_isub dM_lay_150 ?_
              refine zk_dup2 dM_lay_151 ?_
              refine zk_iald dM_lay_152 (n := 100) (f := β 4) rfl (by omega) (by omega) (by omega) ?_
              refine zk_iconst dM_lay_153 ?_
              refine zk_iadd dM_lay_154 ?_
              refine zk_iast dM_lay_155 (n := 100) (f := β 4) (h' := (zk_mk G sw σ α (zk_md τ (zk_ua (zk_ua β 5 (zk_up (β 5) ((40 * ((τ 5) - 1)) + (β 4 ((τ 5) - 1).toNat)).toNat x)) 4 (zk_up (β 4) ((τ 5) - 1).toNat ((β 4 ((τ 5) - 1).toNat) + 1))) t))) rfl (by decide) (by omega) (by omega) (by omega) rfl ?_
              refine zk_aload_n dM_lay_156 rfl ?_
              refine zk_get zfM_56 dM_lay_157 (v := .inl (τ 5)) rfl (by decide) rfl ?_
              exact zk_iret dM_lay_160 rfl (Or.inr (Or.inl ⟨by omega, ⟨by omega, by omega, by omega⟩, rfl, rfl⟩))
            · skip
              exact absurd h59 (by decide)
    · skip
      exact absurd h8 (by decide)
  · skip
    refine zk_W.to (ls' := [some (.inr (some 22)), some (.inl x), none]) (st' := [.inl 0]) (h' := (zk_mk G sw σ α (zk_md τ β t))) rfl rfl rfl ?_
    refine zk_if_ne (tgt := 14) dM_lay_8 (by decide) ⟨by decide, by decide⟩ (fun h8 => ?_) (fun h8 => ?_)
    · skip
      exact absurd h8 (by decide)
    · skip
      refine zk_bipush dM_lay_11 (by decide) ?_
      exact zk_iret dM_lay_13 rfl (Or.inl ⟨by omega, rfl, rfl⟩)

set_option maxRecDepth 100000 in
set_option maxHeartbeats 4000000 in
theorem kM_made (G : zk_G) (sw : Bool) (σ : Nat → Int) (α : Nat → Nat → Int) (τ : Nat → Int) (β : Nat → Nat → Int) (t : zk_H) (hJ : zm_J τ β) {x : Int} (hx : zk_rg x) : zk_K G mM_made (1, 22) 0 0 [.inr (some 22), .inl x] (zk_mk G sw σ α (zk_md τ β t)) (fun v h' => h' = (zk_mk G sw σ α (zk_md τ β t)) ∧ (((0 ≤ x ∧ x ≤ τ 8 - 1) ∧ v = some (.inl (β 7 x.toNat))) ∨ ((¬ (0 ≤ x ∧ x ≤ τ 8 - 1)) ∧ v = some (.inl (-1))))) := by
  have hI := hJ.1
  have i0 := hI.1
  have i1 := hI.2.1
  have c0 : 0 ≤ τ 0 ∧ τ 0 ≤ 100 := hI.2.2.2 0 (by decide)
  have c1 : 0 ≤ τ 1 ∧ τ 1 ≤ 100 := hI.2.2.2 1 (by decide)
  have c2 : 0 ≤ τ 2 ∧ τ 2 ≤ 100 := hI.2.2.2 2 (by decide)
  have c3 : 0 ≤ τ 3 ∧ τ 3 ≤ 100 := hI.2.2.2 3 (by decide)
  have c4 : 0 ≤ τ 4 ∧ τ 4 ≤ 100 := hI.2.2.2 4 (by decide)
  have j5 := hJ.2.1
  have j6 := hJ.2.2.1
  have j7 := hJ.2.2.2.1
  have j8 := hJ.2.2.2.2.1
  have hA := hJ.2.2.2.2.2.1
  refine zk_K.of (ls := [some (.inr (some 22)), some (.inl x)]) (by decide +kernel) (Nat.le_of_ble_eq_true rfl) rfl ?_
  refine zk_iload_n dM_made_0 rfl ?_
  refine zk_iconst dM_made_1 ?_
  refine zk_aload_n dM_made_2 rfl ?_
  refine zk_get zfM_65 dM_made_3 (v := .inl (τ 8)) rfl (by decide) rfl ?_
  refine zk_iconst dM_made_6 ?_
  refine zk_isub dM_made_7 ?_
  refine zk_callS (av := [.inl x, .inl 0, .inl ((τ 8) - 1)]) (st := []) (d' := (0, 0)) (kc' := 0) (ks' := 0) zbM_77 dM_made_8 rfl rfl (Nat.le_of_ble_eq_true rfl) ⟨by decide, by decide⟩ rfl rfl (kM_isIn G sw σ α τ β t hx ⟨by decide, by decide⟩ ⟨by omega, by omega⟩) (fun v9 h9 q9 => ?_)
  rcases q9 with ⟨rfl, ⟨hc8, rfl⟩ | ⟨hc8, rfl⟩⟩
  · skip
    refine zk_W.to (ls' := [some (.inr (some 22)), some (.inl x)]) (st' := [.inl 1]) (h' := (zk_mk G sw σ α (zk_md τ β t))) rfl rfl rfl ?_
    refine zk_if_eq (tgt := 23) dM_made_11 (by decide) ⟨by decide, by decide⟩ (fun h11 => ?_) (fun h11 => ?_)
    · skip
      exact absurd h11 (by decide)
    · skip
      refine zk_aload_n dM_made_14 rfl ?_
      refine zk_get zfM_31 dM_made_15 (v := .inr (some 30)) rfl (by decide) rfl ?_
      refine zk_iload_n dM_made_18 rfl ?_
      refine zk_iald dM_made_19 (n := 80) (f := β 7) rfl (by omega) (by omega) (by omega) ?_
      refine zk_goto (tgt := 24) dM_made_20 (by decide) ?_
      exact zk_iret dM_made_24 rfl ⟨rfl, Or.inl ⟨by omega, rfl⟩⟩
  · skip
    refine zk_W.to (ls' := [some (.inr (some 22)), some (.inl x)]) (st' := [.inl 0]) (h' := (zk_mk G sw σ α (zk_md τ β t))) rfl rfl rfl ?_
    refine zk_if_eq (tgt := 23) dM_made_11 (by decide) ⟨by decide, by decide⟩ (fun h11 => ?_) (fun h11 => ?_)
    · skip
      refine zk_iconst dM_made_23 ?_
      exact zk_iret dM_made_24 rfl ⟨rfl, Or.inr ⟨by omega, rfl⟩⟩
    · skip
      exact absurd h11 (by decide)

set_option maxRecDepth 100000 in
set_option maxHeartbeats 4000000 in
theorem kM_code (G : zk_G) (sw : Bool) (σ : Nat → Int) (α : Nat → Nat → Int) (τ : Nat → Int) (β : Nat → Nat → Int) (t : zk_H) (hJ : zm_J τ β) {x : Int} (hx : zk_rg x) : zk_K G mM_code (1, 22) 0 0 [.inr (some 22), .inl x] (zk_mk G sw σ α (zk_md τ β t)) (fun v h' => h' = (zk_mk G sw σ α (zk_md τ β t)) ∧ (((0 ≤ x ∧ x ≤ τ 7 - 1) ∧ v = some (.inl (β 6 x.toNat))) ∨ ((¬ (0 ≤ x ∧ x ≤ τ 7 - 1)) ∧ v = some (.inl (-1))))) := by
  have hI := hJ.1
  have i0 := hI.1
  have i1 := hI.2.1
  have c0 : 0 ≤ τ 0 ∧ τ 0 ≤ 100 := hI.2.2.2 0 (by decide)
  have c1 : 0 ≤ τ 1 ∧ τ 1 ≤ 100 := hI.2.2.2 1 (by decide)
  have c2 : 0 ≤ τ 2 ∧ τ 2 ≤ 100 := hI.2.2.2 2 (by decide)
  have c3 : 0 ≤ τ 3 ∧ τ 3 ≤ 100 := hI.2.2.2 3 (by decide)
  have c4 : 0 ≤ τ 4 ∧ τ 4 ≤ 100 := hI.2.2.2 4 (by decide)
  have j5 := hJ.2.1
  have j6 := hJ.2.2.1
  have j7 := hJ.2.2.2.1
  have j8 := hJ.2.2.2.2.1
  have hA := hJ.2.2.2.2.2.1
  refine zk_K.of (ls := [some (.inr (some 22)), some (.inl x)]) (by decide +kernel) (Nat.le_of_ble_eq_true rfl) rfl ?_
  refine zk_iload_n dM_code_0 rfl ?_
  refine zk_iconst dM_code_1 ?_
  refine zk_aload_n dM_code_2 rfl ?_
  refine zk_get zfM_62 dM_code_3 (v := .inl (τ 7)) rfl (by decide) rfl ?_
  refine zk_iconst dM_code_6 ?_
  refine zk_isub dM_code_7 ?_
  refine zk_callS (av := [.inl x, .inl 0, .inl ((τ 7) - 1)]) (st := []) (d' := (0, 0)) (kc' := 0) (ks' := 0) zbM_77 dM_code_8 rfl rfl (Nat.le_of_ble_eq_true rfl) ⟨by decide, by decide⟩ rfl rfl (kM_isIn G sw σ α τ β t hx ⟨by decide, by decide⟩ ⟨by omega, by omega⟩) (fun v9 h9 q9 => ?_)
  rcases q9 with ⟨rfl, ⟨hc8, rfl⟩ | ⟨hc8, rfl⟩⟩
  · skip
    refine zk_W.to (ls' := [some (.inr (some 22)), some (.inl x)]) (st' := [.inl 1]) (h' := (zk_mk G sw σ α (zk_md τ β t))) rfl rfl rfl ?_
    refine zk_if_eq (tgt := 23) dM_code_11 (by decide) ⟨by decide, by decide⟩ (fun h11 => ?_) (fun h11 => ?_)
    · skip
      exact absurd h11 (by decide)
    · skip
      refine zk_aload_n dM_code_14 rfl ?_
      refine zk_get zfM_28 dM_code_15 (v := .inr (some 29)) rfl (by decide) rfl ?_
      refine zk_iload_n dM_code_18 rfl ?_
      refine zk_iald dM_code_19 (n := 4110) (f := β 6) rfl (by omega) (by omega) (by omega) ?_
      refine zk_goto (tgt := 24) dM_code_20 (by decide) ?_
      exact zk_iret dM_code_24 rfl ⟨rfl, Or.inl ⟨by omega, rfl⟩⟩
  · skip
    refine zk_W.to (ls' := [some (.inr (some 22)), some (.inl x)]) (st' := [.inl 0]) (h' := (zk_mk G sw σ α (zk_md τ β t))) rfl rfl rfl ?_
    refine zk_if_eq (tgt := 23) dM_code_11 (by decide) ⟨by decide, by decide⟩ (fun h11 => ?_) (fun h11 => ?_)
    · skip
      refine zk_iconst dM_code_23 ?_
      exact zk_iret dM_code_24 rfl ⟨rfl, Or.inr ⟨by omega, rfl⟩⟩
    · skip
      exact absurd h11 (by decide)

set_option maxRecDepth 100000 in
set_option maxHeartbeats 4000000 in
theorem kM_poke (G : zk_G) (sw : Bool) (σ : Nat → Int) (α : Nat → Nat → Int) (τ : Nat → Int) (β : Nat → Nat → Int) (t : zk_H) (hJ : zm_J τ β) {x y : Int} (hx : zk_rg x) (hy : zk_rg y) : zk_K G mM_poke (1, 22) 0 0 [.inr (some 22), .inl x, .inl y] (zk_mk G sw σ α (zk_md τ β t)) (fun v h' => ((¬ ((0 ≤ x ∧ x ≤ τ 7 - 1) ∧ (0 ≤ y ∧ y ≤ 255))) ∧ h' = (zk_mk G sw σ α (zk_md τ β t)) ∧ v = some (.inl (-2))) ∨ (((0 ≤ x ∧ x ≤ τ 7 - 1) ∧ (0 ≤ y ∧ y ≤ 255)) ∧ h' = zk_mk G sw σ α (zk_md τ (zk_ua β 6 (zk_up (β 6) x.toNat y)) t) ∧ v = some (.inl (β 6 x.toNat)))) := by
  have hI := hJ.1
  have i0 := hI.1
  have i1 := hI.2.1
  have c0 : 0 ≤ τ 0 ∧ τ 0 ≤ 100 := hI.2.2.2 0 (by decide)
  have c1 : 0 ≤ τ 1 ∧ τ 1 ≤ 100 := hI.2.2.2 1 (by decide)
  have c2 : 0 ≤ τ 2 ∧ τ 2 ≤ 100 := hI.2.2.2 2 (by decide)
  have c3 : 0 ≤ τ 3 ∧ τ 3 ≤ 100 := hI.2.2.2 3 (by decide)
  have c4 : 0 ≤ τ 4 ∧ τ 4 ≤ 100 := hI.2.2.2 4 (by decide)
  have j5 := hJ.2.1
  have j6 := hJ.2.2.1
  have j7 := hJ.2.2.2.1
  have j8 := hJ.2.2.2.2.1
  have hA := hJ.2.2.2.2.2.1
  refine zk_K.of (ls := [some (.inr (some 22)), some (.inl x), some (.inl y), none]) (by decide +kernel) (Nat.le_of_ble_eq_true rfl) rfl ?_
  refine zk_iload_n dM_poke_0 rfl ?_
  refine zk_iconst dM_poke_1 ?_
  refine zk_aload_n dM_poke_2 rfl ?_
  refine zk_get zfM_62 dM_poke_3 (v := .inl (τ 7)) rfl (by decide) rfl ?_
  refine zk_iconst dM_poke_6 ?_
  refine zk_isub dM_poke_7 ?_
  refine zk_callS (av := [.inl x, .inl 0, .inl ((τ 7) - 1)]) (st := []) (d' := (0, 0)) (kc' := 0) (ks' := 0) zbM_77 dM_poke_8 rfl rfl (Nat.le_of_ble_eq_true rfl) ⟨by decide, by decide⟩ rfl rfl (kM_isIn G sw σ α τ β t hx ⟨by decide, by decide⟩ ⟨by omega, by omega⟩) (fun v9 h9 q9 => ?_)
  rcases q9 with ⟨rfl, ⟨hc8, rfl⟩ | ⟨hc8, rfl⟩⟩
  · skip
    refine zk_W.to (ls' := [some (.inr (some 22)), some (.inl x), some (.inl y), none]) (st' := [.inl 1]) (h' := (zk_mk G sw σ α (zk_md τ β t))) rfl rfl rfl ?_
    refine zk_if_eq (tgt := 25) dM_poke_11 (by decide) ⟨by decide, by decide⟩ (fun h11 => ?_) (fun h11 => ?_)
    · skip
      exact absurd h11 (by decide)
    · skip
      refine zk_iload_n dM_poke_14 rfl ?_
      refine zk_iconst dM_poke_15 ?_
      refine zk_sipush dM_poke_16 (by decide) ?_
      refine zk_callS (av := [.inl y, .inl 0, .inl 255]) (st := []) (d' := (0, 0)) (kc' := 0) (ks' := 0) zbM_77 dM_poke_19 rfl rfl (Nat.le_of_ble_eq_true rfl) ⟨by decide, by decide⟩ rfl rfl (kM_isIn G sw σ α τ β t hy ⟨by decide, by decide⟩ ⟨by decide, by decide⟩) (fun v9 h9 q9 => ?_)
      rcases q9 with ⟨rfl, ⟨hc19, rfl⟩ | ⟨hc19, rfl⟩⟩
      · skip
        refine zk_W.to (ls' := [some (.inr (some 22)), some (.inl x), some (.inl y), none]) (st' := [.inl 1]) (h' := (zk_mk G sw σ α (zk_md τ β t))) rfl rfl rfl ?_
        refine zk_if_ne (tgt := 28) dM_poke_22 (by decide) ⟨by decide, by decide⟩ (fun h22 => ?_) (fun h22 => ?_)
        · skip
          refine zk_aload_n dM_poke_28 rfl ?_
          refine zk_get zfM_28 dM_poke_29 (v := .inr (some 29)) rfl (by decide) rfl ?_
          refine zk_iload_n dM_poke_32 rfl ?_
          refine zk_iald dM_poke_33 (n := 4110) (f := β 6) rfl (by omega) (by omega) (by omega) ?_
          refine zk_istore_n (ls' := [some (.inr (some 22)), some (.inl x), some (.inl y), some (.inl (β 6 x.toNat))]) dM_poke_34 (by decide) rfl ?_
          refine zk_aload_n dM_poke_35 rfl ?_
          refine zk_get zfM_28 dM_poke_36 (v := .inr (some 29)) rfl (by decide) rfl ?_
          refine zk_iload_n dM_poke_39 rfl ?_
          refine zk_iload_n dM_poke_40 rfl ?_
          refine zk_iast dM_poke_41 (n := 4110) (f := β 6) (h' := (zk_mk G sw σ α (zk_md τ (zk_ua β 6 (zk_up (β 6) x.toNat y)) t))) rfl (by decide) (by omega) (by omega) (by omega) rfl ?_
          refine zk_iload_n dM_poke_42 rfl ?_
          exact zk_iret dM_poke_43 rfl (Or.inr ⟨by omega, rfl, rfl⟩)
        · skip
          exact absurd h22 (by decide)
      · skip
        refine zk_W.to (ls' := [some (.inr (some 22)), some (.inl x), some (.inl y), none]) (st' := [.inl 0]) (h' := (zk_mk G sw σ α (zk_md τ β t))) rfl rfl rfl ?_
        refine zk_if_ne (tgt := 28) dM_poke_22 (by decide) ⟨by decide, by decide⟩ (fun h22 => ?_) (fun h22 => ?_)
        · skip
          exact absurd h22 (by decide)
        · skip
          refine zk_bipush dM_poke_25 (by decide) ?_
          exact zk_iret dM_poke_27 rfl (Or.inl ⟨by omega, rfl, rfl⟩)
  · skip
    refine zk_W.to (ls' := [some (.inr (some 22)), some (.inl x), some (.inl y), none]) (st' := [.inl 0]) (h' := (zk_mk G sw σ α (zk_md τ β t))) rfl rfl rfl ?_
    refine zk_if_eq (tgt := 25) dM_poke_11 (by decide) ⟨by decide, by decide⟩ (fun h11 => ?_) (fun h11 => ?_)
    · skip
      refine zk_bipush dM_poke_25 (by decide) ?_
      exact zk_iret dM_poke_27 rfl (Or.inl ⟨by omega, rfl, rfl⟩)
    · skip
      exact absurd h11 (by decide)

set_option maxRecDepth 100000 in
set_option maxHeartbeats 4000000 in
theorem kM_shorten (G : zk_G) (sw : Bool) (σ : Nat → Int) (α : Nat → Nat → Int) (τ : Nat → Int) (β : Nat → Nat → Int) (t : zk_H) (hJ : zm_J τ β) {x : Int} (hx : zk_rg x) : zk_K G mM_shorten (1, 22) 0 0 [.inr (some 22), .inl x] (zk_mk G sw σ α (zk_md τ β t)) (fun v h' => ((¬ (0 ≤ x ∧ x ≤ τ 7)) ∧ h' = (zk_mk G sw σ α (zk_md τ β t)) ∧ v = some (.inl (-2))) ∨ ((0 ≤ x ∧ x ≤ τ 7) ∧ h' = zk_mk G sw σ α (zk_md (zk_up τ 7 (τ 7 - x)) β t) ∧ v = some (.inl (τ 7 - x)))) := by
  have hI := hJ.1
  have i0 := hI.1
  have i1 := hI.2.1
  have c0 : 0 ≤ τ 0 ∧ τ 0 ≤ 100 := hI.2.2.2 0 (by decide)
  have c1 : 0 ≤ τ 1 ∧ τ 1 ≤ 100 := hI.2.2.2 1 (by decide)
  have c2 : 0 ≤ τ 2 ∧ τ 2 ≤ 100 := hI.2.2.2 2 (by decide)
  have c3 : 0 ≤ τ 3 ∧ τ 3 ≤ 100 := hI.2.2.2 3 (by decide)
  have c4 : 0 ≤ τ 4 ∧ τ 4 ≤ 100 := hI.2.2.2 4 (by decide)
  have j5 := hJ.2.1
  have j6 := hJ.2.2.1
  have j7 := hJ.2.2.2.1
  have j8 := hJ.2.2.2.2.1
  have hA := hJ.2.2.2.2.2.1
  refine zk_K.of (ls := [some (.inr (some 22)), some (.inl x)]) (by decide +kernel) (Nat.le_of_ble_eq_true rfl) rfl ?_
  refine zk_iload_n dM_shorten_0 rfl ?_
  refine zk_iconst dM_shorten_1 ?_
  refine zk_aload_n dM_shorten_2 rfl ?_
  refine zk_get zfM_62 dM_shorten_3 (v := .inl (τ 7)) rfl (by decide) rfl ?_
  refine zk_callS (av := [.inl x, .inl 0, .inl (τ 7)]) (st := []) (d' := (0, 0)) (kc' := 0) (ks' := 0) zbM_77 dM_shorten_6 rfl rfl (Nat.le_of_ble_eq_true rfl) ⟨by decide, by decide⟩ rfl rfl (kM_isIn G sw σ α τ β t hx ⟨by decide, by decide⟩ ⟨by omega, by omega⟩) (fun v9 h9 q9 => ?_)
  rcases q9 with ⟨rfl, ⟨hc6, rfl⟩ | ⟨hc6, rfl⟩⟩
  · skip
    refine zk_W.to (ls' := [some (.inr (some 22)), some (.inl x)]) (st' := [.inl 1]) (h' := (zk_mk G sw σ α (zk_md τ β t))) rfl rfl rfl ?_
    refine zk_if_ne (tgt := 15) dM_shorten_9 (by decide) ⟨by decide, by decide⟩ (fun h9 => ?_) (fun h9 => ?_)
    · skip
      refine zk_aload_n dM_shorten_15 rfl ?_
      refine zk_dup dM_shorten_16 ?_
      refine zk_get zfM_62 dM_shorten_17 (v := .inl (τ 7)) rfl (by decide) rfl ?_
      refine zk_iload_n dM_shorten_20 rfl ?_
      refine zk_isub dM_shorten_21 ?_
      refine zk_put zfM_62 dM_shorten_22 (h' := (zk_mk G sw σ α (zk_md (zk_up τ 7 ((τ 7) - x)) β t))) rfl (by decide) (Nat.le_of_ble_eq_true rfl) rfl rfl rfl ?_
      refine zk_aload_n dM_shorten_25 rfl ?_
      refine zk_get zfM_62 dM_shorten_26 (v := .inl ((τ 7) - x)) rfl (by decide) rfl ?_
      exact zk_iret dM_shorten_29 rfl (Or.inr ⟨by omega, rfl, rfl⟩)
    · skip
      exact absurd h9 (by decide)
  · skip
    refine zk_W.to (ls' := [some (.inr (some 22)), some (.inl x)]) (st' := [.inl 0]) (h' := (zk_mk G sw σ α (zk_md τ β t))) rfl rfl rfl ?_
    refine zk_if_ne (tgt := 15) dM_shorten_9 (by decide) ⟨by decide, by decide⟩ (fun h9 => ?_) (fun h9 => ?_)
    · skip
      exact absurd h9 (by decide)
    · skip
      refine zk_bipush dM_shorten_12 (by decide) ?_
      exact zk_iret dM_shorten_14 rfl (Or.inl ⟨by omega, rfl, rfl⟩)

set_option maxRecDepth 100000 in
set_option maxHeartbeats 4000000 in
theorem kM_at (G : zk_G) (sw : Bool) (σ : Nat → Int) (α : Nat → Nat → Int) (τ : Nat → Int) (β : Nat → Nat → Int) (t : zk_H) (hJ : zm_J τ β) {x y : Int} (hx : zk_rg x) (hy : zk_rg y) : zk_K G mM_at (1, 22) 0 0 [.inr (some 22), .inl x, .inl y] (zk_mk G sw σ α (zk_md τ β t)) (fun v h' => h' = (zk_mk G sw σ α (zk_md τ β t)) ∧ (((¬ ((0 ≤ x ∧ x ≤ 1) ∧ (0 ≤ y ∧ y ≤ β 1 x.toNat - 1))) ∧ v = some (.inl (-2))) ∨ (((0 ≤ x ∧ x ≤ 1) ∧ (0 ≤ y ∧ y ≤ β 1 x.toNat - 1)) ∧ v = some (.inl (β 0 (40 * x + y).toNat))))) := by
  have hI := hJ.1
  have i0 := hI.1
  have i1 := hI.2.1
  have c0 : 0 ≤ τ 0 ∧ τ 0 ≤ 100 := hI.2.2.2 0 (by decide)
  have c1 : 0 ≤ τ 1 ∧ τ 1 ≤ 100 := hI.2.2.2 1 (by decide)
  have c2 : 0 ≤ τ 2 ∧ τ 2 ≤ 100 := hI.2.2.2 2 (by decide)
  have c3 : 0 ≤ τ 3 ∧ τ 3 ≤ 100 := hI.2.2.2 3 (by decide)
  have c4 : 0 ≤ τ 4 ∧ τ 4 ≤ 100 := hI.2.2.2 4 (by decide)
  have j5 := hJ.2.1
  have j6 := hJ.2.2.1
  have j7 := hJ.2.2.2.1
  have j8 := hJ.2.2.2.2.1
  have hA := hJ.2.2.2.2.2.1
  refine zk_K.of (ls := [some (.inr (some 22)), some (.inl x), some (.inl y)]) (by decide +kernel) (Nat.le_of_ble_eq_true rfl) rfl ?_
  refine zk_iload_n dM_at_0 rfl ?_
  refine zk_iconst dM_at_1 ?_
  refine zk_iconst dM_at_2 ?_
  refine zk_callS (av := [.inl x, .inl 0, .inl 1]) (st := []) (d' := (0, 0)) (kc' := 0) (ks' := 0) zbM_77 dM_at_3 rfl rfl (Nat.le_of_ble_eq_true rfl) ⟨by decide, by decide⟩ rfl rfl (kM_isIn G sw σ α τ β t hx ⟨by decide, by decide⟩ ⟨by decide, by decide⟩) (fun v9 h9 q9 => ?_)
  rcases q9 with ⟨rfl, ⟨hc3, rfl⟩ | ⟨hc3, rfl⟩⟩
  · skip
    refine zk_W.to (ls' := [some (.inr (some 22)), some (.inl x), some (.inl y)]) (st' := [.inl 1]) (h' := (zk_mk G sw σ α (zk_md τ β t))) rfl rfl rfl ?_
    refine zk_if_eq (tgt := 34) dM_at_6 (by decide) ⟨by decide, by decide⟩ (fun h6 => ?_) (fun h6 => ?_)
    · skip
      exact absurd h6 (by decide)
    · skip
      have iq := zm_I_q hI (q := x.toNat) (by omega)
      refine zk_iload_n dM_at_9 rfl ?_
      refine zk_iconst dM_at_10 ?_
      refine zk_aload_n dM_at_11 rfl ?_
      refine zk_get zfM_13 dM_at_12 (v := .inr (some 24)) rfl (by decide) rfl ?_
      refine zk_iload_n dM_at_15 rfl ?_
      refine zk_iald dM_at_16 (n := 2) (f := β 1) rfl (by omega) (by omega) (by omega) ?_
      refine zk_iconst dM_at_17 ?_
      refine zk_isub dM_at_18 ?_
      refine zk_callS (av := [.inl y, .inl 0, .inl ((β 1 x.toNat) - 1)]) (st := []) (d' := (0, 0)) (kc' := 0) (ks' := 0) zbM_77 dM_at_19 rfl rfl (Nat.le_of_ble_eq_true rfl) ⟨by decide, by decide⟩ rfl rfl (kM_isIn G sw σ α τ β t hy ⟨by decide, by decide⟩ ⟨by omega, by omega⟩) (fun v9 h9 q9 => ?_)
      rcases q9 with ⟨rfl, ⟨hc19, rfl⟩ | ⟨hc19, rfl⟩⟩
      · skip
        refine zk_W.to (ls' := [some (.inr (some 22)), some (.inl x), some (.inl y)]) (st' := [.inl 1]) (h' := (zk_mk G sw σ α (zk_md τ β t))) rfl rfl rfl ?_
        refine zk_if_eq (tgt := 34) dM_at_22 (by decide) ⟨by decide, by decide⟩ (fun h22 => ?_) (fun h22 => ?_)
        · skip
          exact absurd h22 (by decide)
        · skip
          refine zk_aload_n dM_at_25 rfl ?_
          refine zk_iload_n dM_at_26 rfl ?_
          refine zk_iload_n dM_at_27 rfl ?_
          refine zk_callV (av := [.inl x, .inl y]) (st := []) (d' := (0, 0)) (kc' := 0) (ks' := 0) zbM_72 dM_at_28 rfl (by decide) rfl rfl (Nat.le_of_ble_eq_true rfl) ⟨by decide, by decide⟩ rfl rfl (kM_byteOf G sw σ α τ β t ⟨by omega, by omega⟩) (fun v9 h9 q9 => ?_)
          obtain ⟨rfl, rfl⟩ := q9
          refine zk_W.to (ls' := [some (.inr (some 22)), some (.inl x), some (.inl y)]) (st' := [.inl (β 0 (40 * x + y).toNat)]) (h' := (zk_mk G sw σ α (zk_md τ β t))) rfl rfl rfl ?_
          refine zk_goto (tgt := 36) dM_at_31 (by decide) ?_
          exact zk_iret dM_at_36 rfl ⟨rfl, Or.inr ⟨by omega, rfl⟩⟩
      · skip
        refine zk_W.to (ls' := [some (.inr (some 22)), some (.inl x), some (.inl y)]) (st' := [.inl 0]) (h' := (zk_mk G sw σ α (zk_md τ β t))) rfl rfl rfl ?_
        refine zk_if_eq (tgt := 34) dM_at_22 (by decide) ⟨by decide, by decide⟩ (fun h22 => ?_) (fun h22 => ?_)
        · skip
          refine zk_bipush dM_at_34 (by decide) ?_
          exact zk_iret dM_at_36 rfl ⟨rfl, Or.inl ⟨by omega, rfl⟩⟩
        · skip
          exact absurd h22 (by decide)
  · skip
    refine zk_W.to (ls' := [some (.inr (some 22)), some (.inl x), some (.inl y)]) (st' := [.inl 0]) (h' := (zk_mk G sw σ α (zk_md τ β t))) rfl rfl rfl ?_
    refine zk_if_eq (tgt := 34) dM_at_6 (by decide) ⟨by decide, by decide⟩ (fun h6 => ?_) (fun h6 => ?_)
    · skip
      refine zk_bipush dM_at_34 (by decide) ?_
      exact zk_iret dM_at_36 rfl ⟨rfl, Or.inl ⟨by omega, rfl⟩⟩
    · skip
      exact absurd h6 (by decide)

set_option maxRecDepth 100000 in
set_option maxHeartbeats 4000000 in
theorem kM_of (G : zk_G) (sw : Bool) (σ : Nat → Int) (α : Nat → Nat → Int) (τ : Nat → Int) (β : Nat → Nat → Int) (t : zk_H) (hJ : zm_J τ β) {x : Int} (hx : zk_rg x) : zk_K G mM_of (2, 45) 0 0 [.inr (some 22), .inl x] (zk_mk G sw σ α (zk_md τ β t)) (fun v h' => h' = (zk_mk G sw σ α (zk_md τ β t)) ∧ ((x = 0 ∧ v = some (.inl (β 1 0))) ∨ (x = 1 ∧ v = some (.inl (β 1 1))) ∨ (x = 2 ∧ v = some (.inl (τ 5))) ∨ (x = 3 ∧ v = some (.inl (τ 7))) ∨ (x = 4 ∧ v = some (.inl (τ 8))) ∨ (x = 5 ∧ v = some (.inl (mt_sum (zm_T β 0) (zm_n β 0)))) ∨ (x = 6 ∧ v = some (.inl (mt_sum (zm_T β 1) (zm_n β 1)))) ∨ (x = 7 ∧ v = some (.inl (τ 6))) ∨ (x = 8 ∧ v = some (.inl (τ 0))) ∨ (x = 9 ∧ v = some (.inl (τ 1))) ∨ (x = 10 ∧ v = some (.inl (τ 2))) ∨ (x = 11 ∧ v = some (.inl (τ 3))) ∨ (x = 12 ∧ v = some (.inl (τ 4))) ∨ ((x < 0 ∨ 12 < x) ∧ v = some (.inl (-2))))) := by
  have hI := hJ.1
  have i0 := hI.1
  have i1 := hI.2.1
  have c0 : 0 ≤ τ 0 ∧ τ 0 ≤ 100 := hI.2.2.2 0 (by decide)
  have c1 : 0 ≤ τ 1 ∧ τ 1 ≤ 100 := hI.2.2.2 1 (by decide)
  have c2 : 0 ≤ τ 2 ∧ τ 2 ≤ 100 := hI.2.2.2 2 (by decide)
  have c3 : 0 ≤ τ 3 ∧ τ 3 ≤ 100 := hI.2.2.2 3 (by decide)
  have c4 : 0 ≤ τ 4 ∧ τ 4 ≤ 100 := hI.2.2.2 4 (by decide)
  have j5 := hJ.2.1
  have j6 := hJ.2.2.1
  have j7 := hJ.2.2.2.1
  have j8 := hJ.2.2.2.2.1
  have hA := hJ.2.2.2.2.2.1
  refine zk_K.of (ls := [some (.inr (some 22)), some (.inl x)]) (by decide +kernel) (Nat.le_of_ble_eq_true rfl) rfl ?_
  refine zk_iload_n dM_of_0 rfl ?_
  by_cases h1_0 : x = 0
  · skip
    refine zk_tableIn (tgt := 68) dM_of_1 hx (by omega) (by omega) (by rw [h1_0]; rfl) (by decide) ?_
    refine zk_aload_n dM_of_68 rfl ?_
    refine zk_get zfM_13 dM_of_69 (v := .inr (some 24)) rfl (by decide) rfl ?_
    refine zk_iconst dM_of_72 ?_
    refine zk_iald dM_of_73 (n := 2) (f := β 1) rfl (by omega) (by omega) (by omega) ?_
    refine zk_W.to (ls' := [some (.inr (some 22)), some (.inl x)]) (st' := [.inl (β 1 0)]) (h' := (zk_mk G sw σ α (zk_md τ β t))) rfl rfl rfl ?_
    exact zk_iret dM_of_74 rfl ⟨rfl, Or.inl ⟨by assumption, rfl⟩⟩
  by_cases h1_1 : x = 1
  · skip
    refine zk_tableIn (tgt := 75) dM_of_1 hx (by omega) (by omega) (by rw [h1_1]; rfl) (by decide) ?_
    refine zk_aload_n dM_of_75 rfl ?_
    refine zk_get zfM_13 dM_of_76 (v := .inr (some 24)) rfl (by decide) rfl ?_
    refine zk_iconst dM_of_79 ?_
    refine zk_iald dM_of_80 (n := 2) (f := β 1) rfl (by omega) (by omega) (by omega) ?_
    refine zk_W.to (ls' := [some (.inr (some 22)), some (.inl x)]) (st' := [.inl (β 1 1)]) (h' := (zk_mk G sw σ α (zk_md τ β t))) rfl rfl rfl ?_
    exact zk_iret dM_of_81 rfl ⟨rfl, Or.inr (Or.inl ⟨by assumption, rfl⟩)⟩
  by_cases h1_2 : x = 2
  · skip
    refine zk_tableIn (tgt := 82) dM_of_1 hx (by omega) (by omega) (by rw [h1_2]; rfl) (by decide) ?_
    refine zk_aload_n dM_of_82 rfl ?_
    refine zk_get zfM_56 dM_of_83 (v := .inl (τ 5)) rfl (by decide) rfl ?_
    exact zk_iret dM_of_86 rfl ⟨rfl, Or.inr (Or.inr (Or.inl ⟨by assumption, rfl⟩))⟩
  by_cases h1_3 : x = 3
  · skip
    refine zk_tableIn (tgt := 87) dM_of_1 hx (by omega) (by omega) (by rw [h1_3]; rfl) (by decide) ?_
    refine zk_aload_n dM_of_87 rfl ?_
    refine zk_get zfM_62 dM_of_88 (v := .inl (τ 7)) rfl (by decide) rfl ?_
    exact zk_iret dM_of_91 rfl ⟨rfl, Or.inr (Or.inr (Or.inr (Or.inl ⟨by assumption, rfl⟩)))⟩
  by_cases h1_4 : x = 4
  · skip
    refine zk_tableIn (tgt := 92) dM_of_1 hx (by omega) (by omega) (by rw [h1_4]; rfl) (by decide) ?_
    refine zk_aload_n dM_of_92 rfl ?_
    refine zk_get zfM_65 dM_of_93 (v := .inl (τ 8)) rfl (by decide) rfl ?_
    exact zk_iret dM_of_96 rfl ⟨rfl, Or.inr (Or.inr (Or.inr (Or.inr (Or.inl ⟨by assumption, rfl⟩))))⟩
  by_cases h1_5 : x = 5
  · skip
    refine zk_tableIn (tgt := 97) dM_of_1 hx (by omega) (by omega) (by rw [h1_5]; rfl) (by decide) ?_
    refine zk_aload_n dM_of_97 rfl ?_
    refine zk_iconst dM_of_98 ?_
    refine zk_callV (av := [.inl 0]) (st := []) (d' := (1, 22)) (kc' := 0) (ks' := 0) zbM_106 dM_of_99 rfl (by decide) rfl rfl (Nat.le_of_ble_eq_true rfl) ⟨by decide, by decide⟩ rfl rfl (kM_sumOf G sw σ α τ β t hI (q := 0) (by decide)) (fun v9 h9 q9 => ?_)
    obtain ⟨rfl, rfl⟩ := q9
    refine zk_W.to (ls' := [some (.inr (some 22)), some (.inl x)]) (st' := [.inl (mt_sum (zm_T β 0) (zm_n β 0))]) (h' := (zk_mk G sw σ α (zk_md τ β t))) rfl rfl rfl ?_
    exact zk_iret dM_of_102 rfl ⟨rfl, Or.inr (Or.inr (Or.inr (Or.inr (Or.inr (Or.inl ⟨by assumption, rfl⟩)))))⟩
  by_cases h1_6 : x = 6
  · skip
    refine zk_tableIn (tgt := 103) dM_of_1 hx (by omega) (by omega) (by rw [h1_6]; rfl) (by decide) ?_
    refine zk_aload_n dM_of_103 rfl ?_
    refine zk_iconst dM_of_104 ?_
    refine zk_callV (av := [.inl 1]) (st := []) (d' := (1, 22)) (kc' := 0) (ks' := 0) zbM_106 dM_of_105 rfl (by decide) rfl rfl (Nat.le_of_ble_eq_true rfl) ⟨by decide, by decide⟩ rfl rfl (kM_sumOf G sw σ α τ β t hI (q := 1) (by decide)) (fun v9 h9 q9 => ?_)
    obtain ⟨rfl, rfl⟩ := q9
    refine zk_W.to (ls' := [some (.inr (some 22)), some (.inl x)]) (st' := [.inl (mt_sum (zm_T β 1) (zm_n β 1))]) (h' := (zk_mk G sw σ α (zk_md τ β t))) rfl rfl rfl ?_
    exact zk_iret dM_of_108 rfl ⟨rfl, Or.inr (Or.inr (Or.inr (Or.inr (Or.inr (Or.inr (Or.inl ⟨by assumption, rfl⟩))))))⟩
  by_cases h1_7 : x = 7
  · skip
    refine zk_tableIn (tgt := 109) dM_of_1 hx (by omega) (by omega) (by rw [h1_7]; rfl) (by decide) ?_
    refine zk_aload_n dM_of_109 rfl ?_
    refine zk_get zfM_59 dM_of_110 (v := .inl (τ 6)) rfl (by decide) rfl ?_
    exact zk_iret dM_of_113 rfl ⟨rfl, Or.inr (Or.inr (Or.inr (Or.inr (Or.inr (Or.inr (Or.inr (Or.inl ⟨by assumption, rfl⟩)))))))⟩
  by_cases h1_8 : x = 8
  · skip
    refine zk_tableIn (tgt := 114) dM_of_1 hx (by omega) (by omega) (by rw [h1_8]; rfl) (by decide) ?_
    refine zk_aload_n dM_of_114 rfl ?_
    refine zk_get zfM_40 dM_of_115 (v := .inl (τ 0)) rfl (by decide) rfl ?_
    exact zk_iret dM_of_118 rfl ⟨rfl, Or.inr (Or.inr (Or.inr (Or.inr (Or.inr (Or.inr (Or.inr (Or.inr (Or.inl ⟨by assumption, rfl⟩))))))))⟩
  by_cases h1_9 : x = 9
  · skip
    refine zk_tableIn (tgt := 119) dM_of_1 hx (by omega) (by omega) (by rw [h1_9]; rfl) (by decide) ?_
    refine zk_aload_n dM_of_119 rfl ?_
    refine zk_get zfM_44 dM_of_120 (v := .inl (τ 1)) rfl (by decide) rfl ?_
    exact zk_iret dM_of_123 rfl ⟨rfl, Or.inr (Or.inr (Or.inr (Or.inr (Or.inr (Or.inr (Or.inr (Or.inr (Or.inr (Or.inl ⟨by assumption, rfl⟩)))))))))⟩
  by_cases h1_10 : x = 10
  · skip
    refine zk_tableIn (tgt := 124) dM_of_1 hx (by omega) (by omega) (by rw [h1_10]; rfl) (by decide) ?_
    refine zk_aload_n dM_of_124 rfl ?_
    refine zk_get zfM_47 dM_of_125 (v := .inl (τ 2)) rfl (by decide) rfl ?_
    exact zk_iret dM_of_128 rfl ⟨rfl, Or.inr (Or.inr (Or.inr (Or.inr (Or.inr (Or.inr (Or.inr (Or.inr (Or.inr (Or.inr (Or.inl ⟨by assumption, rfl⟩))))))))))⟩
  by_cases h1_11 : x = 11
  · skip
    refine zk_tableIn (tgt := 129) dM_of_1 hx (by omega) (by omega) (by rw [h1_11]; rfl) (by decide) ?_
    refine zk_aload_n dM_of_129 rfl ?_
    refine zk_get zfM_50 dM_of_130 (v := .inl (τ 3)) rfl (by decide) rfl ?_
    exact zk_iret dM_of_133 rfl ⟨rfl, Or.inr (Or.inr (Or.inr (Or.inr (Or.inr (Or.inr (Or.inr (Or.inr (Or.inr (Or.inr (Or.inr (Or.inl ⟨by assumption, rfl⟩)))))))))))⟩
  by_cases h1_12 : x = 12
  · skip
    refine zk_tableIn (tgt := 134) dM_of_1 hx (by omega) (by omega) (by rw [h1_12]; rfl) (by decide) ?_
    refine zk_aload_n dM_of_134 rfl ?_
    refine zk_get zfM_53 dM_of_135 (v := .inl (τ 4)) rfl (by decide) rfl ?_
    exact zk_iret dM_of_138 rfl ⟨rfl, Or.inr (Or.inr (Or.inr (Or.inr (Or.inr (Or.inr (Or.inr (Or.inr (Or.inr (Or.inr (Or.inr (Or.inr (Or.inl ⟨by assumption, rfl⟩))))))))))))⟩
  refine zk_tableOut (tgt := 139) dM_of_1 hx (by omega) (by decide) ?_
  refine zk_bipush dM_of_139 (by decide) ?_
  exact zk_iret dM_of_141 rfl ⟨rfl, Or.inr (Or.inr (Or.inr (Or.inr (Or.inr (Or.inr (Or.inr (Or.inr (Or.inr (Or.inr (Or.inr (Or.inr (Or.inr (⟨by omega, rfl⟩)))))))))))))⟩

/-- 1 where it holds -/
def mt_is (β : Nat → Nat → Int) (n : Nat) (r : Int) : Prop := ((∀ j, j < n → β 7 j = zm_T β 1 j) ∧ r = 1) ∨ ((¬ ∀ j, j < n → β 7 j = zm_T β 1 j) ∧ r = 0)
theorem mt_is_y {β : Nat → Nat → Int} {n : Nat} {r : Int} (h : mt_is β n r) (e : β 7 n = zm_T β 1 n) : mt_is β (n + 1) r := by
  rcases h with ⟨h1, h2⟩ | ⟨h1, h2⟩
  · refine Or.inl ⟨fun j hj => ?_, h2⟩
    by_cases ej : j = n
    · rw [ej]; exact e
    · exact h1 j (by omega)
  · exact Or.inr ⟨fun hh => h1 (fun j hj => hh j (by omega)), h2⟩
theorem mt_is_n {β : Nat → Nat → Int} {n : Nat} (e : β 7 n ≠ zm_T β 1 n) : mt_is β (n + 1) 0 := Or.inr ⟨fun hh => e (hh n (by omega)), rfl⟩

set_option maxRecDepth 100000 in
set_option maxHeartbeats 4000000 in
theorem wM_isNew (G : zk_G) (sw : Bool) (σ : Nat → Int) (α : Nat → Nat → Int) (τ : Nat → Int) (β : Nat → Nat → Int) (t : zk_H) (hJ : zm_J τ β) (h10 : τ 8 = β 1 1) : ∀ (k : Nat) (i : Nat) (r : Int), ((i : Int) ≤ τ 8) → (τ 8 < (i : Int) + k) → (mt_is β i r) → zk_W G mM_isNew (1, 22) 0 0 19 [some (.inr (some 22)), some (.inl r), some (.inl (i : Int))] [] (zk_mk G sw σ α (zk_md τ β t)) (fun v h' => h' = (zk_mk G sw σ α (zk_md τ β t)) ∧ ∃ r, mt_is β (τ 8).toNat r ∧ v = some (.inl r)) := by
  intro k
  induction k with
  | zero =>
    intro i r g1 g2 hr
    exfalso
    omega
  | succ k ih =>
    intro i r g1 g2 hr
    have hI := hJ.1
    have i0 := hI.1
    have i1 := hI.2.1
    have c0 : 0 ≤ τ 0 ∧ τ 0 ≤ 100 := hI.2.2.2 0 (by decide)
    have c1 : 0 ≤ τ 1 ∧ τ 1 ≤ 100 := hI.2.2.2 1 (by decide)
    have c2 : 0 ≤ τ 2 ∧ τ 2 ≤ 100 := hI.2.2.2 2 (by decide)
    have c3 : 0 ≤ τ 3 ∧ τ 3 ≤ 100 := hI.2.2.2 3 (by decide)
    have c4 : 0 ≤ τ 4 ∧ τ 4 ≤ 100 := hI.2.2.2 4 (by decide)
    have j5 := hJ.2.1
    have j6 := hJ.2.2.1
    have j7 := hJ.2.2.2.1
    have j8 := hJ.2.2.2.2.1
    have hA := hJ.2.2.2.2.2.1
    refine zk_iload_n dM_isNew_19 rfl ?_
    refine zk_aload_n dM_isNew_20 rfl ?_
    refine zk_get zfM_65 dM_isNew_21 (v := .inl (τ 8)) rfl (by decide) rfl ?_
    refine zk_icmp_ge (tgt := 54) dM_isNew_24 (by decide) ⟨by omega, by omega⟩ ⟨by omega, by omega⟩ (fun h24 => ?_) (fun h24 => ?_)
    · skip
      refine zk_iload_n dM_isNew_54 rfl ?_
      have ei : (τ 8).toNat = i := by omega
      rw [ei]
      exact zk_iret dM_isNew_55 rfl ⟨rfl, r, hr, rfl⟩
    · skip
      have b7 := hJ.2.2.2.2.2.2.2.2.1 i (by omega)
      have b0 := hI.2.2.1 (40 * 1 + (i : Int)).toNat
      refine zk_aload_n dM_isNew_27 rfl ?_
      refine zk_get zfM_31 dM_isNew_28 (v := .inr (some 30)) rfl (by decide) rfl ?_
      refine zk_iload_n dM_isNew_31 rfl ?_
      refine zk_iald dM_isNew_32 (n := 80) (f := β 7) rfl (by omega) (by omega) (by omega) ?_
      refine zk_W.to (ls' := [some (.inr (some 22)), some (.inl r), some (.inl (i : Int))]) (st' := [.inl (β 7 i)]) (h' := (zk_mk G sw σ α (zk_md τ β t))) rfl rfl rfl ?_
      refine zk_aload_n dM_isNew_33 rfl ?_
      refine zk_iconst dM_isNew_34 ?_
      refine zk_iload_n dM_isNew_35 rfl ?_
      refine zk_callV (av := [.inl 1, .inl (i : Int)]) (st := [.inl (β 7 i)]) (d' := (0, 0)) (kc' := 0) (ks' := 0) zbM_72 dM_isNew_36 rfl (by decide) rfl rfl (Nat.le_of_ble_eq_true rfl) ⟨by decide, by decide⟩ rfl rfl (kM_byteOf G sw σ α τ β t ⟨by omega, by omega⟩) (fun v9 h9 q9 => ?_)
      obtain ⟨rfl, rfl⟩ := q9
      refine zk_W.to (ls' := [some (.inr (some 22)), some (.inl r), some (.inl (i : Int))]) (st' := [.inl (β 0 (40 * 1 + (i : Int)).toNat), .inl (β 7 i)]) (h' := (zk_mk G sw σ α (zk_md τ β t))) rfl rfl rfl ?_
      refine zk_icmp_ne (tgt := 46) dM_isNew_39 (by decide) ⟨by omega, by omega⟩ ⟨by omega, by omega⟩ (fun h39 => ?_) (fun h39 => ?_)
      · skip
        refine zk_iconst dM_isNew_46 ?_
        refine zk_istore_n (ls' := [some (.inr (some 22)), some (.inl 0), some (.inl (i : Int))]) dM_isNew_47 (by decide) rfl ?_
        refine zk_iinc (ls' := [some (.inr (some 22)), some (.inl 0), some (.inl ((i : Int) + 1))]) dM_isNew_48 rfl (by decide) rfl ?_
        refine zk_goto (tgt := 19) dM_isNew_51 (by decide) ?_
        have e2 : (i : Int) + 1 = ((i + 1 : Nat) : Int) := by omega
        rw [e2]
        rw [show (40 * 1 + (i : Int)).toNat = 40 * 1 + i by omega] at h39
        exact ih (i + 1) 0 (by omega) (by omega) (mt_is_n h39)
      · skip
        refine zk_iload_n dM_isNew_42 rfl ?_
        refine zk_goto (tgt := 47) dM_isNew_43 (by decide) ?_
        refine zk_istore_n (ls' := [some (.inr (some 22)), some (.inl r), some (.inl (i : Int))]) dM_isNew_47 (by decide) rfl ?_
        refine zk_iinc (ls' := [some (.inr (some 22)), some (.inl r), some (.inl ((i : Int) + 1))]) dM_isNew_48 rfl (by decide) rfl ?_
        refine zk_goto (tgt := 19) dM_isNew_51 (by decide) ?_
        have e2 : (i : Int) + 1 = ((i + 1 : Nat) : Int) := by omega
        rw [e2]
        rw [show (40 * 1 + (i : Int)).toNat = 40 * 1 + i by omega] at h39
        exact ih (i + 1) r (by omega) (by omega) (mt_is_y hr h39)

set_option maxRecDepth 100000 in
set_option maxHeartbeats 4000000 in
theorem kM_isNew (G : zk_G) (sw : Bool) (σ : Nat → Int) (α : Nat → Nat → Int) (τ : Nat → Int) (β : Nat → Nat → Int) (t : zk_H) (hJ : zm_J τ β)  : zk_K G mM_isNew (1, 22) 0 0 [.inr (some 22)] (zk_mk G sw σ α (zk_md τ β t)) (fun v h' => h' = (zk_mk G sw σ α (zk_md τ β t)) ∧ ((τ 8 ≠ β 1 1 ∧ v = some (.inl 0)) ∨ (τ 8 = β 1 1 ∧ ∃ r, mt_is β (τ 8).toNat r ∧ v = some (.inl r)))) := by
  have hI := hJ.1
  have i0 := hI.1
  have i1 := hI.2.1
  have c0 : 0 ≤ τ 0 ∧ τ 0 ≤ 100 := hI.2.2.2 0 (by decide)
  have c1 : 0 ≤ τ 1 ∧ τ 1 ≤ 100 := hI.2.2.2 1 (by decide)
  have c2 : 0 ≤ τ 2 ∧ τ 2 ≤ 100 := hI.2.2.2 2 (by decide)
  have c3 : 0 ≤ τ 3 ∧ τ 3 ≤ 100 := hI.2.2.2 3 (by decide)
  have c4 : 0 ≤ τ 4 ∧ τ 4 ≤ 100 := hI.2.2.2 4 (by decide)
  have j5 := hJ.2.1
  have j6 := hJ.2.2.1
  have j7 := hJ.2.2.2.1
  have j8 := hJ.2.2.2.2.1
  have hA := hJ.2.2.2.2.2.1
  refine zk_K.of (ls := [some (.inr (some 22)), none, none]) (by decide +kernel) (Nat.le_of_ble_eq_true rfl) rfl ?_
  refine zk_aload_n dM_isNew_0 rfl ?_
  refine zk_get zfM_65 dM_isNew_1 (v := .inl (τ 8)) rfl (by decide) rfl ?_
  refine zk_aload_n dM_isNew_4 rfl ?_
  refine zk_get zfM_13 dM_isNew_5 (v := .inr (some 24)) rfl (by decide) rfl ?_
  refine zk_iconst dM_isNew_8 ?_
  refine zk_iald dM_isNew_9 (n := 2) (f := β 1) rfl (by omega) (by omega) (by omega) ?_
  refine zk_W.to (ls' := [some (.inr (some 22)), none, none]) (st' := [.inl (β 1 1), .inl (τ 8)]) (h' := (zk_mk G sw σ α (zk_md τ β t))) rfl rfl rfl ?_
  refine zk_icmp_eq (tgt := 15) dM_isNew_10 (by decide) ⟨by omega, by omega⟩ ⟨by omega, by omega⟩ (fun h10 => ?_) (fun h10 => ?_)
  · skip
    refine zk_iconst dM_isNew_15 ?_
    refine zk_istore_n (ls' := [some (.inr (some 22)), some (.inl 1), none]) dM_isNew_16 (by decide) rfl ?_
    refine zk_iconst dM_isNew_17 ?_
    refine zk_istore_n (ls' := [some (.inr (some 22)), some (.inl 1), some (.inl 0)]) dM_isNew_18 (by decide) rfl ?_
    refine (wM_isNew G sw σ α τ β t hJ h10 (τ 8 + 1).toNat 0 1 (by omega) (by omega) (Or.inl ⟨fun j hj => absurd hj (Nat.not_lt_zero j), rfl⟩)).mono (fun v h' hq => ⟨hq.1, Or.inr ⟨h10, hq.2⟩⟩)
  · skip
    refine zk_iconst dM_isNew_13 ?_
    exact zk_iret dM_isNew_14 rfl ⟨rfl, Or.inl ⟨h10, rfl⟩⟩

set_option maxRecDepth 100000 in
set_option maxHeartbeats 4000000 in
theorem kM_code1 (G : zk_G) (sw : Bool) (σ : Nat → Int) (α : Nat → Nat → Int) (τ : Nat → Int) (β : Nat → Nat → Int) (t : zk_H) {x : Int} (h7 : 0 ≤ τ 7 ∧ τ 7 < 4110) : zk_K G mM_code1 (0, 0) 0 0 [.inr (some 22), .inl x] (zk_mk G sw σ α (zk_md τ β t)) (fun v h' => v = none ∧ h' = zk_mk G sw σ α (zk_md (zk_up τ 7 (τ 7 + 1)) (zk_ua β 6 (zk_up (β 6) (τ 7).toNat x)) t)) := by
  refine zk_K.of (ls := [some (.inr (some 22)), some (.inl x)]) (by decide +kernel) (Nat.le_of_ble_eq_true rfl) rfl ?_
  refine zk_aload_n dM_code1_0 rfl ?_
  refine zk_get zfM_28 dM_code1_1 (v := .inr (some 29)) rfl (by decide) rfl ?_
  refine zk_aload_n dM_code1_4 rfl ?_
  refine zk_get zfM_62 dM_code1_5 (v := .inl (τ 7)) rfl (by decide) rfl ?_
  refine zk_iload_n dM_code1_8 rfl ?_
  refine zk_iast dM_code1_9 (n := 4110) (f := β 6) (h' := (zk_mk G sw σ α (zk_md τ (zk_ua β 6 (zk_up (β 6) (τ 7).toNat x)) t))) rfl (by decide) (by omega) (by omega) (by omega) rfl ?_
  refine zk_aload_n dM_code1_10 rfl ?_
  refine zk_dup dM_code1_11 ?_
  refine zk_get zfM_62 dM_code1_12 (v := .inl (τ 7)) rfl (by decide) rfl ?_
  refine zk_iconst dM_code1_15 ?_
  refine zk_iadd dM_code1_16 ?_
  refine zk_put zfM_62 dM_code1_17 (h' := (zk_mk G sw σ α (zk_md (zk_up τ 7 ((τ 7) + 1)) (zk_ua β 6 (zk_up (β 6) (τ 7).toNat x)) t))) rfl (by decide) (Nat.le_of_ble_eq_true rfl) rfl rfl rfl ?_
  exact zk_ret dM_code1_20 rfl ⟨rfl, rfl⟩
