set_option maxRecDepth 100000 in
set_option maxHeartbeats 4000000 in
theorem kM_isIn (G : zk_G) (sw : Bool) (σ : Nat → Int) (α : Nat → Nat → Int) (τ : Nat → Int) (β : Nat → Nat → Int) (t : zk_H) {x a b : Int} (hx : zk_rg x) (ha : zk_rg a) (hb : zk_rg b) : zk_K G mM_isIn (0, 0) 0 0 [.inl x, .inl a, .inl b] (zk_mk G sw σ α (zk_md τ β t)) (fun v h' => h' = (zk_mk G sw σ α (zk_md τ β t)) ∧ (((a ≤ x ∧ x ≤ b) ∧ v = some (.inl 1)) ∨ ((¬ (a ≤ x ∧ x ≤ b)) ∧ v = some (.inl 0)))) := by
  refine zk_K.of (ls := [some (.inl x), some (.inl a), some (.inl b)]) (by decide +kernel) (Nat.le_of_ble_eq_true rfl) rfl ?_
  refine zk_iload_n dM_isIn_0 rfl ?_
  refine zk_iload_n dM_isIn_1 rfl ?_
  refine zk_icmp_lt (tgt := 14) dM_isIn_2 (by decide) hx ha (fun h2 => ?_) (fun h2 => ?_)
  · skip
    refine zk_iconst dM_isIn_14 ?_
    exact zk_zret dM_isIn_15 rfl (by decide) ⟨rfl, Or.inr ⟨by omega, rfl⟩⟩
  · skip
    refine zk_iload_n dM_isIn_5 rfl ?_
    refine zk_iload_n dM_isIn_6 rfl ?_
    refine zk_icmp_gt (tgt := 14) dM_isIn_7 (by decide) hx hb (fun h7 => ?_) (fun h7 => ?_)
    · skip
      refine zk_iconst dM_isIn_14 ?_
      exact zk_zret dM_isIn_15 rfl (by decide) ⟨rfl, Or.inr ⟨by omega, rfl⟩⟩
    · skip
      refine zk_iconst dM_isIn_10 ?_
      refine zk_goto (tgt := 15) dM_isIn_11 (by decide) ?_
      exact zk_zret dM_isIn_15 rfl (by decide) ⟨rfl, Or.inl ⟨by omega, rfl⟩⟩

set_option maxRecDepth 100000 in
set_option maxHeartbeats 4000000 in
theorem kM_byteOf (G : zk_G) (sw : Bool) (σ : Nat → Int) (α : Nat → Nat → Int) (τ : Nat → Int) (β : Nat → Nat → Int) (t : zk_H) {x i : Int} (hx : 0 ≤ 40 * x + i ∧ 40 * x + i < 80) : zk_K G mM_byteOf (0, 0) 0 0 [.inr (some 22), .inl x, .inl i] (zk_mk G sw σ α (zk_md τ β t)) (fun v h' => h' = (zk_mk G sw σ α (zk_md τ β t)) ∧ v = some (.inl (β 0 (40 * x + i).toNat))) := by
  refine zk_K.of (ls := [some (.inr (some 22)), some (.inl x), some (.inl i)]) (by decide +kernel) (Nat.le_of_ble_eq_true rfl) rfl ?_
  refine zk_aload_n dM_byteOf_0 rfl ?_
  refine zk_get zfM_7 dM_byteOf_1 (v := .inr (some 23)) rfl (by decide) rfl ?_
  refine zk_bipush dM_byteOf_4 (by decide) ?_
  refine zk_iload_n dM_byteOf_6 rfl ?_
  refine zk_imul dM_byteOf_7 ?_
  refine zk_iload_n dM_byteOf_8 rfl ?_
  refine zk_iadd dM_byteOf_9 ?_
  refine zk_iald dM_byteOf_10 (n := 80) (f := β 0) rfl (by omega) (by omega) (by omega) ?_
  exact zk_iret dM_byteOf_11 rfl ⟨rfl, rfl⟩

/-- OLD (0) and NEW (1) of the reference -/
def zm_T (β : Nat → Nat → Int) (q : Nat) : Nat → Int := fun j => β 0 (40 * q + j)
def zm_n (β : Nat → Nat → Int) (q : Nat) : Nat := (β 1 q).toNat
def zm_c (τ : Nat → Int) : Nat → Int := fun j => match j with
  | 0 => τ 0
  | 1 => τ 1
  | 2 => τ 2
  | 3 => τ 3
  | _ => τ 4
/-- what every method of the reference leans on -/
def zm_I (τ : Nat → Int) (β : Nat → Nat → Int) : Prop := (0 ≤ β 1 0 ∧ β 1 0 ≤ 40) ∧ (0 ≤ β 1 1 ∧ β 1 1 ≤ 40) ∧ (∀ j, 0 ≤ β 0 j ∧ β 0 j ≤ 255) ∧ (∀ j, j < 5 → 0 ≤ zm_c τ j ∧ zm_c τ j ≤ 100)
theorem zm_I_q {τ : Nat → Int} {β : Nat → Nat → Int} (h : zm_I τ β) {q : Nat} (hq : q < 2) : 0 ≤ β 1 q ∧ β 1 q ≤ 40 := by
  match q, hq with
  | 0, _ => exact h.1
  | 1, _ => exact h.2.1

set_option maxRecDepth 100000 in
set_option maxHeartbeats 4000000 in
theorem wM_sumOf (G : zk_G) (sw : Bool) (σ : Nat → Int) (α : Nat → Nat → Int) (τ : Nat → Int) (β : Nat → Nat → Int) (t : zk_H) (hI : zm_I τ β) {q : Nat} (hq : q < 2) : ∀ (k : Nat) (i : Nat), ((i : Int) ≤ β 1 q) → (β 1 q < (i : Int) + k) → zk_W G mM_sumOf (1, 22) 0 0 4 [some (.inr (some 22)), some (.inl (q : Int)), some (.inl (mt_sum (zm_T β q) i)), some (.inl (i : Int))] [] (zk_mk G sw σ α (zk_md τ β t)) (fun v h' => h' = (zk_mk G sw σ α (zk_md τ β t)) ∧ v = some (.inl (mt_sum (zm_T β q) (zm_n β q)))) := by
  intro k
  induction k with
  | zero =>
    intro i g1 g2
    exfalso
    omega
  | succ k ih =>
    intro i g1 g2
    have iq := zm_I_q hI hq
    have hs := mt_sum_rg (zm_T β q) i
    have ei : (40 * (q : Int) + (i : Int)).toNat = 40 * q + i := by omega
    have hv := hI.2.2.1 (40 * (q : Int) + (i : Int)).toNat
    refine zk_iload_n dM_sumOf_4 rfl ?_
    refine zk_aload_n dM_sumOf_5 rfl ?_
    refine zk_get zfM_13 dM_sumOf_6 (v := .inr (some 24)) rfl (by decide) rfl ?_
    refine zk_iload_n dM_sumOf_9 rfl ?_
    refine zk_iald dM_sumOf_10 (n := 2) (f := β 1) rfl (by omega) (by omega) (by omega) ?_
    refine zk_W.to (ls' := [some (.inr (some 22)), some (.inl (q : Int)), some (.inl (mt_sum (zm_T β q) i)), some (.inl (i : Int))]) (st' := [.inl (β 1 q), .inl (i : Int)]) (h' := (zk_mk G sw σ α (zk_md τ β t))) rfl rfl rfl ?_
    refine zk_icmp_ge (tgt := 35) dM_sumOf_11 (by decide) ⟨by omega, by omega⟩ ⟨by omega, by omega⟩ (fun h11 => ?_) (fun h11 => ?_)
    · skip
      refine zk_iload_n dM_sumOf_35 rfl ?_
      have en : i = zm_n β q := by unfold zm_n; omega
      subst en
      exact zk_iret dM_sumOf_36 rfl ⟨rfl, rfl⟩
    · skip
      refine zk_bipush dM_sumOf_14 (by decide) ?_
      refine zk_iload_n dM_sumOf_16 rfl ?_
      refine zk_imul dM_sumOf_17 ?_
      refine zk_aload_n dM_sumOf_18 rfl ?_
      refine zk_iload_n dM_sumOf_19 rfl ?_
      refine zk_iload_n dM_sumOf_20 rfl ?_
      refine zk_callV (av := [.inl (q : Int), .inl (i : Int)]) (st := [.inl (31 * (mt_sum (zm_T β q) i))]) (d' := (0, 0)) (kc' := 0) (ks' := 0) zbM_72 dM_sumOf_21 rfl (by decide) rfl rfl (Nat.le_of_ble_eq_true rfl) ⟨by decide, by decide⟩ rfl rfl (kM_byteOf G sw σ α τ β t ⟨by omega, by omega⟩) (fun v9 h9 q9 => ?_)
      obtain ⟨rfl, rfl⟩ := q9
      refine zk_W.to (ls' := [some (.inr (some 22)), some (.inl (q : Int)), some (.inl (mt_sum (zm_T β q) i)), some (.inl (i : Int))]) (st' := [.inl (β 0 (40 * (q : Int) + (i : Int)).toNat), .inl (31 * (mt_sum (zm_T β q) i))]) (h' := (zk_mk G sw σ α (zk_md τ β t))) rfl rfl rfl ?_
      refine zk_iadd dM_sumOf_24 ?_
      refine zk_ldc (z := 65521) dM_sumOf_25 zcM_76 ?_
      refine zk_irem dM_sumOf_27 (by omega) ⟨by omega, by omega⟩ (by omega) ⟨by decide, by decide⟩ ?_
      refine zk_istore_n (ls' := [some (.inr (some 22)), some (.inl (q : Int)), some (.inl (((31 * (mt_sum (zm_T β q) i)) + (β 0 (40 * (q : Int) + (i : Int)).toNat)) % 65521)), some (.inl (i : Int))]) dM_sumOf_28 (by decide) rfl ?_
      refine zk_iinc (ls' := [some (.inr (some 22)), some (.inl (q : Int)), some (.inl (((31 * (mt_sum (zm_T β q) i)) + (β 0 (40 * (q : Int) + (i : Int)).toNat)) % 65521)), some (.inl ((i : Int) + 1))]) dM_sumOf_29 rfl (by decide) rfl ?_
      refine zk_goto (tgt := 4) dM_sumOf_32 (by decide) ?_
      have e1 : ((31 * (mt_sum (zm_T β q) i)) + (β 0 (40 * (q : Int) + (i : Int)).toNat)) % 65521 = mt_sum (zm_T β q) (i + 1) := by
        rw [ei]
        show _ = (mt_sum (zm_T β q) i * 31 + β 0 (40 * q + i)) % 65521
        rw [Int.mul_comm]
      have e2 : (i : Int) + 1 = ((i + 1 : Nat) : Int) := by omega
      rw [e1, e2]
      exact ih (i + 1) (by omega) (by omega)

set_option maxRecDepth 100000 in
set_option maxHeartbeats 4000000 in
theorem kM_sumOf (G : zk_G) (sw : Bool) (σ : Nat → Int) (α : Nat → Nat → Int) (τ : Nat → Int) (β : Nat → Nat → Int) (t : zk_H) (hI : zm_I τ β) {q : Nat} (hq : q < 2) : zk_K G mM_sumOf (1, 22) 0 0 [.inr (some 22), .inl (q : Int)] (zk_mk G sw σ α (zk_md τ β t)) (fun v h' => h' = (zk_mk G sw σ α (zk_md τ β t)) ∧ v = some (.inl (mt_sum (zm_T β q) (zm_n β q)))) := by
  have iq := zm_I_q hI hq
  refine zk_K.of (ls := [some (.inr (some 22)), some (.inl (q : Int)), none, none]) (by decide +kernel) (Nat.le_of_ble_eq_true rfl) rfl ?_
  refine zk_iconst dM_sumOf_0 ?_
  refine zk_istore_n (ls' := [some (.inr (some 22)), some (.inl (q : Int)), some (.inl 1), none]) dM_sumOf_1 (by decide) rfl ?_
  refine zk_iconst dM_sumOf_2 ?_
  refine zk_istore_n (ls' := [some (.inr (some 22)), some (.inl (q : Int)), some (.inl 1), some (.inl 0)]) dM_sumOf_3 (by decide) rfl ?_
  exact wM_sumOf G sw σ α τ β t hI hq (β 1 q + 1).toNat 0 (by omega) (by omega)

set_option maxRecDepth 100000 in
set_option maxHeartbeats 4000000 in
theorem kM_begin (G : zk_G) (sw : Bool) (σ : Nat → Int) (α : Nat → Nat → Int) (τ : Nat → Int) (β : Nat → Nat → Int) (t : zk_H)  : zk_K G mM_begin (0, 0) 0 0 [.inr (some 22)] (zk_mk G sw σ α (zk_md τ β t)) (fun v h' => v = none ∧ h' = zk_mk G sw σ α (zk_md (zk_up (zk_up (zk_up (zk_up (zk_up (zk_up (zk_up (zk_up (zk_up (zk_up τ 0 4) 1 2) 2 4) 3 2) 4 3) 5 0) 6 1) 7 0) 8 0) 9 0) (zk_ua (zk_ua β 1 (zk_up (β 1) 0 0)) 1 (zk_up (zk_up (β 1) 0 0) 1 0)) t)) := by
  refine zk_K.of (ls := [some (.inr (some 22))]) (by decide +kernel) (Nat.le_of_ble_eq_true rfl) rfl ?_
  refine zk_aload_n dM_begin_0 rfl ?_
  refine zk_get zfM_13 dM_begin_1 (v := .inr (some 24)) rfl (by decide) rfl ?_
  refine zk_iconst dM_begin_4 ?_
  refine zk_iconst dM_begin_5 ?_
  refine zk_iast dM_begin_6 (n := 2) (f := β 1) (h' := (zk_mk G sw σ α (zk_md τ (zk_ua β 1 (zk_up (β 1) 0 0)) t))) rfl (by decide) (by omega) (by omega) (by omega) rfl ?_
  refine zk_aload_n dM_begin_7 rfl ?_
  refine zk_get zfM_13 dM_begin_8 (v := .inr (some 24)) rfl (by decide) rfl ?_
  refine zk_iconst dM_begin_11 ?_
  refine zk_iconst dM_begin_12 ?_
  refine zk_iast dM_begin_13 (n := 2) (f := zk_up (β 1) 0 0) (h' := (zk_mk G sw σ α (zk_md τ (zk_ua (zk_ua β 1 (zk_up (β 1) 0 0)) 1 (zk_up (zk_up (β 1) 0 0) 1 0)) t))) rfl (by decide) (by omega) (by omega) (by omega) rfl ?_
  refine zk_aload_n dM_begin_14 rfl ?_
  refine zk_iconst dM_begin_15 ?_
  refine zk_put zfM_40 dM_begin_16 (h' := (zk_mk G sw σ α (zk_md (zk_up τ 0 4) (zk_ua (zk_ua β 1 (zk_up (β 1) 0 0)) 1 (zk_up (zk_up (β 1) 0 0) 1 0)) t))) rfl (by decide) (Nat.le_of_ble_eq_true rfl) rfl rfl rfl ?_
  refine zk_aload_n dM_begin_19 rfl ?_
  refine zk_iconst dM_begin_20 ?_
  refine zk_put zfM_44 dM_begin_21 (h' := (zk_mk G sw σ α (zk_md (zk_up (zk_up τ 0 4) 1 2) (zk_ua (zk_ua β 1 (zk_up (β 1) 0 0)) 1 (zk_up (zk_up (β 1) 0 0) 1 0)) t))) rfl (by decide) (Nat.le_of_ble_eq_true rfl) rfl rfl rfl ?_
  refine zk_aload_n dM_begin_24 rfl ?_
  refine zk_iconst dM_begin_25 ?_
  refine zk_put zfM_47 dM_begin_26 (h' := (zk_mk G sw σ α (zk_md (zk_up (zk_up (zk_up τ 0 4) 1 2) 2 4) (zk_ua (zk_ua β 1 (zk_up (β 1) 0 0)) 1 (zk_up (zk_up (β 1) 0 0) 1 0)) t))) rfl (by decide) (Nat.le_of_ble_eq_true rfl) rfl rfl rfl ?_
  refine zk_aload_n dM_begin_29 rfl ?_
  refine zk_iconst dM_begin_30 ?_
  refine zk_put zfM_50 dM_begin_31 (h' := (zk_mk G sw σ α (zk_md (zk_up (zk_up (zk_up (zk_up τ 0 4) 1 2) 2 4) 3 2) (zk_ua (zk_ua β 1 (zk_up (β 1) 0 0)) 1 (zk_up (zk_up (β 1) 0 0) 1 0)) t))) rfl (by decide) (Nat.le_of_ble_eq_true rfl) rfl rfl rfl ?_
  refine zk_aload_n dM_begin_34 rfl ?_
  refine zk_iconst dM_begin_35 ?_
  refine zk_put zfM_53 dM_begin_36 (h' := (zk_mk G sw σ α (zk_md (zk_up (zk_up (zk_up (zk_up (zk_up τ 0 4) 1 2) 2 4) 3 2) 4 3) (zk_ua (zk_ua β 1 (zk_up (β 1) 0 0)) 1 (zk_up (zk_up (β 1) 0 0) 1 0)) t))) rfl (by decide) (Nat.le_of_ble_eq_true rfl) rfl rfl rfl ?_
  refine zk_aload_n dM_begin_39 rfl ?_
  refine zk_iconst dM_begin_40 ?_
  refine zk_put zfM_56 dM_begin_41 (h' := (zk_mk G sw σ α (zk_md (zk_up (zk_up (zk_up (zk_up (zk_up (zk_up τ 0 4) 1 2) 2 4) 3 2) 4 3) 5 0) (zk_ua (zk_ua β 1 (zk_up (β 1) 0 0)) 1 (zk_up (zk_up (β 1) 0 0) 1 0)) t))) rfl (by decide) (Nat.le_of_ble_eq_true rfl) rfl rfl rfl ?_
  refine zk_aload_n dM_begin_44 rfl ?_
  refine zk_iconst dM_begin_45 ?_
  refine zk_put zfM_59 dM_begin_46 (h' := (zk_mk G sw σ α (zk_md (zk_up (zk_up (zk_up (zk_up (zk_up (zk_up (zk_up τ 0 4) 1 2) 2 4) 3 2) 4 3) 5 0) 6 1) (zk_ua (zk_ua β 1 (zk_up (β 1) 0 0)) 1 (zk_up (zk_up (β 1) 0 0) 1 0)) t))) rfl (by decide) (Nat.le_of_ble_eq_true rfl) rfl rfl rfl ?_
  refine zk_aload_n dM_begin_49 rfl ?_
  refine zk_iconst dM_begin_50 ?_
  refine zk_put zfM_62 dM_begin_51 (h' := (zk_mk G sw σ α (zk_md (zk_up (zk_up (zk_up (zk_up (zk_up (zk_up (zk_up (zk_up τ 0 4) 1 2) 2 4) 3 2) 4 3) 5 0) 6 1) 7 0) (zk_ua (zk_ua β 1 (zk_up (β 1) 0 0)) 1 (zk_up (zk_up (β 1) 0 0) 1 0)) t))) rfl (by decide) (Nat.le_of_ble_eq_true rfl) rfl rfl rfl ?_
  refine zk_aload_n dM_begin_54 rfl ?_
  refine zk_iconst dM_begin_55 ?_
  refine zk_put zfM_65 dM_begin_56 (h' := (zk_mk G sw σ α (zk_md (zk_up (zk_up (zk_up (zk_up (zk_up (zk_up (zk_up (zk_up (zk_up τ 0 4) 1 2) 2 4) 3 2) 4 3) 5 0) 6 1) 7 0) 8 0) (zk_ua (zk_ua β 1 (zk_up (β 1) 0 0)) 1 (zk_up (zk_up (β 1) 0 0) 1 0)) t))) rfl (by decide) (Nat.le_of_ble_eq_true rfl) rfl rfl rfl ?_
  refine zk_aload_n dM_begin_59 rfl ?_
  refine zk_iconst dM_begin_60 ?_
  refine zk_put zfM_68 dM_begin_61 (h' := (zk_mk G sw σ α (zk_md (zk_up (zk_up (zk_up (zk_up (zk_up (zk_up (zk_up (zk_up (zk_up (zk_up τ 0 4) 1 2) 2 4) 3 2) 4 3) 5 0) 6 1) 7 0) 8 0) 9 0) (zk_ua (zk_ua β 1 (zk_up (β 1) 0 0)) 1 (zk_up (zk_up (β 1) 0 0) 1 0)) t))) rfl (by decide) (Nat.le_of_ble_eq_true rfl) rfl rfl rfl ?_
  exact zk_ret dM_begin_64 rfl ⟨rfl, rfl⟩

set_option maxRecDepth 100000 in
set_option maxHeartbeats 4000000 in
theorem kM_costOf (G : zk_G) (sw : Bool) (σ : Nat → Int) (α : Nat → Nat → Int) (τ : Nat → Int) (β : Nat → Nat → Int) (t : zk_H) {k p n s : Int} (hk : zk_rg k) (hp : zk_rg p) (hs : zk_rg s) : zk_K G mM_costOf (0, 0) 0 0 [.inr (some 22), .inl k, .inl p, .inl n, .inl s] (zk_mk G sw σ α (zk_md τ β t)) (fun v h' => h' = (zk_mk G sw σ α (zk_md τ β t)) ∧ v = some (.inl (if k = 0 then (if p = s then τ 0 else τ 0 + τ 1) else if k = 1 then τ 2 else τ 3 + τ 4 * n))) := by
  refine zk_K.of (ls := [some (.inr (some 22)), some (.inl k), some (.inl p), some (.inl n), some (.inl s)]) (by decide +kernel) (Nat.le_of_ble_eq_true rfl) rfl ?_
  refine zk_iload_n dM_costOf_0 rfl ?_
  refine zk_if_ne (tgt := 24) dM_costOf_1 (by decide) hk (fun h1 => ?_) (fun h1 => ?_)
  · skip
    refine zk_iload_n dM_costOf_24 rfl ?_
    refine zk_iconst dM_costOf_25 ?_
    refine zk_icmp_ne (tgt := 36) dM_costOf_26 (by decide) hk ⟨by decide, by decide⟩ (fun h26 => ?_) (fun h26 => ?_)
    · skip
      refine zk_aload_n dM_costOf_36 rfl ?_
      refine zk_get zfM_50 dM_costOf_37 (v := .inl (τ 3)) rfl (by decide) rfl ?_
      refine zk_aload_n dM_costOf_40 rfl ?_
      refine zk_get zfM_53 dM_costOf_41 (v := .inl (τ 4)) rfl (by decide) rfl ?_
      refine zk_iload_n dM_costOf_44 rfl ?_
      refine zk_imul dM_costOf_45 ?_
      refine zk_iadd dM_costOf_46 ?_
      refine zk_iret dM_costOf_47 rfl ⟨rfl, ?_⟩
      first | (rw [if_pos h1, if_pos h11, Int.add_zero]) | (rw [if_pos h1, if_neg h11]) | (rw [if_neg h1, if_pos h26]) | (rw [if_neg h1, if_neg h26])
    · skip
      refine zk_aload_n dM_costOf_29 rfl ?_
      refine zk_get zfM_47 dM_costOf_30 (v := .inl (τ 2)) rfl (by decide) rfl ?_
      refine zk_goto (tgt := 47) dM_costOf_33 (by decide) ?_
      refine zk_iret dM_costOf_47 rfl ⟨rfl, ?_⟩
      first | (rw [if_pos h1, if_pos h11, Int.add_zero]) | (rw [if_pos h1, if_neg h11]) | (rw [if_neg h1, if_pos h26]) | (rw [if_neg h1, if_neg h26])
  · skip
    refine zk_aload_n dM_costOf_4 rfl ?_
    refine zk_get zfM_40 dM_costOf_5 (v := .inl (τ 0)) rfl (by decide) rfl ?_
    refine zk_iload_n dM_costOf_8 rfl ?_
    refine zk_iload dM_costOf_9 rfl ?_
    refine zk_icmp_ne (tgt := 18) dM_costOf_11 (by decide) hp hs (fun h11 => ?_) (fun h11 => ?_)
    · skip
      refine zk_aload_n dM_costOf_18 rfl ?_
      refine zk_get zfM_44 dM_costOf_19 (v := .inl (τ 1)) rfl (by decide) rfl ?_
      refine zk_iadd dM_costOf_22 ?_
      refine zk_iret dM_costOf_23 rfl ⟨rfl, ?_⟩
      first | (rw [if_pos h1, if_pos h11, Int.add_zero]) | (rw [if_pos h1, if_neg h11]) | (rw [if_neg h1, if_pos h26]) | (rw [if_neg h1, if_neg h26])
    · skip
      refine zk_iconst dM_costOf_14 ?_
      refine zk_goto (tgt := 22) dM_costOf_15 (by decide) ?_
      refine zk_iadd dM_costOf_22 ?_
      refine zk_iret dM_costOf_23 rfl ⟨rfl, ?_⟩
      first | (rw [if_pos h1, if_pos h11, Int.add_zero]) | (rw [if_pos h1, if_neg h11]) | (rw [if_neg h1, if_pos h26]) | (rw [if_neg h1, if_neg h26])

set_option maxRecDepth 100000 in
set_option maxHeartbeats 4000000 in
theorem wM_like (G : zk_G) (sw : Bool) (σ : Nat → Int) (α : Nat → Nat → Int) (τ : Nat → Int) (β : Nat → Nat → Int) (t : zk_H) (hI : zm_I τ β) {q : Nat} (hq : q < 2) {p i : Nat} (hp : (p : Int) ≤ β 1 q) (hi : (i : Int) ≤ β 1 1) : ∀ (k : Nat) (n : Nat), ((p : Int) + n ≤ β 1 q ∧ (i : Int) + n ≤ β 1 1) → (40 < n + k) → (∀ s, s < n → zm_T β q (p + s) = zm_T β 1 (i + s)) → zk_W G mM_like (1, 22) 0 0 3 [some (.inr (some 22)), some (.inl (q : Int)), some (.inl (p : Int)), some (.inl (i : Int)), some (.inl (n : Int))] [] (zk_mk G sw σ α (zk_md τ β t)) (fun v h' => h' = (zk_mk G sw σ α (zk_md τ β t)) ∧ v = some (.inl (mt_len (zm_T β q) (zm_T β 1) p i (min (zm_n β q - p) (zm_n β 1 - i)) : Int))) := by
  intro k
  induction k with
  | zero =>
    intro n g0 g2 g3
    have iq := zm_I_q hI hq
    exfalso
    omega
  | succ k ih =>
    intro n g0 g2 g3
    have iq := zm_I_q hI hq
    have i1 := hI.2.1
    have ep : (40 * (q : Int) + ((p : Int) + (n : Int))).toNat = 40 * q + (p + n) := by omega
    have ei : (40 * 1 + ((i : Int) + (n : Int))).toNat = 40 * 1 + (i + n) := by omega
    have hv1 := hI.2.2.1 (40 * (q : Int) + ((p : Int) + (n : Int))).toNat
    have hv2 := hI.2.2.1 (40 * 1 + ((i : Int) + (n : Int))).toNat
    refine zk_iload_n dM_like_3 rfl ?_
    refine zk_iload dM_like_4 rfl ?_
    refine zk_iadd dM_like_6 ?_
    refine zk_aload_n dM_like_7 rfl ?_
    refine zk_get zfM_13 dM_like_8 (v := .inr (some 24)) rfl (by decide) rfl ?_
    refine zk_iload_n dM_like_11 rfl ?_
    refine zk_iald dM_like_12 (n := 2) (f := β 1) rfl (by omega) (by omega) (by omega) ?_
    refine zk_W.to (ls' := [some (.inr (some 22)), some (.inl (q : Int)), some (.inl (p : Int)), some (.inl (i : Int)), some (.inl (n : Int))]) (st' := [.inl (β 1 q), .inl ((p : Int) + (n : Int))]) (h' := (zk_mk G sw σ α (zk_md τ β t))) rfl rfl rfl ?_
    refine zk_icmp_ge (tgt := 56) dM_like_13 (by decide) ⟨by omega, by omega⟩ ⟨by omega, by omega⟩ (fun h13 => ?_) (fun h13 => ?_)
    · skip
      refine zk_iload dM_like_56 rfl ?_
      refine zk_iret dM_like_58 rfl ⟨rfl, ?_⟩
      rw [mt_len_eq (n := n) (by unfold zm_n; omega) g3 (by first | exact Or.inl (by unfold zm_n; omega) | exact Or.inr (fun e => h47 (by rw [ep, ei]; exact e)))]
    · skip
      refine zk_iload_n dM_like_16 rfl ?_
      refine zk_iload dM_like_17 rfl ?_
      refine zk_iadd dM_like_19 ?_
      refine zk_aload_n dM_like_20 rfl ?_
      refine zk_get zfM_13 dM_like_21 (v := .inr (some 24)) rfl (by decide) rfl ?_
      refine zk_iconst dM_like_24 ?_
      refine zk_iald dM_like_25 (n := 2) (f := β 1) rfl (by omega) (by omega) (by omega) ?_
      refine zk_W.to (ls' := [some (.inr (some 22)), some (.inl (q : Int)), some (.inl (p : Int)), some (.inl (i : Int)), some (.inl (n : Int))]) (st' := [.inl (β 1 1), .inl ((i : Int) + (n : Int))]) (h' := (zk_mk G sw σ α (zk_md τ β t))) rfl rfl rfl ?_
      refine zk_icmp_ge (tgt := 56) dM_like_26 (by decide) ⟨by omega, by omega⟩ ⟨by omega, by omega⟩ (fun h26 => ?_) (fun h26 => ?_)
      · skip
        refine zk_iload dM_like_56 rfl ?_
        refine zk_iret dM_like_58 rfl ⟨rfl, ?_⟩
        rw [mt_len_eq (n := n) (by unfold zm_n; omega) g3 (by first | exact Or.inl (by unfold zm_n; omega) | exact Or.inr (fun e => h47 (by rw [ep, ei]; exact e)))]
      · skip
        refine zk_aload_n dM_like_29 rfl ?_
        refine zk_iload_n dM_like_30 rfl ?_
        refine zk_iload_n dM_like_31 rfl ?_
        refine zk_iload dM_like_32 rfl ?_
        refine zk_iadd dM_like_34 ?_
        refine zk_callV (av := [.inl (q : Int), .inl ((p : Int) + (n : Int))]) (st := []) (d' := (0, 0)) (kc' := 0) (ks' := 0) zbM_72 dM_like_35 rfl (by decide) rfl rfl (Nat.le_of_ble_eq_true rfl) ⟨by decide, by decide⟩ rfl rfl (kM_byteOf G sw σ α τ β t ⟨by omega, by omega⟩) (fun v9 h9 q9 => ?_)
        obtain ⟨rfl, rfl⟩ := q9
        refine zk_W.to (ls' := [some (.inr (some 22)), some (.inl (q : Int)), some (.inl (p : Int)), some (.inl (i : Int)), some (.inl (n : Int))]) (st' := [.inl (β 0 (40 * (q : Int) + ((p : Int) + (n : Int))).toNat)]) (h' := (zk_mk G sw σ α (zk_md τ β t))) rfl rfl rfl ?_
        refine zk_aload_n dM_like_38 rfl ?_
        refine zk_iconst dM_like_39 ?_
        refine zk_iload_n dM_like_40 rfl ?_
        refine zk_iload dM_like_41 rfl ?_
        refine zk_iadd dM_like_43 ?_
        refine zk_callV (av := [.inl 1, .inl ((i : Int) + (n : Int))]) (st := [.inl (β 0 (40 * (q : Int) + ((p : Int) + (n : Int))).toNat)]) (d' := (0, 0)) (kc' := 0) (ks' := 0) zbM_72 dM_like_44 rfl (by decide) rfl rfl (Nat.le_of_ble_eq_true rfl) ⟨by decide, by decide⟩ rfl rfl (kM_byteOf G sw σ α τ β t ⟨by omega, by omega⟩) (fun v9 h9 q9 => ?_)
        obtain ⟨rfl, rfl⟩ := q9
        refine zk_W.to (ls' := [some (.inr (some 22)), some (.inl (q : Int)), some (.inl (p : Int)), some (.inl (i : Int)), some (.inl (n : Int))]) (st' := [.inl (β 0 (40 * 1 + ((i : Int) + (n : Int))).toNat), .inl (β 0 (40 * (q : Int) + ((p : Int) + (n : Int))).toNat)]) (h' := (zk_mk G sw σ α (zk_md τ β t))) rfl rfl rfl ?_
        refine zk_icmp_ne (tgt := 56) dM_like_47 (by decide) ⟨by omega, by omega⟩ ⟨by omega, by omega⟩ (fun h47 => ?_) (fun h47 => ?_)
        · skip
          refine zk_iload dM_like_56 rfl ?_
          refine zk_iret dM_like_58 rfl ⟨rfl, ?_⟩
          rw [mt_len_eq (n := n) (by unfold zm_n; omega) g3 (by first | exact Or.inl (by unfold zm_n; omega) | exact Or.inr (fun e => h47 (by rw [ep, ei]; exact e)))]
        · skip
          refine zk_iinc (ls' := [some (.inr (some 22)), some (.inl (q : Int)), some (.inl (p : Int)), some (.inl (i : Int)), some (.inl ((n : Int) + 1))]) dM_like_50 rfl (by decide) rfl ?_
          refine zk_goto (tgt := 3) dM_like_53 (by decide) ?_
          have e2 : (n : Int) + 1 = ((n + 1 : Nat) : Int) := by omega
          rw [e2]
          refine ih (n + 1) (by omega) (by omega) (fun s hs => ?_)
          by_cases he : s < n
          · exact g3 s he
          · have hsn : s = n := by omega
            subst hsn
            rw [ep, ei] at h47
            exact h47

set_option maxRecDepth 100000 in
set_option maxHeartbeats 4000000 in
theorem kM_like (G : zk_G) (sw : Bool) (σ : Nat → Int) (α : Nat → Nat → Int) (τ : Nat → Int) (β : Nat → Nat → Int) (t : zk_H) (hI : zm_I τ β) {q : Nat} (hq : q < 2) {p i : Nat} (hp : (p : Int) ≤ β 1 q) (hi : (i : Int) ≤ β 1 1) : zk_K G mM_like (1, 22) 0 0 [.inr (some 22), .inl (q : Int), .inl (p : Int), .inl (i : Int)] (zk_mk G sw σ α (zk_md τ β t)) (fun v h' => h' = (zk_mk G sw σ α (zk_md τ β t)) ∧ v = some (.inl (mt_len (zm_T β q) (zm_T β 1) p i (min (zm_n β q - p) (zm_n β 1 - i)) : Int))) := by
  refine zk_K.of (ls := [some (.inr (some 22)), some (.inl (q : Int)), some (.inl (p : Int)), some (.inl (i : Int)), none]) (by decide +kernel) (Nat.le_of_ble_eq_true rfl) rfl ?_
  refine zk_iconst dM_like_0 ?_
  refine zk_istore (ls' := [some (.inr (some 22)), some (.inl (q : Int)), some (.inl (p : Int)), some (.inl (i : Int)), some (.inl 0)]) dM_like_1 (by decide) rfl ?_
  exact wM_like G sw σ α τ β t hI hq hp hi 41 0 (by omega) (by omega) (fun s hs => absurd hs (Nat.not_lt_zero s))

set_option maxRecDepth 100000 in
set_option maxHeartbeats 4000000 in
theorem kM_better (G : zk_G) (sw : Bool) (σ : Nat → Int) (α : Nat → Nat → Int) (τ : Nat → Int) (β : Nat → Nat → Int) (t : zk_H) {i s x : Int} (hi : 0 ≤ i ∧ i ≤ 40) (hs : 0 ≤ s ∧ s ≤ 40) (hx : zk_rg x) (hl : zk_rg (β 8 (41 * i + s).toNat)) : zk_K G mM_better (0, 0) 0 0 [.inr (some 22), .inl i, .inl s, .inl x] (zk_mk G sw σ α (zk_md τ β t)) (fun v h' => v = none ∧ h' = zk_mk G sw σ α (zk_md τ (zk_ua β 8 (zk_up (β 8) (41 * i + s).toNat (min x (β 8 (41 * i + s).toNat)))) t)) := by
  refine zk_K.of (ls := [some (.inr (some 22)), some (.inl i), some (.inl s), some (.inl x)]) (by decide +kernel) (Nat.le_of_ble_eq_true rfl) rfl ?_
  refine zk_iload_n dM_better_0 rfl ?_
  refine zk_aload_n dM_better_1 rfl ?_
  refine zk_get zfM_34 dM_better_2 (v := .inr (some 31)) rfl (by decide) rfl ?_
  refine zk_bipush dM_better_5 (by decide) ?_
  refine zk_iload_n dM_better_7 rfl ?_
  refine zk_imul dM_better_8 ?_
  refine zk_iload_n dM_better_9 rfl ?_
  refine zk_iadd dM_better_10 ?_
  refine zk_iald dM_better_11 (n := 1681) (f := β 8) rfl (by omega) (by omega) (by omega) ?_
  refine zk_icmp_ge (tgt := 27) dM_better_12 (by decide) hx hl (fun h12 => ?_) (fun h12 => ?_)
  · skip
    refine zk_ret dM_better_27 rfl ⟨rfl, ?_⟩
    rw [show min x (β 8 (41 * i + s).toNat) = β 8 (41 * i + s).toNat by omega, zk_up_self, zk_ua_self]
  · skip
    refine zk_aload_n dM_better_15 rfl ?_
    refine zk_get zfM_34 dM_better_16 (v := .inr (some 31)) rfl (by decide) rfl ?_
    refine zk_bipush dM_better_19 (by decide) ?_
    refine zk_iload_n dM_better_21 rfl ?_
    refine zk_imul dM_better_22 ?_
    refine zk_iload_n dM_better_23 rfl ?_
    refine zk_iadd dM_better_24 ?_
    refine zk_iload_n dM_better_25 rfl ?_
    refine zk_iast dM_better_26 (n := 1681) (f := β 8) (h' := (zk_mk G sw σ α (zk_md τ (zk_ua β 8 (zk_up (β 8) ((41 * i) + s).toNat x)) t))) rfl (by decide) (by omega) (by omega) (by omega) rfl ?_
    refine zk_ret dM_better_27 rfl ⟨rfl, ?_⟩
    rw [show min x (β 8 (41 * i + s).toNat) = x by omega]
