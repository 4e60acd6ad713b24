theorem zs_f_13 (σ : Nat → Int) (i s x p n : Nat) : ∀ q, q < 13 → zs_f σ i s x p n q = σ q := by
  intro q hq
  unfold zs_f zs_k zk_up
  rw [if_neg (by omega), if_neg (by omega), if_neg (by omega), if_neg (by omega), if_neg (by omega), if_neg (by omega)]
theorem zs_T_E {σ σ' : Nat → Int} {α α' : Nat → Nat → Int} (h : zc_E σ σ' α α') (hT : zs_T σ' α') : zs_T σ (zk_ua α 9 (α' 9)) := by
  have ec := zc_E_c h
  obtain ⟨⟨h0, h1, -⟩, -, ⟨g0, g1, -⟩⟩ := h
  unfold zs_T at hT ⊢
  rw [h0, h1, ec, g0, g1] at hT
  exact hT
theorem zs_B_E {σ σ' : Nat → Int} {α α' : Nat → Nat → Int} {i s x p n : Nat} (h : zc_E σ σ' α α') (hB : zs_B σ' α' i s x p n) : mt_best (α 0) (σ 0).toNat (α 1) (σ 1).toNat (zs_c σ) (mt_tb (α' 9)) i s x p n := by
  have ec := zc_E_c h
  obtain ⟨⟨h0, h1, -⟩, -, ⟨g0, g1, -⟩⟩ := h
  unfold zs_B at hB
  rw [h0, h1, ec, g0, g1] at hB
  exact hB

set_option maxRecDepth 100000 in
set_option maxHeartbeats 4000000 in
theorem wC_plan (G : zk_G) (sw : Bool) (σ : Nat → Int) (α : Nat → Nat → Int) (t : zk_H) (hI : zc_I σ α) {f : Nat → Int} : ∀ (k : Nat) (m : Nat) (σ' : Nat → Int) (α' : Nat → Nat → Int), (m ≤ 40) → (40 < m + k) → (zc_pl f σ σ' α α' m) → zk_W G mC_plan (6, 137) 0 0 23 [some (.inr (some 1)), some (.inl (m : Int))] [] (zk_mk G sw σ' α' t) (fun v h' => ∃ (σ3 : Nat → Int) (α3 : Nat → Nat → Int) (m : Nat), zc_pl f σ σ3 α α3 m ∧ mt_isum (α3 7) m = σ 1 ∧ h' = zk_mk G sw σ3 α3 t ∧ v = some (.inl (m : Int))) := by
  intro k
  induction k with
  | zero =>
    intro m σ' α' g1 g2 hpl
    exfalso
    omega
  | succ k ih =>
    intro m σ' α' g1 g2 hpl
    have hn0 := hI.1 0 (by decide)
    have hn1 := hI.1 1 (by decide)
    have hn2 := hI.1 2 (by decide)
    have hn3 := hI.1 3 (by decide)
    have hn4 := hI.1 4 (by decide)
    have eN0 : (zr_N 0 : Int) = 40 := rfl
    have eN1 : (zr_N 1 : Int) = 40 := rfl
    have eN2 : (zr_N 2 : Int) = 80 := rfl
    have eN3 : (zr_N 3 : Int) = 4102 := rfl
    have eN4 : (zr_N 4 : Int) = 4000 := rfl
    have hv0 := hI.2.1 0 (by decide)
    have hv1 := hI.2.1 1 (by decide)
    have hv2 := hI.2.1 2 (by decide)
    have hv3 := hI.2.1 3 (by decide)
    have hv4 := hI.2.1 4 (by decide)
    have hc := hI.2.2.1
    have hs10 := hI.2.2.2.1
    have hs11 := hI.2.2.2.2.1
    have ha := hI.2.2.2.2.2.1
    obtain ⟨p1, p2, p3, p4, p5, p6, p7, p8, p9, p10, p11, p12, p13, p14⟩ := id hpl
    have hn0 := p1.1 0 (by decide)
    have hn1 := p1.1 1 (by decide)
    have hn2 := p1.1 2 (by decide)
    have hn3 := p1.1 3 (by decide)
    have hn4 := p1.1 4 (by decide)
    have eN0 : (zr_N 0 : Int) = 40 := rfl
    have eN1 : (zr_N 1 : Int) = 40 := rfl
    have eN2 : (zr_N 2 : Int) = 80 := rfl
    have eN3 : (zr_N 3 : Int) = 4102 := rfl
    have eN4 : (zr_N 4 : Int) = 4000 := rfl
    have hv0 := p1.2.1 0 (by decide)
    have hv1 := p1.2.1 1 (by decide)
    have hv2 := p1.2.1 2 (by decide)
    have hv3 := p1.2.1 3 (by decide)
    have hv4 := p1.2.1 4 (by decide)
    have hc := p1.2.2.1
    have hs10 := p1.2.2.2.1
    have hs11 := p1.2.2.2.2.1
    have ha := p1.2.2.2.2.2.1
    have e01 := p2.1.1
    have e11 := p2.1.2.1
    refine zk_iload_n dC_plan_23 rfl ?_
    refine zk_bipush dC_plan_24 (by decide) ?_
    refine zk_icmp_ge (tgt := 49) dC_plan_26 (by decide) ⟨by omega, by omega⟩ ⟨by decide, by decide⟩ (fun h26 => ?_) (fun h26 => ?_)
    · skip
      refine zk_aload_n dC_plan_49 rfl ?_
      refine zk_get zfC_37 dC_plan_50 (v := .inr (some 11)) rfl (by decide) rfl ?_
      refine zk_callV (av := []) (st := []) (d' := (0, 0)) (kc' := 0) (ks' := 0) zbC_113 dC_plan_53 rfl (by decide) rfl rfl (Nat.le_of_ble_eq_true rfl) ⟨by decide, by decide⟩ rfl rfl (kA_length G sw σ' α' t) (fun v9 h9 q9 => ?_)
      obtain ⟨rfl, rfl⟩ := q9
      refine zk_W.to (ls' := [some (.inr (some 1)), some (.inl (m : Int))]) (st' := [.inl (σ' 10)]) (h' := (zk_mk G sw σ' α' t)) rfl rfl rfl ?_
      exact zk_iret dC_plan_56 rfl ⟨σ', α', m, hpl, by omega, rfl, by rw [p6]⟩
    · skip
      refine zk_aload_n dC_plan_29 rfl ?_
      refine zk_get zfC_46 dC_plan_30 (v := .inr (some 18)) rfl (by decide) rfl ?_
      refine zk_callV (av := []) (st := []) (d' := (4, 95)) (kc' := 0) (ks' := 0) zbC_107 dC_plan_33 rfl (by decide) rfl rfl (Nat.le_of_ble_eq_true rfl) ⟨by decide, by decide⟩ rfl rfl (kS_findNext G sw σ' α' t hn0 hn1 hv0 hv1 hc (p1.2.2.2.2.2.2.2.2.2 p3) (i := (mt_isum (α' 7) m).toNat) (s := (mt_spot (α' 5) (α' 6) (α' 7) m).toNat) (by rw [p10]; omega) (by rw [p11]; omega) (by omega) (by omega)) (fun v9 h9 q9 => ?_)
      rcases q9 with ⟨hin, rfl, rfl⟩ | ⟨hin, rfl, x, p, n, hB, rfl⟩
      · skip
        refine zk_W.to (ls' := [some (.inr (some 1)), some (.inl (m : Int))]) (st' := [.inl 0]) (h' := (zk_mk G sw σ' α' t)) rfl rfl rfl ?_
        refine zk_if_eq (tgt := 49) dC_plan_36 (by decide) ⟨by decide, by decide⟩ (fun h36 => ?_) (fun h36 => ?_)
        · skip
          refine zk_aload_n dC_plan_49 rfl ?_
          refine zk_get zfC_37 dC_plan_50 (v := .inr (some 11)) rfl (by decide) rfl ?_
          refine zk_callV (av := []) (st := []) (d' := (0, 0)) (kc' := 0) (ks' := 0) zbC_113 dC_plan_53 rfl (by decide) rfl rfl (Nat.le_of_ble_eq_true rfl) ⟨by decide, by decide⟩ rfl rfl (kA_length G sw σ' α' t) (fun v9 h9 q9 => ?_)
          obtain ⟨rfl, rfl⟩ := q9
          refine zk_W.to (ls' := [some (.inr (some 1)), some (.inl (m : Int))]) (st' := [.inl (σ' 10)]) (h' := (zk_mk G sw σ' α' t)) rfl rfl rfl ?_
          exact zk_iret dC_plan_56 rfl ⟨σ', α', m, hpl, by omega, rfl, by rw [p6]⟩
        · skip
          exact absurd h36 (by decide)
      · skip
        have hB2 := zs_B_E p2 hB
        rw [p4] at hB2
        have hr := mt_best_rg hB2
        refine zk_W.to (ls' := [some (.inr (some 1)), some (.inl (m : Int))]) (st' := [.inl 1]) (h' := (zk_mk G sw (zs_f σ' (mt_isum (α' 7) m).toNat (mt_spot (α' 5) (α' 6) (α' 7) m).toNat x p n) α' t)) rfl rfl rfl ?_
        refine zk_if_eq (tgt := 49) dC_plan_36 (by decide) ⟨by decide, by decide⟩ (fun h36 => ?_) (fun h36 => ?_)
        · skip
          exact absurd h36 (by decide)
        · skip
          refine zk_aload_n dC_plan_39 rfl ?_
          refine zk_callV (av := []) (st := []) (d' := (4, 83)) (kc' := 0) (ks' := 0) zbC_110 dC_plan_40 rfl (by decide) rfl rfl (Nat.le_of_ble_eq_true rfl) ⟨by decide, by decide⟩ rfl rfl (kC_takeFoundAct G sw (zs_f σ' (mt_isum (α' 7) m).toNat (mt_spot (α' 5) (α' 6) (α' 7) m).toNat x p n) α' t (zc_I_congr (zs_f_13 σ' (mt_isum (α' 7) m).toNat (mt_spot (α' 5) (α' 6) (α' 7) m).toNat x p n) p1) (show σ' 10 < 100 by omega) (at' := (mt_isum (α' 7) m).toNat) (n := n) rfl rfl (by omega) (show ((((mt_isum (α' 7) m).toNat + n : Nat)) : Int) ≤ σ' 1 by omega) (show 0 ≤ (x : Int) ∧ (x : Int) ≤ 2 by omega)) (fun v9 h9 q9 => ?_)
          rcases q9 with ⟨rfl, ⟨hx2, rfl⟩ | ⟨hx2, rfl⟩⟩
          · skip
            refine zk_W.to (ls' := [some (.inr (some 1)), some (.inl (m : Int))]) (st' := []) (h' := (zk_mk G sw (zk_up (zs_f σ' (mt_isum (α' 7) m).toNat (mt_spot (α' 5) (α' 6) (α' 7) m).toNat x p n) 10 (σ' 10 + 1)) (zc_P (zs_f σ' (mt_isum (α' 7) m).toNat (mt_spot (α' 5) (α' 6) (α' 7) m).toNat x p n) α' (x : Int) (if x = 2 then -1 else (p : Int)) (n : Int)) t)) rfl rfl rfl ?_
            refine zk_iinc (ls' := [some (.inr (some 1)), some (.inl ((m : Int) + 1))]) dC_plan_43 rfl (by decide) rfl ?_
            refine zk_goto (tgt := 23) dC_plan_46 (by decide) ?_
            have e2 : (m : Int) + 1 = ((m + 1 : Nat) : Int) := by omega
            rw [e2]
            have e10 : (σ' 10).toNat = m := by omega
            have hI0 : zc_I (zs_f σ' (mt_isum (α' 7) m).toNat (mt_spot (α' 5) (α' 6) (α' 7) m).toNat x p n) α' := zc_I_congr (zs_f_13 σ' (mt_isum (α' 7) m).toNat (mt_spot (α' 5) (α' 6) (α' 7) m).toNat x p n) p1
            replace hx2 : x ≠ 2 := fun e => hx2 (show (x : Int) = 2 by omega)
            refine ih (m + 1) _ _ (by omega) (by omega) (zc_pl_step (q := if x = 2 then -1 else (p : Int)) hpl (by omega) (i := (mt_isum (α' 7) m).toNat) (s := (mt_spot (α' 5) (α' 6) (α' 7) m).toNat) (by omega) (by rw [← p11]; omega) hB2 (zc_I_app hI0 (show σ' 10 < 100 by omega) (by omega) ?_ (by omega)) p2 p3 p4 p5 (show σ' 10 + 1 = (m : Int) + 1 by omega) rfl rfl ?_ ?_ ?_ (fun hx => by rw [if_neg hx]) (by omega) (by omega) ?_)
            · rw [if_neg hx2]; omega
            · show zk_up (α' 5) (σ' 10).toNat _ = _
              rw [e10]
            · show zk_up (α' 6) (σ' 10).toNat _ = _
              rw [e10]
            · show zk_up (α' 7) (σ' 10).toNat _ = _
              rw [e10]
            · show mt_pb (α 1) (zk_up (α' 5) (σ' 10).toNat (x : Int)) (zk_up (α' 7) (σ' 10).toNat (n : Int)) (zk_up (α' 8) (σ' 10).toNat (σ' 4)) (α' 4) (m + 1)
              rw [e10]
              refine mt_pb_up p14 (fun k' hk' => ⟨zk_up_ne (by omega), zk_up_ne (by omega), zk_up_ne (by omega)⟩) (fun _ _ _ _ _ => rfl) (fun h2 => ?_)
              rw [zk_up_at] at h2
              omega
          · skip
            refine zk_W.to (ls' := [some (.inr (some 1)), some (.inl (m : Int))]) (st' := []) (h' := (zk_mk G sw (zc_Ls (zs_f σ' (mt_isum (α' 7) m).toNat (mt_spot (α' 5) (α' 6) (α' 7) m).toNat x p n) n) (zc_L (zs_f σ' (mt_isum (α' 7) m).toNat (mt_spot (α' 5) (α' 6) (α' 7) m).toNat x p n) α' n (fun j => α' 1 ((mt_isum (α' 7) m).toNat + j))) t)) rfl rfl rfl ?_
            refine zk_iinc (ls' := [some (.inr (some 1)), some (.inl ((m : Int) + 1))]) dC_plan_43 rfl (by decide) rfl ?_
            refine zk_goto (tgt := 23) dC_plan_46 (by decide) ?_
            have e2 : (m : Int) + 1 = ((m + 1 : Nat) : Int) := by omega
            rw [e2]
            have e10 : (σ' 10).toNat = m := by omega
            have hI0 : zc_I (zs_f σ' (mt_isum (α' 7) m).toNat (mt_spot (α' 5) (α' 6) (α' 7) m).toNat x p n) α' := zc_I_congr (zs_f_13 σ' (mt_isum (α' 7) m).toNat (mt_spot (α' 5) (α' 6) (α' 7) m).toNat x p n) p1
            replace hx2 : x = 2 := by
              have hx3 : (x : Int) = 2 := hx2
              omega
            subst hx2
            have hgb : ∀ j, j < n → 0 ≤ α' 1 ((mt_isum (α' 7) m).toNat + j) ∧ α' 1 ((mt_isum (α' 7) m).toNat + j) ≤ 255 := fun j _ => hv1 _
            refine ih (m + 1) _ _ (by omega) (by omega) (zc_pl_step (q := -1) hpl (by omega) (i := (mt_isum (α' 7) m).toNat) (s := (mt_spot (α' 5) (α' 6) (α' 7) m).toNat) (by omega) (by rw [← p11]; omega) hB2 (zc_I_lay hI0 (show σ' 10 < 100 by omega) (by omega) hgb) p2 p3 p4 p5 (show σ' 10 + 1 = (m : Int) + 1 by omega) rfl rfl ?_ ?_ ?_ (fun hx => absurd rfl hx) (by omega) (by omega) ?_)
            · show zk_up (α' 5) (σ' 10).toNat _ = _
              rw [e10]
              first | done | rfl
            · show zk_up (α' 6) (σ' 10).toNat _ = _
              rw [e10]
            · show zk_up (α' 7) (σ' 10).toNat _ = _
              rw [e10]
            · show mt_pb (α 1) (zk_up (α' 5) (σ' 10).toNat 2) (zk_up (α' 7) (σ' 10).toNat (n : Int)) (zk_up (α' 8) (σ' 10).toNat (σ' 4)) (mt_ap (α' 4) (σ' 4).toNat n (fun j => α' 1 ((mt_isum (α' 7) m).toNat + j))) (m + 1)
              rw [e10]
              refine mt_pb_up p14 (fun k' hk' => ⟨zk_up_ne (by omega), zk_up_ne (by omega), zk_up_ne (by omega)⟩) (fun k' hk' h2 j hj => ?_) (fun h2 j hj => ?_)
              · have hz := zc_lay p1 (k := k') (by omega) h2 (j := (j : Int)) (by omega)
                have hz0 := zc_lay p1 (k := k') (by omega) h2 (j := 0) (by omega)
                exact mt_ap_out (by omega)
              · rw [zk_up_at] at hj
                rw [zk_up_at, mt_ap_in (by omega), p2.2.2.2.1, mt_isum_congr (C' := α' 7) (fun k' hk' => zk_up_ne (by omega))]

set_option maxRecDepth 100000 in
set_option maxHeartbeats 4000000 in
theorem kC_plan (G : zk_G) (sw : Bool) (σ : Nat → Int) (α : Nat → Nat → Int) (t : zk_H) (hI : zc_I σ α)  : zk_K G mC_plan (6, 137) 0 0 [.inr (some 1)] (zk_mk G sw σ α t) (fun v h' => ∃ (f : Nat → Int) (σ3 : Nat → Int) (α3 : Nat → Nat → Int) (m : Nat), zc_pl f σ σ3 α α3 m ∧ mt_isum (α3 7) m = σ 1 ∧ h' = zk_mk G sw σ3 α3 t ∧ v = some (.inl (m : Int))) := by
  have hn0 := hI.1 0 (by decide)
  have hn1 := hI.1 1 (by decide)
  have hn2 := hI.1 2 (by decide)
  have hn3 := hI.1 3 (by decide)
  have hn4 := hI.1 4 (by decide)
  have eN0 : (zr_N 0 : Int) = 40 := rfl
  have eN1 : (zr_N 1 : Int) = 40 := rfl
  have eN2 : (zr_N 2 : Int) = 80 := rfl
  have eN3 : (zr_N 3 : Int) = 4102 := rfl
  have eN4 : (zr_N 4 : Int) = 4000 := rfl
  have hv0 := hI.2.1 0 (by decide)
  have hv1 := hI.2.1 1 (by decide)
  have hv2 := hI.2.1 2 (by decide)
  have hv3 := hI.2.1 3 (by decide)
  have hv4 := hI.2.1 4 (by decide)
  have hc := hI.2.2.1
  have hs10 := hI.2.2.2.1
  have hs11 := hI.2.2.2.2.1
  have ha := hI.2.2.2.2.2.1
  refine zk_K.of (ls := [some (.inr (some 1)), none]) (by decide +kernel) (Nat.le_of_ble_eq_true rfl) rfl ?_
  refine zk_aload_n dC_plan_0 rfl ?_
  refine zk_get zfC_37 dC_plan_1 (v := .inr (some 11)) rfl (by decide) rfl ?_
  refine zk_aload_n dC_plan_4 rfl ?_
  refine zk_get zfC_14 dC_plan_5 (v := .inr (some 2)) rfl (by decide) rfl ?_
  refine zk_callV (av := []) (st := [.inr (some 11)]) (d' := (0, 0)) (kc' := 0) (ks' := 0) zbC_102 dC_plan_8 rfl (by decide) rfl rfl (Nat.le_of_ble_eq_true rfl) ⟨by decide, by decide⟩ rfl rfl (kR_sum G sw σ α t (q := 0) (by decide) hn0 hv0) (fun v9 h9 q9 => ?_)
  obtain ⟨rfl, rfl⟩ := q9
  refine zk_W.to (ls' := [some (.inr (some 1)), none]) (st' := [.inl (mt_sum (α 0) (σ 0).toNat), .inr (some 11)]) (h' := (zk_mk G sw σ α t)) rfl rfl rfl ?_
  refine zk_callV (av := [.inl (mt_sum (α 0) (σ 0).toNat)]) (st := []) (d' := (1, 20)) (kc' := 0) (ks' := 0) zbC_60 dC_plan_11 rfl (by decide) rfl rfl (Nat.le_of_ble_eq_true rfl) ⟨by decide, by decide⟩ rfl rfl (kA_begin G sw σ α t) (fun v9 h9 q9 => ?_)
  obtain ⟨rfl, rfl⟩ := q9
  refine zk_W.to (ls' := [some (.inr (some 1)), none]) (st' := []) (h' := (zk_mk G sw (zk_up (zk_up (zk_up σ 10 0) 4 0) 11 (mt_sum (α 0) (σ 0).toNat)) α t)) rfl rfl rfl ?_
  refine zk_aload_n dC_plan_14 rfl ?_
  refine zk_get zfC_46 dC_plan_15 (v := .inr (some 18)) rfl (by decide) rfl ?_
  refine zk_callV (av := []) (st := []) (d' := (5, 117)) (kc' := 0) (ks' := 0) zbC_105 dC_plan_18 rfl (by decide) rfl rfl (Nat.le_of_ble_eq_true rfl) ⟨by decide, by decide⟩ rfl rfl (kS_begin G sw (zk_up (zk_up (zk_up σ 10 0) 4 0) 11 (mt_sum (α 0) (σ 0).toNat)) α t hn0 hn1 hv0 hv1 hc hI.2.2.2.2.2.2.2.2.1 hI.2.2.2.2.2.2.2.2.2) (fun v9 h9 q9 => ?_)
  obtain ⟨rfl, f, b, e, hT, rfl⟩ := q9
  refine zk_W.to (ls' := [some (.inr (some 1)), none]) (st' := []) (h' := (zk_mk G sw (zk_up (zk_up (zk_up (zk_up (zk_up (zk_up σ 10 0) 4 0) 11 (mt_sum (α 0) (σ 0).toNat)) 12 1) 13 0) 14 0) (zs_3 α f b e) t)) rfl rfl rfl ?_
  refine zk_iconst dC_plan_21 ?_
  refine zk_istore_n (ls' := [some (.inr (some 1)), some (.inl 0)]) dC_plan_22 (by decide) rfl ?_
  have hsr := mt_sum_rg (α 0) (σ 0).toNat
  have key := wC_plan G sw σ α t hI (f := f) 41 0 (zk_up (zk_up (zk_up (zk_up (zk_up (zk_up σ 10 0) 4 0) 11 (mt_sum (α 0) (σ 0).toNat)) 12 1) 13 0) 14 0) (zs_3 α f b e) (by omega) (by omega) ⟨zc_I_none hI (fun q hq h4 => ?_) rfl rfl ⟨by show 0 ≤ mt_sum (α 0) (σ 0).toNat; omega, by show mt_sum (α 0) (σ 0).toNat ≤ 65535; omega⟩ (fun q hq => ?_) (Or.inr rfl) (fun _ => hT), ⟨⟨rfl, rfl, rfl, rfl⟩, ⟨rfl, rfl, rfl, rfl, rfl⟩, ⟨rfl, rfl, rfl, rfl⟩⟩, rfl, rfl, rfl, rfl, by omega, Int.le_refl 0, hn1.1, rfl, rfl, ⟨Int.le_refl 0, hn0.1⟩, fun k hk => absurd hk (Nat.not_lt_zero k), fun k hk => absurd hk (Nat.not_lt_zero k)⟩
  · refine key.mono (fun v h' hq => ?_)
    obtain ⟨σ3, α3, m, q1, q2, q3, q4⟩ := hq
    exact ⟨f, σ3, α3, m, q1, q2, q3, q4⟩
  · unfold zk_up
    rw [if_neg (by omega), if_neg (by omega), if_neg (by omega), if_neg (by omega), if_neg h4, if_neg (by omega)]
  · funext j
    unfold zs_3 zk_ua
    rw [if_neg (by omega), if_neg (by omega), if_neg (by omega)]
