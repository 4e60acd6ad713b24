theorem zc_I_tab {σ σ' : Nat → Int} {α α' : Nat → Nat → Int} (hI : zc_I σ α) (h : ∀ q, q < 12 → σ' q = σ q) (ha : ∀ q, q < 9 → α' q = α q) (h12 : σ' 12 = 0 ∨ σ' 12 = 1) (hT : σ' 12 = 1 → zs_T σ' α') : zc_I σ' α' := by
  obtain ⟨a1, a2, a3, a4, a5, a6, a7, a8, a9, a10⟩ := hI
  have ec : zs_c σ' = zs_c σ := by
    funext j
    unfold zs_c
    split
    · exact h 5 (by decide)
    · exact h 6 (by decide)
    · exact h 7 (by decide)
    · exact h 8 (by decide)
    · exact h 9 (by decide)
  refine ⟨fun q hq => ?_, fun q hq => ?_, ?_, ?_, ?_, fun q j hq => ?_, fun k hk => ?_, ?_, h12, hT⟩
  · rw [h q (by omega)]; exact a1 q hq
  · rw [ha q (by omega)]; exact a2 q hq
  · rw [ec]; exact a3
  · rw [h 10 (by decide)]; exact a4
  · rw [h 11 (by decide)]; exact a5
  · rw [ha q hq]; exact a6 q j hq
  · rw [h 10 (by decide)] at hk
    unfold zc_a
    rw [ha 5 (by decide), ha 6 (by decide), ha 7 (by decide), ha 8 (by decide)]
    exact a7 k hk
  · rw [h 10 (by decide), h 4 (by decide), ha 5 (by decide), ha 7 (by decide)]; exact a8
/-- where act k comes from -/
def mt_way (K P C : Nat → Int) (k : Nat) : Int := if K k = 0 then (if P k < mt_spot K P C k then 0 else if P k = mt_spot K P C k then 1 else 2) else if K k = 1 then 3 else 4
def mt_mv (K P C : Nat → Int) (w : Int) : Nat → Int
  | 0 => 0
  | n + 1 => mt_mv K P C w n + (if mt_way K P C n = w then C n else 0)
theorem mt_mv_congr {K P C K' P' C' : Nat → Int} {w : Int} : ∀ {n : Nat}, (∀ k, k < n → K k = K' k ∧ C k = C' k ∧ (K k = 0 → P k = P' k)) → mt_mv K P C w n = mt_mv K' P' C' w n
  | 0, _ => rfl
  | n + 1, h => by
    show mt_mv K P C w n + (if mt_way K P C n = w then C n else 0) = mt_mv K' P' C' w n + (if mt_way K' P' C' n = w then C' n else 0)
    have h1 := h n (by omega)
    have hw : mt_way K P C n = mt_way K' P' C' n := by
      unfold mt_way
      rw [mt_spot_congr (K' := K') (P' := P') (C' := C') (fun k hk => ⟨(h k (by omega)).1, fun h0 => ⟨(h k (by omega)).2.2 h0, (h k (by omega)).2.1⟩⟩), ← h1.1]
      by_cases h0 : K n = 0
      · rw [if_pos h0, if_pos h0, h1.2.2 h0]
      · rw [if_neg h0, if_neg h0]
    rw [mt_mv_congr (fun k hk => h k (by omega)), hw, h1.2.1]
def zc_mv (f : Nat → Int) (σ σ' : Nat → Int) (α α' : Nat → Nat → Int) (K P C : Nat → Int) (m : Nat) : Prop :=
  zc_I σ' α' ∧ zc_E σ σ' α α' ∧ σ' 12 = 1 ∧ α' 9 = f ∧ (∀ q, q < 12 → σ' q = σ q) ∧ m ≤ 40 ∧ (m : Int) ≤ mt_isum C m ∧ mt_isum C m ≤ σ 1 ∧ σ' 13 = mt_isum C m ∧ σ' 14 = mt_spot K P C m ∧ (0 ≤ σ' 14 ∧ σ' 14 ≤ σ 0) ∧
  mt_pl (fun i s x p n => mt_best (α 0) (σ 0).toNat (α 1) (σ 1).toNat (zs_c σ) (mt_tb f) i s x p n) K P C m
theorem zc_mv_step {f : Nat → Int} {σ σ' : Nat → Int} {α α' : Nat → Nat → Int} {K P C : Nat → Int} {m i s x p n : Nat} (h : zc_mv f σ σ' α α' K P C m) (hm : m < 40) (hi : mt_isum C m = (i : Int)) (hs : mt_spot K P C m = (s : Int)) (hs0 : s ≤ (σ 0).toNat) (hσ : 0 ≤ σ 1 ∧ 0 ≤ σ 0)
    (hB : mt_best (α 0) (σ 0).toNat (α 1) (σ 1).toNat (zs_c σ) (mt_tb f) i s x p n) : zc_mv f σ (zs_f σ' i s x p n) α α' (zk_up K m (x : Int)) (zk_up P m (p : Int)) (zk_up C m (n : Int)) (m + 1) := by
  obtain ⟨p1, p2, p3, p4, p5, p7, p8, p9, p10, p11, p12, p13⟩ := h
  have hr := mt_best_rg hB
  have es : mt_isum (zk_up C m (n : Int)) (m + 1) = (i : Int) + n := by
    show mt_isum (zk_up C m (n : Int)) m + zk_up C m (n : Int) m = _
    rw [zk_up_at, mt_isum_congr (C' := C) (fun k hk => zk_up_ne (by omega)), hi]
  have esp : mt_spot (zk_up K m (x : Int)) (zk_up P m (p : Int)) (zk_up C m (n : Int)) (m + 1) = ((mt_s s x p n : Nat) : Int) := by
    show (if zk_up K m (x : Int) m = 0 then zk_up P m (p : Int) m + zk_up C m (n : Int) m else mt_spot (zk_up K m (x : Int)) (zk_up P m (p : Int)) (zk_up C m (n : Int)) m) = _
    rw [zk_up_at, zk_up_at, zk_up_at, mt_spot_congr (K' := K) (P' := P) (C' := C) (fun k hk => ⟨zk_up_ne (by omega), fun _ => ⟨zk_up_ne (by omega), zk_up_ne (by omega)⟩⟩), hs]
    unfold mt_s
    by_cases hx : x = 0
    · subst hx
      rw [if_pos rfl, if_pos (show ((0 : Nat) : Int) = 0 from rfl)]
      omega
    · rw [if_neg (by omega), if_neg hx]
  have hsl := mt_s_le hB.1 hs0
  refine ⟨zc_I_congr (zs_f_13 σ' i s x p n) p1, p2, p3, p4, fun q hq => by rw [zs_f_13 σ' i s x p n q (by omega)]; exact p5 q hq, by omega, ?_, ?_, ?_, ?_, ?_, ?_⟩
  · rw [es]; omega
  · rw [es]; omega
  · rw [es]; rfl
  · rw [esp]; rfl
  · show 0 ≤ ((mt_s s x p n : Nat) : Int) ∧ ((mt_s s x p n : Nat) : Int) ≤ σ 0
    omega
  · refine mt_pl_up p13 ?_ (fun _ => rfl)
    rw [hi, hs]
    exact hB
theorem mt_mv_up {K P C : Nat → Int} {w : Int} {m s x p n : Nat} (hs : mt_spot K P C m = (s : Int)) : mt_mv (zk_up K m (x : Int)) (zk_up P m (p : Int)) (zk_up C m (n : Int)) w (m + 1) = mt_mv K P C w m + (if (if x = 0 then (if (p : Int) < (s : Int) then 0 else if (p : Int) = (s : Int) then 1 else 2) else if x = 1 then 3 else 4) = w then (n : Int) else 0) := by
  show mt_mv (zk_up K m (x : Int)) (zk_up P m (p : Int)) (zk_up C m (n : Int)) w m + (if mt_way (zk_up K m (x : Int)) (zk_up P m (p : Int)) (zk_up C m (n : Int)) m = w then zk_up C m (n : Int) m else 0) = _
  rw [mt_mv_congr (K' := K) (P' := P) (C' := C) (fun k hk => ⟨zk_up_ne (by omega), zk_up_ne (by omega), fun _ => zk_up_ne (by omega)⟩), zk_up_at]
  have hw : mt_way (zk_up K m (x : Int)) (zk_up P m (p : Int)) (zk_up C m (n : Int)) m = (if x = 0 then (if (p : Int) < (s : Int) then 0 else if (p : Int) = (s : Int) then 1 else 2) else if x = 1 then 3 else 4) := by
    unfold mt_way
    rw [zk_up_at, zk_up_at, mt_spot_congr (K' := K) (P' := P) (C' := C) (fun k hk => ⟨zk_up_ne (by omega), fun _ => ⟨zk_up_ne (by omega), zk_up_ne (by omega)⟩⟩), hs]
    by_cases h0 : x = 0
    · subst h0; rfl
    · rw [if_neg (by omega), if_neg h0]
      by_cases h1 : x = 1
      · subst h1; rfl
      · rw [if_neg (by omega), if_neg h1]
  rw [hw]

set_option maxRecDepth 100000 in
set_option maxHeartbeats 4000000 in
theorem wC_moved (G : zk_G) (sw : Bool) (σ : Nat → Int) (α : Nat → Nat → Int) (t : zk_H) (hI : zc_I σ α) {f : Nat → Int} {α' : Nat → Nat → Int} {x : Int} (hx : zk_rg x) : ∀ (k : Nat) (m : Nat) (σ' : Nat → Int) (K P C : Nat → Int), (m ≤ 40) → (40 < m + k) → (zc_mv f σ σ' α α' K P C m) → zk_W G mC_moved (6, 137) 0 0 23 [some (.inr (some 1)), some (.inl x), some (.inl (mt_mv K P C x m)), some (.inl (m : Int))] [] (zk_mk G sw σ' α' t) (fun v h' => ∃ (σ3 : Nat → Int) (K P C : Nat → Int) (m : Nat), zc_mv f σ σ3 α α' K P C m ∧ mt_isum C m = σ 1 ∧ h' = zk_mk G sw σ3 α' t ∧ v = some (.inl (mt_mv K P C x m))) := by
  intro k
  induction k with
  | zero =>
    intro m σ' K P C g1 g2 hpl
    exfalso
    omega
  | succ k ih =>
    intro m σ' K P C g1 g2 hpl
    have hn0 := hI.1 0 (by decide)
    have hn1 := hI.1 1 (by decide)
    have hn2 := hI.1 2 (by decide)
    have hn3 := hI.1 3 (by decide)
    have hn4 := hI.1 4 (by decide)
    have eN0 : (zr_N 0 : Int) = 40 := rfl
    have eN1 : (zr_N 1 : Int) = 40 := rfl
    have eN2 : (zr_N 2 : Int) = 80 := rfl
    have eN3 : (zr_N 3 : Int) = 4102 := rfl
    have eN4 : (zr_N 4 : Int) = 4000 := rfl
    have hv0 := hI.2.1 0 (by decide)
    have hv1 := hI.2.1 1 (by decide)
    have hv2 := hI.2.1 2 (by decide)
    have hv3 := hI.2.1 3 (by decide)
    have hv4 := hI.2.1 4 (by decide)
    have hc := hI.2.2.1
    have hs10 := hI.2.2.2.1
    have hs11 := hI.2.2.2.2.1
    have ha := hI.2.2.2.2.2.1
    obtain ⟨p1, p2, p3, p4, p5, p7, p8, p9, p10, p11, p12, p13⟩ := id hpl
    have hn0 := p1.1 0 (by decide)
    have hn1 := p1.1 1 (by decide)
    have hn2 := p1.1 2 (by decide)
    have hn3 := p1.1 3 (by decide)
    have hn4 := p1.1 4 (by decide)
    have eN0 : (zr_N 0 : Int) = 40 := rfl
    have eN1 : (zr_N 1 : Int) = 40 := rfl
    have eN2 : (zr_N 2 : Int) = 80 := rfl
    have eN3 : (zr_N 3 : Int) = 4102 := rfl
    have eN4 : (zr_N 4 : Int) = 4000 := rfl
    have hv0 := p1.2.1 0 (by decide)
    have hv1 := p1.2.1 1 (by decide)
    have hv2 := p1.2.1 2 (by decide)
    have hv3 := p1.2.1 3 (by decide)
    have hv4 := p1.2.1 4 (by decide)
    have hc := p1.2.2.1
    have hs10 := p1.2.2.2.1
    have hs11 := p1.2.2.2.2.1
    have ha := p1.2.2.2.2.2.1
    have e01 := p2.1.1
    have e11 := p2.1.2.1
    refine zk_iload_n dC_moved_23 rfl ?_
    refine zk_bipush dC_moved_24 (by decide) ?_
    refine zk_icmp_ge (tgt := 66) dC_moved_26 (by decide) ⟨by omega, by omega⟩ ⟨by decide, by decide⟩ (fun h26 => ?_) (fun h26 => ?_)
    · skip
      refine zk_iload_n dC_moved_66 rfl ?_
      exact zk_iret dC_moved_67 rfl ⟨σ', K, P, C, m, hpl, by omega, rfl, rfl⟩
    · skip
      refine zk_aload_n dC_moved_29 rfl ?_
      refine zk_get zfC_46 dC_moved_30 (v := .inr (some 18)) rfl (by decide) rfl ?_
      refine zk_callV (av := []) (st := []) (d' := (4, 95)) (kc' := 0) (ks' := 0) zbC_107 dC_moved_33 rfl (by decide) rfl rfl (Nat.le_of_ble_eq_true rfl) ⟨by decide, by decide⟩ rfl rfl (kS_findNext G sw σ' α' t hn0 hn1 hv0 hv1 hc (p1.2.2.2.2.2.2.2.2.2 p3) (i := (mt_isum C m).toNat) (s := (mt_spot K P C m).toNat) (by rw [p10]; omega) (by rw [p11]; omega) (by omega) (by omega)) (fun v9 h9 q9 => ?_)
      rcases q9 with ⟨hin, rfl, rfl⟩ | ⟨hin, rfl, x', p, n, hB, rfl⟩
      · skip
        refine zk_W.to (ls' := [some (.inr (some 1)), some (.inl x), some (.inl (mt_mv K P C x m)), some (.inl (m : Int))]) (st' := [.inl 0]) (h' := (zk_mk G sw σ' α' t)) rfl rfl rfl ?_
        refine zk_if_eq (tgt := 66) dC_moved_36 (by decide) ⟨by decide, by decide⟩ (fun h36 => ?_) (fun h36 => ?_)
        · skip
          refine zk_iload_n dC_moved_66 rfl ?_
          exact zk_iret dC_moved_67 rfl ⟨σ', K, P, C, m, hpl, by omega, rfl, rfl⟩
        · skip
          exact absurd h36 (by decide)
      · skip
        have hB2 := zs_B_E p2 hB
        rw [p4] at hB2
        have hr := mt_best_rg hB2
        refine zk_W.to (ls' := [some (.inr (some 1)), some (.inl x), some (.inl (mt_mv K P C x m)), some (.inl (m : Int))]) (st' := [.inl 1]) (h' := (zk_mk G sw (zs_f σ' (mt_isum C m).toNat (mt_spot K P C m).toNat x' p n) α' t)) rfl rfl rfl ?_
        refine zk_if_eq (tgt := 66) dC_moved_36 (by decide) ⟨by decide, by decide⟩ (fun h36 => ?_) (fun h36 => ?_)
        · skip
          exact absurd h36 (by decide)
        · skip
          refine zk_aload_n dC_moved_39 rfl ?_
          refine zk_get zfC_46 dC_moved_40 (v := .inr (some 18)) rfl (by decide) rfl ?_
          refine zk_callV (av := []) (st := []) (d' := (1, 21)) (kc' := 0) (ks' := 0) zbC_187 dC_moved_43 rfl (by decide) rfl rfl (Nat.le_of_ble_eq_true rfl) ⟨by decide, by decide⟩ rfl rfl (kS_wayOfFound G sw (zs_f σ' (mt_isum C m).toNat (mt_spot K P C m).toNat x' p n) α' t (show zk_rg (x' : Int) from ⟨by omega, by omega⟩) (show zk_rg (if x' = 2 then -1 else (p : Int)) from by split <;> exact ⟨by omega, by omega⟩) (show zk_rg (((mt_spot K P C m).toNat : Nat) : Int) from ⟨by omega, by omega⟩)) (fun v9 h9 q9 => ?_)
          obtain ⟨rfl, rfl⟩ := q9
          refine zk_W.to (ls' := [some (.inr (some 1)), some (.inl x), some (.inl (mt_mv K P C x m)), some (.inl (m : Int))]) (st' := [.inl (if (x' : Int) = 0 then 1 + (if (if x' = 2 then -1 else (p : Int)) < (((mt_spot K P C m).toNat : Nat) : Int) then -1 else if (if x' = 2 then -1 else (p : Int)) = (((mt_spot K P C m).toNat : Nat) : Int) then 0 else 1) else if (x' : Int) = 1 then 3 else 4)]) (h' := (zk_mk G sw (zs_f σ' (mt_isum C m).toNat (mt_spot K P C m).toNat x' p n) α' t)) rfl rfl rfl ?_
          have ew : (if (x' : Int) = 0 then 1 + (if (if x' = 2 then -1 else (p : Int)) < (((mt_spot K P C m).toNat : Nat) : Int) then -1 else if (if x' = 2 then -1 else (p : Int)) = (((mt_spot K P C m).toNat : Nat) : Int) then 0 else 1) else if (x' : Int) = 1 then 3 else 4) = (if x' = 0 then (if (p : Int) < (((mt_spot K P C m).toNat : Nat) : Int) then 0 else if (p : Int) = (((mt_spot K P C m).toNat : Nat) : Int) then 1 else 2) else if x' = 1 then 3 else 4) := by
            by_cases h0 : x' = 0
            · subst h0
              rw [show (if (0 : Nat) = 2 then (-1 : Int) else (p : Int)) = (p : Int) from rfl, if_pos (show ((0 : Nat) : Int) = 0 from rfl), if_pos (show (0 : Nat) = 0 from rfl)]
              (repeat' split) <;> omega
            · rw [if_neg h0, if_neg (by omega)]
              by_cases h1 : x' = 1
              · subst h1; rfl
              · rw [if_neg h1, if_neg (by omega)]
          rw [ew]
          refine zk_iload_n dC_moved_46 rfl ?_
          refine zk_icmp_ne (tgt := 60) dC_moved_47 (by decide) (by (repeat' split) <;> exact ⟨by omega, by omega⟩) hx (fun h47 => ?_) (fun h47 => ?_)
          · skip
            refine zk_iinc (ls' := [some (.inr (some 1)), some (.inl x), some (.inl (mt_mv K P C x m)), some (.inl ((m : Int) + 1))]) dC_moved_60 rfl (by decide) rfl ?_
            refine zk_goto (tgt := 23) dC_moved_63 (by decide) ?_
            have e2 : (m : Int) + 1 = ((m + 1 : Nat) : Int) := by omega
            rw [e2]
            have hst := zc_mv_step hpl (by omega) (i := (mt_isum C m).toNat) (s := (mt_spot K P C m).toNat) (by omega) (by rw [← p11]; omega) (by omega) (by omega) hB2
            have et : mt_mv K P C x m = mt_mv (zk_up K m (x' : Int)) (zk_up P m (p : Int)) (zk_up C m (n : Int)) x (m + 1) := by
              rw [mt_mv_up (s := (mt_spot K P C m).toNat) (by rw [← p11]; omega)]
              first | rw [if_pos (by omega)] | (rw [if_neg (by omega)]; omega) | (rw [if_pos h47]) | (rw [if_neg h47]; omega)
            rw [et]
            exact ih (m + 1) _ _ _ _ (by omega) (by omega) hst
          · skip
            refine zk_iload_n dC_moved_50 rfl ?_
            refine zk_aload_n dC_moved_51 rfl ?_
            refine zk_get zfC_46 dC_moved_52 (v := .inr (some 18)) rfl (by decide) rfl ?_
            refine zk_callV (av := []) (st := [.inl (mt_mv K P C x m)]) (d' := (0, 0)) (kc' := 0) (ks' := 0) zbC_190 dC_moved_55 rfl (by decide) rfl rfl (Nat.le_of_ble_eq_true rfl) ⟨by decide, by decide⟩ rfl rfl (kS_foundCount G sw (zs_f σ' (mt_isum C m).toNat (mt_spot K P C m).toNat x' p n) α' t) (fun v9 h9 q9 => ?_)
            obtain ⟨rfl, rfl⟩ := q9
            refine zk_W.to (ls' := [some (.inr (some 1)), some (.inl x), some (.inl (mt_mv K P C x m)), some (.inl (m : Int))]) (st' := [.inl (n : Int), .inl (mt_mv K P C x m)]) (h' := (zk_mk G sw (zs_f σ' (mt_isum C m).toNat (mt_spot K P C m).toNat x' p n) α' t)) rfl rfl rfl ?_
            refine zk_iadd dC_moved_58 ?_
            refine zk_istore_n (ls' := [some (.inr (some 1)), some (.inl x), some (.inl ((mt_mv K P C x m) + (n : Int))), some (.inl (m : Int))]) dC_moved_59 (by decide) rfl ?_
            refine zk_iinc (ls' := [some (.inr (some 1)), some (.inl x), some (.inl ((mt_mv K P C x m) + (n : Int))), some (.inl ((m : Int) + 1))]) dC_moved_60 rfl (by decide) rfl ?_
            refine zk_goto (tgt := 23) dC_moved_63 (by decide) ?_
            have e2 : (m : Int) + 1 = ((m + 1 : Nat) : Int) := by omega
            rw [e2]
            have hst := zc_mv_step hpl (by omega) (i := (mt_isum C m).toNat) (s := (mt_spot K P C m).toNat) (by omega) (by rw [← p11]; omega) (by omega) (by omega) hB2
            have et : (mt_mv K P C x m) + (n : Int) = mt_mv (zk_up K m (x' : Int)) (zk_up P m (p : Int)) (zk_up C m (n : Int)) x (m + 1) := by
              rw [mt_mv_up (s := (mt_spot K P C m).toNat) (by rw [← p11]; omega)]
              first | rw [if_pos (by omega)] | (rw [if_neg (by omega)]; omega) | (rw [if_pos h47]) | (rw [if_neg h47]; omega)
            rw [et]
            exact ih (m + 1) _ _ _ _ (by omega) (by omega) hst

set_option maxRecDepth 100000 in
set_option maxHeartbeats 4000000 in
theorem kC_moved (G : zk_G) (sw : Bool) (σ : Nat → Int) (α : Nat → Nat → Int) (t : zk_H) (hI : zc_I σ α) {x : Int} (hx : zk_rg x) : zk_K G mC_moved (6, 137) 0 0 [.inr (some 1), .inl x] (zk_mk G sw σ α t) (fun v h' => ((¬ (0 ≤ x ∧ x ≤ 4)) ∧ h' = (zk_mk G sw σ α t) ∧ v = some (.inl (-2))) ∨ ((0 ≤ x ∧ x ≤ 4) ∧ ∃ (f b e : Nat → Int) (σ3 : Nat → Int) (K P C : Nat → Int) (m : Nat), zc_mv f σ σ3 α (zs_3 α f b e) K P C m ∧ mt_isum C m = σ 1 ∧ h' = zk_mk G sw σ3 (zs_3 α f b e) t ∧ v = some (.inl (mt_mv K P C x m)))) := by
  have hn0 := hI.1 0 (by decide)
  have hn1 := hI.1 1 (by decide)
  have hn2 := hI.1 2 (by decide)
  have hn3 := hI.1 3 (by decide)
  have hn4 := hI.1 4 (by decide)
  have eN0 : (zr_N 0 : Int) = 40 := rfl
  have eN1 : (zr_N 1 : Int) = 40 := rfl
  have eN2 : (zr_N 2 : Int) = 80 := rfl
  have eN3 : (zr_N 3 : Int) = 4102 := rfl
  have eN4 : (zr_N 4 : Int) = 4000 := rfl
  have hv0 := hI.2.1 0 (by decide)
  have hv1 := hI.2.1 1 (by decide)
  have hv2 := hI.2.1 2 (by decide)
  have hv3 := hI.2.1 3 (by decide)
  have hv4 := hI.2.1 4 (by decide)
  have hc := hI.2.2.1
  have hs10 := hI.2.2.2.1
  have hs11 := hI.2.2.2.2.1
  have ha := hI.2.2.2.2.2.1
  refine zk_K.of (ls := [some (.inr (some 1)), some (.inl x), none, none]) (by decide +kernel) (Nat.le_of_ble_eq_true rfl) rfl ?_
  refine zk_iload_n dC_moved_0 rfl ?_
  refine zk_if_lt (tgt := 9) dC_moved_1 (by decide) hx (fun h1 => ?_) (fun h1 => ?_)
  · skip
    refine zk_bipush dC_moved_9 (by decide) ?_
    exact zk_iret dC_moved_11 rfl (Or.inl ⟨by omega, rfl, rfl⟩)
  · skip
    refine zk_iload_n dC_moved_4 rfl ?_
    refine zk_iconst dC_moved_5 ?_
    refine zk_icmp_le (tgt := 12) dC_moved_6 (by decide) hx ⟨by decide, by decide⟩ (fun h6 => ?_) (fun h6 => ?_)
    · skip
      refine zk_iconst dC_moved_12 ?_
      refine zk_istore_n (ls' := [some (.inr (some 1)), some (.inl x), some (.inl 0), none]) dC_moved_13 (by decide) rfl ?_
      refine zk_aload_n dC_moved_14 rfl ?_
      refine zk_get zfC_46 dC_moved_15 (v := .inr (some 18)) rfl (by decide) rfl ?_
      refine zk_callV (av := []) (st := []) (d' := (5, 117)) (kc' := 0) (ks' := 0) zbC_105 dC_moved_18 rfl (by decide) rfl rfl (Nat.le_of_ble_eq_true rfl) ⟨by decide, by decide⟩ rfl rfl (kS_begin G sw σ α t hn0 hn1 hv0 hv1 hc hI.2.2.2.2.2.2.2.2.1 hI.2.2.2.2.2.2.2.2.2) (fun v9 h9 q9 => ?_)
      obtain ⟨rfl, f, b, e, hT, rfl⟩ := q9
      refine zk_W.to (ls' := [some (.inr (some 1)), some (.inl x), some (.inl 0), none]) (st' := []) (h' := (zk_mk G sw (zk_up (zk_up (zk_up σ 12 1) 13 0) 14 0) (zs_3 α f b e) t)) rfl rfl rfl ?_
      refine zk_iconst dC_moved_21 ?_
      refine zk_istore_n (ls' := [some (.inr (some 1)), some (.inl x), some (.inl 0), some (.inl 0)]) dC_moved_22 (by decide) rfl ?_
      have key := wC_moved G sw σ α t hI (f := f) (α' := zs_3 α f b e) hx 41 0 (zk_up (zk_up (zk_up σ 12 1) 13 0) 14 0) (fun _ => 0) (fun _ => 0) (fun _ => 0) (by omega) (by omega) ⟨zc_I_tab hI (fun q hq => ?_) (fun q hq => ?_) (Or.inr rfl) (fun _ => hT), ⟨⟨rfl, rfl, rfl, rfl⟩, ⟨rfl, rfl, rfl, rfl, rfl⟩, ⟨rfl, rfl, rfl, rfl⟩⟩, rfl, rfl, fun q hq => ?_, by omega, Int.le_refl 0, hn1.1, rfl, rfl, ⟨Int.le_refl 0, hn0.1⟩, fun k hk => absurd hk (Nat.not_lt_zero k)⟩
      · refine key.mono (fun v h' hq => ?_)
        obtain ⟨σ3, K, P, C, m, q1, q2, q3, q4⟩ := hq
        exact Or.inr ⟨by omega, f, b, e, σ3, K, P, C, m, q1, q2, q3, q4⟩
      · unfold zk_up
        rw [if_neg (by omega), if_neg (by omega), if_neg (by omega)]
      · funext j
        unfold zs_3 zk_ua
        rw [if_neg (by omega), if_neg (by omega), if_neg (by omega)]
      · unfold zk_up
        rw [if_neg (by omega), if_neg (by omega), if_neg (by omega)]
    · skip
      refine zk_bipush dC_moved_9 (by decide) ?_
      exact zk_iret dC_moved_11 rfl (Or.inl ⟨by omega, rfl, rfl⟩)
