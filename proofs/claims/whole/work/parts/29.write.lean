/-- where act k stands in CODE -/
def mt_pos (K C : Nat → Int) : Nat → Int
  | 0 => 2
  | n + 1 => mt_pos K C n + 1 + (if K n = 2 then C n else 1)
theorem mt_pos_rg {K C : Nat → Int} : ∀ {n : Nat}, (∀ k, k < n → 1 ≤ C k ∧ C k ≤ 40) → 2 ≤ mt_pos K C n ∧ mt_pos K C n ≤ 2 + 41 * n
  | 0, _ => ⟨Int.le_refl 2, Int.le_refl 2⟩
  | n + 1, h => by
    have h1 := mt_pos_rg (K := K) (n := n) (fun k hk => h k (by omega))
    have h2 := h n (by omega)
    show 2 ≤ mt_pos K C n + 1 + (if K n = 2 then C n else 1) ∧ mt_pos K C n + 1 + (if K n = 2 then C n else 1) ≤ 2 + 41 * ((n + 1 : Nat) : Int)
    split <;> omega
theorem mt_pos_le {K C : Nat → Int} {n : Nat} : ∀ {m : Nat}, n < m → (∀ k, k < m → 1 ≤ C k) → mt_pos K C n + 1 + (if K n = 2 then C n else 1) ≤ mt_pos K C m
  | 0, h, _ => absurd h (Nat.not_lt_zero n)
  | m + 1, h, hC => by
    by_cases e : n = m
    · subst e; exact Int.le_refl _
    · have h1 := mt_pos_le (K := K) (n := n) (m := m) (by omega) (fun k hk => hC k (by omega))
      have h2 := hC m (by omega)
      show _ ≤ mt_pos K C m + 1 + (if K m = 2 then C m else 1)
      split <;> omega
/-- act k stands at place p of F -/
def mt_wa (K P C F : Nat → Int) (lb : Nat → Nat → Int) (p k : Nat) : Prop := F p = 64 * K k + C k ∧ (K k ≠ 2 → F (p + 1) = P k) ∧ (K k = 2 → ∀ j : Nat, (j : Int) < C k → F (p + 1 + j) = lb k j)
theorem mt_wa_congr {K P C F F' : Nat → Int} {lb : Nat → Nat → Int} {p k q : Nat} (h : mt_wa K P C F lb p k) (hq : (p : Int) + 1 + (if K k = 2 then C k else 1) ≤ q) (hC : 1 ≤ C k) (he : ∀ x, x < q → F' x = F x) : mt_wa K P C F' lb p k := by
  obtain ⟨h1, h2, h3⟩ := h
  have hp : p < q := by split at hq <;> omega
  refine ⟨by rw [he p hp]; exact h1, fun hk => ?_, fun hk j hj => ?_⟩
  · rw [if_neg hk] at hq
    rw [he (p + 1) (by omega)]; exact h2 hk
  · rw [if_pos hk] at hq
    rw [he (p + 1 + j) (by omega)]; exact h3 hk j hj
theorem zc_I_3 {σ : Nat → Int} {α : Nat → Nat → Int} {F : Nat → Int} {n : Int} (hI : zc_I σ α) (hn : 0 ≤ n ∧ n ≤ 4102) (hF : ∀ x, 0 ≤ F x ∧ F x ≤ 255) : zc_I (zk_up σ 3 n) (zk_ua α 3 F) := by
  obtain ⟨a1, a2, a3, a4, a5, a6, a7, a8, a9, a10⟩ := hI
  refine ⟨fun q hq => ?_, fun q hq => ?_, a3, a4, a5, fun q j hq => ?_, a7, a8, a9, a10⟩
  · match q, hq with
    | 0, _ => exact a1 0 (by decide)
    | 1, _ => exact a1 1 (by decide)
    | 2, _ => exact a1 2 (by decide)
    | 3, _ => exact ⟨hn.1, hn.2⟩
    | 4, _ => exact a1 4 (by decide)
  · match q, hq with
    | 0, _ => exact a2 0 (by decide)
    | 1, _ => exact a2 1 (by decide)
    | 2, _ => exact a2 2 (by decide)
    | 3, _ => exact hF
    | 4, _ => exact a2 4 (by decide)
  · unfold zk_ua
    split
    · have := hF j
      exact ⟨by omega, by omega⟩
    · exact a6 q j hq
theorem zk_up_by {f : Nat → Int} {k : Nat} {x : Int} (h : ∀ y, 0 ≤ f y ∧ f y ≤ 255) (hx : 0 ≤ x ∧ x ≤ 255) : ∀ y, 0 ≤ zk_up f k x y ∧ zk_up f k x y ≤ 255 := by
  intro y
  unfold zk_up
  split
  · exact hx
  · exact h y
theorem mt_ap_by {f g : Nat → Int} {s n : Nat} (h : ∀ y, 0 ≤ f y ∧ f y ≤ 255) (hg : ∀ j, j < n → 0 ≤ g j ∧ g j ≤ 255) : ∀ y, 0 ≤ mt_ap f s n g y ∧ mt_ap f s n g y ≤ 255 := by
  intro y
  unfold mt_ap
  split
  next hh => exact hg _ (by omega)
  next => exact h y

set_option maxRecDepth 100000 in
set_option maxHeartbeats 4000000 in
theorem wC_writeAct (G : zk_G) (sw : Bool) (σ : Nat → Int) (α : Nat → Nat → Int) (t : zk_H) (hI : zc_I σ α) {k0 : Nat} (hk0 : (k0 : Int) < σ 10) (h3 : σ 3 + 41 ≤ 4102) (h36 : α 5 k0 = 2) : ∀ (k : Nat) (j : Nat), ((j : Int) ≤ α 7 k0) → (α 7 k0 < (j : Int) + k) → zk_W G mC_writeAct (3, 64) 0 0 57 [some (.inr (some 1)), some (.inl (k0 : Int)), some (.inl (j : Int))] [] (zk_mk G sw (zk_up σ 3 (σ 3 + 1 + (j : Int))) (zk_ua α 3 (mt_ap (zk_up (α 3) (σ 3).toNat (64 * α 5 k0 + α 7 k0)) ((σ 3).toNat + 1) j (zc_lb α k0))) t) (fun v h' => v = none ∧ ∃ F, (∀ x, x < (σ 3).toNat → F x = α 3 x) ∧ mt_wa (α 5) (α 6) (α 7) F (zc_lb α) (σ 3).toNat k0 ∧ (∀ x, 0 ≤ F x ∧ F x ≤ 255) ∧ h' = zk_mk G sw (zk_up σ 3 (σ 3 + 1 + (if α 5 k0 = 2 then α 7 k0 else 1))) (zk_ua α 3 F) t) := by
  intro k
  induction k with
  | zero =>
    intro j g1 g2
    exfalso
    omega
  | succ k ih =>
    intro j g1 g2
    have hn0 := hI.1 0 (by decide)
    have hn1 := hI.1 1 (by decide)
    have hn2 := hI.1 2 (by decide)
    have hn3 := hI.1 3 (by decide)
    have hn4 := hI.1 4 (by decide)
    have eN0 : (zr_N 0 : Int) = 40 := rfl
    have eN1 : (zr_N 1 : Int) = 40 := rfl
    have eN2 : (zr_N 2 : Int) = 80 := rfl
    have eN3 : (zr_N 3 : Int) = 4102 := rfl
    have eN4 : (zr_N 4 : Int) = 4000 := rfl
    have hv0 := hI.2.1 0 (by decide)
    have hv1 := hI.2.1 1 (by decide)
    have hv2 := hI.2.1 2 (by decide)
    have hv3 := hI.2.1 3 (by decide)
    have hv4 := hI.2.1 4 (by decide)
    have hc := hI.2.2.1
    have hs10 := hI.2.2.2.1
    have hs11 := hI.2.2.2.2.1
    have ha := hI.2.2.2.2.2.1
    have hAk := hI.2.2.2.2.2.2.1 k0 (by omega)
    obtain ⟨ak1, ak2, ak3, ak4, ak5⟩ := hAk
    refine zk_iload_n dC_writeAct_57 rfl ?_
    refine zk_aload_n dC_writeAct_58 rfl ?_
    refine zk_get zfC_37 dC_writeAct_59 (v := .inr (some 11)) rfl (by decide) rfl ?_
    refine zk_iload_n dC_writeAct_62 rfl ?_
    refine zk_callV (av := [.inl (k0 : Int)]) (st := [.inl (j : Int)]) (d' := (1, 21)) (kc' := 0) (ks' := 0) zbC_136 dC_writeAct_63 rfl (by decide) rfl rfl (Nat.le_of_ble_eq_true rfl) ⟨by decide, by decide⟩ rfl rfl (kA_count G sw (zk_up σ 3 (σ 3 + 1 + (j : Int))) (zk_ua α 3 (mt_ap (zk_up (α 3) (σ 3).toNat (64 * α 5 k0 + α 7 k0)) ((σ 3).toNat + 1) j (zc_lb α k0))) t hs10 ⟨by omega, by omega⟩) (fun v9 h9 q9 => ?_)
    rcases q9 with ⟨rfl, ⟨hka63, rfl⟩ | ⟨hka63, rfl⟩⟩
    · skip
      refine zk_W.to (ls' := [some (.inr (some 1)), some (.inl (k0 : Int)), some (.inl (j : Int))]) (st' := [.inl (α 7 k0), .inl (j : Int)]) (h' := (zk_mk G sw (zk_up σ 3 (σ 3 + 1 + (j : Int))) (zk_ua α 3 (mt_ap (zk_up (α 3) (σ 3).toNat (64 * α 5 k0 + α 7 k0)) ((σ 3).toNat + 1) j (zc_lb α k0))) t)) rfl rfl rfl ?_
      refine zk_icmp_ge (tgt := 91) dC_writeAct_66 (by decide) ⟨by omega, by omega⟩ ⟨by omega, by omega⟩ (fun h66 => ?_) (fun h66 => ?_)
      · skip
        have en : (j : Int) = α 7 k0 := by omega
        refine zk_ret dC_writeAct_91 rfl ⟨rfl, mt_ap (zk_up (α 3) (σ 3).toNat (64 * α 5 k0 + α 7 k0)) ((σ 3).toNat + 1) j (zc_lb α k0), fun x hx => ?_, ⟨?_, fun h => absurd h36 h, fun _ j' hj' => mt_ap_in (by omega)⟩, ?_, ?_⟩
        · rw [mt_ap_out (by omega), zk_up_ne (by omega)]
        · rw [mt_ap_out (by omega), zk_up_at]
        · exact mt_ap_by (zk_up_by hv3 (by omega)) (fun j' _ => hv4 _)
        · rw [if_pos h36, en]
      · skip
        refine zk_aload_n dC_writeAct_69 rfl ?_
        refine zk_get zfC_24 dC_writeAct_70 (v := .inr (some 8)) rfl (by decide) rfl ?_
        refine zk_aload_n dC_writeAct_73 rfl ?_
        refine zk_get zfC_37 dC_writeAct_74 (v := .inr (some 11)) rfl (by decide) rfl ?_
        refine zk_iload_n dC_writeAct_77 rfl ?_
        refine zk_iload_n dC_writeAct_78 rfl ?_
        refine zk_callV (av := [.inl (k0 : Int), .inl (j : Int)]) (st := [.inr (some 8)]) (d' := (2, 42)) (kc' := 0) (ks' := 0) zbC_145 dC_writeAct_79 rfl (by decide) rfl rfl (Nat.le_of_ble_eq_true rfl) ⟨by decide, by decide⟩ rfl rfl (kA_laidByte G sw (zk_up σ 3 (σ 3 + 1 + (j : Int))) (zk_ua α 3 (mt_ap (zk_up (α 3) (σ 3).toNat (64 * α 5 k0 + α 7 k0)) ((σ 3).toNat + 1) j (zc_lb α k0))) t hs10 hn4 (k := (k0 : Int)) (show 0 ≤ (k0 : Int) ∧ (k0 : Int) < σ 10 by omega) (i := (j : Int)) (zc_lay hI (k := k0) (by omega) h36 (by omega))) (fun v9 h9 q9 => ?_)
        obtain ⟨rfl, rfl⟩ := q9
        refine zk_W.to (ls' := [some (.inr (some 1)), some (.inl (k0 : Int)), some (.inl (j : Int))]) (st' := [.inl (α 4 (α 8 k0 + (j : Int)).toNat), .inr (some 8)]) (h' := (zk_mk G sw (zk_up σ 3 (σ 3 + 1 + (j : Int))) (zk_ua α 3 (mt_ap (zk_up (α 3) (σ 3).toNat (64 * α 5 k0 + α 7 k0)) ((σ 3).toNat + 1) j (zc_lb α k0))) t)) rfl rfl rfl ?_
        have hz := zc_lay hI (k := k0) (by omega) h36 (j := 0) (by omega)
        have elb : α 4 (α 8 k0 + (j : Int)).toNat = zc_lb α k0 j := by
          unfold zc_lb
          rw [show (α 8 k0 + (j : Int)).toNat = (α 8 k0).toNat + j by omega]
        rw [elb]
        refine zk_callV (av := [.inl (zc_lb α k0 j)]) (st := []) (d' := (1, 20)) (kc' := 0) (ks' := 0) zbC_81 dC_writeAct_82 rfl (by decide) rfl rfl (Nat.le_of_ble_eq_true rfl) ⟨by decide, by decide⟩ rfl rfl (kR_append G sw (zk_up σ 3 (σ 3 + 1 + (j : Int))) (zk_ua α 3 (mt_ap (zk_up (α 3) (σ 3).toNat (64 * α 5 k0 + α 7 k0)) ((σ 3).toNat + 1) j (zc_lb α k0))) t (q := 3) (by decide) (show 0 ≤ σ 3 + 1 + (j : Int) ∧ σ 3 + 1 + (j : Int) ≤ (zr_N 3 : Int) by omega)) (fun v9 h9 q9 => ?_)
        rcases q9 with ⟨rfl, ⟨hap82, rfl⟩ | ⟨hap82, rfl⟩⟩
        · skip
          refine zk_W.to (ls' := [some (.inr (some 1)), some (.inl (k0 : Int)), some (.inl (j : Int))]) (st' := []) (h' := (zk_mk G sw (zk_up (zk_up σ 3 (σ 3 + 1 + (j : Int))) 3 (σ 3 + 1 + (j : Int) + 1)) (zk_ua (zk_ua α 3 (mt_ap (zk_up (α 3) (σ 3).toNat (64 * α 5 k0 + α 7 k0)) ((σ 3).toNat + 1) j (zc_lb α k0))) 3 (zk_up (mt_ap (zk_up (α 3) (σ 3).toNat (64 * α 5 k0 + α 7 k0)) ((σ 3).toNat + 1) j (zc_lb α k0)) (σ 3 + 1 + (j : Int)).toNat (zc_lb α k0 j))) t)) rfl rfl rfl ?_
          refine zk_iinc (ls' := [some (.inr (some 1)), some (.inl (k0 : Int)), some (.inl ((j : Int) + 1))]) dC_writeAct_85 rfl (by decide) rfl ?_
          refine zk_goto (tgt := 57) dC_writeAct_88 (by decide) ?_
          have e2 : (j : Int) + 1 = ((j + 1 : Nat) : Int) := by omega
          have e3 : σ 3 + 1 + (j : Int) + 1 = σ 3 + 1 + ((j + 1 : Nat) : Int) := by omega
          rw [zk_up_up, zk_ua_ua, e3, e2, show (σ 3 + 1 + (j : Int)).toNat = (σ 3).toNat + 1 + j by omega, mt_ap_up]
          exact ih (j + 1) (by omega) (by omega)
        · skip
          have hap2 : (4102 : Int) ≤ σ 3 + 1 + (j : Int) := hap82
          exfalso; omega
    · skip
      exact absurd (show 0 ≤ (k0 : Int) ∧ (k0 : Int) < σ 10 by omega) hka63

set_option maxRecDepth 100000 in
set_option maxHeartbeats 4000000 in
theorem kC_writeAct (G : zk_G) (sw : Bool) (σ : Nat → Int) (α : Nat → Nat → Int) (t : zk_H) (hI : zc_I σ α) {k0 : Nat} (hk0 : (k0 : Int) < σ 10) (h3 : σ 3 + 41 ≤ 4102) : zk_K G mC_writeAct (3, 64) 0 0 [.inr (some 1), .inl (k0 : Int)] (zk_mk G sw σ α t) (fun v h' => v = none ∧ ∃ F, (∀ x, x < (σ 3).toNat → F x = α 3 x) ∧ mt_wa (α 5) (α 6) (α 7) F (zc_lb α) (σ 3).toNat k0 ∧ (∀ x, 0 ≤ F x ∧ F x ≤ 255) ∧ h' = zk_mk G sw (zk_up σ 3 (σ 3 + 1 + (if α 5 k0 = 2 then α 7 k0 else 1))) (zk_ua α 3 F) t) := by
  have hn0 := hI.1 0 (by decide)
  have hn1 := hI.1 1 (by decide)
  have hn2 := hI.1 2 (by decide)
  have hn3 := hI.1 3 (by decide)
  have hn4 := hI.1 4 (by decide)
  have eN0 : (zr_N 0 : Int) = 40 := rfl
  have eN1 : (zr_N 1 : Int) = 40 := rfl
  have eN2 : (zr_N 2 : Int) = 80 := rfl
  have eN3 : (zr_N 3 : Int) = 4102 := rfl
  have eN4 : (zr_N 4 : Int) = 4000 := rfl
  have hv0 := hI.2.1 0 (by decide)
  have hv1 := hI.2.1 1 (by decide)
  have hv2 := hI.2.1 2 (by decide)
  have hv3 := hI.2.1 3 (by decide)
  have hv4 := hI.2.1 4 (by decide)
  have hc := hI.2.2.1
  have hs10 := hI.2.2.2.1
  have hs11 := hI.2.2.2.2.1
  have ha := hI.2.2.2.2.2.1
  have hAk := hI.2.2.2.2.2.2.1 k0 (by omega)
  obtain ⟨ak1, ak2, ak3, ak4, ak5⟩ := hAk
  refine zk_K.of (ls := [some (.inr (some 1)), some (.inl (k0 : Int)), none]) (by decide +kernel) (Nat.le_of_ble_eq_true rfl) rfl ?_
  refine zk_aload_n dC_writeAct_0 rfl ?_
  refine zk_get zfC_24 dC_writeAct_1 (v := .inr (some 8)) rfl (by decide) rfl ?_
  refine zk_bipush dC_writeAct_4 (by decide) ?_
  refine zk_aload_n dC_writeAct_6 rfl ?_
  refine zk_get zfC_37 dC_writeAct_7 (v := .inr (some 11)) rfl (by decide) rfl ?_
  refine zk_iload_n dC_writeAct_10 rfl ?_
  refine zk_callV (av := [.inl (k0 : Int)]) (st := [.inl 64, .inr (some 8)]) (d' := (1, 21)) (kc' := 0) (ks' := 0) zbC_133 dC_writeAct_11 rfl (by decide) rfl rfl (Nat.le_of_ble_eq_true rfl) ⟨by decide, by decide⟩ rfl rfl (kA_kind G sw σ α t hs10 ⟨by omega, by omega⟩) (fun v9 h9 q9 => ?_)
  rcases q9 with ⟨rfl, ⟨hka11, rfl⟩ | ⟨hka11, rfl⟩⟩
  · skip
    refine zk_W.to (ls' := [some (.inr (some 1)), some (.inl (k0 : Int)), none]) (st' := [.inl (α 5 k0), .inl 64, .inr (some 8)]) (h' := (zk_mk G sw σ α t)) rfl rfl rfl ?_
    refine zk_imul dC_writeAct_14 ?_
    refine zk_aload_n dC_writeAct_15 rfl ?_
    refine zk_get zfC_37 dC_writeAct_16 (v := .inr (some 11)) rfl (by decide) rfl ?_
    refine zk_iload_n dC_writeAct_19 rfl ?_
    refine zk_callV (av := [.inl (k0 : Int)]) (st := [.inl (64 * (α 5 k0)), .inr (some 8)]) (d' := (1, 21)) (kc' := 0) (ks' := 0) zbC_136 dC_writeAct_20 rfl (by decide) rfl rfl (Nat.le_of_ble_eq_true rfl) ⟨by decide, by decide⟩ rfl rfl (kA_count G sw σ α t hs10 ⟨by omega, by omega⟩) (fun v9 h9 q9 => ?_)
    rcases q9 with ⟨rfl, ⟨hka20, rfl⟩ | ⟨hka20, rfl⟩⟩
    · skip
      refine zk_W.to (ls' := [some (.inr (some 1)), some (.inl (k0 : Int)), none]) (st' := [.inl (α 7 k0), .inl (64 * (α 5 k0)), .inr (some 8)]) (h' := (zk_mk G sw σ α t)) rfl rfl rfl ?_
      refine zk_iadd dC_writeAct_23 ?_
      refine zk_callV (av := [.inl ((64 * (α 5 k0)) + (α 7 k0))]) (st := []) (d' := (1, 20)) (kc' := 0) (ks' := 0) zbC_81 dC_writeAct_24 rfl (by decide) rfl rfl (Nat.le_of_ble_eq_true rfl) ⟨by decide, by decide⟩ rfl rfl (kR_append G sw σ α t (q := 3) (by decide) (show 0 ≤ σ 3 ∧ σ 3 ≤ (zr_N 3 : Int) by omega)) (fun v9 h9 q9 => ?_)
      rcases q9 with ⟨rfl, ⟨hap24, rfl⟩ | ⟨hap24, rfl⟩⟩
      · skip
        refine zk_W.to (ls' := [some (.inr (some 1)), some (.inl (k0 : Int)), none]) (st' := []) (h' := (zk_mk G sw (zk_up σ 3 (σ 3 + 1)) (zk_ua α 3 (zk_up (α 3) (σ 3).toNat ((64 * (α 5 k0)) + (α 7 k0)))) t)) rfl rfl rfl ?_
        refine zk_aload_n dC_writeAct_27 rfl ?_
        refine zk_get zfC_37 dC_writeAct_28 (v := .inr (some 11)) rfl (by decide) rfl ?_
        refine zk_iload_n dC_writeAct_31 rfl ?_
        refine zk_callV (av := [.inl (k0 : Int)]) (st := []) (d' := (1, 21)) (kc' := 0) (ks' := 0) zbC_133 dC_writeAct_32 rfl (by decide) rfl rfl (Nat.le_of_ble_eq_true rfl) ⟨by decide, by decide⟩ rfl rfl (kA_kind G sw (zk_up σ 3 (σ 3 + 1)) (zk_ua α 3 (zk_up (α 3) (σ 3).toNat ((64 * (α 5 k0)) + (α 7 k0)))) t hs10 ⟨by omega, by omega⟩) (fun v9 h9 q9 => ?_)
        rcases q9 with ⟨rfl, ⟨hka32, rfl⟩ | ⟨hka32, rfl⟩⟩
        · skip
          refine zk_W.to (ls' := [some (.inr (some 1)), some (.inl (k0 : Int)), none]) (st' := [.inl (α 5 k0)]) (h' := (zk_mk G sw (zk_up σ 3 (σ 3 + 1)) (zk_ua α 3 (zk_up (α 3) (σ 3).toNat ((64 * (α 5 k0)) + (α 7 k0)))) t)) rfl rfl rfl ?_
          refine zk_iconst dC_writeAct_35 ?_
          refine zk_icmp_eq (tgt := 55) dC_writeAct_36 (by decide) (ha _ _ (by decide)) ⟨by decide, by decide⟩ (fun h36 => ?_) (fun h36 => ?_)
          · skip
            refine zk_iconst dC_writeAct_55 ?_
            refine zk_istore_n (ls' := [some (.inr (some 1)), some (.inl (k0 : Int)), some (.inl 0)]) dC_writeAct_56 (by decide) rfl ?_
            have key := wC_writeAct G sw σ α t hI hk0 h3 h36 (α 7 k0 + 1).toNat 0 (by omega) (by omega)
            rw [mt_ap_0, show σ 3 + 1 + ((0 : Nat) : Int) = σ 3 + 1 by omega] at key
            exact key
          · skip
            refine zk_aload_n dC_writeAct_39 rfl ?_
            refine zk_get zfC_24 dC_writeAct_40 (v := .inr (some 8)) rfl (by decide) rfl ?_
            refine zk_aload_n dC_writeAct_43 rfl ?_
            refine zk_get zfC_37 dC_writeAct_44 (v := .inr (some 11)) rfl (by decide) rfl ?_
            refine zk_iload_n dC_writeAct_47 rfl ?_
            refine zk_callV (av := [.inl (k0 : Int)]) (st := [.inr (some 8)]) (d' := (1, 21)) (kc' := 0) (ks' := 0) zbC_139 dC_writeAct_48 rfl (by decide) rfl rfl (Nat.le_of_ble_eq_true rfl) ⟨by decide, by decide⟩ rfl rfl (kA_place G sw (zk_up σ 3 (σ 3 + 1)) (zk_ua α 3 (zk_up (α 3) (σ 3).toNat ((64 * (α 5 k0)) + (α 7 k0)))) t hs10 ⟨by omega, by omega⟩) (fun v9 h9 q9 => ?_)
            rcases q9 with ⟨rfl, ⟨hka48, rfl⟩ | ⟨hka48, rfl⟩⟩
            · skip
              refine zk_W.to (ls' := [some (.inr (some 1)), some (.inl (k0 : Int)), none]) (st' := [.inl (α 6 k0), .inr (some 8)]) (h' := (zk_mk G sw (zk_up σ 3 (σ 3 + 1)) (zk_ua α 3 (zk_up (α 3) (σ 3).toNat ((64 * (α 5 k0)) + (α 7 k0)))) t)) rfl rfl rfl ?_
              refine zk_callV (av := [.inl (α 6 k0)]) (st := []) (d' := (1, 20)) (kc' := 0) (ks' := 0) zbC_81 dC_writeAct_51 rfl (by decide) rfl rfl (Nat.le_of_ble_eq_true rfl) ⟨by decide, by decide⟩ rfl rfl (kR_append G sw (zk_up σ 3 (σ 3 + 1)) (zk_ua α 3 (zk_up (α 3) (σ 3).toNat ((64 * (α 5 k0)) + (α 7 k0)))) t (q := 3) (by decide) (show 0 ≤ σ 3 + 1 ∧ σ 3 + 1 ≤ (zr_N 3 : Int) by omega)) (fun v9 h9 q9 => ?_)
              rcases q9 with ⟨rfl, ⟨hap51, rfl⟩ | ⟨hap51, rfl⟩⟩
              · skip
                refine zk_W.to (ls' := [some (.inr (some 1)), some (.inl (k0 : Int)), none]) (st' := []) (h' := (zk_mk G sw (zk_up (zk_up σ 3 (σ 3 + 1)) 3 (σ 3 + 1 + 1)) (zk_ua (zk_ua α 3 (zk_up (α 3) (σ 3).toNat ((64 * (α 5 k0)) + (α 7 k0)))) 3 (zk_up (zk_up (α 3) (σ 3).toNat ((64 * (α 5 k0)) + (α 7 k0))) (σ 3 + 1).toNat (α 6 k0))) t)) rfl rfl rfl ?_
                refine zk_ret dC_writeAct_54 rfl ⟨rfl, zk_up (zk_up (α 3) (σ 3).toNat (64 * α 5 k0 + α 7 k0)) (σ 3 + 1).toNat (α 6 k0), fun x hx => ?_, ⟨?_, fun _ => ?_, fun h => absurd h h36⟩, ?_, ?_⟩
                · rw [zk_up_ne (by omega), zk_up_ne (by omega)]
                · rw [zk_up_ne (by omega), zk_up_at]
                · rw [show (σ 3 + 1).toNat = (σ 3).toNat + 1 by omega, zk_up_at]
                · have := ak3 h36
                  exact zk_up_by (zk_up_by hv3 (by omega)) (by omega)
                · rw [if_neg h36, zk_up_up, zk_ua_ua]
              · skip
                have hap2 : (4102 : Int) ≤ σ 3 + 1 := hap51
                exfalso; omega
            · skip
              exact absurd (show 0 ≤ (k0 : Int) ∧ (k0 : Int) < σ 10 by omega) hka48
        · skip
          exact absurd (show 0 ≤ (k0 : Int) ∧ (k0 : Int) < σ 10 by omega) hka32
      · skip
        have hap2 : (4102 : Int) ≤ σ 3 := hap24
        exfalso; omega
    · skip
      exact absurd (show 0 ≤ (k0 : Int) ∧ (k0 : Int) < σ 10 by omega) hka20
  · skip
    exact absurd (show 0 ≤ (k0 : Int) ∧ (k0 : Int) < σ 10 by omega) hka11

/-- the acts below m stand in F -/
def zc_wr (σ : Nat → Int) (α : Nat → Nat → Int) (F : Nat → Int) (m : Nat) : Prop := F 0 = σ 11 / 256 ∧ F 1 = σ 11 % 256 ∧ (∀ k, k < m → mt_wa (α 5) (α 6) (α 7) F (zc_lb α) (mt_pos (α 5) (α 7) k).toNat k) ∧ ∀ x, 0 ≤ F x ∧ F x ≤ 255
theorem zc_wr_step {σ : Nat → Int} {α : Nat → Nat → Int} {F F' : Nat → Int} {m : Nat} (hI : zc_I σ α) (hm : (m : Int) < σ 10) (h : zc_wr σ α F m) (h1 : ∀ x, x < (mt_pos (α 5) (α 7) m).toNat → F' x = F x) (h2 : mt_wa (α 5) (α 6) (α 7) F' (zc_lb α) (mt_pos (α 5) (α 7) m).toNat m) (h3 : ∀ x, 0 ≤ F' x ∧ F' x ≤ 255) : zc_wr σ α F' (m + 1) := by
  obtain ⟨a1, a2, a3, -⟩ := h
  have hC : ∀ k, k < (σ 10).toNat → 1 ≤ α 7 k ∧ α 7 k ≤ 40 := fun k hk => (hI.2.2.2.2.2.2.1 k hk).2.1
  have hp := mt_pos_rg (K := α 5) (C := α 7) (n := m) (fun k hk => hC k (by omega))
  refine ⟨by rw [h1 0 (by omega)]; exact a1, by rw [h1 1 (by omega)]; exact a2, fun k hk => ?_, h3⟩
  by_cases e : k = m
  · subst e; exact h2
  · have hl := mt_pos_le (K := α 5) (C := α 7) (n := k) (m := m) (by omega) (fun k' hk' => (hC k' (by omega)).1)
    have hpk := mt_pos_rg (K := α 5) (C := α 7) (n := k) (fun k' hk' => hC k' (by omega))
    refine mt_wa_congr (q := (mt_pos (α 5) (α 7) m).toNat) (a3 k (by omega)) ?_ (hC k (by omega)).1 h1
    rw [Int.toNat_of_nonneg (by omega), Int.toNat_of_nonneg (by omega)]
    exact hl

set_option maxRecDepth 100000 in
set_option maxHeartbeats 4000000 in
theorem wC_write (G : zk_G) (sw : Bool) (σ : Nat → Int) (α : Nat → Nat → Int) (t : zk_H) (hI : zc_I σ α) : ∀ (k : Nat) (m : Nat) (F : Nat → Int), ((m : Int) ≤ σ 10) → (σ 10 < (m : Int) + k) → (zc_wr σ α F m) → zk_W G mC_write (4, 86) 0 0 45 [some (.inr (some 1)), some (.inl (m : Int))] [] (zk_mk G sw (zk_up σ 3 (mt_pos (α 5) (α 7) m)) (zk_ua α 3 F) t) (fun v h' => ∃ F, zc_wr σ α F (σ 10).toNat ∧ h' = zk_mk G sw (zk_up σ 3 (mt_pos (α 5) (α 7) (σ 10).toNat)) (zk_ua α 3 F) t ∧ v = some (.inl (mt_pos (α 5) (α 7) (σ 10).toNat))) := by
  intro k
  induction k with
  | zero =>
    intro m F g1 g2 hwr
    exfalso
    omega
  | succ k ih =>
    intro m F g1 g2 hwr
    have hn0 := hI.1 0 (by decide)
    have hn1 := hI.1 1 (by decide)
    have hn2 := hI.1 2 (by decide)
    have hn3 := hI.1 3 (by decide)
    have hn4 := hI.1 4 (by decide)
    have eN0 : (zr_N 0 : Int) = 40 := rfl
    have eN1 : (zr_N 1 : Int) = 40 := rfl
    have eN2 : (zr_N 2 : Int) = 80 := rfl
    have eN3 : (zr_N 3 : Int) = 4102 := rfl
    have eN4 : (zr_N 4 : Int) = 4000 := rfl
    have hv0 := hI.2.1 0 (by decide)
    have hv1 := hI.2.1 1 (by decide)
    have hv2 := hI.2.1 2 (by decide)
    have hv3 := hI.2.1 3 (by decide)
    have hv4 := hI.2.1 4 (by decide)
    have hc := hI.2.2.1
    have hs10 := hI.2.2.2.1
    have hs11 := hI.2.2.2.2.1
    have ha := hI.2.2.2.2.2.1
    have hps := mt_pos_rg (K := α 5) (C := α 7) (n := m) (fun k' hk' => (hI.2.2.2.2.2.2.1 k' (by omega)).2.1)
    refine zk_iload_n dC_write_45 rfl ?_
    refine zk_aload_n dC_write_46 rfl ?_
    refine zk_get zfC_37 dC_write_47 (v := .inr (some 11)) rfl (by decide) rfl ?_
    refine zk_callV (av := []) (st := [.inl (m : Int)]) (d' := (0, 0)) (kc' := 0) (ks' := 0) zbC_113 dC_write_50 rfl (by decide) rfl rfl (Nat.le_of_ble_eq_true rfl) ⟨by decide, by decide⟩ rfl rfl (kA_length G sw (zk_up σ 3 (mt_pos (α 5) (α 7) m)) (zk_ua α 3 F) t) (fun v9 h9 q9 => ?_)
    obtain ⟨rfl, rfl⟩ := q9
    refine zk_W.to (ls' := [some (.inr (some 1)), some (.inl (m : Int))]) (st' := [.inl (σ 10), .inl (m : Int)]) (h' := (zk_mk G sw (zk_up σ 3 (mt_pos (α 5) (α 7) m)) (zk_ua α 3 F) t)) rfl rfl rfl ?_
    refine zk_icmp_ge (tgt := 67) dC_write_53 (by decide) ⟨by omega, by omega⟩ ⟨by omega, by omega⟩ (fun h53 => ?_) (fun h53 => ?_)
    · skip
      refine zk_aload_n dC_write_67 rfl ?_
      refine zk_get zfC_24 dC_write_68 (v := .inr (some 8)) rfl (by decide) rfl ?_
      refine zk_callV (av := []) (st := []) (d' := (0, 0)) (kc' := 0) (ks' := 0) zbC_50 dC_write_71 rfl (by decide) rfl rfl (Nat.le_of_ble_eq_true rfl) ⟨by decide, by decide⟩ rfl rfl (kR_length G sw (zk_up σ 3 (mt_pos (α 5) (α 7) m)) (zk_ua α 3 F) t (q := 3) (by decide)) (fun v9 h9 q9 => ?_)
      obtain ⟨rfl, rfl⟩ := q9
      refine zk_W.to (ls' := [some (.inr (some 1)), some (.inl (m : Int))]) (st' := [.inl (mt_pos (α 5) (α 7) m)]) (h' := (zk_mk G sw (zk_up σ 3 (mt_pos (α 5) (α 7) m)) (zk_ua α 3 F) t)) rfl rfl rfl ?_
      have en : (σ 10).toNat = m := by omega
      rw [en]
      exact zk_iret dC_write_74 rfl ⟨F, hwr, rfl, rfl⟩
    · skip
      refine zk_aload_n dC_write_56 rfl ?_
      refine zk_iload_n dC_write_57 rfl ?_
      refine zk_callV (av := [.inl (m : Int)]) (st := []) (d' := (3, 64)) (kc' := 0) (ks' := 0) zbC_175 dC_write_58 rfl (by decide) rfl rfl (Nat.le_of_ble_eq_true rfl) ⟨by decide, by decide⟩ rfl rfl (kC_writeAct G sw (zk_up σ 3 (mt_pos (α 5) (α 7) m)) (zk_ua α 3 F) t (zc_I_3 hI (by omega) hwr.2.2.2) (k0 := m) (show (m : Int) < σ 10 by omega) (show mt_pos (α 5) (α 7) m + 41 ≤ 4102 by omega)) (fun v9 h9 q9 => ?_)
      obtain ⟨rfl, F', w1, w2, w3, rfl⟩ := q9
      refine zk_W.to (ls' := [some (.inr (some 1)), some (.inl (m : Int))]) (st' := []) (h' := (zk_mk G sw (zk_up (zk_up σ 3 (mt_pos (α 5) (α 7) m)) 3 (mt_pos (α 5) (α 7) m + 1 + (if α 5 m = 2 then α 7 m else 1))) (zk_ua (zk_ua α 3 F) 3 F') t)) rfl rfl rfl ?_
      refine zk_iinc (ls' := [some (.inr (some 1)), some (.inl ((m : Int) + 1))]) dC_write_61 rfl (by decide) rfl ?_
      refine zk_goto (tgt := 45) dC_write_64 (by decide) ?_
      have e2 : (m : Int) + 1 = ((m + 1 : Nat) : Int) := by omega
      rw [zk_up_up, zk_ua_ua, e2]
      exact ih (m + 1) F' (by omega) (by omega) (zc_wr_step hI (by omega) hwr w1 w2 w3)

set_option maxRecDepth 100000 in
set_option maxHeartbeats 4000000 in
theorem kC_write (G : zk_G) (sw : Bool) (σ : Nat → Int) (α : Nat → Nat → Int) (t : zk_H) (hI : zc_I σ α)  : zk_K G mC_write (4, 86) 0 0 [.inr (some 1)] (zk_mk G sw σ α t) (fun v h' => ∃ F, zc_wr σ α F (σ 10).toNat ∧ h' = zk_mk G sw (zk_up σ 3 (mt_pos (α 5) (α 7) (σ 10).toNat)) (zk_ua α 3 F) t ∧ v = some (.inl (mt_pos (α 5) (α 7) (σ 10).toNat))) := by
  have hn0 := hI.1 0 (by decide)
  have hn1 := hI.1 1 (by decide)
  have hn2 := hI.1 2 (by decide)
  have hn3 := hI.1 3 (by decide)
  have hn4 := hI.1 4 (by decide)
  have eN0 : (zr_N 0 : Int) = 40 := rfl
  have eN1 : (zr_N 1 : Int) = 40 := rfl
  have eN2 : (zr_N 2 : Int) = 80 := rfl
  have eN3 : (zr_N 3 : Int) = 4102 := rfl
  have eN4 : (zr_N 4 : Int) = 4000 := rfl
  have hv0 := hI.2.1 0 (by decide)
  have hv1 := hI.2.1 1 (by decide)
  have hv2 := hI.2.1 2 (by decide)
  have hv3 := hI.2.1 3 (by decide)
  have hv4 := hI.2.1 4 (by decide)
  have hc := hI.2.2.1
  have hs10 := hI.2.2.2.1
  have hs11 := hI.2.2.2.2.1
  have ha := hI.2.2.2.2.2.1
  refine zk_K.of (ls := [some (.inr (some 1)), none]) (by decide +kernel) (Nat.le_of_ble_eq_true rfl) rfl ?_
  refine zk_aload_n dC_write_0 rfl ?_
  refine zk_get zfC_24 dC_write_1 (v := .inr (some 8)) rfl (by decide) rfl ?_
  refine zk_callV (av := []) (st := []) (d' := (0, 0)) (kc' := 0) (ks' := 0) zbC_54 dC_write_4 rfl (by decide) rfl rfl (Nat.le_of_ble_eq_true rfl) ⟨by decide, by decide⟩ rfl rfl (kR_dropAll G sw σ α t (q := 3) (by decide)) (fun v9 h9 q9 => ?_)
  obtain ⟨rfl, rfl⟩ := q9
  refine zk_W.to (ls' := [some (.inr (some 1)), none]) (st' := []) (h' := (zk_mk G sw (zk_up σ 3 0) α t)) rfl rfl rfl ?_
  refine zk_aload_n dC_write_7 rfl ?_
  refine zk_get zfC_24 dC_write_8 (v := .inr (some 8)) rfl (by decide) rfl ?_
  refine zk_aload_n dC_write_11 rfl ?_
  refine zk_get zfC_37 dC_write_12 (v := .inr (some 11)) rfl (by decide) rfl ?_
  refine zk_callV (av := []) (st := [.inr (some 8)]) (d' := (0, 0)) (kc' := 0) (ks' := 0) zbC_161 dC_write_15 rfl (by decide) rfl rfl (Nat.le_of_ble_eq_true rfl) ⟨by decide, by decide⟩ rfl rfl (kA_sum G sw (zk_up σ 3 0) α t) (fun v9 h9 q9 => ?_)
  obtain ⟨rfl, rfl⟩ := q9
  refine zk_W.to (ls' := [some (.inr (some 1)), none]) (st' := [.inl (σ 11), .inr (some 8)]) (h' := (zk_mk G sw (zk_up σ 3 0) α t)) rfl rfl rfl ?_
  refine zk_sipush dC_write_18 (by decide) ?_
  refine zk_idiv dC_write_21 (by omega) ⟨by omega, by omega⟩ (by omega) ⟨by decide, by decide⟩ ?_
  refine zk_callV (av := [.inl ((σ 11) / 256)]) (st := []) (d' := (1, 20)) (kc' := 0) (ks' := 0) zbC_81 dC_write_22 rfl (by decide) rfl rfl (Nat.le_of_ble_eq_true rfl) ⟨by decide, by decide⟩ rfl rfl (kR_append G sw (zk_up σ 3 0) α t (q := 3) (by decide) (show 0 ≤ 0 ∧ 0 ≤ (zr_N 3 : Int) by omega)) (fun v9 h9 q9 => ?_)
  rcases q9 with ⟨rfl, ⟨hap22, rfl⟩ | ⟨hap22, rfl⟩⟩
  · skip
    refine zk_W.to (ls' := [some (.inr (some 1)), none]) (st' := []) (h' := (zk_mk G sw (zk_up (zk_up σ 3 0) 3 (0 + 1)) (zk_ua α 3 (zk_up (α 3) (0 : Int).toNat ((σ 11) / 256))) t)) rfl rfl rfl ?_
    refine zk_aload_n dC_write_25 rfl ?_
    refine zk_get zfC_24 dC_write_26 (v := .inr (some 8)) rfl (by decide) rfl ?_
    refine zk_aload_n dC_write_29 rfl ?_
    refine zk_get zfC_37 dC_write_30 (v := .inr (some 11)) rfl (by decide) rfl ?_
    refine zk_callV (av := []) (st := [.inr (some 8)]) (d' := (0, 0)) (kc' := 0) (ks' := 0) zbC_161 dC_write_33 rfl (by decide) rfl rfl (Nat.le_of_ble_eq_true rfl) ⟨by decide, by decide⟩ rfl rfl (kA_sum G sw (zk_up (zk_up σ 3 0) 3 (0 + 1)) (zk_ua α 3 (zk_up (α 3) (0 : Int).toNat ((σ 11) / 256))) t) (fun v9 h9 q9 => ?_)
    obtain ⟨rfl, rfl⟩ := q9
    refine zk_W.to (ls' := [some (.inr (some 1)), none]) (st' := [.inl (σ 11), .inr (some 8)]) (h' := (zk_mk G sw (zk_up (zk_up σ 3 0) 3 (0 + 1)) (zk_ua α 3 (zk_up (α 3) (0 : Int).toNat ((σ 11) / 256))) t)) rfl rfl rfl ?_
    refine zk_sipush dC_write_36 (by decide) ?_
    refine zk_irem dC_write_39 (by omega) ⟨by omega, by omega⟩ (by omega) ⟨by decide, by decide⟩ ?_
    refine zk_callV (av := [.inl ((σ 11) % 256)]) (st := []) (d' := (1, 20)) (kc' := 0) (ks' := 0) zbC_81 dC_write_40 rfl (by decide) rfl rfl (Nat.le_of_ble_eq_true rfl) ⟨by decide, by decide⟩ rfl rfl (kR_append G sw (zk_up (zk_up σ 3 0) 3 (0 + 1)) (zk_ua α 3 (zk_up (α 3) (0 : Int).toNat ((σ 11) / 256))) t (q := 3) (by decide) (show 0 ≤ 0 + 1 ∧ 0 + 1 ≤ (zr_N 3 : Int) by omega)) (fun v9 h9 q9 => ?_)
    rcases q9 with ⟨rfl, ⟨hap40, rfl⟩ | ⟨hap40, rfl⟩⟩
    · skip
      refine zk_W.to (ls' := [some (.inr (some 1)), none]) (st' := []) (h' := (zk_mk G sw (zk_up (zk_up (zk_up σ 3 0) 3 (0 + 1)) 3 (0 + 1 + 1)) (zk_ua (zk_ua α 3 (zk_up (α 3) (0 : Int).toNat ((σ 11) / 256))) 3 (zk_up (zk_up (α 3) (0 : Int).toNat ((σ 11) / 256)) (0 + 1 : Int).toNat ((σ 11) % 256))) t)) rfl rfl rfl ?_
      refine zk_iconst dC_write_43 ?_
      refine zk_istore_n (ls' := [some (.inr (some 1)), some (.inl 0)]) dC_write_44 (by decide) rfl ?_
      have key := wC_write G sw σ α t hI (σ 10 + 1).toNat 0 (zk_up (zk_up (α 3) 0 (σ 11 / 256)) 1 (σ 11 % 256)) (by omega) (by omega) ⟨by rw [zk_up_ne (by decide), zk_up_at], zk_up_at _ _ _, fun k hk => absurd hk (Nat.not_lt_zero k), zk_up_by (zk_up_by hv3 (by omega)) (by omega)⟩
      have es : zk_up (zk_up (zk_up σ 3 0) 3 (0 + 1)) 3 (0 + 1 + 1) = zk_up σ 3 2 := by
        rw [zk_up_up, zk_up_up]
        rfl
      have ea : zk_ua (zk_ua α 3 (zk_up (α 3) (0 : Int).toNat ((σ 11) / 256))) 3 (zk_up (zk_up (α 3) (0 : Int).toNat ((σ 11) / 256)) (0 + 1 : Int).toNat ((σ 11) % 256)) = zk_ua α 3 (zk_up (zk_up (α 3) 0 (σ 11 / 256)) 1 (σ 11 % 256)) := by
        rw [zk_ua_ua]
        rfl
      rw [es, ea]
      exact key
    · skip
      have hap2 : (4102 : Int) ≤ 0 + 1 := hap40
      exfalso; omega
  · skip
    have hap2 : (4102 : Int) ≤ 0 := hap22
    exfalso; omega
