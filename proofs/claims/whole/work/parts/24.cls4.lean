theorem zc_L_rg {σ : Nat → Int} {α : Nat → Nat → Int} {n : Nat} {g : Nat → Int} (ha : ∀ q j, q < 9 → zk_rg (α q j)) (h4 : 0 ≤ σ 4 ∧ σ 4 ≤ 4000) (hn : n ≤ 40) (hg : ∀ j, j < n → 0 ≤ g j ∧ g j ≤ 255) : ∀ q j, q < 9 → zk_rg (zc_L σ α n g q j) := by
  intro q j hq
  unfold zc_L zk_ua
  (repeat' split)
  · unfold mt_ap
    split
    next h =>
      have := hg (j - (σ 4).toNat) (by omega)
      exact ⟨by omega, by omega⟩
    next => exact ha 4 j (by decide)
  · exact zk_up_rg (fun j => ha 7 j (by decide)) ⟨by omega, by omega⟩ j
  · exact zk_up_rg (fun j => ha 8 j (by decide)) ⟨by omega, by omega⟩ j
  · exact zk_up_rg (fun j => ha 6 j (by decide)) ⟨by omega, by omega⟩ j
  · exact zk_up_rg (fun j => ha 5 j (by decide)) ⟨by omega, by omega⟩ j
  · exact ha q j hq
theorem zc_L_tk {σ : Nat → Int} {α : Nat → Nat → Int} {n : Nat} {g : Nat → Int} (h10 : 0 ≤ σ 10) (hn : n < 40) : zk_tk (zc_Ls σ n) (zc_L σ α n g) := by
  refine ⟨show 0 < σ 10 + 1 by omega, ?_, ?_⟩
  · show zk_up (α 5) (σ 10).toNat 2 (σ 10 + 1 - 1).toNat = 2
    rw [show σ 10 + 1 - 1 = σ 10 by omega, zk_up_at]
  · show zk_up (α 7) (σ 10).toNat (n : Int) (σ 10 + 1 - 1).toNat < 40
    rw [show σ 10 + 1 - 1 = σ 10 by omega, zk_up_at]
    omega

set_option maxRecDepth 100000 in
set_option maxHeartbeats 4000000 in
theorem wC_take (G : zk_G) (sw : Bool) (σ : Nat → Int) (α : Nat → Nat → Int) (t : zk_H) (hI : zc_I σ α) (h10 : σ 10 < 100) {at' n : Nat} (h17 : σ 17 = (n : Int)) (h13 : σ 13 = (at' : Int) + n) (hn : 1 ≤ n ∧ n ≤ 40) (han : ((at' + n : Nat) : Int) ≤ σ 1) (h15 : 0 ≤ σ 15 ∧ σ 15 ≤ 2) (h15e : σ 15 = 2) : ∀ (k : Nat) (j : Nat), (j ≤ n) → (n < j + k) → zk_W G mC_takeFoundAct (4, 83) 0 0 49 [some (.inr (some 1)), some (.inl (j : Int))] [] (zk_mk G sw (zc_Ls σ j) (zc_L σ α j (fun j => α 1 (at' + j))) t) (fun v h' => v = none ∧ ((σ 15 ≠ 2 ∧ h' = zk_mk G sw (zk_up σ 10 (σ 10 + 1)) (zc_P σ α (σ 15) (σ 16) (σ 17)) t) ∨ (σ 15 = 2 ∧ h' = zk_mk G sw (zc_Ls σ n) (zc_L σ α n (fun j => α 1 (at' + j))) t))) := by
  intro k
  induction k with
  | zero =>
    intro j g1 g2
    exfalso
    omega
  | succ k ih =>
    intro j g1 g2
    have hn0 := hI.1 0 (by decide)
    have hn1 := hI.1 1 (by decide)
    have hn2 := hI.1 2 (by decide)
    have hn3 := hI.1 3 (by decide)
    have hn4 := hI.1 4 (by decide)
    have eN0 : (zr_N 0 : Int) = 40 := rfl
    have eN1 : (zr_N 1 : Int) = 40 := rfl
    have eN2 : (zr_N 2 : Int) = 80 := rfl
    have eN3 : (zr_N 3 : Int) = 4102 := rfl
    have eN4 : (zr_N 4 : Int) = 4000 := rfl
    have hv0 := hI.2.1 0 (by decide)
    have hv1 := hI.2.1 1 (by decide)
    have hv2 := hI.2.1 2 (by decide)
    have hv3 := hI.2.1 3 (by decide)
    have hv4 := hI.2.1 4 (by decide)
    have hc := hI.2.2.1
    have hs10 := hI.2.2.2.1
    have hs11 := hI.2.2.2.2.1
    have ha := hI.2.2.2.2.2.1
    have h44 := zc_4 hI
    have hg : ∀ j', j' < j → 0 ≤ (fun j => α 1 (at' + j)) j' ∧ (fun j => α 1 (at' + j)) j' ≤ 255 := fun j' _ => hv1 _
    refine zk_iload_n dC_takeFoundAct_49 rfl ?_
    refine zk_aload_n dC_takeFoundAct_50 rfl ?_
    refine zk_get zfC_46 dC_takeFoundAct_51 (v := .inr (some 18)) rfl (by decide) rfl ?_
    refine zk_callV (av := []) (st := [.inl (j : Int)]) (d' := (0, 0)) (kc' := 0) (ks' := 0) zbC_190 dC_takeFoundAct_54 rfl (by decide) rfl rfl (Nat.le_of_ble_eq_true rfl) ⟨by decide, by decide⟩ rfl rfl (kS_foundCount G sw (zc_Ls σ j) (zc_L σ α j (fun j => α 1 (at' + j))) t) (fun v9 h9 q9 => ?_)
    obtain ⟨rfl, rfl⟩ := q9
    refine zk_W.to (ls' := [some (.inr (some 1)), some (.inl (j : Int))]) (st' := [.inl (σ 17), .inl (j : Int)]) (h' := (zk_mk G sw (zc_Ls σ j) (zc_L σ α j (fun j => α 1 (at' + j))) t)) rfl rfl rfl ?_
    refine zk_icmp_ge (tgt := 89) dC_takeFoundAct_57 (by decide) ⟨by omega, by omega⟩ ⟨by omega, by omega⟩ (fun h57 => ?_) (fun h57 => ?_)
    · skip
      have en : j = n := by omega
      subst en
      exact zk_ret dC_takeFoundAct_89 rfl ⟨rfl, Or.inr ⟨h15e, rfl⟩⟩
    · skip
      refine zk_aload_n dC_takeFoundAct_60 rfl ?_
      refine zk_get zfC_37 dC_takeFoundAct_61 (v := .inr (some 11)) rfl (by decide) rfl ?_
      refine zk_aload_n dC_takeFoundAct_64 rfl ?_
      refine zk_get zfC_18 dC_takeFoundAct_65 (v := .inr (some 4)) rfl (by decide) rfl ?_
      refine zk_aload_n dC_takeFoundAct_68 rfl ?_
      refine zk_get zfC_46 dC_takeFoundAct_69 (v := .inr (some 18)) rfl (by decide) rfl ?_
      refine zk_callV (av := []) (st := [.inr (some 4), .inr (some 11)]) (d' := (0, 0)) (kc' := 0) (ks' := 0) zbC_209 dC_takeFoundAct_72 rfl (by decide) rfl rfl (Nat.le_of_ble_eq_true rfl) ⟨by decide, by decide⟩ rfl rfl (kS_foundAt G sw (zc_Ls σ j) (zc_L σ α j (fun j => α 1 (at' + j))) t) (fun v9 h9 q9 => ?_)
      obtain ⟨rfl, rfl⟩ := q9
      refine zk_W.to (ls' := [some (.inr (some 1)), some (.inl (j : Int))]) (st' := [.inl ((σ 13) - (σ 17)), .inr (some 4), .inr (some 11)]) (h' := (zk_mk G sw (zc_Ls σ j) (zc_L σ α j (fun j => α 1 (at' + j))) t)) rfl rfl rfl ?_
      refine zk_iload_n dC_takeFoundAct_75 rfl ?_
      refine zk_iadd dC_takeFoundAct_76 ?_
      refine zk_callV (av := [.inl (((σ 13) - (σ 17)) + (j : Int))]) (st := [.inr (some 11)]) (d' := (1, 21)) (kc' := 0) (ks' := 0) zbC_168 dC_takeFoundAct_77 rfl (by decide) rfl rfl (Nat.le_of_ble_eq_true rfl) ⟨by decide, by decide⟩ rfl rfl (kR_get G sw (zc_Ls σ j) (zc_L σ α j (fun j => α 1 (at' + j))) t (q := 1) (by decide) hn1 ⟨by omega, by omega⟩) (fun v9 h9 q9 => ?_)
      rcases q9 with ⟨rfl, ⟨hc77, rfl⟩ | ⟨hc77, rfl⟩⟩
      · skip
        refine zk_W.to (ls' := [some (.inr (some 1)), some (.inl (j : Int))]) (st' := [.inl (α 1 (((σ 13) - (σ 17)) + (j : Int)).toNat), .inr (some 11)]) (h' := (zk_mk G sw (zc_Ls σ j) (zc_L σ α j (fun j => α 1 (at' + j))) t)) rfl rfl rfl ?_
        refine zk_callV (av := [.inl (α 1 (((σ 13) - (σ 17)) + (j : Int)).toNat)]) (st := []) (d' := (3, 62)) (kc' := 0) (ks' := 0) zbC_158 dC_takeFoundAct_80 rfl (by decide) rfl rfl (Nat.le_of_ble_eq_true rfl) ⟨by decide, by decide⟩ rfl rfl (kA_layByte G sw (zc_Ls σ j) (zc_L σ α j (fun j => α 1 (at' + j))) t (show 0 ≤ σ 10 + 1 ∧ σ 10 + 1 ≤ 100 by omega) (zc_L_rg ha (by omega) (by omega) hg) (show 0 ≤ σ 4 + (j : Int) ∧ σ 4 + (j : Int) ≤ (zr_N 4 : Int) by omega) (zc_L_tk (by omega) (by omega)) (show σ 4 + (j : Int) < 4000 by omega) (x := α 1 (((σ 13) - (σ 17)) + (j : Int)).toNat)) (fun v9 h9 q9 => ?_)
        obtain ⟨rfl, rfl⟩ := q9
        refine zk_W.to (ls' := [some (.inr (some 1)), some (.inl (j : Int))]) (st' := []) (h' := (zk_mk G sw (zk_up (zc_Ls σ j) 4 (σ 4 + (j : Int) + 1)) (zk_ua (zk_ua (zc_L σ α j (fun j => α 1 (at' + j))) 4 (zk_up (mt_ap (α 4) (σ 4).toNat j (fun j => α 1 (at' + j))) (σ 4 + (j : Int)).toNat (α 1 (((σ 13) - (σ 17)) + (j : Int)).toNat))) 7 (zk_up (zk_up (α 7) (σ 10).toNat (j : Int)) (σ 10 + 1 - 1).toNat ((zk_up (α 7) (σ 10).toNat (j : Int)) (σ 10 + 1 - 1).toNat + 1))) t)) rfl rfl rfl ?_
        refine zk_iinc (ls' := [some (.inr (some 1)), some (.inl ((j : Int) + 1))]) dC_takeFoundAct_83 rfl (by decide) rfl ?_
        refine zk_goto (tgt := 49) dC_takeFoundAct_86 (by decide) ?_
        have ex : α 1 (σ 13 - σ 17 + (j : Int)).toNat = (fun j => α 1 (at' + j)) j := by
          show _ = α 1 (at' + j)
          congr 1
          omega
        have e2 : (j : Int) + 1 = ((j + 1 : Nat) : Int) := by omega
        rw [ex, zc_L_up (by omega) (by omega), zc_Ls_up, e2]
        exact ih (j + 1) (by omega) (by omega)
      · skip
        exact absurd (⟨by omega, by omega⟩ : 0 ≤ ((σ 13) - (σ 17)) + (j : Int) ∧ ((σ 13) - (σ 17)) + (j : Int) < σ 1) hc77

set_option maxRecDepth 100000 in
set_option maxHeartbeats 4000000 in
theorem kC_takeFoundAct (G : zk_G) (sw : Bool) (σ : Nat → Int) (α : Nat → Nat → Int) (t : zk_H) (hI : zc_I σ α) (h10 : σ 10 < 100) {at' n : Nat} (h17 : σ 17 = (n : Int)) (h13 : σ 13 = (at' : Int) + n) (hn : 1 ≤ n ∧ n ≤ 40) (han : ((at' + n : Nat) : Int) ≤ σ 1) (h15 : 0 ≤ σ 15 ∧ σ 15 ≤ 2) : zk_K G mC_takeFoundAct (4, 83) 0 0 [.inr (some 1)] (zk_mk G sw σ α t) (fun v h' => v = none ∧ ((σ 15 ≠ 2 ∧ h' = zk_mk G sw (zk_up σ 10 (σ 10 + 1)) (zc_P σ α (σ 15) (σ 16) (σ 17)) t) ∨ (σ 15 = 2 ∧ h' = zk_mk G sw (zc_Ls σ n) (zc_L σ α n (fun j => α 1 (at' + j))) t))) := by
  have hn0 := hI.1 0 (by decide)
  have hn1 := hI.1 1 (by decide)
  have hn2 := hI.1 2 (by decide)
  have hn3 := hI.1 3 (by decide)
  have hn4 := hI.1 4 (by decide)
  have eN0 : (zr_N 0 : Int) = 40 := rfl
  have eN1 : (zr_N 1 : Int) = 40 := rfl
  have eN2 : (zr_N 2 : Int) = 80 := rfl
  have eN3 : (zr_N 3 : Int) = 4102 := rfl
  have eN4 : (zr_N 4 : Int) = 4000 := rfl
  have hv0 := hI.2.1 0 (by decide)
  have hv1 := hI.2.1 1 (by decide)
  have hv2 := hI.2.1 2 (by decide)
  have hv3 := hI.2.1 3 (by decide)
  have hv4 := hI.2.1 4 (by decide)
  have hc := hI.2.2.1
  have hs10 := hI.2.2.2.1
  have hs11 := hI.2.2.2.2.1
  have ha := hI.2.2.2.2.2.1
  refine zk_K.of (ls := [some (.inr (some 1)), none]) (by decide +kernel) (Nat.le_of_ble_eq_true rfl) rfl ?_
  refine zk_aload_n dC_takeFoundAct_0 rfl ?_
  refine zk_get zfC_46 dC_takeFoundAct_1 (v := .inr (some 18)) rfl (by decide) rfl ?_
  refine zk_callV (av := []) (st := []) (d' := (0, 0)) (kc' := 0) (ks' := 0) zbC_203 dC_takeFoundAct_4 rfl (by decide) rfl rfl (Nat.le_of_ble_eq_true rfl) ⟨by decide, by decide⟩ rfl rfl (kS_foundKind G sw σ α t) (fun v9 h9 q9 => ?_)
  obtain ⟨rfl, rfl⟩ := q9
  refine zk_W.to (ls' := [some (.inr (some 1)), none]) (st' := [.inl (σ 15)]) (h' := (zk_mk G sw σ α t)) rfl rfl rfl ?_
  refine zk_iconst dC_takeFoundAct_7 ?_
  refine zk_icmp_eq (tgt := 40) dC_takeFoundAct_8 (by decide) ⟨by omega, by omega⟩ ⟨by decide, by decide⟩ (fun h8 => ?_) (fun h8 => ?_)
  · skip
    refine zk_aload_n dC_takeFoundAct_40 rfl ?_
    refine zk_get zfC_37 dC_takeFoundAct_41 (v := .inr (some 11)) rfl (by decide) rfl ?_
    refine zk_callV (av := []) (st := []) (d' := (2, 43)) (kc' := 0) (ks' := 0) zbC_155 dC_takeFoundAct_44 rfl (by decide) rfl rfl (Nat.le_of_ble_eq_true rfl) ⟨by decide, by decide⟩ rfl rfl (kA_openLay G sw σ α t hs10 h10) (fun v9 h9 q9 => ?_)
    obtain ⟨rfl, rfl⟩ := q9
    refine zk_W.to (ls' := [some (.inr (some 1)), none]) (st' := []) (h' := (zk_mk G sw (zk_up σ 10 (σ 10 + 1)) (zc_P σ α 2 (-1) 0) t)) rfl rfl rfl ?_
    refine zk_iconst dC_takeFoundAct_47 ?_
    refine zk_istore_n (ls' := [some (.inr (some 1)), some (.inl 0)]) dC_takeFoundAct_48 (by decide) rfl ?_
    have key := wC_take G sw σ α t hI h10 h17 h13 hn han h15 h8 (n + 1) 0 (by omega) (by omega)
    rw [← zc_Ls_0, ← zc_L_0 σ α (fun j => α 1 (at' + j))] at key
    exact key
  · skip
    refine zk_aload_n dC_takeFoundAct_11 rfl ?_
    refine zk_get zfC_37 dC_takeFoundAct_12 (v := .inr (some 11)) rfl (by decide) rfl ?_
    refine zk_aload_n dC_takeFoundAct_15 rfl ?_
    refine zk_get zfC_46 dC_takeFoundAct_16 (v := .inr (some 18)) rfl (by decide) rfl ?_
    refine zk_callV (av := []) (st := [.inr (some 11)]) (d' := (0, 0)) (kc' := 0) (ks' := 0) zbC_203 dC_takeFoundAct_19 rfl (by decide) rfl rfl (Nat.le_of_ble_eq_true rfl) ⟨by decide, by decide⟩ rfl rfl (kS_foundKind G sw σ α t) (fun v9 h9 q9 => ?_)
    obtain ⟨rfl, rfl⟩ := q9
    refine zk_W.to (ls' := [some (.inr (some 1)), none]) (st' := [.inl (σ 15), .inr (some 11)]) (h' := (zk_mk G sw σ α t)) rfl rfl rfl ?_
    refine zk_aload_n dC_takeFoundAct_22 rfl ?_
    refine zk_get zfC_46 dC_takeFoundAct_23 (v := .inr (some 18)) rfl (by decide) rfl ?_
    refine zk_callV (av := []) (st := [.inl (σ 15), .inr (some 11)]) (d' := (0, 0)) (kc' := 0) (ks' := 0) zbC_206 dC_takeFoundAct_26 rfl (by decide) rfl rfl (Nat.le_of_ble_eq_true rfl) ⟨by decide, by decide⟩ rfl rfl (kS_foundPlace G sw σ α t) (fun v9 h9 q9 => ?_)
    obtain ⟨rfl, rfl⟩ := q9
    refine zk_W.to (ls' := [some (.inr (some 1)), none]) (st' := [.inl (σ 16), .inl (σ 15), .inr (some 11)]) (h' := (zk_mk G sw σ α t)) rfl rfl rfl ?_
    refine zk_aload_n dC_takeFoundAct_29 rfl ?_
    refine zk_get zfC_46 dC_takeFoundAct_30 (v := .inr (some 18)) rfl (by decide) rfl ?_
    refine zk_callV (av := []) (st := [.inl (σ 16), .inl (σ 15), .inr (some 11)]) (d' := (0, 0)) (kc' := 0) (ks' := 0) zbC_190 dC_takeFoundAct_33 rfl (by decide) rfl rfl (Nat.le_of_ble_eq_true rfl) ⟨by decide, by decide⟩ rfl rfl (kS_foundCount G sw σ α t) (fun v9 h9 q9 => ?_)
    obtain ⟨rfl, rfl⟩ := q9
    refine zk_W.to (ls' := [some (.inr (some 1)), none]) (st' := [.inl (σ 17), .inl (σ 16), .inl (σ 15), .inr (some 11)]) (h' := (zk_mk G sw σ α t)) rfl rfl rfl ?_
    refine zk_callV (av := [.inl (σ 15), .inl (σ 16), .inl (σ 17)]) (st := []) (d' := (1, 20)) (kc' := 0) (ks' := 0) zbC_149 dC_takeFoundAct_36 rfl (by decide) rfl rfl (Nat.le_of_ble_eq_true rfl) ⟨by decide, by decide⟩ rfl rfl (kA_append G sw σ α t hs10 h10) (fun v9 h9 q9 => ?_)
    obtain ⟨rfl, rfl⟩ := q9
    refine zk_W.to (ls' := [some (.inr (some 1)), none]) (st' := []) (h' := (zk_mk G sw (zk_up σ 10 (σ 10 + 1)) (zc_P σ α (σ 15) (σ 16) (σ 17)) t)) rfl rfl rfl ?_
    exact zk_ret dC_takeFoundAct_39 rfl ⟨rfl, Or.inl ⟨h8, rfl⟩⟩

/-- how many bytes the acts below n make -/
def mt_isum (C : Nat → Int) : Nat → Int
  | 0 => 0
  | n + 1 => mt_isum C n + C n
/-- the acts below m are the first best ones, from the first byte on -/
def mt_pl (B : Nat → Nat → Nat → Nat → Nat → Prop) (K P C : Nat → Int) (m : Nat) : Prop := ∀ k, k < m → ∃ x p n : Nat, B (mt_isum C k).toNat (mt_spot K P C k).toNat x p n ∧ K k = (x : Int) ∧ C k = (n : Int) ∧ (x ≠ 2 → P k = (p : Int))
theorem mt_isum_congr {C C' : Nat → Int} : ∀ {n : Nat}, (∀ k, k < n → C k = C' k) → mt_isum C n = mt_isum C' n
  | 0, _ => rfl
  | n + 1, h => by
    show mt_isum C n + C n = mt_isum C' n + C' n
    rw [mt_isum_congr (fun k hk => h k (by omega)), h n (by omega)]
theorem mt_spot_congr {K P C K' P' C' : Nat → Int} : ∀ {n : Nat}, (∀ k, k < n → K k = K' k ∧ (K k = 0 → P k = P' k ∧ C k = C' k)) → mt_spot K P C n = mt_spot K' P' C' n
  | 0, _ => rfl
  | n + 1, h => by
    show (if K n = 0 then P n + C n else mt_spot K P C n) = (if K' n = 0 then P' n + C' n else mt_spot K' P' C' n)
    have h1 := h n (by omega)
    rw [mt_spot_congr (fun k hk => h k (by omega)), ← h1.1]
    split
    next e => rw [(h1.2 e).1, (h1.2 e).2]
    next => rfl
theorem mt_pl_up {B : Nat → Nat → Nat → Nat → Nat → Prop} {K P C : Nat → Int} {m : Nat} {x p n : Nat} {q : Int} (h : mt_pl B K P C m) (hB : B (mt_isum C m).toNat (mt_spot K P C m).toNat x p n) (hq : x ≠ 2 → q = (p : Int)) : mt_pl B (zk_up K m x) (zk_up P m q) (zk_up C m n) (m + 1) := by
  have e : ∀ k, k ≤ m → mt_isum (zk_up C m (n : Int)) k = mt_isum C k ∧ mt_spot (zk_up K m (x : Int)) (zk_up P m q) (zk_up C m (n : Int)) k = mt_spot K P C k := fun k hk =>
    ⟨mt_isum_congr (fun j hj => zk_up_ne (by omega)), mt_spot_congr (fun j hj => ⟨zk_up_ne (by omega), fun _ => ⟨zk_up_ne (by omega), zk_up_ne (by omega)⟩⟩)⟩
  intro k hk
  rw [(e k (by omega)).1, (e k (by omega)).2]
  by_cases ek : k = m
  · subst ek
    exact ⟨x, p, n, hB, zk_up_at _ _ _, zk_up_at _ _ _, fun hx => by rw [zk_up_at]; exact hq hx⟩
  · obtain ⟨x', p', n', h1, h2, h3, h4⟩ := h k (by omega)
    exact ⟨x', p', n', h1, by rw [zk_up_ne ek]; exact h2, by rw [zk_up_ne ek]; exact h3, fun hx => by rw [zk_up_ne ek]; exact h4 hx⟩
/-- what a LAY of the best plan lays -/
def mt_pb (N : Nat → Int) (K C F b : Nat → Int) (m : Nat) : Prop := ∀ k, k < m → K k = 2 → ∀ j : Nat, (j : Int) < C k → b ((F k).toNat + j) = N ((mt_isum C k).toNat + j)

/-- σ' and σ have the same texts, numbers, codes; α' and α the same texts, codes and table -/
def zc_E (σ σ' : Nat → Int) (α α' : Nat → Nat → Int) : Prop := (σ' 0 = σ 0 ∧ σ' 1 = σ 1 ∧ σ' 2 = σ 2 ∧ σ' 3 = σ 3) ∧ (σ' 5 = σ 5 ∧ σ' 6 = σ 6 ∧ σ' 7 = σ 7 ∧ σ' 8 = σ 8 ∧ σ' 9 = σ 9) ∧ (α' 0 = α 0 ∧ α' 1 = α 1 ∧ α' 2 = α 2 ∧ α' 3 = α 3)
theorem zc_E_c {σ σ' : Nat → Int} {α α' : Nat → Nat → Int} (h : zc_E σ σ' α α') : zs_c σ' = zs_c σ := by
  obtain ⟨-, ⟨h5, h6, h7, h8, h9⟩, -⟩ := h
  funext j
  unfold zs_c
  split
  · exact h5
  · exact h6
  · exact h7
  · exact h8
  · exact h9
/-- where the plan stands with m acts: the search's place and spot, the acts, what they lay -/
def zc_pl (f : Nat → Int) (σ σ' : Nat → Int) (α α' : Nat → Nat → Int) (m : Nat) : Prop :=
  zc_I σ' α' ∧ zc_E σ σ' α α' ∧ σ' 12 = 1 ∧ α' 9 = f ∧ σ' 11 = mt_sum (α 0) (σ 0).toNat ∧ σ' 10 = (m : Int) ∧ m ≤ 40 ∧ (m : Int) ≤ mt_isum (α' 7) m ∧ mt_isum (α' 7) m ≤ σ 1 ∧ σ' 13 = mt_isum (α' 7) m ∧ σ' 14 = mt_spot (α' 5) (α' 6) (α' 7) m ∧ (0 ≤ σ' 14 ∧ σ' 14 ≤ σ 0) ∧
  mt_pl (fun i s x p n => mt_best (α 0) (σ 0).toNat (α 1) (σ 1).toNat (zs_c σ) (mt_tb f) i s x p n) (α' 5) (α' 6) (α' 7) m ∧ mt_pb (α 1) (α' 5) (α' 7) (α' 8) (α' 4) m
