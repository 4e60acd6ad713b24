set_option maxRecDepth 100000 in
set_option maxHeartbeats 4000000 in
theorem wC_readAct (G : zk_G) (sw : Bool) (σ : Nat → Int) (α : Nat → Nat → Int) (t : zk_H) (hI : zc_I σ α) (h10 : σ 10 < 100) {p : Nat} (hp : (p : Int) < σ 3) (hg1 : mt_g1 (α 3) p) (hpe : ((p + 1 + (if α 3 p / 64 = 2 then (α 3 p % 64).toNat else 1) : Nat) : Int) ≤ σ 3) (hp79 : α 3 p / 64 ≠ 2 → α 3 (p + 1) ≤ 79) (hk2 : α 3 p / 64 = 2) : ∀ (k : Nat) (j : Nat), ((j : Int) ≤ α 3 p % 64) → (α 3 p % 64 < (j : Int) + k) → zk_W G mC_readAct (4, 83) 0 0 62 [some (.inr (some 1)), some (.inl (p : Int)), some (.inl (α 3 p / 64)), some (.inl (α 3 p % 64)), some (.inl ((j : Int) + 1))] [] (zk_mk G sw (zc_Ls σ j) (zc_L σ α j (fun j => α 3 (p + 1 + j))) t) (fun v h' => (α 3 p / 64 ≠ 2 ∧ h' = zk_mk G sw (zk_up σ 10 (σ 10 + 1)) (zc_P σ α (α 3 p / 64) (α 3 (p + 1)) (α 3 p % 64)) t ∧ v = some (.inl ((p : Int) + 2))) ∨ (α 3 p / 64 = 2 ∧ h' = zk_mk G sw (zc_Ls σ (α 3 p % 64).toNat) (zc_L σ α (α 3 p % 64).toNat (fun j => α 3 (p + 1 + j))) t ∧ v = some (.inl ((p : Int) + 1 + α 3 p % 64)))) := by
  intro k
  induction k with
  | zero =>
    intro j g1 g2
    exfalso
    omega
  | succ k ih =>
    intro j g1 g2
    have hn0 := hI.1 0 (by decide)
    have hn1 := hI.1 1 (by decide)
    have hn2 := hI.1 2 (by decide)
    have hn3 := hI.1 3 (by decide)
    have hn4 := hI.1 4 (by decide)
    have eN0 : (zr_N 0 : Int) = 40 := rfl
    have eN1 : (zr_N 1 : Int) = 40 := rfl
    have eN2 : (zr_N 2 : Int) = 80 := rfl
    have eN3 : (zr_N 3 : Int) = 4102 := rfl
    have eN4 : (zr_N 4 : Int) = 4000 := rfl
    have hv0 := hI.2.1 0 (by decide)
    have hv1 := hI.2.1 1 (by decide)
    have hv2 := hI.2.1 2 (by decide)
    have hv3 := hI.2.1 3 (by decide)
    have hv4 := hI.2.1 4 (by decide)
    have hc := hI.2.2.1
    have hs10 := hI.2.2.2.1
    have hs11 := hI.2.2.2.2.1
    have ha := hI.2.2.2.2.2.1
    have h44 := zc_4 hI
    have hvp := hv3 p
    obtain ⟨g11, g12, g13⟩ := id hg1
    rw [if_pos hk2] at hpe
    have hg : ∀ j', j' < j → 0 ≤ (fun j => α 3 (p + 1 + j)) j' ∧ (fun j => α 3 (p + 1 + j)) j' ≤ 255 := fun j' _ => hv3 _
    refine zk_iload dC_readAct_62 rfl ?_
    refine zk_iload_n dC_readAct_64 rfl ?_
    refine zk_icmp_gt (tgt := 92) dC_readAct_65 (by decide) ⟨by omega, by omega⟩ ⟨by omega, by omega⟩ (fun h65 => ?_) (fun h65 => ?_)
    · skip
      refine zk_iload_n dC_readAct_92 rfl ?_
      refine zk_iconst dC_readAct_93 ?_
      refine zk_iadd dC_readAct_94 ?_
      refine zk_iload_n dC_readAct_95 rfl ?_
      refine zk_iadd dC_readAct_96 ?_
      have en : (α 3 p % 64).toNat = j := by omega
      refine zk_iret dC_readAct_97 rfl (Or.inr ⟨hk2, ?_, rfl⟩)
      rw [en]
    · skip
      refine zk_aload_n dC_readAct_68 rfl ?_
      refine zk_get zfC_37 dC_readAct_69 (v := .inr (some 11)) rfl (by decide) rfl ?_
      refine zk_aload_n dC_readAct_72 rfl ?_
      refine zk_get zfC_24 dC_readAct_73 (v := .inr (some 8)) rfl (by decide) rfl ?_
      refine zk_iload_n dC_readAct_76 rfl ?_
      refine zk_iload dC_readAct_77 rfl ?_
      refine zk_iadd dC_readAct_79 ?_
      refine zk_callV (av := [.inl ((p : Int) + ((j : Int) + 1))]) (st := [.inr (some 11)]) (d' := (1, 21)) (kc' := 0) (ks' := 0) zbC_168 dC_readAct_80 rfl (by decide) rfl rfl (Nat.le_of_ble_eq_true rfl) ⟨by decide, by decide⟩ rfl rfl (kR_get G sw (zc_Ls σ j) (zc_L σ α j (fun j => α 3 (p + 1 + j))) t (q := 3) (by decide) hn3 ⟨by omega, by omega⟩) (fun v9 h9 q9 => ?_)
      rcases q9 with ⟨rfl, ⟨hg80, rfl⟩ | ⟨hg80, rfl⟩⟩
      · skip
        refine zk_W.to (ls' := [some (.inr (some 1)), some (.inl (p : Int)), some (.inl (α 3 p / 64)), some (.inl (α 3 p % 64)), some (.inl ((j : Int) + 1))]) (st' := [.inl (α 3 ((p : Int) + ((j : Int) + 1)).toNat), .inr (some 11)]) (h' := (zk_mk G sw (zc_Ls σ j) (zc_L σ α j (fun j => α 3 (p + 1 + j))) t)) rfl rfl rfl ?_
        refine zk_callV (av := [.inl (α 3 ((p : Int) + ((j : Int) + 1)).toNat)]) (st := []) (d' := (3, 62)) (kc' := 0) (ks' := 0) zbC_158 dC_readAct_83 rfl (by decide) rfl rfl (Nat.le_of_ble_eq_true rfl) ⟨by decide, by decide⟩ rfl rfl (kA_layByte G sw (zc_Ls σ j) (zc_L σ α j (fun j => α 3 (p + 1 + j))) t (show 0 ≤ σ 10 + 1 ∧ σ 10 + 1 ≤ 100 by omega) (zc_L_rg ha (by omega) (by omega) hg) (show 0 ≤ σ 4 + (j : Int) ∧ σ 4 + (j : Int) ≤ (zr_N 4 : Int) by omega) (zc_L_tk (by omega) (by omega)) (show σ 4 + (j : Int) < 4000 by omega) (x := α 3 ((p : Int) + ((j : Int) + 1)).toNat)) (fun v9 h9 q9 => ?_)
        obtain ⟨rfl, rfl⟩ := q9
        refine zk_W.to (ls' := [some (.inr (some 1)), some (.inl (p : Int)), some (.inl (α 3 p / 64)), some (.inl (α 3 p % 64)), some (.inl ((j : Int) + 1))]) (st' := []) (h' := (zk_mk G sw (zk_up (zc_Ls σ j) 4 (σ 4 + (j : Int) + 1)) (zk_ua (zk_ua (zc_L σ α j (fun j => α 3 (p + 1 + j))) 4 (zk_up (mt_ap (α 4) (σ 4).toNat j (fun j => α 3 (p + 1 + j))) (σ 4 + (j : Int)).toNat (α 3 ((p : Int) + ((j : Int) + 1)).toNat))) 7 (zk_up (zk_up (α 7) (σ 10).toNat (j : Int)) (σ 10 + 1 - 1).toNat ((zk_up (α 7) (σ 10).toNat (j : Int)) (σ 10 + 1 - 1).toNat + 1))) t)) rfl rfl rfl ?_
        refine zk_iinc (ls' := [some (.inr (some 1)), some (.inl (p : Int)), some (.inl (α 3 p / 64)), some (.inl (α 3 p % 64)), some (.inl ((j : Int) + 1 + 1))]) dC_readAct_86 rfl (by decide) rfl ?_
        refine zk_goto (tgt := 62) dC_readAct_89 (by decide) ?_
        have ex : α 3 ((p : Int) + ((j : Int) + 1)).toNat = (fun j => α 3 (p + 1 + j)) j := by
          show _ = α 3 (p + 1 + j)
          congr 1
          omega
        have e2 : (j : Int) + 1 + 1 = ((j + 1 : Nat) : Int) + 1 := by omega
        rw [ex, zc_L_up (by omega) (by omega), zc_Ls_up, e2]
        exact ih (j + 1) (by omega) (by omega)
      · skip
        exact absurd (⟨by omega, by omega⟩ : 0 ≤ (p : Int) + ((j : Int) + 1) ∧ (p : Int) + ((j : Int) + 1) < σ 3) hg80

set_option maxRecDepth 100000 in
set_option maxHeartbeats 4000000 in
theorem kC_readAct (G : zk_G) (sw : Bool) (σ : Nat → Int) (α : Nat → Nat → Int) (t : zk_H) (hI : zc_I σ α) (h10 : σ 10 < 100) {p : Nat} (hp : (p : Int) < σ 3) (hg1 : mt_g1 (α 3) p) (hpe : ((p + 1 + (if α 3 p / 64 = 2 then (α 3 p % 64).toNat else 1) : Nat) : Int) ≤ σ 3) (hp79 : α 3 p / 64 ≠ 2 → α 3 (p + 1) ≤ 79) : zk_K G mC_readAct (4, 83) 0 0 [.inr (some 1), .inl (p : Int)] (zk_mk G sw σ α t) (fun v h' => (α 3 p / 64 ≠ 2 ∧ h' = zk_mk G sw (zk_up σ 10 (σ 10 + 1)) (zc_P σ α (α 3 p / 64) (α 3 (p + 1)) (α 3 p % 64)) t ∧ v = some (.inl ((p : Int) + 2))) ∨ (α 3 p / 64 = 2 ∧ h' = zk_mk G sw (zc_Ls σ (α 3 p % 64).toNat) (zc_L σ α (α 3 p % 64).toNat (fun j => α 3 (p + 1 + j))) t ∧ v = some (.inl ((p : Int) + 1 + α 3 p % 64)))) := by
  have hn0 := hI.1 0 (by decide)
  have hn1 := hI.1 1 (by decide)
  have hn2 := hI.1 2 (by decide)
  have hn3 := hI.1 3 (by decide)
  have hn4 := hI.1 4 (by decide)
  have eN0 : (zr_N 0 : Int) = 40 := rfl
  have eN1 : (zr_N 1 : Int) = 40 := rfl
  have eN2 : (zr_N 2 : Int) = 80 := rfl
  have eN3 : (zr_N 3 : Int) = 4102 := rfl
  have eN4 : (zr_N 4 : Int) = 4000 := rfl
  have hv0 := hI.2.1 0 (by decide)
  have hv1 := hI.2.1 1 (by decide)
  have hv2 := hI.2.1 2 (by decide)
  have hv3 := hI.2.1 3 (by decide)
  have hv4 := hI.2.1 4 (by decide)
  have hc := hI.2.2.1
  have hs10 := hI.2.2.2.1
  have hs11 := hI.2.2.2.2.1
  have ha := hI.2.2.2.2.2.1
  have h44 := zc_4 hI
  have hvp := hv3 p
  obtain ⟨g11, g12, g13⟩ := id hg1
  refine zk_K.of (ls := [some (.inr (some 1)), some (.inl (p : Int)), none, none, none]) (by decide +kernel) (Nat.le_of_ble_eq_true rfl) rfl ?_
  refine zk_aload_n dC_readAct_0 rfl ?_
  refine zk_get zfC_24 dC_readAct_1 (v := .inr (some 8)) rfl (by decide) rfl ?_
  refine zk_iload_n dC_readAct_4 rfl ?_
  refine zk_callV (av := [.inl (p : Int)]) (st := []) (d' := (1, 21)) (kc' := 0) (ks' := 0) zbC_168 dC_readAct_5 rfl (by decide) rfl rfl (Nat.le_of_ble_eq_true rfl) ⟨by decide, by decide⟩ rfl rfl (kR_get G sw σ α t (q := 3) (by decide) hn3 ⟨by omega, by omega⟩) (fun v9 h9 q9 => ?_)
  rcases q9 with ⟨rfl, ⟨hg5, rfl⟩ | ⟨hg5, rfl⟩⟩
  · skip
    refine zk_W.to (ls' := [some (.inr (some 1)), some (.inl (p : Int)), none, none, none]) (st' := [.inl (α 3 p)]) (h' := (zk_mk G sw σ α t)) rfl rfl rfl ?_
    refine zk_bipush dC_readAct_8 (by decide) ?_
    refine zk_idiv dC_readAct_10 (by omega) ⟨by omega, by omega⟩ (by omega) ⟨by decide, by decide⟩ ?_
    refine zk_istore_n (ls' := [some (.inr (some 1)), some (.inl (p : Int)), some (.inl ((α 3 p) / 64)), none, none]) dC_readAct_11 (by decide) rfl ?_
    refine zk_aload_n dC_readAct_12 rfl ?_
    refine zk_get zfC_24 dC_readAct_13 (v := .inr (some 8)) rfl (by decide) rfl ?_
    refine zk_iload_n dC_readAct_16 rfl ?_
    refine zk_callV (av := [.inl (p : Int)]) (st := []) (d' := (1, 21)) (kc' := 0) (ks' := 0) zbC_168 dC_readAct_17 rfl (by decide) rfl rfl (Nat.le_of_ble_eq_true rfl) ⟨by decide, by decide⟩ rfl rfl (kR_get G sw σ α t (q := 3) (by decide) hn3 ⟨by omega, by omega⟩) (fun v9 h9 q9 => ?_)
    rcases q9 with ⟨rfl, ⟨hg17, rfl⟩ | ⟨hg17, rfl⟩⟩
    · skip
      refine zk_W.to (ls' := [some (.inr (some 1)), some (.inl (p : Int)), some (.inl ((α 3 p) / 64)), none, none]) (st' := [.inl (α 3 p)]) (h' := (zk_mk G sw σ α t)) rfl rfl rfl ?_
      refine zk_bipush dC_readAct_20 (by decide) ?_
      refine zk_irem dC_readAct_22 (by omega) ⟨by omega, by omega⟩ (by omega) ⟨by decide, by decide⟩ ?_
      refine zk_istore_n (ls' := [some (.inr (some 1)), some (.inl (p : Int)), some (.inl ((α 3 p) / 64)), some (.inl ((α 3 p) % 64)), none]) dC_readAct_23 (by decide) rfl ?_
      refine zk_iload_n dC_readAct_24 rfl ?_
      refine zk_iconst dC_readAct_25 ?_
      refine zk_icmp_eq (tgt := 52) dC_readAct_26 (by decide) ⟨by omega, by omega⟩ ⟨by decide, by decide⟩ (fun h26 => ?_) (fun h26 => ?_)
      · skip
        refine zk_aload_n dC_readAct_52 rfl ?_
        refine zk_get zfC_37 dC_readAct_53 (v := .inr (some 11)) rfl (by decide) rfl ?_
        refine zk_callV (av := []) (st := []) (d' := (2, 43)) (kc' := 0) (ks' := 0) zbC_155 dC_readAct_56 rfl (by decide) rfl rfl (Nat.le_of_ble_eq_true rfl) ⟨by decide, by decide⟩ rfl rfl (kA_openLay G sw σ α t hs10 h10) (fun v9 h9 q9 => ?_)
        obtain ⟨rfl, rfl⟩ := q9
        refine zk_W.to (ls' := [some (.inr (some 1)), some (.inl (p : Int)), some (.inl ((α 3 p) / 64)), some (.inl ((α 3 p) % 64)), none]) (st' := []) (h' := (zk_mk G sw (zk_up σ 10 (σ 10 + 1)) (zc_P σ α 2 (-1) 0) t)) rfl rfl rfl ?_
        refine zk_iconst dC_readAct_59 ?_
        refine zk_istore (ls' := [some (.inr (some 1)), some (.inl (p : Int)), some (.inl ((α 3 p) / 64)), some (.inl ((α 3 p) % 64)), some (.inl 1)]) dC_readAct_60 (by decide) rfl ?_
        have key := wC_readAct G sw σ α t hI h10 hp hg1 hpe hp79 h26 (α 3 p % 64 + 1).toNat 0 (by omega) (by omega)
        rw [← zc_Ls_0, ← zc_L_0 σ α (fun j => α 3 (p + 1 + j)), show ((0 : Nat) : Int) + 1 = 1 by omega] at key
        exact key
      · skip
        rw [if_neg h26] at hpe
        refine zk_aload_n dC_readAct_29 rfl ?_
        refine zk_get zfC_37 dC_readAct_30 (v := .inr (some 11)) rfl (by decide) rfl ?_
        refine zk_iload_n dC_readAct_33 rfl ?_
        refine zk_aload_n dC_readAct_34 rfl ?_
        refine zk_get zfC_24 dC_readAct_35 (v := .inr (some 8)) rfl (by decide) rfl ?_
        refine zk_iload_n dC_readAct_38 rfl ?_
        refine zk_iconst dC_readAct_39 ?_
        refine zk_iadd dC_readAct_40 ?_
        refine zk_callV (av := [.inl ((p : Int) + 1)]) (st := [.inl ((α 3 p) / 64), .inr (some 11)]) (d' := (1, 21)) (kc' := 0) (ks' := 0) zbC_168 dC_readAct_41 rfl (by decide) rfl rfl (Nat.le_of_ble_eq_true rfl) ⟨by decide, by decide⟩ rfl rfl (kR_get G sw σ α t (q := 3) (by decide) hn3 ⟨by omega, by omega⟩) (fun v9 h9 q9 => ?_)
        rcases q9 with ⟨rfl, ⟨hg41, rfl⟩ | ⟨hg41, rfl⟩⟩
        · skip
          refine zk_W.to (ls' := [some (.inr (some 1)), some (.inl (p : Int)), some (.inl ((α 3 p) / 64)), some (.inl ((α 3 p) % 64)), none]) (st' := [.inl (α 3 ((p : Int) + 1).toNat), .inl ((α 3 p) / 64), .inr (some 11)]) (h' := (zk_mk G sw σ α t)) rfl rfl rfl ?_
          refine zk_iload_n dC_readAct_44 rfl ?_
          refine zk_callV (av := [.inl ((α 3 p) / 64), .inl (α 3 ((p : Int) + 1).toNat), .inl ((α 3 p) % 64)]) (st := []) (d' := (1, 20)) (kc' := 0) (ks' := 0) zbC_149 dC_readAct_45 rfl (by decide) rfl rfl (Nat.le_of_ble_eq_true rfl) ⟨by decide, by decide⟩ rfl rfl (kA_append G sw σ α t hs10 h10) (fun v9 h9 q9 => ?_)
          obtain ⟨rfl, rfl⟩ := q9
          refine zk_W.to (ls' := [some (.inr (some 1)), some (.inl (p : Int)), some (.inl ((α 3 p) / 64)), some (.inl ((α 3 p) % 64)), none]) (st' := []) (h' := (zk_mk G sw (zk_up σ 10 (σ 10 + 1)) (zc_P σ α ((α 3 p) / 64) (α 3 ((p : Int) + 1).toNat) ((α 3 p) % 64)) t)) rfl rfl rfl ?_
          refine zk_iload_n dC_readAct_48 rfl ?_
          refine zk_iconst dC_readAct_49 ?_
          refine zk_iadd dC_readAct_50 ?_
          refine zk_iret dC_readAct_51 rfl (Or.inl ⟨h26, ?_, rfl⟩)
          rw [show ((p : Int) + 1).toNat = p + 1 by omega]
        · skip
          exact absurd (⟨by omega, by omega⟩ : 0 ≤ (p : Int) + 1 ∧ (p : Int) + 1 < σ 3) hg41
    · skip
      exact absurd (⟨by omega, by omega⟩ : 0 ≤ (p : Int) ∧ (p : Int) < σ 3) hg17
  · skip
    exact absurd (⟨by omega, by omega⟩ : 0 ≤ (p : Int) ∧ (p : Int) < σ 3) hg5

/-- the acts below m are those of the code F -/
def mt_rd (F K P C : Nat → Int) (lb : Nat → Nat → Int) (m : Nat) : Prop := ∀ k, k < m → K k = F (mt_rp F k) / 64 ∧ C k = F (mt_rp F k) % 64 ∧ (K k ≠ 2 → P k = F (mt_rp F k + 1)) ∧ (K k = 2 → ∀ j : Nat, (j : Int) < C k → lb k j = F (mt_rp F k + 1 + j))
theorem mt_rd_up {F K P C K' P' C' : Nat → Int} {lb lb' : Nat → Nat → Int} {m : Nat} (h : mt_rd F K P C lb m) (hk : ∀ k, k < m → K' k = K k ∧ P' k = P k ∧ C' k = C k ∧ (K k = 2 → ∀ j : Nat, (j : Int) < C k → lb' k j = lb k j)) (h1 : K' m = F (mt_rp F m) / 64) (h2 : C' m = F (mt_rp F m) % 64) (h3 : K' m ≠ 2 → P' m = F (mt_rp F m + 1)) (h4 : K' m = 2 → ∀ j : Nat, (j : Int) < C' m → lb' m j = F (mt_rp F m + 1 + j)) : mt_rd F K' P' C' lb' (m + 1) := by
  intro k hkm
  by_cases e : k = m
  · subst e
    exact ⟨h1, h2, h3, h4⟩
  · obtain ⟨a1, a2, a3, a4⟩ := hk k (by omega)
    obtain ⟨b1, b2, b3, b4⟩ := h k (by omega)
    refine ⟨by rw [a1]; exact b1, by rw [a3]; exact b2, fun z => ?_, fun z j hj => ?_⟩
    · rw [a2]; exact b3 (by rw [← a1]; exact z)
    · rw [a4 (by rw [← a1]; exact z) j (by rw [← a3]; exact hj)]
      exact b4 (by rw [← a1]; exact z) j (by rw [← a3]; exact hj)
/-- while CODE is read: m acts are -/
def zc_rd (σ σ' : Nat → Int) (α α' : Nat → Nat → Int) (m : Nat) : Prop := zc_I σ' α' ∧ zc_E σ σ' α α' ∧ σ' 10 = (m : Int) ∧ σ' 11 = α 3 0 * 256 + α 3 1 ∧ mt_rd (α 3) (α' 5) (α' 6) (α' 7) (zc_lb α') m
theorem zc_rd_P {σ σ' : Nat → Int} {α α' : Nat → Nat → Int} {m : Nat} {n : Int} (h : zc_rd σ σ' α α' m) (hm : (m : Int) < 100) (hv : ∀ j, 0 ≤ α 3 j ∧ α 3 j ≤ 255) (hg : mt_gd (α 3) n m) (h2 : α 3 (mt_rp (α 3) m) / 64 ≠ 2) : zc_rd σ (zk_up σ' 10 (σ' 10 + 1)) α (zc_P σ' α' (α 3 (mt_rp (α 3) m) / 64) (α 3 (mt_rp (α 3) m + 1)) (α 3 (mt_rp (α 3) m) % 64)) (m + 1) := by
  obtain ⟨a1, a2, a3, a4, a5⟩ := h
  have v1 := hv (mt_rp (α 3) m)
  have v2 := hv (mt_rp (α 3) m + 1)
  obtain ⟨⟨g1, g2, g3⟩, g4, g5⟩ := hg
  have g6 := g5 h2
  have e10 : (σ' 10).toNat = m := by omega
  refine ⟨zc_I_app a1 (by omega) (by omega) (by omega) (by omega), a2, show σ' 10 + 1 = _ by omega, a4, ?_⟩
  show mt_rd (α 3) (zk_up (α' 5) (σ' 10).toNat _) (zk_up (α' 6) (σ' 10).toNat _) (zk_up (α' 7) (σ' 10).toNat _) (fun k j => α' 4 ((zk_up (α' 8) (σ' 10).toNat (σ' 4) k).toNat + j)) (m + 1)
  rw [e10]
  refine mt_rd_up a5 (fun k hk => ⟨zk_up_ne (by omega), zk_up_ne (by omega), zk_up_ne (by omega), fun _ j _ => ?_⟩) (zk_up_at _ _ _) (zk_up_at _ _ _) (fun _ => zk_up_at _ _ _) (fun z => ?_)
  · show α' 4 ((zk_up (α' 8) m (σ' 4) k).toNat + j) = _
    rw [zk_up_ne (by omega)]
    rfl
  · rw [zk_up_at] at z
    exact absurd z h2
theorem zc_rd_L {σ σ' : Nat → Int} {α α' : Nat → Nat → Int} {m : Nat} {n : Int} (h : zc_rd σ σ' α α' m) (hm : (m : Int) < 100) (hv : ∀ j, 0 ≤ α 3 j ∧ α 3 j ≤ 255) (hg : mt_gd (α 3) n m) (h2 : α 3 (mt_rp (α 3) m) / 64 = 2) : zc_rd σ (zc_Ls σ' (α 3 (mt_rp (α 3) m) % 64).toNat) α (zc_L σ' α' (α 3 (mt_rp (α 3) m) % 64).toNat (fun j => α 3 (mt_rp (α 3) m + 1 + j))) (m + 1) := by
  obtain ⟨a1, a2, a3, a4, a5⟩ := h
  obtain ⟨⟨g1, g2, g3⟩, g4, g5⟩ := hg
  have e10 : (σ' 10).toNat = m := by omega
  have n4 := a1.1 4 (by decide)
  refine ⟨zc_I_lay a1 (by omega) (by omega) (fun j _ => hv _), a2, show σ' 10 + 1 = _ by omega, a4, ?_⟩
  show mt_rd (α 3) (zk_up (α' 5) (σ' 10).toNat _) (zk_up (α' 6) (σ' 10).toNat _) (zk_up (α' 7) (σ' 10).toNat _) (fun k j => mt_ap (α' 4) (σ' 4).toNat (α 3 (mt_rp (α 3) m) % 64).toNat (fun j => α 3 (mt_rp (α 3) m + 1 + j)) ((zk_up (α' 8) (σ' 10).toNat (σ' 4) k).toNat + j)) (m + 1)
  rw [e10]
  refine mt_rd_up a5 (fun k hk => ⟨zk_up_ne (by omega), zk_up_ne (by omega), zk_up_ne (by omega), fun hk2 j hj => ?_⟩) ?_ ?_ (fun z => ?_) (fun z j hj => ?_)
  · have hz := zc_lay a1 (k := k) (by omega) hk2 (j := (j : Int)) (by omega)
    have hz0 := zc_lay a1 (k := k) (by omega) hk2 (j := 0) (by omega)
    show mt_ap (α' 4) (σ' 4).toNat _ _ ((zk_up (α' 8) m (σ' 4) k).toNat + j) = _
    rw [zk_up_ne (by omega), mt_ap_out (by omega)]
    rfl
  · rw [zk_up_at, h2]
  · rw [zk_up_at]; omega
  · rw [zk_up_at] at z
    exact absurd rfl z
  · show mt_ap (α' 4) (σ' 4).toNat _ _ ((zk_up (α' 8) m (σ' 4) m).toNat + j) = _
    rw [zk_up_at] at hj ⊢
    exact mt_ap_in (by omega)

set_option maxRecDepth 100000 in
set_option maxHeartbeats 4000000 in
theorem wC_read (G : zk_G) (sw : Bool) (σ : Nat → Int) (α : Nat → Nat → Int) (t : zk_H) (hI : zc_I σ α) (h2 : 2 ≤ σ 3) {m0 : Nat} (hm0 : mt_rm (α 3) (σ 3) m0) (hn0' : σ 3 ≤ (mt_rp (α 3) m0 : Int)) : ∀ (k : Nat) (m : Nat) (σ' : Nat → Int) (α' : Nat → Nat → Int), (m ≤ m0) → (m0 < m + k) → (zc_rd σ σ' α α' m) → zk_W G mC_read (5, 107) 0 0 48 [some (.inr (some 1)), some (.inl (-1)), some (.inl ((mt_rp (α 3) m : Nat) : Int)), some (.inl (m : Int))] [] (zk_mk G sw σ' α' t) (fun v h' => ∃ (σ3 : Nat → Int) (α3 : Nat → Nat → Int), zc_rd σ σ3 α α3 m0 ∧ h' = zk_mk G sw σ3 α3 t ∧ v = some (.inl (m0 : Int))) := by
  intro k
  induction k with
  | zero =>
    intro m σ' α' g1 g2 hrd
    exfalso
    omega
  | succ k ih =>
    intro m σ' α' g1 g2 hrd
    have hn0 := hI.1 0 (by decide)
    have hn1 := hI.1 1 (by decide)
    have hn2 := hI.1 2 (by decide)
    have hn3 := hI.1 3 (by decide)
    have hn4 := hI.1 4 (by decide)
    have eN0 : (zr_N 0 : Int) = 40 := rfl
    have eN1 : (zr_N 1 : Int) = 40 := rfl
    have eN2 : (zr_N 2 : Int) = 80 := rfl
    have eN3 : (zr_N 3 : Int) = 4102 := rfl
    have eN4 : (zr_N 4 : Int) = 4000 := rfl
    have hv0 := hI.2.1 0 (by decide)
    have hv1 := hI.2.1 1 (by decide)
    have hv2 := hI.2.1 2 (by decide)
    have hv3 := hI.2.1 3 (by decide)
    have hv4 := hI.2.1 4 (by decide)
    have hc := hI.2.2.1
    have hs10 := hI.2.2.2.1
    have hs11 := hI.2.2.2.2.1
    have ha := hI.2.2.2.2.2.1
    obtain ⟨r1, r2, r3, r4, r5⟩ := id hrd
    have e33 := r2.2.2.2.2.2
    have e3s := r2.1.2.2.2
    have hvp := hv3 (mt_rp (α 3) m)
    have hm100 := hm0.1
    have q3 := r1.1 3 (by decide)
    have hrl := mt_rp_mono (F := α 3) (k := m) (m := m0) g1
    have hnl := mt_rm_le hm0 h2
    refine zk_iload_n dC_read_48 rfl ?_
    refine zk_bipush dC_read_49 (by decide) ?_
    refine zk_icmp_ge (tgt := 77) dC_read_51 (by decide) ⟨by omega, by omega⟩ ⟨by decide, by decide⟩ (fun h51 => ?_) (fun h51 => ?_)
    · skip
      refine zk_aload_n dC_read_77 rfl ?_
      refine zk_get zfC_37 dC_read_78 (v := .inr (some 11)) rfl (by decide) rfl ?_
      refine zk_callV (av := []) (st := []) (d' := (0, 0)) (kc' := 0) (ks' := 0) zbC_113 dC_read_81 rfl (by decide) rfl rfl (Nat.le_of_ble_eq_true rfl) ⟨by decide, by decide⟩ rfl rfl (kA_length G sw σ' α' t) (fun v9 h9 q9 => ?_)
      obtain ⟨rfl, rfl⟩ := q9
      refine zk_W.to (ls' := [some (.inr (some 1)), some (.inl (-1)), some (.inl ((mt_rp (α 3) m : Nat) : Int)), some (.inl (m : Int))]) (st' := [.inl (σ' 10)]) (h' := (zk_mk G sw σ' α' t)) rfl rfl rfl ?_
      have em : m = m0 := by
        refine Classical.byContradiction fun hc2 => ?_
        have := (hm0.2 m (by omega)).1
        omega
      subst em
      exact zk_iret dC_read_84 rfl ⟨σ', α', hrd, rfl, by rw [r3]⟩
    · skip
      refine zk_iload_n dC_read_54 rfl ?_
      refine zk_aload_n dC_read_55 rfl ?_
      refine zk_get zfC_24 dC_read_56 (v := .inr (some 8)) rfl (by decide) rfl ?_
      refine zk_callV (av := []) (st := [.inl ((mt_rp (α 3) m : Nat) : Int)]) (d' := (0, 0)) (kc' := 0) (ks' := 0) zbC_50 dC_read_59 rfl (by decide) rfl rfl (Nat.le_of_ble_eq_true rfl) ⟨by decide, by decide⟩ rfl rfl (kR_length G sw σ' α' t (q := 3) (by decide)) (fun v9 h9 q9 => ?_)
      obtain ⟨rfl, rfl⟩ := q9
      refine zk_W.to (ls' := [some (.inr (some 1)), some (.inl (-1)), some (.inl ((mt_rp (α 3) m : Nat) : Int)), some (.inl (m : Int))]) (st' := [.inl (σ' 3), .inl ((mt_rp (α 3) m : Nat) : Int)]) (h' := (zk_mk G sw σ' α' t)) rfl rfl rfl ?_
      refine zk_icmp_ge (tgt := 77) dC_read_62 (by decide) ⟨by omega, by omega⟩ ⟨by omega, by omega⟩ (fun h62 => ?_) (fun h62 => ?_)
      · skip
        refine zk_aload_n dC_read_77 rfl ?_
        refine zk_get zfC_37 dC_read_78 (v := .inr (some 11)) rfl (by decide) rfl ?_
        refine zk_callV (av := []) (st := []) (d' := (0, 0)) (kc' := 0) (ks' := 0) zbC_113 dC_read_81 rfl (by decide) rfl rfl (Nat.le_of_ble_eq_true rfl) ⟨by decide, by decide⟩ rfl rfl (kA_length G sw σ' α' t) (fun v9 h9 q9 => ?_)
        obtain ⟨rfl, rfl⟩ := q9
        refine zk_W.to (ls' := [some (.inr (some 1)), some (.inl (-1)), some (.inl ((mt_rp (α 3) m : Nat) : Int)), some (.inl (m : Int))]) (st' := [.inl (σ' 10)]) (h' := (zk_mk G sw σ' α' t)) rfl rfl rfl ?_
        have em : m = m0 := by
          refine Classical.byContradiction fun hc2 => ?_
          have := (hm0.2 m (by omega)).1
          omega
        subst em
        exact zk_iret dC_read_84 rfl ⟨σ', α', hrd, rfl, by rw [r3]⟩
      · skip
        have hlt : m < m0 := by
          refine Classical.byContradiction fun hc2 => ?_
          have em : m = m0 := by omega
          rw [em] at h62
          omega
        have hgm := (hm0.2 m hlt).2
        have key := kC_readAct G sw σ' α' t r1 (by omega) (p := mt_rp (α 3) m)
        rw [e33, e3s] at key
        have key := key (by omega) hgm.1 hgm.2.1 hgm.2.2
        refine zk_aload_n dC_read_65 rfl ?_
        refine zk_iload_n dC_read_66 rfl ?_
        refine zk_callV (av := [.inl ((mt_rp (α 3) m : Nat) : Int)]) (st := []) (d' := (4, 83)) (kc' := 0) (ks' := 0) zbC_184 dC_read_67 rfl (by decide) rfl rfl (Nat.le_of_ble_eq_true rfl) ⟨by decide, by decide⟩ rfl rfl (key) (fun v9 h9 q9 => ?_)
        rcases q9 with ⟨hk2, rfl, rfl⟩ | ⟨hk2, rfl, rfl⟩
        · skip
          refine zk_W.to (ls' := [some (.inr (some 1)), some (.inl (-1)), some (.inl ((mt_rp (α 3) m : Nat) : Int)), some (.inl (m : Int))]) (st' := [.inl (((mt_rp (α 3) m : Nat) : Int) + 2)]) (h' := (zk_mk G sw (zk_up σ' 10 (σ' 10 + 1)) (zc_P σ' α' (α 3 (mt_rp (α 3) m) / 64) (α 3 (mt_rp (α 3) m + 1)) (α 3 (mt_rp (α 3) m) % 64)) t)) rfl rfl rfl ?_
          refine zk_istore_n (ls' := [some (.inr (some 1)), some (.inl (-1)), some (.inl (((mt_rp (α 3) m : Nat) : Int) + 2)), some (.inl (m : Int))]) dC_read_70 (by decide) rfl ?_
          refine zk_iinc (ls' := [some (.inr (some 1)), some (.inl (-1)), some (.inl (((mt_rp (α 3) m : Nat) : Int) + 2)), some (.inl ((m : Int) + 1))]) dC_read_71 rfl (by decide) rfl ?_
          refine zk_goto (tgt := 48) dC_read_74 (by decide) ?_
          have e2 : (m : Int) + 1 = ((m + 1 : Nat) : Int) := by omega
          have e4 : ((mt_rp (α 3) m : Nat) : Int) + 2 = ((mt_rp (α 3) (m + 1) : Nat) : Int) := by
            rw [mt_rp_n2 hk2]
            omega
          rw [e2, e4]
          exact ih (m + 1) _ _ (by omega) (by omega) (zc_rd_P hrd (by omega) hv3 hgm hk2)
        · skip
          refine zk_W.to (ls' := [some (.inr (some 1)), some (.inl (-1)), some (.inl ((mt_rp (α 3) m : Nat) : Int)), some (.inl (m : Int))]) (st' := [.inl (((mt_rp (α 3) m : Nat) : Int) + 1 + α 3 (mt_rp (α 3) m) % 64)]) (h' := (zk_mk G sw (zc_Ls σ' (α 3 (mt_rp (α 3) m) % 64).toNat) (zc_L σ' α' (α 3 (mt_rp (α 3) m) % 64).toNat (fun j => α 3 (mt_rp (α 3) m + 1 + j))) t)) rfl rfl rfl ?_
          refine zk_istore_n (ls' := [some (.inr (some 1)), some (.inl (-1)), some (.inl (((mt_rp (α 3) m : Nat) : Int) + 1 + α 3 (mt_rp (α 3) m) % 64)), some (.inl (m : Int))]) dC_read_70 (by decide) rfl ?_
          refine zk_iinc (ls' := [some (.inr (some 1)), some (.inl (-1)), some (.inl (((mt_rp (α 3) m : Nat) : Int) + 1 + α 3 (mt_rp (α 3) m) % 64)), some (.inl ((m : Int) + 1))]) dC_read_71 rfl (by decide) rfl ?_
          refine zk_goto (tgt := 48) dC_read_74 (by decide) ?_
          have e2 : (m : Int) + 1 = ((m + 1 : Nat) : Int) := by omega
          have e4 : ((mt_rp (α 3) m : Nat) : Int) + 1 + α 3 (mt_rp (α 3) m) % 64 = ((mt_rp (α 3) (m + 1) : Nat) : Int) := by
            rw [mt_rp_y2 hk2]
            omega
          rw [e2, e4]
          exact ih (m + 1) _ _ (by omega) (by omega) (zc_rd_L hrd (by omega) hv3 hgm hk2)

theorem mt_rf_rg {F : Nat → Int} {n r : Int} {N : Nat} (h : mt_rf F n r) (hn : 0 ≤ n ∧ n ≤ (N : Int)) (hN : (N : Int) ≤ 4102) : -1 ≤ r ∧ r ≤ 4102 := by
  rcases h with ⟨h1, h2⟩ | ⟨h1, m, hm, ⟨h2, h3⟩ | ⟨h2, h3, h4⟩ | ⟨h2, h3, ⟨h4, h5⟩ | ⟨h4, h5, h6⟩ | ⟨h4, h5, h6, h7, h8⟩⟩⟩ <;> first | omega
theorem mt_rf_no {F : Nat → Int} {n : Int} (h : mt_rf F n (-1)) (hn : 0 ≤ n) : 2 ≤ n ∧ ∃ m, mt_rm F n m ∧ n ≤ (mt_rp F m : Int) := by
  rcases h with ⟨h1, h2⟩ | ⟨h1, m, hm, ⟨h2, h3⟩ | ⟨h2, h3, h4⟩ | ⟨h2, h3, ⟨h4, h5⟩ | ⟨h4, h5, h6⟩ | ⟨h4, h5, h6, h7, h8⟩⟩⟩
  · omega
  · exact ⟨h1, m, hm, h2⟩
  · omega
  · omega
  · omega
  · omega

set_option maxRecDepth 100000 in
set_option maxHeartbeats 4000000 in
theorem kC_read (G : zk_G) (sw : Bool) (σ : Nat → Int) (α : Nat → Nat → Int) (t : zk_H) (hI : zc_I σ α)  : zk_K G mC_read (5, 107) 0 0 [.inr (some 1)] (zk_mk G sw σ α t) (fun v h' => ∃ r, mt_rf (α 3) (σ 3) r ∧ ((r ≠ -1 ∧ h' = (zk_mk G sw σ α t) ∧ v = some (.inl (-1000 - r))) ∨ (r = -1 ∧ 2 ≤ σ 3 ∧ ∃ (σ3 : Nat → Int) (α3 : Nat → Nat → Int) (m0 : Nat), mt_rm (α 3) (σ 3) m0 ∧ σ 3 ≤ (mt_rp (α 3) m0 : Int) ∧ zc_rd σ σ3 α α3 m0 ∧ h' = zk_mk G sw σ3 α3 t ∧ v = some (.inl (m0 : Int))))) := by
  have hn0 := hI.1 0 (by decide)
  have hn1 := hI.1 1 (by decide)
  have hn2 := hI.1 2 (by decide)
  have hn3 := hI.1 3 (by decide)
  have hn4 := hI.1 4 (by decide)
  have eN0 : (zr_N 0 : Int) = 40 := rfl
  have eN1 : (zr_N 1 : Int) = 40 := rfl
  have eN2 : (zr_N 2 : Int) = 80 := rfl
  have eN3 : (zr_N 3 : Int) = 4102 := rfl
  have eN4 : (zr_N 4 : Int) = 4000 := rfl
  have hv0 := hI.2.1 0 (by decide)
  have hv1 := hI.2.1 1 (by decide)
  have hv2 := hI.2.1 2 (by decide)
  have hv3 := hI.2.1 3 (by decide)
  have hv4 := hI.2.1 4 (by decide)
  have hc := hI.2.2.1
  have hs10 := hI.2.2.2.1
  have hs11 := hI.2.2.2.2.1
  have ha := hI.2.2.2.2.2.1
  refine zk_K.of (ls := [some (.inr (some 1)), none, none, none]) (by decide +kernel) (Nat.le_of_ble_eq_true rfl) rfl ?_
  refine zk_aload_n dC_read_0 rfl ?_
  refine zk_callV (av := []) (st := []) (d' := (2, 42)) (kc' := 0) (ks' := 0) zbC_181 dC_read_1 rfl (by decide) rfl rfl (Nat.le_of_ble_eq_true rfl) ⟨by decide, by decide⟩ rfl rfl (kC_findWrongByte G sw σ α t hI) (fun v9 h9 q9 => ?_)
  obtain ⟨rfl, r, hrf, rfl⟩ := q9
  have hrr := mt_rf_rg hrf hn3 (by omega)
  refine zk_W.to (ls' := [some (.inr (some 1)), none, none, none]) (st' := [.inl r]) (h' := (zk_mk G sw σ α t)) rfl rfl rfl ?_
  refine zk_istore_n (ls' := [some (.inr (some 1)), some (.inl r), none, none]) dC_read_4 (by decide) rfl ?_
  refine zk_iload_n dC_read_5 rfl ?_
  refine zk_iconst dC_read_6 ?_
  refine zk_icmp_eq (tgt := 16) dC_read_7 (by decide) ⟨by omega, by omega⟩ ⟨by decide, by decide⟩ (fun h7 => ?_) (fun h7 => ?_)
  · skip
    subst h7
    obtain ⟨h23, m0, hm0, hm1⟩ := mt_rf_no hrf (by omega)
    have hb0 := hv3 0
    have hb1 := hv3 1
    refine zk_aload_n dC_read_16 rfl ?_
    refine zk_get zfC_37 dC_read_17 (v := .inr (some 11)) rfl (by decide) rfl ?_
    refine zk_aload_n dC_read_20 rfl ?_
    refine zk_get zfC_24 dC_read_21 (v := .inr (some 8)) rfl (by decide) rfl ?_
    refine zk_iconst dC_read_24 ?_
    refine zk_callV (av := [.inl 0]) (st := [.inr (some 11)]) (d' := (1, 21)) (kc' := 0) (ks' := 0) zbC_168 dC_read_25 rfl (by decide) rfl rfl (Nat.le_of_ble_eq_true rfl) ⟨by decide, by decide⟩ rfl rfl (kR_get G sw σ α t (q := 3) (by decide) hn3 ⟨by decide, by decide⟩) (fun v9 h9 q9 => ?_)
    rcases q9 with ⟨rfl, ⟨hg25, rfl⟩ | ⟨hg25, rfl⟩⟩
    · skip
      refine zk_W.to (ls' := [some (.inr (some 1)), some (.inl (-1)), none, none]) (st' := [.inl (α 3 0), .inr (some 11)]) (h' := (zk_mk G sw σ α t)) rfl rfl rfl ?_
      refine zk_sipush dC_read_28 (by decide) ?_
      refine zk_imul dC_read_31 ?_
      refine zk_aload_n dC_read_32 rfl ?_
      refine zk_get zfC_24 dC_read_33 (v := .inr (some 8)) rfl (by decide) rfl ?_
      refine zk_iconst dC_read_36 ?_
      refine zk_callV (av := [.inl 1]) (st := [.inl ((α 3 0) * 256), .inr (some 11)]) (d' := (1, 21)) (kc' := 0) (ks' := 0) zbC_168 dC_read_37 rfl (by decide) rfl rfl (Nat.le_of_ble_eq_true rfl) ⟨by decide, by decide⟩ rfl rfl (kR_get G sw σ α t (q := 3) (by decide) hn3 ⟨by decide, by decide⟩) (fun v9 h9 q9 => ?_)
      rcases q9 with ⟨rfl, ⟨hg37, rfl⟩ | ⟨hg37, rfl⟩⟩
      · skip
        refine zk_W.to (ls' := [some (.inr (some 1)), some (.inl (-1)), none, none]) (st' := [.inl (α 3 1), .inl ((α 3 0) * 256), .inr (some 11)]) (h' := (zk_mk G sw σ α t)) rfl rfl rfl ?_
        refine zk_iadd dC_read_40 ?_
        refine zk_callV (av := [.inl (((α 3 0) * 256) + (α 3 1))]) (st := []) (d' := (1, 20)) (kc' := 0) (ks' := 0) zbC_60 dC_read_41 rfl (by decide) rfl rfl (Nat.le_of_ble_eq_true rfl) ⟨by decide, by decide⟩ rfl rfl (kA_begin G sw σ α t) (fun v9 h9 q9 => ?_)
        obtain ⟨rfl, rfl⟩ := q9
        refine zk_W.to (ls' := [some (.inr (some 1)), some (.inl (-1)), none, none]) (st' := []) (h' := (zk_mk G sw (zk_up (zk_up (zk_up σ 10 0) 4 0) 11 (((α 3 0) * 256) + (α 3 1))) α t)) rfl rfl rfl ?_
        refine zk_iconst dC_read_44 ?_
        refine zk_istore_n (ls' := [some (.inr (some 1)), some (.inl (-1)), some (.inl 2), none]) dC_read_45 (by decide) rfl ?_
        refine zk_iconst dC_read_46 ?_
        refine zk_istore_n (ls' := [some (.inr (some 1)), some (.inl (-1)), some (.inl 2), some (.inl 0)]) dC_read_47 (by decide) rfl ?_
        have key := wC_read G sw σ α t hI h23 hm0 hm1 (m0 + 1) 0 (zk_up (zk_up (zk_up σ 10 0) 4 0) 11 (α 3 0 * 256 + α 3 1)) α (by omega) (by omega) ⟨zc_I_none hI (fun q hq h4 => ?_) rfl rfl ⟨by show 0 ≤ α 3 0 * 256 + α 3 1; omega, by show α 3 0 * 256 + α 3 1 ≤ 65535; omega⟩ (fun q hq => rfl) hI.2.2.2.2.2.2.2.2.1 hI.2.2.2.2.2.2.2.2.2, ⟨⟨rfl, rfl, rfl, rfl⟩, ⟨rfl, rfl, rfl, rfl, rfl⟩, ⟨rfl, rfl, rfl, rfl⟩⟩, rfl, rfl, fun k hk => absurd hk (Nat.not_lt_zero k)⟩
        · refine key.mono (fun v h' hq => ?_)
          obtain ⟨σ3, α3, q1, q3, q4⟩ := hq
          exact ⟨-1, hrf, Or.inr ⟨rfl, h23, σ3, α3, m0, hm0, hm1, q1, q3, q4⟩⟩
        · unfold zk_up
          rw [if_neg (by omega), if_neg h4, if_neg (by omega)]
      · skip
        exact absurd (⟨by omega, by omega⟩ : 0 ≤ (1 : Int) ∧ (1 : Int) < σ 3) hg37
    · skip
      exact absurd (⟨by omega, by omega⟩ : 0 ≤ (0 : Int) ∧ (0 : Int) < σ 3) hg25
  · skip
    refine zk_sipush dC_read_10 (by decide) ?_
    refine zk_iload_n dC_read_13 rfl ?_
    refine zk_isub dC_read_14 ?_
    exact zk_iret dC_read_15 rfl ⟨r, hrf, Or.inl ⟨h7, rfl, rfl⟩⟩
