/-- an act that attains the rest -/
def mt_at (O : Nat → Int) (nO : Nat) (N : Nat → Int) (nN : Nat) (c : Nat → Int) (L : Nat → Nat → Int) (i s k p n : Nat) : Prop := mt_ok O nO N nN i k p n ∧ L i s = mt_c c s k p n + L (i + n) (mt_s s k p n)
/-- among the places below p: nothing found, or the longest, the least place of several -/
def mt_iv (A : Nat → Nat → Prop) (k0 : Int) (p : Nat) (a b c : Int) : Prop :=
  (c = 0 ∧ ∀ p' n', p' < p → ¬ A p' n') ∨ ∃ p0 n0 : Nat, p0 < p ∧ 0 < n0 ∧ a = k0 ∧ b = p0 ∧ c = n0 ∧ A p0 n0 ∧ ∀ p' n', p' < p → A p' n' → n' < n0 ∨ (n' = n0 ∧ p0 ≤ p')
theorem mt_iv_exit {A : Nat → Nat → Prop} {k0 : Int} {p n : Nat} {a b c : Int} (h : mt_iv A k0 p a b c) (hn : ∀ n', n < n' → ¬ A p n') (hc : (n : Int) ≤ c) (h1 : ∀ n', A p n' → 1 ≤ n') : mt_iv A k0 (p + 1) a b c := by
  rcases h with ⟨h2, h3⟩ | ⟨p0, n0, g1, g2, g3, g4, g5, g6, g7⟩
  · refine Or.inl ⟨h2, fun p' n' hp ha => ?_⟩
    by_cases e : p' = p
    · subst e
      have := h1 n' ha
      exact hn n' (by omega) ha
    · exact h3 p' n' (by omega) ha
  · refine Or.inr ⟨p0, n0, by omega, g2, g3, g4, g5, g6, fun p' n' hp ha => ?_⟩
    by_cases e : p' = p
    · subst e
      by_cases hh : n < n'
      · exact absurd ha (hn n' hh)
      · by_cases h8 : n' < n0
        · exact Or.inl h8
        · exact Or.inr ⟨by omega, by omega⟩
    · exact g7 p' n' (by omega) ha
theorem mt_iv_found {A : Nat → Nat → Prop} {k0 : Int} {p n : Nat} {a b c : Int} (h : mt_iv A k0 p a b c) (hn : ∀ n', n < n' → ¬ A p n') (hc : c < (n : Int)) (h0 : 0 ≤ c) (ha : A p n) : mt_iv A k0 (p + 1) k0 p n := by
  refine Or.inr ⟨p, n, by omega, by omega, rfl, rfl, rfl, ha, fun p' n' hp hb => ?_⟩
  by_cases e : p' = p
  · subst e
    by_cases hh : n < n'
    · exact absurd hb (hn n' hh)
    · by_cases h8 : n' < n
      · exact Or.inl h8
      · exact Or.inr ⟨by omega, Nat.le_refl _⟩
  · rcases h with ⟨h2, h3⟩ | ⟨p0, n0, g1, g2, g3, g4, g5, g6, g7⟩
    · exact absurd hb (h3 p' n' (by omega))
    · rcases g7 p' n' (by omega) hb with h8 | ⟨h8, -⟩
      · exact Or.inl (by omega)
      · exact Or.inl (by omega)
/-- what was found stands in the fields kind, place, count -/
def zs_k (σ : Nat → Int) (a b c : Int) : Nat → Int := zk_up (zk_up (zk_up σ 15 a) 16 b) 17 c
theorem zs_k_k (σ : Nat → Int) (a b c a' b' c' : Int) : zk_up (zk_up (zk_up (zs_k σ a b c) 15 a') 16 b') 17 c' = zs_k σ a' b' c' := by
  funext j
  unfold zs_k zk_up
  (repeat' split) <;> first | rfl | (exfalso; omega)
def zs_A (σ : Nat → Int) (α : Nat → Nat → Int) (i s k p n : Nat) : Prop := mt_at (α 0) (σ 0).toNat (α 1) (σ 1).toNat (zs_c σ) (mt_tb (α 9)) i s k p n
/-- the longest LAY, among those longer than n -/
def mt_jl (A : Nat → Prop) (n : Nat) (a b c : Int) : Prop := (c = 0 ∧ ∀ n', n < n' → ¬ A n') ∨ ∃ n0 : Nat, 0 < n0 ∧ n ≤ n0 ∧ a = 2 ∧ b = -1 ∧ c = n0 ∧ A n0 ∧ ∀ n', A n' → n' ≤ n0
theorem zs_A_1 {σ : Nat → Int} {α : Nat → Nat → Int} {i s k p n : Nat} (h : zs_A σ α i s k p n) : 1 ≤ n ∧ i + n ≤ (σ 1).toNat := ⟨h.1.1, h.1.2.1⟩
theorem zs_A_c {σ : Nat → Int} {α : Nat → Nat → Int} {i s p n : Nat} (h : zs_A σ α i s 0 p n) (hp : p < (σ 0).toNat) : n ≤ mt_len (α 0) (α 1) p i (min ((σ 0).toNat - p) ((σ 1).toNat - i)) := by
  obtain ⟨⟨h1, h2, ⟨-, h3, h4⟩ | ⟨h3, -⟩ | ⟨h3, -⟩⟩, -⟩ := h
  · exact mt_le_len (by omega) h4
  · omega
  · omega
theorem zs_A_s {σ : Nat → Int} {α : Nat → Nat → Int} {i s p n : Nat} (h : zs_A σ α i s 1 p n) : n ≤ mt_len (α 1) (α 1) p i ((σ 1).toNat - i) := by
  obtain ⟨⟨h1, h2, ⟨h3, -⟩ | ⟨-, h3, h4⟩ | ⟨h3, -⟩⟩, -⟩ := h
  · omega
  · exact mt_le_len (by omega) h4
  · omega

set_option maxRecDepth 100000 in
set_option maxHeartbeats 4000000 in
theorem kS_keep (G : zk_G) (sw : Bool) (σ : Nat → Int) (α : Nat → Nat → Int) (t : zk_H) {a b c : Int} : zk_K G mS_keep (0, 0) 0 0 [.inr (some 18), .inl a, .inl b, .inl c] (zk_mk G sw σ α t) (fun v h' => v = none ∧ h' = zk_mk G sw (zk_up (zk_up (zk_up σ 15 a) 16 b) 17 c) α t) := by
  refine zk_K.of (ls := [some (.inr (some 18)), some (.inl a), some (.inl b), some (.inl c)]) (by decide +kernel) (Nat.le_of_ble_eq_true rfl) rfl ?_
  refine zk_aload_n dS_keep_0 rfl ?_
  refine zk_iload_n dS_keep_1 rfl ?_
  refine zk_put zfS_114 dS_keep_2 (h' := (zk_mk G sw (zk_up σ 15 a) α t)) rfl (by decide) (Nat.le_of_ble_eq_true rfl) rfl rfl rfl ?_
  refine zk_aload_n dS_keep_5 rfl ?_
  refine zk_iload_n dS_keep_6 rfl ?_
  refine zk_put zfS_117 dS_keep_7 (h' := (zk_mk G sw (zk_up (zk_up σ 15 a) 16 b) α t)) rfl (by decide) (Nat.le_of_ble_eq_true rfl) rfl rfl rfl ?_
  refine zk_aload_n dS_keep_10 rfl ?_
  refine zk_iload_n dS_keep_11 rfl ?_
  refine zk_put zfS_111 dS_keep_12 (h' := (zk_mk G sw (zk_up (zk_up (zk_up σ 15 a) 16 b) 17 c) α t)) rfl (by decide) (Nat.le_of_ble_eq_true rfl) rfl rfl rfl ?_
  exact zk_ret dS_keep_15 rfl ⟨rfl, rfl⟩

set_option maxRecDepth 100000 in
set_option maxHeartbeats 4000000 in
theorem wS_chooseCopy1 (G : zk_G) (sw : Bool) (σ : Nat → Int) (α : Nat → Nat → Int) (t : zk_H) (hn0 : 0 ≤ σ 0 ∧ σ 0 ≤ (zr_N 0 : Int)) (hn1 : 0 ≤ σ 1 ∧ σ 1 ≤ (zr_N 1 : Int)) (hv0 : ∀ j, 0 ≤ α 0 j ∧ α 0 j ≤ 255) (hv1 : ∀ j, 0 ≤ α 1 j ∧ α 1 j ≤ 255) (hc : ∀ j, j < 5 → 0 ≤ zs_c σ j ∧ zs_c σ j ≤ 100) (hT : zs_T σ α) {i s : Nat} (hi : i < (σ 1).toNat) (hs : s ≤ (σ 0).toNat) {p : Nat} (hp : p < (σ 0).toNat) (hk : ∀ (a b c : Int) (x : Int), mt_iv (zs_A σ α i s 0) 0 (p + 1) a b c → (0 ≤ c ∧ c ≤ 40) → zk_W G mS_chooseCopy (2, 46) 0 0 87 [some (.inr (some 18)), some (.inl (i : Int)), some (.inl (s : Int)), some (.inl (mt_tb (α 9) i s)), some (.inl (p : Int)), some (.inl (mt_tb (α 9) i s - (if (p : Int) = (s : Int) then σ 5 else σ 5 + σ 6))), some (.inl x)] [] (zk_mk G sw (zs_k σ a b c) α t) (fun v h' => v = none ∧ ∃ (a b c : Int), mt_iv (zs_A σ α i s 0) 0 (σ 0).toNat a b c ∧ (0 ≤ c ∧ c ≤ 40) ∧ h' = zk_mk G sw (zs_k σ a b c) α t)) : ∀ (n : Nat) (a b c : Int), n ≤ mt_len (α 0) (α 1) p i (min ((σ 0).toNat - p) ((σ 1).toNat - i)) → (((n : Int) ≤ c ∧ mt_iv (zs_A σ α i s 0) 0 (p + 1) a b c) ∨ (mt_iv (zs_A σ α i s 0) 0 p a b c ∧ ∀ n', n < n' → ¬ zs_A σ α i s 0 p n')) → (0 ≤ c ∧ c ≤ 40) → zk_W G mS_chooseCopy (2, 46) 0 0 45 [some (.inr (some 18)), some (.inl (i : Int)), some (.inl (s : Int)), some (.inl (mt_tb (α 9) i s)), some (.inl (p : Int)), some (.inl (mt_tb (α 9) i s - (if (p : Int) = (s : Int) then σ 5 else σ 5 + σ 6))), some (.inl (n : Int))] [] (zk_mk G sw (zs_k σ a b c) α t) (fun v h' => v = none ∧ ∃ (a b c : Int), mt_iv (zs_A σ α i s 0) 0 (σ 0).toNat a b c ∧ (0 ≤ c ∧ c ≤ 40) ∧ h' = zk_mk G sw (zs_k σ a b c) α t) := by
  intro n
  induction n with
  | zero =>
    intro a b c hl hJ hcr
    have eN0 : (zr_N 0 : Int) = 40 := rfl
    have eN1 : (zr_N 1 : Int) = 40 := rfl
    have c0 : 0 ≤ σ 5 ∧ σ 5 ≤ 100 := hc 0 (by decide)
    have c1 : 0 ≤ σ 6 ∧ σ 6 ≤ 100 := hc 1 (by decide)
    have c2 : 0 ≤ σ 7 ∧ σ 7 ≤ 100 := hc 2 (by decide)
    have c3 : 0 ≤ σ 8 ∧ σ 8 ≤ 100 := hc 3 (by decide)
    have c4 : 0 ≤ σ 9 ∧ σ 9 ≤ 100 := hc 4 (by decide)
    have hdue := hT.2 i s (by omega) hs
    refine zk_iload dS_chooseCopy_45 rfl ?_
    refine zk_aload_n dS_chooseCopy_47 rfl ?_
    refine zk_get zfS_111 dS_chooseCopy_48 (v := .inl c) rfl (by decide) rfl ?_
    refine zk_icmp_le (tgt := 87) dS_chooseCopy_51 (by decide) ⟨by omega, by omega⟩ ⟨by omega, by omega⟩ (fun h51 => ?_) (fun h51 => ?_)
    · skip
      refine hk a b c _ ?_ hcr
      rcases hJ with ⟨-, hJ⟩ | ⟨hJ, hJ2⟩
      · exact hJ
      · exact mt_iv_exit hJ hJ2 (by omega) (fun n' hA => (zs_A_1 hA).1)
    · skip
      exfalso; omega
  | succ n ih =>
    intro a b c hl hJ hcr
    have eN0 : (zr_N 0 : Int) = 40 := rfl
    have eN1 : (zr_N 1 : Int) = 40 := rfl
    have c0 : 0 ≤ σ 5 ∧ σ 5 ≤ 100 := hc 0 (by decide)
    have c1 : 0 ≤ σ 6 ∧ σ 6 ≤ 100 := hc 1 (by decide)
    have c2 : 0 ≤ σ 7 ∧ σ 7 ≤ 100 := hc 2 (by decide)
    have c3 : 0 ≤ σ 8 ∧ σ 8 ≤ 100 := hc 3 (by decide)
    have c4 : 0 ≤ σ 9 ∧ σ 9 ≤ 100 := hc 4 (by decide)
    have hdue := hT.2 i s (by omega) hs
    have hln := mt_len_le (α 0) (α 1) (min ((σ 0).toNat - p) ((σ 1).toNat - i)) p i
    have eL : α 9 (((i : Int) + ((n + 1 : Nat) : Int)) * 41 + ((p : Int) + ((n + 1 : Nat) : Int))).toNat = mt_tb (α 9) (i + (n + 1)) (p + (n + 1)) := by
      rw [show (((i : Int) + ((n + 1 : Nat) : Int)) * 41 + ((p : Int) + ((n + 1 : Nat) : Int))).toNat = 41 * (i + (n + 1)) + (p + (n + 1)) by omega]
      rfl
    have hLr := hT.2 (i + (n + 1)) (p + (n + 1)) (by omega) (by omega)
    rw [← eL] at hLr
    have hcp : 0 ≤ (if (p : Int) = (s : Int) then σ 5 else σ 5 + σ 6) ∧ (if (p : Int) = (s : Int) then σ 5 else σ 5 + σ 6) ≤ 200 := by
      split <;> omega
    have hat : zs_A σ α i s 0 p (n + 1) ↔ α 9 (((i : Int) + ((n + 1 : Nat) : Int)) * 41 + ((p : Int) + ((n + 1 : Nat) : Int))).toNat = mt_tb (α 9) i s - (if (p : Int) = (s : Int) then σ 5 else σ 5 + σ 6) := by
      rw [eL]
      have ec : mt_c (zs_c σ) s 0 p (n + 1) = (if (p : Int) = (s : Int) then σ 5 else σ 5 + σ 6) := by
        unfold mt_c
        rw [if_pos rfl]
        by_cases hps : p = s
        · rw [if_pos hps, if_pos (by omega)]; rfl
        · rw [if_neg hps, if_neg (by omega)]; rfl
      constructor
      · intro hA
        have h2 := hA.2
        rw [ec] at h2
        have h3 : mt_s s 0 p (n + 1) = p + (n + 1) := rfl
        rw [h3] at h2
        omega
      · intro h2
        refine ⟨⟨by omega, by omega, Or.inl ⟨rfl, by omega, fun t' ht => mt_len_lt (m := min ((σ 0).toNat - p) ((σ 1).toNat - i)) (by omega)⟩⟩, ?_⟩
        rw [ec]
        have h3 : mt_s s 0 p (n + 1) = p + (n + 1) := rfl
        rw [h3]
        omega
    refine zk_iload dS_chooseCopy_45 rfl ?_
    refine zk_aload_n dS_chooseCopy_47 rfl ?_
    refine zk_get zfS_111 dS_chooseCopy_48 (v := .inl c) rfl (by decide) rfl ?_
    refine zk_icmp_le (tgt := 87) dS_chooseCopy_51 (by decide) ⟨by omega, by omega⟩ ⟨by omega, by omega⟩ (fun h51 => ?_) (fun h51 => ?_)
    · skip
      refine hk a b c _ ?_ hcr
      rcases hJ with ⟨-, hJ⟩ | ⟨hJ, hJ2⟩
      · exact hJ
      · exact mt_iv_exit hJ hJ2 (by omega) (fun n' hA => (zs_A_1 hA).1)
    · skip
      refine zk_aload_n dS_chooseCopy_54 rfl ?_
      refine zk_iload_n dS_chooseCopy_55 rfl ?_
      refine zk_iload dS_chooseCopy_56 rfl ?_
      refine zk_iadd dS_chooseCopy_58 ?_
      refine zk_iload dS_chooseCopy_59 rfl ?_
      refine zk_iload dS_chooseCopy_61 rfl ?_
      refine zk_iadd dS_chooseCopy_63 ?_
      refine zk_callV (av := [.inl ((i : Int) + ((n + 1 : Nat) : Int)), .inl ((p : Int) + ((n + 1 : Nat) : Int))]) (st := []) (d' := (0, 0)) (kc' := 0) (ks' := 0) zbS_66 dS_chooseCopy_64 rfl (by decide) rfl rfl (Nat.le_of_ble_eq_true rfl) ⟨by decide, by decide⟩ rfl rfl (kS_leastFrom G sw (zs_k σ a b c) α t ⟨by omega, by omega⟩ ⟨by omega, by omega⟩) (fun v9 h9 q9 => ?_)
      obtain ⟨rfl, rfl⟩ := q9
      refine zk_W.to (ls' := [some (.inr (some 18)), some (.inl (i : Int)), some (.inl (s : Int)), some (.inl (mt_tb (α 9) i s)), some (.inl (p : Int)), some (.inl (mt_tb (α 9) i s - (if (p : Int) = (s : Int) then σ 5 else σ 5 + σ 6))), some (.inl ((n + 1 : Nat) : Int))]) (st' := [.inl (α 9 (((i : Int) + ((n + 1 : Nat) : Int)) * 41 + ((p : Int) + ((n + 1 : Nat) : Int))).toNat)]) (h' := (zk_mk G sw (zs_k σ a b c) α t)) rfl rfl rfl ?_
      refine zk_iload dS_chooseCopy_67 rfl ?_
      refine zk_icmp_ne (tgt := 81) dS_chooseCopy_69 (by decide) ⟨by omega, by omega⟩ ⟨by omega, by omega⟩ (fun h69 => ?_) (fun h69 => ?_)
      · skip
        refine zk_iinc (ls' := [some (.inr (some 18)), some (.inl (i : Int)), some (.inl (s : Int)), some (.inl (mt_tb (α 9) i s)), some (.inl (p : Int)), some (.inl (mt_tb (α 9) i s - (if (p : Int) = (s : Int) then σ 5 else σ 5 + σ 6))), some (.inl (((n + 1 : Nat) : Int) + (-1)))]) dS_chooseCopy_81 rfl (by decide) rfl ?_
        refine zk_goto (tgt := 45) dS_chooseCopy_84 (by decide) ?_
        have e2 : ((n + 1 : Nat) : Int) + (-1) = (n : Int) := by omega
        rw [e2]
        refine ih a b c (by omega) (Or.inr ?_) hcr
        rcases hJ with ⟨hJ, -⟩ | ⟨hJ, hJ2⟩
        · exfalso; omega
        · refine ⟨hJ, fun n' hn' hA => ?_⟩
          by_cases en : n' = n + 1
          · subst en; exact h69 (hat.mp hA)
          · exact hJ2 n' (by omega) hA
      · skip
        refine zk_aload_n dS_chooseCopy_72 rfl ?_
        refine zk_iconst dS_chooseCopy_73 ?_
        refine zk_iload dS_chooseCopy_74 rfl ?_
        refine zk_iload dS_chooseCopy_76 rfl ?_
        refine zk_callV (av := [.inl 0, .inl (p : Int), .inl ((n + 1 : Nat) : Int)]) (st := []) (d' := (0, 0)) (kc' := 0) (ks' := 0) zbS_138 dS_chooseCopy_78 rfl (by decide) rfl rfl (Nat.le_of_ble_eq_true rfl) ⟨by decide, by decide⟩ rfl rfl (kS_keep G sw (zs_k σ a b c) α t) (fun v9 h9 q9 => ?_)
        obtain ⟨rfl, rfl⟩ := q9
        refine zk_W.to (ls' := [some (.inr (some 18)), some (.inl (i : Int)), some (.inl (s : Int)), some (.inl (mt_tb (α 9) i s)), some (.inl (p : Int)), some (.inl (mt_tb (α 9) i s - (if (p : Int) = (s : Int) then σ 5 else σ 5 + σ 6))), some (.inl ((n + 1 : Nat) : Int))]) (st' := []) (h' := (zk_mk G sw (zk_up (zk_up (zk_up (zs_k σ a b c) 15 0) 16 (p : Int)) 17 ((n + 1 : Nat) : Int)) α t)) rfl rfl rfl ?_
        refine zk_iinc (ls' := [some (.inr (some 18)), some (.inl (i : Int)), some (.inl (s : Int)), some (.inl (mt_tb (α 9) i s)), some (.inl (p : Int)), some (.inl (mt_tb (α 9) i s - (if (p : Int) = (s : Int) then σ 5 else σ 5 + σ 6))), some (.inl (((n + 1 : Nat) : Int) + (-1)))]) dS_chooseCopy_81 rfl (by decide) rfl ?_
        refine zk_goto (tgt := 45) dS_chooseCopy_84 (by decide) ?_
        have e2 : ((n + 1 : Nat) : Int) + (-1) = (n : Int) := by omega
        rw [e2]
        rw [zs_k_k]
        refine ih _ _ _ (by omega) (Or.inl ⟨by omega, ?_⟩) (by omega)
        rcases hJ with ⟨hJ, -⟩ | ⟨hJ, hJ2⟩
        · exfalso; omega
        · exact mt_iv_found (n := n + 1) hJ hJ2 (by omega) (by omega) (hat.mpr h69)

set_option maxRecDepth 100000 in
set_option maxHeartbeats 4000000 in
theorem wS_chooseCopy (G : zk_G) (sw : Bool) (σ : Nat → Int) (α : Nat → Nat → Int) (t : zk_H) (hn0 : 0 ≤ σ 0 ∧ σ 0 ≤ (zr_N 0 : Int)) (hn1 : 0 ≤ σ 1 ∧ σ 1 ≤ (zr_N 1 : Int)) (hv0 : ∀ j, 0 ≤ α 0 j ∧ α 0 j ≤ 255) (hv1 : ∀ j, 0 ≤ α 1 j ∧ α 1 j ≤ 255) (hc : ∀ j, j < 5 → 0 ≤ zs_c σ j ∧ zs_c σ j ≤ 100) (hT : zs_T σ α) {i s : Nat} (hi : i < (σ 1).toNat) (hs : s ≤ (σ 0).toNat) : ∀ (k : Nat) (p : Nat) (a b c : Int), (p ≤ (σ 0).toNat) → ((σ 0).toNat < p + k) → (mt_iv (zs_A σ α i s 0) 0 p a b c) → ((0 ≤ c ∧ c ≤ 40)) → zk_W G mS_chooseCopy (2, 46) 0 0 3 [some (.inr (some 18)), some (.inl (i : Int)), some (.inl (s : Int)), some (.inl (mt_tb (α 9) i s)), some (.inl (p : Int)), none, none] [] (zk_mk G sw (zs_k σ a b c) α t) (fun v h' => v = none ∧ ∃ (a b c : Int), mt_iv (zs_A σ α i s 0) 0 (σ 0).toNat a b c ∧ (0 ≤ c ∧ c ≤ 40) ∧ h' = zk_mk G sw (zs_k σ a b c) α t) := by
  intro k
  induction k with
  | zero =>
    intro p a b c g1 g2 hm hcr
    exfalso
    omega
  | succ k ih =>
    intro p a b c g1 g2 hm hcr
    have eN0 : (zr_N 0 : Int) = 40 := rfl
    have eN1 : (zr_N 1 : Int) = 40 := rfl
    have c0 : 0 ≤ σ 5 ∧ σ 5 ≤ 100 := hc 0 (by decide)
    have c1 : 0 ≤ σ 6 ∧ σ 6 ≤ 100 := hc 1 (by decide)
    have c2 : 0 ≤ σ 7 ∧ σ 7 ≤ 100 := hc 2 (by decide)
    have c3 : 0 ≤ σ 8 ∧ σ 8 ≤ 100 := hc 3 (by decide)
    have c4 : 0 ≤ σ 9 ∧ σ 9 ≤ 100 := hc 4 (by decide)
    have hdue := hT.2 i s (by omega) hs
    refine zk_iload dS_chooseCopy_3 rfl ?_
    refine zk_aload_n dS_chooseCopy_5 rfl ?_
    refine zk_get zfS_21 dS_chooseCopy_6 (v := .inr (some 2)) rfl (by decide) rfl ?_
    refine zk_callV (av := []) (st := [.inl (p : Int)]) (d' := (0, 0)) (kc' := 0) (ks' := 0) zbS_37 dS_chooseCopy_9 rfl (by decide) rfl rfl (Nat.le_of_ble_eq_true rfl) ⟨by decide, by decide⟩ rfl rfl (kR_length G sw (zs_k σ a b c) α t (q := 0) (by decide)) (fun v9 h9 q9 => ?_)
    obtain ⟨rfl, rfl⟩ := q9
    refine zk_W.to (ls' := [some (.inr (some 18)), some (.inl (i : Int)), some (.inl (s : Int)), some (.inl (mt_tb (α 9) i s)), some (.inl (p : Int)), none, none]) (st' := [.inl (σ 0), .inl (p : Int)]) (h' := (zk_mk G sw (zs_k σ a b c) α t)) rfl rfl rfl ?_
    refine zk_icmp_ge (tgt := 93) dS_chooseCopy_12 (by decide) ⟨by omega, by omega⟩ ⟨by omega, by omega⟩ (fun h12 => ?_) (fun h12 => ?_)
    · skip
      have en : p = (σ 0).toNat := by omega
      subst en
      exact zk_ret dS_chooseCopy_93 rfl ⟨rfl, a, b, c, hm, hcr, rfl⟩
    · skip
      refine zk_iload_n dS_chooseCopy_15 rfl ?_
      refine zk_aload_n dS_chooseCopy_16 rfl ?_
      refine zk_get zfS_28 dS_chooseCopy_17 (v := .inr (some 10)) rfl (by decide) rfl ?_
      refine zk_iload dS_chooseCopy_20 rfl ?_
      refine zk_iload_n dS_chooseCopy_22 rfl ?_
      refine zk_callV (av := [.inl (p : Int), .inl (s : Int)]) (st := [.inl (mt_tb (α 9) i s)]) (d' := (0, 0)) (kc' := 0) (ks' := 0) zbS_135 dS_chooseCopy_23 rfl (by decide) rfl rfl (Nat.le_of_ble_eq_true rfl) ⟨by decide, by decide⟩ rfl rfl (kN_ofCopy G sw (zs_k σ a b c) α t ⟨by omega, by omega⟩ ⟨by omega, by omega⟩) (fun v9 h9 q9 => ?_)
      obtain ⟨rfl, rfl⟩ := q9
      refine zk_W.to (ls' := [some (.inr (some 18)), some (.inl (i : Int)), some (.inl (s : Int)), some (.inl (mt_tb (α 9) i s)), some (.inl (p : Int)), none, none]) (st' := [.inl (if (p : Int) = (s : Int) then σ 5 else σ 5 + σ 6), .inl (mt_tb (α 9) i s)]) (h' := (zk_mk G sw (zs_k σ a b c) α t)) rfl rfl rfl ?_
      refine zk_isub dS_chooseCopy_26 ?_
      refine zk_istore (ls' := [some (.inr (some 18)), some (.inl (i : Int)), some (.inl (s : Int)), some (.inl (mt_tb (α 9) i s)), some (.inl (p : Int)), some (.inl ((mt_tb (α 9) i s) - (if (p : Int) = (s : Int) then σ 5 else σ 5 + σ 6))), none]) dS_chooseCopy_27 (by decide) rfl ?_
      refine zk_aload_n dS_chooseCopy_29 rfl ?_
      refine zk_get zfS_21 dS_chooseCopy_30 (v := .inr (some 2)) rfl (by decide) rfl ?_
      refine zk_iload dS_chooseCopy_33 rfl ?_
      refine zk_aload_n dS_chooseCopy_35 rfl ?_
      refine zk_get zfS_25 dS_chooseCopy_36 (v := .inr (some 4)) rfl (by decide) rfl ?_
      refine zk_iload_n dS_chooseCopy_39 rfl ?_
      refine zk_callV (av := [.inl (p : Int), .inr (some 4), .inl (i : Int)]) (st := []) (d' := (1, 21)) (kc' := 0) (ks' := 0) zbS_88 dS_chooseCopy_40 rfl (by decide) rfl rfl (Nat.le_of_ble_eq_true rfl) ⟨by decide, by decide⟩ rfl rfl (kR_countSame G sw (zs_k σ a b c) α t (q := 0) (by decide) (r := 1) (by decide) hn0 hn1 hv0 hv1 (i := (p : Int)) (j := (i : Int)) ⟨by omega, by omega⟩ ⟨by omega, by omega⟩) (fun v9 h9 q9 => ?_)
      obtain ⟨rfl, rfl⟩ := q9
      refine zk_W.to (ls' := [some (.inr (some 18)), some (.inl (i : Int)), some (.inl (s : Int)), some (.inl (mt_tb (α 9) i s)), some (.inl (p : Int)), some (.inl ((mt_tb (α 9) i s) - (if (p : Int) = (s : Int) then σ 5 else σ 5 + σ 6))), none]) (st' := [.inl (if (0 ≤ (p : Int) ∧ (p : Int) < σ 0) ∧ (0 ≤ (i : Int) ∧ (i : Int) < σ 1) then (mt_len (α 0) (α 1) p i (min (σ 0 - (p : Int)) (σ 1 - (i : Int))).toNat : Int) else 0)]) (h' := (zk_mk G sw (zs_k σ a b c) α t)) rfl rfl rfl ?_
      have ecs40 : (min (σ 0 - (p : Int)) (σ 1 - (i : Int))).toNat = min ((σ 0).toNat - p) ((σ 1).toNat - i) := by omega
      rw [if_pos (⟨⟨by omega, by omega⟩, ⟨by omega, by omega⟩⟩ : (0 ≤ (p : Int) ∧ (p : Int) < σ 0) ∧ (0 ≤ (i : Int) ∧ (i : Int) < σ 1)), ecs40]
      refine zk_istore (ls' := [some (.inr (some 18)), some (.inl (i : Int)), some (.inl (s : Int)), some (.inl (mt_tb (α 9) i s)), some (.inl (p : Int)), some (.inl ((mt_tb (α 9) i s) - (if (p : Int) = (s : Int) then σ 5 else σ 5 + σ 6))), some (.inl ((mt_len (α 0) (α 1) p i (min ((σ 0).toNat - p) ((σ 1).toNat - i)) : Int)))]) dS_chooseCopy_43 (by decide) rfl ?_
      refine wS_chooseCopy1 G sw σ α t hn0 hn1 hv0 hv1 hc hT hi hs (p := p) (by omega) (fun a b c x hm hcr => ?_) (mt_len (α 0) (α 1) p i (min ((σ 0).toNat - p) ((σ 1).toNat - i))) a b c (Nat.le_refl _) (Or.inr ⟨hm, fun n' hn' hA => ?_⟩) hcr
      · skip
        refine zk_iinc (ls' := [some (.inr (some 18)), some (.inl (i : Int)), some (.inl (s : Int)), some (.inl (mt_tb (α 9) i s)), some (.inl ((p : Int) + 1)), some (.inl (mt_tb (α 9) i s - (if (p : Int) = (s : Int) then σ 5 else σ 5 + σ 6))), some (.inl x)]) dS_chooseCopy_87 rfl (by decide) rfl ?_
        refine zk_goto (tgt := 3) dS_chooseCopy_90 (by decide) ?_
        have e2 : (p : Int) + 1 = ((p + 1 : Nat) : Int) := by omega
        rw [e2]
        refine zk_W.drop 5 rfl (zk_W.drop 6 rfl ?_)
        exact ih (p + 1) a b c (by omega) (by omega) hm hcr
      · have := zs_A_c hA (by omega)
        omega

set_option maxRecDepth 100000 in
set_option maxHeartbeats 4000000 in
theorem kS_chooseCopy (G : zk_G) (sw : Bool) (σ : Nat → Int) (α : Nat → Nat → Int) (t : zk_H) (hn0 : 0 ≤ σ 0 ∧ σ 0 ≤ (zr_N 0 : Int)) (hn1 : 0 ≤ σ 1 ∧ σ 1 ≤ (zr_N 1 : Int)) (hv0 : ∀ j, 0 ≤ α 0 j ∧ α 0 j ≤ 255) (hv1 : ∀ j, 0 ≤ α 1 j ∧ α 1 j ≤ 255) (hc : ∀ j, j < 5 → 0 ≤ zs_c σ j ∧ zs_c σ j ≤ 100) (hT : zs_T σ α) {i s : Nat} (hi : i < (σ 1).toNat) (hs : s ≤ (σ 0).toNat) {a b : Int} : zk_K G mS_chooseCopy (2, 46) 0 0 [.inr (some 18), .inl (i : Int), .inl (s : Int), .inl (mt_tb (α 9) i s)] (zk_mk G sw (zs_k σ a b 0) α t) (fun v h' => v = none ∧ ∃ (a b c : Int), mt_iv (zs_A σ α i s 0) 0 (σ 0).toNat a b c ∧ (0 ≤ c ∧ c ≤ 40) ∧ h' = zk_mk G sw (zs_k σ a b c) α t) := by
  refine zk_K.of (ls := [some (.inr (some 18)), some (.inl (i : Int)), some (.inl (s : Int)), some (.inl (mt_tb (α 9) i s)), none, none, none]) (by decide +kernel) (Nat.le_of_ble_eq_true rfl) rfl ?_
  refine zk_iconst dS_chooseCopy_0 ?_
  refine zk_istore (ls' := [some (.inr (some 18)), some (.inl (i : Int)), some (.inl (s : Int)), some (.inl (mt_tb (α 9) i s)), some (.inl 0), none, none]) dS_chooseCopy_1 (by decide) rfl ?_
  exact wS_chooseCopy G sw σ α t hn0 hn1 hv0 hv1 hc hT hi hs ((σ 0).toNat + 1) 0 a b 0 (Nat.zero_le _) (by omega) (Or.inl ⟨rfl, fun p' n' h => absurd h (Nat.not_lt_zero p')⟩) (by omega)

set_option maxRecDepth 100000 in
set_option maxHeartbeats 4000000 in
theorem wS_chooseSelf1 (G : zk_G) (sw : Bool) (σ : Nat → Int) (α : Nat → Nat → Int) (t : zk_H) (hn0 : 0 ≤ σ 0 ∧ σ 0 ≤ (zr_N 0 : Int)) (hn1 : 0 ≤ σ 1 ∧ σ 1 ≤ (zr_N 1 : Int)) (hv0 : ∀ j, 0 ≤ α 0 j ∧ α 0 j ≤ 255) (hv1 : ∀ j, 0 ≤ α 1 j ∧ α 1 j ≤ 255) (hc : ∀ j, j < 5 → 0 ≤ zs_c σ j ∧ zs_c σ j ≤ 100) (hT : zs_T σ α) {i s : Nat} (hi : i < (σ 1).toNat) (hs : s ≤ (σ 0).toNat) {p : Nat} (hp : p < i) (hk : ∀ (a b c : Int) (x : Int), mt_iv (zs_A σ α i s 1) 1 (p + 1) a b c → (0 ≤ c ∧ c ≤ 40) → zk_W G mS_chooseSelf (2, 46) 0 0 74 [some (.inr (some 18)), some (.inl (i : Int)), some (.inl (s : Int)), some (.inl (mt_tb (α 9) i s)), some (.inl (mt_tb (α 9) i s - σ 7)), some (.inl (p : Int)), some (.inl x)] [] (zk_mk G sw (zs_k σ a b c) α t) (fun v h' => v = none ∧ ∃ (a b c : Int), mt_iv (zs_A σ α i s 1) 1 i a b c ∧ (0 ≤ c ∧ c ≤ 40) ∧ h' = zk_mk G sw (zs_k σ a b c) α t)) : ∀ (n : Nat) (a b c : Int), n ≤ mt_len (α 1) (α 1) p i ((σ 1).toNat - i) → (((n : Int) ≤ c ∧ mt_iv (zs_A σ α i s 1) 1 (p + 1) a b c) ∨ (mt_iv (zs_A σ α i s 1) 1 p a b c ∧ ∀ n', n < n' → ¬ zs_A σ α i s 1 p n')) → (0 ≤ c ∧ c ≤ 40) → zk_W G mS_chooseSelf (2, 46) 0 0 36 [some (.inr (some 18)), some (.inl (i : Int)), some (.inl (s : Int)), some (.inl (mt_tb (α 9) i s)), some (.inl (mt_tb (α 9) i s - σ 7)), some (.inl (p : Int)), some (.inl (n : Int))] [] (zk_mk G sw (zs_k σ a b c) α t) (fun v h' => v = none ∧ ∃ (a b c : Int), mt_iv (zs_A σ α i s 1) 1 i a b c ∧ (0 ≤ c ∧ c ≤ 40) ∧ h' = zk_mk G sw (zs_k σ a b c) α t) := by
  intro n
  induction n with
  | zero =>
    intro a b c hl hJ hcr
    have eN0 : (zr_N 0 : Int) = 40 := rfl
    have eN1 : (zr_N 1 : Int) = 40 := rfl
    have c0 : 0 ≤ σ 5 ∧ σ 5 ≤ 100 := hc 0 (by decide)
    have c1 : 0 ≤ σ 6 ∧ σ 6 ≤ 100 := hc 1 (by decide)
    have c2 : 0 ≤ σ 7 ∧ σ 7 ≤ 100 := hc 2 (by decide)
    have c3 : 0 ≤ σ 8 ∧ σ 8 ≤ 100 := hc 3 (by decide)
    have c4 : 0 ≤ σ 9 ∧ σ 9 ≤ 100 := hc 4 (by decide)
    have hdue := hT.2 i s (by omega) hs
    refine zk_iload dS_chooseSelf_36 rfl ?_
    refine zk_aload_n dS_chooseSelf_38 rfl ?_
    refine zk_get zfS_111 dS_chooseSelf_39 (v := .inl c) rfl (by decide) rfl ?_
    refine zk_icmp_le (tgt := 74) dS_chooseSelf_42 (by decide) ⟨by omega, by omega⟩ ⟨by omega, by omega⟩ (fun h42 => ?_) (fun h42 => ?_)
    · skip
      refine hk a b c _ ?_ hcr
      rcases hJ with ⟨-, hJ⟩ | ⟨hJ, hJ2⟩
      · exact hJ
      · exact mt_iv_exit hJ hJ2 (by omega) (fun n' hA => (zs_A_1 hA).1)
    · skip
      exfalso; omega
  | succ n ih =>
    intro a b c hl hJ hcr
    have eN0 : (zr_N 0 : Int) = 40 := rfl
    have eN1 : (zr_N 1 : Int) = 40 := rfl
    have c0 : 0 ≤ σ 5 ∧ σ 5 ≤ 100 := hc 0 (by decide)
    have c1 : 0 ≤ σ 6 ∧ σ 6 ≤ 100 := hc 1 (by decide)
    have c2 : 0 ≤ σ 7 ∧ σ 7 ≤ 100 := hc 2 (by decide)
    have c3 : 0 ≤ σ 8 ∧ σ 8 ≤ 100 := hc 3 (by decide)
    have c4 : 0 ≤ σ 9 ∧ σ 9 ≤ 100 := hc 4 (by decide)
    have hdue := hT.2 i s (by omega) hs
    have hln := mt_len_le (α 1) (α 1) ((σ 1).toNat - i) p i
    have eL : α 9 (((i : Int) + ((n + 1 : Nat) : Int)) * 41 + (s : Int)).toNat = mt_tb (α 9) (i + (n + 1)) s := by
      rw [show (((i : Int) + ((n + 1 : Nat) : Int)) * 41 + (s : Int)).toNat = 41 * (i + (n + 1)) + s by omega]
      rfl
    have hLr := hT.2 (i + (n + 1)) s (by omega) (by omega)
    rw [← eL] at hLr
    have hat : zs_A σ α i s 1 p (n + 1) ↔ α 9 (((i : Int) + ((n + 1 : Nat) : Int)) * 41 + (s : Int)).toNat = mt_tb (α 9) i s - σ 7 := by
      rw [eL]
      have ec : mt_c (zs_c σ) s 1 p (n + 1) = σ 7 := rfl
      have h3 : mt_s s 1 p (n + 1) = s := rfl
      constructor
      · intro hA
        have h2 := hA.2
        rw [ec, h3] at h2
        omega
      · intro h2
        refine ⟨⟨by omega, by omega, Or.inr (Or.inl ⟨rfl, hp, fun t' ht => mt_len_lt (m := (σ 1).toNat - i) (by omega)⟩)⟩, ?_⟩
        rw [ec, h3]
        omega
    refine zk_iload dS_chooseSelf_36 rfl ?_
    refine zk_aload_n dS_chooseSelf_38 rfl ?_
    refine zk_get zfS_111 dS_chooseSelf_39 (v := .inl c) rfl (by decide) rfl ?_
    refine zk_icmp_le (tgt := 74) dS_chooseSelf_42 (by decide) ⟨by omega, by omega⟩ ⟨by omega, by omega⟩ (fun h42 => ?_) (fun h42 => ?_)
    · skip
      refine hk a b c _ ?_ hcr
      rcases hJ with ⟨-, hJ⟩ | ⟨hJ, hJ2⟩
      · exact hJ
      · exact mt_iv_exit hJ hJ2 (by omega) (fun n' hA => (zs_A_1 hA).1)
    · skip
      refine zk_aload_n dS_chooseSelf_45 rfl ?_
      refine zk_iload_n dS_chooseSelf_46 rfl ?_
      refine zk_iload dS_chooseSelf_47 rfl ?_
      refine zk_iadd dS_chooseSelf_49 ?_
      refine zk_iload_n dS_chooseSelf_50 rfl ?_
      refine zk_callV (av := [.inl ((i : Int) + ((n + 1 : Nat) : Int)), .inl (s : Int)]) (st := []) (d' := (0, 0)) (kc' := 0) (ks' := 0) zbS_66 dS_chooseSelf_51 rfl (by decide) rfl rfl (Nat.le_of_ble_eq_true rfl) ⟨by decide, by decide⟩ rfl rfl (kS_leastFrom G sw (zs_k σ a b c) α t ⟨by omega, by omega⟩ ⟨by omega, by omega⟩) (fun v9 h9 q9 => ?_)
      obtain ⟨rfl, rfl⟩ := q9
      refine zk_W.to (ls' := [some (.inr (some 18)), some (.inl (i : Int)), some (.inl (s : Int)), some (.inl (mt_tb (α 9) i s)), some (.inl (mt_tb (α 9) i s - σ 7)), some (.inl (p : Int)), some (.inl ((n + 1 : Nat) : Int))]) (st' := [.inl (α 9 (((i : Int) + ((n + 1 : Nat) : Int)) * 41 + (s : Int)).toNat)]) (h' := (zk_mk G sw (zs_k σ a b c) α t)) rfl rfl rfl ?_
      refine zk_iload dS_chooseSelf_54 rfl ?_
      refine zk_icmp_ne (tgt := 68) dS_chooseSelf_56 (by decide) ⟨by omega, by omega⟩ ⟨by omega, by omega⟩ (fun h56 => ?_) (fun h56 => ?_)
      · skip
        refine zk_iinc (ls' := [some (.inr (some 18)), some (.inl (i : Int)), some (.inl (s : Int)), some (.inl (mt_tb (α 9) i s)), some (.inl (mt_tb (α 9) i s - σ 7)), some (.inl (p : Int)), some (.inl (((n + 1 : Nat) : Int) + (-1)))]) dS_chooseSelf_68 rfl (by decide) rfl ?_
        refine zk_goto (tgt := 36) dS_chooseSelf_71 (by decide) ?_
        have e2 : ((n + 1 : Nat) : Int) + (-1) = (n : Int) := by omega
        rw [e2]
        refine ih a b c (by omega) (Or.inr ?_) hcr
        rcases hJ with ⟨hJ, -⟩ | ⟨hJ, hJ2⟩
        · exfalso; omega
        · refine ⟨hJ, fun n' hn' hA => ?_⟩
          by_cases en : n' = n + 1
          · subst en; exact h56 (hat.mp hA)
          · exact hJ2 n' (by omega) hA
      · skip
        refine zk_aload_n dS_chooseSelf_59 rfl ?_
        refine zk_iconst dS_chooseSelf_60 ?_
        refine zk_iload dS_chooseSelf_61 rfl ?_
        refine zk_iload dS_chooseSelf_63 rfl ?_
        refine zk_callV (av := [.inl 1, .inl (p : Int), .inl ((n + 1 : Nat) : Int)]) (st := []) (d' := (0, 0)) (kc' := 0) (ks' := 0) zbS_138 dS_chooseSelf_65 rfl (by decide) rfl rfl (Nat.le_of_ble_eq_true rfl) ⟨by decide, by decide⟩ rfl rfl (kS_keep G sw (zs_k σ a b c) α t) (fun v9 h9 q9 => ?_)
        obtain ⟨rfl, rfl⟩ := q9
        refine zk_W.to (ls' := [some (.inr (some 18)), some (.inl (i : Int)), some (.inl (s : Int)), some (.inl (mt_tb (α 9) i s)), some (.inl (mt_tb (α 9) i s - σ 7)), some (.inl (p : Int)), some (.inl ((n + 1 : Nat) : Int))]) (st' := []) (h' := (zk_mk G sw (zk_up (zk_up (zk_up (zs_k σ a b c) 15 1) 16 (p : Int)) 17 ((n + 1 : Nat) : Int)) α t)) rfl rfl rfl ?_
        refine zk_iinc (ls' := [some (.inr (some 18)), some (.inl (i : Int)), some (.inl (s : Int)), some (.inl (mt_tb (α 9) i s)), some (.inl (mt_tb (α 9) i s - σ 7)), some (.inl (p : Int)), some (.inl (((n + 1 : Nat) : Int) + (-1)))]) dS_chooseSelf_68 rfl (by decide) rfl ?_
        refine zk_goto (tgt := 36) dS_chooseSelf_71 (by decide) ?_
        have e2 : ((n + 1 : Nat) : Int) + (-1) = (n : Int) := by omega
        rw [e2]
        rw [zs_k_k]
        refine ih _ _ _ (by omega) (Or.inl ⟨by omega, ?_⟩) (by omega)
        rcases hJ with ⟨hJ, -⟩ | ⟨hJ, hJ2⟩
        · exfalso; omega
        · exact mt_iv_found (n := n + 1) hJ hJ2 (by omega) (by omega) (hat.mpr h56)

set_option maxRecDepth 100000 in
set_option maxHeartbeats 4000000 in
theorem wS_chooseSelf (G : zk_G) (sw : Bool) (σ : Nat → Int) (α : Nat → Nat → Int) (t : zk_H) (hn0 : 0 ≤ σ 0 ∧ σ 0 ≤ (zr_N 0 : Int)) (hn1 : 0 ≤ σ 1 ∧ σ 1 ≤ (zr_N 1 : Int)) (hv0 : ∀ j, 0 ≤ α 0 j ∧ α 0 j ≤ 255) (hv1 : ∀ j, 0 ≤ α 1 j ∧ α 1 j ≤ 255) (hc : ∀ j, j < 5 → 0 ≤ zs_c σ j ∧ zs_c σ j ≤ 100) (hT : zs_T σ α) {i s : Nat} (hi : i < (σ 1).toNat) (hs : s ≤ (σ 0).toNat) : ∀ (k : Nat) (p : Nat) (a b c : Int), (p ≤ i) → (i < p + k) → (mt_iv (zs_A σ α i s 1) 1 p a b c) → ((0 ≤ c ∧ c ≤ 40)) → zk_W G mS_chooseSelf (2, 46) 0 0 14 [some (.inr (some 18)), some (.inl (i : Int)), some (.inl (s : Int)), some (.inl (mt_tb (α 9) i s)), some (.inl (mt_tb (α 9) i s - σ 7)), some (.inl (p : Int)), none] [] (zk_mk G sw (zs_k σ a b c) α t) (fun v h' => v = none ∧ ∃ (a b c : Int), mt_iv (zs_A σ α i s 1) 1 i a b c ∧ (0 ≤ c ∧ c ≤ 40) ∧ h' = zk_mk G sw (zs_k σ a b c) α t) := by
  intro k
  induction k with
  | zero =>
    intro p a b c g1 g2 hm hcr
    exfalso
    omega
  | succ k ih =>
    intro p a b c g1 g2 hm hcr
    have eN0 : (zr_N 0 : Int) = 40 := rfl
    have eN1 : (zr_N 1 : Int) = 40 := rfl
    have c0 : 0 ≤ σ 5 ∧ σ 5 ≤ 100 := hc 0 (by decide)
    have c1 : 0 ≤ σ 6 ∧ σ 6 ≤ 100 := hc 1 (by decide)
    have c2 : 0 ≤ σ 7 ∧ σ 7 ≤ 100 := hc 2 (by decide)
    have c3 : 0 ≤ σ 8 ∧ σ 8 ≤ 100 := hc 3 (by decide)
    have c4 : 0 ≤ σ 9 ∧ σ 9 ≤ 100 := hc 4 (by decide)
    have hdue := hT.2 i s (by omega) hs
    refine zk_iload dS_chooseSelf_14 rfl ?_
    refine zk_iload_n dS_chooseSelf_16 rfl ?_
    refine zk_icmp_ge (tgt := 80) dS_chooseSelf_17 (by decide) ⟨by omega, by omega⟩ ⟨by omega, by omega⟩ (fun h17 => ?_) (fun h17 => ?_)
    · skip
      have en : p = i := by omega
      subst en
      exact zk_ret dS_chooseSelf_80 rfl ⟨rfl, a, b, c, hm, hcr, rfl⟩
    · skip
      refine zk_aload_n dS_chooseSelf_20 rfl ?_
      refine zk_get zfS_25 dS_chooseSelf_21 (v := .inr (some 4)) rfl (by decide) rfl ?_
      refine zk_iload dS_chooseSelf_24 rfl ?_
      refine zk_aload_n dS_chooseSelf_26 rfl ?_
      refine zk_get zfS_25 dS_chooseSelf_27 (v := .inr (some 4)) rfl (by decide) rfl ?_
      refine zk_iload_n dS_chooseSelf_30 rfl ?_
      refine zk_callV (av := [.inl (p : Int), .inr (some 4), .inl (i : Int)]) (st := []) (d' := (1, 21)) (kc' := 0) (ks' := 0) zbS_88 dS_chooseSelf_31 rfl (by decide) rfl rfl (Nat.le_of_ble_eq_true rfl) ⟨by decide, by decide⟩ rfl rfl (kR_countSame G sw (zs_k σ a b c) α t (q := 1) (by decide) (r := 1) (by decide) hn1 hn1 hv1 hv1 (i := (p : Int)) (j := (i : Int)) ⟨by omega, by omega⟩ ⟨by omega, by omega⟩) (fun v9 h9 q9 => ?_)
      obtain ⟨rfl, rfl⟩ := q9
      refine zk_W.to (ls' := [some (.inr (some 18)), some (.inl (i : Int)), some (.inl (s : Int)), some (.inl (mt_tb (α 9) i s)), some (.inl (mt_tb (α 9) i s - σ 7)), some (.inl (p : Int)), none]) (st' := [.inl (if (0 ≤ (p : Int) ∧ (p : Int) < σ 1) ∧ (0 ≤ (i : Int) ∧ (i : Int) < σ 1) then (mt_len (α 1) (α 1) p i (min (σ 1 - (p : Int)) (σ 1 - (i : Int))).toNat : Int) else 0)]) (h' := (zk_mk G sw (zs_k σ a b c) α t)) rfl rfl rfl ?_
      have ecs31 : (min (σ 1 - (p : Int)) (σ 1 - (i : Int))).toNat = (σ 1).toNat - i := by omega
      rw [if_pos (⟨⟨by omega, by omega⟩, ⟨by omega, by omega⟩⟩ : (0 ≤ (p : Int) ∧ (p : Int) < σ 1) ∧ (0 ≤ (i : Int) ∧ (i : Int) < σ 1)), ecs31]
      refine zk_istore (ls' := [some (.inr (some 18)), some (.inl (i : Int)), some (.inl (s : Int)), some (.inl (mt_tb (α 9) i s)), some (.inl (mt_tb (α 9) i s - σ 7)), some (.inl (p : Int)), some (.inl ((mt_len (α 1) (α 1) p i ((σ 1).toNat - i) : Int)))]) dS_chooseSelf_34 (by decide) rfl ?_
      refine wS_chooseSelf1 G sw σ α t hn0 hn1 hv0 hv1 hc hT hi hs (p := p) (by omega) (fun a b c x hm hcr => ?_) (mt_len (α 1) (α 1) p i ((σ 1).toNat - i)) a b c (Nat.le_refl _) (Or.inr ⟨hm, fun n' hn' hA => ?_⟩) hcr
      · skip
        refine zk_iinc (ls' := [some (.inr (some 18)), some (.inl (i : Int)), some (.inl (s : Int)), some (.inl (mt_tb (α 9) i s)), some (.inl (mt_tb (α 9) i s - σ 7)), some (.inl ((p : Int) + 1)), some (.inl x)]) dS_chooseSelf_74 rfl (by decide) rfl ?_
        refine zk_goto (tgt := 14) dS_chooseSelf_77 (by decide) ?_
        have e2 : (p : Int) + 1 = ((p + 1 : Nat) : Int) := by omega
        rw [e2]
        refine zk_W.drop 6 rfl ?_
        exact ih (p + 1) a b c (by omega) (by omega) hm hcr
      · have := zs_A_s hA
        omega

set_option maxRecDepth 100000 in
set_option maxHeartbeats 4000000 in
theorem kS_chooseSelf (G : zk_G) (sw : Bool) (σ : Nat → Int) (α : Nat → Nat → Int) (t : zk_H) (hn0 : 0 ≤ σ 0 ∧ σ 0 ≤ (zr_N 0 : Int)) (hn1 : 0 ≤ σ 1 ∧ σ 1 ≤ (zr_N 1 : Int)) (hv0 : ∀ j, 0 ≤ α 0 j ∧ α 0 j ≤ 255) (hv1 : ∀ j, 0 ≤ α 1 j ∧ α 1 j ≤ 255) (hc : ∀ j, j < 5 → 0 ≤ zs_c σ j ∧ zs_c σ j ≤ 100) (hT : zs_T σ α) {i s : Nat} (hi : i < (σ 1).toNat) (hs : s ≤ (σ 0).toNat) {a b : Int} : zk_K G mS_chooseSelf (2, 46) 0 0 [.inr (some 18), .inl (i : Int), .inl (s : Int), .inl (mt_tb (α 9) i s)] (zk_mk G sw (zs_k σ a b 0) α t) (fun v h' => v = none ∧ ∃ (a b c : Int), mt_iv (zs_A σ α i s 1) 1 i a b c ∧ (0 ≤ c ∧ c ≤ 40) ∧ h' = zk_mk G sw (zs_k σ a b c) α t) := by
  refine zk_K.of (ls := [some (.inr (some 18)), some (.inl (i : Int)), some (.inl (s : Int)), some (.inl (mt_tb (α 9) i s)), none, none, none]) (by decide +kernel) (Nat.le_of_ble_eq_true rfl) rfl ?_
  refine zk_iload_n dS_chooseSelf_0 rfl ?_
  refine zk_aload_n dS_chooseSelf_1 rfl ?_
  refine zk_get zfS_28 dS_chooseSelf_2 (v := .inr (some 10)) rfl (by decide) rfl ?_
  refine zk_callV (av := []) (st := [.inl (mt_tb (α 9) i s)]) (d' := (0, 0)) (kc' := 0) (ks' := 0) zbS_141 dS_chooseSelf_5 rfl (by decide) rfl rfl (Nat.le_of_ble_eq_true rfl) ⟨by decide, by decide⟩ rfl rfl (kN_ofSelf G sw (zs_k σ a b 0) α t) (fun v9 h9 q9 => ?_)
  obtain ⟨rfl, rfl⟩ := q9
  refine zk_W.to (ls' := [some (.inr (some 18)), some (.inl (i : Int)), some (.inl (s : Int)), some (.inl (mt_tb (α 9) i s)), none, none, none]) (st' := [.inl (σ 7), .inl (mt_tb (α 9) i s)]) (h' := (zk_mk G sw (zs_k σ a b 0) α t)) rfl rfl rfl ?_
  refine zk_isub dS_chooseSelf_8 ?_
  refine zk_istore (ls' := [some (.inr (some 18)), some (.inl (i : Int)), some (.inl (s : Int)), some (.inl (mt_tb (α 9) i s)), some (.inl ((mt_tb (α 9) i s) - (σ 7))), none, none]) dS_chooseSelf_9 (by decide) rfl ?_
  refine zk_iconst dS_chooseSelf_11 ?_
  refine zk_istore (ls' := [some (.inr (some 18)), some (.inl (i : Int)), some (.inl (s : Int)), some (.inl (mt_tb (α 9) i s)), some (.inl ((mt_tb (α 9) i s) - (σ 7))), some (.inl 0), none]) dS_chooseSelf_12 (by decide) rfl ?_
  exact wS_chooseSelf G sw σ α t hn0 hn1 hv0 hv1 hc hT hi hs (i + 1) 0 a b 0 (Nat.zero_le _) (by omega) (Or.inl ⟨rfl, fun p' n' h => absurd h (Nat.not_lt_zero p')⟩) (by omega)

set_option maxRecDepth 100000 in
set_option maxHeartbeats 4000000 in
theorem wS_chooseLay (G : zk_G) (sw : Bool) (σ : Nat → Int) (α : Nat → Nat → Int) (t : zk_H) (hn0 : 0 ≤ σ 0 ∧ σ 0 ≤ (zr_N 0 : Int)) (hn1 : 0 ≤ σ 1 ∧ σ 1 ≤ (zr_N 1 : Int)) (hv0 : ∀ j, 0 ≤ α 0 j ∧ α 0 j ≤ 255) (hv1 : ∀ j, 0 ≤ α 1 j ∧ α 1 j ≤ 255) (hc : ∀ j, j < 5 → 0 ≤ zs_c σ j ∧ zs_c σ j ≤ 100) (hT : zs_T σ α) {i s : Nat} (hi : i < (σ 1).toNat) (hs : s ≤ (σ 0).toNat) : ∀ (n : Nat) (a b c : Int), n ≤ (σ 1).toNat - i → mt_jl (zs_A σ α i s 2 0) n a b c → (0 ≤ c ∧ c ≤ 40) → zk_W G mS_chooseLay (1, 23) 0 0 11 [some (.inr (some 18)), some (.inl (i : Int)), some (.inl (s : Int)), some (.inl (mt_tb (α 9) i s)), some (.inl (n : Int))] [] (zk_mk G sw (zs_k σ a b c) α t) (fun v h' => v = none ∧ ∃ (a b c : Int), mt_jl (zs_A σ α i s 2 0) 0 a b c ∧ (0 ≤ c ∧ c ≤ 40) ∧ h' = zk_mk G sw (zs_k σ a b c) α t) := by
  intro n
  induction n with
  | zero =>
    intro a b c hl hJ hcr
    have eN0 : (zr_N 0 : Int) = 40 := rfl
    have eN1 : (zr_N 1 : Int) = 40 := rfl
    have c0 : 0 ≤ σ 5 ∧ σ 5 ≤ 100 := hc 0 (by decide)
    have c1 : 0 ≤ σ 6 ∧ σ 6 ≤ 100 := hc 1 (by decide)
    have c2 : 0 ≤ σ 7 ∧ σ 7 ≤ 100 := hc 2 (by decide)
    have c3 : 0 ≤ σ 8 ∧ σ 8 ≤ 100 := hc 3 (by decide)
    have c4 : 0 ≤ σ 9 ∧ σ 9 ≤ 100 := hc 4 (by decide)
    have hdue := hT.2 i s (by omega) hs
    refine zk_iload dS_chooseLay_11 rfl ?_
    refine zk_aload_n dS_chooseLay_13 rfl ?_
    refine zk_get zfS_111 dS_chooseLay_14 (v := .inl c) rfl (by decide) rfl ?_
    refine zk_icmp_le (tgt := 57) dS_chooseLay_17 (by decide) ⟨by omega, by omega⟩ ⟨by omega, by omega⟩ (fun h17 => ?_) (fun h17 => ?_)
    · skip
      exact zk_ret dS_chooseLay_57 rfl ⟨rfl, a, b, c, hJ, hcr, rfl⟩
    · skip
      exfalso; omega
  | succ n ih =>
    intro a b c hl hJ hcr
    have eN0 : (zr_N 0 : Int) = 40 := rfl
    have eN1 : (zr_N 1 : Int) = 40 := rfl
    have c0 : 0 ≤ σ 5 ∧ σ 5 ≤ 100 := hc 0 (by decide)
    have c1 : 0 ≤ σ 6 ∧ σ 6 ≤ 100 := hc 1 (by decide)
    have c2 : 0 ≤ σ 7 ∧ σ 7 ≤ 100 := hc 2 (by decide)
    have c3 : 0 ≤ σ 8 ∧ σ 8 ≤ 100 := hc 3 (by decide)
    have c4 : 0 ≤ σ 9 ∧ σ 9 ≤ 100 := hc 4 (by decide)
    have hdue := hT.2 i s (by omega) hs
    have eL : α 9 (((i : Int) + ((n + 1 : Nat) : Int)) * 41 + (s : Int)).toNat = mt_tb (α 9) (i + (n + 1)) s := by
      rw [show (((i : Int) + ((n + 1 : Nat) : Int)) * 41 + (s : Int)).toNat = 41 * (i + (n + 1)) + s by omega]
      rfl
    have hLr := hT.2 (i + (n + 1)) s (by omega) (by omega)
    rw [← eL] at hLr
    have hmul : 0 ≤ σ 9 * ((n + 1 : Nat) : Int) ∧ σ 9 * ((n + 1 : Nat) : Int) ≤ 4000 := by
      refine ⟨Int.mul_nonneg c4.1 (by omega), ?_⟩
      have h1 : σ 9 * ((n + 1 : Nat) : Int) ≤ 100 * ((n + 1 : Nat) : Int) := Int.mul_le_mul_of_nonneg_right c4.2 (by omega)
      omega
    have hat : zs_A σ α i s 2 0 (n + 1) ↔ α 9 (((i : Int) + ((n + 1 : Nat) : Int)) * 41 + (s : Int)).toNat = mt_tb (α 9) i s - (σ 8 + σ 9 * ((n + 1 : Nat) : Int)) := by
      rw [eL]
      have ec : mt_c (zs_c σ) s 2 0 (n + 1) = σ 8 + σ 9 * ((n + 1 : Nat) : Int) := rfl
      have h3 : mt_s s 2 0 (n + 1) = s := rfl
      constructor
      · intro hA
        have h2 := hA.2
        rw [ec, h3] at h2
        omega
      · intro h2
        refine ⟨⟨by omega, by omega, Or.inr (Or.inr ⟨rfl, rfl⟩)⟩, ?_⟩
        rw [ec, h3]
        omega
    refine zk_iload dS_chooseLay_11 rfl ?_
    refine zk_aload_n dS_chooseLay_13 rfl ?_
    refine zk_get zfS_111 dS_chooseLay_14 (v := .inl c) rfl (by decide) rfl ?_
    refine zk_icmp_le (tgt := 57) dS_chooseLay_17 (by decide) ⟨by omega, by omega⟩ ⟨by omega, by omega⟩ (fun h17 => ?_) (fun h17 => ?_)
    · skip
      refine zk_ret dS_chooseLay_57 rfl ⟨rfl, a, b, c, ?_, hcr, rfl⟩
      rcases hJ with ⟨hJ, hJ2⟩ | ⟨n0, g1, g2, g3⟩
      · exfalso; omega
      · exact Or.inr ⟨n0, g1, by omega, g3⟩
    · skip
      refine zk_aload_n dS_chooseLay_20 rfl ?_
      refine zk_iload_n dS_chooseLay_21 rfl ?_
      refine zk_iload dS_chooseLay_22 rfl ?_
      refine zk_iadd dS_chooseLay_24 ?_
      refine zk_iload_n dS_chooseLay_25 rfl ?_
      refine zk_callV (av := [.inl ((i : Int) + ((n + 1 : Nat) : Int)), .inl (s : Int)]) (st := []) (d' := (0, 0)) (kc' := 0) (ks' := 0) zbS_66 dS_chooseLay_26 rfl (by decide) rfl rfl (Nat.le_of_ble_eq_true rfl) ⟨by decide, by decide⟩ rfl rfl (kS_leastFrom G sw (zs_k σ a b c) α t ⟨by omega, by omega⟩ ⟨by omega, by omega⟩) (fun v9 h9 q9 => ?_)
      obtain ⟨rfl, rfl⟩ := q9
      refine zk_W.to (ls' := [some (.inr (some 18)), some (.inl (i : Int)), some (.inl (s : Int)), some (.inl (mt_tb (α 9) i s)), some (.inl ((n + 1 : Nat) : Int))]) (st' := [.inl (α 9 (((i : Int) + ((n + 1 : Nat) : Int)) * 41 + (s : Int)).toNat)]) (h' := (zk_mk G sw (zs_k σ a b c) α t)) rfl rfl rfl ?_
      refine zk_iload_n dS_chooseLay_29 rfl ?_
      refine zk_aload_n dS_chooseLay_30 rfl ?_
      refine zk_get zfS_28 dS_chooseLay_31 (v := .inr (some 10)) rfl (by decide) rfl ?_
      refine zk_iload dS_chooseLay_34 rfl ?_
      refine zk_callV (av := [.inl ((n + 1 : Nat) : Int)]) (st := [.inl (mt_tb (α 9) i s), .inl (α 9 (((i : Int) + ((n + 1 : Nat) : Int)) * 41 + (s : Int)).toNat)]) (d' := (0, 0)) (kc' := 0) (ks' := 0) zbS_144 dS_chooseLay_36 rfl (by decide) rfl rfl (Nat.le_of_ble_eq_true rfl) ⟨by decide, by decide⟩ rfl rfl (kN_ofLay G sw (zs_k σ a b c) α t) (fun v9 h9 q9 => ?_)
      obtain ⟨rfl, rfl⟩ := q9
      refine zk_W.to (ls' := [some (.inr (some 18)), some (.inl (i : Int)), some (.inl (s : Int)), some (.inl (mt_tb (α 9) i s)), some (.inl ((n + 1 : Nat) : Int))]) (st' := [.inl (σ 8 + σ 9 * ((n + 1 : Nat) : Int)), .inl (mt_tb (α 9) i s), .inl (α 9 (((i : Int) + ((n + 1 : Nat) : Int)) * 41 + (s : Int)).toNat)]) (h' := (zk_mk G sw (zs_k σ a b c) α t)) rfl rfl rfl ?_
      refine zk_isub dS_chooseLay_39 ?_
      refine zk_icmp_ne (tgt := 51) dS_chooseLay_40 (by decide) ⟨by omega, by omega⟩ ⟨by omega, by omega⟩ (fun h40 => ?_) (fun h40 => ?_)
      · skip
        refine zk_iinc (ls' := [some (.inr (some 18)), some (.inl (i : Int)), some (.inl (s : Int)), some (.inl (mt_tb (α 9) i s)), some (.inl (((n + 1 : Nat) : Int) + (-1)))]) dS_chooseLay_51 rfl (by decide) rfl ?_
        refine zk_goto (tgt := 11) dS_chooseLay_54 (by decide) ?_
        have e2 : ((n + 1 : Nat) : Int) + (-1) = (n : Int) := by omega
        rw [e2]
        refine ih a b c (by omega) ?_ hcr
        rcases hJ with ⟨hJ, hJ2⟩ | ⟨n0, g1, g2, g3, g4, g5, g6⟩
        · refine Or.inl ⟨hJ, fun n' hn' hA => ?_⟩
          by_cases en : n' = n + 1
          · subst en; exact h40 (hat.mp hA)
          · exact hJ2 n' (by omega) hA
        · exfalso; omega
      · skip
        refine zk_aload_n dS_chooseLay_43 rfl ?_
        refine zk_iconst dS_chooseLay_44 ?_
        refine zk_iconst dS_chooseLay_45 ?_
        refine zk_iload dS_chooseLay_46 rfl ?_
        refine zk_callV (av := [.inl 2, .inl (-1), .inl ((n + 1 : Nat) : Int)]) (st := []) (d' := (0, 0)) (kc' := 0) (ks' := 0) zbS_138 dS_chooseLay_48 rfl (by decide) rfl rfl (Nat.le_of_ble_eq_true rfl) ⟨by decide, by decide⟩ rfl rfl (kS_keep G sw (zs_k σ a b c) α t) (fun v9 h9 q9 => ?_)
        obtain ⟨rfl, rfl⟩ := q9
        refine zk_W.to (ls' := [some (.inr (some 18)), some (.inl (i : Int)), some (.inl (s : Int)), some (.inl (mt_tb (α 9) i s)), some (.inl ((n + 1 : Nat) : Int))]) (st' := []) (h' := (zk_mk G sw (zk_up (zk_up (zk_up (zs_k σ a b c) 15 2) 16 (-1)) 17 ((n + 1 : Nat) : Int)) α t)) rfl rfl rfl ?_
        refine zk_iinc (ls' := [some (.inr (some 18)), some (.inl (i : Int)), some (.inl (s : Int)), some (.inl (mt_tb (α 9) i s)), some (.inl (((n + 1 : Nat) : Int) + (-1)))]) dS_chooseLay_51 rfl (by decide) rfl ?_
        refine zk_goto (tgt := 11) dS_chooseLay_54 (by decide) ?_
        have e2 : ((n + 1 : Nat) : Int) + (-1) = (n : Int) := by omega
        rw [e2]
        rw [zs_k_k]
        refine ih _ _ _ (by omega) (Or.inr ⟨n + 1, by omega, by omega, rfl, rfl, rfl, hat.mpr h40, fun n' hA => ?_⟩) (by omega)
        rcases hJ with ⟨hJ, hJ2⟩ | ⟨n0, g1, g2, g3, g4, g5, g6⟩
        · by_cases hh : n + 1 < n'
          · exact absurd hA (hJ2 n' hh)
          · omega
        · exfalso; omega

set_option maxRecDepth 100000 in
set_option maxHeartbeats 4000000 in
theorem kS_chooseLay (G : zk_G) (sw : Bool) (σ : Nat → Int) (α : Nat → Nat → Int) (t : zk_H) (hn0 : 0 ≤ σ 0 ∧ σ 0 ≤ (zr_N 0 : Int)) (hn1 : 0 ≤ σ 1 ∧ σ 1 ≤ (zr_N 1 : Int)) (hv0 : ∀ j, 0 ≤ α 0 j ∧ α 0 j ≤ 255) (hv1 : ∀ j, 0 ≤ α 1 j ∧ α 1 j ≤ 255) (hc : ∀ j, j < 5 → 0 ≤ zs_c σ j ∧ zs_c σ j ≤ 100) (hT : zs_T σ α) {i s : Nat} (hi : i < (σ 1).toNat) (hs : s ≤ (σ 0).toNat) {a b : Int} : zk_K G mS_chooseLay (1, 23) 0 0 [.inr (some 18), .inl (i : Int), .inl (s : Int), .inl (mt_tb (α 9) i s)] (zk_mk G sw (zs_k σ a b 0) α t) (fun v h' => v = none ∧ ∃ (a b c : Int), mt_jl (zs_A σ α i s 2 0) 0 a b c ∧ (0 ≤ c ∧ c ≤ 40) ∧ h' = zk_mk G sw (zs_k σ a b c) α t) := by
  have eN0 : (zr_N 0 : Int) = 40 := rfl
  have eN1 : (zr_N 1 : Int) = 40 := rfl
  refine zk_K.of (ls := [some (.inr (some 18)), some (.inl (i : Int)), some (.inl (s : Int)), some (.inl (mt_tb (α 9) i s)), none]) (by decide +kernel) (Nat.le_of_ble_eq_true rfl) rfl ?_
  refine zk_aload_n dS_chooseLay_0 rfl ?_
  refine zk_get zfS_25 dS_chooseLay_1 (v := .inr (some 4)) rfl (by decide) rfl ?_
  refine zk_callV (av := []) (st := []) (d' := (0, 0)) (kc' := 0) (ks' := 0) zbS_37 dS_chooseLay_4 rfl (by decide) rfl rfl (Nat.le_of_ble_eq_true rfl) ⟨by decide, by decide⟩ rfl rfl (kR_length G sw (zs_k σ a b 0) α t (q := 1) (by decide)) (fun v9 h9 q9 => ?_)
  obtain ⟨rfl, rfl⟩ := q9
  refine zk_W.to (ls' := [some (.inr (some 18)), some (.inl (i : Int)), some (.inl (s : Int)), some (.inl (mt_tb (α 9) i s)), none]) (st' := [.inl (σ 1)]) (h' := (zk_mk G sw (zs_k σ a b 0) α t)) rfl rfl rfl ?_
  refine zk_iload_n dS_chooseLay_7 rfl ?_
  refine zk_isub dS_chooseLay_8 ?_
  refine zk_istore (ls' := [some (.inr (some 18)), some (.inl (i : Int)), some (.inl (s : Int)), some (.inl (mt_tb (α 9) i s)), some (.inl ((σ 1) - (i : Int)))]) dS_chooseLay_9 (by decide) rfl ?_
  have e1 : σ 1 - (i : Int) = (((σ 1).toNat - i : Nat) : Int) := by omega
  rw [e1]
  refine wS_chooseLay G sw σ α t hn0 hn1 hv0 hv1 hc hT hi hs ((σ 1).toNat - i) a b 0 (Nat.le_refl _) (Or.inl ⟨rfl, fun n' hn' hA => ?_⟩) (by omega)
  have := (zs_A_1 hA).2
  omega
