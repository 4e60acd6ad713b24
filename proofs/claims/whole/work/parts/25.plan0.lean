theorem zc_I_congr {σ σ' : Nat → Int} {α : Nat → Nat → Int} (h : ∀ q, q < 13 → σ' q = σ q) (hI : zc_I σ α) : zc_I σ' α := by
  obtain ⟨a1, a2, a3, a4, a5, a6, a7, a8, a9, a10⟩ := hI
  have ec : zs_c σ' = zs_c σ := by
    funext j
    unfold zs_c
    split
    · exact h 5 (by decide)
    · exact h 6 (by decide)
    · exact h 7 (by decide)
    · exact h 8 (by decide)
    · exact h 9 (by decide)
  refine ⟨fun q hq => ?_, a2, ?_, ?_, ?_, a6, ?_, ?_, ?_, ?_⟩
  · rw [h q (by omega)]; exact a1 q hq
  · rw [ec]; exact a3
  · rw [h 10 (by decide)]; exact a4
  · rw [h 11 (by decide)]; exact a5
  · rw [h 10 (by decide)]; exact a7
  · rw [h 10 (by decide), h 4 (by decide)]; exact a8
  · rw [h 12 (by decide)]; exact a9
  · rw [h 12 (by decide)]
    intro h12
    have ht := a10 h12
    unfold zs_T at ht ⊢
    rw [h 0 (by decide), h 1 (by decide), ec]
    exact ht
/-- no acts, any arrays of the search -/
theorem zc_I_none {σ σ' : Nat → Int} {α α' : Nat → Nat → Int} (hI : zc_I σ α) (h : ∀ q, q < 10 → q ≠ 4 → σ' q = σ q) (h4 : σ' 4 = 0) (h10 : σ' 10 = 0) (h11 : 0 ≤ σ' 11 ∧ σ' 11 ≤ 65535) (ha : ∀ q, q < 9 → α' q = α q) (h12 : σ' 12 = 0 ∨ σ' 12 = 1) (hT : σ' 12 = 1 → zs_T σ' α') : zc_I σ' α' := by
  obtain ⟨a1, a2, a3, a4, a5, a6, a7, a8, a9, a10⟩ := hI
  have ec : zs_c σ' = zs_c σ := by
    funext j
    unfold zs_c
    split
    · exact h 5 (by decide) (by decide)
    · exact h 6 (by decide) (by decide)
    · exact h 7 (by decide) (by decide)
    · exact h 8 (by decide) (by decide)
    · exact h 9 (by decide) (by decide)
  refine ⟨fun q hq => ?_, fun q hq => ?_, ?_, ?_, h11, fun q j hq => ?_, fun k hk => ?_, ?_, h12, hT⟩
  · by_cases e : q = 4
    · subst e
      rw [h4]
      exact ⟨Int.le_refl 0, by decide⟩
    · rw [h q (by omega) e]; exact a1 q hq
  · rw [ha q (by omega)]; exact a2 q hq
  · rw [ec]; exact a3
  · rw [h10]; omega
  · rw [ha q hq]; exact a6 q j hq
  · rw [h10] at hk
    exact absurd hk (Nat.not_lt_zero k)
  · rw [h4, h10]; rfl
theorem mt_best_rg {O : Nat → Int} {nO : Nat} {N : Nat → Int} {nN : Nat} {c : Nat → Int} {L : Nat → Nat → Int} {i s x p n : Nat} (h : mt_best O nO N nN c L i s x p n) : 1 ≤ n ∧ i + n ≤ nN ∧ x ≤ 2 ∧ (x = 0 → p + n ≤ nO) ∧ (x = 1 → p < i) ∧ (x = 2 → p = 0) := by
  obtain ⟨⟨x1, x2, ⟨x3, x4, -⟩ | ⟨x3, x4, -⟩ | ⟨x3, x4⟩⟩, -⟩ := h <;> refine ⟨x1, x2, by omega, fun _ => by omega, fun _ => by omega, fun _ => by omega⟩
/-- the plan with one act more -/
theorem zc_pl_step {f : Nat → Int} {σ σ' σ3 : Nat → Int} {α α' α3 : Nat → Nat → Int} {m i s x p n : Nat} {q : Int} (h : zc_pl f σ σ' α α' m) (hm : m < 40) (hi : mt_isum (α' 7) m = (i : Int)) (hs : mt_spot (α' 5) (α' 6) (α' 7) m = (s : Int))
    (hB : mt_best (α 0) (σ 0).toNat (α 1) (σ 1).toNat (zs_c σ) (mt_tb f) i s x p n) (hI : zc_I σ3 α3) (hE : zc_E σ σ3 α α3) (h12 : σ3 12 = 1) (h9 : α3 9 = f) (h11 : σ3 11 = mt_sum (α 0) (σ 0).toNat) (h10 : σ3 10 = (m : Int) + 1) (h13 : σ3 13 = (i : Int) + n) (h14 : σ3 14 = ((mt_s s x p n : Nat) : Int))
    (e5 : α3 5 = zk_up (α' 5) m (x : Int)) (e6 : α3 6 = zk_up (α' 6) m q) (e7 : α3 7 = zk_up (α' 7) m (n : Int)) (hq : x ≠ 2 → q = (p : Int)) (hs0 : s ≤ (σ 0).toNat) (hσ1 : 0 ≤ σ 1 ∧ 0 ≤ σ 0)
    (hb : mt_pb (α 1) (α3 5) (α3 7) (α3 8) (α3 4) (m + 1)) : zc_pl f σ σ3 α α3 (m + 1) := by
  obtain ⟨p1, p2, p3, p4, p5, p6, p7, p8, p9, p10, p11, p12, p13, p14⟩ := h
  have hr := mt_best_rg hB
  have es : mt_isum (α3 7) (m + 1) = (i : Int) + n := by
    rw [e7]
    show mt_isum (zk_up (α' 7) m (n : Int)) m + zk_up (α' 7) m (n : Int) m = _
    rw [zk_up_at, mt_isum_congr (C' := α' 7) (fun k hk => zk_up_ne (by omega)), hi]
  have esp : mt_spot (α3 5) (α3 6) (α3 7) (m + 1) = ((mt_s s x p n : Nat) : Int) := by
    rw [e5, e6, e7]
    show (if zk_up (α' 5) m (x : Int) m = 0 then zk_up (α' 6) m q m + zk_up (α' 7) m (n : Int) m else mt_spot (zk_up (α' 5) m (x : Int)) (zk_up (α' 6) m q) (zk_up (α' 7) m (n : Int)) m) = _
    rw [zk_up_at, zk_up_at, zk_up_at, mt_spot_congr (K' := α' 5) (P' := α' 6) (C' := α' 7) (fun k hk => ⟨zk_up_ne (by omega), fun _ => ⟨zk_up_ne (by omega), zk_up_ne (by omega)⟩⟩), hs]
    unfold mt_s
    by_cases hx : x = 0
    · subst hx
      rw [if_pos rfl, if_pos (show ((0 : Nat) : Int) = 0 from rfl), hq (by decide)]
      omega
    · rw [if_neg (by omega), if_neg hx]
  have hsl := mt_s_le hB.1 hs0
  refine ⟨hI, hE, h12, h9, h11, by rw [h10]; omega, by omega, ?_, ?_, ?_, ?_, ?_, ?_, hb⟩
  · rw [es]
    omega
  · rw [es]
    omega
  · rw [es]; exact h13
  · rw [esp]; exact h14
  · rw [h14]
    omega
  · rw [e5, e6, e7]
    refine mt_pl_up p13 ?_ hq
    rw [hi, hs]
    exact hB
theorem mt_pb_up {N K C F b K' C' F' b' : Nat → Int} {m : Nat} (h : mt_pb N K C F b m) (hk : ∀ k, k < m → K' k = K k ∧ C' k = C k ∧ F' k = F k) (hb : ∀ k, k < m → K k = 2 → ∀ j : Nat, (j : Int) < C k → b' ((F k).toNat + j) = b ((F k).toNat + j)) (hn : K' m = 2 → ∀ j : Nat, (j : Int) < C' m → b' ((F' m).toNat + j) = N ((mt_isum C' m).toNat + j)) : mt_pb N K' C' F' b' (m + 1) := by
  intro k hkm h2 j hj
  by_cases e : k = m
  · subst e
    exact hn h2 j hj
  · obtain ⟨e1, e2, e3⟩ := hk k (by omega)
    rw [e3, hb k (by omega) (by rw [← e1]; exact h2) j (by rw [← e2]; exact hj), mt_isum_congr (C := C') (C' := C) (fun k' hk' => (hk k' (by omega)).2.1)]
    exact h k (by omega) (by rw [← e1]; exact h2) j (by rw [← e2]; exact hj)
