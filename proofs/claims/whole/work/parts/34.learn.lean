/-- the rows from j on are worked out -/
def mt_hi (O : Nat → Int) (nO : Nat) (N : Nat → Int) (nN : Nat) (c f : Nat → Int) (j : Nat) : Prop :=
  (∀ s, s ≤ nO → mt_tb f nN s = 0) ∧ (∀ i s, j ≤ i → i < nN → s ≤ nO → (∀ k p n, mt_ok O nO N nN i k p n → mt_tb f i s ≤ mt_c c s k p n + mt_tb f (i + n) (mt_s s k p n)) ∧ ∃ k p n, mt_ok O nO N nN i k p n ∧ mt_tb f i s = mt_c c s k p n + mt_tb f (i + n) (mt_s s k p n)) ∧
  ∀ i s, j ≤ i → i ≤ nN → s ≤ nO → 0 ≤ mt_tb f i s ∧ mt_tb f i s ≤ 4100
/-- row i, with the acts of D looked at -/
def mt_R (O : Nat → Int) (nO : Nat) (N : Nat → Int) (nN : Nat) (c f : Nat → Int) (i : Nat) (D : Nat → Nat → Nat → Nat → Prop) : Prop :=
  mt_hi O nO N nN c f (i + 1) ∧ (∀ s, s ≤ nO → (0 ≤ mt_tb f i s ∧ mt_tb f i s ≤ 1000000) ∧ (∀ k p n, mt_ok O nO N nN i k p n → D s k p n → mt_tb f i s ≤ mt_c c s k p n + mt_tb f (i + n) (mt_s s k p n)) ∧ (mt_tb f i s = 1000000 ∨ ∃ k p n, mt_ok O nO N nN i k p n ∧ mt_tb f i s = mt_c c s k p n + mt_tb f (i + n) (mt_s s k p n))) ∧
  ∀ i' s, i' < i → s ≤ nO → mt_tb f i' s = 1000000
theorem mt_R_mono {O : Nat → Int} {nO : Nat} {N : Nat → Int} {nN : Nat} {c f : Nat → Int} {i : Nat} {D D' : Nat → Nat → Nat → Nat → Prop} (h : mt_R O nO N nN c f i D) (hd : ∀ s k p n, s ≤ nO → mt_ok O nO N nN i k p n → D' s k p n → D s k p n) : mt_R O nO N nN c f i D' :=
  ⟨h.1, fun s hs => ⟨(h.2.1 s hs).1, fun k p n hk h2 => (h.2.1 s hs).2.1 k p n hk (hd s k p n hs hk h2), (h.2.1 s hs).2.2⟩, h.2.2⟩
theorem mt_tb_up {f : Nat → Int} {i s i' s' : Nat} {x : Int} (hs : s ≤ 40) (hs' : s' ≤ 40) : mt_tb (zk_up f (41 * i + s) x) i' s' = if i' = i ∧ s' = s then x else mt_tb f i' s' := by
  unfold mt_tb zk_up
  by_cases h : i' = i ∧ s' = s
  · rw [if_pos h, if_pos (by rw [h.1, h.2])]
  · rw [if_neg h, if_neg (by omega)]
theorem mt_c_rg {O : Nat → Int} {nO : Nat} {N : Nat → Int} {nN i k p n s : Nat} {c : Nat → Int} (hc : ∀ j, j < 5 → 0 ≤ c j ∧ c j ≤ 100) (hN : nN ≤ 40) (h : mt_ok O nO N nN i k p n) : 0 ≤ mt_c c s k p n ∧ mt_c c s k p n ≤ 4100 := by
  have c0 := hc 0 (by omega)
  have c1 := hc 1 (by omega)
  have c2 := hc 2 (by omega)
  have c3 := hc 3 (by omega)
  have c4 := hc 4 (by omega)
  have h2 := h.2.1
  have hm : 0 ≤ c 4 * (n : Int) ∧ c 4 * (n : Int) ≤ 4000 := by
    refine ⟨Int.mul_nonneg c4.1 (by omega), ?_⟩
    have h1 : c 4 * (n : Int) ≤ 100 * (n : Int) := Int.mul_le_mul_of_nonneg_right c4.2 (by omega)
    omega
  unfold mt_c
  (repeat' split) <;> omega
theorem mt_R_step {O : Nat → Int} {nO : Nat} {N : Nat → Int} {nN : Nat} {c f : Nat → Int} {i s0 k p n : Nat} {D : Nat → Nat → Nat → Nat → Prop} {x : Int} (hO : nO ≤ 40) (hN : nN ≤ 40) (hc : ∀ j, j < 5 → 0 ≤ c j ∧ c j ≤ 100) (h : mt_R O nO N nN c f i D) (hs0 : s0 ≤ nO) (hk : mt_ok O nO N nN i k p n)
    (hx : x = mt_c c s0 k p n + mt_tb f (i + n) (mt_s s0 k p n)) : mt_R O nO N nN c (zk_up f (41 * i + s0) (min x (mt_tb f i s0))) i (fun s k' p' n' => D s k' p' n' ∨ (s = s0 ∧ k' = k ∧ p' = p ∧ n' = n)) := by
  have hn := hk.1
  have hin := hk.2.1
  have keep : ∀ i' s', i' ≠ i → s' ≤ nO → mt_tb (zk_up f (41 * i + s0) (min x (mt_tb f i s0))) i' s' = mt_tb f i' s' := fun i' s' g1 g2 => by
    rw [mt_tb_up (by omega) (by omega), if_neg (fun z => g1 z.1)]
  have same : ∀ s', s' ≤ nO → s' ≠ s0 → mt_tb (zk_up f (41 * i + s0) (min x (mt_tb f i s0))) i s' = mt_tb f i s' := fun s' g1 g2 => by
    rw [mt_tb_up (by omega) (by omega), if_neg (fun z => g2 z.2)]
  have here : mt_tb (zk_up f (41 * i + s0) (min x (mt_tb f i s0))) i s0 = min x (mt_tb f i s0) := by
    rw [mt_tb_up (by omega) (by omega), if_pos ⟨rfl, rfl⟩]
  have nx : ∀ i' s' k' p' n', i ≤ i' → mt_ok O nO N nN i' k' p' n' → s' ≤ nO → mt_tb (zk_up f (41 * i + s0) (min x (mt_tb f i s0))) (i' + n') (mt_s s' k' p' n') = mt_tb f (i' + n') (mt_s s' k' p' n') := fun i' s' k' p' n' g0 g1 g2 =>
    keep _ _ (by have := g1.1; omega) (mt_s_le g1 g2)
  obtain ⟨⟨a1, a2, a3⟩, b, d⟩ := h
  have xr : 0 ≤ x ∧ x ≤ 8200 := by
    have e1 := mt_c_rg (s := s0) hc hN hk
    have e2 := a3 (i + n) (mt_s s0 k p n) (by omega) hin (mt_s_le hk hs0)
    omega
  refine ⟨⟨fun s hs => ?_, fun i' s g1 g2 g3 => ?_, fun i' s g1 g2 g3 => ?_⟩, fun s hs => ?_, fun i' s g1 g2 => ?_⟩
  · rw [keep nN s (by omega) hs]; exact a1 s hs
  · obtain ⟨e1, k', p', n', e2, e3⟩ := a2 i' s g1 g2 g3
    refine ⟨fun k' p' n' e => ?_, k', p', n', e2, ?_⟩
    · rw [nx i' s k' p' n' (by omega) e g3, keep i' s (by omega) g3]; exact e1 k' p' n' e
    · rw [nx i' s k' p' n' (by omega) e2 g3, keep i' s (by omega) g3]; exact e3
  · rw [keep i' s (by omega) g3]; exact a3 i' s g1 g2 g3
  · obtain ⟨b1, b2, b3⟩ := b s hs
    by_cases hss : s = s0
    · subst hss
      rw [here]
      refine ⟨by omega, fun k' p' n' e1 e2 => ?_, ?_⟩
      · rw [nx i s k' p' n' (Nat.le_refl i) e1 hs]
        rcases e2 with e2 | ⟨-, rfl, rfl, rfl⟩
        · have := b2 k' p' n' e1 e2
          omega
        · omega
      · by_cases hm : x ≤ mt_tb f i s
        · exact Or.inr ⟨k, p, n, hk, by rw [nx i s k p n (Nat.le_refl i) hk hs]; omega⟩
        · rcases b3 with b3 | ⟨k', p', n', e1, e2⟩
          · exact Or.inl (by omega)
          · exact Or.inr ⟨k', p', n', e1, by rw [nx i s k' p' n' (Nat.le_refl i) e1 hs]; omega⟩
    · rw [same s hs hss]
      refine ⟨b1, fun k' p' n' e1 e2 => ?_, ?_⟩
      · rw [nx i s k' p' n' (Nat.le_refl i) e1 hs]
        rcases e2 with e2 | ⟨e2, -⟩
        · exact b2 k' p' n' e1 e2
        · exact absurd e2 hss
      · rcases b3 with b3 | ⟨k', p', n', e1, e2⟩
        · exact Or.inl b3
        · exact Or.inr ⟨k', p', n', e1, by rw [nx i s k' p' n' (Nat.le_refl i) e1 hs]; exact e2⟩
  · rw [keep i' s (by omega) g2]; exact d i' s g1 g2
theorem mt_R_0 {O : Nat → Int} {nO : Nat} {N : Nat → Int} {nN : Nat} {c f : Nat → Int} {i : Nat} {D : Nat → Nat → Nat → Nat → Prop} (h : mt_hi O nO N nN c f (i + 1)) (hf : ∀ i' s, i' < i + 1 → s ≤ nO → mt_tb f i' s = 1000000) (hD : ∀ s k p n, mt_ok O nO N nN i k p n → ¬ D s k p n) : mt_R O nO N nN c f i D :=
  ⟨h, fun s hs => ⟨by rw [hf i s (by omega) hs]; omega, fun k p n hk hd => absurd hd (hD s k p n hk), Or.inl (hf i s (by omega) hs)⟩, fun i' s g1 g2 => hf i' s (by omega) g2⟩
theorem mt_R_all {O : Nat → Int} {nO : Nat} {N : Nat → Int} {nN : Nat} {c f : Nat → Int} {i : Nat} {D : Nat → Nat → Nat → Nat → Prop} (hN : nN ≤ 40) (hi : i < nN) (hc : ∀ j, j < 5 → 0 ≤ c j ∧ c j ≤ 100) (h : mt_R O nO N nN c f i D) (hD : ∀ s k p n, s ≤ nO → mt_ok O nO N nN i k p n → D s k p n) : mt_hi O nO N nN c f i := by
  obtain ⟨⟨a1, a2, a3⟩, b, -⟩ := h
  have c3 := hc 3 (by omega)
  have c4 := hc 4 (by omega)
  have up : ∀ s, s ≤ nO → mt_tb f i s ≤ 4100 := by
    intro s hs
    have ok : mt_ok O nO N nN i 2 0 (nN - i) := ⟨by omega, by omega, Or.inr (Or.inr ⟨rfl, rfl⟩)⟩
    have hl := (b s hs).2.1 2 0 (nN - i) ok (hD s 2 0 _ hs ok)
    unfold mt_c mt_s at hl
    rw [if_neg (by decide), if_neg (by decide), if_neg (by decide), show i + (nN - i) = nN by omega, a1 s hs] at hl
    have hm : c 4 * ((nN - i : Nat) : Int) ≤ 100 * 40 := by
      have h1 : c 4 * ((nN - i : Nat) : Int) ≤ 100 * ((nN - i : Nat) : Int) := Int.mul_le_mul_of_nonneg_right c4.2 (by omega)
      omega
    omega
  refine ⟨a1, fun i' s g1 g2 g3 => ?_, fun i' s g1 g2 g3 => ?_⟩
  · by_cases e : i' = i
    · subst e
      obtain ⟨b1, b2, b3⟩ := b s g3
      refine ⟨fun k p n hk => b2 k p n hk (hD s k p n g3 hk), ?_⟩
      rcases b3 with b3 | b3
      · have := up s g3
        omega
      · exact b3
    · exact a2 i' s (by omega) g2 g3
  · by_cases e : i' = i
    · subst e
      exact ⟨(b s g3).1.1, up s g3⟩
    · exact a3 i' s (by omega) g2 g3
/-- which acts have been looked at, in the order of the loops -/
def mt_D (k p n s : Nat) : Nat → Nat → Nat → Nat → Prop := fun s' k' p' n' => k' < k ∨ (k' = k ∧ (p' < p ∨ (p' = p ∧ (n' < n ∨ (n' = n ∧ s' < s)))))
/-- the reference's row -/
def zm_R (τ : Nat → Int) (β : Nat → Nat → Int) (f : Nat → Int) (i : Nat) (D : Nat → Nat → Nat → Nat → Prop) : Prop := mt_R (zm_T β 0) (zm_n β 0) (zm_T β 1) (zm_n β 1) (zm_c τ) f i D
abbrev zm_ok (β : Nat → Nat → Int) (i k p n : Nat) : Prop := mt_ok (zm_T β 0) (zm_n β 0) (zm_T β 1) (zm_n β 1) i k p n

set_option maxRecDepth 100000 in
set_option maxHeartbeats 4000000 in
theorem wM_learn_i0 (G : zk_G) (sw : Bool) (σ : Nat → Int) (α : Nat → Nat → Int) (τ : Nat → Int) (β : Nat → Nat → Int) (t : zk_H) (hI : zm_I τ β) {i : Nat} (hi : i < zm_n β 1) {p n : Nat} (hp : p < zm_n β 0) (hn : 1 ≤ n) (hok : zm_ok β i 0 p n) (hk : ∀ (f : Nat → Int) (x : Int), zm_R τ β f i (mt_D 0 p (n + 1) 0) → zk_W G mM_learn (2, 46) 0 0 172 [some (.inr (some 22)), some (.inl (i : Int)), some (.inl (p : Int)), some (.inl ((mt_len (zm_T β 0) (zm_T β 1) p i (min (zm_n β 0 - p) (zm_n β 1 - i)) : Int))), some (.inl (n : Int)), some (.inl x)] [] (zk_mk G sw σ α (zk_md τ (zk_ua β 8 f) t)) (fun v h' => v = none ∧ ∃ f, mt_hi (zm_T β 0) (zm_n β 0) (zm_T β 1) (zm_n β 1) (zm_c τ) f 0 ∧ h' = zk_mk G sw σ α (zk_md τ (zk_ua β 8 f) t))) : ∀ (k : Nat) (s : Nat) (f : Nat → Int), (s ≤ zm_n β 0 + 1) → (zm_n β 0 + 1 < s + k) → (zm_R τ β f i (mt_D 0 p n s)) → zk_W G mM_learn (2, 46) 0 0 120 [some (.inr (some 22)), some (.inl (i : Int)), some (.inl (p : Int)), some (.inl ((mt_len (zm_T β 0) (zm_T β 1) p i (min (zm_n β 0 - p) (zm_n β 1 - i)) : Int))), some (.inl (n : Int)), some (.inl (s : Int))] [] (zk_mk G sw σ α (zk_md τ (zk_ua β 8 f) t)) (fun v h' => v = none ∧ ∃ f, mt_hi (zm_T β 0) (zm_n β 0) (zm_T β 1) (zm_n β 1) (zm_c τ) f 0 ∧ h' = zk_mk G sw σ α (zk_md τ (zk_ua β 8 f) t)) := by
  intro k
  induction k with
  | zero =>
    intro s f g1 g2 hR
    exfalso
    omega
  | succ k ih =>
    intro s f g1 g2 hR
    have i0 := hI.1
    have i1 := hI.2.1
    have c0 : 0 ≤ τ 0 ∧ τ 0 ≤ 100 := hI.2.2.2 0 (by decide)
    have c1 : 0 ≤ τ 1 ∧ τ 1 ≤ 100 := hI.2.2.2 1 (by decide)
    have c2 : 0 ≤ τ 2 ∧ τ 2 ≤ 100 := hI.2.2.2 2 (by decide)
    have c3 : 0 ≤ τ 3 ∧ τ 3 ≤ 100 := hI.2.2.2 3 (by decide)
    have c4 : 0 ≤ τ 4 ∧ τ 4 ≤ 100 := hI.2.2.2 4 (by decide)
    have eO : zm_n β 0 = (β 1 0).toNat := rfl
    have eN : zm_n β 1 = (β 1 1).toNat := rfl
    have hn2 := hok.2.1
    have hpn : p + n ≤ zm_n β 0 := by
      obtain ⟨-, -, ⟨-, x4, -⟩ | ⟨x3, -⟩ | ⟨x3, -⟩⟩ := hok
      · exact x4
      · omega
      · omega
    have ea : f (41 * ((i : Int) + (n : Int)) + (p : Int) + (n : Int)).toNat = mt_tb f (i + n) (p + n) := by
      rw [show (41 * ((i : Int) + (n : Int)) + (p : Int) + (n : Int)).toNat = 41 * (i + n) + (p + n) by omega]
      rfl
    have fL : s ≤ zm_n β 0 → 0 ≤ f (41 * ((i : Int) + (n : Int)) + (p : Int) + (n : Int)).toNat ∧ f (41 * ((i : Int) + (n : Int)) + (p : Int) + (n : Int)).toNat ≤ 4100 := fun hs => by rw [ea]; exact hR.1.2.2 (i + n) (p + n) (by omega) (by omega) (by omega)
    have fR : s ≤ zm_n β 0 → 0 ≤ f (41 * i + s) ∧ f (41 * i + s) ≤ 1000000 := fun hs => (hR.2.1 s hs).1
    have ec : mt_c (zm_c τ) s 0 p n = (if (p : Int) = (s : Int) then τ 0 else τ 0 + τ 1) := by
      unfold mt_c
      rw [if_pos rfl]
      by_cases hps : p = s
      · rw [if_pos hps, if_pos (by omega)]; rfl
      · rw [if_neg hps, if_neg (by omega)]; rfl
    have er := mt_c_rg (s := s) (c := zm_c τ) hI.2.2.2 (by omega) hok
    rw [ec] at er
    refine zk_iload dM_learn_120 rfl ?_
    refine zk_aload_n dM_learn_122 rfl ?_
    refine zk_get zfM_13 dM_learn_123 (v := .inr (some 24)) rfl (by decide) rfl ?_
    refine zk_iconst dM_learn_126 ?_
    refine zk_iald dM_learn_127 (n := 2) (f := β 1) rfl (by omega) (by omega) (by omega) ?_
    refine zk_W.to (ls' := [some (.inr (some 22)), some (.inl (i : Int)), some (.inl (p : Int)), some (.inl ((mt_len (zm_T β 0) (zm_T β 1) p i (min (zm_n β 0 - p) (zm_n β 1 - i)) : Int))), some (.inl (n : Int)), some (.inl (s : Int))]) (st' := [.inl (β 1 0), .inl (s : Int)]) (h' := (zk_mk G sw σ α (zk_md τ (zk_ua β 8 f) t))) rfl rfl rfl ?_
    refine zk_icmp_gt (tgt := 172) dM_learn_128 (by decide) ⟨by omega, by omega⟩ ⟨by omega, by omega⟩ (fun h128 => ?_) (fun h128 => ?_)
    · skip
      refine hk f _ (mt_R_mono hR (fun s' k' p' n' hs' _ hd => ?_))
      unfold mt_D at hd ⊢
      omega
    · skip
      have fL' := fL (by omega)
      have fR' := fR (by omega)
      refine zk_aload_n dM_learn_131 rfl ?_
      refine zk_iload_n dM_learn_132 rfl ?_
      refine zk_iload dM_learn_133 rfl ?_
      refine zk_aload_n dM_learn_135 rfl ?_
      refine zk_iconst dM_learn_136 ?_
      refine zk_iload_n dM_learn_137 rfl ?_
      refine zk_iload dM_learn_138 rfl ?_
      refine zk_iload dM_learn_140 rfl ?_
      refine zk_callV (av := [.inl 0, .inl (p : Int), .inl (n : Int), .inl (s : Int)]) (st := [.inl (s : Int), .inl (i : Int), .inr (some 22)]) (d' := (0, 0)) (kc' := 0) (ks' := 0) zbM_86 dM_learn_142 rfl (by decide) rfl rfl (Nat.le_of_ble_eq_true rfl) ⟨by decide, by decide⟩ rfl rfl (kM_costOf G sw σ α τ (zk_ua β 8 f) t (n := (n : Int)) ⟨by decide, by decide⟩ ⟨by omega, by omega⟩ ⟨by omega, by omega⟩) (fun v9 h9 q9 => ?_)
      obtain ⟨rfl, rfl⟩ := q9
      refine zk_W.to (ls' := [some (.inr (some 22)), some (.inl (i : Int)), some (.inl (p : Int)), some (.inl ((mt_len (zm_T β 0) (zm_T β 1) p i (min (zm_n β 0 - p) (zm_n β 1 - i)) : Int))), some (.inl (n : Int)), some (.inl (s : Int))]) (st' := [.inl (if (p : Int) = (s : Int) then τ 0 else τ 0 + τ 1), .inl (s : Int), .inl (i : Int), .inr (some 22)]) (h' := (zk_mk G sw σ α (zk_md τ (zk_ua β 8 f) t))) rfl rfl rfl ?_
      refine zk_aload_n dM_learn_145 rfl ?_
      refine zk_get zfM_34 dM_learn_146 (v := .inr (some 31)) rfl (by decide) rfl ?_
      refine zk_bipush dM_learn_149 (by decide) ?_
      refine zk_iload_n dM_learn_151 rfl ?_
      refine zk_iload dM_learn_152 rfl ?_
      refine zk_iadd dM_learn_154 ?_
      refine zk_imul dM_learn_155 ?_
      refine zk_iload_n dM_learn_156 rfl ?_
      refine zk_iadd dM_learn_157 ?_
      refine zk_iload dM_learn_158 rfl ?_
      refine zk_iadd dM_learn_160 ?_
      refine zk_iald dM_learn_161 (n := 1681) (f := f) rfl (by omega) (by omega) (by omega) ?_
      refine zk_iadd dM_learn_162 ?_
      refine zk_callV (av := [.inl (i : Int), .inl (s : Int), .inl ((if (p : Int) = (s : Int) then τ 0 else τ 0 + τ 1) + (f (((41 * ((i : Int) + (n : Int))) + (p : Int)) + (n : Int)).toNat))]) (st := []) (d' := (0, 0)) (kc' := 0) (ks' := 0) zbM_90 dM_learn_163 rfl (by decide) rfl rfl (Nat.le_of_ble_eq_true rfl) ⟨by decide, by decide⟩ rfl rfl (kM_better G sw σ α τ (zk_ua β 8 f) t (x := (if (p : Int) = (s : Int) then τ 0 else τ 0 + τ 1) + (f (((41 * ((i : Int) + (n : Int))) + (p : Int)) + (n : Int)).toNat)) (by omega) (by omega) ⟨by omega, by omega⟩ (by show zk_rg (f (41 * (i : Int) + (s : Int)).toNat); rw [show (41 * (i : Int) + (s : Int)).toNat = 41 * i + s by omega]; exact ⟨by omega, by omega⟩)) (fun v9 h9 q9 => ?_)
      obtain ⟨rfl, rfl⟩ := q9
      rw [show (41 * (i : Int) + (s : Int)).toNat = 41 * i + s by omega, zk_ua_ua]
      refine zk_W.to (ls' := [some (.inr (some 22)), some (.inl (i : Int)), some (.inl (p : Int)), some (.inl ((mt_len (zm_T β 0) (zm_T β 1) p i (min (zm_n β 0 - p) (zm_n β 1 - i)) : Int))), some (.inl (n : Int)), some (.inl (s : Int))]) (st' := []) (h' := (zk_mk G sw σ α (zk_md τ (zk_ua β 8 (zk_up f (41 * i + s) (min ((if (p : Int) = (s : Int) then τ 0 else τ 0 + τ 1) + (f (((41 * ((i : Int) + (n : Int))) + (p : Int)) + (n : Int)).toNat)) (mt_tb f i s)))) t))) rfl rfl rfl ?_
      refine zk_iinc (ls' := [some (.inr (some 22)), some (.inl (i : Int)), some (.inl (p : Int)), some (.inl ((mt_len (zm_T β 0) (zm_T β 1) p i (min (zm_n β 0 - p) (zm_n β 1 - i)) : Int))), some (.inl (n : Int)), some (.inl ((s : Int) + 1))]) dM_learn_166 rfl (by decide) rfl ?_
      refine zk_goto (tgt := 120) dM_learn_169 (by decide) ?_
      have e2 : (s : Int) + 1 = ((s + 1 : Nat) : Int) := by omega
      rw [e2]
      refine ih (s + 1) _ (by omega) (by omega) ?_
      refine mt_R_mono (mt_R_step (k := 0) (p := p) (n := n) (by omega) (by omega) hI.2.2.2 hR (by omega) hok (by rw [ec, ea]; rfl)) (fun s' k' p' n' _ _ hd => ?_)
      unfold mt_D at hd ⊢
      omega

set_option maxRecDepth 100000 in
set_option maxHeartbeats 4000000 in
theorem wM_learn_m0 (G : zk_G) (sw : Bool) (σ : Nat → Int) (α : Nat → Nat → Int) (τ : Nat → Int) (β : Nat → Nat → Int) (t : zk_H) (hI : zm_I τ β) {i : Nat} (hi : i < zm_n β 1) {p : Nat} (hp : p < zm_n β 0) (hk : ∀ (f : Nat → Int), zm_R τ β f i (mt_D 0 (p + 1) 1 0) → zk_W G mM_learn (2, 46) 0 0 178 [some (.inr (some 22)), some (.inl (i : Int)), some (.inl (p : Int)), none, none, none] [] (zk_mk G sw σ α (zk_md τ (zk_ua β 8 f) t)) (fun v h' => v = none ∧ ∃ f, mt_hi (zm_T β 0) (zm_n β 0) (zm_T β 1) (zm_n β 1) (zm_c τ) f 0 ∧ h' = zk_mk G sw σ α (zk_md τ (zk_ua β 8 f) t))) : ∀ (k : Nat) (n : Nat) (f : Nat → Int), (1 ≤ n) → (n ≤ mt_len (zm_T β 0) (zm_T β 1) p i (min (zm_n β 0 - p) (zm_n β 1 - i)) + 1) → (mt_len (zm_T β 0) (zm_T β 1) p i (min (zm_n β 0 - p) (zm_n β 1 - i)) + 1 < n + k) → (zm_R τ β f i (mt_D 0 p n 0)) → zk_W G mM_learn (2, 46) 0 0 111 [some (.inr (some 22)), some (.inl (i : Int)), some (.inl (p : Int)), some (.inl ((mt_len (zm_T β 0) (zm_T β 1) p i (min (zm_n β 0 - p) (zm_n β 1 - i)) : Int))), some (.inl (n : Int)), none] [] (zk_mk G sw σ α (zk_md τ (zk_ua β 8 f) t)) (fun v h' => v = none ∧ ∃ f, mt_hi (zm_T β 0) (zm_n β 0) (zm_T β 1) (zm_n β 1) (zm_c τ) f 0 ∧ h' = zk_mk G sw σ α (zk_md τ (zk_ua β 8 f) t)) := by
  intro k
  induction k with
  | zero =>
    intro n f g0 g1 g2 hR
    exfalso
    omega
  | succ k ih =>
    intro n f g0 g1 g2 hR
    have i0 := hI.1
    have i1 := hI.2.1
    have c0 : 0 ≤ τ 0 ∧ τ 0 ≤ 100 := hI.2.2.2 0 (by decide)
    have c1 : 0 ≤ τ 1 ∧ τ 1 ≤ 100 := hI.2.2.2 1 (by decide)
    have c2 : 0 ≤ τ 2 ∧ τ 2 ≤ 100 := hI.2.2.2 2 (by decide)
    have c3 : 0 ≤ τ 3 ∧ τ 3 ≤ 100 := hI.2.2.2 3 (by decide)
    have c4 : 0 ≤ τ 4 ∧ τ 4 ≤ 100 := hI.2.2.2 4 (by decide)
    have eO : zm_n β 0 = (β 1 0).toNat := rfl
    have eN : zm_n β 1 = (β 1 1).toNat := rfl
    have hll := mt_len_le (zm_T β 0) (zm_T β 1) (min (zm_n β 0 - p) (zm_n β 1 - i)) p i
    refine zk_iload dM_learn_111 rfl ?_
    refine zk_iload_n dM_learn_113 rfl ?_
    refine zk_icmp_gt (tgt := 178) dM_learn_114 (by decide) ⟨by omega, by omega⟩ ⟨by omega, by omega⟩ (fun h114 => ?_) (fun h114 => ?_)
    · skip
      refine zk_W.drop 3 rfl (zk_W.drop 4 rfl ?_)
      refine hk f (mt_R_mono hR (fun s' k' p' n' _ hok' hd => ?_))
      have hok1 := hok'.1
      unfold mt_D at hd ⊢
      by_cases hx : k' = 0 ∧ p' = p
      · obtain ⟨rfl, rfl⟩ := hx
        obtain ⟨x1, x2, ⟨-, x4, x5⟩ | ⟨x3, -⟩ | ⟨x3, -⟩⟩ := hok'
        · have := mt_le_len (m := min (zm_n β 0 - p') (zm_n β 1 - i)) (by omega) x5
          omega
        · omega
        · omega
      · omega
    · skip
      refine zk_iconst dM_learn_117 ?_
      refine zk_istore (ls' := [some (.inr (some 22)), some (.inl (i : Int)), some (.inl (p : Int)), some (.inl ((mt_len (zm_T β 0) (zm_T β 1) p i (min (zm_n β 0 - p) (zm_n β 1 - i)) : Int))), some (.inl (n : Int)), some (.inl 0)]) dM_learn_118 (by decide) rfl ?_
      obtain hok : zm_ok β i 0 p n := ⟨by omega, by omega, Or.inl ⟨rfl, by omega, fun t' ht => mt_len_lt (m := min (zm_n β 0 - p) (zm_n β 1 - i)) (by omega)⟩⟩
      refine wM_learn_i0 G sw σ α τ β t hI hi hp (by omega) hok (fun f x hR => ?_) (zm_n β 0 + 2) 0 f (by omega) (by omega) hR
      refine zk_iinc (ls' := [some (.inr (some 22)), some (.inl (i : Int)), some (.inl (p : Int)), some (.inl ((mt_len (zm_T β 0) (zm_T β 1) p i (min (zm_n β 0 - p) (zm_n β 1 - i)) : Int))), some (.inl ((n : Int) + 1)), some (.inl x)]) dM_learn_172 rfl (by decide) rfl ?_
      refine zk_goto (tgt := 111) dM_learn_175 (by decide) ?_
      have e2 : (n : Int) + 1 = ((n + 1 : Nat) : Int) := by omega
      rw [e2]
      refine zk_W.drop 5 rfl ?_
      exact ih (n + 1) f (by omega) (by omega) (by omega) hR

set_option maxRecDepth 100000 in
set_option maxHeartbeats 4000000 in
theorem wM_learn_o0 (G : zk_G) (sw : Bool) (σ : Nat → Int) (α : Nat → Nat → Int) (τ : Nat → Int) (β : Nat → Nat → Int) (t : zk_H) (hI : zm_I τ β) {i : Nat} (hi : i < zm_n β 1) (hk : ∀ (f : Nat → Int), zm_R τ β f i (mt_D 1 0 1 0) → zk_W G mM_learn (2, 46) 0 0 184 [some (.inr (some 22)), some (.inl (i : Int)), none, none, none, none] [] (zk_mk G sw σ α (zk_md τ (zk_ua β 8 f) t)) (fun v h' => v = none ∧ ∃ f, mt_hi (zm_T β 0) (zm_n β 0) (zm_T β 1) (zm_n β 1) (zm_c τ) f 0 ∧ h' = zk_mk G sw σ α (zk_md τ (zk_ua β 8 f) t))) : ∀ (k : Nat) (p : Nat) (f : Nat → Int), (p ≤ zm_n β 0) → (zm_n β 0 < p + k) → (zm_R τ β f i (mt_D 0 p 1 0)) → zk_W G mM_learn (2, 46) 0 0 90 [some (.inr (some 22)), some (.inl (i : Int)), some (.inl (p : Int)), none, none, none] [] (zk_mk G sw σ α (zk_md τ (zk_ua β 8 f) t)) (fun v h' => v = none ∧ ∃ f, mt_hi (zm_T β 0) (zm_n β 0) (zm_T β 1) (zm_n β 1) (zm_c τ) f 0 ∧ h' = zk_mk G sw σ α (zk_md τ (zk_ua β 8 f) t)) := by
  intro k
  induction k with
  | zero =>
    intro p f g1 g2 hR
    exfalso
    omega
  | succ k ih =>
    intro p f g1 g2 hR
    have i0 := hI.1
    have i1 := hI.2.1
    have c0 : 0 ≤ τ 0 ∧ τ 0 ≤ 100 := hI.2.2.2 0 (by decide)
    have c1 : 0 ≤ τ 1 ∧ τ 1 ≤ 100 := hI.2.2.2 1 (by decide)
    have c2 : 0 ≤ τ 2 ∧ τ 2 ≤ 100 := hI.2.2.2 2 (by decide)
    have c3 : 0 ≤ τ 3 ∧ τ 3 ≤ 100 := hI.2.2.2 3 (by decide)
    have c4 : 0 ≤ τ 4 ∧ τ 4 ≤ 100 := hI.2.2.2 4 (by decide)
    have eO : zm_n β 0 = (β 1 0).toNat := rfl
    have eN : zm_n β 1 = (β 1 1).toNat := rfl
    refine zk_iload_n dM_learn_90 rfl ?_
    refine zk_aload_n dM_learn_91 rfl ?_
    refine zk_get zfM_13 dM_learn_92 (v := .inr (some 24)) rfl (by decide) rfl ?_
    refine zk_iconst dM_learn_95 ?_
    refine zk_iald dM_learn_96 (n := 2) (f := β 1) rfl (by omega) (by omega) (by omega) ?_
    refine zk_W.to (ls' := [some (.inr (some 22)), some (.inl (i : Int)), some (.inl (p : Int)), none, none, none]) (st' := [.inl (β 1 0), .inl (p : Int)]) (h' := (zk_mk G sw σ α (zk_md τ (zk_ua β 8 f) t))) rfl rfl rfl ?_
    refine zk_icmp_ge (tgt := 184) dM_learn_97 (by decide) ⟨by omega, by omega⟩ ⟨by omega, by omega⟩ (fun h97 => ?_) (fun h97 => ?_)
    · skip
      refine zk_W.drop 2 rfl ?_
      refine hk f (mt_R_mono hR (fun s' k' p' n' _ hok' hd => ?_))
      have hok1 := hok'.1
      unfold mt_D at hd ⊢
      by_cases hx : k' = 0
      · subst hx
        obtain ⟨x1, x2, ⟨-, x4, x5⟩ | ⟨x3, -⟩ | ⟨x3, -⟩⟩ := hok' <;> omega
      · omega
    · skip
      refine zk_aload_n dM_learn_100 rfl ?_
      refine zk_iconst dM_learn_101 ?_
      refine zk_iload_n dM_learn_102 rfl ?_
      refine zk_iload_n dM_learn_103 rfl ?_
      refine zk_callV (av := [.inl 0, .inl (p : Int), .inl (i : Int)]) (st := []) (d' := (1, 22)) (kc' := 0) (ks' := 0) zbM_82 dM_learn_104 rfl (by decide) rfl rfl (Nat.le_of_ble_eq_true rfl) ⟨by decide, by decide⟩ rfl rfl (kM_like G sw σ α τ (zk_ua β 8 f) t hI (q := 0) (by decide) (p := p) (i := i) (show (p : Int) ≤ β 1 0 by omega) (show (i : Int) ≤ β 1 1 by omega)) (fun v9 h9 q9 => ?_)
      obtain ⟨rfl, rfl⟩ := q9
      refine zk_W.to (ls' := [some (.inr (some 22)), some (.inl (i : Int)), some (.inl (p : Int)), none, none, none]) (st' := [.inl ((mt_len (zm_T β 0) (zm_T β 1) p i (min (zm_n β 0 - p) (zm_n β 1 - i)) : Int))]) (h' := (zk_mk G sw σ α (zk_md τ (zk_ua β 8 f) t))) rfl rfl rfl ?_
      refine zk_istore_n (ls' := [some (.inr (some 22)), some (.inl (i : Int)), some (.inl (p : Int)), some (.inl ((mt_len (zm_T β 0) (zm_T β 1) p i (min (zm_n β 0 - p) (zm_n β 1 - i)) : Int))), none, none]) dM_learn_107 (by decide) rfl ?_
      refine zk_iconst dM_learn_108 ?_
      refine zk_istore (ls' := [some (.inr (some 22)), some (.inl (i : Int)), some (.inl (p : Int)), some (.inl ((mt_len (zm_T β 0) (zm_T β 1) p i (min (zm_n β 0 - p) (zm_n β 1 - i)) : Int))), some (.inl 1), none]) dM_learn_109 (by decide) rfl ?_
      refine wM_learn_m0 G sw σ α τ β t hI hi (p := p) (by omega) (fun f hR => ?_) (mt_len (zm_T β 0) (zm_T β 1) p i (min (zm_n β 0 - p) (zm_n β 1 - i)) + 1) 1 f (by omega) (by omega) (by omega) hR
      refine zk_iinc (ls' := [some (.inr (some 22)), some (.inl (i : Int)), some (.inl ((p : Int) + 1)), none, none, none]) dM_learn_178 rfl (by decide) rfl ?_
      refine zk_goto (tgt := 90) dM_learn_181 (by decide) ?_
      have e2 : (p : Int) + 1 = ((p + 1 : Nat) : Int) := by omega
      rw [e2]
      exact ih (p + 1) f (by omega) (by omega) hR

set_option maxRecDepth 100000 in
set_option maxHeartbeats 4000000 in
theorem wM_learn_i1 (G : zk_G) (sw : Bool) (σ : Nat → Int) (α : Nat → Nat → Int) (τ : Nat → Int) (β : Nat → Nat → Int) (t : zk_H) (hI : zm_I τ β) {i : Nat} (hi : i < zm_n β 1) {p n : Nat} (hp : p < i) (hn : 1 ≤ n) (hok : zm_ok β i 1 p n) (hk : ∀ (f : Nat → Int) (x : Int), zm_R τ β f i (mt_D 1 p (n + 1) 0) → zk_W G mM_learn (2, 46) 0 0 261 [some (.inr (some 22)), some (.inl (i : Int)), some (.inl (p : Int)), some (.inl ((mt_len (zm_T β 1) (zm_T β 1) p i (min (zm_n β 1 - p) (zm_n β 1 - i)) : Int))), some (.inl (n : Int)), some (.inl x)] [] (zk_mk G sw σ α (zk_md τ (zk_ua β 8 f) t)) (fun v h' => v = none ∧ ∃ f, mt_hi (zm_T β 0) (zm_n β 0) (zm_T β 1) (zm_n β 1) (zm_c τ) f 0 ∧ h' = zk_mk G sw σ α (zk_md τ (zk_ua β 8 f) t))) : ∀ (k : Nat) (s : Nat) (f : Nat → Int), (s ≤ zm_n β 0 + 1) → (zm_n β 0 + 1 < s + k) → (zm_R τ β f i (mt_D 1 p n s)) → zk_W G mM_learn (2, 46) 0 0 211 [some (.inr (some 22)), some (.inl (i : Int)), some (.inl (p : Int)), some (.inl ((mt_len (zm_T β 1) (zm_T β 1) p i (min (zm_n β 1 - p) (zm_n β 1 - i)) : Int))), some (.inl (n : Int)), some (.inl (s : Int))] [] (zk_mk G sw σ α (zk_md τ (zk_ua β 8 f) t)) (fun v h' => v = none ∧ ∃ f, mt_hi (zm_T β 0) (zm_n β 0) (zm_T β 1) (zm_n β 1) (zm_c τ) f 0 ∧ h' = zk_mk G sw σ α (zk_md τ (zk_ua β 8 f) t)) := by
  intro k
  induction k with
  | zero =>
    intro s f g1 g2 hR
    exfalso
    omega
  | succ k ih =>
    intro s f g1 g2 hR
    have i0 := hI.1
    have i1 := hI.2.1
    have c0 : 0 ≤ τ 0 ∧ τ 0 ≤ 100 := hI.2.2.2 0 (by decide)
    have c1 : 0 ≤ τ 1 ∧ τ 1 ≤ 100 := hI.2.2.2 1 (by decide)
    have c2 : 0 ≤ τ 2 ∧ τ 2 ≤ 100 := hI.2.2.2 2 (by decide)
    have c3 : 0 ≤ τ 3 ∧ τ 3 ≤ 100 := hI.2.2.2 3 (by decide)
    have c4 : 0 ≤ τ 4 ∧ τ 4 ≤ 100 := hI.2.2.2 4 (by decide)
    have eO : zm_n β 0 = (β 1 0).toNat := rfl
    have eN : zm_n β 1 = (β 1 1).toNat := rfl
    have hn2 := hok.2.1
    have ea : f (41 * ((i : Int) + (n : Int)) + (s : Int)).toNat = mt_tb f (i + n) s := by
      rw [show (41 * ((i : Int) + (n : Int)) + (s : Int)).toNat = 41 * (i + n) + s by omega]
      rfl
    have fL : s ≤ zm_n β 0 → 0 ≤ f (41 * ((i : Int) + (n : Int)) + (s : Int)).toNat ∧ f (41 * ((i : Int) + (n : Int)) + (s : Int)).toNat ≤ 4100 := fun hs => by rw [ea]; exact hR.1.2.2 (i + n) s (by omega) (by omega) (by omega)
    have fR : s ≤ zm_n β 0 → 0 ≤ f (41 * i + s) ∧ f (41 * i + s) ≤ 1000000 := fun hs => (hR.2.1 s hs).1
    have ec : mt_c (zm_c τ) s 1 p n = τ 2 := by
      rfl
    have er := mt_c_rg (s := s) (c := zm_c τ) hI.2.2.2 (by omega) hok
    rw [ec] at er
    refine zk_iload dM_learn_211 rfl ?_
    refine zk_aload_n dM_learn_213 rfl ?_
    refine zk_get zfM_13 dM_learn_214 (v := .inr (some 24)) rfl (by decide) rfl ?_
    refine zk_iconst dM_learn_217 ?_
    refine zk_iald dM_learn_218 (n := 2) (f := β 1) rfl (by omega) (by omega) (by omega) ?_
    refine zk_W.to (ls' := [some (.inr (some 22)), some (.inl (i : Int)), some (.inl (p : Int)), some (.inl ((mt_len (zm_T β 1) (zm_T β 1) p i (min (zm_n β 1 - p) (zm_n β 1 - i)) : Int))), some (.inl (n : Int)), some (.inl (s : Int))]) (st' := [.inl (β 1 0), .inl (s : Int)]) (h' := (zk_mk G sw σ α (zk_md τ (zk_ua β 8 f) t))) rfl rfl rfl ?_
    refine zk_icmp_gt (tgt := 261) dM_learn_219 (by decide) ⟨by omega, by omega⟩ ⟨by omega, by omega⟩ (fun h219 => ?_) (fun h219 => ?_)
    · skip
      refine hk f _ (mt_R_mono hR (fun s' k' p' n' hs' _ hd => ?_))
      unfold mt_D at hd ⊢
      omega
    · skip
      have fL' := fL (by omega)
      have fR' := fR (by omega)
      refine zk_aload_n dM_learn_222 rfl ?_
      refine zk_iload_n dM_learn_223 rfl ?_
      refine zk_iload dM_learn_224 rfl ?_
      refine zk_aload_n dM_learn_226 rfl ?_
      refine zk_iconst dM_learn_227 ?_
      refine zk_iload_n dM_learn_228 rfl ?_
      refine zk_iload dM_learn_229 rfl ?_
      refine zk_iload dM_learn_231 rfl ?_
      refine zk_callV (av := [.inl 1, .inl (p : Int), .inl (n : Int), .inl (s : Int)]) (st := [.inl (s : Int), .inl (i : Int), .inr (some 22)]) (d' := (0, 0)) (kc' := 0) (ks' := 0) zbM_86 dM_learn_233 rfl (by decide) rfl rfl (Nat.le_of_ble_eq_true rfl) ⟨by decide, by decide⟩ rfl rfl (kM_costOf G sw σ α τ (zk_ua β 8 f) t (n := (n : Int)) ⟨by decide, by decide⟩ ⟨by omega, by omega⟩ ⟨by omega, by omega⟩) (fun v9 h9 q9 => ?_)
      obtain ⟨rfl, rfl⟩ := q9
      refine zk_W.to (ls' := [some (.inr (some 22)), some (.inl (i : Int)), some (.inl (p : Int)), some (.inl ((mt_len (zm_T β 1) (zm_T β 1) p i (min (zm_n β 1 - p) (zm_n β 1 - i)) : Int))), some (.inl (n : Int)), some (.inl (s : Int))]) (st' := [.inl (τ 2), .inl (s : Int), .inl (i : Int), .inr (some 22)]) (h' := (zk_mk G sw σ α (zk_md τ (zk_ua β 8 f) t))) rfl rfl rfl ?_
      refine zk_aload_n dM_learn_236 rfl ?_
      refine zk_get zfM_34 dM_learn_237 (v := .inr (some 31)) rfl (by decide) rfl ?_
      refine zk_bipush dM_learn_240 (by decide) ?_
      refine zk_iload_n dM_learn_242 rfl ?_
      refine zk_iload dM_learn_243 rfl ?_
      refine zk_iadd dM_learn_245 ?_
      refine zk_imul dM_learn_246 ?_
      refine zk_iload dM_learn_247 rfl ?_
      refine zk_iadd dM_learn_249 ?_
      refine zk_iald dM_learn_250 (n := 1681) (f := f) rfl (by omega) (by omega) (by omega) ?_
      refine zk_iadd dM_learn_251 ?_
      refine zk_callV (av := [.inl (i : Int), .inl (s : Int), .inl ((τ 2) + (f ((41 * ((i : Int) + (n : Int))) + (s : Int)).toNat))]) (st := []) (d' := (0, 0)) (kc' := 0) (ks' := 0) zbM_90 dM_learn_252 rfl (by decide) rfl rfl (Nat.le_of_ble_eq_true rfl) ⟨by decide, by decide⟩ rfl rfl (kM_better G sw σ α τ (zk_ua β 8 f) t (x := (τ 2) + (f ((41 * ((i : Int) + (n : Int))) + (s : Int)).toNat)) (by omega) (by omega) ⟨by omega, by omega⟩ (by show zk_rg (f (41 * (i : Int) + (s : Int)).toNat); rw [show (41 * (i : Int) + (s : Int)).toNat = 41 * i + s by omega]; exact ⟨by omega, by omega⟩)) (fun v9 h9 q9 => ?_)
      obtain ⟨rfl, rfl⟩ := q9
      rw [show (41 * (i : Int) + (s : Int)).toNat = 41 * i + s by omega, zk_ua_ua]
      refine zk_W.to (ls' := [some (.inr (some 22)), some (.inl (i : Int)), some (.inl (p : Int)), some (.inl ((mt_len (zm_T β 1) (zm_T β 1) p i (min (zm_n β 1 - p) (zm_n β 1 - i)) : Int))), some (.inl (n : Int)), some (.inl (s : Int))]) (st' := []) (h' := (zk_mk G sw σ α (zk_md τ (zk_ua β 8 (zk_up f (41 * i + s) (min ((τ 2) + (f ((41 * ((i : Int) + (n : Int))) + (s : Int)).toNat)) (mt_tb f i s)))) t))) rfl rfl rfl ?_
      refine zk_iinc (ls' := [some (.inr (some 22)), some (.inl (i : Int)), some (.inl (p : Int)), some (.inl ((mt_len (zm_T β 1) (zm_T β 1) p i (min (zm_n β 1 - p) (zm_n β 1 - i)) : Int))), some (.inl (n : Int)), some (.inl ((s : Int) + 1))]) dM_learn_255 rfl (by decide) rfl ?_
      refine zk_goto (tgt := 211) dM_learn_258 (by decide) ?_
      have e2 : (s : Int) + 1 = ((s + 1 : Nat) : Int) := by omega
      rw [e2]
      refine ih (s + 1) _ (by omega) (by omega) ?_
      refine mt_R_mono (mt_R_step (k := 1) (p := p) (n := n) (by omega) (by omega) hI.2.2.2 hR (by omega) hok (by rw [ec, ea]; rfl)) (fun s' k' p' n' _ _ hd => ?_)
      unfold mt_D at hd ⊢
      omega

set_option maxRecDepth 100000 in
set_option maxHeartbeats 4000000 in
theorem wM_learn_m1 (G : zk_G) (sw : Bool) (σ : Nat → Int) (α : Nat → Nat → Int) (τ : Nat → Int) (β : Nat → Nat → Int) (t : zk_H) (hI : zm_I τ β) {i : Nat} (hi : i < zm_n β 1) {p : Nat} (hp : p < i) (hk : ∀ (f : Nat → Int), zm_R τ β f i (mt_D 1 (p + 1) 1 0) → zk_W G mM_learn (2, 46) 0 0 267 [some (.inr (some 22)), some (.inl (i : Int)), some (.inl (p : Int)), none, none, none] [] (zk_mk G sw σ α (zk_md τ (zk_ua β 8 f) t)) (fun v h' => v = none ∧ ∃ f, mt_hi (zm_T β 0) (zm_n β 0) (zm_T β 1) (zm_n β 1) (zm_c τ) f 0 ∧ h' = zk_mk G sw σ α (zk_md τ (zk_ua β 8 f) t))) : ∀ (k : Nat) (n : Nat) (f : Nat → Int), (1 ≤ n) → (n ≤ mt_len (zm_T β 1) (zm_T β 1) p i (min (zm_n β 1 - p) (zm_n β 1 - i)) + 1) → (mt_len (zm_T β 1) (zm_T β 1) p i (min (zm_n β 1 - p) (zm_n β 1 - i)) + 1 < n + k) → (zm_R τ β f i (mt_D 1 p n 0)) → zk_W G mM_learn (2, 46) 0 0 202 [some (.inr (some 22)), some (.inl (i : Int)), some (.inl (p : Int)), some (.inl ((mt_len (zm_T β 1) (zm_T β 1) p i (min (zm_n β 1 - p) (zm_n β 1 - i)) : Int))), some (.inl (n : Int)), none] [] (zk_mk G sw σ α (zk_md τ (zk_ua β 8 f) t)) (fun v h' => v = none ∧ ∃ f, mt_hi (zm_T β 0) (zm_n β 0) (zm_T β 1) (zm_n β 1) (zm_c τ) f 0 ∧ h' = zk_mk G sw σ α (zk_md τ (zk_ua β 8 f) t)) := by
  intro k
  induction k with
  | zero =>
    intro n f g0 g1 g2 hR
    exfalso
    omega
  | succ k ih =>
    intro n f g0 g1 g2 hR
    have i0 := hI.1
    have i1 := hI.2.1
    have c0 : 0 ≤ τ 0 ∧ τ 0 ≤ 100 := hI.2.2.2 0 (by decide)
    have c1 : 0 ≤ τ 1 ∧ τ 1 ≤ 100 := hI.2.2.2 1 (by decide)
    have c2 : 0 ≤ τ 2 ∧ τ 2 ≤ 100 := hI.2.2.2 2 (by decide)
    have c3 : 0 ≤ τ 3 ∧ τ 3 ≤ 100 := hI.2.2.2 3 (by decide)
    have c4 : 0 ≤ τ 4 ∧ τ 4 ≤ 100 := hI.2.2.2 4 (by decide)
    have eO : zm_n β 0 = (β 1 0).toNat := rfl
    have eN : zm_n β 1 = (β 1 1).toNat := rfl
    have hll := mt_len_le (zm_T β 1) (zm_T β 1) (min (zm_n β 1 - p) (zm_n β 1 - i)) p i
    refine zk_iload dM_learn_202 rfl ?_
    refine zk_iload_n dM_learn_204 rfl ?_
    refine zk_icmp_gt (tgt := 267) dM_learn_205 (by decide) ⟨by omega, by omega⟩ ⟨by omega, by omega⟩ (fun h205 => ?_) (fun h205 => ?_)
    · skip
      refine zk_W.drop 3 rfl (zk_W.drop 4 rfl ?_)
      refine hk f (mt_R_mono hR (fun s' k' p' n' _ hok' hd => ?_))
      have hok1 := hok'.1
      unfold mt_D at hd ⊢
      by_cases hx : k' = 1 ∧ p' = p
      · obtain ⟨rfl, rfl⟩ := hx
        obtain ⟨x1, x2, ⟨x3, -⟩ | ⟨-, x4, x5⟩ | ⟨x3, -⟩⟩ := hok'
        · omega
        · have := mt_le_len (m := min (zm_n β 1 - p') (zm_n β 1 - i)) (by omega) x5
          omega
        · omega
      · omega
    · skip
      refine zk_iconst dM_learn_208 ?_
      refine zk_istore (ls' := [some (.inr (some 22)), some (.inl (i : Int)), some (.inl (p : Int)), some (.inl ((mt_len (zm_T β 1) (zm_T β 1) p i (min (zm_n β 1 - p) (zm_n β 1 - i)) : Int))), some (.inl (n : Int)), some (.inl 0)]) dM_learn_209 (by decide) rfl ?_
      obtain hok : zm_ok β i 1 p n := ⟨by omega, by omega, Or.inr (Or.inl ⟨rfl, hp, fun t' ht => mt_len_lt (m := min (zm_n β 1 - p) (zm_n β 1 - i)) (by omega)⟩)⟩
      refine wM_learn_i1 G sw σ α τ β t hI hi hp (by omega) hok (fun f x hR => ?_) (zm_n β 0 + 2) 0 f (by omega) (by omega) hR
      refine zk_iinc (ls' := [some (.inr (some 22)), some (.inl (i : Int)), some (.inl (p : Int)), some (.inl ((mt_len (zm_T β 1) (zm_T β 1) p i (min (zm_n β 1 - p) (zm_n β 1 - i)) : Int))), some (.inl ((n : Int) + 1)), some (.inl x)]) dM_learn_261 rfl (by decide) rfl ?_
      refine zk_goto (tgt := 202) dM_learn_264 (by decide) ?_
      have e2 : (n : Int) + 1 = ((n + 1 : Nat) : Int) := by omega
      rw [e2]
      refine zk_W.drop 5 rfl ?_
      exact ih (n + 1) f (by omega) (by omega) (by omega) hR

set_option maxRecDepth 100000 in
set_option maxHeartbeats 4000000 in
theorem wM_learn_o1 (G : zk_G) (sw : Bool) (σ : Nat → Int) (α : Nat → Nat → Int) (τ : Nat → Int) (β : Nat → Nat → Int) (t : zk_H) (hI : zm_I τ β) {i : Nat} (hi : i < zm_n β 1) (hk : ∀ (f : Nat → Int), zm_R τ β f i (mt_D 2 0 1 0) → zk_W G mM_learn (2, 46) 0 0 273 [some (.inr (some 22)), some (.inl (i : Int)), none, none, none, none] [] (zk_mk G sw σ α (zk_md τ (zk_ua β 8 f) t)) (fun v h' => v = none ∧ ∃ f, mt_hi (zm_T β 0) (zm_n β 0) (zm_T β 1) (zm_n β 1) (zm_c τ) f 0 ∧ h' = zk_mk G sw σ α (zk_md τ (zk_ua β 8 f) t))) : ∀ (k : Nat) (p : Nat) (f : Nat → Int), (p ≤ i) → (i < p + k) → (zm_R τ β f i (mt_D 1 p 1 0)) → zk_W G mM_learn (2, 46) 0 0 186 [some (.inr (some 22)), some (.inl (i : Int)), some (.inl (p : Int)), none, none, none] [] (zk_mk G sw σ α (zk_md τ (zk_ua β 8 f) t)) (fun v h' => v = none ∧ ∃ f, mt_hi (zm_T β 0) (zm_n β 0) (zm_T β 1) (zm_n β 1) (zm_c τ) f 0 ∧ h' = zk_mk G sw σ α (zk_md τ (zk_ua β 8 f) t)) := by
  intro k
  induction k with
  | zero =>
    intro p f g1 g2 hR
    exfalso
    omega
  | succ k ih =>
    intro p f g1 g2 hR
    have i0 := hI.1
    have i1 := hI.2.1
    have c0 : 0 ≤ τ 0 ∧ τ 0 ≤ 100 := hI.2.2.2 0 (by decide)
    have c1 : 0 ≤ τ 1 ∧ τ 1 ≤ 100 := hI.2.2.2 1 (by decide)
    have c2 : 0 ≤ τ 2 ∧ τ 2 ≤ 100 := hI.2.2.2 2 (by decide)
    have c3 : 0 ≤ τ 3 ∧ τ 3 ≤ 100 := hI.2.2.2 3 (by decide)
    have c4 : 0 ≤ τ 4 ∧ τ 4 ≤ 100 := hI.2.2.2 4 (by decide)
    have eO : zm_n β 0 = (β 1 0).toNat := rfl
    have eN : zm_n β 1 = (β 1 1).toNat := rfl
    refine zk_iload_n dM_learn_186 rfl ?_
    refine zk_iload_n dM_learn_187 rfl ?_
    refine zk_icmp_ge (tgt := 273) dM_learn_188 (by decide) ⟨by omega, by omega⟩ ⟨by omega, by omega⟩ (fun h188 => ?_) (fun h188 => ?_)
    · skip
      refine zk_W.drop 2 rfl ?_
      refine hk f (mt_R_mono hR (fun s' k' p' n' _ hok' hd => ?_))
      have hok1 := hok'.1
      unfold mt_D at hd ⊢
      by_cases hx : k' = 1
      · subst hx
        obtain ⟨x1, x2, ⟨x3, -⟩ | ⟨-, x4, x5⟩ | ⟨x3, -⟩⟩ := hok' <;> omega
      · omega
    · skip
      refine zk_aload_n dM_learn_191 rfl ?_
      refine zk_iconst dM_learn_192 ?_
      refine zk_iload_n dM_learn_193 rfl ?_
      refine zk_iload_n dM_learn_194 rfl ?_
      refine zk_callV (av := [.inl 1, .inl (p : Int), .inl (i : Int)]) (st := []) (d' := (1, 22)) (kc' := 0) (ks' := 0) zbM_82 dM_learn_195 rfl (by decide) rfl rfl (Nat.le_of_ble_eq_true rfl) ⟨by decide, by decide⟩ rfl rfl (kM_like G sw σ α τ (zk_ua β 8 f) t hI (q := 1) (by decide) (p := p) (i := i) (show (p : Int) ≤ β 1 1 by omega) (show (i : Int) ≤ β 1 1 by omega)) (fun v9 h9 q9 => ?_)
      obtain ⟨rfl, rfl⟩ := q9
      refine zk_W.to (ls' := [some (.inr (some 22)), some (.inl (i : Int)), some (.inl (p : Int)), none, none, none]) (st' := [.inl ((mt_len (zm_T β 1) (zm_T β 1) p i (min (zm_n β 1 - p) (zm_n β 1 - i)) : Int))]) (h' := (zk_mk G sw σ α (zk_md τ (zk_ua β 8 f) t))) rfl rfl rfl ?_
      refine zk_istore_n (ls' := [some (.inr (some 22)), some (.inl (i : Int)), some (.inl (p : Int)), some (.inl ((mt_len (zm_T β 1) (zm_T β 1) p i (min (zm_n β 1 - p) (zm_n β 1 - i)) : Int))), none, none]) dM_learn_198 (by decide) rfl ?_
      refine zk_iconst dM_learn_199 ?_
      refine zk_istore (ls' := [some (.inr (some 22)), some (.inl (i : Int)), some (.inl (p : Int)), some (.inl ((mt_len (zm_T β 1) (zm_T β 1) p i (min (zm_n β 1 - p) (zm_n β 1 - i)) : Int))), some (.inl 1), none]) dM_learn_200 (by decide) rfl ?_
      refine wM_learn_m1 G sw σ α τ β t hI hi (p := p) (by omega) (fun f hR => ?_) (mt_len (zm_T β 1) (zm_T β 1) p i (min (zm_n β 1 - p) (zm_n β 1 - i)) + 1) 1 f (by omega) (by omega) (by omega) hR
      refine zk_iinc (ls' := [some (.inr (some 22)), some (.inl (i : Int)), some (.inl ((p : Int) + 1)), none, none, none]) dM_learn_267 rfl (by decide) rfl ?_
      refine zk_goto (tgt := 186) dM_learn_270 (by decide) ?_
      have e2 : (p : Int) + 1 = ((p + 1 : Nat) : Int) := by omega
      rw [e2]
      exact ih (p + 1) f (by omega) (by omega) hR

set_option maxRecDepth 100000 in
set_option maxHeartbeats 4000000 in
theorem wM_learn_i2 (G : zk_G) (sw : Bool) (σ : Nat → Int) (α : Nat → Nat → Int) (τ : Nat → Int) (β : Nat → Nat → Int) (t : zk_H) (hI : zm_I τ β) {i : Nat} (hi : i < zm_n β 1) {n : Nat} (hn : 1 ≤ n) (hok : zm_ok β i 2 0 n) (hk : ∀ (f : Nat → Int) (x : Int), zm_R τ β f i (mt_D 2 0 (n + 1) 0) → zk_W G mM_learn (2, 46) 0 0 333 [some (.inr (some 22)), some (.inl (i : Int)), some (.inl (n : Int)), some (.inl x), none, none] [] (zk_mk G sw σ α (zk_md τ (zk_ua β 8 f) t)) (fun v h' => v = none ∧ ∃ f, mt_hi (zm_T β 0) (zm_n β 0) (zm_T β 1) (zm_n β 1) (zm_c τ) f 0 ∧ h' = zk_mk G sw σ α (zk_md τ (zk_ua β 8 f) t))) : ∀ (k : Nat) (s : Nat) (f : Nat → Int), (s ≤ zm_n β 0 + 1) → (zm_n β 0 + 1 < s + k) → (zm_R τ β f i (mt_D 2 0 n s)) → zk_W G mM_learn (2, 46) 0 0 289 [some (.inr (some 22)), some (.inl (i : Int)), some (.inl (n : Int)), some (.inl (s : Int)), none, none] [] (zk_mk G sw σ α (zk_md τ (zk_ua β 8 f) t)) (fun v h' => v = none ∧ ∃ f, mt_hi (zm_T β 0) (zm_n β 0) (zm_T β 1) (zm_n β 1) (zm_c τ) f 0 ∧ h' = zk_mk G sw σ α (zk_md τ (zk_ua β 8 f) t)) := by
  intro k
  induction k with
  | zero =>
    intro s f g1 g2 hR
    exfalso
    omega
  | succ k ih =>
    intro s f g1 g2 hR
    have i0 := hI.1
    have i1 := hI.2.1
    have c0 : 0 ≤ τ 0 ∧ τ 0 ≤ 100 := hI.2.2.2 0 (by decide)
    have c1 : 0 ≤ τ 1 ∧ τ 1 ≤ 100 := hI.2.2.2 1 (by decide)
    have c2 : 0 ≤ τ 2 ∧ τ 2 ≤ 100 := hI.2.2.2 2 (by decide)
    have c3 : 0 ≤ τ 3 ∧ τ 3 ≤ 100 := hI.2.2.2 3 (by decide)
    have c4 : 0 ≤ τ 4 ∧ τ 4 ≤ 100 := hI.2.2.2 4 (by decide)
    have eO : zm_n β 0 = (β 1 0).toNat := rfl
    have eN : zm_n β 1 = (β 1 1).toNat := rfl
    have hn2 := hok.2.1
    have ea : f (41 * ((i : Int) + (n : Int)) + (s : Int)).toNat = mt_tb f (i + n) s := by
      rw [show (41 * ((i : Int) + (n : Int)) + (s : Int)).toNat = 41 * (i + n) + s by omega]
      rfl
    have fL : s ≤ zm_n β 0 → 0 ≤ f (41 * ((i : Int) + (n : Int)) + (s : Int)).toNat ∧ f (41 * ((i : Int) + (n : Int)) + (s : Int)).toNat ≤ 4100 := fun hs => by rw [ea]; exact hR.1.2.2 (i + n) s (by omega) (by omega) (by omega)
    have fR : s ≤ zm_n β 0 → 0 ≤ f (41 * i + s) ∧ f (41 * i + s) ≤ 1000000 := fun hs => (hR.2.1 s hs).1
    have ec : mt_c (zm_c τ) s 2 0 n = (τ 3 + τ 4 * (n : Int)) := by
      rfl
    have er := mt_c_rg (s := s) (c := zm_c τ) hI.2.2.2 (by omega) hok
    rw [ec] at er
    refine zk_iload_n dM_learn_289 rfl ?_
    refine zk_aload_n dM_learn_290 rfl ?_
    refine zk_get zfM_13 dM_learn_291 (v := .inr (some 24)) rfl (by decide) rfl ?_
    refine zk_iconst dM_learn_294 ?_
    refine zk_iald dM_learn_295 (n := 2) (f := β 1) rfl (by omega) (by omega) (by omega) ?_
    refine zk_W.to (ls' := [some (.inr (some 22)), some (.inl (i : Int)), some (.inl (n : Int)), some (.inl (s : Int)), none, none]) (st' := [.inl (β 1 0), .inl (s : Int)]) (h' := (zk_mk G sw σ α (zk_md τ (zk_ua β 8 f) t))) rfl rfl rfl ?_
    refine zk_icmp_gt (tgt := 333) dM_learn_296 (by decide) ⟨by omega, by omega⟩ ⟨by omega, by omega⟩ (fun h296 => ?_) (fun h296 => ?_)
    · skip
      refine hk f _ (mt_R_mono hR (fun s' k' p' n' hs' _ hd => ?_))
      unfold mt_D at hd ⊢
      omega
    · skip
      have fL' := fL (by omega)
      have fR' := fR (by omega)
      refine zk_aload_n dM_learn_299 rfl ?_
      refine zk_iload_n dM_learn_300 rfl ?_
      refine zk_iload_n dM_learn_301 rfl ?_
      refine zk_aload_n dM_learn_302 rfl ?_
      refine zk_iconst dM_learn_303 ?_
      refine zk_iconst dM_learn_304 ?_
      refine zk_iload_n dM_learn_305 rfl ?_
      refine zk_iload_n dM_learn_306 rfl ?_
      refine zk_callV (av := [.inl 2, .inl 0, .inl (n : Int), .inl (s : Int)]) (st := [.inl (s : Int), .inl (i : Int), .inr (some 22)]) (d' := (0, 0)) (kc' := 0) (ks' := 0) zbM_86 dM_learn_307 rfl (by decide) rfl rfl (Nat.le_of_ble_eq_true rfl) ⟨by decide, by decide⟩ rfl rfl (kM_costOf G sw σ α τ (zk_ua β 8 f) t (n := (n : Int)) ⟨by decide, by decide⟩ ⟨by decide, by decide⟩ ⟨by omega, by omega⟩) (fun v9 h9 q9 => ?_)
      obtain ⟨rfl, rfl⟩ := q9
      refine zk_W.to (ls' := [some (.inr (some 22)), some (.inl (i : Int)), some (.inl (n : Int)), some (.inl (s : Int)), none, none]) (st' := [.inl (τ 3 + τ 4 * (n : Int)), .inl (s : Int), .inl (i : Int), .inr (some 22)]) (h' := (zk_mk G sw σ α (zk_md τ (zk_ua β 8 f) t))) rfl rfl rfl ?_
      refine zk_aload_n dM_learn_310 rfl ?_
      refine zk_get zfM_34 dM_learn_311 (v := .inr (some 31)) rfl (by decide) rfl ?_
      refine zk_bipush dM_learn_314 (by decide) ?_
      refine zk_iload_n dM_learn_316 rfl ?_
      refine zk_iload_n dM_learn_317 rfl ?_
      refine zk_iadd dM_learn_318 ?_
      refine zk_imul dM_learn_319 ?_
      refine zk_iload_n dM_learn_320 rfl ?_
      refine zk_iadd dM_learn_321 ?_
      refine zk_iald dM_learn_322 (n := 1681) (f := f) rfl (by omega) (by omega) (by omega) ?_
      refine zk_iadd dM_learn_323 ?_
      refine zk_callV (av := [.inl (i : Int), .inl (s : Int), .inl ((τ 3 + τ 4 * (n : Int)) + (f ((41 * ((i : Int) + (n : Int))) + (s : Int)).toNat))]) (st := []) (d' := (0, 0)) (kc' := 0) (ks' := 0) zbM_90 dM_learn_324 rfl (by decide) rfl rfl (Nat.le_of_ble_eq_true rfl) ⟨by decide, by decide⟩ rfl rfl (kM_better G sw σ α τ (zk_ua β 8 f) t (x := (τ 3 + τ 4 * (n : Int)) + (f ((41 * ((i : Int) + (n : Int))) + (s : Int)).toNat)) (by omega) (by omega) ⟨by omega, by omega⟩ (by show zk_rg (f (41 * (i : Int) + (s : Int)).toNat); rw [show (41 * (i : Int) + (s : Int)).toNat = 41 * i + s by omega]; exact ⟨by omega, by omega⟩)) (fun v9 h9 q9 => ?_)
      obtain ⟨rfl, rfl⟩ := q9
      rw [show (41 * (i : Int) + (s : Int)).toNat = 41 * i + s by omega, zk_ua_ua]
      refine zk_W.to (ls' := [some (.inr (some 22)), some (.inl (i : Int)), some (.inl (n : Int)), some (.inl (s : Int)), none, none]) (st' := []) (h' := (zk_mk G sw σ α (zk_md τ (zk_ua β 8 (zk_up f (41 * i + s) (min ((τ 3 + τ 4 * (n : Int)) + (f ((41 * ((i : Int) + (n : Int))) + (s : Int)).toNat)) (mt_tb f i s)))) t))) rfl rfl rfl ?_
      refine zk_iinc (ls' := [some (.inr (some 22)), some (.inl (i : Int)), some (.inl (n : Int)), some (.inl ((s : Int) + 1)), none, none]) dM_learn_327 rfl (by decide) rfl ?_
      refine zk_goto (tgt := 289) dM_learn_330 (by decide) ?_
      have e2 : (s : Int) + 1 = ((s + 1 : Nat) : Int) := by omega
      rw [e2]
      refine ih (s + 1) _ (by omega) (by omega) ?_
      refine mt_R_mono (mt_R_step (k := 2) (p := 0) (n := n) (by omega) (by omega) hI.2.2.2 hR (by omega) hok (by rw [ec, ea]; rfl)) (fun s' k' p' n' _ _ hd => ?_)
      unfold mt_D at hd ⊢
      omega

set_option maxRecDepth 100000 in
set_option maxHeartbeats 4000000 in
theorem wM_learn_o2 (G : zk_G) (sw : Bool) (σ : Nat → Int) (α : Nat → Nat → Int) (τ : Nat → Int) (β : Nat → Nat → Int) (t : zk_H) (hI : zm_I τ β) {i : Nat} (hi : i < zm_n β 1) (hk : ∀ (f : Nat → Int), zm_R τ β f i (mt_D 3 0 0 0) → zk_W G mM_learn (2, 46) 0 0 339 [some (.inr (some 22)), some (.inl (i : Int)), none, none, none, none] [] (zk_mk G sw σ α (zk_md τ (zk_ua β 8 f) t)) (fun v h' => v = none ∧ ∃ f, mt_hi (zm_T β 0) (zm_n β 0) (zm_T β 1) (zm_n β 1) (zm_c τ) f 0 ∧ h' = zk_mk G sw σ α (zk_md τ (zk_ua β 8 f) t))) : ∀ (k : Nat) (n : Nat) (f : Nat → Int), (1 ≤ n) → (n ≤ zm_n β 1 - i + 1) → (zm_n β 1 - i + 1 < n + k) → (zm_R τ β f i (mt_D 2 0 n 0)) → zk_W G mM_learn (2, 46) 0 0 275 [some (.inr (some 22)), some (.inl (i : Int)), some (.inl (n : Int)), none, none, none] [] (zk_mk G sw σ α (zk_md τ (zk_ua β 8 f) t)) (fun v h' => v = none ∧ ∃ f, mt_hi (zm_T β 0) (zm_n β 0) (zm_T β 1) (zm_n β 1) (zm_c τ) f 0 ∧ h' = zk_mk G sw σ α (zk_md τ (zk_ua β 8 f) t)) := by
  intro k
  induction k with
  | zero =>
    intro n f g0 g1 g2 hR
    exfalso
    omega
  | succ k ih =>
    intro n f g0 g1 g2 hR
    have i0 := hI.1
    have i1 := hI.2.1
    have c0 : 0 ≤ τ 0 ∧ τ 0 ≤ 100 := hI.2.2.2 0 (by decide)
    have c1 : 0 ≤ τ 1 ∧ τ 1 ≤ 100 := hI.2.2.2 1 (by decide)
    have c2 : 0 ≤ τ 2 ∧ τ 2 ≤ 100 := hI.2.2.2 2 (by decide)
    have c3 : 0 ≤ τ 3 ∧ τ 3 ≤ 100 := hI.2.2.2 3 (by decide)
    have c4 : 0 ≤ τ 4 ∧ τ 4 ≤ 100 := hI.2.2.2 4 (by decide)
    have eO : zm_n β 0 = (β 1 0).toNat := rfl
    have eN : zm_n β 1 = (β 1 1).toNat := rfl
    refine zk_iload_n dM_learn_275 rfl ?_
    refine zk_aload_n dM_learn_276 rfl ?_
    refine zk_get zfM_13 dM_learn_277 (v := .inr (some 24)) rfl (by decide) rfl ?_
    refine zk_iconst dM_learn_280 ?_
    refine zk_iald dM_learn_281 (n := 2) (f := β 1) rfl (by omega) (by omega) (by omega) ?_
    refine zk_W.to (ls' := [some (.inr (some 22)), some (.inl (i : Int)), some (.inl (n : Int)), none, none, none]) (st' := [.inl (β 1 1), .inl (n : Int)]) (h' := (zk_mk G sw σ α (zk_md τ (zk_ua β 8 f) t))) rfl rfl rfl ?_
    refine zk_iload_n dM_learn_282 rfl ?_
    refine zk_isub dM_learn_283 ?_
    refine zk_icmp_gt (tgt := 339) dM_learn_284 (by decide) ⟨by omega, by omega⟩ ⟨by omega, by omega⟩ (fun h284 => ?_) (fun h284 => ?_)
    · skip
      refine zk_W.drop 2 rfl ?_
      refine hk f (mt_R_mono hR (fun s' k' p' n' _ hok' hd => ?_))
      have hok1 := hok'.1
      unfold mt_D at hd ⊢
      obtain ⟨x1, x2, ⟨x3, -⟩ | ⟨x3, -⟩ | ⟨x3, x4⟩⟩ := hok' <;> omega
    · skip
      refine zk_iconst dM_learn_287 ?_
      refine zk_istore_n (ls' := [some (.inr (some 22)), some (.inl (i : Int)), some (.inl (n : Int)), some (.inl 0), none, none]) dM_learn_288 (by decide) rfl ?_
      obtain hok : zm_ok β i 2 0 n := ⟨by omega, by omega, Or.inr (Or.inr ⟨rfl, rfl⟩)⟩
      refine wM_learn_i2 G sw σ α τ β t hI hi (by omega) hok (fun f x hR => ?_) (zm_n β 0 + 2) 0 f (by omega) (by omega) hR
      refine zk_iinc (ls' := [some (.inr (some 22)), some (.inl (i : Int)), some (.inl ((n : Int) + 1)), some (.inl x), none, none]) dM_learn_333 rfl (by decide) rfl ?_
      refine zk_goto (tgt := 275) dM_learn_336 (by decide) ?_
      have e2 : (n : Int) + 1 = ((n + 1 : Nat) : Int) := by omega
      rw [e2]
      refine zk_W.drop 3 rfl ?_
      exact ih (n + 1) f (by omega) (by omega) (by omega) hR

set_option maxRecDepth 100000 in
set_option maxHeartbeats 4000000 in
theorem wM_learn_r (G : zk_G) (sw : Bool) (σ : Nat → Int) (α : Nat → Nat → Int) (τ : Nat → Int) (β : Nat → Nat → Int) (t : zk_H) (hI : zm_I τ β) : ∀ (n : Nat) (f : Nat → Int), n ≤ zm_n β 1 → (mt_hi (zm_T β 0) (zm_n β 0) (zm_T β 1) (zm_n β 1) (zm_c τ) f n) → (∀ i' s, i' < n → s ≤ zm_n β 0 → mt_tb f i' s = 1000000) → zk_W G mM_learn (2, 46) 0 0 84 [some (.inr (some 22)), some (.inl ((n : Int) - 1)), none, none, none, none] [] (zk_mk G sw σ α (zk_md τ (zk_ua β 8 f) t)) (fun v h' => v = none ∧ ∃ f, mt_hi (zm_T β 0) (zm_n β 0) (zm_T β 1) (zm_n β 1) (zm_c τ) f 0 ∧ h' = zk_mk G sw σ α (zk_md τ (zk_ua β 8 f) t)) := by
  intro n
  induction n with
  | zero =>
    intro f hle hh hf
    have i0 := hI.1
    have i1 := hI.2.1
    have c0 : 0 ≤ τ 0 ∧ τ 0 ≤ 100 := hI.2.2.2 0 (by decide)
    have c1 : 0 ≤ τ 1 ∧ τ 1 ≤ 100 := hI.2.2.2 1 (by decide)
    have c2 : 0 ≤ τ 2 ∧ τ 2 ≤ 100 := hI.2.2.2 2 (by decide)
    have c3 : 0 ≤ τ 3 ∧ τ 3 ≤ 100 := hI.2.2.2 3 (by decide)
    have c4 : 0 ≤ τ 4 ∧ τ 4 ≤ 100 := hI.2.2.2 4 (by decide)
    have eO : zm_n β 0 = (β 1 0).toNat := rfl
    have eN : zm_n β 1 = (β 1 1).toNat := rfl
    refine zk_iload_n dM_learn_84 rfl ?_
    refine zk_if_lt (tgt := 345) dM_learn_85 (by decide) ⟨by omega, by omega⟩ (fun h85 => ?_) (fun h85 => ?_)
    · skip
      exact zk_ret dM_learn_345 rfl ⟨rfl, f, hh, rfl⟩
    · skip
      exfalso; omega
  | succ n ih =>
    intro f hle hh hf
    have i0 := hI.1
    have i1 := hI.2.1
    have c0 : 0 ≤ τ 0 ∧ τ 0 ≤ 100 := hI.2.2.2 0 (by decide)
    have c1 : 0 ≤ τ 1 ∧ τ 1 ≤ 100 := hI.2.2.2 1 (by decide)
    have c2 : 0 ≤ τ 2 ∧ τ 2 ≤ 100 := hI.2.2.2 2 (by decide)
    have c3 : 0 ≤ τ 3 ∧ τ 3 ≤ 100 := hI.2.2.2 3 (by decide)
    have c4 : 0 ≤ τ 4 ∧ τ 4 ≤ 100 := hI.2.2.2 4 (by decide)
    have eO : zm_n β 0 = (β 1 0).toNat := rfl
    have eN : zm_n β 1 = (β 1 1).toNat := rfl
    have en : ((n + 1 : Nat) : Int) - 1 = (n : Int) := by omega
    rw [en]
    have hnlt : n < zm_n β 1 := by omega
    refine zk_iload_n dM_learn_84 rfl ?_
    refine zk_if_lt (tgt := 345) dM_learn_85 (by decide) ⟨by omega, by omega⟩ (fun h85 => ?_) (fun h85 => ?_)
    · skip
      exfalso; omega
    · skip
      refine zk_iconst dM_learn_88 ?_
      refine zk_istore_n (ls' := [some (.inr (some 22)), some (.inl (n : Int)), some (.inl 0), none, none, none]) dM_learn_89 (by decide) rfl ?_
      refine wM_learn_o0 G sw σ α τ β t hI (i := n) hnlt (fun f hR => ?_) (zm_n β 0 + 1) 0 f (by omega) (by omega) (mt_R_0 hh hf (fun s k p n' hok hd => by have := hok.1; unfold mt_D at hd; omega))
      refine zk_iconst dM_learn_184 ?_
      refine zk_istore_n (ls' := [some (.inr (some 22)), some (.inl (n : Int)), some (.inl 0), none, none, none]) dM_learn_185 (by decide) rfl ?_
      refine wM_learn_o1 G sw σ α τ β t hI (i := n) hnlt (fun f hR => ?_) (n + 1) 0 f (by omega) (by omega) hR
      refine zk_iconst dM_learn_273 ?_
      refine zk_istore_n (ls' := [some (.inr (some 22)), some (.inl (n : Int)), some (.inl 1), none, none, none]) dM_learn_274 (by decide) rfl ?_
      refine wM_learn_o2 G sw σ α τ β t hI (i := n) hnlt (fun f hR => ?_) (zm_n β 1 + 1) 1 f (by omega) (by omega) (by omega) hR
      refine zk_iinc (ls' := [some (.inr (some 22)), some (.inl ((n : Int) + (-1))), none, none, none, none]) dM_learn_339 rfl (by decide) rfl ?_
      refine zk_goto (tgt := 84) dM_learn_342 (by decide) ?_
      have e3 : (n : Int) + (-1) = (n : Int) - 1 := by omega
      rw [e3]
      exact ih f (by omega) (mt_R_all (by omega) hnlt hI.2.2.2 hR (fun s k p n' _ hok => by unfold mt_D; obtain ⟨x1, x2, ⟨x3, -⟩ | ⟨x3, -⟩ | ⟨x3, x4⟩⟩ := hok <;> omega)) hR.2.2

def mt_v (i nN : Nat) : Int := if i = nN then 0 else 1000000
/-- rows above i are as they begin -/
def mt_bg (nO nN : Nat) (f : Nat → Int) (i : Nat) : Prop := (∀ s, i ≤ nN → s ≤ nO → mt_tb f nN s = 0) ∧ ∀ i' s, i ≤ i' → i' < nN → s ≤ nO → mt_tb f i' s = 1000000
theorem mt_bg_step {nO nN : Nat} {f : Nat → Int} {i : Nat} (hO : nO ≤ 40) (hi : i ≤ nN) (h : mt_bg nO nN f (i + 1)) : mt_bg nO nN (mt_fs (fun _ => mt_v i nN) f i (nO + 1)) i := by
  refine ⟨fun s _ hs => ?_, fun i' s g1 g2 hs => ?_⟩
  · by_cases e : i = nN
    · subst e
      rw [mt_fs_tbi (by omega)]
      unfold mt_v
      rw [if_pos rfl]
    · rw [mt_fs_tb (by omega) (by omega)]
      exact h.1 s (by omega) hs
  · by_cases e : i' = i
    · subst e
      rw [mt_fs_tbi (by omega)]
      unfold mt_v
      rw [if_neg (by omega)]
    · rw [mt_fs_tb (by omega) (by omega)]
      exact h.2 i' s (by omega) g2 hs

set_option maxRecDepth 100000 in
set_option maxHeartbeats 4000000 in
theorem wM_learn_b1 (G : zk_G) (sw : Bool) (σ : Nat → Int) (α : Nat → Nat → Int) (τ : Nat → Int) (β : Nat → Nat → Int) (t : zk_H) (hI : zm_I τ β) {i : Nat} (hi : i ≤ zm_n β 1) {f : Nat → Int} (hk : zk_W G mM_learn (2, 46) 0 0 69 [some (.inr (some 22)), some (.inl (i : Int)), none, none, none, none] [] (zk_mk G sw σ α (zk_md τ (zk_ua β 8 (mt_fs (fun _ => mt_v i (zm_n β 1)) f i (zm_n β 0 + 1))) t)) (fun v h' => v = none ∧ ∃ f, mt_hi (zm_T β 0) (zm_n β 0) (zm_T β 1) (zm_n β 1) (zm_c τ) f 0 ∧ h' = zk_mk G sw σ α (zk_md τ (zk_ua β 8 f) t))) : ∀ (k : Nat) (s : Nat), (s ≤ zm_n β 0 + 1) → (zm_n β 0 + 1 < s + k) → zk_W G mM_learn (2, 46) 0 0 26 [some (.inr (some 22)), some (.inl (i : Int)), some (.inl (s : Int)), none, none, none] [] (zk_mk G sw σ α (zk_md τ (zk_ua β 8 (mt_fs (fun _ => mt_v i (zm_n β 1)) f i s)) t)) (fun v h' => v = none ∧ ∃ f, mt_hi (zm_T β 0) (zm_n β 0) (zm_T β 1) (zm_n β 1) (zm_c τ) f 0 ∧ h' = zk_mk G sw σ α (zk_md τ (zk_ua β 8 f) t)) := by
  intro k
  induction k with
  | zero =>
    intro s g1 g2
    exfalso
    omega
  | succ k ih =>
    intro s g1 g2
    have i0 := hI.1
    have i1 := hI.2.1
    have c0 : 0 ≤ τ 0 ∧ τ 0 ≤ 100 := hI.2.2.2 0 (by decide)
    have c1 : 0 ≤ τ 1 ∧ τ 1 ≤ 100 := hI.2.2.2 1 (by decide)
    have c2 : 0 ≤ τ 2 ∧ τ 2 ≤ 100 := hI.2.2.2 2 (by decide)
    have c3 : 0 ≤ τ 3 ∧ τ 3 ≤ 100 := hI.2.2.2 3 (by decide)
    have c4 : 0 ≤ τ 4 ∧ τ 4 ≤ 100 := hI.2.2.2 4 (by decide)
    have eO : zm_n β 0 = (β 1 0).toNat := rfl
    have eN : zm_n β 1 = (β 1 1).toNat := rfl
    refine zk_iload_n dM_learn_26 rfl ?_
    refine zk_aload_n dM_learn_27 rfl ?_
    refine zk_get zfM_13 dM_learn_28 (v := .inr (some 24)) rfl (by decide) rfl ?_
    refine zk_iconst dM_learn_31 ?_
    refine zk_iald dM_learn_32 (n := 2) (f := β 1) rfl (by omega) (by omega) (by omega) ?_
    refine zk_W.to (ls' := [some (.inr (some 22)), some (.inl (i : Int)), some (.inl (s : Int)), none, none, none]) (st' := [.inl (β 1 0), .inl (s : Int)]) (h' := (zk_mk G sw σ α (zk_md τ (zk_ua β 8 (mt_fs (fun _ => mt_v i (zm_n β 1)) f i s)) t))) rfl rfl rfl ?_
    refine zk_icmp_gt (tgt := 69) dM_learn_33 (by decide) ⟨by omega, by omega⟩ ⟨by omega, by omega⟩ (fun h33 => ?_) (fun h33 => ?_)
    · skip
      have es : s = zm_n β 0 + 1 := by omega
      subst es
      refine zk_W.drop 2 rfl ?_
      exact hk
    · skip
      refine zk_aload_n dM_learn_36 rfl ?_
      refine zk_get zfM_34 dM_learn_37 (v := .inr (some 31)) rfl (by decide) rfl ?_
      refine zk_bipush dM_learn_40 (by decide) ?_
      refine zk_iload_n dM_learn_42 rfl ?_
      refine zk_imul dM_learn_43 ?_
      refine zk_iload_n dM_learn_44 rfl ?_
      refine zk_iadd dM_learn_45 ?_
      refine zk_iload_n dM_learn_46 rfl ?_
      refine zk_aload_n dM_learn_47 rfl ?_
      refine zk_get zfM_13 dM_learn_48 (v := .inr (some 24)) rfl (by decide) rfl ?_
      refine zk_iconst dM_learn_51 ?_
      refine zk_iald dM_learn_52 (n := 2) (f := β 1) rfl (by omega) (by omega) (by omega) ?_
      refine zk_W.to (ls' := [some (.inr (some 22)), some (.inl (i : Int)), some (.inl (s : Int)), none, none, none]) (st' := [.inl (β 1 1), .inl (i : Int), .inl ((41 * (i : Int)) + (s : Int)), .inr (some 31)]) (h' := (zk_mk G sw σ α (zk_md τ (zk_ua β 8 (mt_fs (fun _ => mt_v i (zm_n β 1)) f i s)) t))) rfl rfl rfl ?_
      refine zk_icmp_ne (tgt := 60) dM_learn_53 (by decide) ⟨by omega, by omega⟩ ⟨by omega, by omega⟩ (fun h53 => ?_) (fun h53 => ?_)
      · skip
        refine zk_ldc (z := 1000000) dM_learn_60 zcM_81 ?_
        refine zk_iast dM_learn_62 (n := 1681) (f := mt_fs (fun _ => mt_v i (zm_n β 1)) f i s) (h' := (zk_mk G sw σ α (zk_md τ (zk_ua (zk_ua β 8 (mt_fs (fun _ => mt_v i (zm_n β 1)) f i s)) 8 (zk_up (mt_fs (fun _ => mt_v i (zm_n β 1)) f i s) ((41 * (i : Int)) + (s : Int)).toNat 1000000)) t))) rfl (by decide) (by omega) (by omega) (by omega) rfl ?_
        refine zk_iinc (ls' := [some (.inr (some 22)), some (.inl (i : Int)), some (.inl ((s : Int) + 1)), none, none, none]) dM_learn_63 rfl (by decide) rfl ?_
        refine zk_goto (tgt := 26) dM_learn_66 (by decide) ?_
        have ev : (1000000 : Int) = mt_v i (zm_n β 1) := by unfold mt_v; first | rw [if_pos (by omega)] | rw [if_neg (by omega)]
        have e2 : (s : Int) + 1 = ((s + 1 : Nat) : Int) := by omega
        rw [show (41 * (i : Int) + (s : Int)).toNat = 41 * i + s by omega, ev, show zk_up (mt_fs (fun _ => mt_v i (zm_n β 1)) f i s) (41 * i + s) (mt_v i (zm_n β 1)) = mt_fs (fun _ => mt_v i (zm_n β 1)) f i (s + 1) from mt_fs_up (fun _ => mt_v i (zm_n β 1)) f i s, zk_ua_ua, e2]
        exact ih (s + 1) (by omega) (by omega)
      · skip
        refine zk_iconst dM_learn_56 ?_
        refine zk_goto (tgt := 62) dM_learn_57 (by decide) ?_
        refine zk_iast dM_learn_62 (n := 1681) (f := mt_fs (fun _ => mt_v i (zm_n β 1)) f i s) (h' := (zk_mk G sw σ α (zk_md τ (zk_ua (zk_ua β 8 (mt_fs (fun _ => mt_v i (zm_n β 1)) f i s)) 8 (zk_up (mt_fs (fun _ => mt_v i (zm_n β 1)) f i s) ((41 * (i : Int)) + (s : Int)).toNat 0)) t))) rfl (by decide) (by omega) (by omega) (by omega) rfl ?_
        refine zk_iinc (ls' := [some (.inr (some 22)), some (.inl (i : Int)), some (.inl ((s : Int) + 1)), none, none, none]) dM_learn_63 rfl (by decide) rfl ?_
        refine zk_goto (tgt := 26) dM_learn_66 (by decide) ?_
        have ev : (0 : Int) = mt_v i (zm_n β 1) := by unfold mt_v; first | rw [if_pos (by omega)] | rw [if_neg (by omega)]
        have e2 : (s : Int) + 1 = ((s + 1 : Nat) : Int) := by omega
        rw [show (41 * (i : Int) + (s : Int)).toNat = 41 * i + s by omega, ev, show zk_up (mt_fs (fun _ => mt_v i (zm_n β 1)) f i s) (41 * i + s) (mt_v i (zm_n β 1)) = mt_fs (fun _ => mt_v i (zm_n β 1)) f i (s + 1) from mt_fs_up (fun _ => mt_v i (zm_n β 1)) f i s, zk_ua_ua, e2]
        exact ih (s + 1) (by omega) (by omega)

set_option maxRecDepth 100000 in
set_option maxHeartbeats 4000000 in
theorem wM_learn_b (G : zk_G) (sw : Bool) (σ : Nat → Int) (α : Nat → Nat → Int) (τ : Nat → Int) (β : Nat → Nat → Int) (t : zk_H) (hI : zm_I τ β) : ∀ (n : Nat) (f : Nat → Int), n ≤ zm_n β 1 + 1 → mt_bg (zm_n β 0) (zm_n β 1) f n → zk_W G mM_learn (2, 46) 0 0 20 [some (.inr (some 22)), some (.inl ((n : Int) - 1)), none, none, none, none] [] (zk_mk G sw σ α (zk_md τ (zk_ua β 8 f) t)) (fun v h' => v = none ∧ ∃ f, mt_hi (zm_T β 0) (zm_n β 0) (zm_T β 1) (zm_n β 1) (zm_c τ) f 0 ∧ h' = zk_mk G sw σ α (zk_md τ (zk_ua β 8 f) t)) := by
  intro n
  induction n with
  | zero =>
    intro f hle hb
    have i0 := hI.1
    have i1 := hI.2.1
    have c0 : 0 ≤ τ 0 ∧ τ 0 ≤ 100 := hI.2.2.2 0 (by decide)
    have c1 : 0 ≤ τ 1 ∧ τ 1 ≤ 100 := hI.2.2.2 1 (by decide)
    have c2 : 0 ≤ τ 2 ∧ τ 2 ≤ 100 := hI.2.2.2 2 (by decide)
    have c3 : 0 ≤ τ 3 ∧ τ 3 ≤ 100 := hI.2.2.2 3 (by decide)
    have c4 : 0 ≤ τ 4 ∧ τ 4 ≤ 100 := hI.2.2.2 4 (by decide)
    have eO : zm_n β 0 = (β 1 0).toNat := rfl
    have eN : zm_n β 1 = (β 1 1).toNat := rfl
    refine zk_iload_n dM_learn_20 rfl ?_
    refine zk_if_lt (tgt := 75) dM_learn_21 (by decide) ⟨by omega, by omega⟩ (fun h21 => ?_) (fun h21 => ?_)
    · skip
      refine zk_aload_n dM_learn_75 rfl ?_
      refine zk_get zfM_13 dM_learn_76 (v := .inr (some 24)) rfl (by decide) rfl ?_
      refine zk_iconst dM_learn_79 ?_
      refine zk_iald dM_learn_80 (n := 2) (f := β 1) rfl (by omega) (by omega) (by omega) ?_
      refine zk_W.to (ls' := [some (.inr (some 22)), some (.inl (((0 : Nat) : Int) - 1)), none, none, none, none]) (st' := [.inl (β 1 1)]) (h' := (zk_mk G sw σ α (zk_md τ (zk_ua β 8 f) t))) rfl rfl rfl ?_
      refine zk_iconst dM_learn_81 ?_
      refine zk_isub dM_learn_82 ?_
      refine zk_istore_n (ls' := [some (.inr (some 22)), some (.inl ((β 1 1) - 1)), none, none, none, none]) dM_learn_83 (by decide) rfl ?_
      have e4 : β 1 1 - 1 = ((zm_n β 1 : Nat) : Int) - 1 := by omega
      rw [e4]
      refine wM_learn_r G sw σ α τ β t hI (zm_n β 1) f (Nat.le_refl _) ⟨fun s hs => hb.1 s (by omega) hs, fun i s g1 g2 => by omega, fun i s g1 g2 hs => ?_⟩ (fun i' s g1 hs => hb.2 i' s (by omega) g1 hs)
      rw [show i = zm_n β 1 by omega, hb.1 s (by omega) hs]
      omega
    · skip
      exfalso; omega
  | succ n ih =>
    intro f hle hb
    have i0 := hI.1
    have i1 := hI.2.1
    have c0 : 0 ≤ τ 0 ∧ τ 0 ≤ 100 := hI.2.2.2 0 (by decide)
    have c1 : 0 ≤ τ 1 ∧ τ 1 ≤ 100 := hI.2.2.2 1 (by decide)
    have c2 : 0 ≤ τ 2 ∧ τ 2 ≤ 100 := hI.2.2.2 2 (by decide)
    have c3 : 0 ≤ τ 3 ∧ τ 3 ≤ 100 := hI.2.2.2 3 (by decide)
    have c4 : 0 ≤ τ 4 ∧ τ 4 ≤ 100 := hI.2.2.2 4 (by decide)
    have eO : zm_n β 0 = (β 1 0).toNat := rfl
    have eN : zm_n β 1 = (β 1 1).toNat := rfl
    have en : ((n + 1 : Nat) : Int) - 1 = (n : Int) := by omega
    rw [en]
    refine zk_iload_n dM_learn_20 rfl ?_
    refine zk_if_lt (tgt := 75) dM_learn_21 (by decide) ⟨by omega, by omega⟩ (fun h21 => ?_) (fun h21 => ?_)
    · skip
      exfalso; omega
    · skip
      refine zk_iconst dM_learn_24 ?_
      refine zk_istore_n (ls' := [some (.inr (some 22)), some (.inl (n : Int)), some (.inl 0), none, none, none]) dM_learn_25 (by decide) rfl ?_
      have ez : zk_ua β 8 f = zk_ua β 8 (mt_fs (fun _ => mt_v n (zm_n β 1)) f n 0) := by rw [mt_fs_0]
      rw [ez]
      refine wM_learn_b1 G sw σ α τ β t hI (i := n) (by omega) (f := f) ?_ (zm_n β 0 + 2) 0 (by omega) (by omega)
      refine zk_iinc (ls' := [some (.inr (some 22)), some (.inl ((n : Int) + (-1))), none, none, none, none]) dM_learn_69 rfl (by decide) rfl ?_
      refine zk_goto (tgt := 20) dM_learn_72 (by decide) ?_
      have e3 : (n : Int) + (-1) = (n : Int) - 1 := by omega
      rw [e3]
      exact ih _ (by omega) (mt_bg_step (by omega) (by omega) hb)

/-- the reference's table is known -/
def zm_K (τ : Nat → Int) (β : Nat → Nat → Int) : Prop := mt_rest (zm_T β 0) (zm_n β 0) (zm_T β 1) (zm_n β 1) (zm_c τ) (mt_tb (β 8)) ∧ ∀ i s, i ≤ zm_n β 1 → s ≤ zm_n β 0 → 0 ≤ mt_tb (β 8) i s ∧ mt_tb (β 8) i s ≤ 4100

set_option maxRecDepth 100000 in
set_option maxHeartbeats 4000000 in
theorem kM_learn (G : zk_G) (sw : Bool) (σ : Nat → Int) (α : Nat → Nat → Int) (τ : Nat → Int) (β : Nat → Nat → Int) (t : zk_H) (hI : zm_I τ β) (h9 : τ 9 = 0 ∨ τ 9 = 1) (hkn : τ 9 = 1 → zm_K τ β) : zk_K G mM_learn (2, 46) 0 0 [.inr (some 22)] (zk_mk G sw σ α (zk_md τ β t)) (fun v h' => v = none ∧ ∃ f, zm_K τ (zk_ua β 8 f) ∧ h' = zk_mk G sw σ α (zk_md (zk_up τ 9 1) (zk_ua β 8 f) t)) := by
  have i0 := hI.1
  have i1 := hI.2.1
  have c0 : 0 ≤ τ 0 ∧ τ 0 ≤ 100 := hI.2.2.2 0 (by decide)
  have c1 : 0 ≤ τ 1 ∧ τ 1 ≤ 100 := hI.2.2.2 1 (by decide)
  have c2 : 0 ≤ τ 2 ∧ τ 2 ≤ 100 := hI.2.2.2 2 (by decide)
  have c3 : 0 ≤ τ 3 ∧ τ 3 ≤ 100 := hI.2.2.2 3 (by decide)
  have c4 : 0 ≤ τ 4 ∧ τ 4 ≤ 100 := hI.2.2.2 4 (by decide)
  have eO : zm_n β 0 = (β 1 0).toNat := rfl
  have eN : zm_n β 1 = (β 1 1).toNat := rfl
  refine zk_K.of (ls := [some (.inr (some 22)), none, none, none, none, none]) (by decide +kernel) (Nat.le_of_ble_eq_true rfl) rfl ?_
  refine zk_aload_n dM_learn_0 rfl ?_
  refine zk_get zfM_68 dM_learn_1 (v := .inl (τ 9)) rfl (by decide) rfl ?_
  refine zk_if_eq (tgt := 8) dM_learn_4 (by decide) ⟨by omega, by omega⟩ (fun h4 => ?_) (fun h4 => ?_)
  · skip
    refine zk_aload_n dM_learn_8 rfl ?_
    refine zk_iconst dM_learn_9 ?_
    refine zk_put zfM_68 dM_learn_10 (h' := (zk_mk G sw σ α (zk_md (zk_up τ 9 1) β t))) rfl (by decide) (Nat.le_of_ble_eq_true rfl) rfl rfl rfl ?_
    refine zk_aload_n dM_learn_13 rfl ?_
    refine zk_get zfM_13 dM_learn_14 (v := .inr (some 24)) rfl (by decide) rfl ?_
    refine zk_iconst dM_learn_17 ?_
    refine zk_iald dM_learn_18 (n := 2) (f := β 1) rfl (by omega) (by omega) (by omega) ?_
    refine zk_W.to (ls' := [some (.inr (some 22)), none, none, none, none, none]) (st' := [.inl (β 1 1)]) (h' := (zk_mk G sw σ α (zk_md (zk_up τ 9 1) β t))) rfl rfl rfl ?_
    refine zk_istore_n (ls' := [some (.inr (some 22)), some (.inl (β 1 1)), none, none, none, none]) dM_learn_19 (by decide) rfl ?_
    have e4 : β 1 1 = ((zm_n β 1 + 1 : Nat) : Int) - 1 := by omega
    rw [e4]
    have ez : β = zk_ua β 8 (β 8) := (zk_ua_self β 8).symm
    have key := wM_learn_b G sw σ α (zk_up τ 9 1) β t hI (zm_n β 1 + 1) (β 8) (Nat.le_refl _) ⟨fun s g => by omega, fun i' s g1 g2 => by omega⟩
    rw [← ez] at key
    refine key.mono (fun v h' hq => ?_)
    obtain ⟨q1, f, q2, q3⟩ := hq
    exact ⟨q1, f, ⟨⟨q2.1, fun i s g1 g2 => q2.2.1 i s (Nat.zero_le i) g1 g2⟩, fun i s g1 g2 => q2.2.2 i s (Nat.zero_le i) g1 g2⟩, q3⟩
  · skip
    have e9 : τ 9 = 1 := by omega
    refine zk_ret dM_learn_7 rfl ⟨rfl, β 8, ?_, ?_⟩
    · rw [zk_ua_self]; exact hkn e9
    · rw [zk_ua_self, show zk_up τ 9 1 = τ by rw [← e9]; exact zk_up_self τ 9]
