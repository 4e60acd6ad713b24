/-- while act k is done: j of its bytes are made -/
def mt_pf (O K P M0 M : Nat → Int) (lb : Nat → Nat → Int) (n0 k j : Nat) : Prop := (∀ x, x < n0 → M x = M0 x) ∧ ∀ j', j' < j → M (n0 + j') = mt_by O K P M lb k j'
theorem mt_pf_step {O K P M0 M : Nat → Int} {lb : Nat → Nat → Int} {n0 k j : Nat} {x : Int} (h : mt_pf O K P M0 M lb n0 k j) (hx : x = mt_by O K P M lb k j) (hs : K k = 1 → (P k).toNat < n0) : mt_pf O K P M0 (zk_up M (n0 + j) x) lb n0 k (j + 1) := by
  obtain ⟨h1, h2⟩ := h
  have st : ∀ j', j' ≤ j → mt_by O K P (zk_up M (n0 + j) x) lb k j' = mt_by O K P M lb k j' := by
    intro j' hj
    unfold mt_by
    by_cases e0 : K k = 0
    · rw [if_pos e0, if_pos e0]
    · rw [if_neg e0, if_neg e0]
      by_cases e1 : K k = 1
      · rw [if_pos e1, if_pos e1, zk_up_ne (by have := hs e1; omega)]
      · rw [if_neg e1, if_neg e1]
  refine ⟨fun y hy => ?_, fun j' hj' => ?_⟩
  · rw [zk_up_ne (by omega)]; exact h1 y hy
  · rw [st j' (by omega)]
    by_cases e : j' = j
    · subst e
      rw [zk_up_at]; exact hx
    · rw [zk_up_ne (by omega)]; exact h2 j' (by omega)
/-- the acts below m are done -/
def zm_md (β : Nat → Nat → Int) (M : Nat → Int) (m : Nat) : Prop := (∀ k, k < m → ¬ mt_fl (β 1 0) (β 2) (β 3) (β 4) k) ∧ mt_mk (zm_T β 0) (β 2) (β 3) (β 4) M (zm_lb β) m ∧ mt_isum (β 4) m ≤ 80
theorem zm_md_step {τ : Nat → Int} {β : Nat → Nat → Int} {M M' : Nat → Int} {m : Nat} (hJ : zm_J τ β) (hm : (m : Int) < τ 5) (h : zm_md β M m) (hf : ¬ mt_fl (β 1 0) (β 2) (β 3) (β 4) m) (hp : mt_pf (zm_T β 0) (β 2) (β 3) M M' (zm_lb β) (mt_isum (β 4) m).toNat m (β 4 m).toNat) : zm_md β M' (m + 1) := by
  obtain ⟨h1, h2, h4⟩ := h
  obtain ⟨p1, p2⟩ := hp
  have hA := hJ.2.2.2.2.2.1
  have hC : ∀ k, k < (τ 5).toNat → 1 ≤ β 4 k := fun k hk => (hA k hk).2.1.1
  have hfm : ¬ (80 < mt_isum (β 4) m + β 4 m) := fun e => hf (Or.inl e)
  refine ⟨fun k hk => ?_, fun k hk j hj => ?_, by show mt_isum (β 4) m + β 4 m ≤ 80; omega⟩
  · by_cases e : k = m
    · subst e; exact hf
    · exact h1 k (by omega)
  · by_cases e : k = m
    · subst e
      exact p2 j (by omega)
    · have hi1 := mt_isum_le (C := β 4) (n := k + 1) (m := m) (by omega) (fun k' hk' => hC k' (by omega))
      have hi0 := mt_isum_rg (C := β 4) (n := k) (fun k' hk' => hC k' (by omega))
      have hi1 : mt_isum (β 4) k + β 4 k ≤ mt_isum (β 4) m := hi1
      rw [p1 _ (by omega), h2 k (by omega) j hj]
      unfold mt_by
      by_cases e0 : β 2 k = 0
      · rw [if_pos e0, if_pos e0]
      · rw [if_neg e0, if_neg e0]
        by_cases e1 : β 2 k = 1
        · have hfk := h1 k (by omega)
          have hP := (hA k (by omega)).2.2
          have hq : ¬ (mt_isum (β 4) k ≤ β 3 k) := fun z => hfk (Or.inr (Or.inr ⟨e1, z⟩))
          rw [if_pos e1, if_pos e1, p1 _ (by omega)]
        · rw [if_neg e1, if_neg e1]

set_option maxRecDepth 100000 in
set_option maxHeartbeats 4000000 in
theorem wM_make_l (G : zk_G) (sw : Bool) (σ : Nat → Int) (α : Nat → Nat → Int) (τ : Nat → Int) (β : Nat → Nat → Int) (t : zk_H) (hJ : zm_J τ β) {m : Nat} (hm : (m : Int) < τ 5) (hfl : ¬ (80 < mt_isum (β 4) m + β 4 m ∨ (β 2 m = 0 ∧ β 1 0 < β 3 m + β 4 m) ∨ (β 2 m = 1 ∧ mt_isum (β 4) m ≤ β 3 m))) {M0 : Nat → Int} {Q : Option zk_V → zk_H → Prop} (hk : ∀ M, mt_pf (zm_T β 0) (β 2) (β 3) M0 M (zm_lb β) (mt_isum (β 4) m).toNat m (β 4 m).toNat → zk_W G mM_make (2, 45) 0 0 201 [some (.inr (some 22)), some (.inl (m : Int)), none, none, none, none] [] (zk_mk G sw σ α (zk_md (zk_up τ 8 (mt_isum (β 4) m + β 4 m)) (zk_ua β 7 M) t)) Q) : ∀ (k : Nat) (j : Nat) (M : Nat → Int), ((j : Int) ≤ β 4 m) → (β 4 m < (j : Int) + k) → (mt_pf (zm_T β 0) (β 2) (β 3) M0 M (zm_lb β) (mt_isum (β 4) m).toNat m j) → zk_W G mM_make (2, 45) 0 0 115 [some (.inr (some 22)), some (.inl (m : Int)), some (.inl (β 3 m)), some (.inl (β 4 m)), some (.inl 0), some (.inl (j : Int))] [] (zk_mk G sw σ α (zk_md (zk_up τ 8 (mt_isum (β 4) m + (j : Int))) (zk_ua β 7 M) t)) Q := by
  intro k
  induction k with
  | zero =>
    intro j M g1 g2 hpf
    exfalso
    omega
  | succ k ih =>
    intro j M g1 g2 hpf
    have hI := hJ.1
    have i0 := hI.1
    have i1 := hI.2.1
    have c0 : 0 ≤ τ 0 ∧ τ 0 ≤ 100 := hI.2.2.2 0 (by decide)
    have c1 : 0 ≤ τ 1 ∧ τ 1 ≤ 100 := hI.2.2.2 1 (by decide)
    have c2 : 0 ≤ τ 2 ∧ τ 2 ≤ 100 := hI.2.2.2 2 (by decide)
    have c3 : 0 ≤ τ 3 ∧ τ 3 ≤ 100 := hI.2.2.2 3 (by decide)
    have c4 : 0 ≤ τ 4 ∧ τ 4 ≤ 100 := hI.2.2.2 4 (by decide)
    have j5 := hJ.2.1
    have j6 := hJ.2.2.1
    have j7 := hJ.2.2.2.1
    have j8 := hJ.2.2.2.2.1
    have hA := hJ.2.2.2.2.2.1
    obtain ⟨a1, a2, a3⟩ := hA m (by omega)
    have his := mt_isum_rg (C := β 4) (n := m) (fun k' hk' => (hA k' (by omega)).2.1.1)
    refine zk_iload dM_make_115 rfl ?_
    refine zk_iload_n dM_make_117 rfl ?_
    refine zk_icmp_ge (tgt := 201) dM_make_118 (by decide) ⟨by omega, by omega⟩ ⟨by omega, by omega⟩ (fun h118 => ?_) (fun h118 => ?_)
    · skip
      have ej : (β 4 m).toNat = j := by omega
      have ej2 : (j : Int) = β 4 m := by omega
      rw [ej2]
      rw [← ej] at hpf
      refine zk_W.drop 2 rfl (zk_W.drop 3 rfl (zk_W.drop 4 rfl (zk_W.drop 5 rfl ?_)))
      exact hk M hpf
    · skip
      refine zk_aload_n dM_make_121 rfl ?_
      refine zk_get zfM_31 dM_make_122 (v := .inr (some 30)) rfl (by decide) rfl ?_
      refine zk_aload_n dM_make_125 rfl ?_
      refine zk_get zfM_65 dM_make_126 (v := .inl (mt_isum (β 4) m + (j : Int))) rfl (by decide) rfl ?_
      refine zk_aload_n dM_make_129 rfl ?_
      refine zk_get zfM_16 dM_make_130 (v := .inr (some 25)) rfl (by decide) rfl ?_
      refine zk_iload_n dM_make_133 rfl ?_
      refine zk_iald dM_make_134 (n := 100) (f := β 2) rfl (by omega) (by omega) (by omega) ?_
      refine zk_W.to (ls' := [some (.inr (some 22)), some (.inl (m : Int)), some (.inl (β 3 m)), some (.inl (β 4 m)), some (.inl 0), some (.inl (j : Int))]) (st' := [.inl (β 2 m), .inl (mt_isum (β 4) m + (j : Int)), .inr (some 30)]) (h' := (zk_mk G sw σ α (zk_md (zk_up τ 8 (mt_isum (β 4) m + (j : Int))) (zk_ua β 7 M) t))) rfl rfl rfl ?_
      refine zk_if_ne (tgt := 150) dM_make_135 (by decide) ⟨by omega, by omega⟩ (fun h135 => ?_) (fun h135 => ?_)
      · skip
        refine zk_aload_n dM_make_150 rfl ?_
        refine zk_get zfM_16 dM_make_151 (v := .inr (some 25)) rfl (by decide) rfl ?_
        refine zk_iload_n dM_make_154 rfl ?_
        refine zk_iald dM_make_155 (n := 100) (f := β 2) rfl (by omega) (by omega) (by omega) ?_
        refine zk_W.to (ls' := [some (.inr (some 22)), some (.inl (m : Int)), some (.inl (β 3 m)), some (.inl (β 4 m)), some (.inl 0), some (.inl (j : Int))]) (st' := [.inl (β 2 m), .inl (mt_isum (β 4) m + (j : Int)), .inr (some 30)]) (h' := (zk_mk G sw σ α (zk_md (zk_up τ 8 (mt_isum (β 4) m + (j : Int))) (zk_ua β 7 M) t))) rfl rfl rfl ?_
        refine zk_iconst dM_make_156 ?_
        refine zk_icmp_ne (tgt := 172) dM_make_157 (by decide) ⟨by omega, by omega⟩ ⟨by decide, by decide⟩ (fun h157 => ?_) (fun h157 => ?_)
        · skip
          refine zk_aload_n dM_make_172 rfl ?_
          refine zk_get zfM_25 dM_make_173 (v := .inr (some 28)) rfl (by decide) rfl ?_
          refine zk_bipush dM_make_176 (by decide) ?_
          refine zk_iload_n dM_make_178 rfl ?_
          refine zk_imul dM_make_179 ?_
          refine zk_iload dM_make_180 rfl ?_
          refine zk_iadd dM_make_182 ?_
          refine zk_iald dM_make_183 (n := 4000) (f := β 5) rfl (by omega) (by omega) (by omega) ?_
          refine zk_iast dM_make_184 (n := 80) (f := M) (h' := (zk_mk G sw σ α (zk_md (zk_up τ 8 (mt_isum (β 4) m + (j : Int))) (zk_ua (zk_ua β 7 M) 7 (zk_up M (mt_isum (β 4) m + (j : Int)).toNat (β 5 ((40 * (m : Int)) + (j : Int)).toNat))) t))) rfl (by decide) (by omega) (by omega) (by omega) rfl ?_
          refine zk_aload_n dM_make_185 rfl ?_
          refine zk_dup dM_make_186 ?_
          refine zk_get zfM_65 dM_make_187 (v := .inl (mt_isum (β 4) m + (j : Int))) rfl (by decide) rfl ?_
          refine zk_iconst dM_make_190 ?_
          refine zk_iadd dM_make_191 ?_
          refine zk_put zfM_65 dM_make_192 (h' := (zk_mk G sw σ α (zk_md (zk_up (zk_up τ 8 (mt_isum (β 4) m + (j : Int))) 8 ((mt_isum (β 4) m + (j : Int)) + 1)) (zk_ua (zk_ua β 7 M) 7 (zk_up M (mt_isum (β 4) m + (j : Int)).toNat (β 5 ((40 * (m : Int)) + (j : Int)).toNat))) t))) rfl (by decide) (Nat.le_of_ble_eq_true rfl) rfl rfl rfl ?_
          refine zk_iinc (ls' := [some (.inr (some 22)), some (.inl (m : Int)), some (.inl (β 3 m)), some (.inl (β 4 m)), some (.inl 0), some (.inl ((j : Int) + 1))]) dM_make_195 rfl (by decide) rfl ?_
          refine zk_goto (tgt := 115) dM_make_198 (by decide) ?_
          have e2 : (j : Int) + 1 = ((j + 1 : Nat) : Int) := by omega
          have e3 : mt_isum (β 4) m + (j : Int) + 1 = mt_isum (β 4) m + ((j + 1 : Nat) : Int) := by omega
          have ev : (β 5 ((40 * (m : Int)) + (j : Int)).toNat) = mt_by (zm_T β 0) (β 2) (β 3) M (zm_lb β) m j := by
            unfold mt_by
            rw [if_neg h135, if_neg h157, show (40 * (m : Int) + (j : Int)).toNat = 40 * m + j by omega]
            rfl
          rw [zk_up_up, zk_ua_ua, e3, e2, show (mt_isum (β 4) m + (j : Int)).toNat = (mt_isum (β 4) m).toNat + j by omega]
          exact ih (j + 1) _ (by omega) (by omega) (mt_pf_step hpf ev (fun h1 => by omega))
        · skip
          refine zk_aload_n dM_make_160 rfl ?_
          refine zk_get zfM_31 dM_make_161 (v := .inr (some 30)) rfl (by decide) rfl ?_
          refine zk_iload_n dM_make_164 rfl ?_
          refine zk_iload dM_make_165 rfl ?_
          refine zk_iadd dM_make_167 ?_
          refine zk_iald dM_make_168 (n := 80) (f := M) rfl (by omega) (by omega) (by omega) ?_
          refine zk_goto (tgt := 184) dM_make_169 (by decide) ?_
          refine zk_iast dM_make_184 (n := 80) (f := M) (h' := (zk_mk G sw σ α (zk_md (zk_up τ 8 (mt_isum (β 4) m + (j : Int))) (zk_ua (zk_ua β 7 M) 7 (zk_up M (mt_isum (β 4) m + (j : Int)).toNat (M ((β 3 m) + (j : Int)).toNat))) t))) rfl (by decide) (by omega) (by omega) (by omega) rfl ?_
          refine zk_aload_n dM_make_185 rfl ?_
          refine zk_dup dM_make_186 ?_
          refine zk_get zfM_65 dM_make_187 (v := .inl (mt_isum (β 4) m + (j : Int))) rfl (by decide) rfl ?_
          refine zk_iconst dM_make_190 ?_
          refine zk_iadd dM_make_191 ?_
          refine zk_put zfM_65 dM_make_192 (h' := (zk_mk G sw σ α (zk_md (zk_up (zk_up τ 8 (mt_isum (β 4) m + (j : Int))) 8 ((mt_isum (β 4) m + (j : Int)) + 1)) (zk_ua (zk_ua β 7 M) 7 (zk_up M (mt_isum (β 4) m + (j : Int)).toNat (M ((β 3 m) + (j : Int)).toNat))) t))) rfl (by decide) (Nat.le_of_ble_eq_true rfl) rfl rfl rfl ?_
          refine zk_iinc (ls' := [some (.inr (some 22)), some (.inl (m : Int)), some (.inl (β 3 m)), some (.inl (β 4 m)), some (.inl 0), some (.inl ((j : Int) + 1))]) dM_make_195 rfl (by decide) rfl ?_
          refine zk_goto (tgt := 115) dM_make_198 (by decide) ?_
          have e2 : (j : Int) + 1 = ((j + 1 : Nat) : Int) := by omega
          have e3 : mt_isum (β 4) m + (j : Int) + 1 = mt_isum (β 4) m + ((j + 1 : Nat) : Int) := by omega
          have ev : (M ((β 3 m) + (j : Int)).toNat) = mt_by (zm_T β 0) (β 2) (β 3) M (zm_lb β) m j := by
            unfold mt_by
            rw [if_neg h135, if_pos h157, show (β 3 m + (j : Int)).toNat = (β 3 m).toNat + j by omega]
          rw [zk_up_up, zk_ua_ua, e3, e2, show (mt_isum (β 4) m + (j : Int)).toNat = (mt_isum (β 4) m).toNat + j by omega]
          exact ih (j + 1) _ (by omega) (by omega) (mt_pf_step hpf ev (fun h1 => by omega))
      · skip
        refine zk_aload_n dM_make_138 rfl ?_
        refine zk_iconst dM_make_139 ?_
        refine zk_iload_n dM_make_140 rfl ?_
        refine zk_iload dM_make_141 rfl ?_
        refine zk_iadd dM_make_143 ?_
        refine zk_callV (av := [.inl 0, .inl ((β 3 m) + (j : Int))]) (st := [.inl (mt_isum (β 4) m + (j : Int)), .inr (some 30)]) (d' := (0, 0)) (kc' := 0) (ks' := 0) zbM_72 dM_make_144 rfl (by decide) rfl rfl (Nat.le_of_ble_eq_true rfl) ⟨by decide, by decide⟩ rfl rfl (kM_byteOf G sw σ α (zk_up τ 8 (mt_isum (β 4) m + (j : Int))) (zk_ua β 7 M) t ⟨by omega, by omega⟩) (fun v9 h9 q9 => ?_)
        obtain ⟨rfl, rfl⟩ := q9
        refine zk_W.to (ls' := [some (.inr (some 22)), some (.inl (m : Int)), some (.inl (β 3 m)), some (.inl (β 4 m)), some (.inl 0), some (.inl (j : Int))]) (st' := [.inl (β 0 (40 * 0 + (β 3 m + (j : Int))).toNat), .inl (mt_isum (β 4) m + (j : Int)), .inr (some 30)]) (h' := (zk_mk G sw σ α (zk_md (zk_up τ 8 (mt_isum (β 4) m + (j : Int))) (zk_ua β 7 M) t))) rfl rfl rfl ?_
        refine zk_goto (tgt := 184) dM_make_147 (by decide) ?_
        refine zk_iast dM_make_184 (n := 80) (f := M) (h' := (zk_mk G sw σ α (zk_md (zk_up τ 8 (mt_isum (β 4) m + (j : Int))) (zk_ua (zk_ua β 7 M) 7 (zk_up M (mt_isum (β 4) m + (j : Int)).toNat (β 0 (40 * 0 + (β 3 m + (j : Int))).toNat))) t))) rfl (by decide) (by omega) (by omega) (by omega) rfl ?_
        refine zk_aload_n dM_make_185 rfl ?_
        refine zk_dup dM_make_186 ?_
        refine zk_get zfM_65 dM_make_187 (v := .inl (mt_isum (β 4) m + (j : Int))) rfl (by decide) rfl ?_
        refine zk_iconst dM_make_190 ?_
        refine zk_iadd dM_make_191 ?_
        refine zk_put zfM_65 dM_make_192 (h' := (zk_mk G sw σ α (zk_md (zk_up (zk_up τ 8 (mt_isum (β 4) m + (j : Int))) 8 ((mt_isum (β 4) m + (j : Int)) + 1)) (zk_ua (zk_ua β 7 M) 7 (zk_up M (mt_isum (β 4) m + (j : Int)).toNat (β 0 (40 * 0 + (β 3 m + (j : Int))).toNat))) t))) rfl (by decide) (Nat.le_of_ble_eq_true rfl) rfl rfl rfl ?_
        refine zk_iinc (ls' := [some (.inr (some 22)), some (.inl (m : Int)), some (.inl (β 3 m)), some (.inl (β 4 m)), some (.inl 0), some (.inl ((j : Int) + 1))]) dM_make_195 rfl (by decide) rfl ?_
        refine zk_goto (tgt := 115) dM_make_198 (by decide) ?_
        have e2 : (j : Int) + 1 = ((j + 1 : Nat) : Int) := by omega
        have e3 : mt_isum (β 4) m + (j : Int) + 1 = mt_isum (β 4) m + ((j + 1 : Nat) : Int) := by omega
        have ev : (β 0 (40 * 0 + (β 3 m + (j : Int))).toNat) = mt_by (zm_T β 0) (β 2) (β 3) M (zm_lb β) m j := by
          unfold mt_by
          rw [if_pos h135, show (40 * 0 + (β 3 m + (j : Int))).toNat = 40 * 0 + ((β 3 m).toNat + j) by omega]
          rfl
        rw [zk_up_up, zk_ua_ua, e3, e2, show (mt_isum (β 4) m + (j : Int)).toNat = (mt_isum (β 4) m).toNat + j by omega]
        exact ih (j + 1) _ (by omega) (by omega) (mt_pf_step hpf ev (fun h1 => by omega))

set_option maxRecDepth 100000 in
set_option maxHeartbeats 4000000 in
theorem wM_make (G : zk_G) (sw : Bool) (σ : Nat → Int) (α : Nat → Nat → Int) (τ : Nat → Int) (β : Nat → Nat → Int) (t : zk_H) (hJ : zm_J τ β) : ∀ (k : Nat) (m : Nat) (M : Nat → Int), ((m : Int) ≤ τ 5) → (τ 5 < (m : Int) + k) → (zm_md β M m) → zk_W G mM_make (2, 45) 0 0 22 [some (.inr (some 22)), some (.inl (m : Int)), none, none, none, none] [] (zk_mk G sw σ α (zk_md (zk_up τ 8 (mt_isum (β 4) m)) (zk_ua β 7 M) t)) (fun v h' => ∃ (M : Nat → Int) (m : Nat), (m : Int) ≤ τ 5 ∧ zm_md β M m ∧ h' = zk_mk G sw σ α (zk_md (zk_up τ 8 (mt_isum (β 4) m)) (zk_ua β 7 M) t) ∧ (((m : Int) = τ 5 ∧ v = some (.inl (mt_isum (β 4) m))) ∨ ((m : Int) < τ 5 ∧ mt_fl (β 1 0) (β 2) (β 3) (β 4) m ∧ v = some (.inl (-1000 - (m : Int)))))) := by
  intro k
  induction k with
  | zero =>
    intro m M g1 g2 hmd
    exfalso
    omega
  | succ k ih =>
    intro m M g1 g2 hmd
    have hI := hJ.1
    have i0 := hI.1
    have i1 := hI.2.1
    have c0 : 0 ≤ τ 0 ∧ τ 0 ≤ 100 := hI.2.2.2 0 (by decide)
    have c1 : 0 ≤ τ 1 ∧ τ 1 ≤ 100 := hI.2.2.2 1 (by decide)
    have c2 : 0 ≤ τ 2 ∧ τ 2 ≤ 100 := hI.2.2.2 2 (by decide)
    have c3 : 0 ≤ τ 3 ∧ τ 3 ≤ 100 := hI.2.2.2 3 (by decide)
    have c4 : 0 ≤ τ 4 ∧ τ 4 ≤ 100 := hI.2.2.2 4 (by decide)
    have j5 := hJ.2.1
    have j6 := hJ.2.2.1
    have j7 := hJ.2.2.2.1
    have j8 := hJ.2.2.2.2.1
    have hA := hJ.2.2.2.2.2.1
    have h80 := hmd.2.2
    refine zk_iload_n dM_make_22 rfl ?_
    refine zk_aload_n dM_make_23 rfl ?_
    refine zk_get zfM_56 dM_make_24 (v := .inl (τ 5)) rfl (by decide) rfl ?_
    refine zk_icmp_ge (tgt := 207) dM_make_27 (by decide) ⟨by omega, by omega⟩ ⟨by omega, by omega⟩ (fun h27 => ?_) (fun h27 => ?_)
    · skip
      refine zk_aload_n dM_make_207 rfl ?_
      refine zk_get zfM_65 dM_make_208 (v := .inl (mt_isum (β 4) m)) rfl (by decide) rfl ?_
      exact zk_iret dM_make_211 rfl ⟨M, m, by omega, hmd, rfl, Or.inl ⟨by omega, rfl⟩⟩
    · skip
      obtain ⟨a1, a2, a3⟩ := hA m (by omega)
      have his := mt_isum_rg (C := β 4) (n := m) (fun k' hk' => (hA k' (by omega)).2.1.1)
      refine zk_aload_n dM_make_30 rfl ?_
      refine zk_get zfM_19 dM_make_31 (v := .inr (some 26)) rfl (by decide) rfl ?_
      refine zk_iload_n dM_make_34 rfl ?_
      refine zk_iald dM_make_35 (n := 100) (f := β 3) rfl (by omega) (by omega) (by omega) ?_
      refine zk_W.to (ls' := [some (.inr (some 22)), some (.inl (m : Int)), none, none, none, none]) (st' := [.inl (β 3 m)]) (h' := (zk_mk G sw σ α (zk_md (zk_up τ 8 (mt_isum (β 4) m)) (zk_ua β 7 M) t))) rfl rfl rfl ?_
      refine zk_istore_n (ls' := [some (.inr (some 22)), some (.inl (m : Int)), some (.inl (β 3 m)), none, none, none]) dM_make_36 (by decide) rfl ?_
      refine zk_aload_n dM_make_37 rfl ?_
      refine zk_get zfM_22 dM_make_38 (v := .inr (some 27)) rfl (by decide) rfl ?_
      refine zk_iload_n dM_make_41 rfl ?_
      refine zk_iald dM_make_42 (n := 100) (f := β 4) rfl (by omega) (by omega) (by omega) ?_
      refine zk_W.to (ls' := [some (.inr (some 22)), some (.inl (m : Int)), some (.inl (β 3 m)), none, none, none]) (st' := [.inl (β 4 m)]) (h' := (zk_mk G sw σ α (zk_md (zk_up τ 8 (mt_isum (β 4) m)) (zk_ua β 7 M) t))) rfl rfl rfl ?_
      refine zk_istore_n (ls' := [some (.inr (some 22)), some (.inl (m : Int)), some (.inl (β 3 m)), some (.inl (β 4 m)), none, none]) dM_make_43 (by decide) rfl ?_
      refine zk_aload_n dM_make_44 rfl ?_
      refine zk_get zfM_65 dM_make_45 (v := .inl (mt_isum (β 4) m)) rfl (by decide) rfl ?_
      refine zk_iload_n dM_make_48 rfl ?_
      refine zk_iadd dM_make_49 ?_
      refine zk_bipush dM_make_50 (by decide) ?_
      refine zk_icmp_gt (tgt := 94) dM_make_52 (by decide) ⟨by omega, by omega⟩ ⟨by decide, by decide⟩ (fun h52 => ?_) (fun h52 => ?_)
      · skip
        refine zk_iconst dM_make_94 ?_
        refine zk_goto (tgt := 99) dM_make_95 (by decide) ?_
        refine zk_istore (ls' := [some (.inr (some 22)), some (.inl (m : Int)), some (.inl (β 3 m)), some (.inl (β 4 m)), some (.inl 1), none]) dM_make_99 (by decide) rfl ?_
        refine zk_iload dM_make_101 rfl ?_
        refine zk_if_eq (tgt := 112) dM_make_103 (by decide) ⟨by decide, by decide⟩ (fun h103 => ?_) (fun h103 => ?_)
        · skip
          exact absurd h103 (by decide)
        · skip
          refine zk_sipush dM_make_106 (by decide) ?_
          refine zk_iload_n dM_make_109 rfl ?_
          refine zk_isub dM_make_110 ?_
          exact zk_iret dM_make_111 rfl ⟨M, m, by omega, hmd, rfl, Or.inr ⟨by omega, by unfold mt_fl; omega, rfl⟩⟩
      · skip
        refine zk_aload_n dM_make_55 rfl ?_
        refine zk_get zfM_16 dM_make_56 (v := .inr (some 25)) rfl (by decide) rfl ?_
        refine zk_iload_n dM_make_59 rfl ?_
        refine zk_iald dM_make_60 (n := 100) (f := β 2) rfl (by omega) (by omega) (by omega) ?_
        refine zk_W.to (ls' := [some (.inr (some 22)), some (.inl (m : Int)), some (.inl (β 3 m)), some (.inl (β 4 m)), none, none]) (st' := [.inl (β 2 m)]) (h' := (zk_mk G sw σ α (zk_md (zk_up τ 8 (mt_isum (β 4) m)) (zk_ua β 7 M) t))) rfl rfl rfl ?_
        refine zk_if_ne (tgt := 76) dM_make_61 (by decide) ⟨by omega, by omega⟩ (fun h61 => ?_) (fun h61 => ?_)
        · skip
          refine zk_aload_n dM_make_76 rfl ?_
          refine zk_get zfM_16 dM_make_77 (v := .inr (some 25)) rfl (by decide) rfl ?_
          refine zk_iload_n dM_make_80 rfl ?_
          refine zk_iald dM_make_81 (n := 100) (f := β 2) rfl (by omega) (by omega) (by omega) ?_
          refine zk_W.to (ls' := [some (.inr (some 22)), some (.inl (m : Int)), some (.inl (β 3 m)), some (.inl (β 4 m)), none, none]) (st' := [.inl (β 2 m)]) (h' := (zk_mk G sw σ α (zk_md (zk_up τ 8 (mt_isum (β 4) m)) (zk_ua β 7 M) t))) rfl rfl rfl ?_
          refine zk_iconst dM_make_82 ?_
          refine zk_icmp_ne (tgt := 98) dM_make_83 (by decide) ⟨by omega, by omega⟩ ⟨by decide, by decide⟩ (fun h83 => ?_) (fun h83 => ?_)
          · skip
            refine zk_iconst dM_make_98 ?_
            refine zk_istore (ls' := [some (.inr (some 22)), some (.inl (m : Int)), some (.inl (β 3 m)), some (.inl (β 4 m)), some (.inl 0), none]) dM_make_99 (by decide) rfl ?_
            refine zk_iload dM_make_101 rfl ?_
            refine zk_if_eq (tgt := 112) dM_make_103 (by decide) ⟨by decide, by decide⟩ (fun h103 => ?_) (fun h103 => ?_)
            · skip
              refine zk_iconst dM_make_112 ?_
              refine zk_istore (ls' := [some (.inr (some 22)), some (.inl (m : Int)), some (.inl (β 3 m)), some (.inl (β 4 m)), some (.inl 0), some (.inl 0)]) dM_make_113 (by decide) rfl ?_
              have hfl : ¬ mt_fl (β 1 0) (β 2) (β 3) (β 4) m := by
                unfold mt_fl
                omega
              have ej : mt_isum (β 4) m + ((0 : Nat) : Int) = mt_isum (β 4) m := by omega
              have key := wM_make_l G sw σ α τ β t hJ (m := m) (by omega) hfl (M0 := M) (Q := (fun v h' => ∃ (M : Nat → Int) (m : Nat), (m : Int) ≤ τ 5 ∧ zm_md β M m ∧ h' = zk_mk G sw σ α (zk_md (zk_up τ 8 (mt_isum (β 4) m)) (zk_ua β 7 M) t) ∧ (((m : Int) = τ 5 ∧ v = some (.inl (mt_isum (β 4) m))) ∨ ((m : Int) < τ 5 ∧ mt_fl (β 1 0) (β 2) (β 3) (β 4) m ∧ v = some (.inl (-1000 - (m : Int))))))) (fun M' hpf => ?_) (β 4 m + 1).toNat 0 M (by omega) (by omega) ⟨fun x _ => rfl, fun j' hj' => absurd hj' (Nat.not_lt_zero j')⟩
              · rw [ej] at key
                exact key
              · skip
                refine zk_iinc (ls' := [some (.inr (some 22)), some (.inl ((m : Int) + 1)), none, none, none, none]) dM_make_201 rfl (by decide) rfl ?_
                refine zk_goto (tgt := 22) dM_make_204 (by decide) ?_
                have e2 : (m : Int) + 1 = ((m + 1 : Nat) : Int) := by omega
                rw [e2]
                exact ih (m + 1) M' (by omega) (by omega) (zm_md_step hJ (by omega) hmd hfl hpf)
            · skip
              exact absurd h103 (by decide)
          · skip
            refine zk_iload_n dM_make_86 rfl ?_
            refine zk_aload_n dM_make_87 rfl ?_
            refine zk_get zfM_65 dM_make_88 (v := .inl (mt_isum (β 4) m)) rfl (by decide) rfl ?_
            refine zk_icmp_lt (tgt := 98) dM_make_91 (by decide) ⟨by omega, by omega⟩ ⟨by omega, by omega⟩ (fun h91 => ?_) (fun h91 => ?_)
            · skip
              refine zk_iconst dM_make_98 ?_
              refine zk_istore (ls' := [some (.inr (some 22)), some (.inl (m : Int)), some (.inl (β 3 m)), some (.inl (β 4 m)), some (.inl 0), none]) dM_make_99 (by decide) rfl ?_
              refine zk_iload dM_make_101 rfl ?_
              refine zk_if_eq (tgt := 112) dM_make_103 (by decide) ⟨by decide, by decide⟩ (fun h103 => ?_) (fun h103 => ?_)
              · skip
                refine zk_iconst dM_make_112 ?_
                refine zk_istore (ls' := [some (.inr (some 22)), some (.inl (m : Int)), some (.inl (β 3 m)), some (.inl (β 4 m)), some (.inl 0), some (.inl 0)]) dM_make_113 (by decide) rfl ?_
                have hfl : ¬ mt_fl (β 1 0) (β 2) (β 3) (β 4) m := by
                  unfold mt_fl
                  omega
                have ej : mt_isum (β 4) m + ((0 : Nat) : Int) = mt_isum (β 4) m := by omega
                have key := wM_make_l G sw σ α τ β t hJ (m := m) (by omega) hfl (M0 := M) (Q := (fun v h' => ∃ (M : Nat → Int) (m : Nat), (m : Int) ≤ τ 5 ∧ zm_md β M m ∧ h' = zk_mk G sw σ α (zk_md (zk_up τ 8 (mt_isum (β 4) m)) (zk_ua β 7 M) t) ∧ (((m : Int) = τ 5 ∧ v = some (.inl (mt_isum (β 4) m))) ∨ ((m : Int) < τ 5 ∧ mt_fl (β 1 0) (β 2) (β 3) (β 4) m ∧ v = some (.inl (-1000 - (m : Int))))))) (fun M' hpf => ?_) (β 4 m + 1).toNat 0 M (by omega) (by omega) ⟨fun x _ => rfl, fun j' hj' => absurd hj' (Nat.not_lt_zero j')⟩
                · rw [ej] at key
                  exact key
                · skip
                  refine zk_iinc (ls' := [some (.inr (some 22)), some (.inl ((m : Int) + 1)), none, none, none, none]) dM_make_201 rfl (by decide) rfl ?_
                  refine zk_goto (tgt := 22) dM_make_204 (by decide) ?_
                  have e2 : (m : Int) + 1 = ((m + 1 : Nat) : Int) := by omega
                  rw [e2]
                  exact ih (m + 1) M' (by omega) (by omega) (zm_md_step hJ (by omega) hmd hfl hpf)
              · skip
                exact absurd h103 (by decide)
            · skip
              refine zk_iconst dM_make_94 ?_
              refine zk_goto (tgt := 99) dM_make_95 (by decide) ?_
              refine zk_istore (ls' := [some (.inr (some 22)), some (.inl (m : Int)), some (.inl (β 3 m)), some (.inl (β 4 m)), some (.inl 1), none]) dM_make_99 (by decide) rfl ?_
              refine zk_iload dM_make_101 rfl ?_
              refine zk_if_eq (tgt := 112) dM_make_103 (by decide) ⟨by decide, by decide⟩ (fun h103 => ?_) (fun h103 => ?_)
              · skip
                exact absurd h103 (by decide)
              · skip
                refine zk_sipush dM_make_106 (by decide) ?_
                refine zk_iload_n dM_make_109 rfl ?_
                refine zk_isub dM_make_110 ?_
                exact zk_iret dM_make_111 rfl ⟨M, m, by omega, hmd, rfl, Or.inr ⟨by omega, by unfold mt_fl; omega, rfl⟩⟩
        · skip
          refine zk_iload_n dM_make_64 rfl ?_
          refine zk_iload_n dM_make_65 rfl ?_
          refine zk_iadd dM_make_66 ?_
          refine zk_aload_n dM_make_67 rfl ?_
          refine zk_get zfM_13 dM_make_68 (v := .inr (some 24)) rfl (by decide) rfl ?_
          refine zk_iconst dM_make_71 ?_
          refine zk_iald dM_make_72 (n := 2) (f := β 1) rfl (by omega) (by omega) (by omega) ?_
          refine zk_W.to (ls' := [some (.inr (some 22)), some (.inl (m : Int)), some (.inl (β 3 m)), some (.inl (β 4 m)), none, none]) (st' := [.inl (β 1 0), .inl ((β 3 m) + (β 4 m))]) (h' := (zk_mk G sw σ α (zk_md (zk_up τ 8 (mt_isum (β 4) m)) (zk_ua β 7 M) t))) rfl rfl rfl ?_
          refine zk_icmp_gt (tgt := 94) dM_make_73 (by decide) ⟨by omega, by omega⟩ ⟨by omega, by omega⟩ (fun h73 => ?_) (fun h73 => ?_)
          · skip
            refine zk_iconst dM_make_94 ?_
            refine zk_goto (tgt := 99) dM_make_95 (by decide) ?_
            refine zk_istore (ls' := [some (.inr (some 22)), some (.inl (m : Int)), some (.inl (β 3 m)), some (.inl (β 4 m)), some (.inl 1), none]) dM_make_99 (by decide) rfl ?_
            refine zk_iload dM_make_101 rfl ?_
            refine zk_if_eq (tgt := 112) dM_make_103 (by decide) ⟨by decide, by decide⟩ (fun h103 => ?_) (fun h103 => ?_)
            · skip
              exact absurd h103 (by decide)
            · skip
              refine zk_sipush dM_make_106 (by decide) ?_
              refine zk_iload_n dM_make_109 rfl ?_
              refine zk_isub dM_make_110 ?_
              exact zk_iret dM_make_111 rfl ⟨M, m, by omega, hmd, rfl, Or.inr ⟨by omega, by unfold mt_fl; omega, rfl⟩⟩
          · skip
            refine zk_aload_n dM_make_76 rfl ?_
            refine zk_get zfM_16 dM_make_77 (v := .inr (some 25)) rfl (by decide) rfl ?_
            refine zk_iload_n dM_make_80 rfl ?_
            refine zk_iald dM_make_81 (n := 100) (f := β 2) rfl (by omega) (by omega) (by omega) ?_
            refine zk_W.to (ls' := [some (.inr (some 22)), some (.inl (m : Int)), some (.inl (β 3 m)), some (.inl (β 4 m)), none, none]) (st' := [.inl (β 2 m)]) (h' := (zk_mk G sw σ α (zk_md (zk_up τ 8 (mt_isum (β 4) m)) (zk_ua β 7 M) t))) rfl rfl rfl ?_
            refine zk_iconst dM_make_82 ?_
            refine zk_icmp_ne (tgt := 98) dM_make_83 (by decide) ⟨by omega, by omega⟩ ⟨by decide, by decide⟩ (fun h83 => ?_) (fun h83 => ?_)
            · skip
              refine zk_iconst dM_make_98 ?_
              refine zk_istore (ls' := [some (.inr (some 22)), some (.inl (m : Int)), some (.inl (β 3 m)), some (.inl (β 4 m)), some (.inl 0), none]) dM_make_99 (by decide) rfl ?_
              refine zk_iload dM_make_101 rfl ?_
              refine zk_if_eq (tgt := 112) dM_make_103 (by decide) ⟨by decide, by decide⟩ (fun h103 => ?_) (fun h103 => ?_)
              · skip
                refine zk_iconst dM_make_112 ?_
                refine zk_istore (ls' := [some (.inr (some 22)), some (.inl (m : Int)), some (.inl (β 3 m)), some (.inl (β 4 m)), some (.inl 0), some (.inl 0)]) dM_make_113 (by decide) rfl ?_
                have hfl : ¬ mt_fl (β 1 0) (β 2) (β 3) (β 4) m := by
                  unfold mt_fl
                  omega
                have ej : mt_isum (β 4) m + ((0 : Nat) : Int) = mt_isum (β 4) m := by omega
                have key := wM_make_l G sw σ α τ β t hJ (m := m) (by omega) hfl (M0 := M) (Q := (fun v h' => ∃ (M : Nat → Int) (m : Nat), (m : Int) ≤ τ 5 ∧ zm_md β M m ∧ h' = zk_mk G sw σ α (zk_md (zk_up τ 8 (mt_isum (β 4) m)) (zk_ua β 7 M) t) ∧ (((m : Int) = τ 5 ∧ v = some (.inl (mt_isum (β 4) m))) ∨ ((m : Int) < τ 5 ∧ mt_fl (β 1 0) (β 2) (β 3) (β 4) m ∧ v = some (.inl (-1000 - (m : Int))))))) (fun M' hpf => ?_) (β 4 m + 1).toNat 0 M (by omega) (by omega) ⟨fun x _ => rfl, fun j' hj' => absurd hj' (Nat.not_lt_zero j')⟩
                · rw [ej] at key
                  exact key
                · skip
                  refine zk_iinc (ls' := [some (.inr (some 22)), some (.inl ((m : Int) + 1)), none, none, none, none]) dM_make_201 rfl (by decide) rfl ?_
                  refine zk_goto (tgt := 22) dM_make_204 (by decide) ?_
                  have e2 : (m : Int) + 1 = ((m + 1 : Nat) : Int) := by omega
                  rw [e2]
                  exact ih (m + 1) M' (by omega) (by omega) (zm_md_step hJ (by omega) hmd hfl hpf)
              · skip
                exact absurd h103 (by decide)
            · skip
              refine zk_iload_n dM_make_86 rfl ?_
              refine zk_aload_n dM_make_87 rfl ?_
              refine zk_get zfM_65 dM_make_88 (v := .inl (mt_isum (β 4) m)) rfl (by decide) rfl ?_
              refine zk_icmp_lt (tgt := 98) dM_make_91 (by decide) ⟨by omega, by omega⟩ ⟨by omega, by omega⟩ (fun h91 => ?_) (fun h91 => ?_)
              · skip
                refine zk_iconst dM_make_98 ?_
                refine zk_istore (ls' := [some (.inr (some 22)), some (.inl (m : Int)), some (.inl (β 3 m)), some (.inl (β 4 m)), some (.inl 0), none]) dM_make_99 (by decide) rfl ?_
                refine zk_iload dM_make_101 rfl ?_
                refine zk_if_eq (tgt := 112) dM_make_103 (by decide) ⟨by decide, by decide⟩ (fun h103 => ?_) (fun h103 => ?_)
                · skip
                  refine zk_iconst dM_make_112 ?_
                  refine zk_istore (ls' := [some (.inr (some 22)), some (.inl (m : Int)), some (.inl (β 3 m)), some (.inl (β 4 m)), some (.inl 0), some (.inl 0)]) dM_make_113 (by decide) rfl ?_
                  have hfl : ¬ mt_fl (β 1 0) (β 2) (β 3) (β 4) m := by
                    unfold mt_fl
                    omega
                  have ej : mt_isum (β 4) m + ((0 : Nat) : Int) = mt_isum (β 4) m := by omega
                  have key := wM_make_l G sw σ α τ β t hJ (m := m) (by omega) hfl (M0 := M) (Q := (fun v h' => ∃ (M : Nat → Int) (m : Nat), (m : Int) ≤ τ 5 ∧ zm_md β M m ∧ h' = zk_mk G sw σ α (zk_md (zk_up τ 8 (mt_isum (β 4) m)) (zk_ua β 7 M) t) ∧ (((m : Int) = τ 5 ∧ v = some (.inl (mt_isum (β 4) m))) ∨ ((m : Int) < τ 5 ∧ mt_fl (β 1 0) (β 2) (β 3) (β 4) m ∧ v = some (.inl (-1000 - (m : Int))))))) (fun M' hpf => ?_) (β 4 m + 1).toNat 0 M (by omega) (by omega) ⟨fun x _ => rfl, fun j' hj' => absurd hj' (Nat.not_lt_zero j')⟩
                  · rw [ej] at key
                    exact key
                  · skip
                    refine zk_iinc (ls' := [some (.inr (some 22)), some (.inl ((m : Int) + 1)), none, none, none, none]) dM_make_201 rfl (by decide) rfl ?_
                    refine zk_goto (tgt := 22) dM_make_204 (by decide) ?_
                    have e2 : (m : Int) + 1 = ((m + 1 : Nat) : Int) := by omega
                    rw [e2]
                    exact ih (m + 1) M' (by omega) (by omega) (zm_md_step hJ (by omega) hmd hfl hpf)
                · skip
                  exact absurd h103 (by decide)
              · skip
                refine zk_iconst dM_make_94 ?_
                refine zk_goto (tgt := 99) dM_make_95 (by decide) ?_
                refine zk_istore (ls' := [some (.inr (some 22)), some (.inl (m : Int)), some (.inl (β 3 m)), some (.inl (β 4 m)), some (.inl 1), none]) dM_make_99 (by decide) rfl ?_
                refine zk_iload dM_make_101 rfl ?_
                refine zk_if_eq (tgt := 112) dM_make_103 (by decide) ⟨by decide, by decide⟩ (fun h103 => ?_) (fun h103 => ?_)
                · skip
                  exact absurd h103 (by decide)
                · skip
                  refine zk_sipush dM_make_106 (by decide) ?_
                  refine zk_iload_n dM_make_109 rfl ?_
                  refine zk_isub dM_make_110 ?_
                  exact zk_iret dM_make_111 rfl ⟨M, m, by omega, hmd, rfl, Or.inr ⟨by omega, by unfold mt_fl; omega, rfl⟩⟩

set_option maxRecDepth 100000 in
set_option maxHeartbeats 4000000 in
theorem kM_make (G : zk_G) (sw : Bool) (σ : Nat → Int) (α : Nat → Nat → Int) (τ : Nat → Int) (β : Nat → Nat → Int) (t : zk_H) (hJ : zm_J τ β)  : zk_K G mM_make (2, 45) 0 0 [.inr (some 22)] (zk_mk G sw σ α (zk_md τ β t)) (fun v h' => (τ 6 ≠ mt_sum (zm_T β 0) (zm_n β 0) ∧ h' = (zk_mk G sw σ α (zk_md τ β t)) ∧ v = some (.inl (-4))) ∨ (τ 6 = mt_sum (zm_T β 0) (zm_n β 0) ∧ ∃ (M : Nat → Int) (m : Nat), (m : Int) ≤ τ 5 ∧ zm_md β M m ∧ h' = zk_mk G sw σ α (zk_md (zk_up τ 8 (mt_isum (β 4) m)) (zk_ua β 7 M) t) ∧ (((m : Int) = τ 5 ∧ v = some (.inl (mt_isum (β 4) m))) ∨ ((m : Int) < τ 5 ∧ mt_fl (β 1 0) (β 2) (β 3) (β 4) m ∧ v = some (.inl (-1000 - (m : Int))))))) := by
  have hI := hJ.1
  have i0 := hI.1
  have i1 := hI.2.1
  have c0 : 0 ≤ τ 0 ∧ τ 0 ≤ 100 := hI.2.2.2 0 (by decide)
  have c1 : 0 ≤ τ 1 ∧ τ 1 ≤ 100 := hI.2.2.2 1 (by decide)
  have c2 : 0 ≤ τ 2 ∧ τ 2 ≤ 100 := hI.2.2.2 2 (by decide)
  have c3 : 0 ≤ τ 3 ∧ τ 3 ≤ 100 := hI.2.2.2 3 (by decide)
  have c4 : 0 ≤ τ 4 ∧ τ 4 ≤ 100 := hI.2.2.2 4 (by decide)
  have j5 := hJ.2.1
  have j6 := hJ.2.2.1
  have j7 := hJ.2.2.2.1
  have j8 := hJ.2.2.2.2.1
  have hA := hJ.2.2.2.2.2.1
  have hsr := mt_sum_rg (zm_T β 0) (zm_n β 0)
  refine zk_K.of (ls := [some (.inr (some 22)), none, none, none, none, none]) (by decide +kernel) (Nat.le_of_ble_eq_true rfl) rfl ?_
  refine zk_aload_n dM_make_0 rfl ?_
  refine zk_get zfM_59 dM_make_1 (v := .inl (τ 6)) rfl (by decide) rfl ?_
  refine zk_aload_n dM_make_4 rfl ?_
  refine zk_iconst dM_make_5 ?_
  refine zk_callV (av := [.inl 0]) (st := [.inl (τ 6)]) (d' := (1, 22)) (kc' := 0) (ks' := 0) zbM_106 dM_make_6 rfl (by decide) rfl rfl (Nat.le_of_ble_eq_true rfl) ⟨by decide, by decide⟩ rfl rfl (kM_sumOf G sw σ α τ β t hI (q := 0) (by decide)) (fun v9 h9 q9 => ?_)
  obtain ⟨rfl, rfl⟩ := q9
  refine zk_W.to (ls' := [some (.inr (some 22)), none, none, none, none, none]) (st' := [.inl (mt_sum (zm_T β 0) (zm_n β 0)), .inl (τ 6)]) (h' := (zk_mk G sw σ α (zk_md τ β t))) rfl rfl rfl ?_
  refine zk_icmp_eq (tgt := 15) dM_make_9 (by decide) ⟨by omega, by omega⟩ ⟨by omega, by omega⟩ (fun h9 => ?_) (fun h9 => ?_)
  · skip
    refine zk_aload_n dM_make_15 rfl ?_
    refine zk_iconst dM_make_16 ?_
    refine zk_put zfM_65 dM_make_17 (h' := (zk_mk G sw σ α (zk_md (zk_up τ 8 0) β t))) rfl (by decide) (Nat.le_of_ble_eq_true rfl) rfl rfl rfl ?_
    refine zk_iconst dM_make_20 ?_
    refine zk_istore_n (ls' := [some (.inr (some 22)), some (.inl 0), none, none, none, none]) dM_make_21 (by decide) rfl ?_
    have key := wM_make G sw σ α τ β t hJ (τ 5 + 1).toNat 0 (β 7) (by omega) (by omega) ⟨fun k hk => absurd hk (Nat.not_lt_zero k), fun k hk => absurd hk (Nat.not_lt_zero k), by show (0 : Int) ≤ 80; omega⟩
    rw [zk_ua_self] at key
    refine key.mono (fun v h' hq => Or.inr ⟨h9, hq⟩)
  · skip
    refine zk_bipush dM_make_12 (by decide) ?_
    exact zk_iret dM_make_14 rfl (Or.inl ⟨h9, rfl, rfl⟩)

/-- the acts below m stand in F -/
def zm_wr (τ : Nat → Int) (β : Nat → Nat → Int) (F : Nat → Int) (m : Nat) : Prop := F 0 = τ 6 / 256 ∧ F 1 = τ 6 % 256 ∧ ∀ k, k < m → mt_wa (β 2) (β 3) (β 4) F (zm_lb β) (mt_pos (β 2) (β 4) k).toNat k
theorem zm_wr_step {τ : Nat → Int} {β : Nat → Nat → Int} {F F' : Nat → Int} {m : Nat} (hJ : zm_J τ β) (hm : (m : Int) < τ 5) (h : zm_wr τ β F m) (h1 : ∀ x, x < (mt_pos (β 2) (β 4) m).toNat → F' x = F x) (h2 : mt_wa (β 2) (β 3) (β 4) F' (zm_lb β) (mt_pos (β 2) (β 4) m).toNat m) : zm_wr τ β F' (m + 1) := by
  obtain ⟨a1, a2, a3⟩ := h
  have hC : ∀ k, k < (τ 5).toNat → 1 ≤ β 4 k ∧ β 4 k ≤ 40 := fun k hk => (hJ.2.2.2.2.2.1 k hk).2.1
  have hp := mt_pos_rg (K := β 2) (C := β 4) (n := m) (fun k hk => hC k (by omega))
  refine ⟨by rw [h1 0 (by omega)]; exact a1, by rw [h1 1 (by omega)]; exact a2, fun k hk => ?_⟩
  by_cases e : k = m
  · subst e; exact h2
  · have hl := mt_pos_le (K := β 2) (C := β 4) (n := k) (m := m) (by omega) (fun k' hk' => (hC k' (by omega)).1)
    have hpk := mt_pos_rg (K := β 2) (C := β 4) (n := k) (fun k' hk' => hC k' (by omega))
    refine mt_wa_congr (q := (mt_pos (β 2) (β 4) m).toNat) (a3 k (by omega)) ?_ (hC k (by omega)).1 h1
    rw [Int.toNat_of_nonneg (by omega), Int.toNat_of_nonneg (by omega)]
    exact hl

set_option maxRecDepth 100000 in
set_option maxHeartbeats 4000000 in
theorem wM_write_l (G : zk_G) (sw : Bool) (σ : Nat → Int) (α : Nat → Nat → Int) (τ : Nat → Int) (β : Nat → Nat → Int) (t : zk_H) (hJ : zm_J τ β) {m : Nat} (hm : (m : Int) < τ 5) {F : Nat → Int} {Q : Option zk_V → zk_H → Prop} (hk : zk_W G mM_write (1, 21) 0 0 102 [some (.inr (some 22)), some (.inl (m : Int)), none] [] (zk_mk G sw σ α (zk_md (zk_up τ 7 (mt_pos (β 2) (β 4) m + 1 + β 4 m)) (zk_ua β 6 (mt_ap (zk_up F (mt_pos (β 2) (β 4) m).toNat (64 * β 2 m + β 4 m)) ((mt_pos (β 2) (β 4) m).toNat + 1) (β 4 m).toNat (zm_lb β m))) t)) Q) : ∀ (k : Nat) (j : Nat), ((j : Int) ≤ β 4 m) → (β 4 m < (j : Int) + k) → zk_W G mM_write (1, 21) 0 0 71 [some (.inr (some 22)), some (.inl (m : Int)), some (.inl (j : Int))] [] (zk_mk G sw σ α (zk_md (zk_up τ 7 (mt_pos (β 2) (β 4) m + 1 + (j : Int))) (zk_ua β 6 (mt_ap (zk_up F (mt_pos (β 2) (β 4) m).toNat (64 * β 2 m + β 4 m)) ((mt_pos (β 2) (β 4) m).toNat + 1) j (zm_lb β m))) t)) Q := by
  intro k
  induction k with
  | zero =>
    intro j g1 g2
    exfalso
    omega
  | succ k ih =>
    intro j g1 g2
    have hI := hJ.1
    have i0 := hI.1
    have i1 := hI.2.1
    have c0 : 0 ≤ τ 0 ∧ τ 0 ≤ 100 := hI.2.2.2 0 (by decide)
    have c1 : 0 ≤ τ 1 ∧ τ 1 ≤ 100 := hI.2.2.2 1 (by decide)
    have c2 : 0 ≤ τ 2 ∧ τ 2 ≤ 100 := hI.2.2.2 2 (by decide)
    have c3 : 0 ≤ τ 3 ∧ τ 3 ≤ 100 := hI.2.2.2 3 (by decide)
    have c4 : 0 ≤ τ 4 ∧ τ 4 ≤ 100 := hI.2.2.2 4 (by decide)
    have j5 := hJ.2.1
    have j6 := hJ.2.2.1
    have j7 := hJ.2.2.2.1
    have j8 := hJ.2.2.2.2.1
    have hA := hJ.2.2.2.2.2.1
    obtain ⟨a1, a2, a3⟩ := hA m (by omega)
    have hps := mt_pos_rg (K := β 2) (C := β 4) (n := m) (fun k' hk' => (hA k' (by omega)).2.1)
    refine zk_iload_n dM_write_71 rfl ?_
    refine zk_aload_n dM_write_72 rfl ?_
    refine zk_get zfM_22 dM_write_73 (v := .inr (some 27)) rfl (by decide) rfl ?_
    refine zk_iload_n dM_write_76 rfl ?_
    refine zk_iald dM_write_77 (n := 100) (f := β 4) rfl (by omega) (by omega) (by omega) ?_
    refine zk_W.to (ls' := [some (.inr (some 22)), some (.inl (m : Int)), some (.inl (j : Int))]) (st' := [.inl (β 4 m), .inl (j : Int)]) (h' := (zk_mk G sw σ α (zk_md (zk_up τ 7 (mt_pos (β 2) (β 4) m + 1 + (j : Int))) (zk_ua β 6 (mt_ap (zk_up F (mt_pos (β 2) (β 4) m).toNat (64 * β 2 m + β 4 m)) ((mt_pos (β 2) (β 4) m).toNat + 1) j (zm_lb β m))) t))) rfl rfl rfl ?_
    refine zk_icmp_ge (tgt := 102) dM_write_78 (by decide) ⟨by omega, by omega⟩ ⟨by omega, by omega⟩ (fun h78 => ?_) (fun h78 => ?_)
    · skip
      have ej : (β 4 m).toNat = j := by omega
      have ej2 : (j : Int) = β 4 m := by omega
      rw [ej] at hk
      rw [ej2]
      refine zk_W.drop 2 rfl ?_
      exact hk
    · skip
      refine zk_aload_n dM_write_81 rfl ?_
      refine zk_aload_n dM_write_82 rfl ?_
      refine zk_get zfM_25 dM_write_83 (v := .inr (some 28)) rfl (by decide) rfl ?_
      refine zk_bipush dM_write_86 (by decide) ?_
      refine zk_iload_n dM_write_88 rfl ?_
      refine zk_imul dM_write_89 ?_
      refine zk_iload_n dM_write_90 rfl ?_
      refine zk_iadd dM_write_91 ?_
      refine zk_iald dM_write_92 (n := 4000) (f := β 5) rfl (by omega) (by omega) (by omega) ?_
      refine zk_callV (av := [.inl (β 5 ((40 * (m : Int)) + (j : Int)).toNat)]) (st := []) (d' := (0, 0)) (kc' := 0) (ks' := 0) zbM_120 dM_write_93 rfl (by decide) rfl rfl (Nat.le_of_ble_eq_true rfl) ⟨by decide, by decide⟩ rfl rfl (kM_code1 G sw σ α (zk_up τ 7 (mt_pos (β 2) (β 4) m + 1 + (j : Int))) (zk_ua β 6 (mt_ap (zk_up F (mt_pos (β 2) (β 4) m).toNat (64 * β 2 m + β 4 m)) ((mt_pos (β 2) (β 4) m).toNat + 1) j (zm_lb β m))) t (x := β 5 ((40 * (m : Int)) + (j : Int)).toNat) (show 0 ≤ (mt_pos (β 2) (β 4) m + 1 + (j : Int) : Int) ∧ (mt_pos (β 2) (β 4) m + 1 + (j : Int) : Int) < 4110 by omega)) (fun v9 h9 q9 => ?_)
      obtain ⟨rfl, rfl⟩ := q9
      refine zk_W.to (ls' := [some (.inr (some 22)), some (.inl (m : Int)), some (.inl (j : Int))]) (st' := []) (h' := (zk_mk G sw σ α (zk_md (zk_up (zk_up τ 7 (mt_pos (β 2) (β 4) m + 1 + (j : Int))) 7 (mt_pos (β 2) (β 4) m + 1 + (j : Int) + 1)) (zk_ua (zk_ua β 6 (mt_ap (zk_up F (mt_pos (β 2) (β 4) m).toNat (64 * β 2 m + β 4 m)) ((mt_pos (β 2) (β 4) m).toNat + 1) j (zm_lb β m))) 6 (zk_up (mt_ap (zk_up F (mt_pos (β 2) (β 4) m).toNat (64 * β 2 m + β 4 m)) ((mt_pos (β 2) (β 4) m).toNat + 1) j (zm_lb β m)) (mt_pos (β 2) (β 4) m + 1 + (j : Int) : Int).toNat (β 5 ((40 * (m : Int)) + (j : Int)).toNat))) t))) rfl rfl rfl ?_
      refine zk_iinc (ls' := [some (.inr (some 22)), some (.inl (m : Int)), some (.inl ((j : Int) + 1))]) dM_write_96 rfl (by decide) rfl ?_
      refine zk_goto (tgt := 71) dM_write_99 (by decide) ?_
      have e2 : (j : Int) + 1 = ((j + 1 : Nat) : Int) := by omega
      have e3 : mt_pos (β 2) (β 4) m + 1 + (j : Int) + 1 = mt_pos (β 2) (β 4) m + 1 + ((j + 1 : Nat) : Int) := by omega
      have ev : β 5 (40 * (m : Int) + (j : Int)).toNat = zm_lb β m j := by
        rw [show (40 * (m : Int) + (j : Int)).toNat = 40 * m + j by omega]
        rfl
      rw [zk_up_up, zk_ua_ua, e3, e2, ev, show (mt_pos (β 2) (β 4) m + 1 + (j : Int)).toNat = (mt_pos (β 2) (β 4) m).toNat + 1 + j by omega, mt_ap_up]
      exact ih (j + 1) (by omega) (by omega)

set_option maxRecDepth 100000 in
set_option maxHeartbeats 4000000 in
theorem wM_write (G : zk_G) (sw : Bool) (σ : Nat → Int) (α : Nat → Nat → Int) (τ : Nat → Int) (β : Nat → Nat → Int) (t : zk_H) (hJ : zm_J τ β) : ∀ (k : Nat) (m : Nat) (F : Nat → Int), ((m : Int) ≤ τ 5) → (τ 5 < (m : Int) + k) → (zm_wr τ β F m) → zk_W G mM_write (1, 21) 0 0 31 [some (.inr (some 22)), some (.inl (m : Int)), none] [] (zk_mk G sw σ α (zk_md (zk_up τ 7 (mt_pos (β 2) (β 4) m)) (zk_ua β 6 (F)) t)) (fun v h' => ∃ F, zm_wr τ β F (τ 5).toNat ∧ h' = zk_mk G sw σ α (zk_md (zk_up τ 7 (mt_pos (β 2) (β 4) (τ 5).toNat)) (zk_ua β 6 F) t) ∧ v = some (.inl (mt_pos (β 2) (β 4) (τ 5).toNat))) := by
  intro k
  induction k with
  | zero =>
    intro m F g1 g2 hwr
    exfalso
    omega
  | succ k ih =>
    intro m F g1 g2 hwr
    have hI := hJ.1
    have i0 := hI.1
    have i1 := hI.2.1
    have c0 : 0 ≤ τ 0 ∧ τ 0 ≤ 100 := hI.2.2.2 0 (by decide)
    have c1 : 0 ≤ τ 1 ∧ τ 1 ≤ 100 := hI.2.2.2 1 (by decide)
    have c2 : 0 ≤ τ 2 ∧ τ 2 ≤ 100 := hI.2.2.2 2 (by decide)
    have c3 : 0 ≤ τ 3 ∧ τ 3 ≤ 100 := hI.2.2.2 3 (by decide)
    have c4 : 0 ≤ τ 4 ∧ τ 4 ≤ 100 := hI.2.2.2 4 (by decide)
    have j5 := hJ.2.1
    have j6 := hJ.2.2.1
    have j7 := hJ.2.2.2.1
    have j8 := hJ.2.2.2.2.1
    have hA := hJ.2.2.2.2.2.1
    refine zk_iload_n dM_write_31 rfl ?_
    refine zk_aload_n dM_write_32 rfl ?_
    refine zk_get zfM_56 dM_write_33 (v := .inl (τ 5)) rfl (by decide) rfl ?_
    refine zk_icmp_ge (tgt := 121) dM_write_36 (by decide) ⟨by omega, by omega⟩ ⟨by omega, by omega⟩ (fun h36 => ?_) (fun h36 => ?_)
    · skip
      refine zk_aload_n dM_write_121 rfl ?_
      refine zk_get zfM_62 dM_write_122 (v := .inl (mt_pos (β 2) (β 4) m)) rfl (by decide) rfl ?_
      have en : (τ 5).toNat = m := by omega
      rw [en]
      exact zk_iret dM_write_125 rfl ⟨F, hwr, rfl, rfl⟩
    · skip
      obtain ⟨a1, a2, a3⟩ := hA m (by omega)
      have hps := mt_pos_rg (K := β 2) (C := β 4) (n := m) (fun k' hk' => (hA k' (by omega)).2.1)
      refine zk_aload_n dM_write_39 rfl ?_
      refine zk_bipush dM_write_40 (by decide) ?_
      refine zk_aload_n dM_write_42 rfl ?_
      refine zk_get zfM_16 dM_write_43 (v := .inr (some 25)) rfl (by decide) rfl ?_
      refine zk_iload_n dM_write_46 rfl ?_
      refine zk_iald dM_write_47 (n := 100) (f := β 2) rfl (by omega) (by omega) (by omega) ?_
      refine zk_W.to (ls' := [some (.inr (some 22)), some (.inl (m : Int)), none]) (st' := [.inl (β 2 m), .inl 64, .inr (some 22)]) (h' := (zk_mk G sw σ α (zk_md (zk_up τ 7 (mt_pos (β 2) (β 4) m)) (zk_ua β 6 (F)) t))) rfl rfl rfl ?_
      refine zk_imul dM_write_48 ?_
      refine zk_aload_n dM_write_49 rfl ?_
      refine zk_get zfM_22 dM_write_50 (v := .inr (some 27)) rfl (by decide) rfl ?_
      refine zk_iload_n dM_write_53 rfl ?_
      refine zk_iald dM_write_54 (n := 100) (f := β 4) rfl (by omega) (by omega) (by omega) ?_
      refine zk_W.to (ls' := [some (.inr (some 22)), some (.inl (m : Int)), none]) (st' := [.inl (β 4 m), .inl (64 * (β 2 m)), .inr (some 22)]) (h' := (zk_mk G sw σ α (zk_md (zk_up τ 7 (mt_pos (β 2) (β 4) m)) (zk_ua β 6 (F)) t))) rfl rfl rfl ?_
      refine zk_iadd dM_write_55 ?_
      refine zk_callV (av := [.inl ((64 * (β 2 m)) + (β 4 m))]) (st := []) (d' := (0, 0)) (kc' := 0) (ks' := 0) zbM_120 dM_write_56 rfl (by decide) rfl rfl (Nat.le_of_ble_eq_true rfl) ⟨by decide, by decide⟩ rfl rfl (kM_code1 G sw σ α (zk_up τ 7 (mt_pos (β 2) (β 4) m)) (zk_ua β 6 (F)) t (x := (64 * (β 2 m)) + (β 4 m)) (show 0 ≤ (mt_pos (β 2) (β 4) m : Int) ∧ (mt_pos (β 2) (β 4) m : Int) < 4110 by omega)) (fun v9 h9 q9 => ?_)
      obtain ⟨rfl, rfl⟩ := q9
      refine zk_W.to (ls' := [some (.inr (some 22)), some (.inl (m : Int)), none]) (st' := []) (h' := (zk_mk G sw σ α (zk_md (zk_up (zk_up τ 7 (mt_pos (β 2) (β 4) m)) 7 (mt_pos (β 2) (β 4) m + 1)) (zk_ua (zk_ua β 6 (F)) 6 (zk_up (F) (mt_pos (β 2) (β 4) m : Int).toNat ((64 * (β 2 m)) + (β 4 m)))) t))) rfl rfl rfl ?_
      refine zk_aload_n dM_write_59 rfl ?_
      refine zk_get zfM_16 dM_write_60 (v := .inr (some 25)) rfl (by decide) rfl ?_
      refine zk_iload_n dM_write_63 rfl ?_
      refine zk_iald dM_write_64 (n := 100) (f := β 2) rfl (by omega) (by omega) (by omega) ?_
      refine zk_W.to (ls' := [some (.inr (some 22)), some (.inl (m : Int)), none]) (st' := [.inl (β 2 m)]) (h' := (zk_mk G sw σ α (zk_md (zk_up (zk_up τ 7 (mt_pos (β 2) (β 4) m)) 7 (mt_pos (β 2) (β 4) m + 1)) (zk_ua (zk_ua β 6 (F)) 6 (zk_up (F) (mt_pos (β 2) (β 4) m : Int).toNat ((64 * (β 2 m)) + (β 4 m)))) t))) rfl rfl rfl ?_
      refine zk_iconst dM_write_65 ?_
      refine zk_icmp_ne (tgt := 105) dM_write_66 (by decide) ⟨by omega, by omega⟩ ⟨by decide, by decide⟩ (fun h66 => ?_) (fun h66 => ?_)
      · skip
        refine zk_aload_n dM_write_105 rfl ?_
        refine zk_aload_n dM_write_106 rfl ?_
        refine zk_get zfM_19 dM_write_107 (v := .inr (some 26)) rfl (by decide) rfl ?_
        refine zk_iload_n dM_write_110 rfl ?_
        refine zk_iald dM_write_111 (n := 100) (f := β 3) rfl (by omega) (by omega) (by omega) ?_
        refine zk_W.to (ls' := [some (.inr (some 22)), some (.inl (m : Int)), none]) (st' := [.inl (β 3 m), .inr (some 22)]) (h' := (zk_mk G sw σ α (zk_md (zk_up (zk_up τ 7 (mt_pos (β 2) (β 4) m)) 7 (mt_pos (β 2) (β 4) m + 1)) (zk_ua (zk_ua β 6 (F)) 6 (zk_up (F) (mt_pos (β 2) (β 4) m : Int).toNat ((64 * (β 2 m)) + (β 4 m)))) t))) rfl rfl rfl ?_
        refine zk_callV (av := [.inl (β 3 m)]) (st := []) (d' := (0, 0)) (kc' := 0) (ks' := 0) zbM_120 dM_write_112 rfl (by decide) rfl rfl (Nat.le_of_ble_eq_true rfl) ⟨by decide, by decide⟩ rfl rfl (kM_code1 G sw σ α (zk_up (zk_up τ 7 (mt_pos (β 2) (β 4) m)) 7 (mt_pos (β 2) (β 4) m + 1)) (zk_ua (zk_ua β 6 (F)) 6 (zk_up (F) (mt_pos (β 2) (β 4) m : Int).toNat ((64 * (β 2 m)) + (β 4 m)))) t (x := β 3 m) (show 0 ≤ (mt_pos (β 2) (β 4) m + 1 : Int) ∧ (mt_pos (β 2) (β 4) m + 1 : Int) < 4110 by omega)) (fun v9 h9 q9 => ?_)
        obtain ⟨rfl, rfl⟩ := q9
        refine zk_W.to (ls' := [some (.inr (some 22)), some (.inl (m : Int)), none]) (st' := []) (h' := (zk_mk G sw σ α (zk_md (zk_up (zk_up (zk_up τ 7 (mt_pos (β 2) (β 4) m)) 7 (mt_pos (β 2) (β 4) m + 1)) 7 (mt_pos (β 2) (β 4) m + 1 + 1)) (zk_ua (zk_ua (zk_ua β 6 (F)) 6 (zk_up (F) (mt_pos (β 2) (β 4) m : Int).toNat ((64 * (β 2 m)) + (β 4 m)))) 6 (zk_up (zk_up (F) (mt_pos (β 2) (β 4) m : Int).toNat ((64 * (β 2 m)) + (β 4 m))) (mt_pos (β 2) (β 4) m + 1 : Int).toNat (β 3 m))) t))) rfl rfl rfl ?_
        refine zk_iinc (ls' := [some (.inr (some 22)), some (.inl ((m : Int) + 1)), none]) dM_write_115 rfl (by decide) rfl ?_
        refine zk_goto (tgt := 31) dM_write_118 (by decide) ?_
        have e2 : (m : Int) + 1 = ((m + 1 : Nat) : Int) := by omega
        have ep : mt_pos (β 2) (β 4) m + 1 + 1 = mt_pos (β 2) (β 4) (m + 1) := by
          show _ = mt_pos (β 2) (β 4) m + 1 + (if β 2 m = 2 then β 4 m else 1)
          rw [if_neg h66]
        rw [zk_up_up, zk_up_up, zk_ua_ua, zk_ua_ua, e2, ep]
        refine ih (m + 1) _ (by omega) (by omega) (zm_wr_step hJ (by omega) hwr (fun x hx => ?_) ⟨?_, fun _ => ?_, fun h => absurd h h66⟩)
        · rw [zk_up_ne (by omega), zk_up_ne (by omega)]
        · rw [zk_up_ne (by omega), zk_up_at]
        · rw [show (mt_pos (β 2) (β 4) m + 1).toNat = (mt_pos (β 2) (β 4) m).toNat + 1 by omega, zk_up_at]
      · skip
        refine zk_iconst dM_write_69 ?_
        refine zk_istore_n (ls' := [some (.inr (some 22)), some (.inl (m : Int)), some (.inl 0)]) dM_write_70 (by decide) rfl ?_
        have key := wM_write_l G sw σ α τ β t hJ (m := m) (by omega) (F := F) (Q := (fun v h' => ∃ F, zm_wr τ β F (τ 5).toNat ∧ h' = zk_mk G sw σ α (zk_md (zk_up τ 7 (mt_pos (β 2) (β 4) (τ 5).toNat)) (zk_ua β 6 F) t) ∧ v = some (.inl (mt_pos (β 2) (β 4) (τ 5).toNat)))) ?_ (β 4 m + 1).toNat 0 (by omega) (by omega)
        · rw [mt_ap_0, show mt_pos (β 2) (β 4) m + 1 + ((0 : Nat) : Int) = mt_pos (β 2) (β 4) m + 1 by omega] at key
          rw [zk_up_up, zk_ua_ua]
          exact key
        · skip
          refine zk_goto (tgt := 115) dM_write_102 (by decide) ?_
          refine zk_iinc (ls' := [some (.inr (some 22)), some (.inl ((m : Int) + 1)), none]) dM_write_115 rfl (by decide) rfl ?_
          refine zk_goto (tgt := 31) dM_write_118 (by decide) ?_
          have e2 : (m : Int) + 1 = ((m + 1 : Nat) : Int) := by omega
          have ep : mt_pos (β 2) (β 4) m + 1 + β 4 m = mt_pos (β 2) (β 4) (m + 1) := by
            show _ = mt_pos (β 2) (β 4) m + 1 + (if β 2 m = 2 then β 4 m else 1)
            rw [if_pos h66]
          rw [e2, ep]
          refine ih (m + 1) _ (by omega) (by omega) (zm_wr_step hJ (by omega) hwr (fun x hx => ?_) ⟨?_, fun h => absurd h66 h, fun _ j' hj' => mt_ap_in (by omega)⟩)
          · rw [mt_ap_out (by omega), zk_up_ne (by omega)]
          · rw [mt_ap_out (by omega), zk_up_at]

set_option maxRecDepth 100000 in
set_option maxHeartbeats 4000000 in
theorem kM_write (G : zk_G) (sw : Bool) (σ : Nat → Int) (α : Nat → Nat → Int) (τ : Nat → Int) (β : Nat → Nat → Int) (t : zk_H) (hJ : zm_J τ β)  : zk_K G mM_write (1, 21) 0 0 [.inr (some 22)] (zk_mk G sw σ α (zk_md τ β t)) (fun v h' => ∃ F, zm_wr τ β F (τ 5).toNat ∧ h' = zk_mk G sw σ α (zk_md (zk_up τ 7 (mt_pos (β 2) (β 4) (τ 5).toNat)) (zk_ua β 6 F) t) ∧ v = some (.inl (mt_pos (β 2) (β 4) (τ 5).toNat))) := by
  have hI := hJ.1
  have i0 := hI.1
  have i1 := hI.2.1
  have c0 : 0 ≤ τ 0 ∧ τ 0 ≤ 100 := hI.2.2.2 0 (by decide)
  have c1 : 0 ≤ τ 1 ∧ τ 1 ≤ 100 := hI.2.2.2 1 (by decide)
  have c2 : 0 ≤ τ 2 ∧ τ 2 ≤ 100 := hI.2.2.2 2 (by decide)
  have c3 : 0 ≤ τ 3 ∧ τ 3 ≤ 100 := hI.2.2.2 3 (by decide)
  have c4 : 0 ≤ τ 4 ∧ τ 4 ≤ 100 := hI.2.2.2 4 (by decide)
  have j5 := hJ.2.1
  have j6 := hJ.2.2.1
  have j7 := hJ.2.2.2.1
  have j8 := hJ.2.2.2.2.1
  have hA := hJ.2.2.2.2.2.1
  refine zk_K.of (ls := [some (.inr (some 22)), none, none]) (by decide +kernel) (Nat.le_of_ble_eq_true rfl) rfl ?_
  refine zk_aload_n dM_write_0 rfl ?_
  refine zk_iconst dM_write_1 ?_
  refine zk_put zfM_62 dM_write_2 (h' := (zk_mk G sw σ α (zk_md (zk_up τ 7 0) β t))) rfl (by decide) (Nat.le_of_ble_eq_true rfl) rfl rfl rfl ?_
  refine zk_aload_n dM_write_5 rfl ?_
  refine zk_aload_n dM_write_6 rfl ?_
  refine zk_get zfM_59 dM_write_7 (v := .inl (τ 6)) rfl (by decide) rfl ?_
  refine zk_sipush dM_write_10 (by decide) ?_
  refine zk_idiv dM_write_13 (by omega) ⟨by omega, by omega⟩ (by omega) ⟨by decide, by decide⟩ ?_
  refine zk_callV (av := [.inl ((τ 6) / 256)]) (st := []) (d' := (0, 0)) (kc' := 0) (ks' := 0) zbM_120 dM_write_14 rfl (by decide) rfl rfl (Nat.le_of_ble_eq_true rfl) ⟨by decide, by decide⟩ rfl rfl (kM_code1 G sw σ α (zk_up τ 7 0) β t (x := (τ 6) / 256) (show 0 ≤ (0 : Int) ∧ (0 : Int) < 4110 by omega)) (fun v9 h9 q9 => ?_)
  obtain ⟨rfl, rfl⟩ := q9
  refine zk_W.to (ls' := [some (.inr (some 22)), none, none]) (st' := []) (h' := (zk_mk G sw σ α (zk_md (zk_up (zk_up τ 7 0) 7 (0 + 1)) (zk_ua β 6 (zk_up (β 6) (0 : Int).toNat ((τ 6) / 256))) t))) rfl rfl rfl ?_
  refine zk_aload_n dM_write_17 rfl ?_
  refine zk_aload_n dM_write_18 rfl ?_
  refine zk_get zfM_59 dM_write_19 (v := .inl (τ 6)) rfl (by decide) rfl ?_
  refine zk_sipush dM_write_22 (by decide) ?_
  refine zk_irem dM_write_25 (by omega) ⟨by omega, by omega⟩ (by omega) ⟨by decide, by decide⟩ ?_
  refine zk_callV (av := [.inl ((τ 6) % 256)]) (st := []) (d' := (0, 0)) (kc' := 0) (ks' := 0) zbM_120 dM_write_26 rfl (by decide) rfl rfl (Nat.le_of_ble_eq_true rfl) ⟨by decide, by decide⟩ rfl rfl (kM_code1 G sw σ α (zk_up (zk_up τ 7 0) 7 (0 + 1)) (zk_ua β 6 (zk_up (β 6) (0 : Int).toNat ((τ 6) / 256))) t (x := (τ 6) % 256) (show 0 ≤ (0 + 1 : Int) ∧ (0 + 1 : Int) < 4110 by omega)) (fun v9 h9 q9 => ?_)
  obtain ⟨rfl, rfl⟩ := q9
  refine zk_W.to (ls' := [some (.inr (some 22)), none, none]) (st' := []) (h' := (zk_mk G sw σ α (zk_md (zk_up (zk_up (zk_up τ 7 0) 7 (0 + 1)) 7 (0 + 1 + 1)) (zk_ua (zk_ua β 6 (zk_up (β 6) (0 : Int).toNat ((τ 6) / 256))) 6 (zk_up (zk_up (β 6) (0 : Int).toNat ((τ 6) / 256)) (0 + 1 : Int).toNat ((τ 6) % 256))) t))) rfl rfl rfl ?_
  refine zk_iconst dM_write_29 ?_
  refine zk_istore_n (ls' := [some (.inr (some 22)), some (.inl 0), none]) dM_write_30 (by decide) rfl ?_
  have key := wM_write G sw σ α τ β t hJ (τ 5 + 1).toNat 0 (zk_up (zk_up (β 6) 0 (τ 6 / 256)) 1 (τ 6 % 256)) (by omega) (by omega) ⟨by rw [zk_up_ne (by decide), zk_up_at], zk_up_at _ _ _, fun k hk => absurd hk (Nat.not_lt_zero k)⟩
  have es : zk_up (zk_up (zk_up τ 7 0) 7 (0 + 1)) 7 (0 + 1 + 1) = zk_up τ 7 2 := by
    rw [zk_up_up, zk_up_up]
    rfl
  have ea : zk_ua (zk_ua β 6 (zk_up (β 6) (0 : Int).toNat ((τ 6) / 256))) 6 (zk_up (zk_up (β 6) (0 : Int).toNat ((τ 6) / 256)) (0 + 1 : Int).toNat ((τ 6) % 256)) = zk_ua β 6 (zk_up (zk_up (β 6) 0 (τ 6 / 256)) 1 (τ 6 % 256)) := by
    rw [zk_ua_ua]
    rfl
  rw [es, ea]
  exact key
