/-- m acts, the first best ones, that make i bytes and leave the spot s -/
def mt_go (B : Nat → Nat → Nat → Nat → Nat → Prop) (nO nN : Nat) (K P C : Nat → Int) (m i s : Nat) : Prop := mt_pl B K P C m ∧ mt_isum C m = (i : Int) ∧ mt_spot K P C m = (s : Int) ∧ m ≤ i ∧ i ≤ nN ∧ s ≤ nO
theorem mt_go_up {O : Nat → Int} {nO : Nat} {N : Nat → Int} {nN : Nat} {c : Nat → Int} {L : Nat → Nat → Int} {K P C : Nat → Int} {m i s x p n : Nat} (h : mt_go (fun i s x p n => mt_best O nO N nN c L i s x p n) nO nN K P C m i s) (hB : mt_best O nO N nN c L i s x p n) : mt_go (fun i s x p n => mt_best O nO N nN c L i s x p n) nO nN (zk_up K m (x : Int)) (zk_up P m (p : Int)) (zk_up C m (n : Int)) (m + 1) (i + n) (mt_s s x p n) := by
  obtain ⟨h1, h2, h3, h4, h5, h6⟩ := h
  have hr := mt_best_rg hB
  refine ⟨mt_pl_up h1 (by rw [h2, h3]; exact hB) (fun _ => rfl), ?_, ?_, by omega, by omega, mt_s_le hB.1 h6⟩
  · show mt_isum (zk_up C m (n : Int)) m + zk_up C m (n : Int) m = _
    rw [zk_up_at, mt_isum_congr (C' := C) (fun k hk => zk_up_ne (by omega)), h2]
    omega
  · show (if zk_up K m (x : Int) m = 0 then zk_up P m (p : Int) m + zk_up C m (n : Int) m else mt_spot (zk_up K m (x : Int)) (zk_up P m (p : Int)) (zk_up C m (n : Int)) m) = _
    rw [zk_up_at, zk_up_at, zk_up_at, mt_spot_congr (K' := K) (P' := P) (C' := C) (fun k hk => ⟨zk_up_ne (by omega), fun _ => ⟨zk_up_ne (by omega), zk_up_ne (by omega)⟩⟩), h3]
    unfold mt_s
    by_cases hx : x = 0
    · subst hx
      rw [if_pos rfl, if_pos (show ((0 : Nat) : Int) = 0 from rfl)]
      omega
    · rw [if_neg (by omega), if_neg hx]
/-- the bytes that act k of the reference lays -/
def zm_lb (β : Nat → Nat → Int) (k j : Nat) : Int := β 5 (40 * k + j)
/-- what the LAYS of the best plan lay -/
def mt_mb (N K C : Nat → Int) (lb : Nat → Nat → Int) (m : Nat) : Prop := ∀ k, k < m → K k = 2 → ∀ j : Nat, (j : Int) < C k → lb k j = N ((mt_isum C k).toNat + j)
/-- the same texts, numbers, codes -/
def zm_E (τ τ' : Nat → Int) (β β' : Nat → Nat → Int) : Prop := (∀ q, q < 5 → τ' q = τ q) ∧ τ' 7 = τ 7 ∧ τ' 8 = τ 8 ∧ β' 0 = β 0 ∧ β' 1 = β 1 ∧ β' 6 = β 6 ∧ β' 7 = β 7
theorem zm_c_E {τ τ' : Nat → Int} (h : ∀ q, q < 5 → τ' q = τ q) : zm_c τ' = zm_c τ := by
  funext j
  unfold zm_c
  split
  · exact h 0 (by decide)
  · exact h 1 (by decide)
  · exact h 2 (by decide)
  · exact h 3 (by decide)
  · exact h 4 (by decide)
theorem zm_I_E {τ τ' : Nat → Int} {β β' : Nat → Nat → Int} (h : ∀ q, q < 5 → τ' q = τ q) (h0 : β' 0 = β 0) (h1 : β' 1 = β 1) (hI : zm_I τ β) : zm_I τ' β' := by
  unfold zm_I
  rw [h0, h1, zm_c_E h]
  exact hI
theorem zm_T_E {β β' : Nat → Nat → Int} (h0 : β' 0 = β 0) (q : Nat) : zm_T β' q = zm_T β q := by
  unfold zm_T
  rw [h0]
theorem zm_n_E {β β' : Nat → Nat → Int} (h1 : β' 1 = β 1) (q : Nat) : zm_n β' q = zm_n β q := by
  unfold zm_n
  rw [h1]
theorem zm_K_E {τ τ' : Nat → Int} {β β' : Nat → Nat → Int} (h : ∀ q, q < 5 → τ' q = τ q) (h0 : β' 0 = β 0) (h1 : β' 1 = β 1) (h8 : β' 8 = β 8) (hK : zm_K τ β) : zm_K τ' β' := by
  unfold zm_K
  rw [zm_T_E h0, zm_T_E h0, zm_n_E h1, zm_n_E h1, zm_c_E h, h8]
  exact hK
theorem zm_B_E {τ τ' : Nat → Int} {β β' : Nat → Nat → Int} {f : Nat → Int} {i s x p n : Nat} (h : ∀ q, q < 5 → τ' q = τ q) (h0 : β' 0 = β 0) (h1 : β' 1 = β 1) (h8 : β' 8 = f) (hB : zm_B τ' β' i s x p n) : mt_best (zm_T β 0) (zm_n β 0) (zm_T β 1) (zm_n β 1) (zm_c τ) (mt_tb f) i s x p n := by
  unfold zm_B at hB
  rw [zm_T_E h0, zm_T_E h0, zm_n_E h1, zm_n_E h1, zm_c_E h, h8] at hB
  exact hB
/-- where the plan of the reference stands -/
def zm_pl (f : Nat → Int) (τ τ' : Nat → Int) (β β' : Nat → Nat → Int) (m i s : Nat) : Prop := zm_E τ τ' β β' ∧ τ' 9 = 1 ∧ β' 8 = f ∧ τ' 6 = mt_sum (zm_T β 0) (zm_n β 0) ∧ τ' 5 = (m : Int) ∧ mt_go (fun i s x p n => mt_best (zm_T β 0) (zm_n β 0) (zm_T β 1) (zm_n β 1) (zm_c τ) (mt_tb f) i s x p n) (zm_n β 0) (zm_n β 1) (β' 2) (β' 3) (β' 4) m i s ∧ (∀ k, k < m → 0 ≤ β' 3 k ∧ β' 3 k ≤ 79) ∧ mt_mb (zm_T β 1) (β' 2) (β' 4) (zm_lb β') m
theorem zm_pl_step {f : Nat → Int} {τ τ' τ3 : Nat → Int} {β β' β3 : Nat → Nat → Int} {m i s x p n : Nat} (h : zm_pl f τ τ' β β' m i s) (hI : zm_I τ β) (hB : mt_best (zm_T β 0) (zm_n β 0) (zm_T β 1) (zm_n β 1) (zm_c τ) (mt_tb f) i s x p n) (hE : zm_E τ τ3 β β3) (h9 : τ3 9 = 1) (h8 : β3 8 = f) (h6 : τ3 6 = τ' 6) (h5 : τ3 5 = (m : Int) + 1)
    (e2 : β3 2 = zk_up (β' 2) m (x : Int)) (e3 : β3 3 = zk_up (β' 3) m (p : Int)) (e4 : β3 4 = zk_up (β' 4) m (n : Int)) (hold : ∀ k, k < m → β' 2 k = 2 → ∀ j : Nat, (j : Int) < β' 4 k → zm_lb β3 k j = zm_lb β' k j) (hnew : x = 2 → ∀ j, j < n → zm_lb β3 m j = zm_T β 1 (i + j)) : zm_pl f τ τ3 β β3 (m + 1) (i + n) (mt_s s x p n) := by
  obtain ⟨a1, a2, a3, a4, a5, a6, a7, a8⟩ := h
  have hr := mt_best_rg hB
  have i0 := hI.1
  have i1 := hI.2.1
  have hn0 : (zm_n β 0 : Int) = β 1 0 := by unfold zm_n; omega
  have hn1 : (zm_n β 1 : Int) = β 1 1 := by unfold zm_n; omega
  have hi6 := a6.2.2.2.2.1
  refine ⟨hE, h9, h8, h6.trans a4, by rw [h5]; omega, ?_, fun k hk => ?_, fun k hk hk2 j hj => ?_⟩
  · rw [e2, e3, e4]
    exact mt_go_up a6 hB
  · rw [e3]
    by_cases e : k = m
    · subst e
      rw [zk_up_at]
      omega
    · rw [zk_up_ne e]
      exact a7 k (by omega)
  · rw [e2] at hk2
    rw [e4] at hj ⊢
    rw [mt_isum_congr (C' := β' 4) (fun k' hk' => zk_up_ne (by omega))]
    by_cases e : k = m
    · subst e
      rw [zk_up_at] at hk2 hj
      rw [hnew (by omega) j (by omega), a6.2.1]
      rfl
    · rw [zk_up_ne e] at hk2 hj
      rw [hold k (by omega) hk2 j hj]
      exact a8 k (by omega) hk2 j hj

set_option maxRecDepth 100000 in
set_option maxHeartbeats 4000000 in
theorem wM_plan_l (G : zk_G) (sw : Bool) (σ : Nat → Int) (α : Nat → Nat → Int) (t : zk_H) {τ' : Nat → Int} {β' : Nat → Nat → Int} {i s x p n : Nat} {Q : Option zk_V → zk_H → Prop} (h5 : 0 ≤ τ' 5 ∧ τ' 5 < 100) (hx2 : x = 2) (hin : i + n ≤ 40) (hk : zk_W G mM_plan (3, 75) 0 0 123 [some (.inr (some 22)), some (.inl (i : Int)), some (.inl (s : Int)), some (.inl (n : Int))] [] (zk_mk G sw σ α (zk_md (zk_up (zk_up (zk_up τ' 10 (x : Int)) 11 (p : Int)) 12 (n : Int)) (zk_ua (zk_ua (zk_ua (zk_ua β' 2 (zk_up (β' 2) (τ' 5).toNat (x : Int))) 3 (zk_up (β' 3) (τ' 5).toNat (p : Int))) 4 (zk_up (β' 4) (τ' 5).toNat (n : Int))) 5 (mt_ap (β' 5) (40 * (τ' 5).toNat) n (fun j => zm_T β' 1 (i + j)))) t)) Q) : ∀ (k : Nat) (j : Nat), (j ≤ n) → (n < j + k) → zk_W G mM_plan (3, 75) 0 0 79 [some (.inr (some 22)), some (.inl (i : Int)), some (.inl (s : Int)), some (.inl (j : Int))] [] (zk_mk G sw σ α (zk_md (zk_up (zk_up (zk_up τ' 10 (x : Int)) 11 (p : Int)) 12 (n : Int)) (zk_ua (zk_ua (zk_ua (zk_ua β' 2 (zk_up (β' 2) (τ' 5).toNat (x : Int))) 3 (zk_up (β' 3) (τ' 5).toNat (p : Int))) 4 (zk_up (β' 4) (τ' 5).toNat (n : Int))) 5 (mt_ap (β' 5) (40 * (τ' 5).toNat) j (fun j => zm_T β' 1 (i + j)))) t)) Q := by
  intro k
  induction k with
  | zero =>
    intro j g1 g2
    exfalso
    omega
  | succ k ih =>
    intro j g1 g2
    refine zk_iload_n dM_plan_79 rfl ?_
    refine zk_aload_n dM_plan_80 rfl ?_
    refine zk_get zfM_100 dM_plan_81 (v := .inl (n : Int)) rfl (by decide) rfl ?_
    refine zk_icmp_ge (tgt := 123) dM_plan_84 (by decide) ⟨by omega, by omega⟩ ⟨by omega, by omega⟩ (fun h84 => ?_) (fun h84 => ?_)
    · skip
      have ej : j = n := by omega
      subst ej
      exact hk
    · skip
      refine zk_aload_n dM_plan_87 rfl ?_
      refine zk_get zfM_94 dM_plan_88 (v := .inl (x : Int)) rfl (by decide) rfl ?_
      refine zk_iconst dM_plan_91 ?_
      refine zk_icmp_ne (tgt := 123) dM_plan_92 (by decide) ⟨by omega, by omega⟩ ⟨by decide, by decide⟩ (fun h92 => ?_) (fun h92 => ?_)
      · skip
        exfalso; omega
      · skip
        refine zk_aload_n dM_plan_95 rfl ?_
        refine zk_get zfM_25 dM_plan_96 (v := .inr (some 28)) rfl (by decide) rfl ?_
        refine zk_bipush dM_plan_99 (by decide) ?_
        refine zk_aload_n dM_plan_101 rfl ?_
        refine zk_get zfM_56 dM_plan_102 (v := .inl (τ' 5)) rfl (by decide) rfl ?_
        refine zk_imul dM_plan_105 ?_
        refine zk_iload_n dM_plan_106 rfl ?_
        refine zk_iadd dM_plan_107 ?_
        refine zk_aload_n dM_plan_108 rfl ?_
        refine zk_iconst dM_plan_109 ?_
        refine zk_iload_n dM_plan_110 rfl ?_
        refine zk_iload_n dM_plan_111 rfl ?_
        refine zk_iadd dM_plan_112 ?_
        refine zk_callV (av := [.inl 1, .inl ((i : Int) + (j : Int))]) (st := [.inl ((40 * (τ' 5)) + (j : Int)), .inr (some 28)]) (d' := (0, 0)) (kc' := 0) (ks' := 0) zbM_72 dM_plan_113 rfl (by decide) rfl rfl (Nat.le_of_ble_eq_true rfl) ⟨by decide, by decide⟩ rfl rfl (kM_byteOf G sw σ α (zk_up (zk_up (zk_up τ' 10 (x : Int)) 11 (p : Int)) 12 (n : Int)) (zk_ua (zk_ua (zk_ua (zk_ua β' 2 (zk_up (β' 2) (τ' 5).toNat (x : Int))) 3 (zk_up (β' 3) (τ' 5).toNat (p : Int))) 4 (zk_up (β' 4) (τ' 5).toNat (n : Int))) 5 (mt_ap (β' 5) (40 * (τ' 5).toNat) j (fun j => zm_T β' 1 (i + j)))) t ⟨by omega, by omega⟩) (fun v9 h9 q9 => ?_)
        obtain ⟨rfl, rfl⟩ := q9
        refine zk_W.to (ls' := [some (.inr (some 22)), some (.inl (i : Int)), some (.inl (s : Int)), some (.inl (j : Int))]) (st' := [.inl (β' 0 (40 * 1 + ((i : Int) + (j : Int))).toNat), .inl ((40 * (τ' 5)) + (j : Int)), .inr (some 28)]) (h' := (zk_mk G sw σ α (zk_md (zk_up (zk_up (zk_up τ' 10 (x : Int)) 11 (p : Int)) 12 (n : Int)) (zk_ua (zk_ua (zk_ua (zk_ua β' 2 (zk_up (β' 2) (τ' 5).toNat (x : Int))) 3 (zk_up (β' 3) (τ' 5).toNat (p : Int))) 4 (zk_up (β' 4) (τ' 5).toNat (n : Int))) 5 (mt_ap (β' 5) (40 * (τ' 5).toNat) j (fun j => zm_T β' 1 (i + j)))) t))) rfl rfl rfl ?_
        refine zk_iast dM_plan_116 (n := 4000) (f := mt_ap (β' 5) (40 * (τ' 5).toNat) j (fun j => zm_T β' 1 (i + j))) (h' := (zk_mk G sw σ α (zk_md (zk_up (zk_up (zk_up τ' 10 (x : Int)) 11 (p : Int)) 12 (n : Int)) (zk_ua (zk_ua (zk_ua (zk_ua (zk_ua β' 2 (zk_up (β' 2) (τ' 5).toNat (x : Int))) 3 (zk_up (β' 3) (τ' 5).toNat (p : Int))) 4 (zk_up (β' 4) (τ' 5).toNat (n : Int))) 5 (mt_ap (β' 5) (40 * (τ' 5).toNat) j (fun j => zm_T β' 1 (i + j)))) 5 (zk_up (mt_ap (β' 5) (40 * (τ' 5).toNat) j (fun j => zm_T β' 1 (i + j))) ((40 * (τ' 5)) + (j : Int)).toNat (β' 0 (40 * 1 + ((i : Int) + (j : Int))).toNat))) t))) rfl (by decide) (by omega) (by omega) (by omega) rfl ?_
        refine zk_iinc (ls' := [some (.inr (some 22)), some (.inl (i : Int)), some (.inl (s : Int)), some (.inl ((j : Int) + 1))]) dM_plan_117 rfl (by decide) rfl ?_
        refine zk_goto (tgt := 79) dM_plan_120 (by decide) ?_
        have e2 : (j : Int) + 1 = ((j + 1 : Nat) : Int) := by omega
        have eg : β' 0 (40 * 1 + ((i : Int) + (j : Int))).toNat = (fun j => zm_T β' 1 (i + j)) j := by
          show _ = β' 0 (40 * 1 + (i + j))
          congr 1
          all_goals omega
        rw [e2, eg, show (40 * τ' 5 + (j : Int)).toNat = 40 * (τ' 5).toNat + j by omega, zk_ua_ua, mt_ap_up]
        exact ih (j + 1) (by omega) (by omega)

theorem mt_pl_rg {O : Nat → Int} {nO : Nat} {N : Nat → Int} {nN : Nat} {c : Nat → Int} {L : Nat → Nat → Int} {K P C : Nat → Int} {m : Nat} (h : mt_pl (fun i s x p n => mt_best O nO N nN c L i s x p n) K P C m) : ∀ k, k < m → (K k = 0 ∨ K k = 1 ∨ K k = 2) ∧ 1 ≤ C k ∧ C k ≤ (nN : Int) := by
  intro k hk
  obtain ⟨x, p, n, h1, h2, h3, -⟩ := h k hk
  have hr := mt_best_rg h1
  omega

set_option maxRecDepth 100000 in
set_option maxHeartbeats 4000000 in
theorem wM_plan (G : zk_G) (sw : Bool) (σ : Nat → Int) (α : Nat → Nat → Int) (τ : Nat → Int) (β : Nat → Nat → Int) (t : zk_H) {f : Nat → Int} (hI : zm_I τ β) (hK : zm_K τ (zk_ua β 8 f)) : ∀ (k : Nat) (m i s : Nat) (τ' : Nat → Int) (β' : Nat → Nat → Int), (zm_n β 1 < i + k) → (zm_pl f τ τ' β β' m i s) → zk_W G mM_plan (3, 75) 0 0 22 [some (.inr (some 22)), some (.inl (i : Int)), some (.inl (s : Int)), none] [] (zk_mk G sw σ α (zk_md τ' β' t)) (fun v h' => ∃ (τ3 : Nat → Int) (β3 : Nat → Nat → Int) (m s : Nat), zm_pl f τ τ3 β β3 m (zm_n β 1) s ∧ h' = zk_mk G sw σ α (zk_md τ3 β3 t) ∧ v = some (.inl (m : Int))) := by
  intro k
  induction k with
  | zero =>
    intro m i s τ' β' g2 hpl
    obtain ⟨p1, p2, p3, p4, p5, p6, p7, p8⟩ := id hpl
    obtain ⟨q1, q2, q3, q4, q5, q6⟩ := id p6
    obtain ⟨v1, v2, v3, v4, v5, v6, v7⟩ := id p1
    have hI2 : zm_I τ' β' := zm_I_E v1 v4 v5 hI
    have hK2 : zm_K τ' β' := zm_K_E (β := zk_ua β 8 f) v1 v4 v5 p3 hK
    have w0 := hI2.1
    have w1 := hI2.2.1
    have z0 : zm_n β' 0 = zm_n β 0 := zm_n_E v5 0
    have z1 : zm_n β' 1 = zm_n β 1 := zm_n_E v5 1
    have y0 : (zm_n β' 0 : Int) = β' 1 0 := by unfold zm_n; omega
    have y1 : (zm_n β' 1 : Int) = β' 1 1 := by unfold zm_n; omega
    exfalso
    omega
  | succ k ih =>
    intro m i s τ' β' g2 hpl
    obtain ⟨p1, p2, p3, p4, p5, p6, p7, p8⟩ := id hpl
    obtain ⟨q1, q2, q3, q4, q5, q6⟩ := id p6
    obtain ⟨v1, v2, v3, v4, v5, v6, v7⟩ := id p1
    have hI2 : zm_I τ' β' := zm_I_E v1 v4 v5 hI
    have hK2 : zm_K τ' β' := zm_K_E (β := zk_ua β 8 f) v1 v4 v5 p3 hK
    have w0 := hI2.1
    have w1 := hI2.2.1
    have z0 : zm_n β' 0 = zm_n β 0 := zm_n_E v5 0
    have z1 : zm_n β' 1 = zm_n β 1 := zm_n_E v5 1
    have y0 : (zm_n β' 0 : Int) = β' 1 0 := by unfold zm_n; omega
    have y1 : (zm_n β' 1 : Int) = β' 1 1 := by unfold zm_n; omega
    refine zk_iload_n dM_plan_22 rfl ?_
    refine zk_aload_n dM_plan_23 rfl ?_
    refine zk_get zfM_13 dM_plan_24 (v := .inr (some 24)) rfl (by decide) rfl ?_
    refine zk_iconst dM_plan_27 ?_
    refine zk_iald dM_plan_28 (n := 2) (f := β' 1) rfl (by omega) (by omega) (by omega) ?_
    refine zk_W.to (ls' := [some (.inr (some 22)), some (.inl (i : Int)), some (.inl (s : Int)), none]) (st' := [.inl (β' 1 1), .inl (i : Int)]) (h' := (zk_mk G sw σ α (zk_md τ' β' t))) rfl rfl rfl ?_
    refine zk_icmp_ge (tgt := 164) dM_plan_29 (by decide) ⟨by omega, by omega⟩ ⟨by omega, by omega⟩ (fun h29 => ?_) (fun h29 => ?_)
    · skip
      refine zk_aload_n dM_plan_164 rfl ?_
      refine zk_get zfM_56 dM_plan_165 (v := .inl (τ' 5)) rfl (by decide) rfl ?_
      have ei : zm_n β 1 = i := by omega
      rw [ei]
      refine zk_iret dM_plan_168 rfl ⟨τ', β', m, s, hpl, rfl, ?_⟩
      rw [p5]
    · skip
      refine zk_aload_n dM_plan_32 rfl ?_
      refine zk_iload_n dM_plan_33 rfl ?_
      refine zk_iload_n dM_plan_34 rfl ?_
      refine zk_callV (av := [.inl (i : Int), .inl (s : Int)]) (st := []) (d' := (2, 46)) (kc' := 0) (ks' := 0) zbM_110 dM_plan_35 rfl (by decide) rfl rfl (Nat.le_of_ble_eq_true rfl) ⟨by decide, by decide⟩ rfl rfl (kM_find G sw σ α τ' β' t hI2 hK2 (i := i) (s := s) (by omega) (by omega)) (fun v9 h9 q9 => ?_)
      obtain ⟨rfl, x, p, n, hB, rfl⟩ := q9
      have hB2 := zm_B_E v1 v4 v5 p3 hB
      have hr := mt_best_rg hB2
      refine zk_W.to (ls' := [some (.inr (some 22)), some (.inl (i : Int)), some (.inl (s : Int)), none]) (st' := []) (h' := (zk_mk G sw σ α (zk_md (zk_up (zk_up (zk_up τ' 10 (x : Int)) 11 (p : Int)) 12 (n : Int)) β' t))) rfl rfl rfl ?_
      refine zk_aload_n dM_plan_38 rfl ?_
      refine zk_get zfM_16 dM_plan_39 (v := .inr (some 25)) rfl (by decide) rfl ?_
      refine zk_aload_n dM_plan_42 rfl ?_
      refine zk_get zfM_56 dM_plan_43 (v := .inl (τ' 5)) rfl (by decide) rfl ?_
      refine zk_aload_n dM_plan_46 rfl ?_
      refine zk_get zfM_94 dM_plan_47 (v := .inl (x : Int)) rfl (by decide) rfl ?_
      refine zk_iast dM_plan_50 (n := 100) (f := β' 2) (h' := (zk_mk G sw σ α (zk_md (zk_up (zk_up (zk_up τ' 10 (x : Int)) 11 (p : Int)) 12 (n : Int)) (zk_ua β' 2 (zk_up (β' 2) (τ' 5).toNat (x : Int))) t))) rfl (by decide) (by omega) (by omega) (by omega) rfl ?_
      refine zk_aload_n dM_plan_51 rfl ?_
      refine zk_get zfM_19 dM_plan_52 (v := .inr (some 26)) rfl (by decide) rfl ?_
      refine zk_aload_n dM_plan_55 rfl ?_
      refine zk_get zfM_56 dM_plan_56 (v := .inl (τ' 5)) rfl (by decide) rfl ?_
      refine zk_aload_n dM_plan_59 rfl ?_
      refine zk_get zfM_97 dM_plan_60 (v := .inl (p : Int)) rfl (by decide) rfl ?_
      refine zk_iast dM_plan_63 (n := 100) (f := β' 3) (h' := (zk_mk G sw σ α (zk_md (zk_up (zk_up (zk_up τ' 10 (x : Int)) 11 (p : Int)) 12 (n : Int)) (zk_ua (zk_ua β' 2 (zk_up (β' 2) (τ' 5).toNat (x : Int))) 3 (zk_up (β' 3) (τ' 5).toNat (p : Int))) t))) rfl (by decide) (by omega) (by omega) (by omega) rfl ?_
      refine zk_aload_n dM_plan_64 rfl ?_
      refine zk_get zfM_22 dM_plan_65 (v := .inr (some 27)) rfl (by decide) rfl ?_
      refine zk_aload_n dM_plan_68 rfl ?_
      refine zk_get zfM_56 dM_plan_69 (v := .inl (τ' 5)) rfl (by decide) rfl ?_
      refine zk_aload_n dM_plan_72 rfl ?_
      refine zk_get zfM_100 dM_plan_73 (v := .inl (n : Int)) rfl (by decide) rfl ?_
      refine zk_iast dM_plan_76 (n := 100) (f := β' 4) (h' := (zk_mk G sw σ α (zk_md (zk_up (zk_up (zk_up τ' 10 (x : Int)) 11 (p : Int)) 12 (n : Int)) (zk_ua (zk_ua (zk_ua β' 2 (zk_up (β' 2) (τ' 5).toNat (x : Int))) 3 (zk_up (β' 3) (τ' 5).toNat (p : Int))) 4 (zk_up (β' 4) (τ' 5).toNat (n : Int))) t))) rfl (by decide) (by omega) (by omega) (by omega) rfl ?_
      refine zk_iconst dM_plan_77 ?_
      refine zk_istore_n (ls' := [some (.inr (some 22)), some (.inl (i : Int)), some (.inl (s : Int)), some (.inl 0)]) dM_plan_78 (by decide) rfl ?_
      by_cases hx2 : x = 2
      · have ez : zk_ua (zk_ua (zk_ua β' 2 (zk_up (β' 2) (τ' 5).toNat (x : Int))) 3 (zk_up (β' 3) (τ' 5).toNat (p : Int))) 4 (zk_up (β' 4) (τ' 5).toNat (n : Int)) = zk_ua (zk_ua (zk_ua (zk_ua β' 2 (zk_up (β' 2) (τ' 5).toNat (x : Int))) 3 (zk_up (β' 3) (τ' 5).toNat (p : Int))) 4 (zk_up (β' 4) (τ' 5).toNat (n : Int))) 5 (mt_ap (β' 5) (40 * (τ' 5).toNat) 0 (fun j => zm_T β' 1 (i + j))) := by
          rw [mt_ap_0]
          exact (zk_ua_self (zk_ua (zk_ua (zk_ua β' 2 (zk_up (β' 2) (τ' 5).toNat (x : Int))) 3 (zk_up (β' 3) (τ' 5).toNat (p : Int))) 4 (zk_up (β' 4) (τ' 5).toNat (n : Int))) 5).symm
        rw [ez]
        refine wM_plan_l G sw σ α t (by omega) hx2 (by omega) ?_ (n + 1) 0 (by omega) (by omega)
        refine zk_aload_n dM_plan_123 rfl ?_
        refine zk_dup dM_plan_124 ?_
        refine zk_get zfM_56 dM_plan_125 (v := .inl (τ' 5)) rfl (by decide) rfl ?_
        refine zk_iconst dM_plan_128 ?_
        refine zk_iadd dM_plan_129 ?_
        refine zk_put zfM_56 dM_plan_130 (h' := (zk_mk G sw σ α (zk_md (zk_up (zk_up (zk_up (zk_up τ' 10 (x : Int)) 11 (p : Int)) 12 (n : Int)) 5 ((τ' 5) + 1)) (zk_ua (zk_ua (zk_ua (zk_ua β' 2 (zk_up (β' 2) (τ' 5).toNat (x : Int))) 3 (zk_up (β' 3) (τ' 5).toNat (p : Int))) 4 (zk_up (β' 4) (τ' 5).toNat (n : Int))) 5 (mt_ap (β' 5) (40 * (τ' 5).toNat) n (fun j => zm_T β' 1 (i + j)))) t))) rfl (by decide) (Nat.le_of_ble_eq_true rfl) rfl rfl rfl ?_
        refine zk_aload_n dM_plan_133 rfl ?_
        refine zk_get zfM_94 dM_plan_134 (v := .inl (x : Int)) rfl (by decide) rfl ?_
        refine zk_if_ne (tgt := 152) dM_plan_137 (by decide) ⟨by omega, by omega⟩ (fun h137 => ?_) (fun h137 => ?_)
        · skip
          refine zk_iload_n dM_plan_152 rfl ?_
          refine zk_istore_n (ls' := [some (.inr (some 22)), some (.inl (i : Int)), some (.inl (s : Int)), some (.inl (n : Int))]) dM_plan_153 (by decide) rfl ?_
          refine zk_iload_n dM_plan_154 rfl ?_
          refine zk_aload_n dM_plan_155 rfl ?_
          refine zk_get zfM_100 dM_plan_156 (v := .inl (n : Int)) rfl (by decide) rfl ?_
          refine zk_iadd dM_plan_159 ?_
          refine zk_istore_n (ls' := [some (.inr (some 22)), some (.inl ((i : Int) + (n : Int))), some (.inl (s : Int)), some (.inl (n : Int))]) dM_plan_160 (by decide) rfl ?_
          refine zk_goto (tgt := 22) dM_plan_161 (by decide) ?_
          have e1 : (i : Int) + (n : Int) = ((i + n : Nat) : Int) := by omega
          have e2 : mt_s s x p n = s := by
            unfold mt_s
            rw [if_neg (by omega)]
          rw [e1]
          have e5 : (τ' 5).toNat = m := by omega
          refine zk_W.drop 3 rfl ?_
          have hst : zm_pl f τ (zk_up (zk_up (zk_up (zk_up τ' 10 (x : Int)) 11 (p : Int)) 12 (n : Int)) 5 ((τ' 5) + 1)) β (zk_ua (zk_ua (zk_ua (zk_ua β' 2 (zk_up (β' 2) (τ' 5).toNat (x : Int))) 3 (zk_up (β' 3) (τ' 5).toNat (p : Int))) 4 (zk_up (β' 4) (τ' 5).toNat (n : Int))) 5 (mt_ap (β' 5) (40 * (τ' 5).toNat) n (fun j => zm_T β' 1 (i + j)))) (m + 1) (i + n) (mt_s s x p n) := by
            refine zm_pl_step hpl hI hB2 ⟨fun q hq => ?_, v2, v3, v4, v5, v6, v7⟩ p2 p3 rfl (show τ' 5 + 1 = _ by omega) ?_ ?_ ?_ ?_ ?_
            · show zk_up (zk_up (zk_up (zk_up τ' 10 (x : Int)) 11 (p : Int)) 12 (n : Int)) 5 (τ' 5 + 1) q = τ q
              rw [zk_up_ne (by omega), zk_up_ne (by omega), zk_up_ne (by omega), zk_up_ne (by omega)]
              exact v1 q hq
            · show zk_up (β' 2) (τ' 5).toNat _ = _
              rw [e5]
            · show zk_up (β' 3) (τ' 5).toNat _ = _
              rw [e5]
            · show zk_up (β' 4) (τ' 5).toNat _ = _
              rw [e5]
            · intro k' hk' h2 j hj
              have hbk := (mt_pl_rg q1 k' hk')
              show mt_ap (β' 5) (40 * (τ' 5).toNat) n (fun j => zm_T β' 1 (i + j)) (40 * k' + j) = β' 5 (40 * k' + j)
              exact mt_ap_out (by omega)
            · intro _ j hj
              show mt_ap (β' 5) (40 * (τ' 5).toNat) n (fun j => zm_T β' 1 (i + j)) (40 * m + j) = zm_T β 1 (i + j)
              rw [e5, mt_ap_in hj, zm_T_E v4]
          rw [e2] at hst
          exact ih (m + 1) (i + n) s _ _ (by omega) hst
        · skip
          refine zk_aload_n dM_plan_140 rfl ?_
          refine zk_get zfM_97 dM_plan_141 (v := .inl (p : Int)) rfl (by decide) rfl ?_
          refine zk_aload_n dM_plan_144 rfl ?_
          refine zk_get zfM_100 dM_plan_145 (v := .inl (n : Int)) rfl (by decide) rfl ?_
          refine zk_iadd dM_plan_148 ?_
          refine zk_goto (tgt := 153) dM_plan_149 (by decide) ?_
          refine zk_istore_n (ls' := [some (.inr (some 22)), some (.inl (i : Int)), some (.inl ((p : Int) + (n : Int))), some (.inl (n : Int))]) dM_plan_153 (by decide) rfl ?_
          refine zk_iload_n dM_plan_154 rfl ?_
          refine zk_aload_n dM_plan_155 rfl ?_
          refine zk_get zfM_100 dM_plan_156 (v := .inl (n : Int)) rfl (by decide) rfl ?_
          refine zk_iadd dM_plan_159 ?_
          refine zk_istore_n (ls' := [some (.inr (some 22)), some (.inl ((i : Int) + (n : Int))), some (.inl ((p : Int) + (n : Int))), some (.inl (n : Int))]) dM_plan_160 (by decide) rfl ?_
          refine zk_goto (tgt := 22) dM_plan_161 (by decide) ?_
          have e1 : (i : Int) + (n : Int) = ((i + n : Nat) : Int) := by omega
          have e2 : (p : Int) + (n : Int) = ((mt_s s x p n : Nat) : Int) := by
            unfold mt_s
            rw [if_pos (by omega)]
            omega
          rw [e1, e2]
          have e5 : (τ' 5).toNat = m := by omega
          refine zk_W.drop 3 rfl ?_
          have hst : zm_pl f τ (zk_up (zk_up (zk_up (zk_up τ' 10 (x : Int)) 11 (p : Int)) 12 (n : Int)) 5 ((τ' 5) + 1)) β (zk_ua (zk_ua (zk_ua (zk_ua β' 2 (zk_up (β' 2) (τ' 5).toNat (x : Int))) 3 (zk_up (β' 3) (τ' 5).toNat (p : Int))) 4 (zk_up (β' 4) (τ' 5).toNat (n : Int))) 5 (mt_ap (β' 5) (40 * (τ' 5).toNat) n (fun j => zm_T β' 1 (i + j)))) (m + 1) (i + n) (mt_s s x p n) := by
            refine zm_pl_step hpl hI hB2 ⟨fun q hq => ?_, v2, v3, v4, v5, v6, v7⟩ p2 p3 rfl (show τ' 5 + 1 = _ by omega) ?_ ?_ ?_ ?_ ?_
            · show zk_up (zk_up (zk_up (zk_up τ' 10 (x : Int)) 11 (p : Int)) 12 (n : Int)) 5 (τ' 5 + 1) q = τ q
              rw [zk_up_ne (by omega), zk_up_ne (by omega), zk_up_ne (by omega), zk_up_ne (by omega)]
              exact v1 q hq
            · show zk_up (β' 2) (τ' 5).toNat _ = _
              rw [e5]
            · show zk_up (β' 3) (τ' 5).toNat _ = _
              rw [e5]
            · show zk_up (β' 4) (τ' 5).toNat _ = _
              rw [e5]
            · intro k' hk' h2 j hj
              have hbk := (mt_pl_rg q1 k' hk')
              show mt_ap (β' 5) (40 * (τ' 5).toNat) n (fun j => zm_T β' 1 (i + j)) (40 * k' + j) = β' 5 (40 * k' + j)
              exact mt_ap_out (by omega)
            · intro _ j hj
              show mt_ap (β' 5) (40 * (τ' 5).toNat) n (fun j => zm_T β' 1 (i + j)) (40 * m + j) = zm_T β 1 (i + j)
              rw [e5, mt_ap_in hj, zm_T_E v4]
          exact ih (m + 1) (i + n) (mt_s s x p n) _ _ (by omega) hst
      · skip
        refine zk_iload_n dM_plan_79 rfl ?_
        refine zk_aload_n dM_plan_80 rfl ?_
        refine zk_get zfM_100 dM_plan_81 (v := .inl (n : Int)) rfl (by decide) rfl ?_
        refine zk_icmp_ge (tgt := 123) dM_plan_84 (by decide) ⟨by decide, by decide⟩ ⟨by omega, by omega⟩ (fun h84 => ?_) (fun h84 => ?_)
        · skip
          exfalso; omega
        · skip
          refine zk_aload_n dM_plan_87 rfl ?_
          refine zk_get zfM_94 dM_plan_88 (v := .inl (x : Int)) rfl (by decide) rfl ?_
          refine zk_iconst dM_plan_91 ?_
          refine zk_icmp_ne (tgt := 123) dM_plan_92 (by decide) ⟨by omega, by omega⟩ ⟨by decide, by decide⟩ (fun h92 => ?_) (fun h92 => ?_)
          · skip
            refine zk_aload_n dM_plan_123 rfl ?_
            refine zk_dup dM_plan_124 ?_
            refine zk_get zfM_56 dM_plan_125 (v := .inl (τ' 5)) rfl (by decide) rfl ?_
            refine zk_iconst dM_plan_128 ?_
            refine zk_iadd dM_plan_129 ?_
            refine zk_put zfM_56 dM_plan_130 (h' := (zk_mk G sw σ α (zk_md (zk_up (zk_up (zk_up (zk_up τ' 10 (x : Int)) 11 (p : Int)) 12 (n : Int)) 5 ((τ' 5) + 1)) (zk_ua (zk_ua (zk_ua β' 2 (zk_up (β' 2) (τ' 5).toNat (x : Int))) 3 (zk_up (β' 3) (τ' 5).toNat (p : Int))) 4 (zk_up (β' 4) (τ' 5).toNat (n : Int))) t))) rfl (by decide) (Nat.le_of_ble_eq_true rfl) rfl rfl rfl ?_
            refine zk_aload_n dM_plan_133 rfl ?_
            refine zk_get zfM_94 dM_plan_134 (v := .inl (x : Int)) rfl (by decide) rfl ?_
            refine zk_if_ne (tgt := 152) dM_plan_137 (by decide) ⟨by omega, by omega⟩ (fun h137 => ?_) (fun h137 => ?_)
            · skip
              refine zk_iload_n dM_plan_152 rfl ?_
              refine zk_istore_n (ls' := [some (.inr (some 22)), some (.inl (i : Int)), some (.inl (s : Int)), some (.inl 0)]) dM_plan_153 (by decide) rfl ?_
              refine zk_iload_n dM_plan_154 rfl ?_
              refine zk_aload_n dM_plan_155 rfl ?_
              refine zk_get zfM_100 dM_plan_156 (v := .inl (n : Int)) rfl (by decide) rfl ?_
              refine zk_iadd dM_plan_159 ?_
              refine zk_istore_n (ls' := [some (.inr (some 22)), some (.inl ((i : Int) + (n : Int))), some (.inl (s : Int)), some (.inl 0)]) dM_plan_160 (by decide) rfl ?_
              refine zk_goto (tgt := 22) dM_plan_161 (by decide) ?_
              have e1 : (i : Int) + (n : Int) = ((i + n : Nat) : Int) := by omega
              have e2 : mt_s s x p n = s := by
                unfold mt_s
                rw [if_neg (by omega)]
              rw [e1]
              have e5 : (τ' 5).toNat = m := by omega
              refine zk_W.drop 3 rfl ?_
              have hst : zm_pl f τ (zk_up (zk_up (zk_up (zk_up τ' 10 (x : Int)) 11 (p : Int)) 12 (n : Int)) 5 ((τ' 5) + 1)) β (zk_ua (zk_ua (zk_ua β' 2 (zk_up (β' 2) (τ' 5).toNat (x : Int))) 3 (zk_up (β' 3) (τ' 5).toNat (p : Int))) 4 (zk_up (β' 4) (τ' 5).toNat (n : Int))) (m + 1) (i + n) (mt_s s x p n) := by
                refine zm_pl_step hpl hI hB2 ⟨fun q hq => ?_, v2, v3, v4, v5, v6, v7⟩ p2 p3 rfl (show τ' 5 + 1 = _ by omega) ?_ ?_ ?_ ?_ ?_
                · show zk_up (zk_up (zk_up (zk_up τ' 10 (x : Int)) 11 (p : Int)) 12 (n : Int)) 5 (τ' 5 + 1) q = τ q
                  rw [zk_up_ne (by omega), zk_up_ne (by omega), zk_up_ne (by omega), zk_up_ne (by omega)]
                  exact v1 q hq
                · show zk_up (β' 2) (τ' 5).toNat _ = _
                  rw [e5]
                · show zk_up (β' 3) (τ' 5).toNat _ = _
                  rw [e5]
                · show zk_up (β' 4) (τ' 5).toNat _ = _
                  rw [e5]
                · intro k' hk' h2 j hj
                  rfl
                · intro h2
                  exact absurd h2 hx2
              rw [e2] at hst
              exact ih (m + 1) (i + n) s _ _ (by omega) hst
            · skip
              refine zk_aload_n dM_plan_140 rfl ?_
              refine zk_get zfM_97 dM_plan_141 (v := .inl (p : Int)) rfl (by decide) rfl ?_
              refine zk_aload_n dM_plan_144 rfl ?_
              refine zk_get zfM_100 dM_plan_145 (v := .inl (n : Int)) rfl (by decide) rfl ?_
              refine zk_iadd dM_plan_148 ?_
              refine zk_goto (tgt := 153) dM_plan_149 (by decide) ?_
              refine zk_istore_n (ls' := [some (.inr (some 22)), some (.inl (i : Int)), some (.inl ((p : Int) + (n : Int))), some (.inl 0)]) dM_plan_153 (by decide) rfl ?_
              refine zk_iload_n dM_plan_154 rfl ?_
              refine zk_aload_n dM_plan_155 rfl ?_
              refine zk_get zfM_100 dM_plan_156 (v := .inl (n : Int)) rfl (by decide) rfl ?_
              refine zk_iadd dM_plan_159 ?_
              refine zk_istore_n (ls' := [some (.inr (some 22)), some (.inl ((i : Int) + (n : Int))), some (.inl ((p : Int) + (n : Int))), some (.inl 0)]) dM_plan_160 (by decide) rfl ?_
              refine zk_goto (tgt := 22) dM_plan_161 (by decide) ?_
              have e1 : (i : Int) + (n : Int) = ((i + n : Nat) : Int) := by omega
              have e2 : (p : Int) + (n : Int) = ((mt_s s x p n : Nat) : Int) := by
                unfold mt_s
                rw [if_pos (by omega)]
                omega
              rw [e1, e2]
              have e5 : (τ' 5).toNat = m := by omega
              refine zk_W.drop 3 rfl ?_
              have hst : zm_pl f τ (zk_up (zk_up (zk_up (zk_up τ' 10 (x : Int)) 11 (p : Int)) 12 (n : Int)) 5 ((τ' 5) + 1)) β (zk_ua (zk_ua (zk_ua β' 2 (zk_up (β' 2) (τ' 5).toNat (x : Int))) 3 (zk_up (β' 3) (τ' 5).toNat (p : Int))) 4 (zk_up (β' 4) (τ' 5).toNat (n : Int))) (m + 1) (i + n) (mt_s s x p n) := by
                refine zm_pl_step hpl hI hB2 ⟨fun q hq => ?_, v2, v3, v4, v5, v6, v7⟩ p2 p3 rfl (show τ' 5 + 1 = _ by omega) ?_ ?_ ?_ ?_ ?_
                · show zk_up (zk_up (zk_up (zk_up τ' 10 (x : Int)) 11 (p : Int)) 12 (n : Int)) 5 (τ' 5 + 1) q = τ q
                  rw [zk_up_ne (by omega), zk_up_ne (by omega), zk_up_ne (by omega), zk_up_ne (by omega)]
                  exact v1 q hq
                · show zk_up (β' 2) (τ' 5).toNat _ = _
                  rw [e5]
                · show zk_up (β' 3) (τ' 5).toNat _ = _
                  rw [e5]
                · show zk_up (β' 4) (τ' 5).toNat _ = _
                  rw [e5]
                · intro k' hk' h2 j hj
                  rfl
                · intro h2
                  exact absurd h2 hx2
              exact ih (m + 1) (i + n) (mt_s s x p n) _ _ (by omega) hst
          · skip
            exfalso; omega

set_option maxRecDepth 100000 in
set_option maxHeartbeats 4000000 in
theorem kM_plan (G : zk_G) (sw : Bool) (σ : Nat → Int) (α : Nat → Nat → Int) (τ : Nat → Int) (β : Nat → Nat → Int) (t : zk_H) (hJ : zm_J τ β)  : zk_K G mM_plan (3, 75) 0 0 [.inr (some 22)] (zk_mk G sw σ α (zk_md τ β t)) (fun v h' => ∃ (f : Nat → Int) (τ3 : Nat → Int) (β3 : Nat → Nat → Int) (m s : Nat), zm_K τ (zk_ua β 8 f) ∧ zm_pl f τ τ3 β β3 m (zm_n β 1) s ∧ h' = zk_mk G sw σ α (zk_md τ3 β3 t) ∧ v = some (.inl (m : Int))) := by
  have hI := hJ.1
  have i0 := hI.1
  have i1 := hI.2.1
  have c0 : 0 ≤ τ 0 ∧ τ 0 ≤ 100 := hI.2.2.2 0 (by decide)
  have c1 : 0 ≤ τ 1 ∧ τ 1 ≤ 100 := hI.2.2.2 1 (by decide)
  have c2 : 0 ≤ τ 2 ∧ τ 2 ≤ 100 := hI.2.2.2 2 (by decide)
  have c3 : 0 ≤ τ 3 ∧ τ 3 ≤ 100 := hI.2.2.2 3 (by decide)
  have c4 : 0 ≤ τ 4 ∧ τ 4 ≤ 100 := hI.2.2.2 4 (by decide)
  have j5 := hJ.2.1
  have j6 := hJ.2.2.1
  have j7 := hJ.2.2.2.1
  have j8 := hJ.2.2.2.2.1
  have hA := hJ.2.2.2.2.2.1
  refine zk_K.of (ls := [some (.inr (some 22)), none, none, none]) (by decide +kernel) (Nat.le_of_ble_eq_true rfl) rfl ?_
  refine zk_aload_n dM_plan_0 rfl ?_
  refine zk_callV (av := []) (st := []) (d' := (2, 46)) (kc' := 0) (ks' := 0) zbM_103 dM_plan_1 rfl (by decide) rfl rfl (Nat.le_of_ble_eq_true rfl) ⟨by decide, by decide⟩ rfl rfl (kM_learn G sw σ α τ β t hI hJ.2.2.2.2.2.2.2.2.2.1 hJ.2.2.2.2.2.2.2.2.2.2) (fun v9 h9 q9 => ?_)
  obtain ⟨rfl, f, hf, rfl⟩ := q9
  refine zk_W.to (ls' := [some (.inr (some 22)), none, none, none]) (st' := []) (h' := (zk_mk G sw σ α (zk_md (zk_up τ 9 1) (zk_ua β 8 f) t))) rfl rfl rfl ?_
  refine zk_aload_n dM_plan_4 rfl ?_
  refine zk_iconst dM_plan_5 ?_
  refine zk_put zfM_56 dM_plan_6 (h' := (zk_mk G sw σ α (zk_md (zk_up (zk_up τ 9 1) 5 0) (zk_ua β 8 f) t))) rfl (by decide) (Nat.le_of_ble_eq_true rfl) rfl rfl rfl ?_
  refine zk_aload_n dM_plan_9 rfl ?_
  refine zk_aload_n dM_plan_10 rfl ?_
  refine zk_iconst dM_plan_11 ?_
  refine zk_callV (av := [.inl 0]) (st := [.inr (some 22)]) (d' := (1, 22)) (kc' := 0) (ks' := 0) zbM_106 dM_plan_12 rfl (by decide) rfl rfl (Nat.le_of_ble_eq_true rfl) ⟨by decide, by decide⟩ rfl rfl (kM_sumOf G sw σ α (zk_up (zk_up τ 9 1) 5 0) (zk_ua β 8 f) t (zm_I_E (τ := τ) (β := β) (fun q hq => by rw [zk_up_ne (by omega), zk_up_ne (by omega)]) rfl rfl hI) (q := 0) (by decide)) (fun v9 h9 q9 => ?_)
  obtain ⟨rfl, rfl⟩ := q9
  refine zk_W.to (ls' := [some (.inr (some 22)), none, none, none]) (st' := [.inl (mt_sum (zm_T β 0) (zm_n β 0)), .inr (some 22)]) (h' := (zk_mk G sw σ α (zk_md (zk_up (zk_up τ 9 1) 5 0) (zk_ua β 8 f) t))) rfl rfl rfl ?_
  refine zk_put zfM_59 dM_plan_15 (h' := (zk_mk G sw σ α (zk_md (zk_up (zk_up (zk_up τ 9 1) 5 0) 6 (mt_sum (zm_T β 0) (zm_n β 0))) (zk_ua β 8 f) t))) rfl (by decide) (Nat.le_of_ble_eq_true rfl) rfl rfl rfl ?_
  refine zk_iconst dM_plan_18 ?_
  refine zk_istore_n (ls' := [some (.inr (some 22)), some (.inl 0), none, none]) dM_plan_19 (by decide) rfl ?_
  refine zk_iconst dM_plan_20 ?_
  refine zk_istore_n (ls' := [some (.inr (some 22)), some (.inl 0), some (.inl 0), none]) dM_plan_21 (by decide) rfl ?_
  have key := wM_plan G sw σ α τ β t (f := f) hI hf (zm_n β 1 + 1) 0 0 0 (zk_up (zk_up (zk_up τ 9 1) 5 0) 6 (mt_sum (zm_T β 0) (zm_n β 0))) (zk_ua β 8 f) (by omega) ⟨⟨fun q hq => ?_, rfl, rfl, rfl, rfl, rfl, rfl⟩, rfl, rfl, rfl, rfl, ⟨fun k hk => absurd hk (Nat.not_lt_zero k), rfl, rfl, by omega, by omega, by omega⟩, fun k hk => absurd hk (Nat.not_lt_zero k), fun k hk => absurd hk (Nat.not_lt_zero k)⟩
  · refine key.mono (fun v h' hq => ?_)
    obtain ⟨τ3, β3, m, s, r1, r2, r3⟩ := hq
    exact ⟨f, τ3, β3, m, s, hf, r1, r2, r3⟩
  · show (zk_up (zk_up (zk_up τ 9 1) 5 0) 6 (mt_sum (zm_T β 0) (zm_n β 0))) q = τ q
    rw [zk_up_ne (by omega), zk_up_ne (by omega), zk_up_ne (by omega)]

set_option maxRecDepth 100000 in
set_option maxHeartbeats 4000000 in
theorem wM_moved (G : zk_G) (sw : Bool) (σ : Nat → Int) (α : Nat → Nat → Int) (τ : Nat → Int) (β : Nat → Nat → Int) (t : zk_H) {f : Nat → Int} (hI : zm_I τ β) (hK : zm_K τ (zk_ua β 8 f)) {x : Int} (hx : zk_rg x) : ∀ (k : Nat) (m i s : Nat) (τ' : Nat → Int) (K P C : Nat → Int), (zm_n β 1 < i + k) → (∀ q, q < 9 → τ' q = τ q) → (τ' 9 = 1) → (mt_go (fun i s x p n => mt_best (zm_T β 0) (zm_n β 0) (zm_T β 1) (zm_n β 1) (zm_c τ) (mt_tb f) i s x p n) (zm_n β 0) (zm_n β 1) K P C m i s) → zk_W G mM_moved (3, 75) 0 0 23 [some (.inr (some 22)), some (.inl x), some (.inl (mt_mv K P C x m)), some (.inl (i : Int)), some (.inl (s : Int)), none] [] (zk_mk G sw σ α (zk_md τ' (zk_ua β 8 f) t)) (fun v h' => ∃ (τ3 : Nat → Int) (K P C : Nat → Int) (m s : Nat), (∀ q, q < 9 → τ3 q = τ q) ∧ τ3 9 = 1 ∧ mt_go (fun i s x p n => mt_best (zm_T β 0) (zm_n β 0) (zm_T β 1) (zm_n β 1) (zm_c τ) (mt_tb f) i s x p n) (zm_n β 0) (zm_n β 1) K P C m (zm_n β 1) s ∧ h' = zk_mk G sw σ α (zk_md τ3 (zk_ua β 8 f) t) ∧ v = some (.inl (mt_mv K P C x m))) := by
  intro k
  induction k with
  | zero =>
    intro m i s τ' K P C g2 hv h9 hgo
    obtain ⟨q1, q2, q3, q4, q5, q6⟩ := id hgo
    have hv5 : ∀ q, q < 5 → τ' q = τ q := fun q hq => hv q (by omega)
    have hI2 : zm_I τ' (zk_ua β 8 f) := zm_I_E hv5 rfl rfl hI
    have hK2 : zm_K τ' (zk_ua β 8 f) := zm_K_E hv5 rfl rfl rfl hK
    have i0 := hI.1
    have i1 := hI.2.1
    have y0 : (zm_n β 0 : Int) = β 1 0 := by unfold zm_n; omega
    have y1 : (zm_n β 1 : Int) = β 1 1 := by unfold zm_n; omega
    exfalso
    omega
  | succ k ih =>
    intro m i s τ' K P C g2 hv h9 hgo
    obtain ⟨q1, q2, q3, q4, q5, q6⟩ := id hgo
    have hv5 : ∀ q, q < 5 → τ' q = τ q := fun q hq => hv q (by omega)
    have hI2 : zm_I τ' (zk_ua β 8 f) := zm_I_E hv5 rfl rfl hI
    have hK2 : zm_K τ' (zk_ua β 8 f) := zm_K_E hv5 rfl rfl rfl hK
    have i0 := hI.1
    have i1 := hI.2.1
    have y0 : (zm_n β 0 : Int) = β 1 0 := by unfold zm_n; omega
    have y1 : (zm_n β 1 : Int) = β 1 1 := by unfold zm_n; omega
    refine zk_iload_n dM_moved_23 rfl ?_
    refine zk_aload_n dM_moved_24 rfl ?_
    refine zk_get zfM_13 dM_moved_25 (v := .inr (some 24)) rfl (by decide) rfl ?_
    refine zk_iconst dM_moved_28 ?_
    refine zk_iald dM_moved_29 (n := 2) (f := β 1) rfl (by omega) (by omega) (by omega) ?_
    refine zk_W.to (ls' := [some (.inr (some 22)), some (.inl x), some (.inl (mt_mv K P C x m)), some (.inl (i : Int)), some (.inl (s : Int)), none]) (st' := [.inl (β 1 1), .inl (i : Int)]) (h' := (zk_mk G sw σ α (zk_md τ' (zk_ua β 8 f) t))) rfl rfl rfl ?_
    refine zk_icmp_ge (tgt := 142) dM_moved_30 (by decide) ⟨by omega, by omega⟩ ⟨by omega, by omega⟩ (fun h30 => ?_) (fun h30 => ?_)
    · skip
      refine zk_iload_n dM_moved_142 rfl ?_
      have ei : i = zm_n β 1 := by omega
      rw [ei] at hgo
      exact zk_iret dM_moved_143 rfl ⟨τ', K, P, C, m, s, hv, h9, hgo, rfl, rfl⟩
    · skip
      refine zk_aload_n dM_moved_33 rfl ?_
      refine zk_iload_n dM_moved_34 rfl ?_
      refine zk_iload dM_moved_35 rfl ?_
      refine zk_callV (av := [.inl (i : Int), .inl (s : Int)]) (st := []) (d' := (2, 46)) (kc' := 0) (ks' := 0) zbM_110 dM_moved_37 rfl (by decide) rfl rfl (Nat.le_of_ble_eq_true rfl) ⟨by decide, by decide⟩ rfl rfl (kM_find G sw σ α τ' (zk_ua β 8 f) t hI2 hK2 (i := i) (s := s) (show i < zm_n β 1 by omega) (show s ≤ zm_n β 0 by omega)) (fun v9 h9 q9 => ?_)
      obtain ⟨rfl, x', p, n, hB, rfl⟩ := q9
      have hB2 : mt_best (zm_T β 0) (zm_n β 0) (zm_T β 1) (zm_n β 1) (zm_c τ) (mt_tb f) i s x' p n := zm_B_E (β := β) (β' := zk_ua β 8 f) hv5 rfl rfl rfl hB
      have hr := mt_best_rg hB2
      refine zk_W.to (ls' := [some (.inr (some 22)), some (.inl x), some (.inl (mt_mv K P C x m)), some (.inl (i : Int)), some (.inl (s : Int)), none]) (st' := []) (h' := (zk_mk G sw σ α (zk_md (zk_up (zk_up (zk_up τ' 10 (x' : Int)) 11 (p : Int)) 12 (n : Int)) (zk_ua β 8 f) t))) rfl rfl rfl ?_
      refine zk_aload_n dM_moved_40 rfl ?_
      refine zk_get zfM_94 dM_moved_41 (v := .inl (x' : Int)) rfl (by decide) rfl ?_
      refine zk_if_ne (tgt := 77) dM_moved_44 (by decide) ⟨by omega, by omega⟩ (fun h44 => ?_) (fun h44 => ?_)
      · skip
        refine zk_aload_n dM_moved_77 rfl ?_
        refine zk_get zfM_94 dM_moved_78 (v := .inl (x' : Int)) rfl (by decide) rfl ?_
        refine zk_iconst dM_moved_81 ?_
        refine zk_icmp_ne (tgt := 89) dM_moved_82 (by decide) ⟨by omega, by omega⟩ ⟨by decide, by decide⟩ (fun h82 => ?_) (fun h82 => ?_)
        · skip
          refine zk_iconst dM_moved_89 ?_
          refine zk_istore (ls' := [some (.inr (some 22)), some (.inl x), some (.inl (mt_mv K P C x m)), some (.inl (i : Int)), some (.inl (s : Int)), some (.inl 4)]) dM_moved_90 (by decide) rfl ?_
          refine zk_iload_n dM_moved_92 rfl ?_
          refine zk_iload dM_moved_93 rfl ?_
          refine zk_iload_n dM_moved_95 rfl ?_
          refine zk_icmp_ne (tgt := 106) dM_moved_96 (by decide) ⟨by decide, by decide⟩ hx (fun h96 => ?_) (fun h96 => ?_)
          · skip
            refine zk_iconst dM_moved_106 ?_
            refine zk_iadd dM_moved_107 ?_
            refine zk_istore_n (ls' := [some (.inr (some 22)), some (.inl x), some (.inl ((mt_mv K P C x m) + 0)), some (.inl (i : Int)), some (.inl (s : Int)), some (.inl 4)]) dM_moved_108 (by decide) rfl ?_
            refine zk_aload_n dM_moved_109 rfl ?_
            refine zk_get zfM_94 dM_moved_110 (v := .inl (x' : Int)) rfl (by decide) rfl ?_
            refine zk_if_ne (tgt := 128) dM_moved_113 (by decide) ⟨by omega, by omega⟩ (fun h113 => ?_) (fun h113 => ?_)
            · skip
              refine zk_iload dM_moved_128 rfl ?_
              refine zk_istore (ls' := [some (.inr (some 22)), some (.inl x), some (.inl ((mt_mv K P C x m) + 0)), some (.inl (i : Int)), some (.inl (s : Int)), some (.inl 4)]) dM_moved_130 (by decide) rfl ?_
              refine zk_iload_n dM_moved_132 rfl ?_
              refine zk_aload_n dM_moved_133 rfl ?_
              refine zk_get zfM_100 dM_moved_134 (v := .inl (n : Int)) rfl (by decide) rfl ?_
              refine zk_iadd dM_moved_137 ?_
              refine zk_istore_n (ls' := [some (.inr (some 22)), some (.inl x), some (.inl ((mt_mv K P C x m) + 0)), some (.inl ((i : Int) + (n : Int))), some (.inl (s : Int)), some (.inl 4)]) dM_moved_138 (by decide) rfl ?_
              refine zk_goto (tgt := 23) dM_moved_139 (by decide) ?_
              have e1 : (i : Int) + (n : Int) = ((i + n : Nat) : Int) := by omega
              have e2 : (s : Int) = ((mt_s s x' p n : Nat) : Int) := by
                unfold mt_s
                rw [if_neg (by omega)]
              have et : (mt_mv K P C x m) + 0 = mt_mv (zk_up K m (x' : Int)) (zk_up P m (p : Int)) (zk_up C m (n : Int)) x (m + 1) := by
                rw [mt_mv_up (s := s) q3]
                (repeat' split) <;> omega
              rw [et, e1]
              refine zk_W.drop 5 rfl ?_
              have hgo2 := mt_go_up hgo hB2
              rw [show mt_s s x' p n = s by omega] at hgo2
              refine ih (m + 1) (i + n) s _ _ _ _ (by omega) (fun q hq => ?_) h9 hgo2
              show (zk_up (zk_up (zk_up τ' 10 (x' : Int)) 11 (p : Int)) 12 (n : Int)) q = τ q
              rw [zk_up_ne (by omega), zk_up_ne (by omega), zk_up_ne (by omega)]
              exact hv q hq
            · skip
              refine zk_aload_n dM_moved_116 rfl ?_
              refine zk_get zfM_97 dM_moved_117 (v := .inl (p : Int)) rfl (by decide) rfl ?_
              refine zk_aload_n dM_moved_120 rfl ?_
              refine zk_get zfM_100 dM_moved_121 (v := .inl (n : Int)) rfl (by decide) rfl ?_
              refine zk_iadd dM_moved_124 ?_
              refine zk_goto (tgt := 130) dM_moved_125 (by decide) ?_
              refine zk_istore (ls' := [some (.inr (some 22)), some (.inl x), some (.inl ((mt_mv K P C x m) + 0)), some (.inl (i : Int)), some (.inl ((p : Int) + (n : Int))), some (.inl 4)]) dM_moved_130 (by decide) rfl ?_
              refine zk_iload_n dM_moved_132 rfl ?_
              refine zk_aload_n dM_moved_133 rfl ?_
              refine zk_get zfM_100 dM_moved_134 (v := .inl (n : Int)) rfl (by decide) rfl ?_
              refine zk_iadd dM_moved_137 ?_
              refine zk_istore_n (ls' := [some (.inr (some 22)), some (.inl x), some (.inl ((mt_mv K P C x m) + 0)), some (.inl ((i : Int) + (n : Int))), some (.inl ((p : Int) + (n : Int))), some (.inl 4)]) dM_moved_138 (by decide) rfl ?_
              refine zk_goto (tgt := 23) dM_moved_139 (by decide) ?_
              have e1 : (i : Int) + (n : Int) = ((i + n : Nat) : Int) := by omega
              have e2 : (p : Int) + (n : Int) = ((mt_s s x' p n : Nat) : Int) := by
                unfold mt_s
                rw [if_pos (by omega)]
                omega
              have et : (mt_mv K P C x m) + 0 = mt_mv (zk_up K m (x' : Int)) (zk_up P m (p : Int)) (zk_up C m (n : Int)) x (m + 1) := by
                rw [mt_mv_up (s := s) q3]
                (repeat' split) <;> omega
              rw [et, e1, e2]
              refine zk_W.drop 5 rfl ?_
              have hgo2 := mt_go_up hgo hB2
              refine ih (m + 1) (i + n) (mt_s s x' p n) _ _ _ _ (by omega) (fun q hq => ?_) h9 hgo2
              show (zk_up (zk_up (zk_up τ' 10 (x' : Int)) 11 (p : Int)) 12 (n : Int)) q = τ q
              rw [zk_up_ne (by omega), zk_up_ne (by omega), zk_up_ne (by omega)]
              exact hv q hq
          · skip
            refine zk_aload_n dM_moved_99 rfl ?_
            refine zk_get zfM_100 dM_moved_100 (v := .inl (n : Int)) rfl (by decide) rfl ?_
            refine zk_goto (tgt := 107) dM_moved_103 (by decide) ?_
            refine zk_iadd dM_moved_107 ?_
            refine zk_istore_n (ls' := [some (.inr (some 22)), some (.inl x), some (.inl ((mt_mv K P C x m) + (n : Int))), some (.inl (i : Int)), some (.inl (s : Int)), some (.inl 4)]) dM_moved_108 (by decide) rfl ?_
            refine zk_aload_n dM_moved_109 rfl ?_
            refine zk_get zfM_94 dM_moved_110 (v := .inl (x' : Int)) rfl (by decide) rfl ?_
            refine zk_if_ne (tgt := 128) dM_moved_113 (by decide) ⟨by omega, by omega⟩ (fun h113 => ?_) (fun h113 => ?_)
            · skip
              refine zk_iload dM_moved_128 rfl ?_
              refine zk_istore (ls' := [some (.inr (some 22)), some (.inl x), some (.inl ((mt_mv K P C x m) + (n : Int))), some (.inl (i : Int)), some (.inl (s : Int)), some (.inl 4)]) dM_moved_130 (by decide) rfl ?_
              refine zk_iload_n dM_moved_132 rfl ?_
              refine zk_aload_n dM_moved_133 rfl ?_
              refine zk_get zfM_100 dM_moved_134 (v := .inl (n : Int)) rfl (by decide) rfl ?_
              refine zk_iadd dM_moved_137 ?_
              refine zk_istore_n (ls' := [some (.inr (some 22)), some (.inl x), some (.inl ((mt_mv K P C x m) + (n : Int))), some (.inl ((i : Int) + (n : Int))), some (.inl (s : Int)), some (.inl 4)]) dM_moved_138 (by decide) rfl ?_
              refine zk_goto (tgt := 23) dM_moved_139 (by decide) ?_
              have e1 : (i : Int) + (n : Int) = ((i + n : Nat) : Int) := by omega
              have e2 : (s : Int) = ((mt_s s x' p n : Nat) : Int) := by
                unfold mt_s
                rw [if_neg (by omega)]
              have et : (mt_mv K P C x m) + (n : Int) = mt_mv (zk_up K m (x' : Int)) (zk_up P m (p : Int)) (zk_up C m (n : Int)) x (m + 1) := by
                rw [mt_mv_up (s := s) q3]
                (repeat' split) <;> omega
              rw [et, e1]
              refine zk_W.drop 5 rfl ?_
              have hgo2 := mt_go_up hgo hB2
              rw [show mt_s s x' p n = s by omega] at hgo2
              refine ih (m + 1) (i + n) s _ _ _ _ (by omega) (fun q hq => ?_) h9 hgo2
              show (zk_up (zk_up (zk_up τ' 10 (x' : Int)) 11 (p : Int)) 12 (n : Int)) q = τ q
              rw [zk_up_ne (by omega), zk_up_ne (by omega), zk_up_ne (by omega)]
              exact hv q hq
            · skip
              refine zk_aload_n dM_moved_116 rfl ?_
              refine zk_get zfM_97 dM_moved_117 (v := .inl (p : Int)) rfl (by decide) rfl ?_
              refine zk_aload_n dM_moved_120 rfl ?_
              refine zk_get zfM_100 dM_moved_121 (v := .inl (n : Int)) rfl (by decide) rfl ?_
              refine zk_iadd dM_moved_124 ?_
              refine zk_goto (tgt := 130) dM_moved_125 (by decide) ?_
              refine zk_istore (ls' := [some (.inr (some 22)), some (.inl x), some (.inl ((mt_mv K P C x m) + (n : Int))), some (.inl (i : Int)), some (.inl ((p : Int) + (n : Int))), some (.inl 4)]) dM_moved_130 (by decide) rfl ?_
              refine zk_iload_n dM_moved_132 rfl ?_
              refine zk_aload_n dM_moved_133 rfl ?_
              refine zk_get zfM_100 dM_moved_134 (v := .inl (n : Int)) rfl (by decide) rfl ?_
              refine zk_iadd dM_moved_137 ?_
              refine zk_istore_n (ls' := [some (.inr (some 22)), some (.inl x), some (.inl ((mt_mv K P C x m) + (n : Int))), some (.inl ((i : Int) + (n : Int))), some (.inl ((p : Int) + (n : Int))), some (.inl 4)]) dM_moved_138 (by decide) rfl ?_
              refine zk_goto (tgt := 23) dM_moved_139 (by decide) ?_
              have e1 : (i : Int) + (n : Int) = ((i + n : Nat) : Int) := by omega
              have e2 : (p : Int) + (n : Int) = ((mt_s s x' p n : Nat) : Int) := by
                unfold mt_s
                rw [if_pos (by omega)]
                omega
              have et : (mt_mv K P C x m) + (n : Int) = mt_mv (zk_up K m (x' : Int)) (zk_up P m (p : Int)) (zk_up C m (n : Int)) x (m + 1) := by
                rw [mt_mv_up (s := s) q3]
                (repeat' split) <;> omega
              rw [et, e1, e2]
              refine zk_W.drop 5 rfl ?_
              have hgo2 := mt_go_up hgo hB2
              refine ih (m + 1) (i + n) (mt_s s x' p n) _ _ _ _ (by omega) (fun q hq => ?_) h9 hgo2
              show (zk_up (zk_up (zk_up τ' 10 (x' : Int)) 11 (p : Int)) 12 (n : Int)) q = τ q
              rw [zk_up_ne (by omega), zk_up_ne (by omega), zk_up_ne (by omega)]
              exact hv q hq
        · skip
          refine zk_iconst dM_moved_85 ?_
          refine zk_goto (tgt := 90) dM_moved_86 (by decide) ?_
          refine zk_istore (ls' := [some (.inr (some 22)), some (.inl x), some (.inl (mt_mv K P C x m)), some (.inl (i : Int)), some (.inl (s : Int)), some (.inl 3)]) dM_moved_90 (by decide) rfl ?_
          refine zk_iload_n dM_moved_92 rfl ?_
          refine zk_iload dM_moved_93 rfl ?_
          refine zk_iload_n dM_moved_95 rfl ?_
          refine zk_icmp_ne (tgt := 106) dM_moved_96 (by decide) ⟨by decide, by decide⟩ hx (fun h96 => ?_) (fun h96 => ?_)
          · skip
            refine zk_iconst dM_moved_106 ?_
            refine zk_iadd dM_moved_107 ?_
            refine zk_istore_n (ls' := [some (.inr (some 22)), some (.inl x), some (.inl ((mt_mv K P C x m) + 0)), some (.inl (i : Int)), some (.inl (s : Int)), some (.inl 3)]) dM_moved_108 (by decide) rfl ?_
            refine zk_aload_n dM_moved_109 rfl ?_
            refine zk_get zfM_94 dM_moved_110 (v := .inl (x' : Int)) rfl (by decide) rfl ?_
            refine zk_if_ne (tgt := 128) dM_moved_113 (by decide) ⟨by omega, by omega⟩ (fun h113 => ?_) (fun h113 => ?_)
            · skip
              refine zk_iload dM_moved_128 rfl ?_
              refine zk_istore (ls' := [some (.inr (some 22)), some (.inl x), some (.inl ((mt_mv K P C x m) + 0)), some (.inl (i : Int)), some (.inl (s : Int)), some (.inl 3)]) dM_moved_130 (by decide) rfl ?_
              refine zk_iload_n dM_moved_132 rfl ?_
              refine zk_aload_n dM_moved_133 rfl ?_
              refine zk_get zfM_100 dM_moved_134 (v := .inl (n : Int)) rfl (by decide) rfl ?_
              refine zk_iadd dM_moved_137 ?_
              refine zk_istore_n (ls' := [some (.inr (some 22)), some (.inl x), some (.inl ((mt_mv K P C x m) + 0)), some (.inl ((i : Int) + (n : Int))), some (.inl (s : Int)), some (.inl 3)]) dM_moved_138 (by decide) rfl ?_
              refine zk_goto (tgt := 23) dM_moved_139 (by decide) ?_
              have e1 : (i : Int) + (n : Int) = ((i + n : Nat) : Int) := by omega
              have e2 : (s : Int) = ((mt_s s x' p n : Nat) : Int) := by
                unfold mt_s
                rw [if_neg (by omega)]
              have et : (mt_mv K P C x m) + 0 = mt_mv (zk_up K m (x' : Int)) (zk_up P m (p : Int)) (zk_up C m (n : Int)) x (m + 1) := by
                rw [mt_mv_up (s := s) q3]
                (repeat' split) <;> omega
              rw [et, e1]
              refine zk_W.drop 5 rfl ?_
              have hgo2 := mt_go_up hgo hB2
              rw [show mt_s s x' p n = s by omega] at hgo2
              refine ih (m + 1) (i + n) s _ _ _ _ (by omega) (fun q hq => ?_) h9 hgo2
              show (zk_up (zk_up (zk_up τ' 10 (x' : Int)) 11 (p : Int)) 12 (n : Int)) q = τ q
              rw [zk_up_ne (by omega), zk_up_ne (by omega), zk_up_ne (by omega)]
              exact hv q hq
            · skip
              refine zk_aload_n dM_moved_116 rfl ?_
              refine zk_get zfM_97 dM_moved_117 (v := .inl (p : Int)) rfl (by decide) rfl ?_
              refine zk_aload_n dM_moved_120 rfl ?_
              refine zk_get zfM_100 dM_moved_121 (v := .inl (n : Int)) rfl (by decide) rfl ?_
              refine zk_iadd dM_moved_124 ?_
              refine zk_goto (tgt := 130) dM_moved_125 (by decide) ?_
              refine zk_istore (ls' := [some (.inr (some 22)), some (.inl x), some (.inl ((mt_mv K P C x m) + 0)), some (.inl (i : Int)), some (.inl ((p : Int) + (n : Int))), some (.inl 3)]) dM_moved_130 (by decide) rfl ?_
              refine zk_iload_n dM_moved_132 rfl ?_
              refine zk_aload_n dM_moved_133 rfl ?_
              refine zk_get zfM_100 dM_moved_134 (v := .inl (n : Int)) rfl (by decide) rfl ?_
              refine zk_iadd dM_moved_137 ?_
              refine zk_istore_n (ls' := [some (.inr (some 22)), some (.inl x), some (.inl ((mt_mv K P C x m) + 0)), some (.inl ((i : Int) + (n : Int))), some (.inl ((p : Int) + (n : Int))), some (.inl 3)]) dM_moved_138 (by decide) rfl ?_
              refine zk_goto (tgt := 23) dM_moved_139 (by decide) ?_
              have e1 : (i : Int) + (n : Int) = ((i + n : Nat) : Int) := by omega
              have e2 : (p : Int) + (n : Int) = ((mt_s s x' p n : Nat) : Int) := by
                unfold mt_s
                rw [if_pos (by omega)]
                omega
              have et : (mt_mv K P C x m) + 0 = mt_mv (zk_up K m (x' : Int)) (zk_up P m (p : Int)) (zk_up C m (n : Int)) x (m + 1) := by
                rw [mt_mv_up (s := s) q3]
                (repeat' split) <;> omega
              rw [et, e1, e2]
              refine zk_W.drop 5 rfl ?_
              have hgo2 := mt_go_up hgo hB2
              refine ih (m + 1) (i + n) (mt_s s x' p n) _ _ _ _ (by omega) (fun q hq => ?_) h9 hgo2
              show (zk_up (zk_up (zk_up τ' 10 (x' : Int)) 11 (p : Int)) 12 (n : Int)) q = τ q
              rw [zk_up_ne (by omega), zk_up_ne (by omega), zk_up_ne (by omega)]
              exact hv q hq
          · skip
            refine zk_aload_n dM_moved_99 rfl ?_
            refine zk_get zfM_100 dM_moved_100 (v := .inl (n : Int)) rfl (by decide) rfl ?_
            refine zk_goto (tgt := 107) dM_moved_103 (by decide) ?_
            refine zk_iadd dM_moved_107 ?_
            refine zk_istore_n (ls' := [some (.inr (some 22)), some (.inl x), some (.inl ((mt_mv K P C x m) + (n : Int))), some (.inl (i : Int)), some (.inl (s : Int)), some (.inl 3)]) dM_moved_108 (by decide) rfl ?_
            refine zk_aload_n dM_moved_109 rfl ?_
            refine zk_get zfM_94 dM_moved_110 (v := .inl (x' : Int)) rfl (by decide) rfl ?_
            refine zk_if_ne (tgt := 128) dM_moved_113 (by decide) ⟨by omega, by omega⟩ (fun h113 => ?_) (fun h113 => ?_)
            · skip
              refine zk_iload dM_moved_128 rfl ?_
              refine zk_istore (ls' := [some (.inr (some 22)), some (.inl x), some (.inl ((mt_mv K P C x m) + (n : Int))), some (.inl (i : Int)), some (.inl (s : Int)), some (.inl 3)]) dM_moved_130 (by decide) rfl ?_
              refine zk_iload_n dM_moved_132 rfl ?_
              refine zk_aload_n dM_moved_133 rfl ?_
              refine zk_get zfM_100 dM_moved_134 (v := .inl (n : Int)) rfl (by decide) rfl ?_
              refine zk_iadd dM_moved_137 ?_
              refine zk_istore_n (ls' := [some (.inr (some 22)), some (.inl x), some (.inl ((mt_mv K P C x m) + (n : Int))), some (.inl ((i : Int) + (n : Int))), some (.inl (s : Int)), some (.inl 3)]) dM_moved_138 (by decide) rfl ?_
              refine zk_goto (tgt := 23) dM_moved_139 (by decide) ?_
              have e1 : (i : Int) + (n : Int) = ((i + n : Nat) : Int) := by omega
              have e2 : (s : Int) = ((mt_s s x' p n : Nat) : Int) := by
                unfold mt_s
                rw [if_neg (by omega)]
              have et : (mt_mv K P C x m) + (n : Int) = mt_mv (zk_up K m (x' : Int)) (zk_up P m (p : Int)) (zk_up C m (n : Int)) x (m + 1) := by
                rw [mt_mv_up (s := s) q3]
                (repeat' split) <;> omega
              rw [et, e1]
              refine zk_W.drop 5 rfl ?_
              have hgo2 := mt_go_up hgo hB2
              rw [show mt_s s x' p n = s by omega] at hgo2
              refine ih (m + 1) (i + n) s _ _ _ _ (by omega) (fun q hq => ?_) h9 hgo2
              show (zk_up (zk_up (zk_up τ' 10 (x' : Int)) 11 (p : Int)) 12 (n : Int)) q = τ q
              rw [zk_up_ne (by omega), zk_up_ne (by omega), zk_up_ne (by omega)]
              exact hv q hq
            · skip
              refine zk_aload_n dM_moved_116 rfl ?_
              refine zk_get zfM_97 dM_moved_117 (v := .inl (p : Int)) rfl (by decide) rfl ?_
              refine zk_aload_n dM_moved_120 rfl ?_
              refine zk_get zfM_100 dM_moved_121 (v := .inl (n : Int)) rfl (by decide) rfl ?_
              refine zk_iadd dM_moved_124 ?_
              refine zk_goto (tgt := 130) dM_moved_125 (by decide) ?_
              refine zk_istore (ls' := [some (.inr (some 22)), some (.inl x), some (.inl ((mt_mv K P C x m) + (n : Int))), some (.inl (i : Int)), some (.inl ((p : Int) + (n : Int))), some (.inl 3)]) dM_moved_130 (by decide) rfl ?_
              refine zk_iload_n dM_moved_132 rfl ?_
              refine zk_aload_n dM_moved_133 rfl ?_
              refine zk_get zfM_100 dM_moved_134 (v := .inl (n : Int)) rfl (by decide) rfl ?_
              refine zk_iadd dM_moved_137 ?_
              refine zk_istore_n (ls' := [some (.inr (some 22)), some (.inl x), some (.inl ((mt_mv K P C x m) + (n : Int))), some (.inl ((i : Int) + (n : Int))), some (.inl ((p : Int) + (n : Int))), some (.inl 3)]) dM_moved_138 (by decide) rfl ?_
              refine zk_goto (tgt := 23) dM_moved_139 (by decide) ?_
              have e1 : (i : Int) + (n : Int) = ((i + n : Nat) : Int) := by omega
              have e2 : (p : Int) + (n : Int) = ((mt_s s x' p n : Nat) : Int) := by
                unfold mt_s
                rw [if_pos (by omega)]
                omega
              have et : (mt_mv K P C x m) + (n : Int) = mt_mv (zk_up K m (x' : Int)) (zk_up P m (p : Int)) (zk_up C m (n : Int)) x (m + 1) := by
                rw [mt_mv_up (s := s) q3]
                (repeat' split) <;> omega
              rw [et, e1, e2]
              refine zk_W.drop 5 rfl ?_
              have hgo2 := mt_go_up hgo hB2
              refine ih (m + 1) (i + n) (mt_s s x' p n) _ _ _ _ (by omega) (fun q hq => ?_) h9 hgo2
              show (zk_up (zk_up (zk_up τ' 10 (x' : Int)) 11 (p : Int)) 12 (n : Int)) q = τ q
              rw [zk_up_ne (by omega), zk_up_ne (by omega), zk_up_ne (by omega)]
              exact hv q hq
      · skip
        refine zk_aload_n dM_moved_47 rfl ?_
        refine zk_get zfM_97 dM_moved_48 (v := .inl (p : Int)) rfl (by decide) rfl ?_
        refine zk_iload dM_moved_51 rfl ?_
        refine zk_icmp_ge (tgt := 60) dM_moved_53 (by decide) ⟨by omega, by omega⟩ ⟨by omega, by omega⟩ (fun h53 => ?_) (fun h53 => ?_)
        · skip
          refine zk_aload_n dM_moved_60 rfl ?_
          refine zk_get zfM_97 dM_moved_61 (v := .inl (p : Int)) rfl (by decide) rfl ?_
          refine zk_iload dM_moved_64 rfl ?_
          refine zk_icmp_ne (tgt := 73) dM_moved_66 (by decide) ⟨by omega, by omega⟩ ⟨by omega, by omega⟩ (fun h66 => ?_) (fun h66 => ?_)
          · skip
            refine zk_iconst dM_moved_73 ?_
            refine zk_goto (tgt := 90) dM_moved_74 (by decide) ?_
            refine zk_istore (ls' := [some (.inr (some 22)), some (.inl x), some (.inl (mt_mv K P C x m)), some (.inl (i : Int)), some (.inl (s : Int)), some (.inl 2)]) dM_moved_90 (by decide) rfl ?_
            refine zk_iload_n dM_moved_92 rfl ?_
            refine zk_iload dM_moved_93 rfl ?_
            refine zk_iload_n dM_moved_95 rfl ?_
            refine zk_icmp_ne (tgt := 106) dM_moved_96 (by decide) ⟨by decide, by decide⟩ hx (fun h96 => ?_) (fun h96 => ?_)
            · skip
              refine zk_iconst dM_moved_106 ?_
              refine zk_iadd dM_moved_107 ?_
              refine zk_istore_n (ls' := [some (.inr (some 22)), some (.inl x), some (.inl ((mt_mv K P C x m) + 0)), some (.inl (i : Int)), some (.inl (s : Int)), some (.inl 2)]) dM_moved_108 (by decide) rfl ?_
              refine zk_aload_n dM_moved_109 rfl ?_
              refine zk_get zfM_94 dM_moved_110 (v := .inl (x' : Int)) rfl (by decide) rfl ?_
              refine zk_if_ne (tgt := 128) dM_moved_113 (by decide) ⟨by omega, by omega⟩ (fun h113 => ?_) (fun h113 => ?_)
              · skip
                refine zk_iload dM_moved_128 rfl ?_
                refine zk_istore (ls' := [some (.inr (some 22)), some (.inl x), some (.inl ((mt_mv K P C x m) + 0)), some (.inl (i : Int)), some (.inl (s : Int)), some (.inl 2)]) dM_moved_130 (by decide) rfl ?_
                refine zk_iload_n dM_moved_132 rfl ?_
                refine zk_aload_n dM_moved_133 rfl ?_
                refine zk_get zfM_100 dM_moved_134 (v := .inl (n : Int)) rfl (by decide) rfl ?_
                refine zk_iadd dM_moved_137 ?_
                refine zk_istore_n (ls' := [some (.inr (some 22)), some (.inl x), some (.inl ((mt_mv K P C x m) + 0)), some (.inl ((i : Int) + (n : Int))), some (.inl (s : Int)), some (.inl 2)]) dM_moved_138 (by decide) rfl ?_
                refine zk_goto (tgt := 23) dM_moved_139 (by decide) ?_
                have e1 : (i : Int) + (n : Int) = ((i + n : Nat) : Int) := by omega
                have e2 : (s : Int) = ((mt_s s x' p n : Nat) : Int) := by
                  unfold mt_s
                  rw [if_neg (by omega)]
                have et : (mt_mv K P C x m) + 0 = mt_mv (zk_up K m (x' : Int)) (zk_up P m (p : Int)) (zk_up C m (n : Int)) x (m + 1) := by
                  rw [mt_mv_up (s := s) q3]
                  (repeat' split) <;> omega
                rw [et, e1]
                refine zk_W.drop 5 rfl ?_
                have hgo2 := mt_go_up hgo hB2
                rw [show mt_s s x' p n = s by omega] at hgo2
                refine ih (m + 1) (i + n) s _ _ _ _ (by omega) (fun q hq => ?_) h9 hgo2
                show (zk_up (zk_up (zk_up τ' 10 (x' : Int)) 11 (p : Int)) 12 (n : Int)) q = τ q
                rw [zk_up_ne (by omega), zk_up_ne (by omega), zk_up_ne (by omega)]
                exact hv q hq
              · skip
                refine zk_aload_n dM_moved_116 rfl ?_
                refine zk_get zfM_97 dM_moved_117 (v := .inl (p : Int)) rfl (by decide) rfl ?_
                refine zk_aload_n dM_moved_120 rfl ?_
                refine zk_get zfM_100 dM_moved_121 (v := .inl (n : Int)) rfl (by decide) rfl ?_
                refine zk_iadd dM_moved_124 ?_
                refine zk_goto (tgt := 130) dM_moved_125 (by decide) ?_
                refine zk_istore (ls' := [some (.inr (some 22)), some (.inl x), some (.inl ((mt_mv K P C x m) + 0)), some (.inl (i : Int)), some (.inl ((p : Int) + (n : Int))), some (.inl 2)]) dM_moved_130 (by decide) rfl ?_
                refine zk_iload_n dM_moved_132 rfl ?_
                refine zk_aload_n dM_moved_133 rfl ?_
                refine zk_get zfM_100 dM_moved_134 (v := .inl (n : Int)) rfl (by decide) rfl ?_
                refine zk_iadd dM_moved_137 ?_
                refine zk_istore_n (ls' := [some (.inr (some 22)), some (.inl x), some (.inl ((mt_mv K P C x m) + 0)), some (.inl ((i : Int) + (n : Int))), some (.inl ((p : Int) + (n : Int))), some (.inl 2)]) dM_moved_138 (by decide) rfl ?_
                refine zk_goto (tgt := 23) dM_moved_139 (by decide) ?_
                have e1 : (i : Int) + (n : Int) = ((i + n : Nat) : Int) := by omega
                have e2 : (p : Int) + (n : Int) = ((mt_s s x' p n : Nat) : Int) := by
                  unfold mt_s
                  rw [if_pos (by omega)]
                  omega
                have et : (mt_mv K P C x m) + 0 = mt_mv (zk_up K m (x' : Int)) (zk_up P m (p : Int)) (zk_up C m (n : Int)) x (m + 1) := by
                  rw [mt_mv_up (s := s) q3]
                  (repeat' split) <;> omega
                rw [et, e1, e2]
                refine zk_W.drop 5 rfl ?_
                have hgo2 := mt_go_up hgo hB2
                refine ih (m + 1) (i + n) (mt_s s x' p n) _ _ _ _ (by omega) (fun q hq => ?_) h9 hgo2
                show (zk_up (zk_up (zk_up τ' 10 (x' : Int)) 11 (p : Int)) 12 (n : Int)) q = τ q
                rw [zk_up_ne (by omega), zk_up_ne (by omega), zk_up_ne (by omega)]
                exact hv q hq
            · skip
              refine zk_aload_n dM_moved_99 rfl ?_
              refine zk_get zfM_100 dM_moved_100 (v := .inl (n : Int)) rfl (by decide) rfl ?_
              refine zk_goto (tgt := 107) dM_moved_103 (by decide) ?_
              refine zk_iadd dM_moved_107 ?_
              refine zk_istore_n (ls' := [some (.inr (some 22)), some (.inl x), some (.inl ((mt_mv K P C x m) + (n : Int))), some (.inl (i : Int)), some (.inl (s : Int)), some (.inl 2)]) dM_moved_108 (by decide) rfl ?_
              refine zk_aload_n dM_moved_109 rfl ?_
              refine zk_get zfM_94 dM_moved_110 (v := .inl (x' : Int)) rfl (by decide) rfl ?_
              refine zk_if_ne (tgt := 128) dM_moved_113 (by decide) ⟨by omega, by omega⟩ (fun h113 => ?_) (fun h113 => ?_)
              · skip
                refine zk_iload dM_moved_128 rfl ?_
                refine zk_istore (ls' := [some (.inr (some 22)), some (.inl x), some (.inl ((mt_mv K P C x m) + (n : Int))), some (.inl (i : Int)), some (.inl (s : Int)), some (.inl 2)]) dM_moved_130 (by decide) rfl ?_
                refine zk_iload_n dM_moved_132 rfl ?_
                refine zk_aload_n dM_moved_133 rfl ?_
                refine zk_get zfM_100 dM_moved_134 (v := .inl (n : Int)) rfl (by decide) rfl ?_
                refine zk_iadd dM_moved_137 ?_
                refine zk_istore_n (ls' := [some (.inr (some 22)), some (.inl x), some (.inl ((mt_mv K P C x m) + (n : Int))), some (.inl ((i : Int) + (n : Int))), some (.inl (s : Int)), some (.inl 2)]) dM_moved_138 (by decide) rfl ?_
                refine zk_goto (tgt := 23) dM_moved_139 (by decide) ?_
                have e1 : (i : Int) + (n : Int) = ((i + n : Nat) : Int) := by omega
                have e2 : (s : Int) = ((mt_s s x' p n : Nat) : Int) := by
                  unfold mt_s
                  rw [if_neg (by omega)]
                have et : (mt_mv K P C x m) + (n : Int) = mt_mv (zk_up K m (x' : Int)) (zk_up P m (p : Int)) (zk_up C m (n : Int)) x (m + 1) := by
                  rw [mt_mv_up (s := s) q3]
                  (repeat' split) <;> omega
                rw [et, e1]
                refine zk_W.drop 5 rfl ?_
                have hgo2 := mt_go_up hgo hB2
                rw [show mt_s s x' p n = s by omega] at hgo2
                refine ih (m + 1) (i + n) s _ _ _ _ (by omega) (fun q hq => ?_) h9 hgo2
                show (zk_up (zk_up (zk_up τ' 10 (x' : Int)) 11 (p : Int)) 12 (n : Int)) q = τ q
                rw [zk_up_ne (by omega), zk_up_ne (by omega), zk_up_ne (by omega)]
                exact hv q hq
              · skip
                refine zk_aload_n dM_moved_116 rfl ?_
                refine zk_get zfM_97 dM_moved_117 (v := .inl (p : Int)) rfl (by decide) rfl ?_
                refine zk_aload_n dM_moved_120 rfl ?_
                refine zk_get zfM_100 dM_moved_121 (v := .inl (n : Int)) rfl (by decide) rfl ?_
                refine zk_iadd dM_moved_124 ?_
                refine zk_goto (tgt := 130) dM_moved_125 (by decide) ?_
                refine zk_istore (ls' := [some (.inr (some 22)), some (.inl x), some (.inl ((mt_mv K P C x m) + (n : Int))), some (.inl (i : Int)), some (.inl ((p : Int) + (n : Int))), some (.inl 2)]) dM_moved_130 (by decide) rfl ?_
                refine zk_iload_n dM_moved_132 rfl ?_
                refine zk_aload_n dM_moved_133 rfl ?_
                refine zk_get zfM_100 dM_moved_134 (v := .inl (n : Int)) rfl (by decide) rfl ?_
                refine zk_iadd dM_moved_137 ?_
                refine zk_istore_n (ls' := [some (.inr (some 22)), some (.inl x), some (.inl ((mt_mv K P C x m) + (n : Int))), some (.inl ((i : Int) + (n : Int))), some (.inl ((p : Int) + (n : Int))), some (.inl 2)]) dM_moved_138 (by decide) rfl ?_
                refine zk_goto (tgt := 23) dM_moved_139 (by decide) ?_
                have e1 : (i : Int) + (n : Int) = ((i + n : Nat) : Int) := by omega
                have e2 : (p : Int) + (n : Int) = ((mt_s s x' p n : Nat) : Int) := by
                  unfold mt_s
                  rw [if_pos (by omega)]
                  omega
                have et : (mt_mv K P C x m) + (n : Int) = mt_mv (zk_up K m (x' : Int)) (zk_up P m (p : Int)) (zk_up C m (n : Int)) x (m + 1) := by
                  rw [mt_mv_up (s := s) q3]
                  (repeat' split) <;> omega
                rw [et, e1, e2]
                refine zk_W.drop 5 rfl ?_
                have hgo2 := mt_go_up hgo hB2
                refine ih (m + 1) (i + n) (mt_s s x' p n) _ _ _ _ (by omega) (fun q hq => ?_) h9 hgo2
                show (zk_up (zk_up (zk_up τ' 10 (x' : Int)) 11 (p : Int)) 12 (n : Int)) q = τ q
                rw [zk_up_ne (by omega), zk_up_ne (by omega), zk_up_ne (by omega)]
                exact hv q hq
          · skip
            refine zk_iconst dM_moved_69 ?_
            refine zk_goto (tgt := 90) dM_moved_70 (by decide) ?_
            refine zk_istore (ls' := [some (.inr (some 22)), some (.inl x), some (.inl (mt_mv K P C x m)), some (.inl (i : Int)), some (.inl (s : Int)), some (.inl 1)]) dM_moved_90 (by decide) rfl ?_
            refine zk_iload_n dM_moved_92 rfl ?_
            refine zk_iload dM_moved_93 rfl ?_
            refine zk_iload_n dM_moved_95 rfl ?_
            refine zk_icmp_ne (tgt := 106) dM_moved_96 (by decide) ⟨by decide, by decide⟩ hx (fun h96 => ?_) (fun h96 => ?_)
            · skip
              refine zk_iconst dM_moved_106 ?_
              refine zk_iadd dM_moved_107 ?_
              refine zk_istore_n (ls' := [some (.inr (some 22)), some (.inl x), some (.inl ((mt_mv K P C x m) + 0)), some (.inl (i : Int)), some (.inl (s : Int)), some (.inl 1)]) dM_moved_108 (by decide) rfl ?_
              refine zk_aload_n dM_moved_109 rfl ?_
              refine zk_get zfM_94 dM_moved_110 (v := .inl (x' : Int)) rfl (by decide) rfl ?_
              refine zk_if_ne (tgt := 128) dM_moved_113 (by decide) ⟨by omega, by omega⟩ (fun h113 => ?_) (fun h113 => ?_)
              · skip
                refine zk_iload dM_moved_128 rfl ?_
                refine zk_istore (ls' := [some (.inr (some 22)), some (.inl x), some (.inl ((mt_mv K P C x m) + 0)), some (.inl (i : Int)), some (.inl (s : Int)), some (.inl 1)]) dM_moved_130 (by decide) rfl ?_
                refine zk_iload_n dM_moved_132 rfl ?_
                refine zk_aload_n dM_moved_133 rfl ?_
                refine zk_get zfM_100 dM_moved_134 (v := .inl (n : Int)) rfl (by decide) rfl ?_
                refine zk_iadd dM_moved_137 ?_
                refine zk_istore_n (ls' := [some (.inr (some 22)), some (.inl x), some (.inl ((mt_mv K P C x m) + 0)), some (.inl ((i : Int) + (n : Int))), some (.inl (s : Int)), some (.inl 1)]) dM_moved_138 (by decide) rfl ?_
                refine zk_goto (tgt := 23) dM_moved_139 (by decide) ?_
                have e1 : (i : Int) + (n : Int) = ((i + n : Nat) : Int) := by omega
                have e2 : (s : Int) = ((mt_s s x' p n : Nat) : Int) := by
                  unfold mt_s
                  rw [if_neg (by omega)]
                have et : (mt_mv K P C x m) + 0 = mt_mv (zk_up K m (x' : Int)) (zk_up P m (p : Int)) (zk_up C m (n : Int)) x (m + 1) := by
                  rw [mt_mv_up (s := s) q3]
                  (repeat' split) <;> omega
                rw [et, e1]
                refine zk_W.drop 5 rfl ?_
                have hgo2 := mt_go_up hgo hB2
                rw [show mt_s s x' p n = s by omega] at hgo2
                refine ih (m + 1) (i + n) s _ _ _ _ (by omega) (fun q hq => ?_) h9 hgo2
                show (zk_up (zk_up (zk_up τ' 10 (x' : Int)) 11 (p : Int)) 12 (n : Int)) q = τ q
                rw [zk_up_ne (by omega), zk_up_ne (by omega), zk_up_ne (by omega)]
                exact hv q hq
              · skip
                refine zk_aload_n dM_moved_116 rfl ?_
                refine zk_get zfM_97 dM_moved_117 (v := .inl (p : Int)) rfl (by decide) rfl ?_
                refine zk_aload_n dM_moved_120 rfl ?_
                refine zk_get zfM_100 dM_moved_121 (v := .inl (n : Int)) rfl (by decide) rfl ?_
                refine zk_iadd dM_moved_124 ?_
                refine zk_goto (tgt := 130) dM_moved_125 (by decide) ?_
                refine zk_istore (ls' := [some (.inr (some 22)), some (.inl x), some (.inl ((mt_mv K P C x m) + 0)), some (.inl (i : Int)), some (.inl ((p : Int) + (n : Int))), some (.inl 1)]) dM_moved_130 (by decide) rfl ?_
                refine zk_iload_n dM_moved_132 rfl ?_
                refine zk_aload_n dM_moved_133 rfl ?_
                refine zk_get zfM_100 dM_moved_134 (v := .inl (n : Int)) rfl (by decide) rfl ?_
                refine zk_iadd dM_moved_137 ?_
                refine zk_istore_n (ls' := [some (.inr (some 22)), some (.inl x), some (.inl ((mt_mv K P C x m) + 0)), some (.inl ((i : Int) + (n : Int))), some (.inl ((p : Int) + (n : Int))), some (.inl 1)]) dM_moved_138 (by decide) rfl ?_
                refine zk_goto (tgt := 23) dM_moved_139 (by decide) ?_
                have e1 : (i : Int) + (n : Int) = ((i + n : Nat) : Int) := by omega
                have e2 : (p : Int) + (n : Int) = ((mt_s s x' p n : Nat) : Int) := by
                  unfold mt_s
                  rw [if_pos (by omega)]
                  omega
                have et : (mt_mv K P C x m) + 0 = mt_mv (zk_up K m (x' : Int)) (zk_up P m (p : Int)) (zk_up C m (n : Int)) x (m + 1) := by
                  rw [mt_mv_up (s := s) q3]
                  (repeat' split) <;> omega
                rw [et, e1, e2]
                refine zk_W.drop 5 rfl ?_
                have hgo2 := mt_go_up hgo hB2
                refine ih (m + 1) (i + n) (mt_s s x' p n) _ _ _ _ (by omega) (fun q hq => ?_) h9 hgo2
                show (zk_up (zk_up (zk_up τ' 10 (x' : Int)) 11 (p : Int)) 12 (n : Int)) q = τ q
                rw [zk_up_ne (by omega), zk_up_ne (by omega), zk_up_ne (by omega)]
                exact hv q hq
            · skip
              refine zk_aload_n dM_moved_99 rfl ?_
              refine zk_get zfM_100 dM_moved_100 (v := .inl (n : Int)) rfl (by decide) rfl ?_
              refine zk_goto (tgt := 107) dM_moved_103 (by decide) ?_
              refine zk_iadd dM_moved_107 ?_
              refine zk_istore_n (ls' := [some (.inr (some 22)), some (.inl x), some (.inl ((mt_mv K P C x m) + (n : Int))), some (.inl (i : Int)), some (.inl (s : Int)), some (.inl 1)]) dM_moved_108 (by decide) rfl ?_
              refine zk_aload_n dM_moved_109 rfl ?_
              refine zk_get zfM_94 dM_moved_110 (v := .inl (x' : Int)) rfl (by decide) rfl ?_
              refine zk_if_ne (tgt := 128) dM_moved_113 (by decide) ⟨by omega, by omega⟩ (fun h113 => ?_) (fun h113 => ?_)
              · skip
                refine zk_iload dM_moved_128 rfl ?_
                refine zk_istore (ls' := [some (.inr (some 22)), some (.inl x), some (.inl ((mt_mv K P C x m) + (n : Int))), some (.inl (i : Int)), some (.inl (s : Int)), some (.inl 1)]) dM_moved_130 (by decide) rfl ?_
                refine zk_iload_n dM_moved_132 rfl ?_
                refine zk_aload_n dM_moved_133 rfl ?_
                refine zk_get zfM_100 dM_moved_134 (v := .inl (n : Int)) rfl (by decide) rfl ?_
                refine zk_iadd dM_moved_137 ?_
                refine zk_istore_n (ls' := [some (.inr (some 22)), some (.inl x), some (.inl ((mt_mv K P C x m) + (n : Int))), some (.inl ((i : Int) + (n : Int))), some (.inl (s : Int)), some (.inl 1)]) dM_moved_138 (by decide) rfl ?_
                refine zk_goto (tgt := 23) dM_moved_139 (by decide) ?_
                have e1 : (i : Int) + (n : Int) = ((i + n : Nat) : Int) := by omega
                have e2 : (s : Int) = ((mt_s s x' p n : Nat) : Int) := by
                  unfold mt_s
                  rw [if_neg (by omega)]
                have et : (mt_mv K P C x m) + (n : Int) = mt_mv (zk_up K m (x' : Int)) (zk_up P m (p : Int)) (zk_up C m (n : Int)) x (m + 1) := by
                  rw [mt_mv_up (s := s) q3]
                  (repeat' split) <;> omega
                rw [et, e1]
                refine zk_W.drop 5 rfl ?_
                have hgo2 := mt_go_up hgo hB2
                rw [show mt_s s x' p n = s by omega] at hgo2
                refine ih (m + 1) (i + n) s _ _ _ _ (by omega) (fun q hq => ?_) h9 hgo2
                show (zk_up (zk_up (zk_up τ' 10 (x' : Int)) 11 (p : Int)) 12 (n : Int)) q = τ q
                rw [zk_up_ne (by omega), zk_up_ne (by omega), zk_up_ne (by omega)]
                exact hv q hq
              · skip
                refine zk_aload_n dM_moved_116 rfl ?_
                refine zk_get zfM_97 dM_moved_117 (v := .inl (p : Int)) rfl (by decide) rfl ?_
                refine zk_aload_n dM_moved_120 rfl ?_
                refine zk_get zfM_100 dM_moved_121 (v := .inl (n : Int)) rfl (by decide) rfl ?_
                refine zk_iadd dM_moved_124 ?_
                refine zk_goto (tgt := 130) dM_moved_125 (by decide) ?_
                refine zk_istore (ls' := [some (.inr (some 22)), some (.inl x), some (.inl ((mt_mv K P C x m) + (n : Int))), some (.inl (i : Int)), some (.inl ((p : Int) + (n : Int))), some (.inl 1)]) dM_moved_130 (by decide) rfl ?_
                refine zk_iload_n dM_moved_132 rfl ?_
                refine zk_aload_n dM_moved_133 rfl ?_
                refine zk_get zfM_100 dM_moved_134 (v := .inl (n : Int)) rfl (by decide) rfl ?_
                refine zk_iadd dM_moved_137 ?_
                refine zk_istore_n (ls' := [some (.inr (some 22)), some (.inl x), some (.inl ((mt_mv K P C x m) + (n : Int))), some (.inl ((i : Int) + (n : Int))), some (.inl ((p : Int) + (n : Int))), some (.inl 1)]) dM_moved_138 (by decide) rfl ?_
                refine zk_goto (tgt := 23) dM_moved_139 (by decide) ?_
                have e1 : (i : Int) + (n : Int) = ((i + n : Nat) : Int) := by omega
                have e2 : (p : Int) + (n : Int) = ((mt_s s x' p n : Nat) : Int) := by
                  unfold mt_s
                  rw [if_pos (by omega)]
                  omega
                have et : (mt_mv K P C x m) + (n : Int) = mt_mv (zk_up K m (x' : Int)) (zk_up P m (p : Int)) (zk_up C m (n : Int)) x (m + 1) := by
                  rw [mt_mv_up (s := s) q3]
                  (repeat' split) <;> omega
                rw [et, e1, e2]
                refine zk_W.drop 5 rfl ?_
                have hgo2 := mt_go_up hgo hB2
                refine ih (m + 1) (i + n) (mt_s s x' p n) _ _ _ _ (by omega) (fun q hq => ?_) h9 hgo2
                show (zk_up (zk_up (zk_up τ' 10 (x' : Int)) 11 (p : Int)) 12 (n : Int)) q = τ q
                rw [zk_up_ne (by omega), zk_up_ne (by omega), zk_up_ne (by omega)]
                exact hv q hq
        · skip
          refine zk_iconst dM_moved_56 ?_
          refine zk_goto (tgt := 90) dM_moved_57 (by decide) ?_
          refine zk_istore (ls' := [some (.inr (some 22)), some (.inl x), some (.inl (mt_mv K P C x m)), some (.inl (i : Int)), some (.inl (s : Int)), some (.inl 0)]) dM_moved_90 (by decide) rfl ?_
          refine zk_iload_n dM_moved_92 rfl ?_
          refine zk_iload dM_moved_93 rfl ?_
          refine zk_iload_n dM_moved_95 rfl ?_
          refine zk_icmp_ne (tgt := 106) dM_moved_96 (by decide) ⟨by decide, by decide⟩ hx (fun h96 => ?_) (fun h96 => ?_)
          · skip
            refine zk_iconst dM_moved_106 ?_
            refine zk_iadd dM_moved_107 ?_
            refine zk_istore_n (ls' := [some (.inr (some 22)), some (.inl x), some (.inl ((mt_mv K P C x m) + 0)), some (.inl (i : Int)), some (.inl (s : Int)), some (.inl 0)]) dM_moved_108 (by decide) rfl ?_
            refine zk_aload_n dM_moved_109 rfl ?_
            refine zk_get zfM_94 dM_moved_110 (v := .inl (x' : Int)) rfl (by decide) rfl ?_
            refine zk_if_ne (tgt := 128) dM_moved_113 (by decide) ⟨by omega, by omega⟩ (fun h113 => ?_) (fun h113 => ?_)
            · skip
              refine zk_iload dM_moved_128 rfl ?_
              refine zk_istore (ls' := [some (.inr (some 22)), some (.inl x), some (.inl ((mt_mv K P C x m) + 0)), some (.inl (i : Int)), some (.inl (s : Int)), some (.inl 0)]) dM_moved_130 (by decide) rfl ?_
              refine zk_iload_n dM_moved_132 rfl ?_
              refine zk_aload_n dM_moved_133 rfl ?_
              refine zk_get zfM_100 dM_moved_134 (v := .inl (n : Int)) rfl (by decide) rfl ?_
              refine zk_iadd dM_moved_137 ?_
              refine zk_istore_n (ls' := [some (.inr (some 22)), some (.inl x), some (.inl ((mt_mv K P C x m) + 0)), some (.inl ((i : Int) + (n : Int))), some (.inl (s : Int)), some (.inl 0)]) dM_moved_138 (by decide) rfl ?_
              refine zk_goto (tgt := 23) dM_moved_139 (by decide) ?_
              have e1 : (i : Int) + (n : Int) = ((i + n : Nat) : Int) := by omega
              have e2 : (s : Int) = ((mt_s s x' p n : Nat) : Int) := by
                unfold mt_s
                rw [if_neg (by omega)]
              have et : (mt_mv K P C x m) + 0 = mt_mv (zk_up K m (x' : Int)) (zk_up P m (p : Int)) (zk_up C m (n : Int)) x (m + 1) := by
                rw [mt_mv_up (s := s) q3]
                (repeat' split) <;> omega
              rw [et, e1]
              refine zk_W.drop 5 rfl ?_
              have hgo2 := mt_go_up hgo hB2
              rw [show mt_s s x' p n = s by omega] at hgo2
              refine ih (m + 1) (i + n) s _ _ _ _ (by omega) (fun q hq => ?_) h9 hgo2
              show (zk_up (zk_up (zk_up τ' 10 (x' : Int)) 11 (p : Int)) 12 (n : Int)) q = τ q
              rw [zk_up_ne (by omega), zk_up_ne (by omega), zk_up_ne (by omega)]
              exact hv q hq
            · skip
              refine zk_aload_n dM_moved_116 rfl ?_
              refine zk_get zfM_97 dM_moved_117 (v := .inl (p : Int)) rfl (by decide) rfl ?_
              refine zk_aload_n dM_moved_120 rfl ?_
              refine zk_get zfM_100 dM_moved_121 (v := .inl (n : Int)) rfl (by decide) rfl ?_
              refine zk_iadd dM_moved_124 ?_
              refine zk_goto (tgt := 130) dM_moved_125 (by decide) ?_
              refine zk_istore (ls' := [some (.inr (some 22)), some (.inl x), some (.inl ((mt_mv K P C x m) + 0)), some (.inl (i : Int)), some (.inl ((p : Int) + (n : Int))), some (.inl 0)]) dM_moved_130 (by decide) rfl ?_
              refine zk_iload_n dM_moved_132 rfl ?_
              refine zk_aload_n dM_moved_133 rfl ?_
              refine zk_get zfM_100 dM_moved_134 (v := .inl (n : Int)) rfl (by decide) rfl ?_
              refine zk_iadd dM_moved_137 ?_
              refine zk_istore_n (ls' := [some (.inr (some 22)), some (.inl x), some (.inl ((mt_mv K P C x m) + 0)), some (.inl ((i : Int) + (n : Int))), some (.inl ((p : Int) + (n : Int))), some (.inl 0)]) dM_moved_138 (by decide) rfl ?_
              refine zk_goto (tgt := 23) dM_moved_139 (by decide) ?_
              have e1 : (i : Int) + (n : Int) = ((i + n : Nat) : Int) := by omega
              have e2 : (p : Int) + (n : Int) = ((mt_s s x' p n : Nat) : Int) := by
                unfold mt_s
                rw [if_pos (by omega)]
                omega
              have et : (mt_mv K P C x m) + 0 = mt_mv (zk_up K m (x' : Int)) (zk_up P m (p : Int)) (zk_up C m (n : Int)) x (m + 1) := by
                rw [mt_mv_up (s := s) q3]
                (repeat' split) <;> omega
              rw [et, e1, e2]
              refine zk_W.drop 5 rfl ?_
              have hgo2 := mt_go_up hgo hB2
              refine ih (m + 1) (i + n) (mt_s s x' p n) _ _ _ _ (by omega) (fun q hq => ?_) h9 hgo2
              show (zk_up (zk_up (zk_up τ' 10 (x' : Int)) 11 (p : Int)) 12 (n : Int)) q = τ q
              rw [zk_up_ne (by omega), zk_up_ne (by omega), zk_up_ne (by omega)]
              exact hv q hq
          · skip
            refine zk_aload_n dM_moved_99 rfl ?_
            refine zk_get zfM_100 dM_moved_100 (v := .inl (n : Int)) rfl (by decide) rfl ?_
            refine zk_goto (tgt := 107) dM_moved_103 (by decide) ?_
            refine zk_iadd dM_moved_107 ?_
            refine zk_istore_n (ls' := [some (.inr (some 22)), some (.inl x), some (.inl ((mt_mv K P C x m) + (n : Int))), some (.inl (i : Int)), some (.inl (s : Int)), some (.inl 0)]) dM_moved_108 (by decide) rfl ?_
            refine zk_aload_n dM_moved_109 rfl ?_
            refine zk_get zfM_94 dM_moved_110 (v := .inl (x' : Int)) rfl (by decide) rfl ?_
            refine zk_if_ne (tgt := 128) dM_moved_113 (by decide) ⟨by omega, by omega⟩ (fun h113 => ?_) (fun h113 => ?_)
            · skip
              refine zk_iload dM_moved_128 rfl ?_
              refine zk_istore (ls' := [some (.inr (some 22)), some (.inl x), some (.inl ((mt_mv K P C x m) + (n : Int))), some (.inl (i : Int)), some (.inl (s : Int)), some (.inl 0)]) dM_moved_130 (by decide) rfl ?_
              refine zk_iload_n dM_moved_132 rfl ?_
              refine zk_aload_n dM_moved_133 rfl ?_
              refine zk_get zfM_100 dM_moved_134 (v := .inl (n : Int)) rfl (by decide) rfl ?_
              refine zk_iadd dM_moved_137 ?_
              refine zk_istore_n (ls' := [some (.inr (some 22)), some (.inl x), some (.inl ((mt_mv K P C x m) + (n : Int))), some (.inl ((i : Int) + (n : Int))), some (.inl (s : Int)), some (.inl 0)]) dM_moved_138 (by decide) rfl ?_
              refine zk_goto (tgt := 23) dM_moved_139 (by decide) ?_
              have e1 : (i : Int) + (n : Int) = ((i + n : Nat) : Int) := by omega
              have e2 : (s : Int) = ((mt_s s x' p n : Nat) : Int) := by
                unfold mt_s
                rw [if_neg (by omega)]
              have et : (mt_mv K P C x m) + (n : Int) = mt_mv (zk_up K m (x' : Int)) (zk_up P m (p : Int)) (zk_up C m (n : Int)) x (m + 1) := by
                rw [mt_mv_up (s := s) q3]
                (repeat' split) <;> omega
              rw [et, e1]
              refine zk_W.drop 5 rfl ?_
              have hgo2 := mt_go_up hgo hB2
              rw [show mt_s s x' p n = s by omega] at hgo2
              refine ih (m + 1) (i + n) s _ _ _ _ (by omega) (fun q hq => ?_) h9 hgo2
              show (zk_up (zk_up (zk_up τ' 10 (x' : Int)) 11 (p : Int)) 12 (n : Int)) q = τ q
              rw [zk_up_ne (by omega), zk_up_ne (by omega), zk_up_ne (by omega)]
              exact hv q hq
            · skip
              refine zk_aload_n dM_moved_116 rfl ?_
              refine zk_get zfM_97 dM_moved_117 (v := .inl (p : Int)) rfl (by decide) rfl ?_
              refine zk_aload_n dM_moved_120 rfl ?_
              refine zk_get zfM_100 dM_moved_121 (v := .inl (n : Int)) rfl (by decide) rfl ?_
              refine zk_iadd dM_moved_124 ?_
              refine zk_goto (tgt := 130) dM_moved_125 (by decide) ?_
              refine zk_istore (ls' := [some (.inr (some 22)), some (.inl x), some (.inl ((mt_mv K P C x m) + (n : Int))), some (.inl (i : Int)), some (.inl ((p : Int) + (n : Int))), some (.inl 0)]) dM_moved_130 (by decide) rfl ?_
              refine zk_iload_n dM_moved_132 rfl ?_
              refine zk_aload_n dM_moved_133 rfl ?_
              refine zk_get zfM_100 dM_moved_134 (v := .inl (n : Int)) rfl (by decide) rfl ?_
              refine zk_iadd dM_moved_137 ?_
              refine zk_istore_n (ls' := [some (.inr (some 22)), some (.inl x), some (.inl ((mt_mv K P C x m) + (n : Int))), some (.inl ((i : Int) + (n : Int))), some (.inl ((p : Int) + (n : Int))), some (.inl 0)]) dM_moved_138 (by decide) rfl ?_
              refine zk_goto (tgt := 23) dM_moved_139 (by decide) ?_
              have e1 : (i : Int) + (n : Int) = ((i + n : Nat) : Int) := by omega
              have e2 : (p : Int) + (n : Int) = ((mt_s s x' p n : Nat) : Int) := by
                unfold mt_s
                rw [if_pos (by omega)]
                omega
              have et : (mt_mv K P C x m) + (n : Int) = mt_mv (zk_up K m (x' : Int)) (zk_up P m (p : Int)) (zk_up C m (n : Int)) x (m + 1) := by
                rw [mt_mv_up (s := s) q3]
                (repeat' split) <;> omega
              rw [et, e1, e2]
              refine zk_W.drop 5 rfl ?_
              have hgo2 := mt_go_up hgo hB2
              refine ih (m + 1) (i + n) (mt_s s x' p n) _ _ _ _ (by omega) (fun q hq => ?_) h9 hgo2
              show (zk_up (zk_up (zk_up τ' 10 (x' : Int)) 11 (p : Int)) 12 (n : Int)) q = τ q
              rw [zk_up_ne (by omega), zk_up_ne (by omega), zk_up_ne (by omega)]
              exact hv q hq

set_option maxRecDepth 100000 in
set_option maxHeartbeats 4000000 in
theorem kM_moved (G : zk_G) (sw : Bool) (σ : Nat → Int) (α : Nat → Nat → Int) (τ : Nat → Int) (β : Nat → Nat → Int) (t : zk_H) (hJ : zm_J τ β) {x : Int} (hx : zk_rg x) : zk_K G mM_moved (3, 75) 0 0 [.inr (some 22), .inl x] (zk_mk G sw σ α (zk_md τ β t)) (fun v h' => ((¬ (0 ≤ x ∧ x ≤ 4)) ∧ h' = (zk_mk G sw σ α (zk_md τ β t)) ∧ v = some (.inl (-2))) ∨ ((0 ≤ x ∧ x ≤ 4) ∧ ∃ (f : Nat → Int) (τ3 : Nat → Int) (K P C : Nat → Int) (m s : Nat), zm_K τ (zk_ua β 8 f) ∧ (∀ q, q < 9 → τ3 q = τ q) ∧ τ3 9 = 1 ∧ mt_go (fun i s x p n => mt_best (zm_T β 0) (zm_n β 0) (zm_T β 1) (zm_n β 1) (zm_c τ) (mt_tb f) i s x p n) (zm_n β 0) (zm_n β 1) K P C m (zm_n β 1) s ∧ h' = zk_mk G sw σ α (zk_md τ3 (zk_ua β 8 f) t) ∧ v = some (.inl (mt_mv K P C x m)))) := by
  have hI := hJ.1
  have i0 := hI.1
  have i1 := hI.2.1
  have c0 : 0 ≤ τ 0 ∧ τ 0 ≤ 100 := hI.2.2.2 0 (by decide)
  have c1 : 0 ≤ τ 1 ∧ τ 1 ≤ 100 := hI.2.2.2 1 (by decide)
  have c2 : 0 ≤ τ 2 ∧ τ 2 ≤ 100 := hI.2.2.2 2 (by decide)
  have c3 : 0 ≤ τ 3 ∧ τ 3 ≤ 100 := hI.2.2.2 3 (by decide)
  have c4 : 0 ≤ τ 4 ∧ τ 4 ≤ 100 := hI.2.2.2 4 (by decide)
  have j5 := hJ.2.1
  have j6 := hJ.2.2.1
  have j7 := hJ.2.2.2.1
  have j8 := hJ.2.2.2.2.1
  have hA := hJ.2.2.2.2.2.1
  refine zk_K.of (ls := [some (.inr (some 22)), some (.inl x), none, none, none, none]) (by decide +kernel) (Nat.le_of_ble_eq_true rfl) rfl ?_
  refine zk_iload_n dM_moved_0 rfl ?_
  refine zk_iconst dM_moved_1 ?_
  refine zk_iconst dM_moved_2 ?_
  refine zk_callS (av := [.inl x, .inl 0, .inl 4]) (st := []) (d' := (0, 0)) (kc' := 0) (ks' := 0) zbM_77 dM_moved_3 rfl rfl (Nat.le_of_ble_eq_true rfl) ⟨by decide, by decide⟩ rfl rfl (kM_isIn G sw σ α τ β t hx ⟨by decide, by decide⟩ ⟨by decide, by decide⟩) (fun v9 h9 q9 => ?_)
  rcases q9 with ⟨rfl, ⟨hc3, rfl⟩ | ⟨hc3, rfl⟩⟩
  · skip
    refine zk_W.to (ls' := [some (.inr (some 22)), some (.inl x), none, none, none, none]) (st' := [.inl 1]) (h' := (zk_mk G sw σ α (zk_md τ β t))) rfl rfl rfl ?_
    refine zk_if_ne (tgt := 12) dM_moved_6 (by decide) ⟨by decide, by decide⟩ (fun h6 => ?_) (fun h6 => ?_)
    · skip
      refine zk_aload_n dM_moved_12 rfl ?_
      refine zk_callV (av := []) (st := []) (d' := (2, 46)) (kc' := 0) (ks' := 0) zbM_103 dM_moved_13 rfl (by decide) rfl rfl (Nat.le_of_ble_eq_true rfl) ⟨by decide, by decide⟩ rfl rfl (kM_learn G sw σ α τ β t hI hJ.2.2.2.2.2.2.2.2.2.1 hJ.2.2.2.2.2.2.2.2.2.2) (fun v9 h9 q9 => ?_)
      obtain ⟨rfl, f, hf, rfl⟩ := q9
      refine zk_W.to (ls' := [some (.inr (some 22)), some (.inl x), none, none, none, none]) (st' := []) (h' := (zk_mk G sw σ α (zk_md (zk_up τ 9 1) (zk_ua β 8 f) t))) rfl rfl rfl ?_
      refine zk_iconst dM_moved_16 ?_
      refine zk_istore_n (ls' := [some (.inr (some 22)), some (.inl x), some (.inl 0), none, none, none]) dM_moved_17 (by decide) rfl ?_
      refine zk_iconst dM_moved_18 ?_
      refine zk_istore_n (ls' := [some (.inr (some 22)), some (.inl x), some (.inl 0), some (.inl 0), none, none]) dM_moved_19 (by decide) rfl ?_
      refine zk_iconst dM_moved_20 ?_
      refine zk_istore (ls' := [some (.inr (some 22)), some (.inl x), some (.inl 0), some (.inl 0), some (.inl 0), none]) dM_moved_21 (by decide) rfl ?_
      have key := wM_moved G sw σ α τ β t (f := f) hI hf hx (zm_n β 1 + 1) 0 0 0 (zk_up τ 9 1) (fun _ => 0) (fun _ => 0) (fun _ => 0) (by omega) (fun q hq => zk_up_ne (by omega)) rfl ⟨fun k hk => absurd hk (Nat.not_lt_zero k), rfl, rfl, by omega, by omega, by omega⟩
      refine key.mono (fun v h' hq => ?_)
      obtain ⟨τ3, K, P, C, m, s, r1, r2, r3, r4, r5⟩ := hq
      exact Or.inr ⟨by omega, f, τ3, K, P, C, m, s, hf, r1, r2, r3, r4, r5⟩
    · skip
      exact absurd h6 (by decide)
  · skip
    refine zk_W.to (ls' := [some (.inr (some 22)), some (.inl x), none, none, none, none]) (st' := [.inl 0]) (h' := (zk_mk G sw σ α (zk_md τ β t))) rfl rfl rfl ?_
    refine zk_if_ne (tgt := 12) dM_moved_6 (by decide) ⟨by decide, by decide⟩ (fun h6 => ?_) (fun h6 => ?_)
    · skip
      exact absurd h6 (by decide)
    · skip
      refine zk_bipush dM_moved_9 (by decide) ?_
      exact zk_iret dM_moved_11 rfl (Or.inl ⟨by omega, rfl, rfl⟩)
