theorem mt_fl_congr {nO : Int} {K P C K' P' C' : Nat → Int} {k : Nat} (h : ∀ j, j ≤ k → K j = K' j ∧ C j = C' j ∧ (K j ≠ 2 → P j = P' j)) (hf : mt_fl nO K P C k) : mt_fl nO K' P' C' k := by
  have h1 := h k (Nat.le_refl k)
  have e := mt_isum_congr (C := C) (C' := C') (n := k) (fun j hj => (h j (by omega)).2.1)
  unfold mt_fl at hf ⊢
  rw [← e, ← h1.1, ← h1.2.1]
  rcases hf with hf | ⟨hf, hg⟩ | ⟨hf, hg⟩
  · exact Or.inl hf
  · exact Or.inr (Or.inl ⟨hf, by rw [← h1.2.2 (by omega)]; exact hg⟩)
  · exact Or.inr (Or.inr ⟨hf, by rw [← h1.2.2 (by omega)]; exact hg⟩)
theorem mt_isum_find {C : Nat → Int} : ∀ {m x : Nat}, (x : Int) < mt_isum C m → (∀ k, k < m → 1 ≤ C k) → ∃ k j : Nat, k < m ∧ (j : Int) < C k ∧ (x : Int) = mt_isum C k + j
  | 0, x, h, _ => absurd (show (x : Int) < 0 from h) (by omega)
  | m + 1, x, h, hC => by
    have h : (x : Int) < mt_isum C m + C m := h
    have h0 := mt_isum_rg (C := C) (n := m) (fun k hk => hC k (by omega))
    by_cases e : (x : Int) < mt_isum C m
    · obtain ⟨k, j, h1, h2, h3⟩ := mt_isum_find e (fun k hk => hC k (by omega))
      exact ⟨k, j, by omega, h2, h3⟩
    · exact ⟨m, ((x : Int) - mt_isum C m).toNat, by omega, by omega, by omega⟩
theorem mt_mk_uniq {nO : Int} {O O' K K' P P' C C' M M' : Nat → Int} {lb lb' : Nat → Nat → Int} {m : Nat} (h : mt_mk O K P C M lb m) (h' : mt_mk O' K' P' C' M' lb' m) (hf : ∀ k, k < m → ¬ mt_fl nO K P C k) (ha : ∀ k, k < m → K k = K' k ∧ C k = C' k ∧ (K k ≠ 2 → P k = P' k)) (hK : ∀ k, k < m → K k = 0 ∨ K k = 1 ∨ K k = 2) (hP : ∀ k, k < m → K k ≠ 2 → 0 ≤ P k) (hO : ∀ j : Nat, (j : Int) < nO → O j = O' j) (hlb : ∀ k, k < m → K k = 2 → ∀ j : Nat, (j : Int) < C k → lb k j = lb' k j) (hC : ∀ k, k < m → 1 ≤ C k) : ∀ x : Nat, (x : Int) < mt_isum C m → M x = M' x := by
  intro x
  induction x using Nat.strongRecOn with
  | ind x ih =>
    intro hx
    obtain ⟨k, j, h1, h2, h3⟩ := mt_isum_find hx hC
    have hi0 := mt_isum_rg (C := C) (n := k) (fun k' hk' => hC k' (by omega))
    have e := mt_isum_congr (C := C) (C' := C') (n := k) (fun k' hk' => (ha k' (by omega)).2.1)
    obtain ⟨a1, a2, a3⟩ := ha k h1
    have u := h k h1 j h2
    have u' := h' k h1 j (by rw [← a2]; exact h2)
    rw [← e] at u'
    rw [show (mt_isum C k).toNat + j = x by omega] at u u'
    rw [u, u']
    have hfk := hf k h1
    unfold mt_by
    rcases hK k h1 with z | z | z
    · rw [if_pos z, if_pos (by omega), ← a3 (by omega)]
      have hp := hP k h1 (by omega)
      exact hO _ (by
        refine Classical.byContradiction fun hn => hfk (Or.inr (Or.inl ⟨z, ?_⟩))
        omega)
    · have hp := hP k h1 (by omega)
      have hq : P k < mt_isum C k := Classical.byContradiction fun hn => hfk (Or.inr (Or.inr ⟨z, by omega⟩))
      rw [if_neg (by omega), if_pos z, if_neg (by omega), if_pos (by omega), ← a3 (by omega)]
      exact ih _ (by omega) (by omega)
    · rw [if_neg (by omega), if_neg (by omega), if_neg (by omega), if_neg (by omega)]
      exact hlb k h1 z j h2
theorem mt_pos_congr {K C K' C' : Nat → Int} : ∀ {n : Nat}, (∀ k, k < n → K k = K' k ∧ C k = C' k) → mt_pos K C n = mt_pos K' C' n
  | 0, _ => rfl
  | n + 1, h => by
    show mt_pos K C n + 1 + (if K n = 2 then C n else 1) = mt_pos K' C' n + 1 + (if K' n = 2 then C' n else 1)
    rw [mt_pos_congr (fun k hk => h k (by omega)), (h n (by omega)).1, (h n (by omega)).2]
theorem mt_wr_uniq {K K' P P' C C' F F' : Nat → Int} {lb lb' : Nat → Nat → Int} : ∀ {m : Nat}, (∀ k, k < m → mt_wa K P C F lb (mt_pos K C k).toNat k) → (∀ k, k < m → mt_wa K' P' C' F' lb' (mt_pos K' C' k).toNat k) → (∀ k, k < m → K k = K' k ∧ C k = C' k ∧ (K k ≠ 2 → P k = P' k)) → (∀ k, k < m → K k = 2 → ∀ j : Nat, (j : Int) < C k → lb k j = lb' k j) → (∀ k, k < m → 1 ≤ C k ∧ C k ≤ 40) → ∀ x : Nat, 2 ≤ x → (x : Int) < mt_pos K C m → F x = F' x
  | 0, _, _, _, _, _, x, h2, hx => absurd (show (x : Int) < 2 from hx) (by omega)
  | m + 1, h, h', ha, hlb, hC, x, h2, hx => by
    by_cases e : (x : Int) < mt_pos K C m
    · exact mt_wr_uniq (fun k hk => h k (by omega)) (fun k hk => h' k (by omega)) (fun k hk => ha k (by omega)) (fun k hk => hlb k (by omega)) (fun k hk => hC k (by omega)) x h2 e
    · have hx : (x : Int) < mt_pos K C m + 1 + (if K m = 2 then C m else 1) := hx
      have hpr := mt_pos_rg (K := K) (C := C) (n := m) (fun k hk => hC k (by omega))
      obtain ⟨a1, a2, a3⟩ := ha m (by omega)
      obtain ⟨w1, w2, w3⟩ := h m (by omega)
      obtain ⟨v1, v2, v3⟩ := h' m (by omega)
      rw [← mt_pos_congr (K := K) (C := C) (K' := K') (C' := C') (fun k hk => ⟨(ha k (by omega)).1, (ha k (by omega)).2.1⟩)] at v1 v2 v3
      by_cases ex : x = (mt_pos K C m).toNat
      · rw [ex, w1, v1, a1, a2]
      · by_cases hk : K m = 2
        · rw [if_pos hk] at hx
          have w := w3 hk (x - ((mt_pos K C m).toNat + 1)) (by omega)
          have v := v3 (by omega) (x - ((mt_pos K C m).toNat + 1)) (by omega)
          rw [show (mt_pos K C m).toNat + 1 + (x - ((mt_pos K C m).toNat + 1)) = x by omega] at w v
          rw [w, v]
          exact hlb m (by omega) hk _ (by omega)
        · rw [if_neg hk] at hx
          have ex1 : x = (mt_pos K C m).toNat + 1 := by omega
          rw [ex1, w2 hk, v2 (by omega), a3 hk]
theorem zp_ac2 {σ : Nat → Int} {α : Nat → Nat → Int} {τ : Nat → Int} {β : Nat → Nat → Int} (h : zp σ α τ β) : ∀ k, k < (σ 10).toNat → α 5 k = β 2 k ∧ α 7 k = β 4 k ∧ (α 5 k ≠ 2 → α 6 k = β 3 k) := fun k hk => by
  obtain ⟨b1, b2, b3, -⟩ := h.2.2 k hk
  exact ⟨b1.symm, b2.symm, fun hx => (b3 hx).symm⟩

set_option maxRecDepth 100000 in
set_option maxHeartbeats 4000000 in
theorem zd_make (G : zk_G) (sw : Bool) (σ : Nat → Int) (α : Nat → Nat → Int) (τ : Nat → Int) (β : Nat → Nat → Int) (t : zk_H) (hz : zz σ α τ β) : zk_K G mC_make (5, 108) 0 0 (.inr (some 1) :: []) (zk_mk G sw σ α (zk_md τ β t)) (zd_R G mM_make (2, 45) [] τ β t) := by
  obtain ⟨hI, ht, hn, hp, hc, hm, hl⟩ := id hz
  have n0 := hI.1 0 (by decide)
  have n1 := hI.1 1 (by decide)
  have n2 := hI.1 2 (by decide)
  have n3 := hI.1 3 (by decide)
  have n4 := hI.1 4 (by decide)
  have e0 : (zr_N 0 : Int) = 40 := rfl
  have e1 : (zr_N 1 : Int) = 40 := rfl
  have e2 : (zr_N 2 : Int) = 80 := rfl
  have e3 : (zr_N 3 : Int) = 4102 := rfl
  have e4 : (zr_N 4 : Int) = 4000 := rfl
  have h10 := hI.2.2.2.1
  have hJ := zz_J hz
  have t0 := ht.1
  have t1 := ht.2.1
  have p5 := hp.1
  have p6 := hp.2.1
  have c7 := hc.1
  have m8 := hm.1
  refine (kC_make G sw σ α _ hI).mono (fun v h' q => ?_)
  have hA := hI.2.2.2.2.2.2.1
  rcases q with ⟨g, rfl, rfl⟩ | ⟨g, M, m, hm1, hmd, rfl, hv⟩
  · refine zd_same hz (kM_make G sw σ α τ β t hJ) (fun v2 h2 q2 => ?_)
    rcases q2 with ⟨g1, rfl, rfl⟩ | ⟨g1, -⟩
    · exact ⟨rfl, rfl⟩
    · exfalso
      rw [p6, zt_s0 ht] at g1
      exact g g1.symm
  · have key : ∀ (M' : Nat → Int) (m' : Nat), (m' : Int) ≤ τ 5 → zm_md β M' m' → ((m' : Int) = τ 5 ∨ ((m' : Int) < τ 5 ∧ mt_fl (β 1 0) (β 2) (β 3) (β 4) m')) → ((m : Int) = σ 10 ∨ ((m : Int) < σ 10 ∧ mt_fl (σ 0) (α 5) (α 6) (α 7) m)) → m = m' ∧ mt_isum (β 4) m = mt_isum (α 7) m ∧ zz (zk_up σ 2 (mt_isum (α 7) m)) (zk_ua α 2 M) (zk_up τ 8 (mt_isum (β 4) m')) (zk_ua β 7 M') := by
      intro M' m' hm1' hmd' hv' hv
      obtain ⟨q1, q2, q3, q4⟩ := hmd
      obtain ⟨r1, r2, r4⟩ := hmd'
      have em : m = m' := by
        rcases Nat.lt_trichotomy m m' with hlt | hlt | hlt
        · exfalso
          rcases hv with hv | ⟨hv, hf⟩
          · omega
          · refine r1 m hlt ?_
            rw [t0]
            exact mt_fl_congr (fun j hj => zp_ac2 hp j (by omega)) hf
        · exact hlt
        · exfalso
          rcases hv' with hv' | ⟨hv', hf⟩
          · omega
          · refine q1 m' hlt ?_
            rw [t0] at hf
            exact mt_fl_congr (fun j hj => zp_acts hp j (by omega)) hf
      subst em
      have es := mt_isum_congr (C := β 4) (C' := α 7) (n := m) (fun k hk => (zp_acts hp k (by omega)).2.1)
      have hig := mt_isum_rg (C := α 7) (n := m) (fun k hk => (hA k (by omega)).2.1.1)
      have hu := mt_mk_uniq (nO := σ 0) q2 r2 q1 (fun k hk => zp_ac2 hp k (by omega)) (fun k hk => (hA k (by omega)).1) (fun k hk hx => ((hA k (by omega)).2.2.1 hx).1) (fun j hj => (ht.2.2.1 j hj).symm) (fun k hk h2 j hj => ((hp.2.2 k (by omega)).2.2.2.2 h2 j hj).symm) (fun k hk => (hA k (by omega)).2.1.1)
      exact ⟨rfl, es, zc_I_2 hI ⟨by omega, q4⟩ q3, ht, hn, hp, hc, ⟨es, fun x hx => (hu x hx).symm⟩, hl⟩
    rcases hv with ⟨hv, rfl⟩ | ⟨hv, hfl, rfl⟩
    · refine zd_go (kM_make G sw _ _ τ β t hJ) (fun v2 h2 q2 => ?_)
      rcases q2 with ⟨g1, -⟩ | ⟨g1, M', m', hm1', hmd', rfl, hv'⟩
      · exfalso
        rw [p6, zt_s0 ht] at g1
        exact g1 g.symm
      · rcases hv' with ⟨hv', rfl⟩ | ⟨hv', hfl', rfl⟩
        · obtain ⟨em, es, k⟩ := key M' m' hm1' hmd' (Or.inl hv') (Or.inl hv)
          subst em
          exact ⟨_, _, rfl, by rw [es], k⟩
        · obtain ⟨em, -⟩ := key M' m' hm1' hmd' (Or.inr ⟨hv', hfl'⟩) (Or.inl hv)
          exfalso
          omega
    · refine zd_go (kM_make G sw _ _ τ β t hJ) (fun v2 h2 q2 => ?_)
      rcases q2 with ⟨g1, -⟩ | ⟨g1, M', m', hm1', hmd', rfl, hv'⟩
      · exfalso
        rw [p6, zt_s0 ht] at g1
        exact g1 g.symm
      · rcases hv' with ⟨hv', rfl⟩ | ⟨hv', hfl', rfl⟩
        · obtain ⟨em, -⟩ := key M' m' hm1' hmd' (Or.inl hv') (Or.inr ⟨hv, hfl⟩)
          exfalso
          omega
        · obtain ⟨em, es, k⟩ := key M' m' hm1' hmd' (Or.inr ⟨hv', hfl'⟩) (Or.inr ⟨hv, hfl⟩)
          subst em
          exact ⟨_, _, rfl, rfl, k⟩

set_option maxRecDepth 100000 in
set_option maxHeartbeats 4000000 in
theorem zd_write (G : zk_G) (sw : Bool) (σ : Nat → Int) (α : Nat → Nat → Int) (τ : Nat → Int) (β : Nat → Nat → Int) (t : zk_H) (hz : zz σ α τ β) : zk_K G mC_write (4, 86) 0 0 (.inr (some 1) :: []) (zk_mk G sw σ α (zk_md τ β t)) (zd_R G mM_write (1, 21) [] τ β t) := by
  obtain ⟨hI, ht, hn, hp, hc, hm, hl⟩ := id hz
  have n0 := hI.1 0 (by decide)
  have n1 := hI.1 1 (by decide)
  have n2 := hI.1 2 (by decide)
  have n3 := hI.1 3 (by decide)
  have n4 := hI.1 4 (by decide)
  have e0 : (zr_N 0 : Int) = 40 := rfl
  have e1 : (zr_N 1 : Int) = 40 := rfl
  have e2 : (zr_N 2 : Int) = 80 := rfl
  have e3 : (zr_N 3 : Int) = 4102 := rfl
  have e4 : (zr_N 4 : Int) = 4000 := rfl
  have h10 := hI.2.2.2.1
  have hJ := zz_J hz
  have t0 := ht.1
  have t1 := ht.2.1
  have p5 := hp.1
  have p6 := hp.2.1
  have c7 := hc.1
  have m8 := hm.1
  refine (kC_write G sw σ α _ hI).mono (fun v h' q => ?_)
  have hA := hI.2.2.2.2.2.2.1
  obtain ⟨F, ⟨w0, w1, w2, w3⟩, rfl, rfl⟩ := q
  refine zd_go (kM_write G sw _ _ τ β t hJ) (fun v2 h2 q2 => ?_)
  obtain ⟨F', ⟨u0, u1, u2⟩, rfl, rfl⟩ := q2
  have ep : mt_pos (β 2) (β 4) (τ 5).toNat = mt_pos (α 5) (α 7) (σ 10).toNat := by
    rw [p5]
    exact mt_pos_congr (fun k hk => ⟨(zp_acts hp k hk).1, (zp_acts hp k hk).2.1⟩)
  have hpr := mt_pos_rg (K := α 5) (C := α 7) (n := (σ 10).toNat) (fun k hk => (hA k hk).2.1)
  rw [p5] at u2
  have hu := mt_wr_uniq w2 u2 (fun k hk => zp_ac2 hp k hk) (fun k hk h2 j hj => ((hp.2.2 k hk).2.2.2.2 h2 j hj).symm) (fun k hk => (hA k hk).2.1)
  refine ⟨_, _, rfl, by rw [ep], zc_I_3 hI (by omega) w3, ht, hn, hp, ⟨ep, fun x hx => ?_⟩, hm, hl⟩
  have hx : (x : Int) < mt_pos (α 5) (α 7) (σ 10).toNat := hx
  show F' x = F x
  by_cases e0 : x = 0
  · rw [e0, w0, u0, p6]
  · by_cases e1 : x = 1
    · rw [e1, w1, u1, p6]
    · exact (hu x (by omega) hx).symm

set_option maxRecDepth 100000 in
set_option maxHeartbeats 4000000 in
theorem zd_read (G : zk_G) (sw : Bool) (σ : Nat → Int) (α : Nat → Nat → Int) (τ : Nat → Int) (β : Nat → Nat → Int) (t : zk_H) (hz : zz σ α τ β) : zk_K G mC_read (5, 107) 0 0 (.inr (some 1) :: []) (zk_mk G sw σ α (zk_md τ β t)) (zd_R G mM_read (1, 25) [] τ β t) := by
  obtain ⟨hI, ht, hn, hp, hc, hm, hl⟩ := id hz
  have n0 := hI.1 0 (by decide)
  have n1 := hI.1 1 (by decide)
  have n2 := hI.1 2 (by decide)
  have n3 := hI.1 3 (by decide)
  have n4 := hI.1 4 (by decide)
  have e0 : (zr_N 0 : Int) = 40 := rfl
  have e1 : (zr_N 1 : Int) = 40 := rfl
  have e2 : (zr_N 2 : Int) = 80 := rfl
  have e3 : (zr_N 3 : Int) = 4102 := rfl
  have e4 : (zr_N 4 : Int) = 4000 := rfl
  have h10 := hI.2.2.2.1
  have hJ := zz_J hz
  have t0 := ht.1
  have t1 := ht.2.1
  have p5 := hp.1
  have p6 := hp.2.1
  have c7 := hc.1
  have m8 := hm.1
  refine (kC_read G sw σ α _ hI).mono (fun v h' q => ?_)
  have hv3 := hI.2.1 3 (by decide)
  obtain ⟨r, hr, hq⟩ := q
  have hcg : ∀ x : Nat, (x : Int) < σ 3 → β 6 x = α 3 x := hc.2
  have rr : ∀ r', mt_rf (β 6) (τ 7) r' → r' = r := fun r' hr' => by
    rw [c7] at hr'
    exact mt_rf_uniq (mt_rf_congr hcg hr') hr
  rcases hq with ⟨h1, rfl, rfl⟩ | ⟨h1, h2, σ3, α3, m0, hm0, hn0, hrd, rfl, rfl⟩
  · refine zd_same hz (kM_read G sw σ α τ β t hJ) (fun v2 h2 q2 => ?_)
    obtain ⟨r', hr', ⟨g1, rfl, rfl⟩ | ⟨g1, -⟩⟩ := q2
    · exact ⟨rfl, by rw [rr r' hr']⟩
    · exfalso
      have := rr r' hr'
      omega
  · refine zd_go (kM_read G sw _ _ τ β t hJ) (fun v2 h2' q2 => ?_)
    obtain ⟨r', hr', ⟨g1, -⟩ | ⟨g1, g2, K, P, C, L, m', gm, gn, grd, gP, rfl, rfl⟩⟩ := q2
    · exfalso
      have := rr r' hr'
      omega
    · rw [c7] at gm gn
      have erp : ∀ k, k ≤ m' → mt_rp (β 6) k = mt_rp (α 3) k := fun k hk => mt_rp_congr hcg (fun j hj => (gm.2 j (by omega)).1)
      have em : m0 = m' := by
        rcases Nat.lt_trichotomy m0 m' with hlt | hlt | hlt
        · exfalso
          have := (gm.2 m0 hlt).1
          rw [erp m0 (by omega)] at this
          omega
        · exact hlt
        · exfalso
          have := (hm0.2 m' hlt).1
          rw [erp m' (Nat.le_refl m')] at gn
          omega
      subst em
      obtain ⟨d1, d2, d3, d4, d5⟩ := hrd
      have hE : zm_E τ (zk_up (zk_up τ 6 (256 * β 6 0 + β 6 1)) 5 (m0 : Int)) β (zm_4 β K P C L) := ⟨fun q hq => by rw [zk_up_ne (by omega), zk_up_ne (by omega)], rfl, rfl, rfl, rfl, rfl, rfl⟩
      obtain ⟨z1, z2, z3, z4⟩ := zz_E d2 hE ht hn hc hm
      refine ⟨_, _, rfl, rfl, d1, z1, z2, ⟨d3.symm, ?_, fun k hk => ?_⟩, z3, z4, ⟨hl.1, fun h9 => zm_K_E (τ := τ) (β := β) hE.1 rfl rfl rfl (hl.2 h9)⟩⟩
      · show 256 * β 6 0 + β 6 1 = σ3 11
        rw [d4, hcg 0 (by omega), hcg 1 (by omega)]
        omega
      · rw [d3] at hk
        have hk : k < m0 := by omega
        obtain ⟨x1, x2, x3, x4⟩ := d5 k hk
        obtain ⟨y1, y2, y3, y4⟩ := grd k hk
        obtain ⟨l1, ⟨l2, l3, l4⟩, l5, l6⟩ := hm0.2 k hk
        rw [erp k (by omega), hcg _ l1] at y1 y2
        rw [erp k (by omega)] at y3 y4
        refine ⟨y1.trans x1.symm, y2.trans x2.symm, fun hx => ?_, gP k hk, fun hx j hj => ?_⟩
        · have hn2 := mt_rp_n2 (F := α 3) (k := k) (by rw [← x1]; exact hx)
          show P k = α3 6 k
          rw [x3 hx, y3 (by rw [y1, ← x1]; exact hx)]
          exact hcg _ (by omega)
        · have hn2 := mt_rp_y2 (F := α 3) (k := k) (by rw [← x1]; exact hx)
          show L (40 * k + j) = zc_lb α3 k j
          rw [x4 hx j hj]
          exact (y4 (by rw [y1, ← x1]; exact hx) j (by rw [y2, ← x2]; exact hj)).trans (hcg _ (by omega))
