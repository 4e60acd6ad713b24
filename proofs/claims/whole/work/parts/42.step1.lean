theorem zt_put0 {σ : Nat → Int} {α β : Nat → Nat → Int} {y : Int} {i : Nat} {n : Int} (h : zt σ α β) (h0 : 0 ≤ σ 0 ∧ σ 0 < 40) (h1 : 0 ≤ σ 1) (hy : 0 ≤ y ∧ y ≤ 255) (hi : i = (σ 0).toNat) (hn : n = σ 0 + 1) : zt (zk_up (zk_up σ 0 (σ 0 + 1)) 12 0) (zk_ua α 0 (zk_up (α 0) (σ 0).toNat y)) (zk_ua (zk_ua β 0 (zk_up (β 0) i y)) 1 (zk_up (β 1) 0 n)) := by
  obtain ⟨a1, a2, a3, a4, a5⟩ := h
  subst hi
  subst hn
  refine ⟨zk_up_at (β 1) 0 (σ 0 + 1), a2, fun j hj => ?_, fun j hj => ?_, zk_up_by a5 hy⟩
  · have hj : (j : Int) < σ 0 + 1 := hj
    show zk_up (β 0) (σ 0).toNat y (40 * 0 + j) = zk_up (α 0) (σ 0).toNat y j
    by_cases e : j = (σ 0).toNat
    · rw [show 40 * 0 + j = (σ 0).toNat by omega, e, zk_up_at, zk_up_at]
    · rw [zk_up_ne (by omega), zk_up_ne e]
      exact a3 j (by omega)
  · have hj : (j : Int) < σ 1 := hj
    show zk_up (β 0) (σ 0).toNat y (40 * 1 + j) = α 1 j
    rw [zk_up_ne (by omega)]
    exact a4 j hj
theorem zt_put1 {σ : Nat → Int} {α β : Nat → Nat → Int} {y : Int} {i : Nat} {n : Int} (h : zt σ α β) (h0 : 0 ≤ σ 0 ∧ σ 0 ≤ 40) (h1 : 0 ≤ σ 1 ∧ σ 1 < 40) (hy : 0 ≤ y ∧ y ≤ 255) (hi : i = 40 + (σ 1).toNat) (hn : n = σ 1 + 1) : zt (zk_up (zk_up σ 1 (σ 1 + 1)) 12 0) (zk_ua α 1 (zk_up (α 1) (σ 1).toNat y)) (zk_ua (zk_ua β 0 (zk_up (β 0) i y)) 1 (zk_up (β 1) 1 n)) := by
  obtain ⟨a1, a2, a3, a4, a5⟩ := h
  subst hi
  subst hn
  refine ⟨a1, zk_up_at (β 1) 1 (σ 1 + 1), fun j hj => ?_, fun j hj => ?_, zk_up_by a5 hy⟩
  · have hj : (j : Int) < σ 0 := hj
    show zk_up (β 0) (40 + (σ 1).toNat) y (40 * 0 + j) = α 0 j
    rw [zk_up_ne (by omega)]
    exact a3 j hj
  · have hj : (j : Int) < σ 1 + 1 := hj
    show zk_up (β 0) (40 + (σ 1).toNat) y (40 * 1 + j) = zk_up (α 1) (σ 1).toNat y j
    by_cases e : j = (σ 1).toNat
    · rw [show 40 * 1 + j = 40 + (σ 1).toNat by omega, e, zk_up_at, zk_up_at]
    · rw [zk_up_ne (by omega), zk_up_ne e]
      exact a4 j (by omega)
theorem zt_T0 {σ : Nat → Int} {α β : Nat → Nat → Int} {f : Nat → Int} (h : zt σ α β) : zt σ α (zk_ua β 8 f) := h
theorem zl_0 {τ : Nat → Int} {β : Nat → Nat → Int} (h : τ 9 = 0) : zl τ β := ⟨Or.inl h, fun h1 => by omega⟩

theorem mt_len_congr {f g f' g' : Nat → Int} : ∀ {m i j : Nat}, (∀ s, s < m → f (i + s) = f' (i + s)) → (∀ s, s < m → g (j + s) = g' (j + s)) → mt_len f g i j m = mt_len f' g' i j m
  | 0, _, _, _, _ => rfl
  | m + 1, i, j, hf, hg => by
    show (if f i = g j then mt_len f g (i + 1) (j + 1) m + 1 else 0) = (if f' i = g' j then mt_len f' g' (i + 1) (j + 1) m + 1 else 0)
    have e1 : f i = f' i := hf 0 (by omega)
    have e2 : g j = g' j := hg 0 (by omega)
    rw [e1, e2, mt_len_congr (f' := f') (g' := g') (m := m) (i := i + 1) (j := j + 1) (fun s hs => by rw [show i + 1 + s = i + (s + 1) by omega]; exact hf (s + 1) (by omega)) (fun s hs => by rw [show j + 1 + s = j + (s + 1) by omega]; exact hg (s + 1) (by omega))]

set_option maxRecDepth 100000 in
set_option maxHeartbeats 4000000 in
theorem zd_clear (G : zk_G) (sw : Bool) (σ : Nat → Int) (α : Nat → Nat → Int) (τ : Nat → Int) (β : Nat → Nat → Int) (t : zk_H) (hz : zz σ α τ β) : zk_K G mC_clear (2, 45) 0 0 (.inr (some 1) :: []) (zk_mk G sw σ α (zk_md τ β t)) (zd_R G mM_clear (1, 20) [] τ β t) := by
  obtain ⟨hI, ht, hn, hp, hc, hm, hl⟩ := id hz
  have n0 := hI.1 0 (by decide)
  have n1 := hI.1 1 (by decide)
  have n2 := hI.1 2 (by decide)
  have n3 := hI.1 3 (by decide)
  have n4 := hI.1 4 (by decide)
  have e0 : (zr_N 0 : Int) = 40 := rfl
  have e1 : (zr_N 1 : Int) = 40 := rfl
  have e2 : (zr_N 2 : Int) = 80 := rfl
  have e3 : (zr_N 3 : Int) = 4102 := rfl
  have e4 : (zr_N 4 : Int) = 4000 := rfl
  have h10 := hI.2.2.2.1
  have hJ := zz_J hz
  have t0 := ht.1
  have t1 := ht.2.1
  have p5 := hp.1
  have p6 := hp.2.1
  have c7 := hc.1
  have m8 := hm.1
  refine (kC_clear G sw σ α _ hI).mono (fun v h' q => ?_)
  obtain ⟨rfl, rfl⟩ := q
  refine zd_go (kM_clear G sw _ _ τ β t hJ) (fun v2 h2 q2 => ?_)
  obtain ⟨rfl, rfl⟩ := q2
  refine ⟨_, _, rfl, by rw [t0, t1], zc_I_new hI.2.1 hI.2.2.2.2.2.1 (fun q hq => ?_) (fun j hj => ?_) rfl rfl rfl, ⟨rfl, rfl, fun j hj => ?_, fun j hj => ?_, ht.2.2.2.2⟩, ⟨rfl, rfl, rfl, rfl, rfl⟩, ⟨rfl, rfl, fun k hk => absurd hk (Nat.not_lt_zero k)⟩, ⟨rfl, fun x hx => ?_⟩, ⟨rfl, fun x hx => ?_⟩, zl_0 rfl⟩
  · match q, hq with
    | 0, _ => rfl
    | 1, _ => rfl
    | 2, _ => rfl
    | 3, _ => rfl
    | 4, _ => rfl
  · match j, hj with
    | 0, _ => exact (by decide : (0 : Int) ≤ 4 ∧ (4 : Int) ≤ 100)
    | 1, _ => exact (by decide : (0 : Int) ≤ 2 ∧ (2 : Int) ≤ 100)
    | 2, _ => exact (by decide : (0 : Int) ≤ 4 ∧ (4 : Int) ≤ 100)
    | 3, _ => exact (by decide : (0 : Int) ≤ 2 ∧ (2 : Int) ≤ 100)
    | 4, _ => exact (by decide : (0 : Int) ≤ 3 ∧ (3 : Int) ≤ 100)
  · exact absurd (show (j : Int) < 0 from hj) (by omega)
  · exact absurd (show (j : Int) < 0 from hj) (by omega)
  · exact absurd (show (x : Int) < 0 from hx) (by omega)
  · exact absurd (show (x : Int) < 0 from hx) (by omega)

set_option maxRecDepth 100000 in
set_option maxHeartbeats 4000000 in
theorem zd_put (G : zk_G) (sw : Bool) (σ : Nat → Int) (α : Nat → Nat → Int) (τ : Nat → Int) (β : Nat → Nat → Int) (t : zk_H) (hz : zz σ α τ β) {x y : Int} (hx : zk_rg x) (hy : zk_rg y) : zk_K G mC_put (2, 41) 0 0 (.inr (some 1) :: [.inl x, .inl y]) (zk_mk G sw σ α (zk_md τ β t)) (zd_R G mM_put (1, 22) [.inl x, .inl y] τ β t) := by
  obtain ⟨hI, ht, hn, hp, hc, hm, hl⟩ := id hz
  have n0 := hI.1 0 (by decide)
  have n1 := hI.1 1 (by decide)
  have n2 := hI.1 2 (by decide)
  have n3 := hI.1 3 (by decide)
  have n4 := hI.1 4 (by decide)
  have e0 : (zr_N 0 : Int) = 40 := rfl
  have e1 : (zr_N 1 : Int) = 40 := rfl
  have e2 : (zr_N 2 : Int) = 80 := rfl
  have e3 : (zr_N 3 : Int) = 4102 := rfl
  have e4 : (zr_N 4 : Int) = 4000 := rfl
  have h10 := hI.2.2.2.1
  have hJ := zz_J hz
  have t0 := ht.1
  have t1 := ht.2.1
  have p5 := hp.1
  have p6 := hp.2.1
  have c7 := hc.1
  have m8 := hm.1
  refine (kC_put G sw σ α _ hI hx hy).mono (fun v h' q => ?_)
  rcases q with ⟨g, rfl, rfl⟩ | ⟨q, hq, hxq, hyb, hlt, rfl, rfl⟩ | ⟨q, hq, hxq, hyb, hlt, rfl, rfl⟩
  · refine zd_same hz (kM_put G sw σ α τ β t hJ hx hy) (fun v2 h2 q2 => ?_)
    rcases q2 with ⟨g1, rfl, rfl⟩ | ⟨g1, g2, -⟩ | ⟨g1, g2, -⟩
    · exact ⟨rfl, rfl⟩
    · omega
    · omega
  · refine zd_same hz (kM_put G sw σ α τ β t hJ hx hy) (fun v2 h2 q2 => ?_)
    rcases q2 with ⟨g1, -⟩ | ⟨g1, g2, rfl, rfl⟩ | ⟨g1, g2, -⟩
    · omega
    · exact ⟨rfl, rfl⟩
    · exfalso
      rcases (show q = 0 ∨ q = 1 by omega) with rfl | rfl
      · have hx0 : x = 0 := hxq
        subst hx0
        have hb : β 1 (0 : Int).toNat = σ 0 := t0
        have : 40 ≤ σ 0 := hlt
        omega
      · have hx0 : x = 1 := hxq
        subst hx0
        have hb : β 1 (1 : Int).toNat = σ 1 := t1
        have : 40 ≤ σ 1 := hlt
        omega
  · rcases (show q = 0 ∨ q = 1 by omega) with rfl | rfl
    · have hx0 : x = 0 := hxq
      subst hx0
      refine zd_go (kM_put G sw _ _ τ β t hJ hx hy) (fun v2 h2 q2 => ?_)
      have hb : β 1 (0 : Int).toNat = σ 0 := t0
      rcases q2 with ⟨g1, -⟩ | ⟨g1, g2, -⟩ | ⟨g1, g2, rfl, rfl⟩
      · omega
      · exact absurd (hb.symm.trans g2) (by have : σ 0 < 40 := hlt; omega)
      · have hlt : σ 0 < 40 := hlt
        refine ⟨_, _, rfl, by rw [hb], zc_I_txt hI (fun q h1 h2 => ?_) ?_ ?_ (fun q h1 h2 => ?_) ?_ ?_ rfl, zt_put0 ht ?_ ?_ hyb ?_ ?_, hn, hp, hc, hm, zl_0 rfl⟩
        · rw [zk_up_ne (by omega), zk_up_ne (by omega)]
        · first | exact ⟨show 0 ≤ σ 0 + 1 by omega, show σ 0 + 1 ≤ 40 by omega⟩ | exact ⟨show 0 ≤ σ 0 by omega, show σ 0 ≤ 40 by omega⟩
        · first | exact ⟨show 0 ≤ σ 1 + 1 by omega, show σ 1 + 1 ≤ 40 by omega⟩ | exact ⟨show 0 ≤ σ 1 by omega, show σ 1 ≤ 40 by omega⟩
        · unfold zk_ua
          rw [if_neg (by omega)]
        · first | exact zk_up_by (hI.2.1 0 (by decide)) hyb | exact hI.2.1 0 (by decide)
        · first | exact zk_up_by (hI.2.1 1 (by decide)) hyb | exact hI.2.1 1 (by decide)
        · omega
        · omega
        · rw [hb]
          omega
        · rw [hb]
    · have hx0 : x = 1 := hxq
      subst hx0
      refine zd_go (kM_put G sw _ _ τ β t hJ hx hy) (fun v2 h2 q2 => ?_)
      have hb : β 1 (1 : Int).toNat = σ 1 := t1
      rcases q2 with ⟨g1, -⟩ | ⟨g1, g2, -⟩ | ⟨g1, g2, rfl, rfl⟩
      · omega
      · exact absurd (hb.symm.trans g2) (by have : σ 1 < 40 := hlt; omega)
      · have hlt : σ 1 < 40 := hlt
        refine ⟨_, _, rfl, by rw [hb], zc_I_txt hI (fun q h1 h2 => ?_) ?_ ?_ (fun q h1 h2 => ?_) ?_ ?_ rfl, zt_put1 ht ?_ ?_ hyb ?_ ?_, hn, hp, hc, hm, zl_0 rfl⟩
        · rw [zk_up_ne (by omega), zk_up_ne (by omega)]
        · first | exact ⟨show 0 ≤ σ 0 + 1 by omega, show σ 0 + 1 ≤ 40 by omega⟩ | exact ⟨show 0 ≤ σ 0 by omega, show σ 0 ≤ 40 by omega⟩
        · first | exact ⟨show 0 ≤ σ 1 + 1 by omega, show σ 1 + 1 ≤ 40 by omega⟩ | exact ⟨show 0 ≤ σ 1 by omega, show σ 1 ≤ 40 by omega⟩
        · unfold zk_ua
          rw [if_neg (by omega)]
        · first | exact zk_up_by (hI.2.1 0 (by decide)) hyb | exact hI.2.1 0 (by decide)
        · first | exact zk_up_by (hI.2.1 1 (by decide)) hyb | exact hI.2.1 1 (by decide)
        · omega
        · omega
        · rw [hb]
          omega
        · rw [hb]

set_option maxRecDepth 100000 in
set_option maxHeartbeats 4000000 in
theorem zd_cut (G : zk_G) (sw : Bool) (σ : Nat → Int) (α : Nat → Nat → Int) (τ : Nat → Int) (β : Nat → Nat → Int) (t : zk_H) (hz : zz σ α τ β) {x y : Int} (hx : zk_rg x) (hy : zk_rg y) : zk_K G mC_cut (2, 39) 0 0 (.inr (some 1) :: [.inl x, .inl y]) (zk_mk G sw σ α (zk_md τ β t)) (zd_R G mM_cut (1, 22) [.inl x, .inl y] τ β t) := by
  obtain ⟨hI, ht, hn, hp, hc, hm, hl⟩ := id hz
  have n0 := hI.1 0 (by decide)
  have n1 := hI.1 1 (by decide)
  have n2 := hI.1 2 (by decide)
  have n3 := hI.1 3 (by decide)
  have n4 := hI.1 4 (by decide)
  have e0 : (zr_N 0 : Int) = 40 := rfl
  have e1 : (zr_N 1 : Int) = 40 := rfl
  have e2 : (zr_N 2 : Int) = 80 := rfl
  have e3 : (zr_N 3 : Int) = 4102 := rfl
  have e4 : (zr_N 4 : Int) = 4000 := rfl
  have h10 := hI.2.2.2.1
  have hJ := zz_J hz
  have t0 := ht.1
  have t1 := ht.2.1
  have p5 := hp.1
  have p6 := hp.2.1
  have c7 := hc.1
  have m8 := hm.1
  refine (kC_cut G sw σ α _ hI hx hy).mono (fun v h' q => ?_)
  rcases q with ⟨g, rfl, rfl⟩ | ⟨q, hq, hxq, hyq, rfl, rfl⟩ | ⟨q, hq, hxq, hyq, rfl, rfl⟩
  · refine zd_same hz (kM_cut G sw σ α τ β t hJ hx hy) (fun v2 h2 q2 => ?_)
    rcases q2 with ⟨g1, rfl, rfl⟩ | ⟨g1, -⟩
    · exact ⟨rfl, rfl⟩
    · omega
  · refine zd_same hz (kM_cut G sw σ α τ β t hJ hx hy) (fun v2 h2 q2 => ?_)
    rcases q2 with ⟨g1, rfl, rfl⟩ | ⟨g1, -⟩
    · exact ⟨rfl, rfl⟩
    · exfalso
      rcases (show q = 0 ∨ q = 1 by omega) with rfl | rfl
      · have hx0 : x = 0 := hxq
        subst hx0
        have hb : β 1 (0 : Int).toNat = σ 0 := t0
        omega
      · have hx0 : x = 1 := hxq
        subst hx0
        have hb : β 1 (1 : Int).toNat = σ 1 := t1
        omega
  · rcases (show q = 0 ∨ q = 1 by omega) with rfl | rfl
    · have hx0 : x = 0 := hxq
      subst hx0
      refine zd_go (kM_cut G sw _ _ τ β t hJ hx hy) (fun v2 h2 q2 => ?_)
      have hb : β 1 (0 : Int).toNat = σ 0 := t0
      have hyq : 0 ≤ y ∧ y ≤ σ 0 := hyq
      rcases q2 with ⟨g1, -⟩ | ⟨g1, rfl, rfl⟩
      · omega
      · refine ⟨_, _, rfl, by rw [hb], zc_I_txt hI (fun q h1 h2 => ?_) ?_ ?_ (fun q h1 h2 => rfl) (hI.2.1 0 (by decide)) (hI.2.1 1 (by decide)) rfl, ?_, hn, hp, hc, hm, zl_0 rfl⟩
        · rw [zk_up_ne (by omega), zk_up_ne (by omega)]
        · first | exact ⟨show 0 ≤ σ 0 - y by omega, show σ 0 - y ≤ 40 by omega⟩ | exact ⟨show 0 ≤ σ 0 by omega, show σ 0 ≤ 40 by omega⟩
        · first | exact ⟨show 0 ≤ σ 1 - y by omega, show σ 1 - y ≤ 40 by omega⟩ | exact ⟨show 0 ≤ σ 1 by omega, show σ 1 ≤ 40 by omega⟩
        · obtain ⟨a1, a2, a3, a4, a5⟩ := id ht
          have ez : β 1 (0 : Int).toNat - y = σ 0 - y := by rw [hb]
          refine ⟨(zk_up_at (β 1) 0 (β 1 (0 : Int).toNat - y)).trans ez, a2, fun j hj => a3 j (by have hj : (j : Int) < σ 0 - y := hj; omega), a4, a5⟩
    · have hx0 : x = 1 := hxq
      subst hx0
      refine zd_go (kM_cut G sw _ _ τ β t hJ hx hy) (fun v2 h2 q2 => ?_)
      have hb : β 1 (1 : Int).toNat = σ 1 := t1
      have hyq : 0 ≤ y ∧ y ≤ σ 1 := hyq
      rcases q2 with ⟨g1, -⟩ | ⟨g1, rfl, rfl⟩
      · omega
      · refine ⟨_, _, rfl, by rw [hb], zc_I_txt hI (fun q h1 h2 => ?_) ?_ ?_ (fun q h1 h2 => rfl) (hI.2.1 0 (by decide)) (hI.2.1 1 (by decide)) rfl, ?_, hn, hp, hc, hm, zl_0 rfl⟩
        · rw [zk_up_ne (by omega), zk_up_ne (by omega)]
        · first | exact ⟨show 0 ≤ σ 0 - y by omega, show σ 0 - y ≤ 40 by omega⟩ | exact ⟨show 0 ≤ σ 0 by omega, show σ 0 ≤ 40 by omega⟩
        · first | exact ⟨show 0 ≤ σ 1 - y by omega, show σ 1 - y ≤ 40 by omega⟩ | exact ⟨show 0 ≤ σ 1 by omega, show σ 1 ≤ 40 by omega⟩
        · obtain ⟨a1, a2, a3, a4, a5⟩ := id ht
          have ez : β 1 (1 : Int).toNat - y = σ 1 - y := by rw [hb]
          refine ⟨a1, (zk_up_at (β 1) 1 (β 1 (1 : Int).toNat - y)).trans ez, a3, fun j hj => a4 j (by have hj : (j : Int) < σ 1 - y := hj; omega), a5⟩

set_option maxRecDepth 100000 in
set_option maxHeartbeats 4000000 in
theorem zd_turn (G : zk_G) (sw : Bool) (σ : Nat → Int) (α : Nat → Nat → Int) (τ : Nat → Int) (β : Nat → Nat → Int) (t : zk_H) (hz : zz σ α τ β) : zk_K G mC_turn (1, 23) 0 0 (.inr (some 1) :: []) (zk_mk G sw σ α (zk_md τ β t)) (zd_R G mM_turn (0, 0) [] τ β t) := by
  obtain ⟨hI, ht, hn, hp, hc, hm, hl⟩ := id hz
  have n0 := hI.1 0 (by decide)
  have n1 := hI.1 1 (by decide)
  have n2 := hI.1 2 (by decide)
  have n3 := hI.1 3 (by decide)
  have n4 := hI.1 4 (by decide)
  have e0 : (zr_N 0 : Int) = 40 := rfl
  have e1 : (zr_N 1 : Int) = 40 := rfl
  have e2 : (zr_N 2 : Int) = 80 := rfl
  have e3 : (zr_N 3 : Int) = 4102 := rfl
  have e4 : (zr_N 4 : Int) = 4000 := rfl
  have h10 := hI.2.2.2.1
  have hJ := zz_J hz
  have t0 := ht.1
  have t1 := ht.2.1
  have p5 := hp.1
  have p6 := hp.2.1
  have c7 := hc.1
  have m8 := hm.1
  refine (kC_turn G sw σ α _ hI).mono (fun v h' q => ?_)
  obtain ⟨rfl, rfl⟩ := q
  refine zd_go (kM_turn G (!sw) _ _ τ β t hJ) (fun v2 h2 q2 => ?_)
  obtain ⟨rfl, rfl⟩ := q2
  obtain ⟨a1, a2, a3, a4, a5⟩ := id ht
  refine ⟨_, _, rfl, by rw [a2], zc_I_txt hI (fun q h1 h2 => ?_) ⟨show 0 ≤ σ 1 by omega, show σ 1 ≤ 40 by omega⟩ ⟨show 0 ≤ σ 0 by omega, show σ 0 ≤ 40 by omega⟩ (fun q h1 h2 => ?_) (hI.2.1 1 (by decide)) (hI.2.1 0 (by decide)) rfl, ⟨?_, ?_, fun j hj => ?_, fun j hj => ?_, fun j => ?_⟩, hn, hp, hc, hm, zl_0 rfl⟩
  · rw [zk_up_ne (by omega), zk_up_ne (by omega), zk_up_ne (by omega)]
  · unfold zk_ua
    rw [if_neg (by omega), if_neg (by omega)]
  · exact a2
  · exact a1
  · have hj : (j : Int) < σ 1 := hj
    show mt_tu (β 0) 40 (40 * 0 + j) = α 1 j
    unfold mt_tu
    rw [if_pos (by omega), ← a4 j hj]
    show β 0 (40 + (40 * 0 + j)) = β 0 (40 * 1 + j)
    congr 1
    omega
  · have hj : (j : Int) < σ 0 := hj
    show mt_tu (β 0) 40 (40 * 1 + j) = α 0 j
    unfold mt_tu
    rw [if_neg (by omega), if_pos (by omega), ← a3 j hj]
    show β 0 (40 * 1 + j - 40) = β 0 (40 * 0 + j)
    congr 1
    omega
  · show 0 ≤ mt_tu (β 0) 40 j ∧ mt_tu (β 0) 40 j ≤ 255
    unfold mt_tu
    (repeat' split)
    · exact a5 _
    · exact a5 _
    · exact a5 _

set_option maxRecDepth 100000 in
set_option maxHeartbeats 4000000 in
theorem zd_costs (G : zk_G) (sw : Bool) (σ : Nat → Int) (α : Nat → Nat → Int) (τ : Nat → Int) (β : Nat → Nat → Int) (t : zk_H) (hz : zz σ α τ β) {x0 x1 x2 x3 x4 : Int} (hx0 : zk_rg x0) (hx1 : zk_rg x1) (hx2 : zk_rg x2) (hx3 : zk_rg x3) (hx4 : zk_rg x4) : zk_K G mC_costs (2, 46) 0 0 (.inr (some 1) :: [.inl x0, .inl x1, .inl x2, .inl x3, .inl x4]) (zk_mk G sw σ α (zk_md τ β t)) (zd_R G mM_costs (1, 22) [.inl x0, .inl x1, .inl x2, .inl x3, .inl x4] τ β t) := by
  obtain ⟨hI, ht, hn, hp, hc, hm, hl⟩ := id hz
  have n0 := hI.1 0 (by decide)
  have n1 := hI.1 1 (by decide)
  have n2 := hI.1 2 (by decide)
  have n3 := hI.1 3 (by decide)
  have n4 := hI.1 4 (by decide)
  have e0 : (zr_N 0 : Int) = 40 := rfl
  have e1 : (zr_N 1 : Int) = 40 := rfl
  have e2 : (zr_N 2 : Int) = 80 := rfl
  have e3 : (zr_N 3 : Int) = 4102 := rfl
  have e4 : (zr_N 4 : Int) = 4000 := rfl
  have h10 := hI.2.2.2.1
  have hJ := zz_J hz
  have t0 := ht.1
  have t1 := ht.2.1
  have p5 := hp.1
  have p6 := hp.2.1
  have c7 := hc.1
  have m8 := hm.1
  refine (kC_costs G sw σ α _ hI x0 x1 x2 x3 x4 hx0 hx1 hx2 hx3 hx4).mono (fun v h' q => ?_)
  obtain ⟨v0, v1, v2', v3, v4⟩ := id hn
  rcases q with ⟨g, rfl, rfl⟩ | ⟨g, rfl, rfl⟩
  · refine zd_same hz (kM_costs G sw σ α τ β t hJ hx0 hx1 hx2 hx3 hx4) (fun v2 h2 q2 => ?_)
    rcases q2 with ⟨g1, rfl, rfl⟩ | ⟨g1, -⟩
    · exact ⟨rfl, rfl⟩
    · exact absurd g1 g
  · refine zd_go (kM_costs G sw _ _ τ β t hJ hx0 hx1 hx2 hx3 hx4) (fun v2 h2 q2 => ?_)
    rcases q2 with ⟨g1, -⟩ | ⟨g1, rfl, rfl⟩
    · exact absurd g g1
    · obtain ⟨g0, g1', g2, g3, g4⟩ := g
      refine ⟨_, _, rfl, ?_, zc_I_num hI (fun q h1 h2 => ?_) (fun j hj => ?_) rfl, ht, ⟨rfl, rfl, rfl, rfl, rfl⟩, hp, hc, hm, zl_0 rfl⟩
      · rw [v0, v1, v2', v3, v4]
        have sw2 : ∀ a b : Int, (if a = b then (0 : Int) else 1) = (if b = a then 0 else 1) := fun a b => by
          by_cases e : a = b
          · rw [if_pos e, if_pos e.symm]
          · rw [if_neg e, if_neg (fun z => e z.symm)]
        rw [sw2 x0, sw2 x1, sw2 x2, sw2 x3, sw2 x4]
      · rw [zk_up_ne (by omega), zk_up_ne (by omega), zk_up_ne (by omega), zk_up_ne (by omega), zk_up_ne (by omega), zk_up_ne (by omega)]
      · match j, hj with
        | 0, _ => exact g0
        | 1, _ => exact g1'
        | 2, _ => exact g2
        | 3, _ => exact g3
        | 4, _ => exact g4

set_option maxRecDepth 100000 in
set_option maxHeartbeats 4000000 in
theorem zd_cost (G : zk_G) (sw : Bool) (σ : Nat → Int) (α : Nat → Nat → Int) (τ : Nat → Int) (β : Nat → Nat → Int) (t : zk_H) (hz : zz σ α τ β) : zk_K G mC_cost (3, 63) 0 0 (.inr (some 1) :: []) (zk_mk G sw σ α (zk_md τ β t)) (zd_R G mM_cost (2, 45) [] τ β t) := by
  obtain ⟨hI, ht, hn, hp, hc, hm, hl⟩ := id hz
  have n0 := hI.1 0 (by decide)
  have n1 := hI.1 1 (by decide)
  have n2 := hI.1 2 (by decide)
  have n3 := hI.1 3 (by decide)
  have n4 := hI.1 4 (by decide)
  have e0 : (zr_N 0 : Int) = 40 := rfl
  have e1 : (zr_N 1 : Int) = 40 := rfl
  have e2 : (zr_N 2 : Int) = 80 := rfl
  have e3 : (zr_N 3 : Int) = 4102 := rfl
  have e4 : (zr_N 4 : Int) = 4000 := rfl
  have h10 := hI.2.2.2.1
  have hJ := zz_J hz
  have t0 := ht.1
  have t1 := ht.2.1
  have p5 := hp.1
  have p6 := hp.2.1
  have c7 := hc.1
  have m8 := hm.1
  refine (kC_cost G sw σ α _ hI).mono (fun v h' q => ?_)
  obtain ⟨rfl, rfl⟩ := q
  refine zd_same hz (kM_cost G sw σ α τ β t hJ) (fun v2 h2 q2 => ?_)
  obtain ⟨rfl, rfl⟩ := q2
  refine ⟨rfl, ?_⟩
  rw [zn_c hn, p5, mt_csum_congr (K' := α 5) (P' := α 6) (C' := α 7) (fun k hk => zp_acts hp k hk)]

set_option maxRecDepth 100000 in
set_option maxHeartbeats 4000000 in
theorem zd_match (G : zk_G) (sw : Bool) (σ : Nat → Int) (α : Nat → Nat → Int) (τ : Nat → Int) (β : Nat → Nat → Int) (t : zk_H) (hz : zz σ α τ β) {x y z : Int} (hx : zk_rg x) (hy : zk_rg y) (hzz : zk_rg z) : zk_K G mC_match (2, 46) 0 0 (.inr (some 1) :: [.inl x, .inl y, .inl z]) (zk_mk G sw σ α (zk_md τ β t)) (zd_R G mM_match (2, 46) [.inl x, .inl y, .inl z] τ β t) := by
  obtain ⟨hI, ht, hn, hp, hc, hm, hl⟩ := id hz
  have n0 := hI.1 0 (by decide)
  have n1 := hI.1 1 (by decide)
  have n2 := hI.1 2 (by decide)
  have n3 := hI.1 3 (by decide)
  have n4 := hI.1 4 (by decide)
  have e0 : (zr_N 0 : Int) = 40 := rfl
  have e1 : (zr_N 1 : Int) = 40 := rfl
  have e2 : (zr_N 2 : Int) = 80 := rfl
  have e3 : (zr_N 3 : Int) = 4102 := rfl
  have e4 : (zr_N 4 : Int) = 4000 := rfl
  have h10 := hI.2.2.2.1
  have hJ := zz_J hz
  have t0 := ht.1
  have t1 := ht.2.1
  have p5 := hp.1
  have p6 := hp.2.1
  have c7 := hc.1
  have m8 := hm.1
  refine (kC_match G sw σ α _ hI hx hy hzz).mono (fun v h' q => ?_)
  rcases q with ⟨g, rfl, rfl⟩ | ⟨q, hq, hxq, hyq, rfl, rfl⟩ | ⟨q, hq, hxq, hyq, hzq, rfl, rfl⟩
  · refine zd_same hz (kM_match G sw σ α τ β t hJ hx hy hzz) (fun v2 h2 q2 => ?_)
    obtain ⟨rfl, ⟨g1, rfl⟩ | ⟨g1, -⟩⟩ := q2
    · exact ⟨rfl, rfl⟩
    · omega
  · refine zd_same hz (kM_match G sw σ α τ β t hJ hx hy hzz) (fun v2 h2 q2 => ?_)
    obtain ⟨rfl, ⟨g1, rfl⟩ | ⟨g1, -⟩⟩ := q2
    · exact ⟨rfl, rfl⟩
    · exfalso
      rcases (show q = 0 ∨ q = 1 by omega) with rfl | rfl
      · have hx0 : x = 0 := hxq
        subst hx0
        have hb : β 1 (0 : Int).toNat = σ 0 := t0
        omega
      · have hx0 : x = 1 := hxq
        subst hx0
        have hb : β 1 (1 : Int).toNat = σ 1 := t1
        omega
  · refine zd_same hz (kM_match G sw σ α τ β t hJ hx hy hzz) (fun v2 h2 q2 => ?_)
    obtain ⟨a1, a2, a3, a4, a5⟩ := id ht
    rcases (show q = 0 ∨ q = 1 by omega) with rfl | rfl
    · have hx0 : x = 0 := hxq
      subst hx0
      have hb : β 1 (0 : Int).toNat = σ 0 := t0
      obtain ⟨rfl, ⟨g1, -⟩ | ⟨g1, rfl⟩⟩ := q2
      · omega
      · refine ⟨rfl, ?_⟩
        have e : mt_len (zm_T β (0 : Int).toNat) (zm_T β 1) y.toNat z.toNat (min (zm_n β (0 : Int).toNat - y.toNat) (zm_n β 1 - z.toNat)) = mt_len (α 0) (α 1) y.toNat z.toNat (min (σ 0 - y) (σ 1 - z)).toNat := by
          show mt_len (zm_T β 0) (zm_T β 1) y.toNat z.toNat (min (zm_n β 0 - y.toNat) (zm_n β 1 - z.toNat)) = _
          rw [zt_n0 ht, zt_n1 ht, show min ((σ 0).toNat - y.toNat) ((σ 1).toNat - z.toNat) = (min (σ 0 - y) (σ 1 - z)).toNat by omega]
          exact mt_len_congr (fun s hs => a3 _ (by omega)) (fun s hs => a4 _ (by omega))
        rw [e]
    · have hx0 : x = 1 := hxq
      subst hx0
      have hb : β 1 (1 : Int).toNat = σ 1 := t1
      obtain ⟨rfl, ⟨g1, -⟩ | ⟨g1, rfl⟩⟩ := q2
      · omega
      · refine ⟨rfl, ?_⟩
        have e : mt_len (zm_T β (1 : Int).toNat) (zm_T β 1) y.toNat z.toNat (min (zm_n β (1 : Int).toNat - y.toNat) (zm_n β 1 - z.toNat)) = mt_len (α 1) (α 1) y.toNat z.toNat (min (σ 1 - y) (σ 1 - z)).toNat := by
          show mt_len (zm_T β 1) (zm_T β 1) y.toNat z.toNat (min (zm_n β 1 - y.toNat) (zm_n β 1 - z.toNat)) = _
          rw [zt_n1 ht, show min ((σ 1).toNat - y.toNat) ((σ 1).toNat - z.toNat) = (min (σ 1 - y) (σ 1 - z)).toNat by omega]
          exact mt_len_congr (fun s hs => a4 _ (by omega)) (fun s hs => a4 _ (by omega))
        rw [e]

set_option maxRecDepth 100000 in
set_option maxHeartbeats 4000000 in
theorem zd_act (G : zk_G) (sw : Bool) (σ : Nat → Int) (α : Nat → Nat → Int) (τ : Nat → Int) (β : Nat → Nat → Int) (t : zk_H) (hz : zz σ α τ β) {x y : Int} (hx : zk_rg x) (hy : zk_rg y) : zk_K G mC_act (3, 63) 0 0 (.inr (some 1) :: [.inl x, .inl y]) (zk_mk G sw σ α (zk_md τ β t)) (zd_R G mM_act (2, 45) [.inl x, .inl y] τ β t) := by
  obtain ⟨hI, ht, hn, hp, hc, hm, hl⟩ := id hz
  have n0 := hI.1 0 (by decide)
  have n1 := hI.1 1 (by decide)
  have n2 := hI.1 2 (by decide)
  have n3 := hI.1 3 (by decide)
  have n4 := hI.1 4 (by decide)
  have e0 : (zr_N 0 : Int) = 40 := rfl
  have e1 : (zr_N 1 : Int) = 40 := rfl
  have e2 : (zr_N 2 : Int) = 80 := rfl
  have e3 : (zr_N 3 : Int) = 4102 := rfl
  have e4 : (zr_N 4 : Int) = 4000 := rfl
  have h10 := hI.2.2.2.1
  have hJ := zz_J hz
  have t0 := ht.1
  have t1 := ht.2.1
  have p5 := hp.1
  have p6 := hp.2.1
  have c7 := hc.1
  have m8 := hm.1
  refine (kC_act G sw σ α _ hI hx hy).mono (fun v h' q => ?_)
  obtain ⟨rfl, ⟨g, rfl⟩ | ⟨g, q⟩⟩ := q
  · refine zd_same hz (kM_act G sw σ α τ β t hJ hx hy) (fun v2 h2 q2 => ?_)
    obtain ⟨rfl, ⟨g1, rfl⟩ | ⟨g1, -⟩⟩ := q2
    · exact ⟨rfl, rfl⟩
    · omega
  · obtain ⟨b1, b2, b3, b4, b5⟩ := hp.2.2 x.toNat (by omega)
    have a4 := (hI.2.2.2.2.2.2.1 x.toNat (by omega)).2.2.2.1
    rcases q with ⟨gy, rfl⟩ | ⟨gy, rfl⟩ | ⟨gy, rfl⟩ | ⟨gy, rfl⟩ | ⟨gy, rfl⟩ <;> refine zd_same hz (kM_act G sw σ α τ β t hJ hx hy) (fun v2 h2 q2 => ?_) <;> obtain ⟨rfl, ⟨g1, -⟩ | ⟨g1, ⟨u1, rfl⟩ | ⟨u1, rfl⟩ | ⟨u1, rfl⟩ | ⟨u1, rfl⟩ | ⟨u1, rfl⟩⟩⟩ := q2 <;> first | (exfalso; omega) | skip
    · exact ⟨rfl, by rw [b1]⟩
    · exact ⟨rfl, by rw [b2]⟩
    · refine ⟨rfl, ?_⟩
      by_cases e : α 5 x.toNat = 2
      · rw [b1, if_pos e, a4 e]
      · rw [b1, if_neg e, b3 e]
    · exact ⟨rfl, by rw [zp_spot hp (by omega)]⟩
    · exact ⟨rfl, by rw [zn_c hn, mt_cost_congr (K' := α 5) (P' := α 6) (C' := α 7) (fun k hk => zp_acts hp k (by omega))]⟩

set_option maxRecDepth 100000 in
set_option maxHeartbeats 4000000 in
theorem zd_laid (G : zk_G) (sw : Bool) (σ : Nat → Int) (α : Nat → Nat → Int) (τ : Nat → Int) (β : Nat → Nat → Int) (t : zk_H) (hz : zz σ α τ β) {x y : Int} (hx : zk_rg x) (hy : zk_rg y) : zk_K G mC_laid (3, 64) 0 0 (.inr (some 1) :: [.inl x, .inl y]) (zk_mk G sw σ α (zk_md τ β t)) (zd_R G mM_laid (1, 22) [.inl x, .inl y] τ β t) := by
  obtain ⟨hI, ht, hn, hp, hc, hm, hl⟩ := id hz
  have n0 := hI.1 0 (by decide)
  have n1 := hI.1 1 (by decide)
  have n2 := hI.1 2 (by decide)
  have n3 := hI.1 3 (by decide)
  have n4 := hI.1 4 (by decide)
  have e0 : (zr_N 0 : Int) = 40 := rfl
  have e1 : (zr_N 1 : Int) = 40 := rfl
  have e2 : (zr_N 2 : Int) = 80 := rfl
  have e3 : (zr_N 3 : Int) = 4102 := rfl
  have e4 : (zr_N 4 : Int) = 4000 := rfl
  have h10 := hI.2.2.2.1
  have hJ := zz_J hz
  have t0 := ht.1
  have t1 := ht.2.1
  have p5 := hp.1
  have p6 := hp.2.1
  have c7 := hc.1
  have m8 := hm.1
  refine (kC_laid G sw σ α _ hI hx hy).mono (fun v h' q => ?_)
  obtain ⟨rfl, ⟨g, rfl⟩ | ⟨g, rfl⟩⟩ := q
  · refine zd_same hz (kM_laid G sw σ α τ β t hJ hx hy) (fun v2 h2 q2 => ?_)
    obtain ⟨rfl, ⟨g1, rfl⟩ | ⟨g1, -⟩⟩ := q2
    · exact ⟨rfl, rfl⟩
    · exfalso
      obtain ⟨b1, b2, b3, b4, b5⟩ := hp.2.2 x.toNat (by omega)
      rw [b1, b2] at g1
      exact g (by omega)
  · obtain ⟨b1, b2, b3, b4, b5⟩ := hp.2.2 x.toNat (by omega)
    refine zd_same hz (kM_laid G sw σ α τ β t hJ hx hy) (fun v2 h2 q2 => ?_)
    obtain ⟨rfl, ⟨g1, -⟩ | ⟨g1, rfl⟩⟩ := q2
    · exfalso
      rw [b1, b2] at g1
      exact g1 (by omega)
    · have hb := b5 g.2.1 y.toNat (by omega)
      have hz0 := zc_lay hI (k := x.toNat) (by omega) g.2.1 (j := 0) (by omega)
      refine ⟨rfl, ?_⟩
      have e : β 5 (40 * x + y).toNat = α 4 (α 8 x.toNat + y).toNat := by
        rw [show (40 * x + y).toNat = 40 * x.toNat + y.toNat by omega, show (α 8 x.toNat + y).toNat = (α 8 x.toNat).toNat + y.toNat by omega]
        exact hb
      rw [e]

set_option maxRecDepth 100000 in
set_option maxHeartbeats 4000000 in
theorem zd_empty (G : zk_G) (sw : Bool) (σ : Nat → Int) (α : Nat → Nat → Int) (τ : Nat → Int) (β : Nat → Nat → Int) (t : zk_H) (hz : zz σ α τ β) : zk_K G mC_empty (2, 41) 0 0 (.inr (some 1) :: []) (zk_mk G sw σ α (zk_md τ β t)) (zd_R G mM_empty (2, 45) [] τ β t) := by
  obtain ⟨hI, ht, hn, hp, hc, hm, hl⟩ := id hz
  have n0 := hI.1 0 (by decide)
  have n1 := hI.1 1 (by decide)
  have n2 := hI.1 2 (by decide)
  have n3 := hI.1 3 (by decide)
  have n4 := hI.1 4 (by decide)
  have e0 : (zr_N 0 : Int) = 40 := rfl
  have e1 : (zr_N 1 : Int) = 40 := rfl
  have e2 : (zr_N 2 : Int) = 80 := rfl
  have e3 : (zr_N 3 : Int) = 4102 := rfl
  have e4 : (zr_N 4 : Int) = 4000 := rfl
  have h10 := hI.2.2.2.1
  have hJ := zz_J hz
  have t0 := ht.1
  have t1 := ht.2.1
  have p5 := hp.1
  have p6 := hp.2.1
  have c7 := hc.1
  have m8 := hm.1
  refine (kC_empty G sw σ α _ hI).mono (fun v h' q => ?_)
  obtain ⟨rfl, rfl⟩ := q
  refine zd_go (kM_empty G sw _ _ τ β t hJ) (fun v2 h2 q2 => ?_)
  obtain ⟨rfl, rfl⟩ := q2
  have hsr := mt_sum_rg (α 0) (σ 0).toNat
  refine ⟨_, _, rfl, by rw [p5], zc_I_none hI (fun q hq h4 => ?_) rfl rfl ⟨show 0 ≤ mt_sum (α 0) (σ 0).toNat by omega, show mt_sum (α 0) (σ 0).toNat ≤ 65535 by omega⟩ (fun q hq => rfl) hI.2.2.2.2.2.2.2.2.1 hI.2.2.2.2.2.2.2.2.2, ht, hn, ⟨rfl, zt_s0 ht, fun k hk => absurd hk (Nat.not_lt_zero k)⟩, hc, hm, hl⟩
  rw [zk_up_ne (by omega), zk_up_ne h4, zk_up_ne (by omega)]

set_option maxRecDepth 100000 in
set_option maxHeartbeats 4000000 in
theorem zd_made (G : zk_G) (sw : Bool) (σ : Nat → Int) (α : Nat → Nat → Int) (τ : Nat → Int) (β : Nat → Nat → Int) (t : zk_H) (hz : zz σ α τ β) {x : Int} (hx : zk_rg x) : zk_K G mC_made (2, 42) 0 0 (.inr (some 1) :: [.inl x]) (zk_mk G sw σ α (zk_md τ β t)) (zd_R G mM_made (1, 22) [.inl x] τ β t) := by
  obtain ⟨hI, ht, hn, hp, hc, hm, hl⟩ := id hz
  have n0 := hI.1 0 (by decide)
  have n1 := hI.1 1 (by decide)
  have n2 := hI.1 2 (by decide)
  have n3 := hI.1 3 (by decide)
  have n4 := hI.1 4 (by decide)
  have e0 : (zr_N 0 : Int) = 40 := rfl
  have e1 : (zr_N 1 : Int) = 40 := rfl
  have e2 : (zr_N 2 : Int) = 80 := rfl
  have e3 : (zr_N 3 : Int) = 4102 := rfl
  have e4 : (zr_N 4 : Int) = 4000 := rfl
  have h10 := hI.2.2.2.1
  have hJ := zz_J hz
  have t0 := ht.1
  have t1 := ht.2.1
  have p5 := hp.1
  have p6 := hp.2.1
  have c7 := hc.1
  have m8 := hm.1
  refine (kC_made G sw σ α _ hI hx).mono (fun v h' q => ?_)
  obtain ⟨rfl, ⟨g, rfl⟩ | ⟨g, rfl⟩⟩ := q
  · refine zd_same hz (kM_made G sw σ α τ β t hJ hx) (fun v2 h2 q2 => ?_)
    obtain ⟨rfl, ⟨g1, rfl⟩ | ⟨g1, -⟩⟩ := q2
    · exact ⟨rfl, by rw [hm.2 x.toNat (by omega)]⟩
    · omega
  · refine zd_same hz (kM_made G sw σ α τ β t hJ hx) (fun v2 h2 q2 => ?_)
    obtain ⟨rfl, ⟨g1, -⟩ | ⟨g1, rfl⟩⟩ := q2
    · omega
    · exact ⟨rfl, rfl⟩

set_option maxRecDepth 100000 in
set_option maxHeartbeats 4000000 in
theorem zd_code (G : zk_G) (sw : Bool) (σ : Nat → Int) (α : Nat → Nat → Int) (τ : Nat → Int) (β : Nat → Nat → Int) (t : zk_H) (hz : zz σ α τ β) {x : Int} (hx : zk_rg x) : zk_K G mC_code (2, 42) 0 0 (.inr (some 1) :: [.inl x]) (zk_mk G sw σ α (zk_md τ β t)) (zd_R G mM_code (1, 22) [.inl x] τ β t) := by
  obtain ⟨hI, ht, hn, hp, hc, hm, hl⟩ := id hz
  have n0 := hI.1 0 (by decide)
  have n1 := hI.1 1 (by decide)
  have n2 := hI.1 2 (by decide)
  have n3 := hI.1 3 (by decide)
  have n4 := hI.1 4 (by decide)
  have e0 : (zr_N 0 : Int) = 40 := rfl
  have e1 : (zr_N 1 : Int) = 40 := rfl
  have e2 : (zr_N 2 : Int) = 80 := rfl
  have e3 : (zr_N 3 : Int) = 4102 := rfl
  have e4 : (zr_N 4 : Int) = 4000 := rfl
  have h10 := hI.2.2.2.1
  have hJ := zz_J hz
  have t0 := ht.1
  have t1 := ht.2.1
  have p5 := hp.1
  have p6 := hp.2.1
  have c7 := hc.1
  have m8 := hm.1
  refine (kC_code G sw σ α _ hI hx).mono (fun v h' q => ?_)
  obtain ⟨rfl, ⟨g, rfl⟩ | ⟨g, rfl⟩⟩ := q
  · refine zd_same hz (kM_code G sw σ α τ β t hJ hx) (fun v2 h2 q2 => ?_)
    obtain ⟨rfl, ⟨g1, rfl⟩ | ⟨g1, -⟩⟩ := q2
    · exact ⟨rfl, by rw [hc.2 x.toNat (by omega)]⟩
    · omega
  · refine zd_same hz (kM_code G sw σ α τ β t hJ hx) (fun v2 h2 q2 => ?_)
    obtain ⟨rfl, ⟨g1, -⟩ | ⟨g1, rfl⟩⟩ := q2
    · omega
    · exact ⟨rfl, rfl⟩

set_option maxRecDepth 100000 in
set_option maxHeartbeats 4000000 in
theorem zd_poke (G : zk_G) (sw : Bool) (σ : Nat → Int) (α : Nat → Nat → Int) (τ : Nat → Int) (β : Nat → Nat → Int) (t : zk_H) (hz : zz σ α τ β) {x y : Int} (hx : zk_rg x) (hy : zk_rg y) : zk_K G mC_poke (2, 43) 0 0 (.inr (some 1) :: [.inl x, .inl y]) (zk_mk G sw σ α (zk_md τ β t)) (zd_R G mM_poke (1, 22) [.inl x, .inl y] τ β t) := by
  obtain ⟨hI, ht, hn, hp, hc, hm, hl⟩ := id hz
  have n0 := hI.1 0 (by decide)
  have n1 := hI.1 1 (by decide)
  have n2 := hI.1 2 (by decide)
  have n3 := hI.1 3 (by decide)
  have n4 := hI.1 4 (by decide)
  have e0 : (zr_N 0 : Int) = 40 := rfl
  have e1 : (zr_N 1 : Int) = 40 := rfl
  have e2 : (zr_N 2 : Int) = 80 := rfl
  have e3 : (zr_N 3 : Int) = 4102 := rfl
  have e4 : (zr_N 4 : Int) = 4000 := rfl
  have h10 := hI.2.2.2.1
  have hJ := zz_J hz
  have t0 := ht.1
  have t1 := ht.2.1
  have p5 := hp.1
  have p6 := hp.2.1
  have c7 := hc.1
  have m8 := hm.1
  refine (kC_poke G sw σ α _ hI hx hy).mono (fun v h' q => ?_)
  rcases q with ⟨g, rfl, rfl⟩ | ⟨g, rfl, rfl⟩
  · refine zd_same hz (kM_poke G sw σ α τ β t hJ hx hy) (fun v2 h2 q2 => ?_)
    rcases q2 with ⟨g1, rfl, rfl⟩ | ⟨g1, -⟩
    · exact ⟨rfl, rfl⟩
    · omega
  · refine zd_go (kM_poke G sw _ _ τ β t hJ hx hy) (fun v2 h2 q2 => ?_)
    rcases q2 with ⟨g1, -⟩ | ⟨g1, rfl, rfl⟩
    · omega
    · have hI3 := zc_I_3 (F := zk_up (α 3) x.toNat y) (n := σ 3) hI (by omega) (zk_up_by (hI.2.1 3 (by decide)) g.2)
      rw [zk_up_self] at hI3
      refine ⟨_, _, rfl, by rw [hc.2 x.toNat (by omega)], hI3, ht, hn, hp, ⟨c7, fun z hz2 => ?_⟩, hm, hl⟩
      show zk_up (β 6) x.toNat y z = zk_up (α 3) x.toNat y z
      by_cases e : z = x.toNat
      · rw [e, zk_up_at, zk_up_at]
      · rw [zk_up_ne e, zk_up_ne e]
        exact hc.2 z hz2

set_option maxRecDepth 100000 in
set_option maxHeartbeats 4000000 in
theorem zd_shorten (G : zk_G) (sw : Bool) (σ : Nat → Int) (α : Nat → Nat → Int) (τ : Nat → Int) (β : Nat → Nat → Int) (t : zk_H) (hz : zz σ α τ β) {x : Int} (hx : zk_rg x) : zk_K G mC_shorten (2, 39) 0 0 (.inr (some 1) :: [.inl x]) (zk_mk G sw σ α (zk_md τ β t)) (zd_R G mM_shorten (1, 22) [.inl x] τ β t) := by
  obtain ⟨hI, ht, hn, hp, hc, hm, hl⟩ := id hz
  have n0 := hI.1 0 (by decide)
  have n1 := hI.1 1 (by decide)
  have n2 := hI.1 2 (by decide)
  have n3 := hI.1 3 (by decide)
  have n4 := hI.1 4 (by decide)
  have e0 : (zr_N 0 : Int) = 40 := rfl
  have e1 : (zr_N 1 : Int) = 40 := rfl
  have e2 : (zr_N 2 : Int) = 80 := rfl
  have e3 : (zr_N 3 : Int) = 4102 := rfl
  have e4 : (zr_N 4 : Int) = 4000 := rfl
  have h10 := hI.2.2.2.1
  have hJ := zz_J hz
  have t0 := ht.1
  have t1 := ht.2.1
  have p5 := hp.1
  have p6 := hp.2.1
  have c7 := hc.1
  have m8 := hm.1
  refine (kC_shorten G sw σ α _ hI hx).mono (fun v h' q => ?_)
  rcases q with ⟨g, rfl, rfl⟩ | ⟨g, rfl, rfl⟩
  · refine zd_same hz (kM_shorten G sw σ α τ β t hJ hx) (fun v2 h2 q2 => ?_)
    rcases q2 with ⟨g1, rfl, rfl⟩ | ⟨g1, -⟩
    · exact ⟨rfl, rfl⟩
    · omega
  · refine zd_go (kM_shorten G sw _ _ τ β t hJ hx) (fun v2 h2 q2 => ?_)
    rcases q2 with ⟨g1, -⟩ | ⟨g1, rfl, rfl⟩
    · omega
    · have hI3 := zc_I_3 (F := α 3) (n := σ 3 - x) hI (by omega) (hI.2.1 3 (by decide))
      rw [zk_ua_self] at hI3
      refine ⟨_, _, rfl, by rw [c7], hI3, ht, hn, hp, ⟨show τ 7 - x = σ 3 - x by omega, fun z hz2 => hc.2 z (by have hz2 : (z : Int) < σ 3 - x := hz2; omega)⟩, hm, hl⟩

set_option maxRecDepth 100000 in
set_option maxHeartbeats 4000000 in
theorem zd_isNew (G : zk_G) (sw : Bool) (σ : Nat → Int) (α : Nat → Nat → Int) (τ : Nat → Int) (β : Nat → Nat → Int) (t : zk_H) (hz : zz σ α τ β) : zk_K G mC_isNew (3, 67) 0 0 (.inr (some 1) :: []) (zk_mk G sw σ α (zk_md τ β t)) (zd_R G mM_isNew (1, 22) [] τ β t) := by
  obtain ⟨hI, ht, hn, hp, hc, hm, hl⟩ := id hz
  have n0 := hI.1 0 (by decide)
  have n1 := hI.1 1 (by decide)
  have n2 := hI.1 2 (by decide)
  have n3 := hI.1 3 (by decide)
  have n4 := hI.1 4 (by decide)
  have e0 : (zr_N 0 : Int) = 40 := rfl
  have e1 : (zr_N 1 : Int) = 40 := rfl
  have e2 : (zr_N 2 : Int) = 80 := rfl
  have e3 : (zr_N 3 : Int) = 4102 := rfl
  have e4 : (zr_N 4 : Int) = 4000 := rfl
  have h10 := hI.2.2.2.1
  have hJ := zz_J hz
  have t0 := ht.1
  have t1 := ht.2.1
  have p5 := hp.1
  have p6 := hp.2.1
  have c7 := hc.1
  have m8 := hm.1
  refine (kC_isNew G sw σ α _ hI).mono (fun v h' q => ?_)
  obtain ⟨a1, a2, a3, a4, a5⟩ := id ht
  have key : ∀ (v2 : Option zk_V) (h2 : zk_H), (h2 = zk_mk G sw σ α (zk_md τ β t) ∧ ((τ 8 ≠ β 1 1 ∧ v2 = some (.inl 0)) ∨ (τ 8 = β 1 1 ∧ ∃ r, mt_is β (τ 8).toNat r ∧ v2 = some (.inl r)))) → h2 = zk_mk G sw σ α (zk_md τ β t) ∧ (((σ 2 = σ 1 ∧ ∀ j, j < (σ 2).toNat → α 2 j = α 1 j) ∧ v2 = some (.inl 1)) ∨ ((¬ (σ 2 = σ 1 ∧ ∀ j, j < (σ 2).toNat → α 2 j = α 1 j)) ∧ v2 = some (.inl 0))) := by
    intro v2 h2 q2
    obtain ⟨rfl, ⟨g1, rfl⟩ | ⟨g1, r, hr, rfl⟩⟩ := q2
    · exact ⟨rfl, Or.inr ⟨fun hh => g1 (by omega), rfl⟩⟩
    · refine ⟨rfl, ?_⟩
      have eq : (∀ j, j < (τ 8).toNat → β 7 j = zm_T β 1 j) ↔ (∀ j, j < (σ 2).toNat → α 2 j = α 1 j) := by
        constructor
        · intro hh j hj
          rw [← hm.2 j (by omega), ← a4 j (by omega)]
          exact hh j (by omega)
        · intro hh j hj
          rw [hm.2 j (by omega), a4 j (by omega)]
          exact hh j (by omega)
      rcases hr with ⟨r1, rfl⟩ | ⟨r1, rfl⟩
      · exact Or.inl ⟨⟨by omega, eq.mp r1⟩, rfl⟩
      · exact Or.inr ⟨fun hh => r1 (eq.mpr hh.2), rfl⟩
  obtain ⟨rfl, ⟨g, rfl⟩ | ⟨g, rfl⟩⟩ := q
  · refine zd_same hz (kM_isNew G sw σ α τ β t hJ) (fun v2 h2 q2 => ?_)
    obtain ⟨rfl, ⟨g1, rfl⟩ | ⟨g1, -⟩⟩ := key v2 h2 q2
    · exact ⟨rfl, rfl⟩
    · exact absurd g g1
  · refine zd_same hz (kM_isNew G sw σ α τ β t hJ) (fun v2 h2 q2 => ?_)
    obtain ⟨rfl, ⟨g1, -⟩ | ⟨g1, rfl⟩⟩ := key v2 h2 q2
    · exact absurd g1 g
    · exact ⟨rfl, rfl⟩

set_option maxRecDepth 100000 in
set_option maxHeartbeats 4000000 in
theorem zd_at (G : zk_G) (sw : Bool) (σ : Nat → Int) (α : Nat → Nat → Int) (τ : Nat → Int) (β : Nat → Nat → Int) (t : zk_H) (hz : zz σ α τ β) {x y : Int} (hx : zk_rg x) (hy : zk_rg y) : zk_K G mC_at (2, 42) 0 0 (.inr (some 1) :: [.inl x, .inl y]) (zk_mk G sw σ α (zk_md τ β t)) (zd_R G mM_at (1, 22) [.inl x, .inl y] τ β t) := by
  obtain ⟨hI, ht, hn, hp, hc, hm, hl⟩ := id hz
  have n0 := hI.1 0 (by decide)
  have n1 := hI.1 1 (by decide)
  have n2 := hI.1 2 (by decide)
  have n3 := hI.1 3 (by decide)
  have n4 := hI.1 4 (by decide)
  have e0 : (zr_N 0 : Int) = 40 := rfl
  have e1 : (zr_N 1 : Int) = 40 := rfl
  have e2 : (zr_N 2 : Int) = 80 := rfl
  have e3 : (zr_N 3 : Int) = 4102 := rfl
  have e4 : (zr_N 4 : Int) = 4000 := rfl
  have h10 := hI.2.2.2.1
  have hJ := zz_J hz
  have t0 := ht.1
  have t1 := ht.2.1
  have p5 := hp.1
  have p6 := hp.2.1
  have c7 := hc.1
  have m8 := hm.1
  refine (kC_at G sw σ α _ hI hx hy).mono (fun v h' q => ?_)
  obtain ⟨a1, a2, a3, a4, a5⟩ := id ht
  rcases q with ⟨g, rfl, rfl⟩ | ⟨q, hq, hxq, hyq, rfl, rfl⟩ | ⟨q, hq, hxq, hyq, rfl, rfl⟩
  · refine zd_same hz (kM_at G sw σ α τ β t hJ hx hy) (fun v2 h2 q2 => ?_)
    obtain ⟨rfl, ⟨g1, rfl⟩ | ⟨g1, -⟩⟩ := q2
    · exact ⟨rfl, rfl⟩
    · omega
  · refine zd_same hz (kM_at G sw σ α τ β t hJ hx hy) (fun v2 h2 q2 => ?_)
    obtain ⟨rfl, ⟨g1, rfl⟩ | ⟨g1, -⟩⟩ := q2
    · exact ⟨rfl, rfl⟩
    · exfalso
      rcases (show q = 0 ∨ q = 1 by omega) with rfl | rfl
      · have hx0 : x = 0 := hxq
        subst hx0
        have hb : β 1 (0 : Int).toNat = σ 0 := t0
        omega
      · have hx0 : x = 1 := hxq
        subst hx0
        have hb : β 1 (1 : Int).toNat = σ 1 := t1
        omega
  · refine zd_same hz (kM_at G sw σ α τ β t hJ hx hy) (fun v2 h2 q2 => ?_)
    rcases (show q = 0 ∨ q = 1 by omega) with rfl | rfl
    · have hx0 : x = 0 := hxq
      subst hx0
      have hb : β 1 (0 : Int).toNat = σ 0 := t0
      obtain ⟨rfl, ⟨g1, -⟩ | ⟨g1, rfl⟩⟩ := q2
      · omega
      · have e : β 0 (40 * 0 + y).toNat = α 0 y.toNat := by
          rw [← a3 y.toNat (by omega)]
          show _ = β 0 (40 * 0 + y.toNat)
          congr 1
          omega
        exact ⟨rfl, by rw [e]⟩
    · have hx0 : x = 1 := hxq
      subst hx0
      have hb : β 1 (1 : Int).toNat = σ 1 := t1
      obtain ⟨rfl, ⟨g1, -⟩ | ⟨g1, rfl⟩⟩ := q2
      · omega
      · have e : β 0 (40 * 1 + y).toNat = α 1 y.toNat := by
          rw [← a4 y.toNat (by omega)]
          show _ = β 0 (40 * 1 + y.toNat)
          congr 1
          omega
        exact ⟨rfl, by rw [e]⟩
