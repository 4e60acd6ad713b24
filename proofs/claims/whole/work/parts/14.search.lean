theorem zk_ua_ua (α : Nat → Nat → Int) (k : Nat) (f g : Nat → Int) : zk_ua (zk_ua α k f) k g = zk_ua α k g := by
  funext j
  unfold zk_ua
  split <;> rfl
theorem zk_up_up (α : Nat → Int) (k : Nat) (f g : Int) : zk_up (zk_up α k f) k g = zk_up α k g := by
  funext j
  unfold zk_up
  split <;> rfl
theorem zk_ua_self (α : Nat → Nat → Int) (k : Nat) : zk_ua α k (α k) = α := by
  funext j
  unfold zk_ua
  split
  next h => rw [h]
  next => rfl
theorem zk_up_self (f : Nat → Int) (k : Nat) : zk_up f k (f k) = f := by
  funext j
  unfold zk_up
  split
  next h => rw [h]
  next => rfl
def mt_bp (O N f b : Nat → Int) (i p : Nat) : Nat → Int := fun j => if j < p then mt_nb O N f b i j else b j
theorem mt_bp_0 (O N f b : Nat → Int) (i : Nat) : mt_bp O N f b i 0 = b := by
  funext j
  unfold mt_bp
  rw [if_neg (Nat.not_lt_zero j)]
theorem mt_bp_up (O N f b : Nat → Int) (i p : Nat) : zk_up (mt_bp O N f b i p) p (mt_nb O N f b i p) = mt_bp O N f b i (p + 1) := by
  funext j
  unfold zk_up mt_bp
  by_cases h : j = p
  · subst h
    rw [if_pos rfl, if_pos (by omega)]
  · rw [if_neg h]
    by_cases h2 : j < p
    · rw [if_pos h2, if_pos (by omega)]
    · rw [if_neg h2, if_neg (by omega)]
def mt_es (c f e : Nat → Int) (i s : Nat) : Nat → Int := fun j => if j < s then mt_ne c f e i j else e j
theorem mt_es_0 (c f e : Nat → Int) (i : Nat) : mt_es c f e i 0 = e := by
  funext j
  unfold mt_es
  rw [if_neg (Nat.not_lt_zero j)]
theorem mt_es_up (c f e : Nat → Int) (i s : Nat) : zk_up (mt_es c f e i s) s (mt_ne c f e i s) = mt_es c f e i (s + 1) := by
  funext j
  unfold zk_up mt_es
  by_cases h : j = s
  · subst h
    rw [if_pos rfl, if_pos (by omega)]
  · rw [if_neg h]
    by_cases h2 : j < s
    · rw [if_pos h2, if_pos (by omega)]
    · rw [if_neg h2, if_neg (by omega)]
def mt_fs (g : Nat → Int) (f : Nat → Int) (i s : Nat) : Nat → Int := fun j => if 41 * i ≤ j ∧ j < 41 * i + s then g (j - 41 * i) else f j
theorem mt_fs_0 (g f : Nat → Int) (i : Nat) : mt_fs g f i 0 = f := by
  funext j
  unfold mt_fs
  rw [if_neg (by omega)]
theorem mt_fs_up (g f : Nat → Int) (i s : Nat) : zk_up (mt_fs g f i s) (41 * i + s) (g s) = mt_fs g f i (s + 1) := by
  funext j
  unfold zk_up mt_fs
  by_cases h : j = 41 * i + s
  · subst h
    rw [if_pos rfl, if_pos (by omega), show 41 * i + s - 41 * i = s by omega]
  · rw [if_neg h]
    by_cases h2 : 41 * i ≤ j ∧ j < 41 * i + s
    · rw [if_pos h2, if_pos (by omega)]
    · rw [if_neg h2, if_neg (by omega)]
theorem mt_fs_tb {g f : Nat → Int} {i s i' s' : Nat} (h : i < i') (hs : s ≤ 41) : mt_tb (mt_fs g f i s) i' s' = mt_tb f i' s' := by
  unfold mt_tb mt_fs
  rw [if_neg (by omega)]
theorem mt_fs_tbi {g f : Nat → Int} {i s s' : Nat} (h : s' < s) : mt_tb (mt_fs g f i s) i s' = g s' := by
  unfold mt_tb mt_fs
  rw [if_pos (by omega), show 41 * i + s' - 41 * i = s' by omega]
theorem mt_ls_congr {f f' : Nat → Int} {i s : Nat} : ∀ {m : Nat}, (∀ n, 1 ≤ n → n ≤ m → mt_tb f (i + n) s = mt_tb f' (i + n) s) → mt_ls f i s m = mt_ls f' i s m
  | 0, _ => rfl
  | m + 1, h => by
    show min (mt_ls f i s m) (mt_tb f (i + m + 1) s) = min (mt_ls f' i s m) (mt_tb f' (i + m + 1) s)
    rw [mt_ls_congr (fun n h1 h2 => h n h1 (by omega)), show i + m + 1 = i + (m + 1) by omega, h (m + 1) (by omega) (by omega)]

set_option maxRecDepth 100000 in
set_option maxHeartbeats 4000000 in
theorem kS_leastFrom (G : zk_G) (sw : Bool) (σ : Nat → Int) (α : Nat → Nat → Int) (t : zk_H) {i s : Int} (hi : 0 ≤ i ∧ i ≤ 40) (hs : 0 ≤ s ∧ s ≤ 40) : zk_K G mS_leastFrom (0, 0) 0 0 [.inr (some 18), .inl i, .inl s] (zk_mk G sw σ α t) (fun v h' => h' = (zk_mk G sw σ α t) ∧ v = some (.inl (α 9 (i * 41 + s).toNat))) := by
  refine zk_K.of (ls := [some (.inr (some 18)), some (.inl i), some (.inl s), none]) (by decide +kernel) (Nat.le_of_ble_eq_true rfl) rfl ?_
  refine zk_iload_n dS_leastFrom_0 rfl ?_
  refine zk_if_lt (tgt := 24) dS_leastFrom_1 (by decide) ⟨by omega, by omega⟩ (fun h1 => ?_) (fun h1 => ?_)
  · skip
    exfalso; omega
  · skip
    refine zk_iload_n dS_leastFrom_4 rfl ?_
    refine zk_bipush dS_leastFrom_5 (by decide) ?_
    refine zk_icmp_ge (tgt := 24) dS_leastFrom_7 (by decide) ⟨by omega, by omega⟩ ⟨by decide, by decide⟩ (fun h7 => ?_) (fun h7 => ?_)
    · skip
      exfalso; omega
    · skip
      refine zk_iload_n dS_leastFrom_10 rfl ?_
      refine zk_if_lt (tgt := 24) dS_leastFrom_11 (by decide) ⟨by omega, by omega⟩ (fun h11 => ?_) (fun h11 => ?_)
      · skip
        exfalso; omega
      · skip
        refine zk_iload_n dS_leastFrom_14 rfl ?_
        refine zk_bipush dS_leastFrom_15 (by decide) ?_
        refine zk_icmp_ge (tgt := 24) dS_leastFrom_17 (by decide) ⟨by omega, by omega⟩ ⟨by decide, by decide⟩ (fun h17 => ?_) (fun h17 => ?_)
        · skip
          exfalso; omega
        · skip
          refine zk_iconst dS_leastFrom_20 ?_
          refine zk_goto (tgt := 25) dS_leastFrom_21 (by decide) ?_
          refine zk_istore_n (ls' := [some (.inr (some 18)), some (.inl i), some (.inl s), some (.inl 1)]) dS_leastFrom_25 (by decide) rfl ?_
          refine zk_iload_n dS_leastFrom_26 rfl ?_
          refine zk_if_eq (tgt := 44) dS_leastFrom_27 (by decide) ⟨by decide, by decide⟩ (fun h27 => ?_) (fun h27 => ?_)
          · skip
            exact absurd h27 (by decide)
          · skip
            refine zk_aload_n dS_leastFrom_30 rfl ?_
            refine zk_get zfS_11 dS_leastFrom_31 (v := .inr (some 19)) rfl (by decide) rfl ?_
            refine zk_iload_n dS_leastFrom_34 rfl ?_
            refine zk_bipush dS_leastFrom_35 (by decide) ?_
            refine zk_imul dS_leastFrom_37 ?_
            refine zk_iload_n dS_leastFrom_38 rfl ?_
            refine zk_iadd dS_leastFrom_39 ?_
            refine zk_iald dS_leastFrom_40 (n := 1681) (f := α 9) rfl (by omega) (by omega) (by omega) ?_
            refine zk_goto (tgt := 46) dS_leastFrom_41 (by decide) ?_
            exact zk_iret dS_leastFrom_46 rfl ⟨rfl, rfl⟩

set_option maxRecDepth 100000 in
set_option maxHeartbeats 4000000 in
theorem wS_longestAgain (G : zk_G) (sw : Bool) (σ : Nat → Int) (α : Nat → Nat → Int) (t : zk_H) (hn0 : 0 ≤ σ 0 ∧ σ 0 ≤ (zr_N 0 : Int)) (hn1 : 0 ≤ σ 1 ∧ σ 1 ≤ (zr_N 1 : Int)) (hv0 : ∀ j, 0 ≤ α 0 j ∧ α 0 j ≤ 255) (hv1 : ∀ j, 0 ≤ α 1 j ∧ α 1 j ≤ 255) {i : Nat} (hi : (i : Int) < σ 1) : ∀ (k : Nat) (p : Nat), (p ≤ i) → (i < p + k) → zk_W G mS_longestAgain (2, 46) 0 0 4 [some (.inr (some 18)), some (.inl (i : Int)), some (.inl ((mt_la (α 1) (σ 1).toNat i p : Int))), some (.inl (p : Int))] [] (zk_mk G sw σ α t) (fun v h' => h' = (zk_mk G sw σ α t) ∧ v = some (.inl (mt_la (α 1) (σ 1).toNat i i : Int))) := by
  intro k
  induction k with
  | zero =>
    intro p g1 g2
    exfalso
    omega
  | succ k ih =>
    intro p g1 g2
    have eN0 : (zr_N 0 : Int) = 40 := rfl
    have eN1 : (zr_N 1 : Int) = 40 := rfl
    have hl1 := mt_la_le (N := α 1) (nN := (σ 1).toNat) (i := i) (q := p)
    have hl2 := mt_len_le (α 1) (α 1) ((σ 1).toNat - i) p i
    refine zk_iload_n dS_longestAgain_4 rfl ?_
    refine zk_iload_n dS_longestAgain_5 rfl ?_
    refine zk_icmp_ge (tgt := 33) dS_longestAgain_6 (by decide) ⟨by omega, by omega⟩ ⟨by omega, by omega⟩ (fun h6 => ?_) (fun h6 => ?_)
    · skip
      refine zk_iload_n dS_longestAgain_33 rfl ?_
      have ep : p = i := by omega
      subst ep
      exact zk_iret dS_longestAgain_34 rfl ⟨rfl, rfl⟩
    · skip
      refine zk_iload_n dS_longestAgain_9 rfl ?_
      refine zk_aload_n dS_longestAgain_10 rfl ?_
      refine zk_get zfS_25 dS_longestAgain_11 (v := .inr (some 4)) rfl (by decide) rfl ?_
      refine zk_iload_n dS_longestAgain_14 rfl ?_
      refine zk_aload_n dS_longestAgain_15 rfl ?_
      refine zk_get zfS_25 dS_longestAgain_16 (v := .inr (some 4)) rfl (by decide) rfl ?_
      refine zk_iload_n dS_longestAgain_19 rfl ?_
      refine zk_callV (av := [.inl (p : Int), .inr (some 4), .inl (i : Int)]) (st := [.inl ((mt_la (α 1) (σ 1).toNat i p : Int))]) (d' := (1, 21)) (kc' := 0) (ks' := 0) zbS_88 dS_longestAgain_20 rfl (by decide) rfl rfl (Nat.le_of_ble_eq_true rfl) ⟨by decide, by decide⟩ rfl rfl (kR_countSame G sw σ α t (q := 1) (by decide) (r := 1) (by decide) hn1 hn1 hv1 hv1 (i := (p : Int)) (j := (i : Int)) ⟨by omega, by omega⟩ ⟨by omega, by omega⟩) (fun v9 h9 q9 => ?_)
      obtain ⟨rfl, rfl⟩ := q9
      refine zk_W.to (ls' := [some (.inr (some 18)), some (.inl (i : Int)), some (.inl ((mt_la (α 1) (σ 1).toNat i p : Int))), some (.inl (p : Int))]) (st' := [.inl (if (0 ≤ (p : Int) ∧ (p : Int) < σ 1) ∧ (0 ≤ (i : Int) ∧ (i : Int) < σ 1) then (mt_len (α 1) (α 1) p i (min (σ 1 - (p : Int)) (σ 1 - (i : Int))).toNat : Int) else 0), .inl ((mt_la (α 1) (σ 1).toNat i p : Int))]) (h' := (zk_mk G sw σ α t)) rfl rfl rfl ?_
      have ecs20 : (min (σ 1 - (p : Int)) (σ 1 - (i : Int))).toNat = (σ 1).toNat - i := by omega
      rw [if_pos (⟨⟨by omega, by omega⟩, ⟨by omega, by omega⟩⟩ : (0 ≤ (p : Int) ∧ (p : Int) < σ 1) ∧ (0 ≤ (i : Int) ∧ (i : Int) < σ 1)), ecs20]
      refine zk_mmax dS_longestAgain_23 zlS_92 zw_maxs zw_mi zw_maxc ⟨by decide, Nat.le_of_ble_eq_true rfl⟩ ⟨by omega, by omega⟩ ⟨by omega, by omega⟩ ?_
      refine zk_istore_n (ls' := [some (.inr (some 18)), some (.inl (i : Int)), some (.inl (max ((mt_la (α 1) (σ 1).toNat i p : Int)) ((mt_len (α 1) (α 1) p i ((σ 1).toNat - i) : Int)))), some (.inl (p : Int))]) dS_longestAgain_26 (by decide) rfl ?_
      refine zk_iinc (ls' := [some (.inr (some 18)), some (.inl (i : Int)), some (.inl (max ((mt_la (α 1) (σ 1).toNat i p : Int)) ((mt_len (α 1) (α 1) p i ((σ 1).toNat - i) : Int)))), some (.inl ((p : Int) + 1))]) dS_longestAgain_27 rfl (by decide) rfl ?_
      refine zk_goto (tgt := 4) dS_longestAgain_30 (by decide) ?_
      have e1 : max ((mt_la (α 1) (σ 1).toNat i p : Int)) ((mt_len (α 1) (α 1) p i ((σ 1).toNat - i) : Int)) = (mt_la (α 1) (σ 1).toNat i (p + 1) : Int) := by
        show _ = ((max (mt_la (α 1) (σ 1).toNat i p) (mt_len (α 1) (α 1) p i ((σ 1).toNat - i)) : Nat) : Int)
        omega
      have e2 : (p : Int) + 1 = ((p + 1 : Nat) : Int) := by omega
      rw [e1, e2]
      exact ih (p + 1) (by omega) (by omega)

set_option maxRecDepth 100000 in
set_option maxHeartbeats 4000000 in
theorem kS_longestAgain (G : zk_G) (sw : Bool) (σ : Nat → Int) (α : Nat → Nat → Int) (t : zk_H) (hn0 : 0 ≤ σ 0 ∧ σ 0 ≤ (zr_N 0 : Int)) (hn1 : 0 ≤ σ 1 ∧ σ 1 ≤ (zr_N 1 : Int)) (hv0 : ∀ j, 0 ≤ α 0 j ∧ α 0 j ≤ 255) (hv1 : ∀ j, 0 ≤ α 1 j ∧ α 1 j ≤ 255) {i : Nat} (hi : (i : Int) < σ 1) : zk_K G mS_longestAgain (2, 46) 0 0 [.inr (some 18), .inl (i : Int)] (zk_mk G sw σ α t) (fun v h' => h' = (zk_mk G sw σ α t) ∧ v = some (.inl (mt_la (α 1) (σ 1).toNat i i : Int))) := by
  refine zk_K.of (ls := [some (.inr (some 18)), some (.inl (i : Int)), none, none]) (by decide +kernel) (Nat.le_of_ble_eq_true rfl) rfl ?_
  refine zk_iconst dS_longestAgain_0 ?_
  refine zk_istore_n (ls' := [some (.inr (some 18)), some (.inl (i : Int)), some (.inl 0), none]) dS_longestAgain_1 (by decide) rfl ?_
  refine zk_iconst dS_longestAgain_2 ?_
  refine zk_istore_n (ls' := [some (.inr (some 18)), some (.inl (i : Int)), some (.inl 0), some (.inl 0)]) dS_longestAgain_3 (by decide) rfl ?_
  exact wS_longestAgain G sw σ α t hn0 hn1 hv0 hv1 hi (i + 1) 0 (Nat.zero_le i) (by omega)

set_option maxRecDepth 100000 in
set_option maxHeartbeats 4000000 in
theorem wS_leastBehindSelf (G : zk_G) (sw : Bool) (σ : Nat → Int) (α : Nat → Nat → Int) (t : zk_H) {i s m : Nat} (hs : s ≤ 40) (hm : i + m ≤ 40) (hL : ∀ n, 1 ≤ n → n ≤ m → 0 ≤ mt_tb (α 9) (i + n) s ∧ mt_tb (α 9) (i + n) s ≤ 4100) : ∀ (k : Nat) (n : Nat), (n ≤ m) → (m < n + k) → zk_W G mS_leastBehindSelf (1, 23) 0 0 7 [some (.inr (some 18)), some (.inl (i : Int)), some (.inl (s : Int)), some (.inl (m : Int)), some (.inl (mt_ls (α 9) i s n)), some (.inl ((n : Int) + 1))] [] (zk_mk G sw σ α t) (fun v h' => h' = (zk_mk G sw σ α t) ∧ v = some (.inl (mt_ls (α 9) i s m))) := by
  intro k
  induction k with
  | zero =>
    intro n g1 g2
    exfalso
    omega
  | succ k ih =>
    intro n g1 g2
    have ei : (((i : Int) + ((n : Int) + 1)) * 41 + (s : Int)).toNat = 41 * (i + n + 1) + s := by omega
    have hr := mt_ls_rg (f := α 9) (i := i) (s := s) (m := n) (B := 4100) (by omega) (fun n' a b => hL n' a (by omega))
    have hq : n + 1 ≤ m → 0 ≤ α 9 (((i : Int) + ((n : Int) + 1)) * 41 + (s : Int)).toNat ∧ α 9 (((i : Int) + ((n : Int) + 1)) * 41 + (s : Int)).toNat ≤ 4100 := fun hx => by rw [ei]; exact hL (n + 1) (by omega) hx
    refine zk_iload dS_leastBehindSelf_7 rfl ?_
    refine zk_iload_n dS_leastBehindSelf_9 rfl ?_
    refine zk_icmp_gt (tgt := 35) dS_leastBehindSelf_10 (by decide) ⟨by omega, by omega⟩ ⟨by omega, by omega⟩ (fun h10 => ?_) (fun h10 => ?_)
    · skip
      refine zk_iload dS_leastBehindSelf_35 rfl ?_
      have en : n = m := by omega
      subst en
      exact zk_iret dS_leastBehindSelf_37 rfl ⟨rfl, rfl⟩
    · skip
      refine zk_iload dS_leastBehindSelf_13 rfl ?_
      refine zk_aload_n dS_leastBehindSelf_15 rfl ?_
      refine zk_iload_n dS_leastBehindSelf_16 rfl ?_
      refine zk_iload dS_leastBehindSelf_17 rfl ?_
      refine zk_iadd dS_leastBehindSelf_19 ?_
      refine zk_iload_n dS_leastBehindSelf_20 rfl ?_
      refine zk_callV (av := [.inl ((i : Int) + ((n : Int) + 1)), .inl (s : Int)]) (st := [.inl (mt_ls (α 9) i s n)]) (d' := (0, 0)) (kc' := 0) (ks' := 0) zbS_66 dS_leastBehindSelf_21 rfl (by decide) rfl rfl (Nat.le_of_ble_eq_true rfl) ⟨by decide, by decide⟩ rfl rfl (kS_leastFrom G sw σ α t ⟨by omega, by omega⟩ ⟨by omega, by omega⟩) (fun v9 h9 q9 => ?_)
      obtain ⟨rfl, rfl⟩ := q9
      refine zk_W.to (ls' := [some (.inr (some 18)), some (.inl (i : Int)), some (.inl (s : Int)), some (.inl (m : Int)), some (.inl (mt_ls (α 9) i s n)), some (.inl ((n : Int) + 1))]) (st' := [.inl (α 9 (((i : Int) + ((n : Int) + 1)) * 41 + (s : Int)).toNat), .inl (mt_ls (α 9) i s n)]) (h' := (zk_mk G sw σ α t)) rfl rfl rfl ?_
      refine zk_mmin dS_leastBehindSelf_24 zlS_43 zw_mins zw_mi zw_minc ⟨by decide, Nat.le_of_ble_eq_true rfl⟩ ⟨by omega, by omega⟩ ⟨by have := hq (by omega); omega, by have := hq (by omega); omega⟩ ?_
      refine zk_istore (ls' := [some (.inr (some 18)), some (.inl (i : Int)), some (.inl (s : Int)), some (.inl (m : Int)), some (.inl (min (mt_ls (α 9) i s n) (α 9 (((i : Int) + ((n : Int) + 1)) * 41 + (s : Int)).toNat))), some (.inl ((n : Int) + 1))]) dS_leastBehindSelf_27 (by decide) rfl ?_
      refine zk_iinc (ls' := [some (.inr (some 18)), some (.inl (i : Int)), some (.inl (s : Int)), some (.inl (m : Int)), some (.inl (min (mt_ls (α 9) i s n) (α 9 (((i : Int) + ((n : Int) + 1)) * 41 + (s : Int)).toNat))), some (.inl ((n : Int) + 1 + 1))]) dS_leastBehindSelf_29 rfl (by decide) rfl ?_
      refine zk_goto (tgt := 7) dS_leastBehindSelf_32 (by decide) ?_
      have e1 : min (mt_ls (α 9) i s n) (α 9 (((i : Int) + ((n : Int) + 1)) * 41 + (s : Int)).toNat) = mt_ls (α 9) i s (n + 1) := by
        rw [ei]
        rfl
      have e2 : (n : Int) + 1 + 1 = ((n + 1 : Nat) : Int) + 1 := by omega
      rw [e1, e2]
      exact ih (n + 1) (by omega) (by omega)

set_option maxRecDepth 100000 in
set_option maxHeartbeats 4000000 in
theorem kS_leastBehindSelf (G : zk_G) (sw : Bool) (σ : Nat → Int) (α : Nat → Nat → Int) (t : zk_H) {i s m : Nat} (hs : s ≤ 40) (hm : i + m ≤ 40) (hL : ∀ n, 1 ≤ n → n ≤ m → 0 ≤ mt_tb (α 9) (i + n) s ∧ mt_tb (α 9) (i + n) s ≤ 4100) : zk_K G mS_leastBehindSelf (1, 23) 0 0 [.inr (some 18), .inl (i : Int), .inl (s : Int), .inl (m : Int)] (zk_mk G sw σ α t) (fun v h' => h' = (zk_mk G sw σ α t) ∧ v = some (.inl (mt_ls (α 9) i s m))) := by
  refine zk_K.of (ls := [some (.inr (some 18)), some (.inl (i : Int)), some (.inl (s : Int)), some (.inl (m : Int)), none, none]) (by decide +kernel) (Nat.le_of_ble_eq_true rfl) rfl ?_
  refine zk_ldc (z := 1000000) dS_leastBehindSelf_0 zcS_36 ?_
  refine zk_istore (ls' := [some (.inr (some 18)), some (.inl (i : Int)), some (.inl (s : Int)), some (.inl (m : Int)), some (.inl 1000000), none]) dS_leastBehindSelf_2 (by decide) rfl ?_
  refine zk_iconst dS_leastBehindSelf_4 ?_
  refine zk_istore (ls' := [some (.inr (some 18)), some (.inl (i : Int)), some (.inl (s : Int)), some (.inl (m : Int)), some (.inl 1000000), some (.inl 1)]) dS_leastBehindSelf_5 (by decide) rfl ?_
  exact wS_leastBehindSelf G sw σ α t hs hm hL (m + 1) 0 (Nat.zero_le m) (by omega)

set_option maxRecDepth 100000 in
set_option maxHeartbeats 4000000 in
theorem wS_lengthenCopies (G : zk_G) (sw : Bool) (σ : Nat → Int) (α : Nat → Nat → Int) (t : zk_H) (hn0 : 0 ≤ σ 0 ∧ σ 0 ≤ (zr_N 0 : Int)) (hn1 : 0 ≤ σ 1 ∧ σ 1 ≤ (zr_N 1 : Int)) (hv0 : ∀ j, 0 ≤ α 0 j ∧ α 0 j ≤ 255) (hv1 : ∀ j, 0 ≤ α 1 j ∧ α 1 j ≤ 255) {i : Nat} (hi : (i : Int) < σ 1) (hL : ∀ s, s ≤ (σ 0).toNat → 0 ≤ mt_tb (α 9) (i + 1) s ∧ mt_tb (α 9) (i + 1) s ≤ 4100) (hb : ∀ p, p ≤ (σ 0).toNat → 0 ≤ α 10 p ∧ α 10 p ≤ 1000000) : ∀ (k : Nat) (p : Nat), (p ≤ (σ 0).toNat) → ((σ 0).toNat < p + k) → zk_W G mS_lengthenCopies (2, 42) 0 0 19 [some (.inr (some 18)), some (.inl (i : Int)), some (.inl (mt_ml (mt_bp (α 0) (α 1) (α 9) (α 10) i (σ 0).toNat) p)), some (.inl (min (σ 0) 40)), some (.inl (p : Int))] [] (zk_mk G sw σ (zk_ua α 10 (mt_bp (α 0) (α 1) (α 9) (α 10) i p)) t) (fun v h' => h' = zk_mk G sw σ (zk_ua α 10 (mt_bp (α 0) (α 1) (α 9) (α 10) i (σ 0).toNat)) t ∧ v = some (.inl (mt_ml (mt_bp (α 0) (α 1) (α 9) (α 10) i (σ 0).toNat) (σ 0).toNat))) := by
  intro k
  induction k with
  | zero =>
    intro p g1 g2
    exfalso
    omega
  | succ k ih =>
    intro p g1 g2
    have eN0 : (zr_N 0 : Int) = 40 := rfl
    have eN1 : (zr_N 1 : Int) = 40 := rfl
    have ei : (((i : Int) + 1) * 41 + ((p : Int) + 1)).toNat = 41 * (i + 1) + (p + 1) := by omega
    have eb : (mt_bp (α 0) (α 1) (α 9) (α 10) i p) ((p : Int) + 1).toNat = α 10 (p + 1) := by
      rw [show ((p : Int) + 1).toNat = p + 1 by omega]
      unfold mt_bp
      rw [if_neg (by omega)]
    have hq1 : p < (σ 0).toNat → 0 ≤ α 9 (((i : Int) + 1) * 41 + ((p : Int) + 1)).toNat ∧ α 9 (((i : Int) + 1) * 41 + ((p : Int) + 1)).toNat ≤ 4100 := fun hx => by rw [ei]; exact hL (p + 1) (by omega)
    have hq2 : p < (σ 0).toNat → 0 ≤ (mt_bp (α 0) (α 1) (α 9) (α 10) i p) ((p : Int) + 1).toNat ∧ (mt_bp (α 0) (α 1) (α 9) (α 10) i p) ((p : Int) + 1).toNat ≤ 1000000 := fun hx => by rw [eb]; exact hb (p + 1) (by omega)
    have hml : zk_rg (mt_ml (mt_bp (α 0) (α 1) (α 9) (α 10) i (σ 0).toNat) p) := by
      rcases mt_ml_ex (g := mt_bp (α 0) (α 1) (α 9) (α 10) i (σ 0).toNat) (m := p) with g | ⟨p', g3, g4⟩
      · rw [g]; exact ⟨by omega, by omega⟩
      · rw [g4]
        show zk_rg (if p' < (σ 0).toNat then mt_nb (α 0) (α 1) (α 9) (α 10) i p' else α 10 p')
        rw [if_pos (by omega)]
        unfold mt_nb
        have a1 := hL (p' + 1) (by omega)
        have a2 := hb (p' + 1) (by omega)
        split
        · exact ⟨by omega, by omega⟩
        · exact ⟨by omega, by omega⟩
    refine zk_iload dS_lengthenCopies_19 rfl ?_
    refine zk_iload_n dS_lengthenCopies_21 rfl ?_
    refine zk_icmp_ge (tgt := 98) dS_lengthenCopies_22 (by decide) ⟨by omega, by omega⟩ ⟨by omega, by omega⟩ (fun h22 => ?_) (fun h22 => ?_)
    · skip
      refine zk_iload_n dS_lengthenCopies_98 rfl ?_
      have en : p = (σ 0).toNat := by omega
      subst en
      exact zk_iret dS_lengthenCopies_99 rfl ⟨rfl, rfl⟩
    · skip
      refine zk_aload_n dS_lengthenCopies_25 rfl ?_
      refine zk_get zfS_15 dS_lengthenCopies_26 (v := .inr (some 20)) rfl (by decide) rfl ?_
      refine zk_iload dS_lengthenCopies_29 rfl ?_
      refine zk_aload_n dS_lengthenCopies_31 rfl ?_
      refine zk_get zfS_21 dS_lengthenCopies_32 (v := .inr (some 2)) rfl (by decide) rfl ?_
      refine zk_iload dS_lengthenCopies_35 rfl ?_
      refine zk_callV (av := [.inl (p : Int)]) (st := [.inl (p : Int), .inr (some 20)]) (d' := (1, 21)) (kc' := 0) (ks' := 0) zbS_85 dS_lengthenCopies_37 rfl (by decide) rfl rfl (Nat.le_of_ble_eq_true rfl) ⟨by decide, by decide⟩ rfl rfl (kR_get G sw σ (zk_ua α 10 (mt_bp (α 0) (α 1) (α 9) (α 10) i p)) t (q := 0) (by decide) hn0 ⟨by omega, by omega⟩) (fun v9 h9 q9 => ?_)
      rcases q9 with ⟨rfl, ⟨hc37, rfl⟩ | ⟨hc37, rfl⟩⟩
      · skip
        refine zk_W.to (ls' := [some (.inr (some 18)), some (.inl (i : Int)), some (.inl (mt_ml (mt_bp (α 0) (α 1) (α 9) (α 10) i (σ 0).toNat) p)), some (.inl (min (σ 0) 40)), some (.inl (p : Int))]) (st' := [.inl (α 0 p), .inl (p : Int), .inr (some 20)]) (h' := (zk_mk G sw σ (zk_ua α 10 (mt_bp (α 0) (α 1) (α 9) (α 10) i p)) t)) rfl rfl rfl ?_
        refine zk_aload_n dS_lengthenCopies_40 rfl ?_
        refine zk_get zfS_25 dS_lengthenCopies_41 (v := .inr (some 4)) rfl (by decide) rfl ?_
        refine zk_iload_n dS_lengthenCopies_44 rfl ?_
        refine zk_callV (av := [.inl (i : Int)]) (st := [.inl (α 0 p), .inl (p : Int), .inr (some 20)]) (d' := (1, 21)) (kc' := 0) (ks' := 0) zbS_85 dS_lengthenCopies_45 rfl (by decide) rfl rfl (Nat.le_of_ble_eq_true rfl) ⟨by decide, by decide⟩ rfl rfl (kR_get G sw σ (zk_ua α 10 (mt_bp (α 0) (α 1) (α 9) (α 10) i p)) t (q := 1) (by decide) hn1 ⟨by omega, by omega⟩) (fun v9 h9 q9 => ?_)
        rcases q9 with ⟨rfl, ⟨hc45, rfl⟩ | ⟨hc45, rfl⟩⟩
        · skip
          refine zk_W.to (ls' := [some (.inr (some 18)), some (.inl (i : Int)), some (.inl (mt_ml (mt_bp (α 0) (α 1) (α 9) (α 10) i (σ 0).toNat) p)), some (.inl (min (σ 0) 40)), some (.inl (p : Int))]) (st' := [.inl (α 1 i), .inl (α 0 p), .inl (p : Int), .inr (some 20)]) (h' := (zk_mk G sw σ (zk_ua α 10 (mt_bp (α 0) (α 1) (α 9) (α 10) i p)) t)) rfl rfl rfl ?_
          refine zk_icmp_ne (tgt := 77) dS_lengthenCopies_48 (by decide) ⟨by have := hv0 p; omega, by have := hv0 p; omega⟩ ⟨by have := hv1 i; omega, by have := hv1 i; omega⟩ (fun h48 => ?_) (fun h48 => ?_)
          · skip
            refine zk_ldc (z := 1000000) dS_lengthenCopies_77 zcS_36 ?_
            refine zk_iast dS_lengthenCopies_79 (n := 41) (f := mt_bp (α 0) (α 1) (α 9) (α 10) i p) (h' := (zk_mk G sw σ (zk_ua (zk_ua α 10 (mt_bp (α 0) (α 1) (α 9) (α 10) i p)) 10 (zk_up (mt_bp (α 0) (α 1) (α 9) (α 10) i p) (p : Int).toNat 1000000)) t)) rfl (by decide) (by omega) (by omega) (by omega) rfl ?_
            have hup : zk_rg ((zk_up (mt_bp (α 0) (α 1) (α 9) (α 10) i p) (p : Int).toNat 1000000) ((p : Int)).toNat) := by
              show zk_rg (zk_up _ p _ p)
              unfold zk_up
              rw [if_pos rfl]
              exact ⟨by omega, by omega⟩
            refine zk_iload_n dS_lengthenCopies_80 rfl ?_
            refine zk_aload_n dS_lengthenCopies_81 rfl ?_
            refine zk_get zfS_15 dS_lengthenCopies_82 (v := .inr (some 20)) rfl (by decide) rfl ?_
            refine zk_iload dS_lengthenCopies_85 rfl ?_
            refine zk_iald dS_lengthenCopies_87 (n := 41) (f := zk_up (mt_bp (α 0) (α 1) (α 9) (α 10) i p) (p : Int).toNat 1000000) rfl (by omega) (by omega) (by omega) ?_
            refine zk_mmin dS_lengthenCopies_88 zlS_43 zw_mins zw_mi zw_minc ⟨by decide, Nat.le_of_ble_eq_true rfl⟩ hml hup ?_
            refine zk_istore_n (ls' := [some (.inr (some 18)), some (.inl (i : Int)), some (.inl (min (mt_ml (mt_bp (α 0) (α 1) (α 9) (α 10) i (σ 0).toNat) p) ((zk_up (mt_bp (α 0) (α 1) (α 9) (α 10) i p) (p : Int).toNat 1000000) (p : Int).toNat))), some (.inl (min (σ 0) 40)), some (.inl (p : Int))]) dS_lengthenCopies_91 (by decide) rfl ?_
            refine zk_iinc (ls' := [some (.inr (some 18)), some (.inl (i : Int)), some (.inl (min (mt_ml (mt_bp (α 0) (α 1) (α 9) (α 10) i (σ 0).toNat) p) ((zk_up (mt_bp (α 0) (α 1) (α 9) (α 10) i p) (p : Int).toNat 1000000) (p : Int).toNat))), some (.inl (min (σ 0) 40)), some (.inl ((p : Int) + 1))]) dS_lengthenCopies_92 rfl (by decide) rfl ?_
            refine zk_goto (tgt := 19) dS_lengthenCopies_95 (by decide) ?_
            have ev : 1000000 = mt_nb (α 0) (α 1) (α 9) (α 10) i p := by
              unfold mt_nb
              rw [if_neg h48]
            have em : min (mt_ml (mt_bp (α 0) (α 1) (α 9) (α 10) i (σ 0).toNat) p) ((zk_up (mt_bp (α 0) (α 1) (α 9) (α 10) i p) (p : Int).toNat 1000000) (p : Int).toNat) = mt_ml (mt_bp (α 0) (α 1) (α 9) (α 10) i (σ 0).toNat) (p + 1) := by
              show min (mt_ml (mt_bp (α 0) (α 1) (α 9) (α 10) i (σ 0).toNat) p) _ = min (mt_ml (mt_bp (α 0) (α 1) (α 9) (α 10) i (σ 0).toNat) p) ((mt_bp (α 0) (α 1) (α 9) (α 10) i (σ 0).toNat) p)
              congr 1
              show zk_up _ p _ p = _
              unfold zk_up
              rw [if_pos rfl, ev]
              show _ = if p < (σ 0).toNat then _ else _
              rw [if_pos (by omega)]
            have e2 : (p : Int) + 1 = ((p + 1 : Nat) : Int) := by omega
            rw [em, zk_ua_ua, ev, show ((p : Int)).toNat = p from rfl, mt_bp_up, e2]
            exact ih (p + 1) (by omega) (by omega)
          · skip
            refine zk_aload_n dS_lengthenCopies_51 rfl ?_
            refine zk_iload_n dS_lengthenCopies_52 rfl ?_
            refine zk_iconst dS_lengthenCopies_53 ?_
            refine zk_iadd dS_lengthenCopies_54 ?_
            refine zk_iload dS_lengthenCopies_55 rfl ?_
            refine zk_iconst dS_lengthenCopies_57 ?_
            refine zk_iadd dS_lengthenCopies_58 ?_
            refine zk_callV (av := [.inl ((i : Int) + 1), .inl ((p : Int) + 1)]) (st := [.inl (p : Int), .inr (some 20)]) (d' := (0, 0)) (kc' := 0) (ks' := 0) zbS_66 dS_lengthenCopies_59 rfl (by decide) rfl rfl (Nat.le_of_ble_eq_true rfl) ⟨by decide, by decide⟩ rfl rfl (kS_leastFrom G sw σ (zk_ua α 10 (mt_bp (α 0) (α 1) (α 9) (α 10) i p)) t ⟨by omega, by omega⟩ ⟨by omega, by omega⟩) (fun v9 h9 q9 => ?_)
            obtain ⟨rfl, rfl⟩ := q9
            refine zk_W.to (ls' := [some (.inr (some 18)), some (.inl (i : Int)), some (.inl (mt_ml (mt_bp (α 0) (α 1) (α 9) (α 10) i (σ 0).toNat) p)), some (.inl (min (σ 0) 40)), some (.inl (p : Int))]) (st' := [.inl (α 9 (((i : Int) + 1) * 41 + ((p : Int) + 1)).toNat), .inl (p : Int), .inr (some 20)]) (h' := (zk_mk G sw σ (zk_ua α 10 (mt_bp (α 0) (α 1) (α 9) (α 10) i p)) t)) rfl rfl rfl ?_
            refine zk_aload_n dS_lengthenCopies_62 rfl ?_
            refine zk_get zfS_15 dS_lengthenCopies_63 (v := .inr (some 20)) rfl (by decide) rfl ?_
            refine zk_iload dS_lengthenCopies_66 rfl ?_
            refine zk_iconst dS_lengthenCopies_68 ?_
            refine zk_iadd dS_lengthenCopies_69 ?_
            refine zk_iald dS_lengthenCopies_70 (n := 41) (f := mt_bp (α 0) (α 1) (α 9) (α 10) i p) rfl (by omega) (by omega) (by omega) ?_
            refine zk_mmin dS_lengthenCopies_71 zlS_43 zw_mins zw_mi zw_minc ⟨by decide, Nat.le_of_ble_eq_true rfl⟩ ⟨by have := hq1 (by omega); omega, by have := hq1 (by omega); omega⟩ ⟨by have := hq2 (by omega); omega, by have := hq2 (by omega); omega⟩ ?_
            refine zk_goto (tgt := 79) dS_lengthenCopies_74 (by decide) ?_
            refine zk_iast dS_lengthenCopies_79 (n := 41) (f := mt_bp (α 0) (α 1) (α 9) (α 10) i p) (h' := (zk_mk G sw σ (zk_ua (zk_ua α 10 (mt_bp (α 0) (α 1) (α 9) (α 10) i p)) 10 (zk_up (mt_bp (α 0) (α 1) (α 9) (α 10) i p) (p : Int).toNat (min (α 9 (((i : Int) + 1) * 41 + ((p : Int) + 1)).toNat) ((mt_bp (α 0) (α 1) (α 9) (α 10) i p) ((p : Int) + 1).toNat)))) t)) rfl (by decide) (by omega) (by omega) (by omega) rfl ?_
            have hup : zk_rg ((zk_up (mt_bp (α 0) (α 1) (α 9) (α 10) i p) (p : Int).toNat (min (α 9 (((i : Int) + 1) * 41 + ((p : Int) + 1)).toNat) ((mt_bp (α 0) (α 1) (α 9) (α 10) i p) ((p : Int) + 1).toNat))) ((p : Int)).toNat) := by
              show zk_rg (zk_up _ p _ p)
              unfold zk_up
              rw [if_pos rfl]
              have a1 := hq1 (by omega)
              have a2 := hq2 (by omega)
              exact ⟨by omega, by omega⟩
            refine zk_iload_n dS_lengthenCopies_80 rfl ?_
            refine zk_aload_n dS_lengthenCopies_81 rfl ?_
            refine zk_get zfS_15 dS_lengthenCopies_82 (v := .inr (some 20)) rfl (by decide) rfl ?_
            refine zk_iload dS_lengthenCopies_85 rfl ?_
            refine zk_iald dS_lengthenCopies_87 (n := 41) (f := zk_up (mt_bp (α 0) (α 1) (α 9) (α 10) i p) (p : Int).toNat (min (α 9 (((i : Int) + 1) * 41 + ((p : Int) + 1)).toNat) ((mt_bp (α 0) (α 1) (α 9) (α 10) i p) ((p : Int) + 1).toNat))) rfl (by omega) (by omega) (by omega) ?_
            refine zk_mmin dS_lengthenCopies_88 zlS_43 zw_mins zw_mi zw_minc ⟨by decide, Nat.le_of_ble_eq_true rfl⟩ hml hup ?_
            refine zk_istore_n (ls' := [some (.inr (some 18)), some (.inl (i : Int)), some (.inl (min (mt_ml (mt_bp (α 0) (α 1) (α 9) (α 10) i (σ 0).toNat) p) ((zk_up (mt_bp (α 0) (α 1) (α 9) (α 10) i p) (p : Int).toNat (min (α 9 (((i : Int) + 1) * 41 + ((p : Int) + 1)).toNat) ((mt_bp (α 0) (α 1) (α 9) (α 10) i p) ((p : Int) + 1).toNat))) (p : Int).toNat))), some (.inl (min (σ 0) 40)), some (.inl (p : Int))]) dS_lengthenCopies_91 (by decide) rfl ?_
            refine zk_iinc (ls' := [some (.inr (some 18)), some (.inl (i : Int)), some (.inl (min (mt_ml (mt_bp (α 0) (α 1) (α 9) (α 10) i (σ 0).toNat) p) ((zk_up (mt_bp (α 0) (α 1) (α 9) (α 10) i p) (p : Int).toNat (min (α 9 (((i : Int) + 1) * 41 + ((p : Int) + 1)).toNat) ((mt_bp (α 0) (α 1) (α 9) (α 10) i p) ((p : Int) + 1).toNat))) (p : Int).toNat))), some (.inl (min (σ 0) 40)), some (.inl ((p : Int) + 1))]) dS_lengthenCopies_92 rfl (by decide) rfl ?_
            refine zk_goto (tgt := 19) dS_lengthenCopies_95 (by decide) ?_
            have ev : (min (α 9 (((i : Int) + 1) * 41 + ((p : Int) + 1)).toNat) ((mt_bp (α 0) (α 1) (α 9) (α 10) i p) ((p : Int) + 1).toNat)) = mt_nb (α 0) (α 1) (α 9) (α 10) i p := by
              unfold mt_nb
              rw [if_pos h48, ei, eb]
              rfl
            have em : min (mt_ml (mt_bp (α 0) (α 1) (α 9) (α 10) i (σ 0).toNat) p) ((zk_up (mt_bp (α 0) (α 1) (α 9) (α 10) i p) (p : Int).toNat (min (α 9 (((i : Int) + 1) * 41 + ((p : Int) + 1)).toNat) ((mt_bp (α 0) (α 1) (α 9) (α 10) i p) ((p : Int) + 1).toNat))) (p : Int).toNat) = mt_ml (mt_bp (α 0) (α 1) (α 9) (α 10) i (σ 0).toNat) (p + 1) := by
              show min (mt_ml (mt_bp (α 0) (α 1) (α 9) (α 10) i (σ 0).toNat) p) _ = min (mt_ml (mt_bp (α 0) (α 1) (α 9) (α 10) i (σ 0).toNat) p) ((mt_bp (α 0) (α 1) (α 9) (α 10) i (σ 0).toNat) p)
              congr 1
              show zk_up _ p _ p = _
              unfold zk_up
              rw [if_pos rfl, ev]
              show _ = if p < (σ 0).toNat then _ else _
              rw [if_pos (by omega)]
            have e2 : (p : Int) + 1 = ((p + 1 : Nat) : Int) := by omega
            rw [em, zk_ua_ua, ev, show ((p : Int)).toNat = p from rfl, mt_bp_up, e2]
            exact ih (p + 1) (by omega) (by omega)
        · skip
          exact absurd (⟨by omega, by omega⟩ : 0 ≤ (i : Int) ∧ (i : Int) < σ 1) hc45
      · skip
        exact absurd (⟨by omega, by omega⟩ : 0 ≤ (p : Int) ∧ (p : Int) < σ 0) hc37

set_option maxRecDepth 100000 in
set_option maxHeartbeats 4000000 in
theorem kS_lengthenCopies (G : zk_G) (sw : Bool) (σ : Nat → Int) (α : Nat → Nat → Int) (t : zk_H) (hn0 : 0 ≤ σ 0 ∧ σ 0 ≤ (zr_N 0 : Int)) (hn1 : 0 ≤ σ 1 ∧ σ 1 ≤ (zr_N 1 : Int)) (hv0 : ∀ j, 0 ≤ α 0 j ∧ α 0 j ≤ 255) (hv1 : ∀ j, 0 ≤ α 1 j ∧ α 1 j ≤ 255) {i : Nat} (hi : (i : Int) < σ 1) (hL : ∀ s, s ≤ (σ 0).toNat → 0 ≤ mt_tb (α 9) (i + 1) s ∧ mt_tb (α 9) (i + 1) s ≤ 4100) (hb : ∀ p, p ≤ (σ 0).toNat → 0 ≤ α 10 p ∧ α 10 p ≤ 1000000) : zk_K G mS_lengthenCopies (2, 42) 0 0 [.inr (some 18), .inl (i : Int)] (zk_mk G sw σ α t) (fun v h' => h' = zk_mk G sw σ (zk_ua α 10 (mt_bp (α 0) (α 1) (α 9) (α 10) i (σ 0).toNat)) t ∧ v = some (.inl (mt_ml (mt_bp (α 0) (α 1) (α 9) (α 10) i (σ 0).toNat) (σ 0).toNat))) := by
  have eN0 : (zr_N 0 : Int) = 40 := rfl
  have eN1 : (zr_N 1 : Int) = 40 := rfl
  refine zk_K.of (ls := [some (.inr (some 18)), some (.inl (i : Int)), none, none, none]) (by decide +kernel) (Nat.le_of_ble_eq_true rfl) rfl ?_
  refine zk_ldc (z := 1000000) dS_lengthenCopies_0 zcS_36 ?_
  refine zk_istore_n (ls' := [some (.inr (some 18)), some (.inl (i : Int)), some (.inl 1000000), none, none]) dS_lengthenCopies_2 (by decide) rfl ?_
  refine zk_aload_n dS_lengthenCopies_3 rfl ?_
  refine zk_get zfS_21 dS_lengthenCopies_4 (v := .inr (some 2)) rfl (by decide) rfl ?_
  refine zk_callV (av := []) (st := []) (d' := (0, 0)) (kc' := 0) (ks' := 0) zbS_37 dS_lengthenCopies_7 rfl (by decide) rfl rfl (Nat.le_of_ble_eq_true rfl) ⟨by decide, by decide⟩ rfl rfl (kR_length G sw σ α t (q := 0) (by decide)) (fun v9 h9 q9 => ?_)
  obtain ⟨rfl, rfl⟩ := q9
  refine zk_W.to (ls' := [some (.inr (some 18)), some (.inl (i : Int)), some (.inl 1000000), none, none]) (st' := [.inl (σ 0)]) (h' := (zk_mk G sw σ α t)) rfl rfl rfl ?_
  refine zk_bipush dS_lengthenCopies_10 (by decide) ?_
  refine zk_mmin dS_lengthenCopies_12 zlS_43 zw_mins zw_mi zw_minc ⟨by decide, Nat.le_of_ble_eq_true rfl⟩ ⟨by omega, by omega⟩ ⟨by decide, by decide⟩ ?_
  refine zk_istore_n (ls' := [some (.inr (some 18)), some (.inl (i : Int)), some (.inl 1000000), some (.inl (min (σ 0) 40)), none]) dS_lengthenCopies_15 (by decide) rfl ?_
  refine zk_iconst dS_lengthenCopies_16 ?_
  refine zk_istore (ls' := [some (.inr (some 18)), some (.inl (i : Int)), some (.inl 1000000), some (.inl (min (σ 0) 40)), some (.inl 0)]) dS_lengthenCopies_17 (by decide) rfl ?_
  have e := wS_lengthenCopies G sw σ α t hn0 hn1 hv0 hv1 hi hL hb ((σ 0).toNat + 1) 0 (Nat.zero_le _) (by omega)
  rw [mt_bp_0, zk_ua_self] at e
  exact e
