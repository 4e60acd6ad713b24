/-! what stays when acts are put behind the others -/
theorem zk_up_at (f : Nat → Int) (k : Nat) (x : Int) : zk_up f k x k = x := by
  unfold zk_up
  rw [if_pos rfl]
theorem zk_up_ne {f : Nat → Int} {k j : Nat} {x : Int} (h : j ≠ k) : zk_up f k x j = f j := by
  unfold zk_up
  rw [if_neg h]
theorem mt_lsum_congr {K C K' C' : Nat → Int} : ∀ {n : Nat}, (∀ k, k < n → K k = K' k ∧ C k = C' k) → mt_lsum K C n = mt_lsum K' C' n
  | 0, _ => rfl
  | n + 1, h => by
    show mt_lsum K C n + (if K n = 2 then C n else 0) = mt_lsum K' C' n + (if K' n = 2 then C' n else 0)
    rw [mt_lsum_congr (fun k hk => h k (by omega)), (h n (by omega)).1, (h n (by omega)).2]
def mt_ap (f : Nat → Int) (s n : Nat) (g : Nat → Int) : Nat → Int := fun x => if s ≤ x ∧ x < s + n then g (x - s) else f x
theorem mt_ap_0 (f : Nat → Int) (s : Nat) (g : Nat → Int) : mt_ap f s 0 g = f := by
  funext x
  unfold mt_ap
  rw [if_neg (by omega)]
theorem mt_ap_up (f : Nat → Int) (s n : Nat) (g : Nat → Int) : zk_up (mt_ap f s n g) (s + n) (g n) = mt_ap f s (n + 1) g := by
  funext x
  unfold zk_up mt_ap
  by_cases h : x = s + n
  · subst h
    rw [if_pos rfl, if_pos (by omega), show s + n - s = n by omega]
  · rw [if_neg h]
    by_cases h2 : s ≤ x ∧ x < s + n
    · rw [if_pos h2, if_pos (by omega)]
    · rw [if_neg h2, if_neg (by omega)]
theorem mt_ap_in {f : Nat → Int} {s n j : Nat} {g : Nat → Int} (h : j < n) : mt_ap f s n g (s + j) = g j := by
  unfold mt_ap
  rw [if_pos (by omega), show s + j - s = j by omega]
theorem mt_ap_out {f : Nat → Int} {s n x : Nat} {g : Nat → Int} (h : x < s) : mt_ap f s n g x = f x := by
  unfold mt_ap
  rw [if_neg (by omega)]
/-- an act x p n more -/
def zc_P (σ : Nat → Int) (α : Nat → Nat → Int) (x p n : Int) : Nat → Nat → Int := zk_ua (zk_ua (zk_ua (zk_ua α 5 (zk_up (α 5) (σ 10).toNat x)) 6 (zk_up (α 6) (σ 10).toNat p)) 7 (zk_up (α 7) (σ 10).toNat n)) 8 (zk_up (α 8) (σ 10).toNat (σ 4))
/-- a LAY of the n bytes g more -/
def zc_L (σ : Nat → Int) (α : Nat → Nat → Int) (n : Nat) (g : Nat → Int) : Nat → Nat → Int := zk_ua (zk_ua (zk_ua (zk_ua (zk_ua α 5 (zk_up (α 5) (σ 10).toNat 2)) 6 (zk_up (α 6) (σ 10).toNat (-1))) 8 (zk_up (α 8) (σ 10).toNat (σ 4))) 7 (zk_up (α 7) (σ 10).toNat (n : Int))) 4 (mt_ap (α 4) (σ 4).toNat n g)
def zc_Ls (σ : Nat → Int) (n : Nat) : Nat → Int := zk_up (zk_up σ 10 (σ 10 + 1)) 4 (σ 4 + (n : Int))
theorem zc_L_0 (σ : Nat → Int) (α : Nat → Nat → Int) (g : Nat → Int) : zc_P σ α 2 (-1) 0 = zc_L σ α 0 g := by
  funext j
  unfold zc_P zc_L
  rw [mt_ap_0]
  unfold zk_ua
  by_cases h4 : j = 4
  · subst h4; rfl
  · rw [if_neg h4]
    by_cases h8 : j = 8
    · subst h8; rfl
    · rw [if_neg h8]
      by_cases h7 : j = 7
      · subst h7; rfl
      · rw [if_neg h7, if_neg h7, if_neg h8]
theorem zc_Ls_0 (σ : Nat → Int) : zk_up σ 10 (σ 10 + 1) = zc_Ls σ 0 := by
  unfold zc_Ls
  have h : zk_up (zk_up σ 10 (σ 10 + 1)) 4 (σ 4 + ((0 : Nat) : Int)) = zk_up (zk_up σ 10 (σ 10 + 1)) 4 ((zk_up σ 10 (σ 10 + 1)) 4) := by
    congr 1
    show σ 4 + 0 = σ 4
    omega
  rw [h, zk_up_self]
theorem zc_L_up {σ : Nat → Int} {α : Nat → Nat → Int} {n : Nat} {g : Nat → Int} (h10 : 0 ≤ σ 10) (h4 : 0 ≤ σ 4) : zk_ua (zk_ua (zc_L σ α n g) 4 (zk_up (mt_ap (α 4) (σ 4).toNat n g) (σ 4 + (n : Int)).toNat (g n))) 7 (zk_up (zk_up (α 7) (σ 10).toNat (n : Int)) (σ 10 + 1 - 1).toNat (zk_up (α 7) (σ 10).toNat (n : Int) (σ 10 + 1 - 1).toNat + 1)) = zc_L σ α (n + 1) g := by
  rw [show (σ 4 + (n : Int)).toNat = (σ 4).toNat + n by omega, mt_ap_up, show (σ 10 + 1 - 1).toNat = (σ 10).toNat by omega, zk_up_at, zk_up_up]
  funext j
  unfold zc_L zk_ua
  by_cases h7 : j = 7
  · subst h7
    rw [if_pos rfl, if_neg (by decide), if_pos rfl]
    congr 1
  · rw [if_neg h7]
    by_cases h4 : j = 4
    · subst h4
      rw [if_pos rfl, if_pos rfl]
    · rw [if_neg h4, if_neg h4, if_neg h4, if_neg h7, if_neg h7]
theorem zc_Ls_up (σ : Nat → Int) (n : Nat) : zk_up (zc_Ls σ n) 4 (σ 4 + (n : Int) + 1) = zc_Ls σ (n + 1) := by
  unfold zc_Ls
  rw [zk_up_up]
  congr 1
  show σ 4 + (n : Int) + 1 = σ 4 + ((n + 1 : Nat) : Int)
  omega
/-- an act that isn't a LAY, put behind the others -/
theorem zc_I_app {σ : Nat → Int} {α : Nat → Nat → Int} {x p n : Int} (hI : zc_I σ α) (h10 : σ 10 < 100) (hx : x = 0 ∨ x = 1) (hp : 0 ≤ p ∧ p ≤ 79) (hn : 1 ≤ n ∧ n ≤ 40) : zc_I (zk_up σ 10 (σ 10 + 1)) (zc_P σ α x p n) := by
  obtain ⟨a1, a2, a3, a4, a5, a6, a7, a8, a9, a10⟩ := hI
  have n4 := a1 4 (by decide)
  have e4 : (zr_N 4 : Int) = 4000 := rfl
  have old : ∀ k, k < (σ 10).toNat → zk_up (α 5) (σ 10).toNat x k = α 5 k ∧ zk_up (α 7) (σ 10).toNat n k = α 7 k := fun k hk => ⟨zk_up_ne (by omega), zk_up_ne (by omega)⟩
  refine ⟨fun q hq => ?_, fun q hq => ?_, a3, ⟨show 0 ≤ σ 10 + 1 by omega, show σ 10 + 1 ≤ 100 by omega⟩, a5, fun q j hq => ?_, fun k hk => ?_, ?_, a9, a10⟩
  · match q, hq with
    | 0, _ => exact a1 0 (by decide)
    | 1, _ => exact a1 1 (by decide)
    | 2, _ => exact a1 2 (by decide)
    | 3, _ => exact a1 3 (by decide)
    | 4, _ => exact a1 4 (by decide)
  · match q, hq with
    | 0, _ => exact a2 0 (by decide)
    | 1, _ => exact a2 1 (by decide)
    | 2, _ => exact a2 2 (by decide)
    | 3, _ => exact a2 3 (by decide)
    | 4, _ => exact a2 4 (by decide)
  · unfold zc_P zk_ua
    (repeat' split)
    · exact zk_up_rg (fun j => a6 8 j (by decide)) ⟨by omega, by omega⟩ j
    · exact zk_up_rg (fun j => a6 7 j (by decide)) ⟨by omega, by omega⟩ j
    · exact zk_up_rg (fun j => a6 6 j (by decide)) ⟨by omega, by omega⟩ j
    · exact zk_up_rg (fun j => a6 5 j (by decide)) ⟨by omega, by omega⟩ j
    · exact a6 q j hq
  · have hk : k < (σ 10 + 1).toNat := hk
    have hl : ∀ m, m ≤ (σ 10).toNat → mt_lsum (zk_up (α 5) (σ 10).toNat x) (zk_up (α 7) (σ 10).toNat n) m = mt_lsum (α 5) (α 7) m := fun m hm => mt_lsum_congr (fun k hk => old k (by omega))
    show (zk_up (α 5) (σ 10).toNat x k = 0 ∨ zk_up (α 5) (σ 10).toNat x k = 1 ∨ zk_up (α 5) (σ 10).toNat x k = 2) ∧ (1 ≤ zk_up (α 7) (σ 10).toNat n k ∧ zk_up (α 7) (σ 10).toNat n k ≤ 40) ∧ (zk_up (α 5) (σ 10).toNat x k ≠ 2 → 0 ≤ zk_up (α 6) (σ 10).toNat p k ∧ zk_up (α 6) (σ 10).toNat p k ≤ 79) ∧ (zk_up (α 5) (σ 10).toNat x k = 2 → zk_up (α 6) (σ 10).toNat p k = -1) ∧ zk_up (α 8) (σ 10).toNat (σ 4) k = mt_lsum (zk_up (α 5) (σ 10).toNat x) (zk_up (α 7) (σ 10).toNat n) k
    by_cases e : k = (σ 10).toNat
    · subst e
      rw [zk_up_at, zk_up_at, zk_up_at, zk_up_at, hl _ (Nat.le_refl _)]
      exact ⟨by omega, hn, fun _ => hp, fun h => by omega, a8⟩
    · rw [zk_up_ne e, zk_up_ne e, zk_up_ne e, zk_up_ne e, hl k (by omega)]
      exact a7 k (by omega)
  · show σ 4 = mt_lsum (zk_up (α 5) (σ 10).toNat x) (zk_up (α 7) (σ 10).toNat n) (σ 10 + 1).toNat
    rw [show (σ 10 + 1).toNat = (σ 10).toNat + 1 by omega]
    show σ 4 = mt_lsum _ _ (σ 10).toNat + (if zk_up (α 5) (σ 10).toNat x (σ 10).toNat = 2 then _ else 0)
    rw [mt_lsum_congr (fun k hk => old k hk), zk_up_at, if_neg (by omega), ← a8]
    omega
/-- a LAY, put behind the others -/
theorem zc_I_lay {σ : Nat → Int} {α : Nat → Nat → Int} {n : Nat} {g : Nat → Int} (hI : zc_I σ α) (h10 : σ 10 < 100) (hn : 1 ≤ n ∧ n ≤ 40) (hg : ∀ j, j < n → 0 ≤ g j ∧ g j ≤ 255) : zc_I (zc_Ls σ n) (zc_L σ α n g) := by
  have h44 := zc_4 hI
  obtain ⟨a1, a2, a3, a4, a5, a6, a7, a8, a9, a10⟩ := hI
  have n4 := a1 4 (by decide)
  have e4 : (zr_N 4 : Int) = 4000 := rfl
  have old : ∀ k, k < (σ 10).toNat → zk_up (α 5) (σ 10).toNat 2 k = α 5 k ∧ zk_up (α 7) (σ 10).toNat (n : Int) k = α 7 k := fun k hk => ⟨zk_up_ne (by omega), zk_up_ne (by omega)⟩
  have apb : ∀ j, 0 ≤ mt_ap (α 4) (σ 4).toNat n g j ∧ mt_ap (α 4) (σ 4).toNat n g j ≤ 255 := by
    intro j
    unfold mt_ap
    split
    next h => exact hg _ (by omega)
    next => exact a2 4 (by decide) j
  refine ⟨fun q hq => ?_, fun q hq => ?_, a3, ⟨show 0 ≤ σ 10 + 1 by omega, show σ 10 + 1 ≤ 100 by omega⟩, a5, fun q j hq => ?_, fun k hk => ?_, ?_, a9, a10⟩
  · match q, hq with
    | 0, _ => exact a1 0 (by decide)
    | 1, _ => exact a1 1 (by decide)
    | 2, _ => exact a1 2 (by decide)
    | 3, _ => exact a1 3 (by decide)
    | 4, _ => exact ⟨show 0 ≤ σ 4 + (n : Int) by omega, show σ 4 + (n : Int) ≤ (zr_N 4 : Int) by omega⟩
  · match q, hq with
    | 0, _ => exact a2 0 (by decide)
    | 1, _ => exact a2 1 (by decide)
    | 2, _ => exact a2 2 (by decide)
    | 3, _ => exact a2 3 (by decide)
    | 4, _ => exact apb
  · unfold zc_L zk_ua
    (repeat' split)
    · have := apb j
      exact ⟨by omega, by omega⟩
    · exact zk_up_rg (fun j => a6 7 j (by decide)) ⟨by omega, by omega⟩ j
    · exact zk_up_rg (fun j => a6 8 j (by decide)) ⟨by omega, by omega⟩ j
    · exact zk_up_rg (fun j => a6 6 j (by decide)) ⟨by omega, by omega⟩ j
    · exact zk_up_rg (fun j => a6 5 j (by decide)) ⟨by omega, by omega⟩ j
    · exact a6 q j hq
  · have hk : k < (σ 10 + 1).toNat := hk
    have hl : ∀ m, m ≤ (σ 10).toNat → mt_lsum (zk_up (α 5) (σ 10).toNat 2) (zk_up (α 7) (σ 10).toNat (n : Int)) m = mt_lsum (α 5) (α 7) m := fun m hm => mt_lsum_congr (fun k hk => old k (by omega))
    show (zk_up (α 5) (σ 10).toNat 2 k = 0 ∨ zk_up (α 5) (σ 10).toNat 2 k = 1 ∨ zk_up (α 5) (σ 10).toNat 2 k = 2) ∧ (1 ≤ zk_up (α 7) (σ 10).toNat (n : Int) k ∧ zk_up (α 7) (σ 10).toNat (n : Int) k ≤ 40) ∧ (zk_up (α 5) (σ 10).toNat 2 k ≠ 2 → 0 ≤ zk_up (α 6) (σ 10).toNat (-1) k ∧ zk_up (α 6) (σ 10).toNat (-1) k ≤ 79) ∧ (zk_up (α 5) (σ 10).toNat 2 k = 2 → zk_up (α 6) (σ 10).toNat (-1) k = -1) ∧ zk_up (α 8) (σ 10).toNat (σ 4) k = mt_lsum (zk_up (α 5) (σ 10).toNat 2) (zk_up (α 7) (σ 10).toNat (n : Int)) k
    by_cases e : k = (σ 10).toNat
    · subst e
      rw [zk_up_at, zk_up_at, zk_up_at, zk_up_at, hl _ (Nat.le_refl _)]
      exact ⟨by omega, by omega, fun h => absurd rfl h, fun _ => rfl, a8⟩
    · rw [zk_up_ne e, zk_up_ne e, zk_up_ne e, zk_up_ne e, hl k (by omega)]
      exact a7 k (by omega)
  · show σ 4 + (n : Int) = mt_lsum (zk_up (α 5) (σ 10).toNat 2) (zk_up (α 7) (σ 10).toNat (n : Int)) (σ 10 + 1).toNat
    rw [show (σ 10 + 1).toNat = (σ 10).toNat + 1 by omega]
    show σ 4 + (n : Int) = mt_lsum _ _ (σ 10).toNat + (if zk_up (α 5) (σ 10).toNat 2 (σ 10).toNat = 2 then zk_up (α 7) (σ 10).toNat (n : Int) (σ 10).toNat else 0)
    rw [mt_lsum_congr (fun k hk => old k hk), zk_up_at, zk_up_at, if_pos rfl, ← a8]
