/-- where act k of the code F begins -/
def mt_rp (F : Nat → Int) : Nat → Nat
  | 0 => 2
  | k + 1 => mt_rp F k + 1 + (if F (mt_rp F k) / 64 = 2 then (F (mt_rp F k) % 64).toNat else 1)
def mt_g1 (F : Nat → Int) (p : Nat) : Prop := F p / 64 ≤ 2 ∧ 1 ≤ F p % 64 ∧ F p % 64 ≤ 40
def mt_gd (F : Nat → Int) (n : Int) (k : Nat) : Prop := mt_g1 F (mt_rp F k) ∧ (mt_rp F (k + 1) : Int) ≤ n ∧ (F (mt_rp F k) / 64 ≠ 2 → F (mt_rp F k + 1) ≤ 79)
/-- m acts can be read -/
def mt_rm (F : Nat → Int) (n : Int) (m : Nat) : Prop := m ≤ 100 ∧ ∀ k, k < m → (mt_rp F k : Int) < n ∧ mt_gd F n k
/-- the wrong byte of the code F of n bytes is r; none: -1 -/
def mt_rf (F : Nat → Int) (n r : Int) : Prop := (n < 2 ∧ r = n) ∨ (2 ≤ n ∧ ∃ m : Nat, mt_rm F n m ∧ ((n ≤ (mt_rp F m : Int) ∧ r = -1) ∨ ((mt_rp F m : Int) < n ∧ m = 100 ∧ r = (mt_rp F m : Int)) ∨ ((mt_rp F m : Int) < n ∧ m < 100 ∧ ((¬ mt_g1 F (mt_rp F m) ∧ r = (mt_rp F m : Int)) ∨ (mt_g1 F (mt_rp F m) ∧ n < (mt_rp F (m + 1) : Int) ∧ r = n) ∨ (mt_g1 F (mt_rp F m) ∧ (mt_rp F (m + 1) : Int) ≤ n ∧ F (mt_rp F m) / 64 ≠ 2 ∧ 79 < F (mt_rp F m + 1) ∧ r = (mt_rp F m : Int) + 1)))))
theorem mt_rp_lt {F : Nat → Int} {k : Nat} : mt_rp F k < mt_rp F (k + 1) := by
  show mt_rp F k < mt_rp F k + 1 + _
  omega
theorem mt_rp_n2 {F : Nat → Int} {k : Nat} (h : F (mt_rp F k) / 64 ≠ 2) : mt_rp F (k + 1) = mt_rp F k + 2 := by
  show mt_rp F k + 1 + (if F (mt_rp F k) / 64 = 2 then (F (mt_rp F k) % 64).toNat else 1) = _
  rw [if_neg h]
theorem mt_rp_y2 {F : Nat → Int} {k : Nat} (h : F (mt_rp F k) / 64 = 2) : mt_rp F (k + 1) = mt_rp F k + 1 + (F (mt_rp F k) % 64).toNat := by
  show mt_rp F k + 1 + (if F (mt_rp F k) / 64 = 2 then (F (mt_rp F k) % 64).toNat else 1) = _
  rw [if_pos h]
theorem mt_rm_le {F : Nat → Int} {n : Int} {m : Nat} (h : mt_rm F n m) (h2 : 2 ≤ n) : (mt_rp F m : Int) ≤ n := by
  cases m with
  | zero => exact h2
  | succ m => exact (h.2 m (by omega)).2.2.1
theorem mt_rp_mono {F : Nat → Int} : ∀ {k m : Nat}, k ≤ m → mt_rp F k ≤ mt_rp F m
  | k, 0, h => by rw [show k = 0 by omega]; exact Nat.le_refl _
  | k, m + 1, h => by
    by_cases e : k = m + 1
    · rw [e]; exact Nat.le_refl _
    · have h1 := mt_rp_mono (F := F) (k := k) (m := m) (by omega)
      have h2 := mt_rp_lt (F := F) (k := m)
      omega
/-- there is one answer -/
theorem mt_rf_uniq {F : Nat → Int} {n r r' : Int} (h : mt_rf F n r) (h' : mt_rf F n r') : r = r' := by
  rcases h with ⟨h1, h2⟩ | ⟨h1, m, ⟨hm, hg⟩, h2⟩
  · rcases h' with ⟨h3, h4⟩ | ⟨h3, -⟩
    · omega
    · omega
  · rcases h' with ⟨h3, h4⟩ | ⟨h3, m', ⟨hm', hg'⟩, h4⟩
    · omega
    · have key : ∀ (a b : Nat), a < b → (∀ k, k < b → (mt_rp F k : Int) < n ∧ mt_gd F n k) → b ≤ 100 → ∀ z : Int, ¬ ((n ≤ (mt_rp F a : Int) ∧ z = -1) ∨ ((mt_rp F a : Int) < n ∧ a = 100 ∧ z = (mt_rp F a : Int)) ∨ ((mt_rp F a : Int) < n ∧ a < 100 ∧ ((¬ mt_g1 F (mt_rp F a) ∧ z = (mt_rp F a : Int)) ∨ (mt_g1 F (mt_rp F a) ∧ n < (mt_rp F (a + 1) : Int) ∧ z = n) ∨ (mt_g1 F (mt_rp F a) ∧ (mt_rp F (a + 1) : Int) ≤ n ∧ F (mt_rp F a) / 64 ≠ 2 ∧ 79 < F (mt_rp F a + 1) ∧ z = (mt_rp F a : Int) + 1)))) := by
        intro a b hab hb hb1 z hz
        obtain ⟨x1, x2, x3, x4⟩ := hb a hab
        rcases hz with ⟨z1, -⟩ | ⟨-, z2, -⟩ | ⟨-, -, ⟨z3, -⟩ | ⟨-, z4, -⟩ | ⟨-, -, z5, z6, -⟩⟩
        · omega
        · omega
        · exact z3 x2
        · omega
        · have := x4 z5
          omega
      have em : m = m' := by
        rcases Nat.lt_trichotomy m m' with e | e | e
        · exact absurd h2 (key m m' e hg' hm' r)
        · exact e
        · exact absurd h4 (key m' m e hg hm r')
      subst em
      rcases h2 with ⟨z1, z2⟩ | ⟨z1, z2, z3⟩ | ⟨z1, z2, ⟨z3, z4⟩ | ⟨z3, z4, z5⟩ | ⟨z3, z4, z5, z6, z7⟩⟩ <;> rcases h4 with ⟨y1, y2⟩ | ⟨y1, y2, y3⟩ | ⟨y1, y2, ⟨y3, y4⟩ | ⟨y3, y4, y5⟩ | ⟨y3, y4, y5, y6, y7⟩⟩ <;> first | omega | exact absurd y3 z3 | exact absurd z3 y3
theorem mt_rp_congr {F F' : Nat → Int} {n : Int} : ∀ {k : Nat}, (∀ x : Nat, (x : Int) < n → F x = F' x) → (∀ j, j < k → (mt_rp F j : Int) < n) → mt_rp F k = mt_rp F' k
  | 0, _, _ => rfl
  | k + 1, h, hj => by
    have h1 := mt_rp_congr (k := k) h (fun j hk => hj j (by omega))
    show mt_rp F k + 1 + _ = mt_rp F' k + 1 + _
    rw [← h1, h _ (hj k (by omega))]
theorem mt_rf_congr {F F' : Nat → Int} {n r : Int} (h : ∀ x : Nat, (x : Int) < n → F x = F' x) (hf : mt_rf F n r) : mt_rf F' n r := by
  rcases hf with h1 | ⟨h1, m, ⟨hm, hg⟩, h2⟩
  · exact Or.inl h1
  · have ep : ∀ k, k ≤ m → mt_rp F k = mt_rp F' k := fun k hk => mt_rp_congr h (fun j hj => (hg j (by omega)).1)
    have ep1 : (mt_rp F m : Int) < n → mt_rp F (m + 1) = mt_rp F' (m + 1) := fun hx => mt_rp_congr h (fun j hj => by
      by_cases e : j = m
      · rw [e]; exact hx
      · exact (hg j (by omega)).1)
    refine Or.inr ⟨h1, m, ⟨hm, fun k hk => ?_⟩, ?_⟩
    · obtain ⟨x1, ⟨x2, x3, x4⟩, x5, x6⟩ := hg k hk
      have e1 := ep k (by omega)
      have e2 := ep (k + 1) (by omega)
      have l := mt_rp_lt (F := F) (k := k)
      refine ⟨by rw [← e1]; exact x1, ⟨?_, ?_, ?_⟩, by rw [← e2]; exact x5, fun hx => ?_⟩
      · rw [← e1, ← h _ x1]; exact x2
      · rw [← e1, ← h _ x1]; exact x3
      · rw [← e1, ← h _ x1]; exact x4
      · rw [← e1, ← h _ x1] at hx
        have n2 := mt_rp_n2 hx
        rw [← e1, ← h (mt_rp F k + 1) (by omega)]
        exact x6 hx
    · have e1 := ep m (Nat.le_refl m)
      have g1 : (mt_rp F m : Int) < n → (mt_g1 F (mt_rp F m) ↔ mt_g1 F' (mt_rp F' m)) := fun hx => by
        unfold mt_g1
        rw [← e1, ← h _ hx]
      rcases h2 with ⟨z1, z2⟩ | ⟨z1, z2, z3⟩ | ⟨z1, z2, ⟨z3, z4⟩ | ⟨z3, z4, z5⟩ | ⟨z3, z4, z5, z6, z7⟩⟩
      · exact Or.inl ⟨by rw [← e1]; exact z1, z2⟩
      · exact Or.inr (Or.inl ⟨by rw [← e1]; exact z1, z2, by rw [← e1]; exact z3⟩)
      · exact Or.inr (Or.inr ⟨by rw [← e1]; exact z1, z2, Or.inl ⟨fun z => z3 ((g1 z1).mpr z), by rw [← e1]; exact z4⟩⟩)
      · exact Or.inr (Or.inr ⟨by rw [← e1]; exact z1, z2, Or.inr (Or.inl ⟨(g1 z1).mp z3, by rw [← ep1 z1]; exact z4, z5⟩)⟩)
      · have l := mt_rp_lt (F := F) (k := m)
        refine Or.inr (Or.inr ⟨by rw [← e1]; exact z1, z2, Or.inr (Or.inr ⟨(g1 z1).mp z3, by rw [← ep1 z1]; exact z4, ?_, ?_, by rw [← e1]; exact z7⟩)⟩)
        · rw [← e1, ← h _ z1]; exact z5
        · have n2 := mt_rp_n2 z5
          rw [← e1, ← h (mt_rp F m + 1) (by omega)]; exact z6

set_option maxRecDepth 100000 in
set_option maxHeartbeats 4000000 in
theorem wC_find (G : zk_G) (sw : Bool) (σ : Nat → Int) (α : Nat → Nat → Int) (t : zk_H) (hI : zc_I σ α) (h2 : 2 ≤ σ 3) : ∀ (k : Nat) (m : Nat), (100 < m + k) → (mt_rm (α 3) (σ 3) m) → zk_W G mC_findWrongByte (2, 42) 0 0 19 [some (.inr (some 1)), some (.inl (σ 3)), some (.inl (mt_rp (α 3) m : Int)), some (.inl (m : Int)), none, none, none] [] (zk_mk G sw σ α t) (fun v h' => h' = (zk_mk G sw σ α t) ∧ ∃ r, mt_rf (α 3) (σ 3) r ∧ v = some (.inl r)) := by
  intro k
  induction k with
  | zero =>
    intro m g2 hm
    have hm1 := hm.1
    exfalso
    omega
  | succ k ih =>
    intro m g2 hm
    have hn0 := hI.1 0 (by decide)
    have hn1 := hI.1 1 (by decide)
    have hn2 := hI.1 2 (by decide)
    have hn3 := hI.1 3 (by decide)
    have hn4 := hI.1 4 (by decide)
    have eN0 : (zr_N 0 : Int) = 40 := rfl
    have eN1 : (zr_N 1 : Int) = 40 := rfl
    have eN2 : (zr_N 2 : Int) = 80 := rfl
    have eN3 : (zr_N 3 : Int) = 4102 := rfl
    have eN4 : (zr_N 4 : Int) = 4000 := rfl
    have hv0 := hI.2.1 0 (by decide)
    have hv1 := hI.2.1 1 (by decide)
    have hv2 := hI.2.1 2 (by decide)
    have hv3 := hI.2.1 3 (by decide)
    have hv4 := hI.2.1 4 (by decide)
    have hc := hI.2.2.1
    have hs10 := hI.2.2.2.1
    have hs11 := hI.2.2.2.2.1
    have ha := hI.2.2.2.2.2.1
    have hvp := hv3 (mt_rp (α 3) m)
    have hvp1 := hv3 ((mt_rp (α 3) m : Int) + 1).toNat
    have hrl := mt_rp_mono (F := α 3) (k := 0) (m := m) (Nat.zero_le m)
    have hr2 : mt_rp (α 3) 0 = 2 := rfl
    have hrn := mt_rp_lt (F := α 3) (k := m)
    have hm1 := hm.1
    have hrle := mt_rm_le hm h2
    refine zk_iload_n dC_findWrongByte_19 rfl ?_
    refine zk_bipush dC_findWrongByte_20 (by decide) ?_
    refine zk_icmp_ge (tgt := 137) dC_findWrongByte_22 (by decide) ⟨by omega, by omega⟩ ⟨by decide, by decide⟩ (fun h22 => ?_) (fun h22 => ?_)
    · skip
      refine zk_iload_n dC_findWrongByte_137 rfl ?_
      refine zk_iload_n dC_findWrongByte_138 rfl ?_
      refine zk_icmp_ge (tgt := 146) dC_findWrongByte_139 (by decide) ⟨by omega, by omega⟩ ⟨by omega, by omega⟩ (fun h139 => ?_) (fun h139 => ?_)
      · skip
        refine zk_iconst dC_findWrongByte_146 ?_
        exact zk_iret dC_findWrongByte_147 rfl ⟨rfl, _, Or.inr ⟨by omega, m, hm, Or.inl ⟨by omega, rfl⟩⟩, rfl⟩
      · skip
        refine zk_iload_n dC_findWrongByte_142 rfl ?_
        refine zk_goto (tgt := 147) dC_findWrongByte_143 (by decide) ?_
        exact zk_iret dC_findWrongByte_147 rfl ⟨rfl, _, Or.inr ⟨by omega, m, hm, Or.inr (Or.inl ⟨by omega, by have := hm.1; omega, rfl⟩)⟩, rfl⟩
    · skip
      refine zk_iload_n dC_findWrongByte_25 rfl ?_
      refine zk_iload_n dC_findWrongByte_26 rfl ?_
      refine zk_icmp_ge (tgt := 137) dC_findWrongByte_27 (by decide) ⟨by omega, by omega⟩ ⟨by omega, by omega⟩ (fun h27 => ?_) (fun h27 => ?_)
      · skip
        refine zk_iload_n dC_findWrongByte_137 rfl ?_
        refine zk_iload_n dC_findWrongByte_138 rfl ?_
        refine zk_icmp_ge (tgt := 146) dC_findWrongByte_139 (by decide) ⟨by omega, by omega⟩ ⟨by omega, by omega⟩ (fun h139 => ?_) (fun h139 => ?_)
        · skip
          refine zk_iconst dC_findWrongByte_146 ?_
          exact zk_iret dC_findWrongByte_147 rfl ⟨rfl, _, Or.inr ⟨by omega, m, hm, Or.inl ⟨by omega, rfl⟩⟩, rfl⟩
        · skip
          refine zk_iload_n dC_findWrongByte_142 rfl ?_
          refine zk_goto (tgt := 147) dC_findWrongByte_143 (by decide) ?_
          exact zk_iret dC_findWrongByte_147 rfl ⟨rfl, _, Or.inr ⟨by omega, m, hm, Or.inr (Or.inl ⟨by omega, by have := hm.1; omega, rfl⟩)⟩, rfl⟩
      · skip
        refine zk_aload_n dC_findWrongByte_30 rfl ?_
        refine zk_get zfC_24 dC_findWrongByte_31 (v := .inr (some 8)) rfl (by decide) rfl ?_
        refine zk_iload_n dC_findWrongByte_34 rfl ?_
        refine zk_callV (av := [.inl (mt_rp (α 3) m : Int)]) (st := []) (d' := (1, 21)) (kc' := 0) (ks' := 0) zbC_168 dC_findWrongByte_35 rfl (by decide) rfl rfl (Nat.le_of_ble_eq_true rfl) ⟨by decide, by decide⟩ rfl rfl (kR_get G sw σ α t (q := 3) (by decide) hn3 ⟨by omega, by omega⟩) (fun v9 h9 q9 => ?_)
        rcases q9 with ⟨rfl, ⟨hg35, rfl⟩ | ⟨hg35, rfl⟩⟩
        · skip
          refine zk_W.to (ls' := [some (.inr (some 1)), some (.inl (σ 3)), some (.inl (mt_rp (α 3) m : Int)), some (.inl (m : Int)), none, none, none]) (st' := [.inl (α 3 (mt_rp (α 3) m))]) (h' := (zk_mk G sw σ α t)) rfl rfl rfl ?_
          refine zk_bipush dC_findWrongByte_38 (by decide) ?_
          refine zk_idiv dC_findWrongByte_40 (by omega) ⟨by omega, by omega⟩ (by omega) ⟨by decide, by decide⟩ ?_
          refine zk_istore (ls' := [some (.inr (some 1)), some (.inl (σ 3)), some (.inl (mt_rp (α 3) m : Int)), some (.inl (m : Int)), some (.inl ((α 3 (mt_rp (α 3) m)) / 64)), none, none]) dC_findWrongByte_41 (by decide) rfl ?_
          refine zk_aload_n dC_findWrongByte_43 rfl ?_
          refine zk_get zfC_24 dC_findWrongByte_44 (v := .inr (some 8)) rfl (by decide) rfl ?_
          refine zk_iload_n dC_findWrongByte_47 rfl ?_
          refine zk_callV (av := [.inl (mt_rp (α 3) m : Int)]) (st := []) (d' := (1, 21)) (kc' := 0) (ks' := 0) zbC_168 dC_findWrongByte_48 rfl (by decide) rfl rfl (Nat.le_of_ble_eq_true rfl) ⟨by decide, by decide⟩ rfl rfl (kR_get G sw σ α t (q := 3) (by decide) hn3 ⟨by omega, by omega⟩) (fun v9 h9 q9 => ?_)
          rcases q9 with ⟨rfl, ⟨hg48, rfl⟩ | ⟨hg48, rfl⟩⟩
          · skip
            refine zk_W.to (ls' := [some (.inr (some 1)), some (.inl (σ 3)), some (.inl (mt_rp (α 3) m : Int)), some (.inl (m : Int)), some (.inl ((α 3 (mt_rp (α 3) m)) / 64)), none, none]) (st' := [.inl (α 3 (mt_rp (α 3) m))]) (h' := (zk_mk G sw σ α t)) rfl rfl rfl ?_
            refine zk_bipush dC_findWrongByte_51 (by decide) ?_
            refine zk_irem dC_findWrongByte_53 (by omega) ⟨by omega, by omega⟩ (by omega) ⟨by decide, by decide⟩ ?_
            refine zk_istore (ls' := [some (.inr (some 1)), some (.inl (σ 3)), some (.inl (mt_rp (α 3) m : Int)), some (.inl (m : Int)), some (.inl ((α 3 (mt_rp (α 3) m)) / 64)), some (.inl ((α 3 (mt_rp (α 3) m)) % 64)), none]) dC_findWrongByte_54 (by decide) rfl ?_
            refine zk_iload dC_findWrongByte_56 rfl ?_
            refine zk_iconst dC_findWrongByte_58 ?_
            refine zk_icmp_gt (tgt := 75) dC_findWrongByte_59 (by decide) ⟨by omega, by omega⟩ ⟨by decide, by decide⟩ (fun h59 => ?_) (fun h59 => ?_)
            · skip
              refine zk_iload_n dC_findWrongByte_75 rfl ?_
              exact zk_iret dC_findWrongByte_76 rfl ⟨rfl, _, Or.inr ⟨by omega, m, hm, Or.inr (Or.inr ⟨by omega, by omega, Or.inl ⟨fun hg => by have g1 := hg.1; have g2 := hg.2.1; have g3 := hg.2.2; omega, rfl⟩⟩)⟩, rfl⟩
            · skip
              refine zk_iload dC_findWrongByte_62 rfl ?_
              refine zk_iconst dC_findWrongByte_64 ?_
              refine zk_icmp_lt (tgt := 75) dC_findWrongByte_65 (by decide) ⟨by omega, by omega⟩ ⟨by decide, by decide⟩ (fun h65 => ?_) (fun h65 => ?_)
              · skip
                refine zk_iload_n dC_findWrongByte_75 rfl ?_
                exact zk_iret dC_findWrongByte_76 rfl ⟨rfl, _, Or.inr ⟨by omega, m, hm, Or.inr (Or.inr ⟨by omega, by omega, Or.inl ⟨fun hg => by have g1 := hg.1; have g2 := hg.2.1; have g3 := hg.2.2; omega, rfl⟩⟩)⟩, rfl⟩
              · skip
                refine zk_iload dC_findWrongByte_68 rfl ?_
                refine zk_bipush dC_findWrongByte_70 (by decide) ?_
                refine zk_icmp_le (tgt := 77) dC_findWrongByte_72 (by decide) ⟨by omega, by omega⟩ ⟨by decide, by decide⟩ (fun h72 => ?_) (fun h72 => ?_)
                · skip
                  refine zk_iload_n dC_findWrongByte_77 rfl ?_
                  refine zk_iconst dC_findWrongByte_78 ?_
                  refine zk_iadd dC_findWrongByte_79 ?_
                  refine zk_iload dC_findWrongByte_80 rfl ?_
                  refine zk_iconst dC_findWrongByte_82 ?_
                  refine zk_icmp_ne (tgt := 91) dC_findWrongByte_83 (by decide) ⟨by omega, by omega⟩ ⟨by decide, by decide⟩ (fun h83 => ?_) (fun h83 => ?_)
                  · skip
                    refine zk_iconst dC_findWrongByte_91 ?_
                    refine zk_iadd dC_findWrongByte_92 ?_
                    refine zk_istore (ls' := [some (.inr (some 1)), some (.inl (σ 3)), some (.inl (mt_rp (α 3) m : Int)), some (.inl (m : Int)), some (.inl ((α 3 (mt_rp (α 3) m)) / 64)), some (.inl ((α 3 (mt_rp (α 3) m)) % 64)), some (.inl (((mt_rp (α 3) m : Int) + 1) + 1))]) dC_findWrongByte_93 (by decide) rfl ?_
                    have ebeh : ((mt_rp (α 3) m : Int) + 1) + 1 = (mt_rp (α 3) (m + 1) : Int) := by
                      show _ = ((mt_rp (α 3) m + 1 + (if α 3 (mt_rp (α 3) m) / 64 = 2 then (α 3 (mt_rp (α 3) m) % 64).toNat else 1) : Nat) : Int)
                      rw [if_neg h83]
                      omega
                    rw [ebeh]
                    refine zk_iload dC_findWrongByte_95 rfl ?_
                    refine zk_iload_n dC_findWrongByte_97 rfl ?_
                    refine zk_icmp_le (tgt := 103) dC_findWrongByte_98 (by decide) ⟨by omega, by omega⟩ ⟨by omega, by omega⟩ (fun h98 => ?_) (fun h98 => ?_)
                    · skip
                      refine zk_iload dC_findWrongByte_103 rfl ?_
                      refine zk_iconst dC_findWrongByte_105 ?_
                      refine zk_icmp_eq (tgt := 128) dC_findWrongByte_106 (by decide) ⟨by omega, by omega⟩ ⟨by decide, by decide⟩ (fun h106 => ?_) (fun h106 => ?_)
                      · skip
                        refine zk_iload dC_findWrongByte_128 rfl ?_
                        refine zk_istore_n (ls' := [some (.inr (some 1)), some (.inl (σ 3)), some (.inl ((mt_rp (α 3) (m + 1) : Int))), some (.inl (m : Int)), some (.inl ((α 3 (mt_rp (α 3) m)) / 64)), some (.inl ((α 3 (mt_rp (α 3) m)) % 64)), some (.inl ((mt_rp (α 3) (m + 1) : Int)))]) dC_findWrongByte_130 (by decide) rfl ?_
                        refine zk_iinc (ls' := [some (.inr (some 1)), some (.inl (σ 3)), some (.inl ((mt_rp (α 3) (m + 1) : Int))), some (.inl ((m : Int) + 1)), some (.inl ((α 3 (mt_rp (α 3) m)) / 64)), some (.inl ((α 3 (mt_rp (α 3) m)) % 64)), some (.inl ((mt_rp (α 3) (m + 1) : Int)))]) dC_findWrongByte_131 rfl (by decide) rfl ?_
                        refine zk_goto (tgt := 19) dC_findWrongByte_134 (by decide) ?_
                        have e2 : (m : Int) + 1 = ((m + 1 : Nat) : Int) := by omega
                        rw [e2]
                        refine zk_W.drop 4 rfl (zk_W.drop 5 rfl (zk_W.drop 6 rfl ?_))
                        refine ih (m + 1) (by omega) ⟨by omega, fun k' hk' => ?_⟩
                        by_cases ek : k' = m
                        · subst ek
                          refine ⟨by omega, ⟨by omega, by omega, by omega⟩, by omega, fun hne => ?_⟩
                          first | exact absurd h106 hne | (rw [show mt_rp (α 3) k' + 1 = ((mt_rp (α 3) k' : Int) + 1).toNat by omega]; exact h121)
                        · exact hm.2 k' (by omega)
                      · skip
                        refine zk_aload_n dC_findWrongByte_109 rfl ?_
                        refine zk_get zfC_24 dC_findWrongByte_110 (v := .inr (some 8)) rfl (by decide) rfl ?_
                        refine zk_iload_n dC_findWrongByte_113 rfl ?_
                        refine zk_iconst dC_findWrongByte_114 ?_
                        refine zk_iadd dC_findWrongByte_115 ?_
                        refine zk_callV (av := [.inl ((mt_rp (α 3) m : Int) + 1)]) (st := []) (d' := (1, 21)) (kc' := 0) (ks' := 0) zbC_168 dC_findWrongByte_116 rfl (by decide) rfl rfl (Nat.le_of_ble_eq_true rfl) ⟨by decide, by decide⟩ rfl rfl (kR_get G sw σ α t (q := 3) (by decide) hn3 ⟨by omega, by omega⟩) (fun v9 h9 q9 => ?_)
                        rcases q9 with ⟨rfl, ⟨hg116, rfl⟩ | ⟨hg116, rfl⟩⟩
                        · skip
                          refine zk_W.to (ls' := [some (.inr (some 1)), some (.inl (σ 3)), some (.inl (mt_rp (α 3) m : Int)), some (.inl (m : Int)), some (.inl ((α 3 (mt_rp (α 3) m)) / 64)), some (.inl ((α 3 (mt_rp (α 3) m)) % 64)), some (.inl ((mt_rp (α 3) (m + 1) : Int)))]) (st' := [.inl (α 3 ((mt_rp (α 3) m : Int) + 1).toNat)]) (h' := (zk_mk G sw σ α t)) rfl rfl rfl ?_
                          refine zk_bipush dC_findWrongByte_119 (by decide) ?_
                          refine zk_icmp_le (tgt := 128) dC_findWrongByte_121 (by decide) ⟨by omega, by omega⟩ ⟨by decide, by decide⟩ (fun h121 => ?_) (fun h121 => ?_)
                          · skip
                            refine zk_iload dC_findWrongByte_128 rfl ?_
                            refine zk_istore_n (ls' := [some (.inr (some 1)), some (.inl (σ 3)), some (.inl ((mt_rp (α 3) (m + 1) : Int))), some (.inl (m : Int)), some (.inl ((α 3 (mt_rp (α 3) m)) / 64)), some (.inl ((α 3 (mt_rp (α 3) m)) % 64)), some (.inl ((mt_rp (α 3) (m + 1) : Int)))]) dC_findWrongByte_130 (by decide) rfl ?_
                            refine zk_iinc (ls' := [some (.inr (some 1)), some (.inl (σ 3)), some (.inl ((mt_rp (α 3) (m + 1) : Int))), some (.inl ((m : Int) + 1)), some (.inl ((α 3 (mt_rp (α 3) m)) / 64)), some (.inl ((α 3 (mt_rp (α 3) m)) % 64)), some (.inl ((mt_rp (α 3) (m + 1) : Int)))]) dC_findWrongByte_131 rfl (by decide) rfl ?_
                            refine zk_goto (tgt := 19) dC_findWrongByte_134 (by decide) ?_
                            have e2 : (m : Int) + 1 = ((m + 1 : Nat) : Int) := by omega
                            rw [e2]
                            refine zk_W.drop 4 rfl (zk_W.drop 5 rfl (zk_W.drop 6 rfl ?_))
                            refine ih (m + 1) (by omega) ⟨by omega, fun k' hk' => ?_⟩
                            by_cases ek : k' = m
                            · subst ek
                              refine ⟨by omega, ⟨by omega, by omega, by omega⟩, by omega, fun hne => ?_⟩
                              first | exact absurd h106 hne | (rw [show mt_rp (α 3) k' + 1 = ((mt_rp (α 3) k' : Int) + 1).toNat by omega]; exact h121)
                            · exact hm.2 k' (by omega)
                          · skip
                            have eix : ((mt_rp (α 3) m : Int) + 1).toNat = mt_rp (α 3) m + 1 := by omega
                            have h121' : 79 < α 3 (mt_rp (α 3) m + 1) := by
                              rw [← eix]
                              exact h121
                            refine zk_iload_n dC_findWrongByte_124 rfl ?_
                            refine zk_iconst dC_findWrongByte_125 ?_
                            refine zk_iadd dC_findWrongByte_126 ?_
                            exact zk_iret dC_findWrongByte_127 rfl ⟨rfl, _, Or.inr ⟨by omega, m, hm, Or.inr (Or.inr ⟨by omega, by omega, Or.inr (Or.inr ⟨⟨by omega, by omega, by omega⟩, by omega, h106, h121', rfl⟩)⟩)⟩, rfl⟩
                        · skip
                          exact absurd (⟨by omega, by omega⟩ : 0 ≤ (mt_rp (α 3) m : Int) + 1 ∧ (mt_rp (α 3) m : Int) + 1 < σ 3) hg116
                    · skip
                      refine zk_iload_n dC_findWrongByte_101 rfl ?_
                      exact zk_iret dC_findWrongByte_102 rfl ⟨rfl, _, Or.inr ⟨by omega, m, hm, Or.inr (Or.inr ⟨by omega, by omega, Or.inr (Or.inl ⟨⟨by omega, by omega, by omega⟩, by omega, rfl⟩)⟩)⟩, rfl⟩
                  · skip
                    refine zk_iload dC_findWrongByte_86 rfl ?_
                    refine zk_goto (tgt := 92) dC_findWrongByte_88 (by decide) ?_
                    refine zk_iadd dC_findWrongByte_92 ?_
                    refine zk_istore (ls' := [some (.inr (some 1)), some (.inl (σ 3)), some (.inl (mt_rp (α 3) m : Int)), some (.inl (m : Int)), some (.inl ((α 3 (mt_rp (α 3) m)) / 64)), some (.inl ((α 3 (mt_rp (α 3) m)) % 64)), some (.inl (((mt_rp (α 3) m : Int) + 1) + ((α 3 (mt_rp (α 3) m)) % 64)))]) dC_findWrongByte_93 (by decide) rfl ?_
                    have ebeh : ((mt_rp (α 3) m : Int) + 1) + ((α 3 (mt_rp (α 3) m)) % 64) = (mt_rp (α 3) (m + 1) : Int) := by
                      show _ = ((mt_rp (α 3) m + 1 + (if α 3 (mt_rp (α 3) m) / 64 = 2 then (α 3 (mt_rp (α 3) m) % 64).toNat else 1) : Nat) : Int)
                      rw [if_pos h83]
                      omega
                    rw [ebeh]
                    refine zk_iload dC_findWrongByte_95 rfl ?_
                    refine zk_iload_n dC_findWrongByte_97 rfl ?_
                    refine zk_icmp_le (tgt := 103) dC_findWrongByte_98 (by decide) ⟨by omega, by omega⟩ ⟨by omega, by omega⟩ (fun h98 => ?_) (fun h98 => ?_)
                    · skip
                      refine zk_iload dC_findWrongByte_103 rfl ?_
                      refine zk_iconst dC_findWrongByte_105 ?_
                      refine zk_icmp_eq (tgt := 128) dC_findWrongByte_106 (by decide) ⟨by omega, by omega⟩ ⟨by decide, by decide⟩ (fun h106 => ?_) (fun h106 => ?_)
                      · skip
                        refine zk_iload dC_findWrongByte_128 rfl ?_
                        refine zk_istore_n (ls' := [some (.inr (some 1)), some (.inl (σ 3)), some (.inl ((mt_rp (α 3) (m + 1) : Int))), some (.inl (m : Int)), some (.inl ((α 3 (mt_rp (α 3) m)) / 64)), some (.inl ((α 3 (mt_rp (α 3) m)) % 64)), some (.inl ((mt_rp (α 3) (m + 1) : Int)))]) dC_findWrongByte_130 (by decide) rfl ?_
                        refine zk_iinc (ls' := [some (.inr (some 1)), some (.inl (σ 3)), some (.inl ((mt_rp (α 3) (m + 1) : Int))), some (.inl ((m : Int) + 1)), some (.inl ((α 3 (mt_rp (α 3) m)) / 64)), some (.inl ((α 3 (mt_rp (α 3) m)) % 64)), some (.inl ((mt_rp (α 3) (m + 1) : Int)))]) dC_findWrongByte_131 rfl (by decide) rfl ?_
                        refine zk_goto (tgt := 19) dC_findWrongByte_134 (by decide) ?_
                        have e2 : (m : Int) + 1 = ((m + 1 : Nat) : Int) := by omega
                        rw [e2]
                        refine zk_W.drop 4 rfl (zk_W.drop 5 rfl (zk_W.drop 6 rfl ?_))
                        refine ih (m + 1) (by omega) ⟨by omega, fun k' hk' => ?_⟩
                        by_cases ek : k' = m
                        · subst ek
                          refine ⟨by omega, ⟨by omega, by omega, by omega⟩, by omega, fun hne => ?_⟩
                          first | exact absurd h106 hne | (rw [show mt_rp (α 3) k' + 1 = ((mt_rp (α 3) k' : Int) + 1).toNat by omega]; exact h121)
                        · exact hm.2 k' (by omega)
                      · skip
                        refine zk_aload_n dC_findWrongByte_109 rfl ?_
                        refine zk_get zfC_24 dC_findWrongByte_110 (v := .inr (some 8)) rfl (by decide) rfl ?_
                        refine zk_iload_n dC_findWrongByte_113 rfl ?_
                        refine zk_iconst dC_findWrongByte_114 ?_
                        refine zk_iadd dC_findWrongByte_115 ?_
                        refine zk_callV (av := [.inl ((mt_rp (α 3) m : Int) + 1)]) (st := []) (d' := (1, 21)) (kc' := 0) (ks' := 0) zbC_168 dC_findWrongByte_116 rfl (by decide) rfl rfl (Nat.le_of_ble_eq_true rfl) ⟨by decide, by decide⟩ rfl rfl (kR_get G sw σ α t (q := 3) (by decide) hn3 ⟨by omega, by omega⟩) (fun v9 h9 q9 => ?_)
                        rcases q9 with ⟨rfl, ⟨hg116, rfl⟩ | ⟨hg116, rfl⟩⟩
                        · skip
                          refine zk_W.to (ls' := [some (.inr (some 1)), some (.inl (σ 3)), some (.inl (mt_rp (α 3) m : Int)), some (.inl (m : Int)), some (.inl ((α 3 (mt_rp (α 3) m)) / 64)), some (.inl ((α 3 (mt_rp (α 3) m)) % 64)), some (.inl ((mt_rp (α 3) (m + 1) : Int)))]) (st' := [.inl (α 3 ((mt_rp (α 3) m : Int) + 1).toNat)]) (h' := (zk_mk G sw σ α t)) rfl rfl rfl ?_
                          refine zk_bipush dC_findWrongByte_119 (by decide) ?_
                          refine zk_icmp_le (tgt := 128) dC_findWrongByte_121 (by decide) ⟨by omega, by omega⟩ ⟨by decide, by decide⟩ (fun h121 => ?_) (fun h121 => ?_)
                          · skip
                            refine zk_iload dC_findWrongByte_128 rfl ?_
                            refine zk_istore_n (ls' := [some (.inr (some 1)), some (.inl (σ 3)), some (.inl ((mt_rp (α 3) (m + 1) : Int))), some (.inl (m : Int)), some (.inl ((α 3 (mt_rp (α 3) m)) / 64)), some (.inl ((α 3 (mt_rp (α 3) m)) % 64)), some (.inl ((mt_rp (α 3) (m + 1) : Int)))]) dC_findWrongByte_130 (by decide) rfl ?_
                            refine zk_iinc (ls' := [some (.inr (some 1)), some (.inl (σ 3)), some (.inl ((mt_rp (α 3) (m + 1) : Int))), some (.inl ((m : Int) + 1)), some (.inl ((α 3 (mt_rp (α 3) m)) / 64)), some (.inl ((α 3 (mt_rp (α 3) m)) % 64)), some (.inl ((mt_rp (α 3) (m + 1) : Int)))]) dC_findWrongByte_131 rfl (by decide) rfl ?_
                            refine zk_goto (tgt := 19) dC_findWrongByte_134 (by decide) ?_
                            have e2 : (m : Int) + 1 = ((m + 1 : Nat) : Int) := by omega
                            rw [e2]
                            refine zk_W.drop 4 rfl (zk_W.drop 5 rfl (zk_W.drop 6 rfl ?_))
                            refine ih (m + 1) (by omega) ⟨by omega, fun k' hk' => ?_⟩
                            by_cases ek : k' = m
                            · subst ek
                              refine ⟨by omega, ⟨by omega, by omega, by omega⟩, by omega, fun hne => ?_⟩
                              first | exact absurd h106 hne | (rw [show mt_rp (α 3) k' + 1 = ((mt_rp (α 3) k' : Int) + 1).toNat by omega]; exact h121)
                            · exact hm.2 k' (by omega)
                          · skip
                            have eix : ((mt_rp (α 3) m : Int) + 1).toNat = mt_rp (α 3) m + 1 := by omega
                            have h121' : 79 < α 3 (mt_rp (α 3) m + 1) := by
                              rw [← eix]
                              exact h121
                            refine zk_iload_n dC_findWrongByte_124 rfl ?_
                            refine zk_iconst dC_findWrongByte_125 ?_
                            refine zk_iadd dC_findWrongByte_126 ?_
                            exact zk_iret dC_findWrongByte_127 rfl ⟨rfl, _, Or.inr ⟨by omega, m, hm, Or.inr (Or.inr ⟨by omega, by omega, Or.inr (Or.inr ⟨⟨by omega, by omega, by omega⟩, by omega, h106, h121', rfl⟩)⟩)⟩, rfl⟩
                        · skip
                          exact absurd (⟨by omega, by omega⟩ : 0 ≤ (mt_rp (α 3) m : Int) + 1 ∧ (mt_rp (α 3) m : Int) + 1 < σ 3) hg116
                    · skip
                      refine zk_iload_n dC_findWrongByte_101 rfl ?_
                      exact zk_iret dC_findWrongByte_102 rfl ⟨rfl, _, Or.inr ⟨by omega, m, hm, Or.inr (Or.inr ⟨by omega, by omega, Or.inr (Or.inl ⟨⟨by omega, by omega, by omega⟩, by omega, rfl⟩)⟩)⟩, rfl⟩
                · skip
                  refine zk_iload_n dC_findWrongByte_75 rfl ?_
                  exact zk_iret dC_findWrongByte_76 rfl ⟨rfl, _, Or.inr ⟨by omega, m, hm, Or.inr (Or.inr ⟨by omega, by omega, Or.inl ⟨fun hg => by have g1 := hg.1; have g2 := hg.2.1; have g3 := hg.2.2; omega, rfl⟩⟩)⟩, rfl⟩
          · skip
            exact absurd (⟨by omega, by omega⟩ : 0 ≤ (mt_rp (α 3) m : Int) ∧ (mt_rp (α 3) m : Int) < σ 3) hg48
        · skip
          exact absurd (⟨by omega, by omega⟩ : 0 ≤ (mt_rp (α 3) m : Int) ∧ (mt_rp (α 3) m : Int) < σ 3) hg35

set_option maxRecDepth 100000 in
set_option maxHeartbeats 4000000 in
theorem kC_findWrongByte (G : zk_G) (sw : Bool) (σ : Nat → Int) (α : Nat → Nat → Int) (t : zk_H) (hI : zc_I σ α) : zk_K G mC_findWrongByte (2, 42) 0 0 [.inr (some 1)] (zk_mk G sw σ α t) (fun v h' => h' = (zk_mk G sw σ α t) ∧ ∃ r, mt_rf (α 3) (σ 3) r ∧ v = some (.inl r)) := by
  have hn0 := hI.1 0 (by decide)
  have hn1 := hI.1 1 (by decide)
  have hn2 := hI.1 2 (by decide)
  have hn3 := hI.1 3 (by decide)
  have hn4 := hI.1 4 (by decide)
  have eN0 : (zr_N 0 : Int) = 40 := rfl
  have eN1 : (zr_N 1 : Int) = 40 := rfl
  have eN2 : (zr_N 2 : Int) = 80 := rfl
  have eN3 : (zr_N 3 : Int) = 4102 := rfl
  have eN4 : (zr_N 4 : Int) = 4000 := rfl
  have hv0 := hI.2.1 0 (by decide)
  have hv1 := hI.2.1 1 (by decide)
  have hv2 := hI.2.1 2 (by decide)
  have hv3 := hI.2.1 3 (by decide)
  have hv4 := hI.2.1 4 (by decide)
  have hc := hI.2.2.1
  have hs10 := hI.2.2.2.1
  have hs11 := hI.2.2.2.2.1
  have ha := hI.2.2.2.2.2.1
  refine zk_K.of (ls := [some (.inr (some 1)), none, none, none, none, none, none]) (by decide +kernel) (Nat.le_of_ble_eq_true rfl) rfl ?_
  refine zk_aload_n dC_findWrongByte_0 rfl ?_
  refine zk_get zfC_24 dC_findWrongByte_1 (v := .inr (some 8)) rfl (by decide) rfl ?_
  refine zk_callV (av := []) (st := []) (d' := (0, 0)) (kc' := 0) (ks' := 0) zbC_50 dC_findWrongByte_4 rfl (by decide) rfl rfl (Nat.le_of_ble_eq_true rfl) ⟨by decide, by decide⟩ rfl rfl (kR_length G sw σ α t (q := 3) (by decide)) (fun v9 h9 q9 => ?_)
  obtain ⟨rfl, rfl⟩ := q9
  refine zk_W.to (ls' := [some (.inr (some 1)), none, none, none, none, none, none]) (st' := [.inl (σ 3)]) (h' := (zk_mk G sw σ α t)) rfl rfl rfl ?_
  refine zk_istore_n (ls' := [some (.inr (some 1)), some (.inl (σ 3)), none, none, none, none, none]) dC_findWrongByte_7 (by decide) rfl ?_
  refine zk_iload_n dC_findWrongByte_8 rfl ?_
  refine zk_iconst dC_findWrongByte_9 ?_
  refine zk_icmp_ge (tgt := 15) dC_findWrongByte_10 (by decide) ⟨by omega, by omega⟩ ⟨by decide, by decide⟩ (fun h10 => ?_) (fun h10 => ?_)
  · skip
    refine zk_iconst dC_findWrongByte_15 ?_
    refine zk_istore_n (ls' := [some (.inr (some 1)), some (.inl (σ 3)), some (.inl 2), none, none, none, none]) dC_findWrongByte_16 (by decide) rfl ?_
    refine zk_iconst dC_findWrongByte_17 ?_
    refine zk_istore_n (ls' := [some (.inr (some 1)), some (.inl (σ 3)), some (.inl 2), some (.inl 0), none, none, none]) dC_findWrongByte_18 (by decide) rfl ?_
    exact wC_find G sw σ α t hI (by omega) 101 0 (by omega) ⟨by omega, fun k' hk' => absurd hk' (Nat.not_lt_zero k')⟩
  · skip
    refine zk_iload_n dC_findWrongByte_13 rfl ?_
    exact zk_iret dC_findWrongByte_14 rfl ⟨rfl, σ 3, Or.inl ⟨by omega, rfl⟩, rfl⟩
