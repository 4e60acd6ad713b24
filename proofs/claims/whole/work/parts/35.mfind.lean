/-- acts that attain the rest, in the reference -/
def zm_A (τ : Nat → Int) (β : Nat → Nat → Int) (i s k p n : Nat) : Prop := mt_at (zm_T β 0) (zm_n β 0) (zm_T β 1) (zm_n β 1) (zm_c τ) (mt_tb (β 8)) i s k p n
def zm_B (τ : Nat → Int) (β : Nat → Nat → Int) (i s k p n : Nat) : Prop := mt_best (zm_T β 0) (zm_n β 0) (zm_T β 1) (zm_n β 1) (zm_c τ) (mt_tb (β 8)) i s k p n
/-- none of the kinds below k, none of kind k that makes more than m -/
def mt_E (A : Nat → Nat → Nat → Prop) (k m : Nat) : Prop := ∀ k' p' n', A k' p' n' → ¬ (k' < k ∨ (k' = k ∧ m < n'))
theorem mt_E_best {τ : Nat → Int} {β : Nat → Nat → Int} {i s k p n : Nat} (h : mt_E (zm_A τ β i s) k n) (hp : ∀ p', p' < p → ¬ zm_A τ β i s k p' n) (hA : zm_A τ β i s k p n) : zm_B τ β i s k p n := by
  refine ⟨hA.1, hA.2, fun k' p' n' h1 h2 => ?_⟩
  have h3 := h k' p' n' ⟨h1, h2⟩
  by_cases e : k < k'
  · exact Or.inl e
  · have ek : k' = k := by omega
    subst ek
    refine Or.inr ⟨rfl, ?_⟩
    by_cases e2 : n' < n
    · exact Or.inl e2
    · have en : n' = n := by omega
      subst en
      refine Or.inr ⟨rfl, ?_⟩
      by_cases e3 : p ≤ p'
      · exact e3
      · exact absurd ⟨h1, h2⟩ (hp p' (by omega))
theorem zm_A_1 {τ : Nat → Int} {β : Nat → Nat → Int} {i s k p n : Nat} (h : zm_A τ β i s k p n) : 1 ≤ n ∧ i + n ≤ zm_n β 1 ∧ k ≤ 2 ∧ (k = 0 → p < zm_n β 0) ∧ (k = 1 → p < i) ∧ (k = 2 → p = 0) := by
  obtain ⟨⟨x1, x2, ⟨x3, x4, -⟩ | ⟨x3, x4, -⟩ | ⟨x3, x4⟩⟩, -⟩ := h <;> refine ⟨x1, x2, by omega, fun _ => by omega, fun _ => by omega, fun _ => by omega⟩
theorem zm_A_c {τ : Nat → Int} {β : Nat → Nat → Int} {i s p n : Nat} (h : zm_A τ β i s 0 p n) : n ≤ mt_len (zm_T β 0) (zm_T β 1) p i (min (zm_n β 0 - p) (zm_n β 1 - i)) := by
  obtain ⟨⟨h1, h2, ⟨-, h3, h4⟩ | ⟨h3, -⟩ | ⟨h3, -⟩⟩, -⟩ := h
  · exact mt_le_len (by omega) h4
  · omega
  · omega
theorem zm_A_s {τ : Nat → Int} {β : Nat → Nat → Int} {i s p n : Nat} (h : zm_A τ β i s 1 p n) : n ≤ mt_len (zm_T β 1) (zm_T β 1) p i (min (zm_n β 1 - p) (zm_n β 1 - i)) := by
  obtain ⟨⟨h1, h2, ⟨h3, -⟩ | ⟨-, h3, h4⟩ | ⟨h3, -⟩⟩, -⟩ := h
  · omega
  · exact mt_le_len (by omega) h4
  · omega

set_option maxRecDepth 100000 in
set_option maxHeartbeats 4000000 in
theorem wM_find_p0 (G : zk_G) (sw : Bool) (σ : Nat → Int) (α : Nat → Nat → Int) (τ : Nat → Int) (β : Nat → Nat → Int) (t : zk_H) (hI : zm_I τ β) (hK : zm_K τ β) {i s : Nat} (hi : i < zm_n β 1) (hs : s ≤ zm_n β 0) {n : Nat} (hn : 1 ≤ n) (hn2 : i + n ≤ zm_n β 1) (hE : mt_E (zm_A τ β i s) 0 n) (hk : mt_E (zm_A τ β i s) 0 (n - 1) → zk_W G mM_find (2, 46) 0 0 186 [some (.inr (some 22)), some (.inl (i : Int)), some (.inl (s : Int)), some (.inl (mt_tb (β 8) i s)), some (.inl 0), some (.inl (n : Int)), none, none, none, none] [] (zk_mk G sw σ α (zk_md τ β t)) (fun v h' => v = none ∧ ∃ k p n : Nat, zm_B τ β i s k p n ∧ h' = zk_mk G sw σ α (zk_md (zk_up (zk_up (zk_up τ 10 (k : Int)) 11 (p : Int)) 12 (n : Int)) β t))) : ∀ (k : Nat) (p : Nat), (p ≤ zm_n β 0) → (zm_n β 0 < p + k) → (∀ p', p' < p → ¬ zm_A τ β i s 0 p' n) → zk_W G mM_find (2, 46) 0 0 66 [some (.inr (some 22)), some (.inl (i : Int)), some (.inl (s : Int)), some (.inl (mt_tb (β 8) i s)), some (.inl 0), some (.inl (n : Int)), some (.inl (β 1 0)), some (.inl (p : Int)), none, none] [] (zk_mk G sw σ α (zk_md τ β t)) (fun v h' => v = none ∧ ∃ k p n : Nat, zm_B τ β i s k p n ∧ h' = zk_mk G sw σ α (zk_md (zk_up (zk_up (zk_up τ 10 (k : Int)) 11 (p : Int)) 12 (n : Int)) β t)) := by
  intro k
  induction k with
  | zero =>
    intro p g1 g2 g3
    exfalso
    omega
  | succ k ih =>
    intro p g1 g2 g3
    have i0 := hI.1
    have i1 := hI.2.1
    have c0 : 0 ≤ τ 0 ∧ τ 0 ≤ 100 := hI.2.2.2 0 (by decide)
    have c1 : 0 ≤ τ 1 ∧ τ 1 ≤ 100 := hI.2.2.2 1 (by decide)
    have c2 : 0 ≤ τ 2 ∧ τ 2 ≤ 100 := hI.2.2.2 2 (by decide)
    have c3 : 0 ≤ τ 3 ∧ τ 3 ≤ 100 := hI.2.2.2 3 (by decide)
    have c4 : 0 ≤ τ 4 ∧ τ 4 ≤ 100 := hI.2.2.2 4 (by decide)
    have eO : zm_n β 0 = (β 1 0).toNat := rfl
    have eN : zm_n β 1 = (β 1 1).toNat := rfl
    have hdue := hK.2 i s (by omega) hs
    have hll := mt_len_le (zm_T β 0) (zm_T β 1) (min (zm_n β 0 - p) (zm_n β 1 - i)) p i
    refine zk_iload dM_find_66 rfl ?_
    refine zk_iload dM_find_68 rfl ?_
    refine zk_icmp_ge (tgt := 186) dM_find_70 (by decide) ⟨by omega, by omega⟩ ⟨by omega, by omega⟩ (fun h70 => ?_) (fun h70 => ?_)
    · skip
      refine zk_W.drop 6 rfl (zk_W.drop 7 rfl ?_)
      refine hk (fun k' p' n' hA hx => ?_)
      have ha1 := zm_A_1 hA
      by_cases e : k' = 0 ∧ n' = n
      · obtain ⟨rfl, rfl⟩ := e
        exact g3 p' (by omega) hA
      · exact hE k' p' n' hA (by omega)
    · skip
      refine zk_iload dM_find_73 rfl ?_
      refine zk_iconst dM_find_75 ?_
      refine zk_icmp_eq (tgt := 93) dM_find_76 (by decide) ⟨by decide, by decide⟩ ⟨by decide, by decide⟩ (fun h76 => ?_) (fun h76 => ?_)
      · skip
        exact absurd h76 (by decide)
      · skip
        refine zk_aload_n dM_find_79 rfl ?_
        refine zk_iload dM_find_80 rfl ?_
        refine zk_iload dM_find_82 rfl ?_
        refine zk_iload_n dM_find_84 rfl ?_
        refine zk_callV (av := [.inl 0, .inl (p : Int), .inl (i : Int)]) (st := []) (d' := (1, 22)) (kc' := 0) (ks' := 0) zbM_82 dM_find_85 rfl (by decide) rfl rfl (Nat.le_of_ble_eq_true rfl) ⟨by decide, by decide⟩ rfl rfl (kM_like G sw σ α τ β t hI (q := 0) (by decide) (p := p) (i := i) (show (p : Int) ≤ β 1 0 by omega) (show (i : Int) ≤ β 1 1 by omega)) (fun v9 h9 q9 => ?_)
        obtain ⟨rfl, rfl⟩ := q9
        refine zk_W.to (ls' := [some (.inr (some 22)), some (.inl (i : Int)), some (.inl (s : Int)), some (.inl (mt_tb (β 8) i s)), some (.inl 0), some (.inl (n : Int)), some (.inl (β 1 0)), some (.inl (p : Int)), none, none]) (st' := [.inl ((mt_len (zm_T β 0) (zm_T β 1) p i (min (zm_n β 0 - p) (zm_n β 1 - i)) : Int))]) (h' := (zk_mk G sw σ α (zk_md τ β t))) rfl rfl rfl ?_
        refine zk_iload dM_find_88 rfl ?_
        refine zk_icmp_lt (tgt := 97) dM_find_90 (by decide) ⟨by omega, by omega⟩ ⟨by omega, by omega⟩ (fun h90 => ?_) (fun h90 => ?_)
        · skip
          refine zk_iconst dM_find_97 ?_
          refine zk_istore (ls' := [some (.inr (some 22)), some (.inl (i : Int)), some (.inl (s : Int)), some (.inl (mt_tb (β 8) i s)), some (.inl 0), some (.inl (n : Int)), some (.inl (β 1 0)), some (.inl (p : Int)), some (.inl 0), none]) dM_find_98 (by decide) rfl ?_
          refine zk_iload dM_find_100 rfl ?_
          refine zk_if_eq (tgt := 130) dM_find_102 (by decide) ⟨by decide, by decide⟩ (fun h102 => ?_) (fun h102 => ?_)
          · skip
            refine zk_iconst dM_find_130 ?_
            refine zk_istore (ls' := [some (.inr (some 22)), some (.inl (i : Int)), some (.inl (s : Int)), some (.inl (mt_tb (β 8) i s)), some (.inl 0), some (.inl (n : Int)), some (.inl (β 1 0)), some (.inl (p : Int)), some (.inl 0), some (.inl 0)]) dM_find_131 (by decide) rfl ?_
            refine zk_iload dM_find_133 rfl ?_
            refine zk_if_eq (tgt := 180) dM_find_135 (by decide) ⟨by decide, by decide⟩ (fun h135 => ?_) (fun h135 => ?_)
            · skip
              refine zk_iinc (ls' := [some (.inr (some 22)), some (.inl (i : Int)), some (.inl (s : Int)), some (.inl (mt_tb (β 8) i s)), some (.inl 0), some (.inl (n : Int)), some (.inl (β 1 0)), some (.inl ((p : Int) + 1)), some (.inl 0), some (.inl 0)]) dM_find_180 rfl (by decide) rfl ?_
              refine zk_goto (tgt := 66) dM_find_183 (by decide) ?_
              have e2 : (p : Int) + 1 = ((p + 1 : Nat) : Int) := by omega
              rw [e2]
              refine zk_W.drop 8 rfl (zk_W.drop 9 rfl ?_)
              refine ih (p + 1) (by omega) (by omega) (fun p' hp' hA => ?_)
              by_cases e : p' = p
              · subst e
                have hm := zm_A_c hA
                first | (exfalso; omega) | exact h158 (hat.mp hA)
              · exact g3 p' (by omega) hA
            · skip
              exact absurd h135 (by decide)
          · skip
            exact absurd h102 (by decide)
        · skip
          refine zk_iconst dM_find_93 ?_
          refine zk_goto (tgt := 98) dM_find_94 (by decide) ?_
          refine zk_istore (ls' := [some (.inr (some 22)), some (.inl (i : Int)), some (.inl (s : Int)), some (.inl (mt_tb (β 8) i s)), some (.inl 0), some (.inl (n : Int)), some (.inl (β 1 0)), some (.inl (p : Int)), some (.inl 1), none]) dM_find_98 (by decide) rfl ?_
          refine zk_iload dM_find_100 rfl ?_
          refine zk_if_eq (tgt := 130) dM_find_102 (by decide) ⟨by decide, by decide⟩ (fun h102 => ?_) (fun h102 => ?_)
          · skip
            exact absurd h102 (by decide)
          · skip
            have hmay : n ≤ mt_len (zm_T β 0) (zm_T β 1) p i (min (zm_n β 0 - p) (zm_n β 1 - i)) := by omega
            have hok : zm_ok β i 0 p n := ⟨by omega, by omega, Or.inl ⟨rfl, by omega, fun t' ht => mt_len_lt (m := min (zm_n β 0 - p) (zm_n β 1 - i)) (by omega)⟩⟩
            have ea : β 8 (41 * ((i : Int) + (n : Int)) + ((p : Int) + (n : Int))).toNat = mt_tb (β 8) (i + n) (p + n) := by
              rw [show (41 * ((i : Int) + (n : Int)) + ((p : Int) + (n : Int))).toNat = 41 * (i + n) + (p + n) by omega]
              rfl
            have fL : 0 ≤ β 8 (41 * ((i : Int) + (n : Int)) + ((p : Int) + (n : Int))).toNat ∧ β 8 (41 * ((i : Int) + (n : Int)) + ((p : Int) + (n : Int))).toNat ≤ 4100 := by
              rw [ea]
              exact hK.2 (i + n) (p + n) (by omega) (by omega)
            have ec : mt_c (zm_c τ) s 0 p n = (if (p : Int) = (s : Int) then τ 0 else τ 0 + τ 1) := by
              unfold mt_c
              rw [if_pos rfl]
              by_cases hps : p = s
              · rw [if_pos hps, if_pos (by omega)]; rfl
              · rw [if_neg hps, if_neg (by omega)]; rfl
            have er := mt_c_rg (s := s) (c := zm_c τ) hI.2.2.2 (by omega) hok
            rw [ec] at er
            have hat : zm_A τ β i s 0 p n ↔ (if (p : Int) = (s : Int) then τ 0 else τ 0 + τ 1) + β 8 (41 * ((i : Int) + (n : Int)) + ((p : Int) + (n : Int))).toNat = mt_tb (β 8) i s := by
              rw [ea, ← ec]
              have h3 : mt_s s 0 p n = (p + n) := rfl
              constructor
              · intro hA
                have h4 := hA.2
                rw [h3] at h4
                exact h4.symm
              · intro h4
                refine ⟨hok, ?_⟩
                rw [h3]
                exact h4.symm
            refine zk_bipush dM_find_105 (by decide) ?_
            refine zk_iload_n dM_find_107 rfl ?_
            refine zk_iload dM_find_108 rfl ?_
            refine zk_iadd dM_find_110 ?_
            refine zk_imul dM_find_111 ?_
            refine zk_iload dM_find_112 rfl ?_
            refine zk_if_ne (tgt := 125) dM_find_114 (by decide) ⟨by decide, by decide⟩ (fun h114 => ?_) (fun h114 => ?_)
            · skip
              exact absurd h114 (by decide)
            · skip
              refine zk_iload dM_find_117 rfl ?_
              refine zk_iload dM_find_119 rfl ?_
              refine zk_iadd dM_find_121 ?_
              refine zk_goto (tgt := 126) dM_find_122 (by decide) ?_
              refine zk_iadd dM_find_126 ?_
              refine zk_goto (tgt := 131) dM_find_127 (by decide) ?_
              refine zk_istore (ls' := [some (.inr (some 22)), some (.inl (i : Int)), some (.inl (s : Int)), some (.inl (mt_tb (β 8) i s)), some (.inl 0), some (.inl (n : Int)), some (.inl (β 1 0)), some (.inl (p : Int)), some (.inl 1), some (.inl ((41 * ((i : Int) + (n : Int))) + ((p : Int) + (n : Int))))]) dM_find_131 (by decide) rfl ?_
              refine zk_iload dM_find_133 rfl ?_
              refine zk_if_eq (tgt := 180) dM_find_135 (by decide) ⟨by decide, by decide⟩ (fun h135 => ?_) (fun h135 => ?_)
              · skip
                exact absurd h135 (by decide)
              · skip
                refine zk_aload_n dM_find_138 rfl ?_
                refine zk_iload dM_find_139 rfl ?_
                refine zk_iload dM_find_141 rfl ?_
                refine zk_iload dM_find_143 rfl ?_
                refine zk_iload_n dM_find_145 rfl ?_
                refine zk_callV (av := [.inl 0, .inl (p : Int), .inl (n : Int), .inl (s : Int)]) (st := []) (d' := (0, 0)) (kc' := 0) (ks' := 0) zbM_86 dM_find_146 rfl (by decide) rfl rfl (Nat.le_of_ble_eq_true rfl) ⟨by decide, by decide⟩ rfl rfl (kM_costOf G sw σ α τ β t (n := (n : Int)) ⟨by decide, by decide⟩ ⟨by omega, by omega⟩ ⟨by omega, by omega⟩) (fun v9 h9 q9 => ?_)
                obtain ⟨rfl, rfl⟩ := q9
                refine zk_W.to (ls' := [some (.inr (some 22)), some (.inl (i : Int)), some (.inl (s : Int)), some (.inl (mt_tb (β 8) i s)), some (.inl 0), some (.inl (n : Int)), some (.inl (β 1 0)), some (.inl (p : Int)), some (.inl 1), some (.inl ((41 * ((i : Int) + (n : Int))) + ((p : Int) + (n : Int))))]) (st' := [.inl (if (p : Int) = (s : Int) then τ 0 else τ 0 + τ 1)]) (h' := (zk_mk G sw σ α (zk_md τ β t))) rfl rfl rfl ?_
                refine zk_aload_n dM_find_149 rfl ?_
                refine zk_get zfM_34 dM_find_150 (v := .inr (some 31)) rfl (by decide) rfl ?_
                refine zk_iload dM_find_153 rfl ?_
                refine zk_iald dM_find_155 (n := 1681) (f := β 8) rfl (by omega) (by omega) (by omega) ?_
                refine zk_iadd dM_find_156 ?_
                refine zk_iload_n dM_find_157 rfl ?_
                refine zk_icmp_ne (tgt := 180) dM_find_158 (by decide) ⟨by omega, by omega⟩ ⟨by omega, by omega⟩ (fun h158 => ?_) (fun h158 => ?_)
                · skip
                  refine zk_iinc (ls' := [some (.inr (some 22)), some (.inl (i : Int)), some (.inl (s : Int)), some (.inl (mt_tb (β 8) i s)), some (.inl 0), some (.inl (n : Int)), some (.inl (β 1 0)), some (.inl ((p : Int) + 1)), some (.inl 1), some (.inl ((41 * ((i : Int) + (n : Int))) + ((p : Int) + (n : Int))))]) dM_find_180 rfl (by decide) rfl ?_
                  refine zk_goto (tgt := 66) dM_find_183 (by decide) ?_
                  have e2 : (p : Int) + 1 = ((p + 1 : Nat) : Int) := by omega
                  rw [e2]
                  refine zk_W.drop 8 rfl (zk_W.drop 9 rfl ?_)
                  refine ih (p + 1) (by omega) (by omega) (fun p' hp' hA => ?_)
                  by_cases e : p' = p
                  · subst e
                    have hm := zm_A_c hA
                    first | (exfalso; omega) | exact h158 (hat.mp hA)
                  · exact g3 p' (by omega) hA
                · skip
                  refine zk_aload_n dM_find_161 rfl ?_
                  refine zk_iload dM_find_162 rfl ?_
                  refine zk_put zfM_94 dM_find_164 (h' := (zk_mk G sw σ α (zk_md (zk_up τ 10 0) β t))) rfl (by decide) (Nat.le_of_ble_eq_true rfl) rfl rfl rfl ?_
                  refine zk_aload_n dM_find_167 rfl ?_
                  refine zk_iload dM_find_168 rfl ?_
                  refine zk_put zfM_97 dM_find_170 (h' := (zk_mk G sw σ α (zk_md (zk_up (zk_up τ 10 0) 11 (p : Int)) β t))) rfl (by decide) (Nat.le_of_ble_eq_true rfl) rfl rfl rfl ?_
                  refine zk_aload_n dM_find_173 rfl ?_
                  refine zk_iload dM_find_174 rfl ?_
                  refine zk_put zfM_100 dM_find_176 (h' := (zk_mk G sw σ α (zk_md (zk_up (zk_up (zk_up τ 10 0) 11 (p : Int)) 12 (n : Int)) β t))) rfl (by decide) (Nat.le_of_ble_eq_true rfl) rfl rfl rfl ?_
                  refine zk_ret dM_find_179 rfl ⟨rfl, 0, p, n, mt_E_best hE g3 (hat.mpr h158), ?_⟩
                  rfl

set_option maxRecDepth 100000 in
set_option maxHeartbeats 4000000 in
theorem wM_find_n0 (G : zk_G) (sw : Bool) (σ : Nat → Int) (α : Nat → Nat → Int) (τ : Nat → Int) (β : Nat → Nat → Int) (t : zk_H) (hI : zm_I τ β) (hK : zm_K τ β) {i s : Nat} (hi : i < zm_n β 1) (hs : s ≤ zm_n β 0) (hk : mt_E (zm_A τ β i s) 1 40 → zk_W G mM_find (2, 46) 0 0 192 [some (.inr (some 22)), some (.inl (i : Int)), some (.inl (s : Int)), some (.inl (mt_tb (β 8) i s)), some (.inl 0), none, none, none, none, none] [] (zk_mk G sw σ α (zk_md τ β t)) (fun v h' => v = none ∧ ∃ k p n : Nat, zm_B τ β i s k p n ∧ h' = zk_mk G sw σ α (zk_md (zk_up (zk_up (zk_up τ 10 (k : Int)) 11 (p : Int)) 12 (n : Int)) β t))) : ∀ (n : Nat), i + n ≤ zm_n β 1 → mt_E (zm_A τ β i s) 0 n → zk_W G mM_find (2, 46) 0 0 31 [some (.inr (some 22)), some (.inl (i : Int)), some (.inl (s : Int)), some (.inl (mt_tb (β 8) i s)), some (.inl 0), some (.inl (n : Int)), none, none, none, none] [] (zk_mk G sw σ α (zk_md τ β t)) (fun v h' => v = none ∧ ∃ k p n : Nat, zm_B τ β i s k p n ∧ h' = zk_mk G sw σ α (zk_md (zk_up (zk_up (zk_up τ 10 (k : Int)) 11 (p : Int)) 12 (n : Int)) β t)) := by
  intro n
  induction n with
  | zero =>
    intro hn2 hE
    have i0 := hI.1
    have i1 := hI.2.1
    have c0 : 0 ≤ τ 0 ∧ τ 0 ≤ 100 := hI.2.2.2 0 (by decide)
    have c1 : 0 ≤ τ 1 ∧ τ 1 ≤ 100 := hI.2.2.2 1 (by decide)
    have c2 : 0 ≤ τ 2 ∧ τ 2 ≤ 100 := hI.2.2.2 2 (by decide)
    have c3 : 0 ≤ τ 3 ∧ τ 3 ≤ 100 := hI.2.2.2 3 (by decide)
    have c4 : 0 ≤ τ 4 ∧ τ 4 ≤ 100 := hI.2.2.2 4 (by decide)
    have eO : zm_n β 0 = (β 1 0).toNat := rfl
    have eN : zm_n β 1 = (β 1 1).toNat := rfl
    have hdue := hK.2 i s (by omega) hs
    refine zk_iload dM_find_31 rfl ?_
    refine zk_if_le (tgt := 192) dM_find_33 (by decide) ⟨by omega, by omega⟩ (fun h33 => ?_) (fun h33 => ?_)
    · skip
      refine zk_W.drop 5 rfl ?_
      refine hk (fun k' p' n' hA hx => ?_)
      have ha1 := zm_A_1 hA
      exact hE k' p' n' hA (by omega)
    · skip
      exfalso; omega
  | succ n ih =>
    intro hn2 hE
    have i0 := hI.1
    have i1 := hI.2.1
    have c0 : 0 ≤ τ 0 ∧ τ 0 ≤ 100 := hI.2.2.2 0 (by decide)
    have c1 : 0 ≤ τ 1 ∧ τ 1 ≤ 100 := hI.2.2.2 1 (by decide)
    have c2 : 0 ≤ τ 2 ∧ τ 2 ≤ 100 := hI.2.2.2 2 (by decide)
    have c3 : 0 ≤ τ 3 ∧ τ 3 ≤ 100 := hI.2.2.2 3 (by decide)
    have c4 : 0 ≤ τ 4 ∧ τ 4 ≤ 100 := hI.2.2.2 4 (by decide)
    have eO : zm_n β 0 = (β 1 0).toNat := rfl
    have eN : zm_n β 1 = (β 1 1).toNat := rfl
    have hdue := hK.2 i s (by omega) hs
    refine zk_iload dM_find_31 rfl ?_
    refine zk_if_le (tgt := 192) dM_find_33 (by decide) ⟨by omega, by omega⟩ (fun h33 => ?_) (fun h33 => ?_)
    · skip
      exfalso; omega
    · skip
      refine zk_iload dM_find_36 rfl ?_
      refine zk_if_ne (tgt := 50) dM_find_38 (by decide) ⟨by decide, by decide⟩ (fun h38 => ?_) (fun h38 => ?_)
      · skip
        exact absurd h38 (by decide)
      · skip
        refine zk_aload_n dM_find_41 rfl ?_
        refine zk_get zfM_13 dM_find_42 (v := .inr (some 24)) rfl (by decide) rfl ?_
        refine zk_iconst dM_find_45 ?_
        refine zk_iald dM_find_46 (n := 2) (f := β 1) rfl (by omega) (by omega) (by omega) ?_
        refine zk_W.to (ls' := [some (.inr (some 22)), some (.inl (i : Int)), some (.inl (s : Int)), some (.inl (mt_tb (β 8) i s)), some (.inl 0), some (.inl ((n + 1 : Nat) : Int)), none, none, none, none]) (st' := [.inl (β 1 0)]) (h' := (zk_mk G sw σ α (zk_md τ β t))) rfl rfl rfl ?_
        refine zk_goto (tgt := 61) dM_find_47 (by decide) ?_
        refine zk_istore (ls' := [some (.inr (some 22)), some (.inl (i : Int)), some (.inl (s : Int)), some (.inl (mt_tb (β 8) i s)), some (.inl 0), some (.inl ((n + 1 : Nat) : Int)), some (.inl (β 1 0)), none, none, none]) dM_find_61 (by decide) rfl ?_
        refine zk_iconst dM_find_63 ?_
        refine zk_istore (ls' := [some (.inr (some 22)), some (.inl (i : Int)), some (.inl (s : Int)), some (.inl (mt_tb (β 8) i s)), some (.inl 0), some (.inl ((n + 1 : Nat) : Int)), some (.inl (β 1 0)), some (.inl 0), none, none]) dM_find_64 (by decide) rfl ?_
        refine wM_find_p0 G sw σ α τ β t hI hK hi hs (n := n + 1) (by omega) (by omega) hE (fun hE => ?_) (zm_n β 0 + 1) 0 (by omega) (by omega) (fun p' hp' => absurd hp' (Nat.not_lt_zero p'))
        refine zk_iinc (ls' := [some (.inr (some 22)), some (.inl (i : Int)), some (.inl (s : Int)), some (.inl (mt_tb (β 8) i s)), some (.inl 0), some (.inl (((n + 1 : Nat) : Int) + (-1))), none, none, none, none]) dM_find_186 rfl (by decide) rfl ?_
        refine zk_goto (tgt := 31) dM_find_189 (by decide) ?_
        have e2 : ((n + 1 : Nat) : Int) + (-1) = (n : Int) := by omega
        rw [e2]
        exact ih (by omega) hE

set_option maxRecDepth 100000 in
set_option maxHeartbeats 4000000 in
theorem wM_find_p1 (G : zk_G) (sw : Bool) (σ : Nat → Int) (α : Nat → Nat → Int) (τ : Nat → Int) (β : Nat → Nat → Int) (t : zk_H) (hI : zm_I τ β) (hK : zm_K τ β) {i s : Nat} (hi : i < zm_n β 1) (hs : s ≤ zm_n β 0) {n : Nat} (hn : 1 ≤ n) (hn2 : i + n ≤ zm_n β 1) (hE : mt_E (zm_A τ β i s) 1 n) (hk : mt_E (zm_A τ β i s) 1 (n - 1) → zk_W G mM_find (2, 46) 0 0 186 [some (.inr (some 22)), some (.inl (i : Int)), some (.inl (s : Int)), some (.inl (mt_tb (β 8) i s)), some (.inl 1), some (.inl (n : Int)), none, none, none, none] [] (zk_mk G sw σ α (zk_md τ β t)) (fun v h' => v = none ∧ ∃ k p n : Nat, zm_B τ β i s k p n ∧ h' = zk_mk G sw σ α (zk_md (zk_up (zk_up (zk_up τ 10 (k : Int)) 11 (p : Int)) 12 (n : Int)) β t))) : ∀ (k : Nat) (p : Nat), (p ≤ i) → (i < p + k) → (∀ p', p' < p → ¬ zm_A τ β i s 1 p' n) → zk_W G mM_find (2, 46) 0 0 66 [some (.inr (some 22)), some (.inl (i : Int)), some (.inl (s : Int)), some (.inl (mt_tb (β 8) i s)), some (.inl 1), some (.inl (n : Int)), some (.inl (i : Int)), some (.inl (p : Int)), none, none] [] (zk_mk G sw σ α (zk_md τ β t)) (fun v h' => v = none ∧ ∃ k p n : Nat, zm_B τ β i s k p n ∧ h' = zk_mk G sw σ α (zk_md (zk_up (zk_up (zk_up τ 10 (k : Int)) 11 (p : Int)) 12 (n : Int)) β t)) := by
  intro k
  induction k with
  | zero =>
    intro p g1 g2 g3
    exfalso
    omega
  | succ k ih =>
    intro p g1 g2 g3
    have i0 := hI.1
    have i1 := hI.2.1
    have c0 : 0 ≤ τ 0 ∧ τ 0 ≤ 100 := hI.2.2.2 0 (by decide)
    have c1 : 0 ≤ τ 1 ∧ τ 1 ≤ 100 := hI.2.2.2 1 (by decide)
    have c2 : 0 ≤ τ 2 ∧ τ 2 ≤ 100 := hI.2.2.2 2 (by decide)
    have c3 : 0 ≤ τ 3 ∧ τ 3 ≤ 100 := hI.2.2.2 3 (by decide)
    have c4 : 0 ≤ τ 4 ∧ τ 4 ≤ 100 := hI.2.2.2 4 (by decide)
    have eO : zm_n β 0 = (β 1 0).toNat := rfl
    have eN : zm_n β 1 = (β 1 1).toNat := rfl
    have hdue := hK.2 i s (by omega) hs
    have hll := mt_len_le (zm_T β 1) (zm_T β 1) (min (zm_n β 1 - p) (zm_n β 1 - i)) p i
    refine zk_iload dM_find_66 rfl ?_
    refine zk_iload dM_find_68 rfl ?_
    refine zk_icmp_ge (tgt := 186) dM_find_70 (by decide) ⟨by omega, by omega⟩ ⟨by omega, by omega⟩ (fun h70 => ?_) (fun h70 => ?_)
    · skip
      refine zk_W.drop 6 rfl (zk_W.drop 7 rfl ?_)
      refine hk (fun k' p' n' hA hx => ?_)
      have ha1 := zm_A_1 hA
      by_cases e : k' = 1 ∧ n' = n
      · obtain ⟨rfl, rfl⟩ := e
        exact g3 p' (by omega) hA
      · exact hE k' p' n' hA (by omega)
    · skip
      refine zk_iload dM_find_73 rfl ?_
      refine zk_iconst dM_find_75 ?_
      refine zk_icmp_eq (tgt := 93) dM_find_76 (by decide) ⟨by decide, by decide⟩ ⟨by decide, by decide⟩ (fun h76 => ?_) (fun h76 => ?_)
      · skip
        exact absurd h76 (by decide)
      · skip
        refine zk_aload_n dM_find_79 rfl ?_
        refine zk_iload dM_find_80 rfl ?_
        refine zk_iload dM_find_82 rfl ?_
        refine zk_iload_n dM_find_84 rfl ?_
        refine zk_callV (av := [.inl 1, .inl (p : Int), .inl (i : Int)]) (st := []) (d' := (1, 22)) (kc' := 0) (ks' := 0) zbM_82 dM_find_85 rfl (by decide) rfl rfl (Nat.le_of_ble_eq_true rfl) ⟨by decide, by decide⟩ rfl rfl (kM_like G sw σ α τ β t hI (q := 1) (by decide) (p := p) (i := i) (show (p : Int) ≤ β 1 1 by omega) (show (i : Int) ≤ β 1 1 by omega)) (fun v9 h9 q9 => ?_)
        obtain ⟨rfl, rfl⟩ := q9
        refine zk_W.to (ls' := [some (.inr (some 22)), some (.inl (i : Int)), some (.inl (s : Int)), some (.inl (mt_tb (β 8) i s)), some (.inl 1), some (.inl (n : Int)), some (.inl (i : Int)), some (.inl (p : Int)), none, none]) (st' := [.inl ((mt_len (zm_T β 1) (zm_T β 1) p i (min (zm_n β 1 - p) (zm_n β 1 - i)) : Int))]) (h' := (zk_mk G sw σ α (zk_md τ β t))) rfl rfl rfl ?_
        refine zk_iload dM_find_88 rfl ?_
        refine zk_icmp_lt (tgt := 97) dM_find_90 (by decide) ⟨by omega, by omega⟩ ⟨by omega, by omega⟩ (fun h90 => ?_) (fun h90 => ?_)
        · skip
          refine zk_iconst dM_find_97 ?_
          refine zk_istore (ls' := [some (.inr (some 22)), some (.inl (i : Int)), some (.inl (s : Int)), some (.inl (mt_tb (β 8) i s)), some (.inl 1), some (.inl (n : Int)), some (.inl (i : Int)), some (.inl (p : Int)), some (.inl 0), none]) dM_find_98 (by decide) rfl ?_
          refine zk_iload dM_find_100 rfl ?_
          refine zk_if_eq (tgt := 130) dM_find_102 (by decide) ⟨by decide, by decide⟩ (fun h102 => ?_) (fun h102 => ?_)
          · skip
            refine zk_iconst dM_find_130 ?_
            refine zk_istore (ls' := [some (.inr (some 22)), some (.inl (i : Int)), some (.inl (s : Int)), some (.inl (mt_tb (β 8) i s)), some (.inl 1), some (.inl (n : Int)), some (.inl (i : Int)), some (.inl (p : Int)), some (.inl 0), some (.inl 0)]) dM_find_131 (by decide) rfl ?_
            refine zk_iload dM_find_133 rfl ?_
            refine zk_if_eq (tgt := 180) dM_find_135 (by decide) ⟨by decide, by decide⟩ (fun h135 => ?_) (fun h135 => ?_)
            · skip
              refine zk_iinc (ls' := [some (.inr (some 22)), some (.inl (i : Int)), some (.inl (s : Int)), some (.inl (mt_tb (β 8) i s)), some (.inl 1), some (.inl (n : Int)), some (.inl (i : Int)), some (.inl ((p : Int) + 1)), some (.inl 0), some (.inl 0)]) dM_find_180 rfl (by decide) rfl ?_
              refine zk_goto (tgt := 66) dM_find_183 (by decide) ?_
              have e2 : (p : Int) + 1 = ((p + 1 : Nat) : Int) := by omega
              rw [e2]
              refine zk_W.drop 8 rfl (zk_W.drop 9 rfl ?_)
              refine ih (p + 1) (by omega) (by omega) (fun p' hp' hA => ?_)
              by_cases e : p' = p
              · subst e
                have hm := zm_A_s hA
                first | (exfalso; omega) | exact h158 (hat.mp hA)
              · exact g3 p' (by omega) hA
            · skip
              exact absurd h135 (by decide)
          · skip
            exact absurd h102 (by decide)
        · skip
          refine zk_iconst dM_find_93 ?_
          refine zk_goto (tgt := 98) dM_find_94 (by decide) ?_
          refine zk_istore (ls' := [some (.inr (some 22)), some (.inl (i : Int)), some (.inl (s : Int)), some (.inl (mt_tb (β 8) i s)), some (.inl 1), some (.inl (n : Int)), some (.inl (i : Int)), some (.inl (p : Int)), some (.inl 1), none]) dM_find_98 (by decide) rfl ?_
          refine zk_iload dM_find_100 rfl ?_
          refine zk_if_eq (tgt := 130) dM_find_102 (by decide) ⟨by decide, by decide⟩ (fun h102 => ?_) (fun h102 => ?_)
          · skip
            exact absurd h102 (by decide)
          · skip
            have hmay : n ≤ mt_len (zm_T β 1) (zm_T β 1) p i (min (zm_n β 1 - p) (zm_n β 1 - i)) := by omega
            have hok : zm_ok β i 1 p n := ⟨by omega, by omega, Or.inr (Or.inl ⟨rfl, by omega, fun t' ht => mt_len_lt (m := min (zm_n β 1 - p) (zm_n β 1 - i)) (by omega)⟩)⟩
            have ea : β 8 (41 * ((i : Int) + (n : Int)) + (s : Int)).toNat = mt_tb (β 8) (i + n) s := by
              rw [show (41 * ((i : Int) + (n : Int)) + (s : Int)).toNat = 41 * (i + n) + s by omega]
              rfl
            have fL : 0 ≤ β 8 (41 * ((i : Int) + (n : Int)) + (s : Int)).toNat ∧ β 8 (41 * ((i : Int) + (n : Int)) + (s : Int)).toNat ≤ 4100 := by
              rw [ea]
              exact hK.2 (i + n) s (by omega) (by omega)
            have ec : mt_c (zm_c τ) s 1 p n = τ 2 := by
              rfl
            have er := mt_c_rg (s := s) (c := zm_c τ) hI.2.2.2 (by omega) hok
            rw [ec] at er
            have hat : zm_A τ β i s 1 p n ↔ τ 2 + β 8 (41 * ((i : Int) + (n : Int)) + (s : Int)).toNat = mt_tb (β 8) i s := by
              rw [ea, ← ec]
              have h3 : mt_s s 1 p n = s := rfl
              constructor
              · intro hA
                have h4 := hA.2
                rw [h3] at h4
                exact h4.symm
              · intro h4
                refine ⟨hok, ?_⟩
                rw [h3]
                exact h4.symm
            refine zk_bipush dM_find_105 (by decide) ?_
            refine zk_iload_n dM_find_107 rfl ?_
            refine zk_iload dM_find_108 rfl ?_
            refine zk_iadd dM_find_110 ?_
            refine zk_imul dM_find_111 ?_
            refine zk_iload dM_find_112 rfl ?_
            refine zk_if_ne (tgt := 125) dM_find_114 (by decide) ⟨by decide, by decide⟩ (fun h114 => ?_) (fun h114 => ?_)
            · skip
              refine zk_iload_n dM_find_125 rfl ?_
              refine zk_iadd dM_find_126 ?_
              refine zk_goto (tgt := 131) dM_find_127 (by decide) ?_
              refine zk_istore (ls' := [some (.inr (some 22)), some (.inl (i : Int)), some (.inl (s : Int)), some (.inl (mt_tb (β 8) i s)), some (.inl 1), some (.inl (n : Int)), some (.inl (i : Int)), some (.inl (p : Int)), some (.inl 1), some (.inl ((41 * ((i : Int) + (n : Int))) + (s : Int)))]) dM_find_131 (by decide) rfl ?_
              refine zk_iload dM_find_133 rfl ?_
              refine zk_if_eq (tgt := 180) dM_find_135 (by decide) ⟨by decide, by decide⟩ (fun h135 => ?_) (fun h135 => ?_)
              · skip
                exact absurd h135 (by decide)
              · skip
                refine zk_aload_n dM_find_138 rfl ?_
                refine zk_iload dM_find_139 rfl ?_
                refine zk_iload dM_find_141 rfl ?_
                refine zk_iload dM_find_143 rfl ?_
                refine zk_iload_n dM_find_145 rfl ?_
                refine zk_callV (av := [.inl 1, .inl (p : Int), .inl (n : Int), .inl (s : Int)]) (st := []) (d' := (0, 0)) (kc' := 0) (ks' := 0) zbM_86 dM_find_146 rfl (by decide) rfl rfl (Nat.le_of_ble_eq_true rfl) ⟨by decide, by decide⟩ rfl rfl (kM_costOf G sw σ α τ β t (n := (n : Int)) ⟨by decide, by decide⟩ ⟨by omega, by omega⟩ ⟨by omega, by omega⟩) (fun v9 h9 q9 => ?_)
                obtain ⟨rfl, rfl⟩ := q9
                refine zk_W.to (ls' := [some (.inr (some 22)), some (.inl (i : Int)), some (.inl (s : Int)), some (.inl (mt_tb (β 8) i s)), some (.inl 1), some (.inl (n : Int)), some (.inl (i : Int)), some (.inl (p : Int)), some (.inl 1), some (.inl ((41 * ((i : Int) + (n : Int))) + (s : Int)))]) (st' := [.inl (τ 2)]) (h' := (zk_mk G sw σ α (zk_md τ β t))) rfl rfl rfl ?_
                refine zk_aload_n dM_find_149 rfl ?_
                refine zk_get zfM_34 dM_find_150 (v := .inr (some 31)) rfl (by decide) rfl ?_
                refine zk_iload dM_find_153 rfl ?_
                refine zk_iald dM_find_155 (n := 1681) (f := β 8) rfl (by omega) (by omega) (by omega) ?_
                refine zk_iadd dM_find_156 ?_
                refine zk_iload_n dM_find_157 rfl ?_
                refine zk_icmp_ne (tgt := 180) dM_find_158 (by decide) ⟨by omega, by omega⟩ ⟨by omega, by omega⟩ (fun h158 => ?_) (fun h158 => ?_)
                · skip
                  refine zk_iinc (ls' := [some (.inr (some 22)), some (.inl (i : Int)), some (.inl (s : Int)), some (.inl (mt_tb (β 8) i s)), some (.inl 1), some (.inl (n : Int)), some (.inl (i : Int)), some (.inl ((p : Int) + 1)), some (.inl 1), some (.inl ((41 * ((i : Int) + (n : Int))) + (s : Int)))]) dM_find_180 rfl (by decide) rfl ?_
                  refine zk_goto (tgt := 66) dM_find_183 (by decide) ?_
                  have e2 : (p : Int) + 1 = ((p + 1 : Nat) : Int) := by omega
                  rw [e2]
                  refine zk_W.drop 8 rfl (zk_W.drop 9 rfl ?_)
                  refine ih (p + 1) (by omega) (by omega) (fun p' hp' hA => ?_)
                  by_cases e : p' = p
                  · subst e
                    have hm := zm_A_s hA
                    first | (exfalso; omega) | exact h158 (hat.mp hA)
                  · exact g3 p' (by omega) hA
                · skip
                  refine zk_aload_n dM_find_161 rfl ?_
                  refine zk_iload dM_find_162 rfl ?_
                  refine zk_put zfM_94 dM_find_164 (h' := (zk_mk G sw σ α (zk_md (zk_up τ 10 1) β t))) rfl (by decide) (Nat.le_of_ble_eq_true rfl) rfl rfl rfl ?_
                  refine zk_aload_n dM_find_167 rfl ?_
                  refine zk_iload dM_find_168 rfl ?_
                  refine zk_put zfM_97 dM_find_170 (h' := (zk_mk G sw σ α (zk_md (zk_up (zk_up τ 10 1) 11 (p : Int)) β t))) rfl (by decide) (Nat.le_of_ble_eq_true rfl) rfl rfl rfl ?_
                  refine zk_aload_n dM_find_173 rfl ?_
                  refine zk_iload dM_find_174 rfl ?_
                  refine zk_put zfM_100 dM_find_176 (h' := (zk_mk G sw σ α (zk_md (zk_up (zk_up (zk_up τ 10 1) 11 (p : Int)) 12 (n : Int)) β t))) rfl (by decide) (Nat.le_of_ble_eq_true rfl) rfl rfl rfl ?_
                  refine zk_ret dM_find_179 rfl ⟨rfl, 1, p, n, mt_E_best hE g3 (hat.mpr h158), ?_⟩
                  rfl
            · skip
              exact absurd h114 (by decide)

set_option maxRecDepth 100000 in
set_option maxHeartbeats 4000000 in
theorem wM_find_n1 (G : zk_G) (sw : Bool) (σ : Nat → Int) (α : Nat → Nat → Int) (τ : Nat → Int) (β : Nat → Nat → Int) (t : zk_H) (hI : zm_I τ β) (hK : zm_K τ β) {i s : Nat} (hi : i < zm_n β 1) (hs : s ≤ zm_n β 0) (hk : mt_E (zm_A τ β i s) 2 40 → zk_W G mM_find (2, 46) 0 0 192 [some (.inr (some 22)), some (.inl (i : Int)), some (.inl (s : Int)), some (.inl (mt_tb (β 8) i s)), some (.inl 1), none, none, none, none, none] [] (zk_mk G sw σ α (zk_md τ β t)) (fun v h' => v = none ∧ ∃ k p n : Nat, zm_B τ β i s k p n ∧ h' = zk_mk G sw σ α (zk_md (zk_up (zk_up (zk_up τ 10 (k : Int)) 11 (p : Int)) 12 (n : Int)) β t))) : ∀ (n : Nat), i + n ≤ zm_n β 1 → mt_E (zm_A τ β i s) 1 n → zk_W G mM_find (2, 46) 0 0 31 [some (.inr (some 22)), some (.inl (i : Int)), some (.inl (s : Int)), some (.inl (mt_tb (β 8) i s)), some (.inl 1), some (.inl (n : Int)), none, none, none, none] [] (zk_mk G sw σ α (zk_md τ β t)) (fun v h' => v = none ∧ ∃ k p n : Nat, zm_B τ β i s k p n ∧ h' = zk_mk G sw σ α (zk_md (zk_up (zk_up (zk_up τ 10 (k : Int)) 11 (p : Int)) 12 (n : Int)) β t)) := by
  intro n
  induction n with
  | zero =>
    intro hn2 hE
    have i0 := hI.1
    have i1 := hI.2.1
    have c0 : 0 ≤ τ 0 ∧ τ 0 ≤ 100 := hI.2.2.2 0 (by decide)
    have c1 : 0 ≤ τ 1 ∧ τ 1 ≤ 100 := hI.2.2.2 1 (by decide)
    have c2 : 0 ≤ τ 2 ∧ τ 2 ≤ 100 := hI.2.2.2 2 (by decide)
    have c3 : 0 ≤ τ 3 ∧ τ 3 ≤ 100 := hI.2.2.2 3 (by decide)
    have c4 : 0 ≤ τ 4 ∧ τ 4 ≤ 100 := hI.2.2.2 4 (by decide)
    have eO : zm_n β 0 = (β 1 0).toNat := rfl
    have eN : zm_n β 1 = (β 1 1).toNat := rfl
    have hdue := hK.2 i s (by omega) hs
    refine zk_iload dM_find_31 rfl ?_
    refine zk_if_le (tgt := 192) dM_find_33 (by decide) ⟨by omega, by omega⟩ (fun h33 => ?_) (fun h33 => ?_)
    · skip
      refine zk_W.drop 5 rfl ?_
      refine hk (fun k' p' n' hA hx => ?_)
      have ha1 := zm_A_1 hA
      exact hE k' p' n' hA (by omega)
    · skip
      exfalso; omega
  | succ n ih =>
    intro hn2 hE
    have i0 := hI.1
    have i1 := hI.2.1
    have c0 : 0 ≤ τ 0 ∧ τ 0 ≤ 100 := hI.2.2.2 0 (by decide)
    have c1 : 0 ≤ τ 1 ∧ τ 1 ≤ 100 := hI.2.2.2 1 (by decide)
    have c2 : 0 ≤ τ 2 ∧ τ 2 ≤ 100 := hI.2.2.2 2 (by decide)
    have c3 : 0 ≤ τ 3 ∧ τ 3 ≤ 100 := hI.2.2.2 3 (by decide)
    have c4 : 0 ≤ τ 4 ∧ τ 4 ≤ 100 := hI.2.2.2 4 (by decide)
    have eO : zm_n β 0 = (β 1 0).toNat := rfl
    have eN : zm_n β 1 = (β 1 1).toNat := rfl
    have hdue := hK.2 i s (by omega) hs
    refine zk_iload dM_find_31 rfl ?_
    refine zk_if_le (tgt := 192) dM_find_33 (by decide) ⟨by omega, by omega⟩ (fun h33 => ?_) (fun h33 => ?_)
    · skip
      exfalso; omega
    · skip
      refine zk_iload dM_find_36 rfl ?_
      refine zk_if_ne (tgt := 50) dM_find_38 (by decide) ⟨by decide, by decide⟩ (fun h38 => ?_) (fun h38 => ?_)
      · skip
        refine zk_iload dM_find_50 rfl ?_
        refine zk_iconst dM_find_52 ?_
        refine zk_icmp_ne (tgt := 60) dM_find_53 (by decide) ⟨by decide, by decide⟩ ⟨by decide, by decide⟩ (fun h53 => ?_) (fun h53 => ?_)
        · skip
          exact absurd h53 (by decide)
        · skip
          refine zk_iload_n dM_find_56 rfl ?_
          refine zk_goto (tgt := 61) dM_find_57 (by decide) ?_
          refine zk_istore (ls' := [some (.inr (some 22)), some (.inl (i : Int)), some (.inl (s : Int)), some (.inl (mt_tb (β 8) i s)), some (.inl 1), some (.inl ((n + 1 : Nat) : Int)), some (.inl (i : Int)), none, none, none]) dM_find_61 (by decide) rfl ?_
          refine zk_iconst dM_find_63 ?_
          refine zk_istore (ls' := [some (.inr (some 22)), some (.inl (i : Int)), some (.inl (s : Int)), some (.inl (mt_tb (β 8) i s)), some (.inl 1), some (.inl ((n + 1 : Nat) : Int)), some (.inl (i : Int)), some (.inl 0), none, none]) dM_find_64 (by decide) rfl ?_
          refine wM_find_p1 G sw σ α τ β t hI hK hi hs (n := n + 1) (by omega) (by omega) hE (fun hE => ?_) (i + 1) 0 (by omega) (by omega) (fun p' hp' => absurd hp' (Nat.not_lt_zero p'))
          refine zk_iinc (ls' := [some (.inr (some 22)), some (.inl (i : Int)), some (.inl (s : Int)), some (.inl (mt_tb (β 8) i s)), some (.inl 1), some (.inl (((n + 1 : Nat) : Int) + (-1))), none, none, none, none]) dM_find_186 rfl (by decide) rfl ?_
          refine zk_goto (tgt := 31) dM_find_189 (by decide) ?_
          have e2 : ((n + 1 : Nat) : Int) + (-1) = (n : Int) := by omega
          rw [e2]
          exact ih (by omega) hE
      · skip
        exact absurd h38 (by decide)

set_option maxRecDepth 100000 in
set_option maxHeartbeats 4000000 in
theorem wM_find_p2 (G : zk_G) (sw : Bool) (σ : Nat → Int) (α : Nat → Nat → Int) (τ : Nat → Int) (β : Nat → Nat → Int) (t : zk_H) (hI : zm_I τ β) (hK : zm_K τ β) {i s : Nat} (hi : i < zm_n β 1) (hs : s ≤ zm_n β 0) {n : Nat} (hn : 1 ≤ n) (hn2 : i + n ≤ zm_n β 1) (hE : mt_E (zm_A τ β i s) 2 n) (hk : mt_E (zm_A τ β i s) 2 (n - 1) → zk_W G mM_find (2, 46) 0 0 186 [some (.inr (some 22)), some (.inl (i : Int)), some (.inl (s : Int)), some (.inl (mt_tb (β 8) i s)), some (.inl 2), some (.inl (n : Int)), none, none, none, none] [] (zk_mk G sw σ α (zk_md τ β t)) (fun v h' => v = none ∧ ∃ k p n : Nat, zm_B τ β i s k p n ∧ h' = zk_mk G sw σ α (zk_md (zk_up (zk_up (zk_up τ 10 (k : Int)) 11 (p : Int)) 12 (n : Int)) β t))) : ∀ (k : Nat) (p : Nat), (p ≤ 1) → (1 < p + k) → (∀ p', p' < p → ¬ zm_A τ β i s 2 p' n) → zk_W G mM_find (2, 46) 0 0 66 [some (.inr (some 22)), some (.inl (i : Int)), some (.inl (s : Int)), some (.inl (mt_tb (β 8) i s)), some (.inl 2), some (.inl (n : Int)), some (.inl 1), some (.inl (p : Int)), none, none] [] (zk_mk G sw σ α (zk_md τ β t)) (fun v h' => v = none ∧ ∃ k p n : Nat, zm_B τ β i s k p n ∧ h' = zk_mk G sw σ α (zk_md (zk_up (zk_up (zk_up τ 10 (k : Int)) 11 (p : Int)) 12 (n : Int)) β t)) := by
  intro k
  induction k with
  | zero =>
    intro p g1 g2 g3
    exfalso
    omega
  | succ k ih =>
    intro p g1 g2 g3
    have i0 := hI.1
    have i1 := hI.2.1
    have c0 : 0 ≤ τ 0 ∧ τ 0 ≤ 100 := hI.2.2.2 0 (by decide)
    have c1 : 0 ≤ τ 1 ∧ τ 1 ≤ 100 := hI.2.2.2 1 (by decide)
    have c2 : 0 ≤ τ 2 ∧ τ 2 ≤ 100 := hI.2.2.2 2 (by decide)
    have c3 : 0 ≤ τ 3 ∧ τ 3 ≤ 100 := hI.2.2.2 3 (by decide)
    have c4 : 0 ≤ τ 4 ∧ τ 4 ≤ 100 := hI.2.2.2 4 (by decide)
    have eO : zm_n β 0 = (β 1 0).toNat := rfl
    have eN : zm_n β 1 = (β 1 1).toNat := rfl
    have hdue := hK.2 i s (by omega) hs
    refine zk_iload dM_find_66 rfl ?_
    refine zk_iload dM_find_68 rfl ?_
    refine zk_icmp_ge (tgt := 186) dM_find_70 (by decide) ⟨by omega, by omega⟩ ⟨by decide, by decide⟩ (fun h70 => ?_) (fun h70 => ?_)
    · skip
      refine zk_W.drop 6 rfl (zk_W.drop 7 rfl ?_)
      refine hk (fun k' p' n' hA hx => ?_)
      have ha1 := zm_A_1 hA
      by_cases e : k' = 2 ∧ n' = n
      · obtain ⟨rfl, rfl⟩ := e
        exact g3 p' (by omega) hA
      · exact hE k' p' n' hA (by omega)
    · skip
      refine zk_iload dM_find_73 rfl ?_
      refine zk_iconst dM_find_75 ?_
      refine zk_icmp_eq (tgt := 93) dM_find_76 (by decide) ⟨by decide, by decide⟩ ⟨by decide, by decide⟩ (fun h76 => ?_) (fun h76 => ?_)
      · skip
        refine zk_iconst dM_find_93 ?_
        refine zk_goto (tgt := 98) dM_find_94 (by decide) ?_
        refine zk_istore (ls' := [some (.inr (some 22)), some (.inl (i : Int)), some (.inl (s : Int)), some (.inl (mt_tb (β 8) i s)), some (.inl 2), some (.inl (n : Int)), some (.inl 1), some (.inl (p : Int)), some (.inl 1), none]) dM_find_98 (by decide) rfl ?_
        refine zk_iload dM_find_100 rfl ?_
        refine zk_if_eq (tgt := 130) dM_find_102 (by decide) ⟨by decide, by decide⟩ (fun h102 => ?_) (fun h102 => ?_)
        · skip
          exact absurd h102 (by decide)
        · skip
          have hmay : p = 0 := by omega
          have hok : zm_ok β i 2 0 n := ⟨by omega, by omega, Or.inr (Or.inr ⟨rfl, rfl⟩)⟩
          have ea : β 8 (41 * ((i : Int) + (n : Int)) + (s : Int)).toNat = mt_tb (β 8) (i + n) s := by
            rw [show (41 * ((i : Int) + (n : Int)) + (s : Int)).toNat = 41 * (i + n) + s by omega]
            rfl
          have fL : 0 ≤ β 8 (41 * ((i : Int) + (n : Int)) + (s : Int)).toNat ∧ β 8 (41 * ((i : Int) + (n : Int)) + (s : Int)).toNat ≤ 4100 := by
            rw [ea]
            exact hK.2 (i + n) s (by omega) (by omega)
          have ec : mt_c (zm_c τ) s 2 0 n = (τ 3 + τ 4 * (n : Int)) := by
            rfl
          have er := mt_c_rg (s := s) (c := zm_c τ) hI.2.2.2 (by omega) hok
          rw [ec] at er
          have hat : zm_A τ β i s 2 0 n ↔ (τ 3 + τ 4 * (n : Int)) + β 8 (41 * ((i : Int) + (n : Int)) + (s : Int)).toNat = mt_tb (β 8) i s := by
            rw [ea, ← ec]
            have h3 : mt_s s 2 0 n = s := rfl
            constructor
            · intro hA
              have h4 := hA.2
              rw [h3] at h4
              exact h4.symm
            · intro h4
              refine ⟨hok, ?_⟩
              rw [h3]
              exact h4.symm
          refine zk_bipush dM_find_105 (by decide) ?_
          refine zk_iload_n dM_find_107 rfl ?_
          refine zk_iload dM_find_108 rfl ?_
          refine zk_iadd dM_find_110 ?_
          refine zk_imul dM_find_111 ?_
          refine zk_iload dM_find_112 rfl ?_
          refine zk_if_ne (tgt := 125) dM_find_114 (by decide) ⟨by decide, by decide⟩ (fun h114 => ?_) (fun h114 => ?_)
          · skip
            refine zk_iload_n dM_find_125 rfl ?_
            refine zk_iadd dM_find_126 ?_
            refine zk_goto (tgt := 131) dM_find_127 (by decide) ?_
            refine zk_istore (ls' := [some (.inr (some 22)), some (.inl (i : Int)), some (.inl (s : Int)), some (.inl (mt_tb (β 8) i s)), some (.inl 2), some (.inl (n : Int)), some (.inl 1), some (.inl (p : Int)), some (.inl 1), some (.inl ((41 * ((i : Int) + (n : Int))) + (s : Int)))]) dM_find_131 (by decide) rfl ?_
            refine zk_iload dM_find_133 rfl ?_
            refine zk_if_eq (tgt := 180) dM_find_135 (by decide) ⟨by decide, by decide⟩ (fun h135 => ?_) (fun h135 => ?_)
            · skip
              exact absurd h135 (by decide)
            · skip
              refine zk_aload_n dM_find_138 rfl ?_
              refine zk_iload dM_find_139 rfl ?_
              refine zk_iload dM_find_141 rfl ?_
              refine zk_iload dM_find_143 rfl ?_
              refine zk_iload_n dM_find_145 rfl ?_
              refine zk_callV (av := [.inl 2, .inl (p : Int), .inl (n : Int), .inl (s : Int)]) (st := []) (d' := (0, 0)) (kc' := 0) (ks' := 0) zbM_86 dM_find_146 rfl (by decide) rfl rfl (Nat.le_of_ble_eq_true rfl) ⟨by decide, by decide⟩ rfl rfl (kM_costOf G sw σ α τ β t (n := (n : Int)) ⟨by decide, by decide⟩ ⟨by omega, by omega⟩ ⟨by omega, by omega⟩) (fun v9 h9 q9 => ?_)
              obtain ⟨rfl, rfl⟩ := q9
              refine zk_W.to (ls' := [some (.inr (some 22)), some (.inl (i : Int)), some (.inl (s : Int)), some (.inl (mt_tb (β 8) i s)), some (.inl 2), some (.inl (n : Int)), some (.inl 1), some (.inl (p : Int)), some (.inl 1), some (.inl ((41 * ((i : Int) + (n : Int))) + (s : Int)))]) (st' := [.inl (τ 3 + τ 4 * (n : Int))]) (h' := (zk_mk G sw σ α (zk_md τ β t))) rfl rfl rfl ?_
              refine zk_aload_n dM_find_149 rfl ?_
              refine zk_get zfM_34 dM_find_150 (v := .inr (some 31)) rfl (by decide) rfl ?_
              refine zk_iload dM_find_153 rfl ?_
              refine zk_iald dM_find_155 (n := 1681) (f := β 8) rfl (by omega) (by omega) (by omega) ?_
              refine zk_iadd dM_find_156 ?_
              refine zk_iload_n dM_find_157 rfl ?_
              refine zk_icmp_ne (tgt := 180) dM_find_158 (by decide) ⟨by omega, by omega⟩ ⟨by omega, by omega⟩ (fun h158 => ?_) (fun h158 => ?_)
              · skip
                refine zk_iinc (ls' := [some (.inr (some 22)), some (.inl (i : Int)), some (.inl (s : Int)), some (.inl (mt_tb (β 8) i s)), some (.inl 2), some (.inl (n : Int)), some (.inl 1), some (.inl ((p : Int) + 1)), some (.inl 1), some (.inl ((41 * ((i : Int) + (n : Int))) + (s : Int)))]) dM_find_180 rfl (by decide) rfl ?_
                refine zk_goto (tgt := 66) dM_find_183 (by decide) ?_
                have e2 : (p : Int) + 1 = ((p + 1 : Nat) : Int) := by omega
                rw [e2]
                refine zk_W.drop 8 rfl (zk_W.drop 9 rfl ?_)
                refine ih (p + 1) (by omega) (by omega) (fun p' hp' hA => ?_)
                by_cases e : p' = p
                · subst e
                  have hm : p' = 0 := by omega
                  subst hm
                  exact h158 (hat.mp hA)
                · exact g3 p' (by omega) hA
              · skip
                refine zk_aload_n dM_find_161 rfl ?_
                refine zk_iload dM_find_162 rfl ?_
                refine zk_put zfM_94 dM_find_164 (h' := (zk_mk G sw σ α (zk_md (zk_up τ 10 2) β t))) rfl (by decide) (Nat.le_of_ble_eq_true rfl) rfl rfl rfl ?_
                refine zk_aload_n dM_find_167 rfl ?_
                refine zk_iload dM_find_168 rfl ?_
                refine zk_put zfM_97 dM_find_170 (h' := (zk_mk G sw σ α (zk_md (zk_up (zk_up τ 10 2) 11 (p : Int)) β t))) rfl (by decide) (Nat.le_of_ble_eq_true rfl) rfl rfl rfl ?_
                refine zk_aload_n dM_find_173 rfl ?_
                refine zk_iload dM_find_174 rfl ?_
                refine zk_put zfM_100 dM_find_176 (h' := (zk_mk G sw σ α (zk_md (zk_up (zk_up (zk_up τ 10 2) 11 (p : Int)) 12 (n : Int)) β t))) rfl (by decide) (Nat.le_of_ble_eq_true rfl) rfl rfl rfl ?_
                have hp0 : p = 0 := by omega
                subst hp0
                refine zk_ret dM_find_179 rfl ⟨rfl, 2, 0, n, mt_E_best hE (fun p' hp' => absurd hp' (Nat.not_lt_zero p')) (hat.mpr h158), rfl⟩
          · skip
            exact absurd h114 (by decide)
      · skip
        exact absurd h76 (by decide)

set_option maxRecDepth 100000 in
set_option maxHeartbeats 4000000 in
theorem wM_find_n2 (G : zk_G) (sw : Bool) (σ : Nat → Int) (α : Nat → Nat → Int) (τ : Nat → Int) (β : Nat → Nat → Int) (t : zk_H) (hI : zm_I τ β) (hK : zm_K τ β) {i s : Nat} (hi : i < zm_n β 1) (hs : s ≤ zm_n β 0) (hk : mt_E (zm_A τ β i s) 3 40 → zk_W G mM_find (2, 46) 0 0 192 [some (.inr (some 22)), some (.inl (i : Int)), some (.inl (s : Int)), some (.inl (mt_tb (β 8) i s)), some (.inl 2), none, none, none, none, none] [] (zk_mk G sw σ α (zk_md τ β t)) (fun v h' => v = none ∧ ∃ k p n : Nat, zm_B τ β i s k p n ∧ h' = zk_mk G sw σ α (zk_md (zk_up (zk_up (zk_up τ 10 (k : Int)) 11 (p : Int)) 12 (n : Int)) β t))) : ∀ (n : Nat), i + n ≤ zm_n β 1 → mt_E (zm_A τ β i s) 2 n → zk_W G mM_find (2, 46) 0 0 31 [some (.inr (some 22)), some (.inl (i : Int)), some (.inl (s : Int)), some (.inl (mt_tb (β 8) i s)), some (.inl 2), some (.inl (n : Int)), none, none, none, none] [] (zk_mk G sw σ α (zk_md τ β t)) (fun v h' => v = none ∧ ∃ k p n : Nat, zm_B τ β i s k p n ∧ h' = zk_mk G sw σ α (zk_md (zk_up (zk_up (zk_up τ 10 (k : Int)) 11 (p : Int)) 12 (n : Int)) β t)) := by
  intro n
  induction n with
  | zero =>
    intro hn2 hE
    have i0 := hI.1
    have i1 := hI.2.1
    have c0 : 0 ≤ τ 0 ∧ τ 0 ≤ 100 := hI.2.2.2 0 (by decide)
    have c1 : 0 ≤ τ 1 ∧ τ 1 ≤ 100 := hI.2.2.2 1 (by decide)
    have c2 : 0 ≤ τ 2 ∧ τ 2 ≤ 100 := hI.2.2.2 2 (by decide)
    have c3 : 0 ≤ τ 3 ∧ τ 3 ≤ 100 := hI.2.2.2 3 (by decide)
    have c4 : 0 ≤ τ 4 ∧ τ 4 ≤ 100 := hI.2.2.2 4 (by decide)
    have eO : zm_n β 0 = (β 1 0).toNat := rfl
    have eN : zm_n β 1 = (β 1 1).toNat := rfl
    have hdue := hK.2 i s (by omega) hs
    refine zk_iload dM_find_31 rfl ?_
    refine zk_if_le (tgt := 192) dM_find_33 (by decide) ⟨by omega, by omega⟩ (fun h33 => ?_) (fun h33 => ?_)
    · skip
      refine zk_W.drop 5 rfl ?_
      refine hk (fun k' p' n' hA hx => ?_)
      have ha1 := zm_A_1 hA
      exact hE k' p' n' hA (by omega)
    · skip
      exfalso; omega
  | succ n ih =>
    intro hn2 hE
    have i0 := hI.1
    have i1 := hI.2.1
    have c0 : 0 ≤ τ 0 ∧ τ 0 ≤ 100 := hI.2.2.2 0 (by decide)
    have c1 : 0 ≤ τ 1 ∧ τ 1 ≤ 100 := hI.2.2.2 1 (by decide)
    have c2 : 0 ≤ τ 2 ∧ τ 2 ≤ 100 := hI.2.2.2 2 (by decide)
    have c3 : 0 ≤ τ 3 ∧ τ 3 ≤ 100 := hI.2.2.2 3 (by decide)
    have c4 : 0 ≤ τ 4 ∧ τ 4 ≤ 100 := hI.2.2.2 4 (by decide)
    have eO : zm_n β 0 = (β 1 0).toNat := rfl
    have eN : zm_n β 1 = (β 1 1).toNat := rfl
    have hdue := hK.2 i s (by omega) hs
    refine zk_iload dM_find_31 rfl ?_
    refine zk_if_le (tgt := 192) dM_find_33 (by decide) ⟨by omega, by omega⟩ (fun h33 => ?_) (fun h33 => ?_)
    · skip
      exfalso; omega
    · skip
      refine zk_iload dM_find_36 rfl ?_
      refine zk_if_ne (tgt := 50) dM_find_38 (by decide) ⟨by decide, by decide⟩ (fun h38 => ?_) (fun h38 => ?_)
      · skip
        refine zk_iload dM_find_50 rfl ?_
        refine zk_iconst dM_find_52 ?_
        refine zk_icmp_ne (tgt := 60) dM_find_53 (by decide) ⟨by decide, by decide⟩ ⟨by decide, by decide⟩ (fun h53 => ?_) (fun h53 => ?_)
        · skip
          refine zk_iconst dM_find_60 ?_
          refine zk_istore (ls' := [some (.inr (some 22)), some (.inl (i : Int)), some (.inl (s : Int)), some (.inl (mt_tb (β 8) i s)), some (.inl 2), some (.inl ((n + 1 : Nat) : Int)), some (.inl 1), none, none, none]) dM_find_61 (by decide) rfl ?_
          refine zk_iconst dM_find_63 ?_
          refine zk_istore (ls' := [some (.inr (some 22)), some (.inl (i : Int)), some (.inl (s : Int)), some (.inl (mt_tb (β 8) i s)), some (.inl 2), some (.inl ((n + 1 : Nat) : Int)), some (.inl 1), some (.inl 0), none, none]) dM_find_64 (by decide) rfl ?_
          refine wM_find_p2 G sw σ α τ β t hI hK hi hs (n := n + 1) (by omega) (by omega) hE (fun hE => ?_) (1 + 1) 0 (by omega) (by omega) (fun p' hp' => absurd hp' (Nat.not_lt_zero p'))
          refine zk_iinc (ls' := [some (.inr (some 22)), some (.inl (i : Int)), some (.inl (s : Int)), some (.inl (mt_tb (β 8) i s)), some (.inl 2), some (.inl (((n + 1 : Nat) : Int) + (-1))), none, none, none, none]) dM_find_186 rfl (by decide) rfl ?_
          refine zk_goto (tgt := 31) dM_find_189 (by decide) ?_
          have e2 : ((n + 1 : Nat) : Int) + (-1) = (n : Int) := by omega
          rw [e2]
          exact ih (by omega) hE
        · skip
          exact absurd h53 (by decide)
      · skip
        exact absurd h38 (by decide)

set_option maxRecDepth 100000 in
set_option maxHeartbeats 4000000 in
theorem kM_find (G : zk_G) (sw : Bool) (σ : Nat → Int) (α : Nat → Nat → Int) (τ : Nat → Int) (β : Nat → Nat → Int) (t : zk_H) (hI : zm_I τ β) (hK : zm_K τ β) {i s : Nat} (hi : i < zm_n β 1) (hs : s ≤ zm_n β 0) : zk_K G mM_find (2, 46) 0 0 [.inr (some 22), .inl (i : Int), .inl (s : Int)] (zk_mk G sw σ α (zk_md τ β t)) (fun v h' => v = none ∧ ∃ k p n : Nat, zm_B τ β i s k p n ∧ h' = zk_mk G sw σ α (zk_md (zk_up (zk_up (zk_up τ 10 (k : Int)) 11 (p : Int)) 12 (n : Int)) β t)) := by
  have i0 := hI.1
  have i1 := hI.2.1
  have c0 : 0 ≤ τ 0 ∧ τ 0 ≤ 100 := hI.2.2.2 0 (by decide)
  have c1 : 0 ≤ τ 1 ∧ τ 1 ≤ 100 := hI.2.2.2 1 (by decide)
  have c2 : 0 ≤ τ 2 ∧ τ 2 ≤ 100 := hI.2.2.2 2 (by decide)
  have c3 : 0 ≤ τ 3 ∧ τ 3 ≤ 100 := hI.2.2.2 3 (by decide)
  have c4 : 0 ≤ τ 4 ∧ τ 4 ≤ 100 := hI.2.2.2 4 (by decide)
  have eO : zm_n β 0 = (β 1 0).toNat := rfl
  have eN : zm_n β 1 = (β 1 1).toNat := rfl
  have hdue := hK.2 i s (by omega) hs
  refine zk_K.of (ls := [some (.inr (some 22)), some (.inl (i : Int)), some (.inl (s : Int)), none, none, none, none, none, none, none]) (by decide +kernel) (Nat.le_of_ble_eq_true rfl) rfl ?_
  refine zk_aload_n dM_find_0 rfl ?_
  refine zk_get zfM_34 dM_find_1 (v := .inr (some 31)) rfl (by decide) rfl ?_
  refine zk_bipush dM_find_4 (by decide) ?_
  refine zk_iload_n dM_find_6 rfl ?_
  refine zk_imul dM_find_7 ?_
  refine zk_iload_n dM_find_8 rfl ?_
  refine zk_iadd dM_find_9 ?_
  refine zk_iald dM_find_10 (n := 1681) (f := β 8) rfl (by omega) (by omega) (by omega) ?_
  have edue : β 8 (41 * (i : Int) + (s : Int)).toNat = mt_tb (β 8) i s := by
    rw [show (41 * (i : Int) + (s : Int)).toNat = 41 * i + s by omega]
    rfl
  rw [edue]
  refine zk_istore_n (ls' := [some (.inr (some 22)), some (.inl (i : Int)), some (.inl (s : Int)), some (.inl (mt_tb (β 8) i s)), none, none, none, none, none, none]) dM_find_11 (by decide) rfl ?_
  refine zk_iconst dM_find_12 ?_
  refine zk_istore (ls' := [some (.inr (some 22)), some (.inl (i : Int)), some (.inl (s : Int)), some (.inl (mt_tb (β 8) i s)), some (.inl 0), none, none, none, none, none]) dM_find_13 (by decide) rfl ?_
  refine zk_iload dM_find_15 rfl ?_
  refine zk_iconst dM_find_17 ?_
  refine zk_icmp_gt (tgt := 198) dM_find_18 (by decide) ⟨by decide, by decide⟩ ⟨by decide, by decide⟩ (fun h18 => ?_) (fun h18 => ?_)
  · skip
    exact absurd h18 (by decide)
  · skip
    refine zk_aload_n dM_find_21 rfl ?_
    refine zk_get zfM_13 dM_find_22 (v := .inr (some 24)) rfl (by decide) rfl ?_
    refine zk_iconst dM_find_25 ?_
    refine zk_iald dM_find_26 (n := 2) (f := β 1) rfl (by omega) (by omega) (by omega) ?_
    refine zk_W.to (ls' := [some (.inr (some 22)), some (.inl (i : Int)), some (.inl (s : Int)), some (.inl (mt_tb (β 8) i s)), some (.inl 0), none, none, none, none, none]) (st' := [.inl (β 1 1)]) (h' := (zk_mk G sw σ α (zk_md τ β t))) rfl rfl rfl ?_
    refine zk_iload_n dM_find_27 rfl ?_
    refine zk_isub dM_find_28 ?_
    refine zk_istore (ls' := [some (.inr (some 22)), some (.inl (i : Int)), some (.inl (s : Int)), some (.inl (mt_tb (β 8) i s)), some (.inl 0), some (.inl ((β 1 1) - (i : Int))), none, none, none, none]) dM_find_29 (by decide) rfl ?_
    have en0 : β 1 1 - (i : Int) = ((zm_n β 1 - i : Nat) : Int) := by omega
    rw [en0]
    refine wM_find_n0 G sw σ α τ β t hI hK hi hs (fun hE => ?_) (zm_n β 1 - i) (by omega) (fun k' p' n' hA hx => by have := zm_A_1 hA; omega)
    refine zk_iinc (ls' := [some (.inr (some 22)), some (.inl (i : Int)), some (.inl (s : Int)), some (.inl (mt_tb (β 8) i s)), some (.inl 1), none, none, none, none, none]) dM_find_192 rfl (by decide) rfl ?_
    refine zk_goto (tgt := 15) dM_find_195 (by decide) ?_
    refine zk_iload dM_find_15 rfl ?_
    refine zk_iconst dM_find_17 ?_
    refine zk_icmp_gt (tgt := 198) dM_find_18 (by decide) ⟨by decide, by decide⟩ ⟨by decide, by decide⟩ (fun h18 => ?_) (fun h18 => ?_)
    · skip
      exact absurd h18 (by decide)
    · skip
      refine zk_aload_n dM_find_21 rfl ?_
      refine zk_get zfM_13 dM_find_22 (v := .inr (some 24)) rfl (by decide) rfl ?_
      refine zk_iconst dM_find_25 ?_
      refine zk_iald dM_find_26 (n := 2) (f := β 1) rfl (by omega) (by omega) (by omega) ?_
      refine zk_W.to (ls' := [some (.inr (some 22)), some (.inl (i : Int)), some (.inl (s : Int)), some (.inl (mt_tb (β 8) i s)), some (.inl 1), none, none, none, none, none]) (st' := [.inl (β 1 1)]) (h' := (zk_mk G sw σ α (zk_md τ β t))) rfl rfl rfl ?_
      refine zk_iload_n dM_find_27 rfl ?_
      refine zk_isub dM_find_28 ?_
      refine zk_istore (ls' := [some (.inr (some 22)), some (.inl (i : Int)), some (.inl (s : Int)), some (.inl (mt_tb (β 8) i s)), some (.inl 1), some (.inl ((β 1 1) - (i : Int))), none, none, none, none]) dM_find_29 (by decide) rfl ?_
      have en1 : β 1 1 - (i : Int) = ((zm_n β 1 - i : Nat) : Int) := by omega
      rw [en1]
      refine wM_find_n1 G sw σ α τ β t hI hK hi hs (fun hE => ?_) (zm_n β 1 - i) (by omega) (fun k' p' n' hA hx => by have h1 := zm_A_1 hA; exact hE k' p' n' hA (by omega))
      refine zk_iinc (ls' := [some (.inr (some 22)), some (.inl (i : Int)), some (.inl (s : Int)), some (.inl (mt_tb (β 8) i s)), some (.inl 2), none, none, none, none, none]) dM_find_192 rfl (by decide) rfl ?_
      refine zk_goto (tgt := 15) dM_find_195 (by decide) ?_
      refine zk_iload dM_find_15 rfl ?_
      refine zk_iconst dM_find_17 ?_
      refine zk_icmp_gt (tgt := 198) dM_find_18 (by decide) ⟨by decide, by decide⟩ ⟨by decide, by decide⟩ (fun h18 => ?_) (fun h18 => ?_)
      · skip
        exact absurd h18 (by decide)
      · skip
        refine zk_aload_n dM_find_21 rfl ?_
        refine zk_get zfM_13 dM_find_22 (v := .inr (some 24)) rfl (by decide) rfl ?_
        refine zk_iconst dM_find_25 ?_
        refine zk_iald dM_find_26 (n := 2) (f := β 1) rfl (by omega) (by omega) (by omega) ?_
        refine zk_W.to (ls' := [some (.inr (some 22)), some (.inl (i : Int)), some (.inl (s : Int)), some (.inl (mt_tb (β 8) i s)), some (.inl 2), none, none, none, none, none]) (st' := [.inl (β 1 1)]) (h' := (zk_mk G sw σ α (zk_md τ β t))) rfl rfl rfl ?_
        refine zk_iload_n dM_find_27 rfl ?_
        refine zk_isub dM_find_28 ?_
        refine zk_istore (ls' := [some (.inr (some 22)), some (.inl (i : Int)), some (.inl (s : Int)), some (.inl (mt_tb (β 8) i s)), some (.inl 2), some (.inl ((β 1 1) - (i : Int))), none, none, none, none]) dM_find_29 (by decide) rfl ?_
        have en2 : β 1 1 - (i : Int) = ((zm_n β 1 - i : Nat) : Int) := by omega
        rw [en2]
        refine wM_find_n2 G sw σ α τ β t hI hK hi hs (fun hE => ?_) (zm_n β 1 - i) (by omega) (fun k' p' n' hA hx => by have h1 := zm_A_1 hA; exact hE k' p' n' hA (by omega))
        refine zk_iinc (ls' := [some (.inr (some 22)), some (.inl (i : Int)), some (.inl (s : Int)), some (.inl (mt_tb (β 8) i s)), some (.inl 3), none, none, none, none, none]) dM_find_192 rfl (by decide) rfl ?_
        refine zk_goto (tgt := 15) dM_find_195 (by decide) ?_
        refine zk_iload dM_find_15 rfl ?_
        refine zk_iconst dM_find_17 ?_
        refine zk_icmp_gt (tgt := 198) dM_find_18 (by decide) ⟨by decide, by decide⟩ ⟨by decide, by decide⟩ (fun h18 => ?_) (fun h18 => ?_)
        · skip
          obtain ⟨k, p, n, x1, x2⟩ := (hK.1.2 i s hi hs).2
          have hA : zm_A τ β i s k p n := ⟨x1, x2⟩
          exact absurd (Or.inl (by have := (zm_A_1 hA).2.2.1; omega)) (hE k p n hA)
        · skip
          exact absurd h18 (by decide)
