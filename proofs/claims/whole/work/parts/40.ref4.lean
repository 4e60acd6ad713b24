set_option maxRecDepth 100000 in
set_option maxHeartbeats 4000000 in
theorem wM_fault (G : zk_G) (sw : Bool) (σ : Nat → Int) (α : Nat → Nat → Int) (τ : Nat → Int) (β : Nat → Nat → Int) (t : zk_H) (hJ : zm_J τ β) (h2 : 2 ≤ τ 7) : ∀ (k : Nat) (m : Nat), (100 < m + k) → (mt_rm (β 6) (τ 7) m) → zk_W G mM_faultOf (0, 0) 0 0 17 [some (.inr (some 22)), some (.inl ((mt_rp (β 6) m : Nat) : Int)), some (.inl (m : Int)), none, none, none] [] (zk_mk G sw σ α (zk_md τ β t)) (fun v h' => h' = (zk_mk G sw σ α (zk_md τ β t)) ∧ ∃ r, mt_rf (β 6) (τ 7) r ∧ v = some (.inl r)) := by
  intro k
  induction k with
  | zero =>
    intro m g2 hm
    have hm1 := hm.1
    exfalso
    omega
  | succ k ih =>
    intro m g2 hm
    have hI := hJ.1
    have i0 := hI.1
    have i1 := hI.2.1
    have c0 : 0 ≤ τ 0 ∧ τ 0 ≤ 100 := hI.2.2.2 0 (by decide)
    have c1 : 0 ≤ τ 1 ∧ τ 1 ≤ 100 := hI.2.2.2 1 (by decide)
    have c2 : 0 ≤ τ 2 ∧ τ 2 ≤ 100 := hI.2.2.2 2 (by decide)
    have c3 : 0 ≤ τ 3 ∧ τ 3 ≤ 100 := hI.2.2.2 3 (by decide)
    have c4 : 0 ≤ τ 4 ∧ τ 4 ≤ 100 := hI.2.2.2 4 (by decide)
    have j5 := hJ.2.1
    have j6 := hJ.2.2.1
    have j7 := hJ.2.2.2.1
    have j8 := hJ.2.2.2.2.1
    have hA := hJ.2.2.2.2.2.1
    have b6 := hJ.2.2.2.2.2.2.2.1
    have hrl := mt_rp_mono (F := β 6) (k := 0) (m := m) (Nat.zero_le m)
    have hr2 : mt_rp (β 6) 0 = 2 := rfl
    have hrn := mt_rp_lt (F := β 6) (k := m)
    have hm1 := hm.1
    have hrle := mt_rm_le hm h2
    refine zk_iload_n dM_faultOf_17 rfl ?_
    refine zk_aload_n dM_faultOf_18 rfl ?_
    refine zk_get zfM_62 dM_faultOf_19 (v := .inl (τ 7)) rfl (by decide) rfl ?_
    refine zk_icmp_ge (tgt := 133) dM_faultOf_22 (by decide) ⟨by omega, by omega⟩ ⟨by omega, by omega⟩ (fun h22 => ?_) (fun h22 => ?_)
    · skip
      refine zk_iconst dM_faultOf_133 ?_
      exact zk_iret dM_faultOf_134 rfl ⟨rfl, _, Or.inr ⟨by omega, m, hm, Or.inl ⟨by omega, rfl⟩⟩, rfl⟩
    · skip
      have hvp := b6 (mt_rp (β 6) m) (by omega)
      refine zk_aload_n dM_faultOf_25 rfl ?_
      refine zk_get zfM_28 dM_faultOf_26 (v := .inr (some 29)) rfl (by decide) rfl ?_
      refine zk_iload_n dM_faultOf_29 rfl ?_
      refine zk_iald dM_faultOf_30 (n := 4110) (f := β 6) rfl (by omega) (by omega) (by omega) ?_
      refine zk_W.to (ls' := [some (.inr (some 22)), some (.inl ((mt_rp (β 6) m : Nat) : Int)), some (.inl (m : Int)), none, none, none]) (st' := [.inl (β 6 (mt_rp (β 6) m))]) (h' := (zk_mk G sw σ α (zk_md τ β t))) rfl rfl rfl ?_
      refine zk_bipush dM_faultOf_31 (by decide) ?_
      refine zk_idiv dM_faultOf_33 (by omega) ⟨by omega, by omega⟩ (by omega) ⟨by decide, by decide⟩ ?_
      refine zk_istore_n (ls' := [some (.inr (some 22)), some (.inl ((mt_rp (β 6) m : Nat) : Int)), some (.inl (m : Int)), some (.inl ((β 6 (mt_rp (β 6) m)) / 64)), none, none]) dM_faultOf_34 (by decide) rfl ?_
      refine zk_aload_n dM_faultOf_35 rfl ?_
      refine zk_get zfM_28 dM_faultOf_36 (v := .inr (some 29)) rfl (by decide) rfl ?_
      refine zk_iload_n dM_faultOf_39 rfl ?_
      refine zk_iald dM_faultOf_40 (n := 4110) (f := β 6) rfl (by omega) (by omega) (by omega) ?_
      refine zk_W.to (ls' := [some (.inr (some 22)), some (.inl ((mt_rp (β 6) m : Nat) : Int)), some (.inl (m : Int)), some (.inl ((β 6 (mt_rp (β 6) m)) / 64)), none, none]) (st' := [.inl (β 6 (mt_rp (β 6) m))]) (h' := (zk_mk G sw σ α (zk_md τ β t))) rfl rfl rfl ?_
      refine zk_bipush dM_faultOf_41 (by decide) ?_
      refine zk_irem dM_faultOf_43 (by omega) ⟨by omega, by omega⟩ (by omega) ⟨by decide, by decide⟩ ?_
      refine zk_istore (ls' := [some (.inr (some 22)), some (.inl ((mt_rp (β 6) m : Nat) : Int)), some (.inl (m : Int)), some (.inl ((β 6 (mt_rp (β 6) m)) / 64)), some (.inl ((β 6 (mt_rp (β 6) m)) % 64)), none]) dM_faultOf_44 (by decide) rfl ?_
      refine zk_iload_n dM_faultOf_46 rfl ?_
      refine zk_bipush dM_faultOf_47 (by decide) ?_
      refine zk_icmp_eq (tgt := 69) dM_faultOf_49 (by decide) ⟨by omega, by omega⟩ ⟨by decide, by decide⟩ (fun h49 => ?_) (fun h49 => ?_)
      · skip
        refine zk_iload_n dM_faultOf_69 rfl ?_
        first | exact zk_iret dM_faultOf_70 rfl ⟨rfl, _, Or.inr ⟨by omega, m, hm, Or.inr (Or.inl ⟨by omega, by omega, rfl⟩)⟩, rfl⟩ | exact zk_iret dM_faultOf_70 rfl ⟨rfl, _, Or.inr ⟨by omega, m, hm, Or.inr (Or.inr ⟨by omega, by omega, Or.inl ⟨fun hg => by have g1 := hg.1; have g2 := hg.2.1; have g3 := hg.2.2; omega, rfl⟩⟩)⟩, rfl⟩
      · skip
        refine zk_iload_n dM_faultOf_52 rfl ?_
        refine zk_iconst dM_faultOf_53 ?_
        refine zk_icmp_gt (tgt := 69) dM_faultOf_54 (by decide) ⟨by omega, by omega⟩ ⟨by decide, by decide⟩ (fun h54 => ?_) (fun h54 => ?_)
        · skip
          refine zk_iload_n dM_faultOf_69 rfl ?_
          first | exact zk_iret dM_faultOf_70 rfl ⟨rfl, _, Or.inr ⟨by omega, m, hm, Or.inr (Or.inl ⟨by omega, by omega, rfl⟩)⟩, rfl⟩ | exact zk_iret dM_faultOf_70 rfl ⟨rfl, _, Or.inr ⟨by omega, m, hm, Or.inr (Or.inr ⟨by omega, by omega, Or.inl ⟨fun hg => by have g1 := hg.1; have g2 := hg.2.1; have g3 := hg.2.2; omega, rfl⟩⟩)⟩, rfl⟩
        · skip
          refine zk_iload dM_faultOf_57 rfl ?_
          refine zk_if_eq (tgt := 69) dM_faultOf_59 (by decide) ⟨by omega, by omega⟩ (fun h59 => ?_) (fun h59 => ?_)
          · skip
            refine zk_iload_n dM_faultOf_69 rfl ?_
            first | exact zk_iret dM_faultOf_70 rfl ⟨rfl, _, Or.inr ⟨by omega, m, hm, Or.inr (Or.inl ⟨by omega, by omega, rfl⟩)⟩, rfl⟩ | exact zk_iret dM_faultOf_70 rfl ⟨rfl, _, Or.inr ⟨by omega, m, hm, Or.inr (Or.inr ⟨by omega, by omega, Or.inl ⟨fun hg => by have g1 := hg.1; have g2 := hg.2.1; have g3 := hg.2.2; omega, rfl⟩⟩)⟩, rfl⟩
          · skip
            refine zk_iload dM_faultOf_62 rfl ?_
            refine zk_bipush dM_faultOf_64 (by decide) ?_
            refine zk_icmp_le (tgt := 71) dM_faultOf_66 (by decide) ⟨by omega, by omega⟩ ⟨by decide, by decide⟩ (fun h66 => ?_) (fun h66 => ?_)
            · skip
              refine zk_iload_n dM_faultOf_71 rfl ?_
              refine zk_iconst dM_faultOf_72 ?_
              refine zk_iadd dM_faultOf_73 ?_
              refine zk_iload_n dM_faultOf_74 rfl ?_
              refine zk_iconst dM_faultOf_75 ?_
              refine zk_icmp_ne (tgt := 84) dM_faultOf_76 (by decide) ⟨by omega, by omega⟩ ⟨by decide, by decide⟩ (fun h76 => ?_) (fun h76 => ?_)
              · skip
                refine zk_iconst dM_faultOf_84 ?_
                refine zk_iadd dM_faultOf_85 ?_
                refine zk_istore (ls' := [some (.inr (some 22)), some (.inl ((mt_rp (β 6) m : Nat) : Int)), some (.inl (m : Int)), some (.inl ((β 6 (mt_rp (β 6) m)) / 64)), some (.inl ((β 6 (mt_rp (β 6) m)) % 64)), some (.inl ((((mt_rp (β 6) m : Nat) : Int) + 1) + 1))]) dM_faultOf_86 (by decide) rfl ?_
                have ebeh : (((mt_rp (β 6) m : Nat) : Int) + 1) + 1 = ((mt_rp (β 6) (m + 1) : Nat) : Int) := by
                  rw [mt_rp_n2 h76]
                  omega
                rw [ebeh]
                refine zk_iload dM_faultOf_88 rfl ?_
                refine zk_aload_n dM_faultOf_90 rfl ?_
                refine zk_get zfM_62 dM_faultOf_91 (v := .inl (τ 7)) rfl (by decide) rfl ?_
                refine zk_icmp_le (tgt := 102) dM_faultOf_94 (by decide) ⟨by omega, by omega⟩ ⟨by omega, by omega⟩ (fun h94 => ?_) (fun h94 => ?_)
                · skip
                  refine zk_iload_n dM_faultOf_102 rfl ?_
                  refine zk_iconst dM_faultOf_103 ?_
                  refine zk_icmp_ge (tgt := 124) dM_faultOf_104 (by decide) ⟨by omega, by omega⟩ ⟨by decide, by decide⟩ (fun h104 => ?_) (fun h104 => ?_)
                  · skip
                    refine zk_iload dM_faultOf_124 rfl ?_
                    refine zk_istore_n (ls' := [some (.inr (some 22)), some (.inl (((mt_rp (β 6) (m + 1) : Nat) : Int))), some (.inl (m : Int)), some (.inl ((β 6 (mt_rp (β 6) m)) / 64)), some (.inl ((β 6 (mt_rp (β 6) m)) % 64)), some (.inl (((mt_rp (β 6) (m + 1) : Nat) : Int)))]) dM_faultOf_126 (by decide) rfl ?_
                    refine zk_iinc (ls' := [some (.inr (some 22)), some (.inl (((mt_rp (β 6) (m + 1) : Nat) : Int))), some (.inl ((m : Int) + 1)), some (.inl ((β 6 (mt_rp (β 6) m)) / 64)), some (.inl ((β 6 (mt_rp (β 6) m)) % 64)), some (.inl (((mt_rp (β 6) (m + 1) : Nat) : Int)))]) dM_faultOf_127 rfl (by decide) rfl ?_
                    refine zk_goto (tgt := 17) dM_faultOf_130 (by decide) ?_
                    have e2 : (m : Int) + 1 = ((m + 1 : Nat) : Int) := by omega
                    rw [e2]
                    refine zk_W.drop 3 rfl (zk_W.drop 4 rfl (zk_W.drop 5 rfl ?_))
                    refine ih (m + 1) (by omega) ⟨by omega, fun k' hk' => ?_⟩
                    by_cases ek : k' = m
                    · subst ek
                      refine ⟨by omega, ⟨by omega, by omega, by omega⟩, by omega, fun hne => ?_⟩
                      first | (exfalso; omega) | (rw [show mt_rp (β 6) k' + 1 = (((mt_rp (β 6) k' : Nat) : Int) + 1).toNat by omega]; exact h117)
                    · exact hm.2 k' (by omega)
                  · skip
                    have hn2 := mt_rp_n2 (F := β 6) (k := m) (by omega)
                    have hvp1 := b6 (((mt_rp (β 6) m : Nat) : Int) + 1).toNat (by omega)
                    refine zk_aload_n dM_faultOf_107 rfl ?_
                    refine zk_get zfM_28 dM_faultOf_108 (v := .inr (some 29)) rfl (by decide) rfl ?_
                    refine zk_iload_n dM_faultOf_111 rfl ?_
                    refine zk_iconst dM_faultOf_112 ?_
                    refine zk_iadd dM_faultOf_113 ?_
                    refine zk_iald dM_faultOf_114 (n := 4110) (f := β 6) rfl (by omega) (by omega) (by omega) ?_
                    refine zk_bipush dM_faultOf_115 (by decide) ?_
                    refine zk_icmp_le (tgt := 124) dM_faultOf_117 (by decide) ⟨by omega, by omega⟩ ⟨by decide, by decide⟩ (fun h117 => ?_) (fun h117 => ?_)
                    · skip
                      refine zk_iload dM_faultOf_124 rfl ?_
                      refine zk_istore_n (ls' := [some (.inr (some 22)), some (.inl (((mt_rp (β 6) (m + 1) : Nat) : Int))), some (.inl (m : Int)), some (.inl ((β 6 (mt_rp (β 6) m)) / 64)), some (.inl ((β 6 (mt_rp (β 6) m)) % 64)), some (.inl (((mt_rp (β 6) (m + 1) : Nat) : Int)))]) dM_faultOf_126 (by decide) rfl ?_
                      refine zk_iinc (ls' := [some (.inr (some 22)), some (.inl (((mt_rp (β 6) (m + 1) : Nat) : Int))), some (.inl ((m : Int) + 1)), some (.inl ((β 6 (mt_rp (β 6) m)) / 64)), some (.inl ((β 6 (mt_rp (β 6) m)) % 64)), some (.inl (((mt_rp (β 6) (m + 1) : Nat) : Int)))]) dM_faultOf_127 rfl (by decide) rfl ?_
                      refine zk_goto (tgt := 17) dM_faultOf_130 (by decide) ?_
                      have e2 : (m : Int) + 1 = ((m + 1 : Nat) : Int) := by omega
                      rw [e2]
                      refine zk_W.drop 3 rfl (zk_W.drop 4 rfl (zk_W.drop 5 rfl ?_))
                      refine ih (m + 1) (by omega) ⟨by omega, fun k' hk' => ?_⟩
                      by_cases ek : k' = m
                      · subst ek
                        refine ⟨by omega, ⟨by omega, by omega, by omega⟩, by omega, fun hne => ?_⟩
                        first | (exfalso; omega) | (rw [show mt_rp (β 6) k' + 1 = (((mt_rp (β 6) k' : Nat) : Int) + 1).toNat by omega]; exact h117)
                      · exact hm.2 k' (by omega)
                    · skip
                      have eix : (((mt_rp (β 6) m : Nat) : Int) + 1).toNat = mt_rp (β 6) m + 1 := by omega
                      have h117' : 79 < β 6 (mt_rp (β 6) m + 1) := by
                        rw [← eix]
                        exact h117
                      refine zk_iload_n dM_faultOf_120 rfl ?_
                      refine zk_iconst dM_faultOf_121 ?_
                      refine zk_iadd dM_faultOf_122 ?_
                      exact zk_iret dM_faultOf_123 rfl ⟨rfl, _, Or.inr ⟨by omega, m, hm, Or.inr (Or.inr ⟨by omega, by omega, Or.inr (Or.inr ⟨⟨by omega, by omega, by omega⟩, by omega, by omega, h117', rfl⟩)⟩)⟩, rfl⟩
                · skip
                  refine zk_aload_n dM_faultOf_97 rfl ?_
                  refine zk_get zfM_62 dM_faultOf_98 (v := .inl (τ 7)) rfl (by decide) rfl ?_
                  exact zk_iret dM_faultOf_101 rfl ⟨rfl, _, Or.inr ⟨by omega, m, hm, Or.inr (Or.inr ⟨by omega, by omega, Or.inr (Or.inl ⟨⟨by omega, by omega, by omega⟩, by omega, rfl⟩)⟩)⟩, rfl⟩
              · skip
                refine zk_iload dM_faultOf_79 rfl ?_
                refine zk_goto (tgt := 85) dM_faultOf_81 (by decide) ?_
                refine zk_iadd dM_faultOf_85 ?_
                refine zk_istore (ls' := [some (.inr (some 22)), some (.inl ((mt_rp (β 6) m : Nat) : Int)), some (.inl (m : Int)), some (.inl ((β 6 (mt_rp (β 6) m)) / 64)), some (.inl ((β 6 (mt_rp (β 6) m)) % 64)), some (.inl ((((mt_rp (β 6) m : Nat) : Int) + 1) + ((β 6 (mt_rp (β 6) m)) % 64)))]) dM_faultOf_86 (by decide) rfl ?_
                have ebeh : (((mt_rp (β 6) m : Nat) : Int) + 1) + ((β 6 (mt_rp (β 6) m)) % 64) = ((mt_rp (β 6) (m + 1) : Nat) : Int) := by
                  rw [mt_rp_y2 h76]
                  omega
                rw [ebeh]
                refine zk_iload dM_faultOf_88 rfl ?_
                refine zk_aload_n dM_faultOf_90 rfl ?_
                refine zk_get zfM_62 dM_faultOf_91 (v := .inl (τ 7)) rfl (by decide) rfl ?_
                refine zk_icmp_le (tgt := 102) dM_faultOf_94 (by decide) ⟨by omega, by omega⟩ ⟨by omega, by omega⟩ (fun h94 => ?_) (fun h94 => ?_)
                · skip
                  refine zk_iload_n dM_faultOf_102 rfl ?_
                  refine zk_iconst dM_faultOf_103 ?_
                  refine zk_icmp_ge (tgt := 124) dM_faultOf_104 (by decide) ⟨by omega, by omega⟩ ⟨by decide, by decide⟩ (fun h104 => ?_) (fun h104 => ?_)
                  · skip
                    refine zk_iload dM_faultOf_124 rfl ?_
                    refine zk_istore_n (ls' := [some (.inr (some 22)), some (.inl (((mt_rp (β 6) (m + 1) : Nat) : Int))), some (.inl (m : Int)), some (.inl ((β 6 (mt_rp (β 6) m)) / 64)), some (.inl ((β 6 (mt_rp (β 6) m)) % 64)), some (.inl (((mt_rp (β 6) (m + 1) : Nat) : Int)))]) dM_faultOf_126 (by decide) rfl ?_
                    refine zk_iinc (ls' := [some (.inr (some 22)), some (.inl (((mt_rp (β 6) (m + 1) : Nat) : Int))), some (.inl ((m : Int) + 1)), some (.inl ((β 6 (mt_rp (β 6) m)) / 64)), some (.inl ((β 6 (mt_rp (β 6) m)) % 64)), some (.inl (((mt_rp (β 6) (m + 1) : Nat) : Int)))]) dM_faultOf_127 rfl (by decide) rfl ?_
                    refine zk_goto (tgt := 17) dM_faultOf_130 (by decide) ?_
                    have e2 : (m : Int) + 1 = ((m + 1 : Nat) : Int) := by omega
                    rw [e2]
                    refine zk_W.drop 3 rfl (zk_W.drop 4 rfl (zk_W.drop 5 rfl ?_))
                    refine ih (m + 1) (by omega) ⟨by omega, fun k' hk' => ?_⟩
                    by_cases ek : k' = m
                    · subst ek
                      refine ⟨by omega, ⟨by omega, by omega, by omega⟩, by omega, fun hne => ?_⟩
                      first | (exfalso; omega) | (rw [show mt_rp (β 6) k' + 1 = (((mt_rp (β 6) k' : Nat) : Int) + 1).toNat by omega]; exact h117)
                    · exact hm.2 k' (by omega)
                  · skip
                    have hn2 := mt_rp_n2 (F := β 6) (k := m) (by omega)
                    have hvp1 := b6 (((mt_rp (β 6) m : Nat) : Int) + 1).toNat (by omega)
                    refine zk_aload_n dM_faultOf_107 rfl ?_
                    refine zk_get zfM_28 dM_faultOf_108 (v := .inr (some 29)) rfl (by decide) rfl ?_
                    refine zk_iload_n dM_faultOf_111 rfl ?_
                    refine zk_iconst dM_faultOf_112 ?_
                    refine zk_iadd dM_faultOf_113 ?_
                    refine zk_iald dM_faultOf_114 (n := 4110) (f := β 6) rfl (by omega) (by omega) (by omega) ?_
                    refine zk_bipush dM_faultOf_115 (by decide) ?_
                    refine zk_icmp_le (tgt := 124) dM_faultOf_117 (by decide) ⟨by omega, by omega⟩ ⟨by decide, by decide⟩ (fun h117 => ?_) (fun h117 => ?_)
                    · skip
                      refine zk_iload dM_faultOf_124 rfl ?_
                      refine zk_istore_n (ls' := [some (.inr (some 22)), some (.inl (((mt_rp (β 6) (m + 1) : Nat) : Int))), some (.inl (m : Int)), some (.inl ((β 6 (mt_rp (β 6) m)) / 64)), some (.inl ((β 6 (mt_rp (β 6) m)) % 64)), some (.inl (((mt_rp (β 6) (m + 1) : Nat) : Int)))]) dM_faultOf_126 (by decide) rfl ?_
                      refine zk_iinc (ls' := [some (.inr (some 22)), some (.inl (((mt_rp (β 6) (m + 1) : Nat) : Int))), some (.inl ((m : Int) + 1)), some (.inl ((β 6 (mt_rp (β 6) m)) / 64)), some (.inl ((β 6 (mt_rp (β 6) m)) % 64)), some (.inl (((mt_rp (β 6) (m + 1) : Nat) : Int)))]) dM_faultOf_127 rfl (by decide) rfl ?_
                      refine zk_goto (tgt := 17) dM_faultOf_130 (by decide) ?_
                      have e2 : (m : Int) + 1 = ((m + 1 : Nat) : Int) := by omega
                      rw [e2]
                      refine zk_W.drop 3 rfl (zk_W.drop 4 rfl (zk_W.drop 5 rfl ?_))
                      refine ih (m + 1) (by omega) ⟨by omega, fun k' hk' => ?_⟩
                      by_cases ek : k' = m
                      · subst ek
                        refine ⟨by omega, ⟨by omega, by omega, by omega⟩, by omega, fun hne => ?_⟩
                        first | (exfalso; omega) | (rw [show mt_rp (β 6) k' + 1 = (((mt_rp (β 6) k' : Nat) : Int) + 1).toNat by omega]; exact h117)
                      · exact hm.2 k' (by omega)
                    · skip
                      have eix : (((mt_rp (β 6) m : Nat) : Int) + 1).toNat = mt_rp (β 6) m + 1 := by omega
                      have h117' : 79 < β 6 (mt_rp (β 6) m + 1) := by
                        rw [← eix]
                        exact h117
                      refine zk_iload_n dM_faultOf_120 rfl ?_
                      refine zk_iconst dM_faultOf_121 ?_
                      refine zk_iadd dM_faultOf_122 ?_
                      exact zk_iret dM_faultOf_123 rfl ⟨rfl, _, Or.inr ⟨by omega, m, hm, Or.inr (Or.inr ⟨by omega, by omega, Or.inr (Or.inr ⟨⟨by omega, by omega, by omega⟩, by omega, by omega, h117', rfl⟩)⟩)⟩, rfl⟩
                · skip
                  refine zk_aload_n dM_faultOf_97 rfl ?_
                  refine zk_get zfM_62 dM_faultOf_98 (v := .inl (τ 7)) rfl (by decide) rfl ?_
                  exact zk_iret dM_faultOf_101 rfl ⟨rfl, _, Or.inr ⟨by omega, m, hm, Or.inr (Or.inr ⟨by omega, by omega, Or.inr (Or.inl ⟨⟨by omega, by omega, by omega⟩, by omega, rfl⟩)⟩)⟩, rfl⟩
            · skip
              refine zk_iload_n dM_faultOf_69 rfl ?_
              first | exact zk_iret dM_faultOf_70 rfl ⟨rfl, _, Or.inr ⟨by omega, m, hm, Or.inr (Or.inl ⟨by omega, by omega, rfl⟩)⟩, rfl⟩ | exact zk_iret dM_faultOf_70 rfl ⟨rfl, _, Or.inr ⟨by omega, m, hm, Or.inr (Or.inr ⟨by omega, by omega, Or.inl ⟨fun hg => by have g1 := hg.1; have g2 := hg.2.1; have g3 := hg.2.2; omega, rfl⟩⟩)⟩, rfl⟩

set_option maxRecDepth 100000 in
set_option maxHeartbeats 4000000 in
theorem kM_faultOf (G : zk_G) (sw : Bool) (σ : Nat → Int) (α : Nat → Nat → Int) (τ : Nat → Int) (β : Nat → Nat → Int) (t : zk_H) (hJ : zm_J τ β)  : zk_K G mM_faultOf (0, 0) 0 0 [.inr (some 22)] (zk_mk G sw σ α (zk_md τ β t)) (fun v h' => h' = (zk_mk G sw σ α (zk_md τ β t)) ∧ ∃ r, mt_rf (β 6) (τ 7) r ∧ v = some (.inl r)) := by
  have hI := hJ.1
  have i0 := hI.1
  have i1 := hI.2.1
  have c0 : 0 ≤ τ 0 ∧ τ 0 ≤ 100 := hI.2.2.2 0 (by decide)
  have c1 : 0 ≤ τ 1 ∧ τ 1 ≤ 100 := hI.2.2.2 1 (by decide)
  have c2 : 0 ≤ τ 2 ∧ τ 2 ≤ 100 := hI.2.2.2 2 (by decide)
  have c3 : 0 ≤ τ 3 ∧ τ 3 ≤ 100 := hI.2.2.2 3 (by decide)
  have c4 : 0 ≤ τ 4 ∧ τ 4 ≤ 100 := hI.2.2.2 4 (by decide)
  have j5 := hJ.2.1
  have j6 := hJ.2.2.1
  have j7 := hJ.2.2.2.1
  have j8 := hJ.2.2.2.2.1
  have hA := hJ.2.2.2.2.2.1
  refine zk_K.of (ls := [some (.inr (some 22)), none, none, none, none, none]) (by decide +kernel) (Nat.le_of_ble_eq_true rfl) rfl ?_
  refine zk_aload_n dM_faultOf_0 rfl ?_
  refine zk_get zfM_62 dM_faultOf_1 (v := .inl (τ 7)) rfl (by decide) rfl ?_
  refine zk_iconst dM_faultOf_4 ?_
  refine zk_icmp_ge (tgt := 13) dM_faultOf_5 (by decide) ⟨by omega, by omega⟩ ⟨by decide, by decide⟩ (fun h5 => ?_) (fun h5 => ?_)
  · skip
    refine zk_iconst dM_faultOf_13 ?_
    refine zk_istore_n (ls' := [some (.inr (some 22)), some (.inl 2), none, none, none, none]) dM_faultOf_14 (by decide) rfl ?_
    refine zk_iconst dM_faultOf_15 ?_
    refine zk_istore_n (ls' := [some (.inr (some 22)), some (.inl 2), some (.inl 0), none, none, none]) dM_faultOf_16 (by decide) rfl ?_
    exact wM_fault G sw σ α τ β t hJ (by omega) 101 0 (by omega) ⟨by omega, fun k' hk' => absurd hk' (Nat.not_lt_zero k')⟩
  · skip
    refine zk_aload_n dM_faultOf_8 rfl ?_
    refine zk_get zfM_62 dM_faultOf_9 (v := .inl (τ 7)) rfl (by decide) rfl ?_
    exact zk_iret dM_faultOf_12 rfl ⟨rfl, τ 7, Or.inl ⟨by omega, rfl⟩, rfl⟩

/-- other acts -/
def zm_4 (β : Nat → Nat → Int) (K P C L : Nat → Int) : Nat → Nat → Int := fun j => if j = 2 then K else if j = 3 then P else if j = 4 then C else if j = 5 then L else β j
theorem zm_4_2 (β : Nat → Nat → Int) (K P C L X : Nat → Int) : zk_ua (zm_4 β K P C L) 2 X = zm_4 β X P C L := by
  funext j
  unfold zk_ua zm_4
  by_cases h2 : j = 2
  · rw [if_pos h2, if_pos h2]
  · rw [if_neg h2, if_neg h2, if_neg h2]
theorem zm_4_3 (β : Nat → Nat → Int) (K P C L X : Nat → Int) : zk_ua (zm_4 β K P C L) 3 X = zm_4 β K X C L := by
  funext j
  unfold zk_ua zm_4
  by_cases h3 : j = 3
  · subst h3; rfl
  · rw [if_neg h3, if_neg h3, if_neg h3]
theorem zm_4_4 (β : Nat → Nat → Int) (K P C L X : Nat → Int) : zk_ua (zm_4 β K P C L) 4 X = zm_4 β K P X L := by
  funext j
  unfold zk_ua zm_4
  by_cases h4 : j = 4
  · subst h4; rfl
  · rw [if_neg h4, if_neg h4, if_neg h4]
theorem zm_4_5 (β : Nat → Nat → Int) (K P C L X : Nat → Int) : zk_ua (zm_4 β K P C L) 5 X = zm_4 β K P C X := by
  funext j
  unfold zk_ua zm_4
  by_cases h5 : j = 5
  · subst h5; rfl
  · rw [if_neg h5, if_neg h5, if_neg h5]
theorem zm_4_self (β : Nat → Nat → Int) : zm_4 β (β 2) (β 3) (β 4) (β 5) = β := by
  funext j
  unfold zm_4
  by_cases h2 : j = 2
  · rw [if_pos h2, h2]
  · rw [if_neg h2]
    by_cases h3 : j = 3
    · rw [if_pos h3, h3]
    · rw [if_neg h3]
      by_cases h4 : j = 4
      · rw [if_pos h4, h4]
      · rw [if_neg h4]
        by_cases h5 : j = 5
        · rw [if_pos h5, h5]
        · rw [if_neg h5]

set_option maxRecDepth 100000 in
set_option maxHeartbeats 4000000 in
theorem wM_read_l (G : zk_G) (sw : Bool) (σ : Nat → Int) (α : Nat → Nat → Int) (τ : Nat → Int) (β : Nat → Nat → Int) (t : zk_H) (hJ : zm_J τ β) {K P C L : Nat → Int} {m : Nat} (hm : m < 100) (hrp : ((mt_rp (β 6) m : Nat) : Int) < τ 7) (hk2 : β 6 (mt_rp (β 6) m) / 64 = 2) (h40 : β 6 (mt_rp (β 6) m) % 64 ≤ 40) (hend : ((mt_rp (β 6) (m + 1) : Nat) : Int) ≤ τ 7) {Q : Option zk_V → zk_H → Prop} (hk : zk_W G mM_read (1, 25) 0 0 167 [some (.inr (some 22)), some (.inl (-1)), some (.inl ((mt_rp (β 6) m : Nat) : Int)), some (.inl (β 6 (mt_rp (β 6) m) / 64)), some (.inl (β 6 (mt_rp (β 6) m) % 64)), none] [] (zk_mk G sw σ α (zk_md (zk_up (zk_up τ 6 (256 * β 6 0 + β 6 1)) 5 (m : Int)) (zm_4 β (zk_up K m (β 6 (mt_rp (β 6) m) / 64)) (zk_up P m 0) (zk_up C m (β 6 (mt_rp (β 6) m) % 64)) (mt_ap L (40 * m) (β 6 (mt_rp (β 6) m) % 64).toNat (fun j => β 6 (mt_rp (β 6) m + 1 + j)))) t)) Q) : ∀ (k : Nat) (j : Nat), ((j : Int) ≤ β 6 (mt_rp (β 6) m) % 64) → (β 6 (mt_rp (β 6) m) % 64 < (j : Int) + k) → zk_W G mM_read (1, 25) 0 0 123 [some (.inr (some 22)), some (.inl (-1)), some (.inl ((mt_rp (β 6) m : Nat) : Int)), some (.inl (β 6 (mt_rp (β 6) m) / 64)), some (.inl (β 6 (mt_rp (β 6) m) % 64)), some (.inl (j : Int))] [] (zk_mk G sw σ α (zk_md (zk_up (zk_up τ 6 (256 * β 6 0 + β 6 1)) 5 (m : Int)) (zm_4 β (zk_up K m (β 6 (mt_rp (β 6) m) / 64)) (zk_up P m 0) (zk_up C m (β 6 (mt_rp (β 6) m) % 64)) (mt_ap L (40 * m) j (fun j => β 6 (mt_rp (β 6) m + 1 + j)))) t)) Q := by
  intro k
  induction k with
  | zero =>
    intro j g1 g2
    exfalso
    omega
  | succ k ih =>
    intro j g1 g2
    have hI := hJ.1
    have i0 := hI.1
    have i1 := hI.2.1
    have c0 : 0 ≤ τ 0 ∧ τ 0 ≤ 100 := hI.2.2.2 0 (by decide)
    have c1 : 0 ≤ τ 1 ∧ τ 1 ≤ 100 := hI.2.2.2 1 (by decide)
    have c2 : 0 ≤ τ 2 ∧ τ 2 ≤ 100 := hI.2.2.2 2 (by decide)
    have c3 : 0 ≤ τ 3 ∧ τ 3 ≤ 100 := hI.2.2.2 3 (by decide)
    have c4 : 0 ≤ τ 4 ∧ τ 4 ≤ 100 := hI.2.2.2 4 (by decide)
    have j5 := hJ.2.1
    have j6 := hJ.2.2.1
    have j7 := hJ.2.2.2.1
    have j8 := hJ.2.2.2.2.1
    have hA := hJ.2.2.2.2.2.1
    have b6 := hJ.2.2.2.2.2.2.2.1
    have hvp := b6 (mt_rp (β 6) m) (by omega)
    have hy2 := mt_rp_y2 hk2
    refine zk_iload dM_read_123 rfl ?_
    refine zk_iload dM_read_125 rfl ?_
    refine zk_icmp_ge (tgt := 167) dM_read_127 (by decide) ⟨by omega, by omega⟩ ⟨by omega, by omega⟩ (fun h127 => ?_) (fun h127 => ?_)
    · skip
      have ej : (β 6 (mt_rp (β 6) m) % 64).toNat = j := by omega
      rw [ej] at hk
      refine zk_W.drop 5 rfl ?_
      exact hk
    · skip
      refine zk_iload_n dM_read_130 rfl ?_
      refine zk_iconst dM_read_131 ?_
      refine zk_icmp_ne (tgt := 167) dM_read_132 (by decide) ⟨by omega, by omega⟩ ⟨by decide, by decide⟩ (fun h132 => ?_) (fun h132 => ?_)
      · skip
        exfalso; omega
      · skip
        refine zk_aload_n dM_read_135 rfl ?_
        refine zk_get zfM_25 dM_read_136 (v := .inr (some 28)) rfl (by decide) rfl ?_
        refine zk_bipush dM_read_139 (by decide) ?_
        refine zk_aload_n dM_read_141 rfl ?_
        refine zk_get zfM_56 dM_read_142 (v := .inl (m : Int)) rfl (by decide) rfl ?_
        refine zk_imul dM_read_145 ?_
        refine zk_iload dM_read_146 rfl ?_
        refine zk_iadd dM_read_148 ?_
        refine zk_aload_n dM_read_149 rfl ?_
        refine zk_get zfM_28 dM_read_150 (v := .inr (some 29)) rfl (by decide) rfl ?_
        refine zk_iload_n dM_read_153 rfl ?_
        refine zk_iconst dM_read_154 ?_
        refine zk_iadd dM_read_155 ?_
        refine zk_iload dM_read_156 rfl ?_
        refine zk_iadd dM_read_158 ?_
        refine zk_iald dM_read_159 (n := 4110) (f := β 6) rfl (by omega) (by omega) (by omega) ?_
        refine zk_iast dM_read_160 (n := 4000) (f := mt_ap L (40 * m) j (fun j => β 6 (mt_rp (β 6) m + 1 + j))) (h' := (zk_mk G sw σ α (zk_md (zk_up (zk_up τ 6 (256 * β 6 0 + β 6 1)) 5 (m : Int)) (zk_ua (zm_4 β (zk_up K m (β 6 (mt_rp (β 6) m) / 64)) (zk_up P m 0) (zk_up C m (β 6 (mt_rp (β 6) m) % 64)) (mt_ap L (40 * m) j (fun j => β 6 (mt_rp (β 6) m + 1 + j)))) 5 (zk_up (mt_ap L (40 * m) j (fun j => β 6 (mt_rp (β 6) m + 1 + j))) ((40 * (m : Int)) + (j : Int)).toNat (β 6 ((((mt_rp (β 6) m : Nat) : Int) + 1) + (j : Int)).toNat))) t))) rfl (by decide) (by omega) (by omega) (by omega) rfl ?_
        refine zk_iinc (ls' := [some (.inr (some 22)), some (.inl (-1)), some (.inl ((mt_rp (β 6) m : Nat) : Int)), some (.inl (β 6 (mt_rp (β 6) m) / 64)), some (.inl (β 6 (mt_rp (β 6) m) % 64)), some (.inl ((j : Int) + 1))]) dM_read_161 rfl (by decide) rfl ?_
        refine zk_goto (tgt := 123) dM_read_164 (by decide) ?_
        have e2 : (j : Int) + 1 = ((j + 1 : Nat) : Int) := by omega
        have eg : β 6 (((mt_rp (β 6) m : Nat) : Int) + 1 + (j : Int)).toNat = (fun j => β 6 (mt_rp (β 6) m + 1 + j)) j := by
          show _ = β 6 (mt_rp (β 6) m + 1 + j)
          congr 1
          all_goals omega
        rw [e2, eg, show (40 * (m : Int) + (j : Int)).toNat = 40 * m + j by omega, zm_4_5, mt_ap_up]
        exact ih (j + 1) (by omega) (by omega)

set_option maxRecDepth 100000 in
set_option maxHeartbeats 4000000 in
theorem wM_read (G : zk_G) (sw : Bool) (σ : Nat → Int) (α : Nat → Nat → Int) (τ : Nat → Int) (β : Nat → Nat → Int) (t : zk_H) (hJ : zm_J τ β) (h2 : 2 ≤ τ 7) {m0 : Nat} (hm0 : mt_rm (β 6) (τ 7) m0) (hn0' : τ 7 ≤ (mt_rp (β 6) m0 : Int)) : ∀ (k : Nat) (m : Nat) (K P C L : Nat → Int), (m ≤ m0) → (m0 < m + k) → (mt_rd (β 6) K P C (fun k j => L (40 * k + j)) m) → (∀ k, k < m → 0 ≤ P k ∧ P k ≤ 79) → zk_W G mM_read (1, 25) 0 0 44 [some (.inr (some 22)), some (.inl (-1)), some (.inl ((mt_rp (β 6) m : Nat) : Int)), none, none, none] [] (zk_mk G sw σ α (zk_md (zk_up (zk_up τ 6 (256 * β 6 0 + β 6 1)) 5 (m : Int)) (zm_4 β K P C L) t)) (fun v h' => ∃ K P C L : Nat → Int, mt_rd (β 6) K P C (fun k j => L (40 * k + j)) m0 ∧ (∀ k, k < m0 → 0 ≤ P k ∧ P k ≤ 79) ∧ h' = (zk_mk G sw σ α (zk_md (zk_up (zk_up τ 6 (256 * β 6 0 + β 6 1)) 5 (m0 : Int)) (zm_4 β K P C L) t)) ∧ v = some (.inl (m0 : Int))) := by
  intro k
  induction k with
  | zero =>
    intro m K P C L g1 g2 hrd hP
    exfalso
    omega
  | succ k ih =>
    intro m K P C L g1 g2 hrd hP
    have hI := hJ.1
    have i0 := hI.1
    have i1 := hI.2.1
    have c0 : 0 ≤ τ 0 ∧ τ 0 ≤ 100 := hI.2.2.2 0 (by decide)
    have c1 : 0 ≤ τ 1 ∧ τ 1 ≤ 100 := hI.2.2.2 1 (by decide)
    have c2 : 0 ≤ τ 2 ∧ τ 2 ≤ 100 := hI.2.2.2 2 (by decide)
    have c3 : 0 ≤ τ 3 ∧ τ 3 ≤ 100 := hI.2.2.2 3 (by decide)
    have c4 : 0 ≤ τ 4 ∧ τ 4 ≤ 100 := hI.2.2.2 4 (by decide)
    have j5 := hJ.2.1
    have j6 := hJ.2.2.1
    have j7 := hJ.2.2.2.1
    have j8 := hJ.2.2.2.2.1
    have hA := hJ.2.2.2.2.2.1
    have b6 := hJ.2.2.2.2.2.2.2.1
    have hm100 := hm0.1
    have hrl := mt_rp_mono (F := β 6) (k := m) (m := m0) g1
    have hnl := mt_rm_le hm0 h2
    refine zk_iload_n dM_read_44 rfl ?_
    refine zk_aload_n dM_read_45 rfl ?_
    refine zk_get zfM_62 dM_read_46 (v := .inl (τ 7)) rfl (by decide) rfl ?_
    refine zk_icmp_ge (tgt := 196) dM_read_49 (by decide) ⟨by omega, by omega⟩ ⟨by omega, by omega⟩ (fun h49 => ?_) (fun h49 => ?_)
    · skip
      refine zk_aload_n dM_read_196 rfl ?_
      refine zk_get zfM_56 dM_read_197 (v := .inl (m : Int)) rfl (by decide) rfl ?_
      have em : m = m0 := by
        refine Classical.byContradiction fun hc2 => ?_
        have := (hm0.2 m (by omega)).1
        omega
      subst em
      exact zk_iret dM_read_200 rfl ⟨K, P, C, L, hrd, hP, rfl, rfl⟩
    · skip
      have hlt : m < m0 := by
        refine Classical.byContradiction fun hc2 => ?_
        have em : m = m0 := by omega
        rw [em] at h49
        omega
      have hgm := (hm0.2 m hlt).2
      obtain ⟨⟨u1, u2, u3⟩, u4, u5⟩ := id hgm
      have hvp := b6 (mt_rp (β 6) m) (by omega)
      refine zk_aload_n dM_read_52 rfl ?_
      refine zk_get zfM_28 dM_read_53 (v := .inr (some 29)) rfl (by decide) rfl ?_
      refine zk_iload_n dM_read_56 rfl ?_
      refine zk_iald dM_read_57 (n := 4110) (f := β 6) rfl (by omega) (by omega) (by omega) ?_
      refine zk_W.to (ls' := [some (.inr (some 22)), some (.inl (-1)), some (.inl ((mt_rp (β 6) m : Nat) : Int)), none, none, none]) (st' := [.inl (β 6 (mt_rp (β 6) m))]) (h' := (zk_mk G sw σ α (zk_md (zk_up (zk_up τ 6 (256 * β 6 0 + β 6 1)) 5 (m : Int)) (zm_4 β K P C L) t))) rfl rfl rfl ?_
      refine zk_bipush dM_read_58 (by decide) ?_
      refine zk_idiv dM_read_60 (by omega) ⟨by omega, by omega⟩ (by omega) ⟨by decide, by decide⟩ ?_
      refine zk_istore_n (ls' := [some (.inr (some 22)), some (.inl (-1)), some (.inl ((mt_rp (β 6) m : Nat) : Int)), some (.inl ((β 6 (mt_rp (β 6) m)) / 64)), none, none]) dM_read_61 (by decide) rfl ?_
      refine zk_aload_n dM_read_62 rfl ?_
      refine zk_get zfM_28 dM_read_63 (v := .inr (some 29)) rfl (by decide) rfl ?_
      refine zk_iload_n dM_read_66 rfl ?_
      refine zk_iald dM_read_67 (n := 4110) (f := β 6) rfl (by omega) (by omega) (by omega) ?_
      refine zk_W.to (ls' := [some (.inr (some 22)), some (.inl (-1)), some (.inl ((mt_rp (β 6) m : Nat) : Int)), some (.inl ((β 6 (mt_rp (β 6) m)) / 64)), none, none]) (st' := [.inl (β 6 (mt_rp (β 6) m))]) (h' := (zk_mk G sw σ α (zk_md (zk_up (zk_up τ 6 (256 * β 6 0 + β 6 1)) 5 (m : Int)) (zm_4 β K P C L) t))) rfl rfl rfl ?_
      refine zk_bipush dM_read_68 (by decide) ?_
      refine zk_irem dM_read_70 (by omega) ⟨by omega, by omega⟩ (by omega) ⟨by decide, by decide⟩ ?_
      refine zk_istore (ls' := [some (.inr (some 22)), some (.inl (-1)), some (.inl ((mt_rp (β 6) m : Nat) : Int)), some (.inl ((β 6 (mt_rp (β 6) m)) / 64)), some (.inl ((β 6 (mt_rp (β 6) m)) % 64)), none]) dM_read_71 (by decide) rfl ?_
      refine zk_aload_n dM_read_73 rfl ?_
      refine zk_get zfM_16 dM_read_74 (v := .inr (some 25)) rfl (by decide) rfl ?_
      refine zk_aload_n dM_read_77 rfl ?_
      refine zk_get zfM_56 dM_read_78 (v := .inl (m : Int)) rfl (by decide) rfl ?_
      refine zk_iload_n dM_read_81 rfl ?_
      refine zk_iast dM_read_82 (n := 100) (f := K) (h' := (zk_mk G sw σ α (zk_md (zk_up (zk_up τ 6 (256 * β 6 0 + β 6 1)) 5 (m : Int)) (zk_ua (zm_4 β K P C L) 2 (zk_up K m ((β 6 (mt_rp (β 6) m)) / 64))) t))) rfl (by decide) (by omega) (by omega) (by omega) rfl ?_
      refine zk_aload_n dM_read_83 rfl ?_
      refine zk_get zfM_22 dM_read_84 (v := .inr (some 27)) rfl (by decide) rfl ?_
      refine zk_aload_n dM_read_87 rfl ?_
      refine zk_get zfM_56 dM_read_88 (v := .inl (m : Int)) rfl (by decide) rfl ?_
      refine zk_iload dM_read_91 rfl ?_
      refine zk_iast dM_read_93 (n := 100) (f := C) (h' := (zk_mk G sw σ α (zk_md (zk_up (zk_up τ 6 (256 * β 6 0 + β 6 1)) 5 (m : Int)) (zk_ua (zk_ua (zm_4 β K P C L) 2 (zk_up K m ((β 6 (mt_rp (β 6) m)) / 64))) 4 (zk_up C m ((β 6 (mt_rp (β 6) m)) % 64))) t))) rfl (by decide) (by omega) (by omega) (by omega) rfl ?_
      refine zk_aload_n dM_read_94 rfl ?_
      refine zk_get zfM_19 dM_read_95 (v := .inr (some 26)) rfl (by decide) rfl ?_
      refine zk_aload_n dM_read_98 rfl ?_
      refine zk_get zfM_56 dM_read_99 (v := .inl (m : Int)) rfl (by decide) rfl ?_
      refine zk_iload_n dM_read_102 rfl ?_
      refine zk_iconst dM_read_103 ?_
      refine zk_icmp_ne (tgt := 111) dM_read_104 (by decide) ⟨by omega, by omega⟩ ⟨by decide, by decide⟩ (fun h104 => ?_) (fun h104 => ?_)
      · skip
        have hn2 := mt_rp_n2 (F := β 6) (k := m) h104
        refine zk_aload_n dM_read_111 rfl ?_
        refine zk_get zfM_28 dM_read_112 (v := .inr (some 29)) rfl (by decide) rfl ?_
        refine zk_iload_n dM_read_115 rfl ?_
        refine zk_iconst dM_read_116 ?_
        refine zk_iadd dM_read_117 ?_
        refine zk_iald dM_read_118 (n := 4110) (f := β 6) rfl (by omega) (by omega) (by omega) ?_
        refine zk_iast dM_read_119 (n := 100) (f := P) (h' := (zk_mk G sw σ α (zk_md (zk_up (zk_up τ 6 (256 * β 6 0 + β 6 1)) 5 (m : Int)) (zk_ua (zk_ua (zk_ua (zm_4 β K P C L) 2 (zk_up K m ((β 6 (mt_rp (β 6) m)) / 64))) 4 (zk_up C m ((β 6 (mt_rp (β 6) m)) % 64))) 3 (zk_up P m (β 6 (((mt_rp (β 6) m : Nat) : Int) + 1).toNat))) t))) rfl (by decide) (by omega) (by omega) (by omega) rfl ?_
        refine zk_iconst dM_read_120 ?_
        refine zk_istore (ls' := [some (.inr (some 22)), some (.inl (-1)), some (.inl ((mt_rp (β 6) m : Nat) : Int)), some (.inl ((β 6 (mt_rp (β 6) m)) / 64)), some (.inl ((β 6 (mt_rp (β 6) m)) % 64)), some (.inl 0)]) dM_read_121 (by decide) rfl ?_
        rw [zm_4_2, zm_4_4, zm_4_3]
        have hk2 := h104
        refine zk_iload dM_read_123 rfl ?_
        refine zk_iload dM_read_125 rfl ?_
        refine zk_icmp_ge (tgt := 167) dM_read_127 (by decide) ⟨by decide, by decide⟩ ⟨by omega, by omega⟩ (fun h127 => ?_) (fun h127 => ?_)
        · skip
          exfalso; omega
        · skip
          refine zk_iload_n dM_read_130 rfl ?_
          refine zk_iconst dM_read_131 ?_
          refine zk_icmp_ne (tgt := 167) dM_read_132 (by decide) ⟨by omega, by omega⟩ ⟨by decide, by decide⟩ (fun h132 => ?_) (fun h132 => ?_)
          · skip
            refine zk_iload_n dM_read_167 rfl ?_
            refine zk_iconst dM_read_168 ?_
            refine zk_iload_n dM_read_169 rfl ?_
            refine zk_iconst dM_read_170 ?_
            refine zk_icmp_ne (tgt := 179) dM_read_171 (by decide) ⟨by omega, by omega⟩ ⟨by decide, by decide⟩ (fun h171 => ?_) (fun h171 => ?_)
            · skip
              refine zk_iconst dM_read_179 ?_
              refine zk_iadd dM_read_180 ?_
              refine zk_iadd dM_read_181 ?_
              refine zk_istore_n (ls' := [some (.inr (some 22)), some (.inl (-1)), some (.inl (((mt_rp (β 6) m : Nat) : Int) + (1 + 1))), some (.inl ((β 6 (mt_rp (β 6) m)) / 64)), some (.inl ((β 6 (mt_rp (β 6) m)) % 64)), some (.inl 0)]) dM_read_182 (by decide) rfl ?_
              refine zk_aload_n dM_read_183 rfl ?_
              refine zk_dup dM_read_184 ?_
              refine zk_get zfM_56 dM_read_185 (v := .inl (m : Int)) rfl (by decide) rfl ?_
              refine zk_iconst dM_read_188 ?_
              refine zk_iadd dM_read_189 ?_
              refine zk_put zfM_56 dM_read_190 (h' := (zk_mk G sw σ α (zk_md (zk_up (zk_up (zk_up τ 6 (256 * β 6 0 + β 6 1)) 5 (m : Int)) 5 ((m : Int) + 1)) (zm_4 β (zk_up K m (β 6 (mt_rp (β 6) m) / 64)) (zk_up P m (β 6 (((mt_rp (β 6) m : Nat) : Int) + 1).toNat)) (zk_up C m (β 6 (mt_rp (β 6) m) % 64)) L) t))) rfl (by decide) (Nat.le_of_ble_eq_true rfl) rfl rfl rfl ?_
              refine zk_goto (tgt := 44) dM_read_193 (by decide) ?_
              have e2 : (m : Int) + 1 = ((m + 1 : Nat) : Int) := by omega
              have e4 : ((mt_rp (β 6) m : Nat) : Int) + (1 + 1) = ((mt_rp (β 6) (m + 1) : Nat) : Int) := by
                rw [mt_rp_n2 hk2]
                omega
              rw [zk_up_up, e2, e4]
              refine zk_W.drop 3 rfl (zk_W.drop 4 rfl ?_)
              refine zk_W.drop 5 rfl ?_
              rw [show (((mt_rp (β 6) m : Nat) : Int) + 1).toNat = mt_rp (β 6) m + 1 by omega]
              refine ih (m + 1) _ _ _ _ (by omega) (by omega) (mt_rd_up hrd (fun k' hk' => ⟨zk_up_ne (by omega), zk_up_ne (by omega), zk_up_ne (by omega), fun h2 j hj => ?_⟩) (zk_up_at _ _ _) (zk_up_at _ _ _) (fun z => ?_) (fun z j hj => ?_)) (fun k' hk' => ?_)
              · rfl
              · exact zk_up_at _ _ _
              · rw [zk_up_at] at z
                exact absurd z hk2
              · by_cases e : k' = m
                · subst e
                  rw [zk_up_at]
                  have := b6 (mt_rp (β 6) k' + 1) (by omega)
                  have := hgm.2.2 hk2
                  omega
                · rw [zk_up_ne e]
                  exact hP k' (by omega)
            · skip
              exfalso; omega
          · skip
            exfalso; omega
      · skip
        refine zk_iconst dM_read_107 ?_
        refine zk_goto (tgt := 119) dM_read_108 (by decide) ?_
        refine zk_iast dM_read_119 (n := 100) (f := P) (h' := (zk_mk G sw σ α (zk_md (zk_up (zk_up τ 6 (256 * β 6 0 + β 6 1)) 5 (m : Int)) (zk_ua (zk_ua (zk_ua (zm_4 β K P C L) 2 (zk_up K m ((β 6 (mt_rp (β 6) m)) / 64))) 4 (zk_up C m ((β 6 (mt_rp (β 6) m)) % 64))) 3 (zk_up P m 0)) t))) rfl (by decide) (by omega) (by omega) (by omega) rfl ?_
        refine zk_iconst dM_read_120 ?_
        refine zk_istore (ls' := [some (.inr (some 22)), some (.inl (-1)), some (.inl ((mt_rp (β 6) m : Nat) : Int)), some (.inl ((β 6 (mt_rp (β 6) m)) / 64)), some (.inl ((β 6 (mt_rp (β 6) m)) % 64)), some (.inl 0)]) dM_read_121 (by decide) rfl ?_
        rw [zm_4_2, zm_4_4, zm_4_3]
        have hk2 := h104
        have key := wM_read_l G sw σ α τ β t hJ (K := K) (P := P) (C := C) (L := L) (m := m) (by omega) (by omega) hk2 (by omega) (by omega) (Q := (fun v h' => ∃ K P C L : Nat → Int, mt_rd (β 6) K P C (fun k j => L (40 * k + j)) m0 ∧ (∀ k, k < m0 → 0 ≤ P k ∧ P k ≤ 79) ∧ h' = (zk_mk G sw σ α (zk_md (zk_up (zk_up τ 6 (256 * β 6 0 + β 6 1)) 5 (m0 : Int)) (zm_4 β K P C L) t)) ∧ v = some (.inl (m0 : Int)))) ?_ (β 6 (mt_rp (β 6) m) % 64 + 1).toNat 0 (by omega) (by omega)
        · rw [mt_ap_0] at key
          exact key
        · skip
          refine zk_iload_n dM_read_167 rfl ?_
          refine zk_iconst dM_read_168 ?_
          refine zk_iload_n dM_read_169 rfl ?_
          refine zk_iconst dM_read_170 ?_
          refine zk_icmp_ne (tgt := 179) dM_read_171 (by decide) ⟨by omega, by omega⟩ ⟨by decide, by decide⟩ (fun h171 => ?_) (fun h171 => ?_)
          · skip
            exfalso; omega
          · skip
            refine zk_iload dM_read_174 rfl ?_
            refine zk_goto (tgt := 180) dM_read_176 (by decide) ?_
            refine zk_iadd dM_read_180 ?_
            refine zk_iadd dM_read_181 ?_
            refine zk_istore_n (ls' := [some (.inr (some 22)), some (.inl (-1)), some (.inl (((mt_rp (β 6) m : Nat) : Int) + (1 + (β 6 (mt_rp (β 6) m) % 64)))), some (.inl (β 6 (mt_rp (β 6) m) / 64)), some (.inl (β 6 (mt_rp (β 6) m) % 64)), none]) dM_read_182 (by decide) rfl ?_
            refine zk_aload_n dM_read_183 rfl ?_
            refine zk_dup dM_read_184 ?_
            refine zk_get zfM_56 dM_read_185 (v := .inl (m : Int)) rfl (by decide) rfl ?_
            refine zk_iconst dM_read_188 ?_
            refine zk_iadd dM_read_189 ?_
            refine zk_put zfM_56 dM_read_190 (h' := (zk_mk G sw σ α (zk_md (zk_up (zk_up (zk_up τ 6 (256 * β 6 0 + β 6 1)) 5 (m : Int)) 5 ((m : Int) + 1)) (zm_4 β (zk_up K m (β 6 (mt_rp (β 6) m) / 64)) (zk_up P m 0) (zk_up C m (β 6 (mt_rp (β 6) m) % 64)) (mt_ap L (40 * m) (β 6 (mt_rp (β 6) m) % 64).toNat (fun j => β 6 (mt_rp (β 6) m + 1 + j)))) t))) rfl (by decide) (Nat.le_of_ble_eq_true rfl) rfl rfl rfl ?_
            refine zk_goto (tgt := 44) dM_read_193 (by decide) ?_
            have e2 : (m : Int) + 1 = ((m + 1 : Nat) : Int) := by omega
            have e4 : ((mt_rp (β 6) m : Nat) : Int) + (1 + (β 6 (mt_rp (β 6) m) % 64)) = ((mt_rp (β 6) (m + 1) : Nat) : Int) := by
              rw [mt_rp_y2 hk2]
              omega
            rw [zk_up_up, e2, e4]
            refine zk_W.drop 3 rfl (zk_W.drop 4 rfl ?_)
            refine ih (m + 1) _ _ _ _ (by omega) (by omega) (mt_rd_up hrd (fun k' hk' => ⟨zk_up_ne (by omega), zk_up_ne (by omega), zk_up_ne (by omega), fun h2 j hj => ?_⟩) (zk_up_at _ _ _) (zk_up_at _ _ _) (fun z => ?_) (fun z j hj => ?_)) (fun k' hk' => ?_)
            · have hc := hrd k' (by omega)
              have hb := (hm0.2 k' (by omega)).2.1.2.2
              exact mt_ap_out (by omega)
            · rw [zk_up_at] at z
              exact absurd hk2 z
            · rw [zk_up_at] at hj
              exact mt_ap_in (by omega)
            · by_cases e : k' = m
              · subst e
                rw [zk_up_at]
                omega
              · rw [zk_up_ne e]
                exact hP k' (by omega)

set_option maxRecDepth 100000 in
set_option maxHeartbeats 4000000 in
theorem kM_read (G : zk_G) (sw : Bool) (σ : Nat → Int) (α : Nat → Nat → Int) (τ : Nat → Int) (β : Nat → Nat → Int) (t : zk_H) (hJ : zm_J τ β)  : zk_K G mM_read (1, 25) 0 0 [.inr (some 22)] (zk_mk G sw σ α (zk_md τ β t)) (fun v h' => ∃ r, mt_rf (β 6) (τ 7) r ∧ ((r ≠ -1 ∧ h' = (zk_mk G sw σ α (zk_md τ β t)) ∧ v = some (.inl (-1000 - r))) ∨ (r = -1 ∧ 2 ≤ τ 7 ∧ ∃ (K P C L : Nat → Int) (m0 : Nat), mt_rm (β 6) (τ 7) m0 ∧ τ 7 ≤ (mt_rp (β 6) m0 : Int) ∧ mt_rd (β 6) K P C (fun k j => L (40 * k + j)) m0 ∧ (∀ k, k < m0 → 0 ≤ P k ∧ P k ≤ 79) ∧ h' = (zk_mk G sw σ α (zk_md (zk_up (zk_up τ 6 (256 * β 6 0 + β 6 1)) 5 (m0 : Int)) (zm_4 β K P C L) t)) ∧ v = some (.inl (m0 : Int))))) := by
  have hI := hJ.1
  have i0 := hI.1
  have i1 := hI.2.1
  have c0 : 0 ≤ τ 0 ∧ τ 0 ≤ 100 := hI.2.2.2 0 (by decide)
  have c1 : 0 ≤ τ 1 ∧ τ 1 ≤ 100 := hI.2.2.2 1 (by decide)
  have c2 : 0 ≤ τ 2 ∧ τ 2 ≤ 100 := hI.2.2.2 2 (by decide)
  have c3 : 0 ≤ τ 3 ∧ τ 3 ≤ 100 := hI.2.2.2 3 (by decide)
  have c4 : 0 ≤ τ 4 ∧ τ 4 ≤ 100 := hI.2.2.2 4 (by decide)
  have j5 := hJ.2.1
  have j6 := hJ.2.2.1
  have j7 := hJ.2.2.2.1
  have j8 := hJ.2.2.2.2.1
  have hA := hJ.2.2.2.2.2.1
  refine zk_K.of (ls := [some (.inr (some 22)), none, none, none, none, none]) (by decide +kernel) (Nat.le_of_ble_eq_true rfl) rfl ?_
  refine zk_aload_n dM_read_0 rfl ?_
  refine zk_callV (av := []) (st := []) (d' := (0, 0)) (kc' := 0) (ks' := 0) zbM_124 dM_read_1 rfl (by decide) rfl rfl (Nat.le_of_ble_eq_true rfl) ⟨by decide, by decide⟩ rfl rfl (kM_faultOf G sw σ α τ β t hJ) (fun v9 h9 q9 => ?_)
  obtain ⟨rfl, r, hrf, rfl⟩ := q9
  have hrr := mt_rf_rg (N := 4102) hrf j7 (by omega)
  refine zk_W.to (ls' := [some (.inr (some 22)), none, none, none, none, none]) (st' := [.inl r]) (h' := (zk_mk G sw σ α (zk_md τ β t))) rfl rfl rfl ?_
  refine zk_istore_n (ls' := [some (.inr (some 22)), some (.inl r), none, none, none, none]) dM_read_4 (by decide) rfl ?_
  refine zk_iload_n dM_read_5 rfl ?_
  refine zk_iconst dM_read_6 ?_
  refine zk_icmp_eq (tgt := 16) dM_read_7 (by decide) ⟨by omega, by omega⟩ ⟨by decide, by decide⟩ (fun h7 => ?_) (fun h7 => ?_)
  · skip
    subst h7
    obtain ⟨h23, m0, hm0, hm1⟩ := mt_rf_no hrf (by omega)
    refine zk_aload_n dM_read_16 rfl ?_
    refine zk_sipush dM_read_17 (by decide) ?_
    refine zk_aload_n dM_read_20 rfl ?_
    refine zk_get zfM_28 dM_read_21 (v := .inr (some 29)) rfl (by decide) rfl ?_
    refine zk_iconst dM_read_24 ?_
    refine zk_iald dM_read_25 (n := 4110) (f := β 6) rfl (by omega) (by omega) (by omega) ?_
    refine zk_W.to (ls' := [some (.inr (some 22)), some (.inl (-1)), none, none, none, none]) (st' := [.inl (β 6 0), .inl 256, .inr (some 22)]) (h' := (zk_mk G sw σ α (zk_md τ β t))) rfl rfl rfl ?_
    refine zk_imul dM_read_26 ?_
    refine zk_aload_n dM_read_27 rfl ?_
    refine zk_get zfM_28 dM_read_28 (v := .inr (some 29)) rfl (by decide) rfl ?_
    refine zk_iconst dM_read_31 ?_
    refine zk_iald dM_read_32 (n := 4110) (f := β 6) rfl (by omega) (by omega) (by omega) ?_
    refine zk_W.to (ls' := [some (.inr (some 22)), some (.inl (-1)), none, none, none, none]) (st' := [.inl (β 6 1), .inl (256 * (β 6 0)), .inr (some 22)]) (h' := (zk_mk G sw σ α (zk_md τ β t))) rfl rfl rfl ?_
    refine zk_iadd dM_read_33 ?_
    refine zk_put zfM_59 dM_read_34 (h' := (zk_mk G sw σ α (zk_md (zk_up τ 6 ((256 * (β 6 0)) + (β 6 1))) β t))) rfl (by decide) (Nat.le_of_ble_eq_true rfl) rfl rfl rfl ?_
    refine zk_aload_n dM_read_37 rfl ?_
    refine zk_iconst dM_read_38 ?_
    refine zk_put zfM_56 dM_read_39 (h' := (zk_mk G sw σ α (zk_md (zk_up (zk_up τ 6 ((256 * (β 6 0)) + (β 6 1))) 5 0) β t))) rfl (by decide) (Nat.le_of_ble_eq_true rfl) rfl rfl rfl ?_
    refine zk_iconst dM_read_42 ?_
    refine zk_istore_n (ls' := [some (.inr (some 22)), some (.inl (-1)), some (.inl 2), none, none, none]) dM_read_43 (by decide) rfl ?_
    have key := wM_read G sw σ α τ β t hJ h23 hm0 hm1 (m0 + 1) 0 (β 2) (β 3) (β 4) (β 5) (by omega) (by omega) (fun k hk => absurd hk (Nat.not_lt_zero k)) (fun k hk => absurd hk (Nat.not_lt_zero k))
    rw [zm_4_self] at key
    refine key.mono (fun v h' hq => ?_)
    obtain ⟨K, P, C, L, q1, q2, q3, q4⟩ := hq
    exact ⟨-1, hrf, Or.inr ⟨rfl, h23, K, P, C, L, m0, hm0, hm1, q1, q2, q3, q4⟩⟩
  · skip
    refine zk_sipush dM_read_10 (by decide) ?_
    refine zk_iload_n dM_read_13 rfl ?_
    refine zk_isub dM_read_14 ?_
    exact zk_iret dM_read_15 rfl ⟨r, hrf, Or.inl ⟨h7, rfl, rfl⟩⟩
