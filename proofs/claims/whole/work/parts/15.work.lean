theorem zk_W.drop (i : Nat) {G : zk_G} {M : zk_M} {d : Nat × Nat} {kc ks pc : Nat} {ls ls' : List (Option zk_V)} {st : List zk_V} {h : zk_H} {Q : Option zk_V → zk_H → Prop} (e1 : ls.set i none = ls') (w : zk_W G M d kc ks pc ls' st h Q) : zk_W G M d kc ks pc ls st h Q := by
  intro p e R s m args below meth c X H locs cells slots mc ms lsr Qs hP hS h1 h2 h3 h4 hL hE
  refine w p e R s m args below meth c X H locs cells slots mc ms lsr Qs hP hS h1 h2 h3 h4 ⟨hL.1, hL.2.1, fun k v hk => hL.2.2 k v ?_⟩ hE
  rw [← e1] at hk
  by_cases hki : i = k
  · subst hki
    have hl : i < ls.length := by
      have := (List.getElem?_eq_some_iff.mp hk).1
      simpa using this
    rw [List.getElem?_set_self hl] at hk
    cases hk
  · rw [List.getElem?_set_ne hki] at hk
    exact hk
/-- the table is known -/
def zs_T (σ : Nat → Int) (α : Nat → Nat → Int) : Prop := mt_rest (α 0) (σ 0).toNat (α 1) (σ 1).toNat (zs_c σ) (mt_tb (α 9)) ∧ ∀ i s, i ≤ (σ 1).toNat → s ≤ (σ 0).toNat → 0 ≤ mt_tb (α 9) i s ∧ mt_tb (α 9) i s ≤ 4100
def zs_b (σ : Nat → Int) (α : Nat → Nat → Int) (i : Nat) : Nat → Int := mt_bp (α 0) (α 1) (α 9) (α 10) i (σ 0).toNat
def zs_g (σ : Nat → Int) (α : Nat → Nat → Int) (i : Nat) : Nat → Int := mt_bs (α 0) (σ 0).toNat (α 1) (σ 1).toNat (zs_c σ) (α 9) (α 10) (α 11) i
def zs_al (σ : Nat → Int) (α : Nat → Nat → Int) (i s : Nat) : Nat → Nat → Int := zk_ua (zk_ua (zk_ua α 10 (zs_b σ α i)) 11 (mt_es (zs_c σ) (α 9) (α 11) i s)) 9 (mt_fs (zs_g σ α i) (α 9) i s)
theorem zs_al_up (σ : Nat → Int) (α : Nat → Nat → Int) (i s : Nat) : zk_ua (zk_ua (zs_al σ α i s) 11 (mt_es (zs_c σ) (α 9) (α 11) i (s + 1))) 9 (mt_fs (zs_g σ α i) (α 9) i (s + 1)) = zs_al σ α i (s + 1) := by
  funext j
  unfold zs_al zk_ua
  (repeat' split) <;> first | rfl | (exfalso; omega)
theorem zs_al_0 (σ : Nat → Int) (α : Nat → Nat → Int) (i : Nat) : zs_al σ α i 0 = zk_ua α 10 (zs_b σ α i) := by
  funext j
  unfold zs_al zk_ua
  rw [mt_es_0, mt_fs_0]
  by_cases h9 : j = 9
  · rw [if_pos h9, h9, if_neg (by decide)]
  · rw [if_neg h9]
    by_cases h11 : j = 11
    · rw [if_pos h11, h11, if_neg (by decide)]
    · rw [if_neg h11]

set_option maxRecDepth 100000 in
set_option maxHeartbeats 4000000 in
theorem wS_workOutPlace (G : zk_G) (sw : Bool) (σ : Nat → Int) (α : Nat → Nat → Int) (t : zk_H) (hn0 : 0 ≤ σ 0 ∧ σ 0 ≤ (zr_N 0 : Int)) (hn1 : 0 ≤ σ 1 ∧ σ 1 ≤ (zr_N 1 : Int)) (hv0 : ∀ j, 0 ≤ α 0 j ∧ α 0 j ≤ 255) (hv1 : ∀ j, 0 ≤ α 1 j ∧ α 1 j ≤ 255) (hc : ∀ j, j < 5 → 0 ≤ zs_c σ j ∧ zs_c σ j ≤ 100) {i : Nat} (hi : (i : Int) < σ 1) (hL : ∀ i' s, i < i' → i' ≤ (σ 1).toNat → s ≤ (σ 0).toNat → 0 ≤ mt_tb (α 9) i' s ∧ mt_tb (α 9) i' s ≤ 4100) (hb : ∀ p, p ≤ (σ 0).toNat → 0 ≤ α 10 p ∧ α 10 p ≤ 1000000) (he : ∀ s, s ≤ (σ 0).toNat → 0 ≤ α 11 s ∧ α 11 s ≤ 1000000) : ∀ (k : Nat) (s : Nat), (s ≤ (σ 0).toNat + 1) → ((σ 0).toNat + 1 < s + k) → zk_W G mS_workOutPlace (3, 69) 0 0 29 [some (.inr (some 18)), some (.inl (i : Int)), some (.inl (mt_ml (zs_b σ α i) (σ 0).toNat)), some (.inl ((mt_la (α 1) (σ 1).toNat i i : Int))), some (.inl (min (σ 0) 40)), some (.inl (s : Int)), none] [] (zk_mk G sw σ (zs_al σ α i s) t) (fun v h' => v = none ∧ h' = zk_mk G sw σ (zs_al σ α i ((σ 0).toNat + 1)) t) := by
  intro k
  induction k with
  | zero =>
    intro s g1 g2
    exfalso
    omega
  | succ k ih =>
    intro s g1 g2
    have eN0 : (zr_N 0 : Int) = 40 := rfl
    have eN1 : (zr_N 1 : Int) = 40 := rfl
    have c0 : 0 ≤ σ 5 ∧ σ 5 ≤ 100 := hc 0 (by decide)
    have c1 : 0 ≤ σ 6 ∧ σ 6 ≤ 100 := hc 1 (by decide)
    have c2 : 0 ≤ σ 7 ∧ σ 7 ≤ 100 := hc 2 (by decide)
    have c3 : 0 ≤ σ 8 ∧ σ 8 ≤ 100 := hc 3 (by decide)
    have c4 : 0 ≤ σ 9 ∧ σ 9 ≤ 100 := hc 4 (by decide)
    have eX : (mt_fs (zs_g σ α i) (α 9) i s) (((i : Int) + 1) * 41 + (s : Int)).toNat = mt_tb (α 9) (i + 1) s := by
      rw [show (((i : Int) + 1) * 41 + (s : Int)).toNat = 41 * (i + 1) + s by omega]
      exact mt_fs_tb (i := i) (i' := i + 1) (s' := s) (by omega) (by omega)
    have eY : (mt_es (zs_c σ) (α 9) (α 11) i s) ((s : Int)).toNat = α 11 s := by
      show (if s < s then _ else _) = _
      rw [if_neg (Nat.lt_irrefl s)]
      rfl
    have eE : (mt_es (zs_c σ) (α 9) (α 11) i (s + 1)) ((s : Int)).toNat = mt_ne (zs_c σ) (α 9) (α 11) i s := by
      show (if s < s + 1 then _ else _) = _
      rw [if_pos (Nat.lt_succ_self s)]
      rfl
    have fX : 0 ≤ (mt_fs (zs_g σ α i) (α 9) i s) (((i : Int) + 1) * 41 + (s : Int)).toNat ∧ (mt_fs (zs_g σ α i) (α 9) i s) (((i : Int) + 1) * 41 + (s : Int)).toNat ≤ 4100 ∨ (σ 0).toNat < s := by
      by_cases hx : s ≤ (σ 0).toNat
      · rw [eX]; exact Or.inl (hL (i + 1) s (by omega) (by omega) hx)
      · exact Or.inr (by omega)
    have fY : 0 ≤ (mt_es (zs_c σ) (α 9) (α 11) i s) ((s : Int)).toNat ∧ (mt_es (zs_c σ) (α 9) (α 11) i s) ((s : Int)).toNat ≤ 1000000 ∨ (σ 0).toNat < s := by
      by_cases hx : s ≤ (σ 0).toNat
      · rw [eY]; exact Or.inl (he s hx)
      · exact Or.inr (by omega)
    have fE : 0 ≤ (mt_es (zs_c σ) (α 9) (α 11) i (s + 1)) ((s : Int)).toNat ∧ (mt_es (zs_c σ) (α 9) (α 11) i (s + 1)) ((s : Int)).toNat ≤ 4200 ∨ (σ 0).toNat < s := by
      by_cases hx : s ≤ (σ 0).toNat
      · rw [eE]
        have a1 := hL (i + 1) s (by omega) (by omega) hx
        have a2 := he s hx
        show 0 ≤ σ 9 + min _ _ ∧ σ 9 + min _ _ ≤ 4200 ∨ _
        exact Or.inl (by omega)
      · exact Or.inr (by omega)
    have nbr : ∀ p, p ≤ (σ 0).toNat → 0 ≤ (zs_b σ α i) p ∧ (zs_b σ α i) p ≤ 1000000 := by
      intro p hp
      show 0 ≤ (if p < (σ 0).toNat then mt_nb (α 0) (α 1) (α 9) (α 10) i p else α 10 p) ∧ (if p < (σ 0).toNat then mt_nb (α 0) (α 1) (α 9) (α 10) i p else α 10 p) ≤ 1000000
      split
      next hx =>
        have a1 := hL (i + 1) (p + 1) (by omega) (by omega) (by omega)
        have a2 := hb (p + 1) (by omega)
        unfold mt_nb
        split
        · omega
        · omega
      next hx => exact hb p hp
    have fB : 0 ≤ (zs_b σ α i) ((s : Int)).toNat ∧ (zs_b σ α i) ((s : Int)).toNat ≤ 1000000 ∨ (σ 0).toNat < s := by
      by_cases hx : s ≤ (σ 0).toNat
      · exact Or.inl (nbr s hx)
      · exact Or.inr (by omega)
    have fel : 0 ≤ mt_ml (zs_b σ α i) (σ 0).toNat ∧ mt_ml (zs_b σ α i) (σ 0).toNat ≤ 1000000 := by
      rcases mt_ml_ex (g := zs_b σ α i) (m := (σ 0).toNat) with g | ⟨p', g3, g4⟩
      · omega
      · have := nbr p' (by omega)
        omega
    have hla := mt_la_le (N := α 1) (nN := (σ 1).toNat) (i := i) (q := i)
    have fls : 0 ≤ mt_ls (α 9) i s (mt_la (α 1) (σ 1).toNat i i) ∧ mt_ls (α 9) i s (mt_la (α 1) (σ 1).toNat i i) ≤ 1000000 ∨ (σ 0).toNat < s := by
      by_cases hx : s ≤ (σ 0).toNat
      · exact Or.inl (mt_ls_rg (B := 4100) (by omega) (fun n a b => hL (i + n) s (by omega) (by omega) hx))
      · exact Or.inr (by omega)
    refine zk_iload dS_workOutPlace_29 rfl ?_
    refine zk_iload dS_workOutPlace_31 rfl ?_
    refine zk_icmp_gt (tgt := 176) dS_workOutPlace_33 (by decide) ⟨by omega, by omega⟩ ⟨by omega, by omega⟩ (fun h33 => ?_) (fun h33 => ?_)
    · skip
      have en : s = (σ 0).toNat + 1 := by omega
      subst en
      exact zk_ret dS_workOutPlace_176 rfl ⟨rfl, rfl⟩
    · skip
      refine zk_aload_n dS_workOutPlace_36 rfl ?_
      refine zk_get zfS_18 dS_workOutPlace_37 (v := .inr (some 21)) rfl (by decide) rfl ?_
      refine zk_iload dS_workOutPlace_40 rfl ?_
      refine zk_aload_n dS_workOutPlace_42 rfl ?_
      refine zk_get zfS_28 dS_workOutPlace_43 (v := .inr (some 10)) rfl (by decide) rfl ?_
      refine zk_get zfS_60 dS_workOutPlace_46 (v := .inl (σ 9)) rfl (by decide) rfl ?_
      refine zk_aload_n dS_workOutPlace_49 rfl ?_
      refine zk_iload_n dS_workOutPlace_50 rfl ?_
      refine zk_iconst dS_workOutPlace_51 ?_
      refine zk_iadd dS_workOutPlace_52 ?_
      refine zk_iload dS_workOutPlace_53 rfl ?_
      refine zk_callV (av := [.inl ((i : Int) + 1), .inl (s : Int)]) (st := [.inl (σ 9), .inl (s : Int), .inr (some 21)]) (d' := (0, 0)) (kc' := 0) (ks' := 0) zbS_66 dS_workOutPlace_55 rfl (by decide) rfl rfl (Nat.le_of_ble_eq_true rfl) ⟨by decide, by decide⟩ rfl rfl (kS_leastFrom G sw σ (zs_al σ α i s) t ⟨by omega, by omega⟩ ⟨by omega, by omega⟩) (fun v9 h9 q9 => ?_)
      obtain ⟨rfl, rfl⟩ := q9
      refine zk_W.to (ls' := [some (.inr (some 18)), some (.inl (i : Int)), some (.inl (mt_ml (zs_b σ α i) (σ 0).toNat)), some (.inl ((mt_la (α 1) (σ 1).toNat i i : Int))), some (.inl (min (σ 0) 40)), some (.inl (s : Int)), none]) (st' := [.inl ((mt_fs (zs_g σ α i) (α 9) i s) (((i : Int) + 1) * 41 + (s : Int)).toNat), .inl (σ 9), .inl (s : Int), .inr (some 21)]) (h' := (zk_mk G sw σ (zs_al σ α i s) t)) rfl rfl rfl ?_
      refine zk_aload_n dS_workOutPlace_58 rfl ?_
      refine zk_get zfS_18 dS_workOutPlace_59 (v := .inr (some 21)) rfl (by decide) rfl ?_
      refine zk_iload dS_workOutPlace_62 rfl ?_
      refine zk_iald dS_workOutPlace_64 (n := 41) (f := mt_es (zs_c σ) (α 9) (α 11) i s) rfl (by omega) (by omega) (by omega) ?_
      refine zk_mmin dS_workOutPlace_65 zlS_43 zw_mins zw_mi zw_minc ⟨by decide, Nat.le_of_ble_eq_true rfl⟩ ⟨by omega, by omega⟩ ⟨by omega, by omega⟩ ?_
      refine zk_iadd dS_workOutPlace_68 ?_
      refine zk_iast dS_workOutPlace_69 (n := 41) (f := mt_es (zs_c σ) (α 9) (α 11) i s) (h' := (zk_mk G sw σ (zk_ua (zs_al σ α i s) 11 (zk_up (mt_es (zs_c σ) (α 9) (α 11) i s) (s : Int).toNat ((σ 9) + (min ((mt_fs (zs_g σ α i) (α 9) i s) (((i : Int) + 1) * 41 + (s : Int)).toNat) ((mt_es (zs_c σ) (α 9) (α 11) i s) (s : Int).toNat))))) t)) rfl (by decide) (by omega) (by omega) (by omega) rfl ?_
      have ev : ((σ 9) + (min ((mt_fs (zs_g σ α i) (α 9) i s) (((i : Int) + 1) * 41 + (s : Int)).toNat) ((mt_es (zs_c σ) (α 9) (α 11) i s) (s : Int).toNat))) = mt_ne (zs_c σ) (α 9) (α 11) i s := by
        rw [eX, eY]
        rfl
      rw [ev, show ((s : Int)).toNat = s from rfl, mt_es_up]
      refine zk_aload_n dS_workOutPlace_70 rfl ?_
      refine zk_get zfS_28 dS_workOutPlace_71 (v := .inr (some 10)) rfl (by decide) rfl ?_
      refine zk_get zfS_69 dS_workOutPlace_74 (v := .inl (σ 8)) rfl (by decide) rfl ?_
      refine zk_aload_n dS_workOutPlace_77 rfl ?_
      refine zk_get zfS_18 dS_workOutPlace_78 (v := .inr (some 21)) rfl (by decide) rfl ?_
      refine zk_iload dS_workOutPlace_81 rfl ?_
      refine zk_iald dS_workOutPlace_83 (n := 41) (f := mt_es (zs_c σ) (α 9) (α 11) i (s + 1)) rfl (by omega) (by omega) (by omega) ?_
      refine zk_iadd dS_workOutPlace_84 ?_
      refine zk_istore (ls' := [some (.inr (some 18)), some (.inl (i : Int)), some (.inl (mt_ml (zs_b σ α i) (σ 0).toNat)), some (.inl ((mt_la (α 1) (σ 1).toNat i i : Int))), some (.inl (min (σ 0) 40)), some (.inl (s : Int)), some (.inl ((σ 8) + ((mt_es (zs_c σ) (α 9) (α 11) i (s + 1)) (s : Int).toNat)))]) dS_workOutPlace_85 (by decide) rfl ?_
      refine zk_iload dS_workOutPlace_87 rfl ?_
      refine zk_aload_n dS_workOutPlace_89 rfl ?_
      refine zk_get zfS_28 dS_workOutPlace_90 (v := .inr (some 10)) rfl (by decide) rfl ?_
      refine zk_get zfS_72 dS_workOutPlace_93 (v := .inl (σ 5)) rfl (by decide) rfl ?_
      refine zk_aload_n dS_workOutPlace_96 rfl ?_
      refine zk_get zfS_15 dS_workOutPlace_97 (v := .inr (some 20)) rfl (by decide) rfl ?_
      refine zk_iload dS_workOutPlace_100 rfl ?_
      refine zk_iald dS_workOutPlace_102 (n := 41) (f := zs_b σ α i) rfl (by omega) (by omega) (by omega) ?_
      refine zk_iadd dS_workOutPlace_103 ?_
      refine zk_mmin dS_workOutPlace_104 zlS_43 zw_mins zw_mi zw_minc ⟨by decide, Nat.le_of_ble_eq_true rfl⟩ ⟨by omega, by omega⟩ ⟨by omega, by omega⟩ ?_
      refine zk_istore (ls' := [some (.inr (some 18)), some (.inl (i : Int)), some (.inl (mt_ml (zs_b σ α i) (σ 0).toNat)), some (.inl ((mt_la (α 1) (σ 1).toNat i i : Int))), some (.inl (min (σ 0) 40)), some (.inl (s : Int)), some (.inl (min ((σ 8) + ((mt_es (zs_c σ) (α 9) (α 11) i (s + 1)) (s : Int).toNat)) ((σ 5) + ((zs_b σ α i) (s : Int).toNat))))]) dS_workOutPlace_107 (by decide) rfl ?_
      refine zk_iload dS_workOutPlace_109 rfl ?_
      refine zk_aload_n dS_workOutPlace_111 rfl ?_
      refine zk_get zfS_28 dS_workOutPlace_112 (v := .inr (some 10)) rfl (by decide) rfl ?_
      refine zk_get zfS_72 dS_workOutPlace_115 (v := .inl (σ 5)) rfl (by decide) rfl ?_
      refine zk_aload_n dS_workOutPlace_118 rfl ?_
      refine zk_get zfS_28 dS_workOutPlace_119 (v := .inr (some 10)) rfl (by decide) rfl ?_
      refine zk_get zfS_75 dS_workOutPlace_122 (v := .inl (σ 6)) rfl (by decide) rfl ?_
      refine zk_iadd dS_workOutPlace_125 ?_
      refine zk_iload_n dS_workOutPlace_126 rfl ?_
      refine zk_iadd dS_workOutPlace_127 ?_
      refine zk_mmin dS_workOutPlace_128 zlS_43 zw_mins zw_mi zw_minc ⟨by decide, Nat.le_of_ble_eq_true rfl⟩ ⟨by omega, by omega⟩ ⟨by omega, by omega⟩ ?_
      refine zk_istore (ls' := [some (.inr (some 18)), some (.inl (i : Int)), some (.inl (mt_ml (zs_b σ α i) (σ 0).toNat)), some (.inl ((mt_la (α 1) (σ 1).toNat i i : Int))), some (.inl (min (σ 0) 40)), some (.inl (s : Int)), some (.inl (min (min ((σ 8) + ((mt_es (zs_c σ) (α 9) (α 11) i (s + 1)) (s : Int).toNat)) ((σ 5) + ((zs_b σ α i) (s : Int).toNat))) (((σ 5) + (σ 6)) + (mt_ml (zs_b σ α i) (σ 0).toNat))))]) dS_workOutPlace_131 (by decide) rfl ?_
      refine zk_iload dS_workOutPlace_133 rfl ?_
      refine zk_aload_n dS_workOutPlace_135 rfl ?_
      refine zk_get zfS_28 dS_workOutPlace_136 (v := .inr (some 10)) rfl (by decide) rfl ?_
      refine zk_get zfS_78 dS_workOutPlace_139 (v := .inl (σ 7)) rfl (by decide) rfl ?_
      refine zk_aload_n dS_workOutPlace_142 rfl ?_
      refine zk_iload_n dS_workOutPlace_143 rfl ?_
      refine zk_iload dS_workOutPlace_144 rfl ?_
      refine zk_iload_n dS_workOutPlace_146 rfl ?_
      refine zk_callV (av := [.inl (i : Int), .inl (s : Int), .inl ((mt_la (α 1) (σ 1).toNat i i : Int))]) (st := [.inl (σ 7), .inl (min (min ((σ 8) + ((mt_es (zs_c σ) (α 9) (α 11) i (s + 1)) (s : Int).toNat)) ((σ 5) + ((zs_b σ α i) (s : Int).toNat))) (((σ 5) + (σ 6)) + (mt_ml (zs_b σ α i) (σ 0).toNat)))]) (d' := (1, 23)) (kc' := 0) (ks' := 0) zbS_81 dS_workOutPlace_147 rfl (by decide) rfl rfl (Nat.le_of_ble_eq_true rfl) ⟨by decide, by decide⟩ rfl rfl (kS_leastBehindSelf G sw σ (zk_ua (zs_al σ α i s) 11 (mt_es (zs_c σ) (α 9) (α 11) i (s + 1))) t (i := i) (s := s) (m := mt_la (α 1) (σ 1).toNat i i) (by omega) (by omega) (fun n a b => by show 0 ≤ mt_tb (mt_fs (zs_g σ α i) (α 9) i s) (i + n) s ∧ mt_tb (mt_fs (zs_g σ α i) (α 9) i s) (i + n) s ≤ 4100; rw [mt_fs_tb (by omega) (by omega)]; exact hL (i + n) s (by omega) (by omega) (by omega))) (fun v9 h9 q9 => ?_)
      obtain ⟨rfl, hv9⟩ := q9
      subst hv9
      have els : mt_ls (mt_fs (zs_g σ α i) (α 9) i s) i s (mt_la (α 1) (σ 1).toNat i i) = mt_ls (α 9) i s (mt_la (α 1) (σ 1).toNat i i) := mt_ls_congr (fun n a b => mt_fs_tb (by omega) (by omega))
      refine zk_W.to (ls' := [some (.inr (some 18)), some (.inl (i : Int)), some (.inl (mt_ml (zs_b σ α i) (σ 0).toNat)), some (.inl ((mt_la (α 1) (σ 1).toNat i i : Int))), some (.inl (min (σ 0) 40)), some (.inl (s : Int)), some (.inl (min (min ((σ 8) + ((mt_es (zs_c σ) (α 9) (α 11) i (s + 1)) (s : Int).toNat)) ((σ 5) + ((zs_b σ α i) (s : Int).toNat))) (((σ 5) + (σ 6)) + (mt_ml (zs_b σ α i) (σ 0).toNat))))]) (st' := [.inl (mt_ls (mt_fs (zs_g σ α i) (α 9) i s) i s (mt_la (α 1) (σ 1).toNat i i)), .inl (σ 7), .inl (min (min ((σ 8) + ((mt_es (zs_c σ) (α 9) (α 11) i (s + 1)) (s : Int).toNat)) ((σ 5) + ((zs_b σ α i) (s : Int).toNat))) (((σ 5) + (σ 6)) + (mt_ml (zs_b σ α i) (σ 0).toNat)))]) (h' := (zk_mk G sw σ (zk_ua (zs_al σ α i s) 11 (mt_es (zs_c σ) (α 9) (α 11) i (s + 1))) t)) rfl rfl rfl ?_
      rw [els]
      refine zk_W.to (ls' := [some (.inr (some 18)), some (.inl (i : Int)), some (.inl (mt_ml (zs_b σ α i) (σ 0).toNat)), some (.inl ((mt_la (α 1) (σ 1).toNat i i : Int))), some (.inl (min (σ 0) 40)), some (.inl (s : Int)), some (.inl (min (min ((σ 8) + ((mt_es (zs_c σ) (α 9) (α 11) i (s + 1)) (s : Int).toNat)) ((σ 5) + ((zs_b σ α i) (s : Int).toNat))) (((σ 5) + (σ 6)) + (mt_ml (zs_b σ α i) (σ 0).toNat))))]) (st' := [.inl (mt_ls (α 9) i s (mt_la (α 1) (σ 1).toNat i i)), .inl (σ 7), .inl (min (min ((σ 8) + ((mt_es (zs_c σ) (α 9) (α 11) i (s + 1)) (s : Int).toNat)) ((σ 5) + ((zs_b σ α i) (s : Int).toNat))) (((σ 5) + (σ 6)) + (mt_ml (zs_b σ α i) (σ 0).toNat)))]) (h' := (zk_mk G sw σ (zk_ua (zs_al σ α i s) 11 (mt_es (zs_c σ) (α 9) (α 11) i (s + 1))) t)) rfl rfl rfl ?_
      refine zk_iadd dS_workOutPlace_150 ?_
      refine zk_mmin dS_workOutPlace_151 zlS_43 zw_mins zw_mi zw_minc ⟨by decide, Nat.le_of_ble_eq_true rfl⟩ ⟨by omega, by omega⟩ ⟨by omega, by omega⟩ ?_
      refine zk_istore (ls' := [some (.inr (some 18)), some (.inl (i : Int)), some (.inl (mt_ml (zs_b σ α i) (σ 0).toNat)), some (.inl ((mt_la (α 1) (σ 1).toNat i i : Int))), some (.inl (min (σ 0) 40)), some (.inl (s : Int)), some (.inl (min (min (min ((σ 8) + ((mt_es (zs_c σ) (α 9) (α 11) i (s + 1)) (s : Int).toNat)) ((σ 5) + ((zs_b σ α i) (s : Int).toNat))) (((σ 5) + (σ 6)) + (mt_ml (zs_b σ α i) (σ 0).toNat))) ((σ 7) + (mt_ls (α 9) i s (mt_la (α 1) (σ 1).toNat i i)))))]) dS_workOutPlace_154 (by decide) rfl ?_
      refine zk_aload_n dS_workOutPlace_156 rfl ?_
      refine zk_get zfS_11 dS_workOutPlace_157 (v := .inr (some 19)) rfl (by decide) rfl ?_
      refine zk_iload_n dS_workOutPlace_160 rfl ?_
      refine zk_bipush dS_workOutPlace_161 (by decide) ?_
      refine zk_imul dS_workOutPlace_163 ?_
      refine zk_iload dS_workOutPlace_164 rfl ?_
      refine zk_iadd dS_workOutPlace_166 ?_
      refine zk_iload dS_workOutPlace_167 rfl ?_
      refine zk_iast dS_workOutPlace_169 (n := 1681) (f := mt_fs (zs_g σ α i) (α 9) i s) (h' := (zk_mk G sw σ (zk_ua (zk_ua (zs_al σ α i s) 11 (mt_es (zs_c σ) (α 9) (α 11) i (s + 1))) 9 (zk_up (mt_fs (zs_g σ α i) (α 9) i s) (((i : Int) * 41) + (s : Int)).toNat (min (min (min ((σ 8) + ((mt_es (zs_c σ) (α 9) (α 11) i (s + 1)) (s : Int).toNat)) ((σ 5) + ((zs_b σ α i) (s : Int).toNat))) (((σ 5) + (σ 6)) + (mt_ml (zs_b σ α i) (σ 0).toNat))) ((σ 7) + (mt_ls (α 9) i s (mt_la (α 1) (σ 1).toNat i i)))))) t)) rfl (by decide) (by omega) (by omega) (by omega) rfl ?_
      refine zk_iinc (ls' := [some (.inr (some 18)), some (.inl (i : Int)), some (.inl (mt_ml (zs_b σ α i) (σ 0).toNat)), some (.inl ((mt_la (α 1) (σ 1).toNat i i : Int))), some (.inl (min (σ 0) 40)), some (.inl ((s : Int) + 1)), some (.inl (min (min (min ((σ 8) + ((mt_es (zs_c σ) (α 9) (α 11) i (s + 1)) (s : Int).toNat)) ((σ 5) + ((zs_b σ α i) (s : Int).toNat))) (((σ 5) + (σ 6)) + (mt_ml (zs_b σ α i) (σ 0).toNat))) ((σ 7) + (mt_ls (α 9) i s (mt_la (α 1) (σ 1).toNat i i)))))]) dS_workOutPlace_170 rfl (by decide) rfl ?_
      refine zk_goto (tgt := 29) dS_workOutPlace_173 (by decide) ?_
      have eg : (min (min (min ((σ 8) + ((mt_es (zs_c σ) (α 9) (α 11) i (s + 1)) (s : Int).toNat)) ((σ 5) + ((zs_b σ α i) (s : Int).toNat))) (((σ 5) + (σ 6)) + (mt_ml (zs_b σ α i) (σ 0).toNat))) ((σ 7) + (mt_ls (α 9) i s (mt_la (α 1) (σ 1).toNat i i)))) = zs_g σ α i s := by
        rw [eE]
        rfl
      have e2 : (s : Int) + 1 = ((s + 1 : Nat) : Int) := by omega
      rw [eg, show ((i : Int) * 41 + (s : Int)).toNat = 41 * i + s by omega, mt_fs_up, zs_al_up, e2]
      refine zk_W.drop 6 rfl ?_
      exact ih (s + 1) (by omega) (by omega)

set_option maxRecDepth 100000 in
set_option maxHeartbeats 4000000 in
theorem kS_workOutPlace (G : zk_G) (sw : Bool) (σ : Nat → Int) (α : Nat → Nat → Int) (t : zk_H) (hn0 : 0 ≤ σ 0 ∧ σ 0 ≤ (zr_N 0 : Int)) (hn1 : 0 ≤ σ 1 ∧ σ 1 ≤ (zr_N 1 : Int)) (hv0 : ∀ j, 0 ≤ α 0 j ∧ α 0 j ≤ 255) (hv1 : ∀ j, 0 ≤ α 1 j ∧ α 1 j ≤ 255) (hc : ∀ j, j < 5 → 0 ≤ zs_c σ j ∧ zs_c σ j ≤ 100) {i : Nat} (hi : (i : Int) < σ 1) (hL : ∀ i' s, i < i' → i' ≤ (σ 1).toNat → s ≤ (σ 0).toNat → 0 ≤ mt_tb (α 9) i' s ∧ mt_tb (α 9) i' s ≤ 4100) (hb : ∀ p, p ≤ (σ 0).toNat → 0 ≤ α 10 p ∧ α 10 p ≤ 1000000) (he : ∀ s, s ≤ (σ 0).toNat → 0 ≤ α 11 s ∧ α 11 s ≤ 1000000) : zk_K G mS_workOutPlace (3, 69) 0 0 [.inr (some 18), .inl (i : Int)] (zk_mk G sw σ α t) (fun v h' => v = none ∧ h' = zk_mk G sw σ (zs_al σ α i ((σ 0).toNat + 1)) t) := by
  have eN0 : (zr_N 0 : Int) = 40 := rfl
  have eN1 : (zr_N 1 : Int) = 40 := rfl
  refine zk_K.of (ls := [some (.inr (some 18)), some (.inl (i : Int)), none, none, none, none, none]) (by decide +kernel) (Nat.le_of_ble_eq_true rfl) rfl ?_
  refine zk_aload_n dS_workOutPlace_0 rfl ?_
  refine zk_iload_n dS_workOutPlace_1 rfl ?_
  refine zk_callV (av := [.inl (i : Int)]) (st := []) (d' := (2, 42)) (kc' := 0) (ks' := 0) zbS_53 dS_workOutPlace_2 rfl (by decide) rfl rfl (Nat.le_of_ble_eq_true rfl) ⟨by decide, by decide⟩ rfl rfl (kS_lengthenCopies G sw σ α t hn0 hn1 hv0 hv1 (i := i) hi (fun s a => hL (i + 1) s (by omega) (by omega) a) hb) (fun v9 h9 q9 => ?_)
  obtain ⟨rfl, rfl⟩ := q9
  refine zk_W.to (ls' := [some (.inr (some 18)), some (.inl (i : Int)), none, none, none, none, none]) (st' := [.inl (mt_ml (zs_b σ α i) (σ 0).toNat)]) (h' := (zk_mk G sw σ (zk_ua α 10 (zs_b σ α i)) t)) rfl rfl rfl ?_
  refine zk_istore_n (ls' := [some (.inr (some 18)), some (.inl (i : Int)), some (.inl (mt_ml (zs_b σ α i) (σ 0).toNat)), none, none, none, none]) dS_workOutPlace_5 (by decide) rfl ?_
  refine zk_aload_n dS_workOutPlace_6 rfl ?_
  refine zk_iload_n dS_workOutPlace_7 rfl ?_
  refine zk_callV (av := [.inl (i : Int)]) (st := []) (d' := (2, 46)) (kc' := 0) (ks' := 0) zbS_57 dS_workOutPlace_8 rfl (by decide) rfl rfl (Nat.le_of_ble_eq_true rfl) ⟨by decide, by decide⟩ rfl rfl (kS_longestAgain G sw σ (zk_ua α 10 (zs_b σ α i)) t hn0 hn1 hv0 hv1 (i := i) hi) (fun v9 h9 q9 => ?_)
  obtain ⟨rfl, rfl⟩ := q9
  refine zk_W.to (ls' := [some (.inr (some 18)), some (.inl (i : Int)), some (.inl (mt_ml (zs_b σ α i) (σ 0).toNat)), none, none, none, none]) (st' := [.inl ((mt_la (α 1) (σ 1).toNat i i : Int))]) (h' := (zk_mk G sw σ (zk_ua α 10 (zs_b σ α i)) t)) rfl rfl rfl ?_
  refine zk_istore_n (ls' := [some (.inr (some 18)), some (.inl (i : Int)), some (.inl (mt_ml (zs_b σ α i) (σ 0).toNat)), some (.inl ((mt_la (α 1) (σ 1).toNat i i : Int))), none, none, none]) dS_workOutPlace_11 (by decide) rfl ?_
  refine zk_aload_n dS_workOutPlace_12 rfl ?_
  refine zk_get zfS_21 dS_workOutPlace_13 (v := .inr (some 2)) rfl (by decide) rfl ?_
  refine zk_callV (av := []) (st := []) (d' := (0, 0)) (kc' := 0) (ks' := 0) zbS_37 dS_workOutPlace_16 rfl (by decide) rfl rfl (Nat.le_of_ble_eq_true rfl) ⟨by decide, by decide⟩ rfl rfl (kR_length G sw σ (zk_ua α 10 (zs_b σ α i)) t (q := 0) (by decide)) (fun v9 h9 q9 => ?_)
  obtain ⟨rfl, rfl⟩ := q9
  refine zk_W.to (ls' := [some (.inr (some 18)), some (.inl (i : Int)), some (.inl (mt_ml (zs_b σ α i) (σ 0).toNat)), some (.inl ((mt_la (α 1) (σ 1).toNat i i : Int))), none, none, none]) (st' := [.inl (σ 0)]) (h' := (zk_mk G sw σ (zk_ua α 10 (zs_b σ α i)) t)) rfl rfl rfl ?_
  refine zk_bipush dS_workOutPlace_19 (by decide) ?_
  refine zk_mmin dS_workOutPlace_21 zlS_43 zw_mins zw_mi zw_minc ⟨by decide, Nat.le_of_ble_eq_true rfl⟩ ⟨by omega, by omega⟩ ⟨by decide, by decide⟩ ?_
  refine zk_istore (ls' := [some (.inr (some 18)), some (.inl (i : Int)), some (.inl (mt_ml (zs_b σ α i) (σ 0).toNat)), some (.inl ((mt_la (α 1) (σ 1).toNat i i : Int))), some (.inl (min (σ 0) 40)), none, none]) dS_workOutPlace_24 (by decide) rfl ?_
  refine zk_iconst dS_workOutPlace_26 ?_
  refine zk_istore (ls' := [some (.inr (some 18)), some (.inl (i : Int)), some (.inl (mt_ml (zs_b σ α i) (σ 0).toNat)), some (.inl ((mt_la (α 1) (σ 1).toNat i i : Int))), some (.inl (min (σ 0) 40)), some (.inl 0), none]) dS_workOutPlace_27 (by decide) rfl ?_
  have e := wS_workOutPlace G sw σ α t hn0 hn1 hv0 hv1 hc hi hL hb he ((σ 0).toNat + 2) 0 (Nat.zero_le _) (by omega)
  rw [zs_al_0] at e
  exact e

def mt_nv (b : Nat → Int) (s : Nat) : Nat → Int := fun j => if j < s then 1000000 else b j
theorem mt_nv_0 (b : Nat → Int) : mt_nv b 0 = b := by
  funext j
  unfold mt_nv
  rw [if_neg (Nat.not_lt_zero j)]
theorem mt_nv_up (b : Nat → Int) (s : Nat) : zk_up (mt_nv b s) s 1000000 = mt_nv b (s + 1) := by
  funext j
  unfold zk_up mt_nv
  by_cases h : j = s
  · subst h
    rw [if_pos rfl, if_pos (by omega)]
  · rw [if_neg h]
    by_cases h2 : j < s
    · rw [if_pos h2, if_pos (by omega)]
    · rw [if_neg h2, if_neg (by omega)]
/-- the three arrays of the search -/
def zs_3 (α : Nat → Nat → Int) (f b e : Nat → Int) : Nat → Nat → Int := zk_ua (zk_ua (zk_ua α 9 f) 10 b) 11 e
theorem zs_3_up (α : Nat → Nat → Int) (f b e f' b' e' : Nat → Int) : zk_ua (zk_ua (zk_ua (zs_3 α f b e) 9 f') 10 b') 11 e' = zs_3 α f' b' e' := by
  funext j
  unfold zs_3 zk_ua
  (repeat' split) <;> first | rfl | (exfalso; omega)
theorem zs_3_al (σ : Nat → Int) (α : Nat → Nat → Int) (f b e : Nat → Int) (i s : Nat) : zs_al σ (zs_3 α f b e) i s = zs_3 α (mt_fs (zs_g σ (zs_3 α f b e) i) f i s) (zs_b σ (zs_3 α f b e) i) (mt_es (zs_c σ) f e i s) := by
  funext j
  unfold zs_al
  show zk_ua (zk_ua (zk_ua (zs_3 α f b e) 10 _) 11 (mt_es (zs_c σ) f e i s)) 9 (mt_fs _ f i s) j = _
  generalize zs_g σ (zs_3 α f b e) i = g1
  generalize zs_b σ (zs_3 α f b e) i = b1
  unfold zs_3 zk_ua
  (repeat' split) <;> first | rfl | (exfalso; omega)
theorem zs_3_self (α : Nat → Nat → Int) : zs_3 α (α 9) (α 10) (α 11) = α := by
  unfold zs_3
  rw [zk_ua_self]
  have h : zk_ua α 10 (α 10) = α := zk_ua_self α 10
  rw [h, zk_ua_self]

set_option maxRecDepth 100000 in
set_option maxHeartbeats 4000000 in
theorem wS_workOut2 (G : zk_G) (sw : Bool) (σ : Nat → Int) (α : Nat → Nat → Int) (t : zk_H) (hn0 : 0 ≤ σ 0 ∧ σ 0 ≤ (zr_N 0 : Int)) (hn1 : 0 ≤ σ 1 ∧ σ 1 ≤ (zr_N 1 : Int)) (hv0 : ∀ j, 0 ≤ α 0 j ∧ α 0 j ≤ 255) (hv1 : ∀ j, 0 ≤ α 1 j ∧ α 1 j ≤ 255) (hc : ∀ j, j < 5 → 0 ≤ zs_c σ j ∧ zs_c σ j ≤ 100) (h12 : σ 12 = 0) : ∀ (n : Nat) (f b e : Nat → Int), mt_in (α 0) (σ 0).toNat (α 1) (σ 1).toNat (zs_c σ) f b e n → zk_W G mS_workOut (4, 95) 0 0 67 [some (.inr (some 18)), some (.inl (min (σ 1) 40)), some (.inl ((n : Int) - 1))] [] (zk_mk G sw σ (zs_3 α f b e) t) (fun v h' => v = none ∧ ∃ f b e, zs_T σ (zs_3 α f b e) ∧ h' = zk_mk G sw (zk_up σ 12 1) (zs_3 α f b e) t) := by
  intro n
  induction n with
  | zero =>
    intro f b e hin
    have eN0 : (zr_N 0 : Int) = 40 := rfl
    have eN1 : (zr_N 1 : Int) = 40 := rfl
    refine zk_iload_n dS_workOut_67 rfl ?_
    refine zk_if_lt (tgt := 82) dS_workOut_68 (by decide) ⟨by omega, by omega⟩ (fun h68 => ?_) (fun h68 => ?_)
    · skip
      refine zk_aload_n dS_workOut_82 rfl ?_
      refine zk_iconst dS_workOut_83 ?_
      refine zk_put zfS_32 dS_workOut_84 (h' := (zk_mk G sw (zk_up σ 12 1) (zs_3 α f b e) t)) rfl (by decide) (Nat.le_of_ble_eq_true rfl) rfl rfl rfl ?_
      exact zk_ret dS_workOut_87 rfl ⟨rfl, f, b, e, ⟨mt_in_rest hin, fun i s hi hs => hin.2.2.2.1 i s (Nat.zero_le i) hi hs⟩, rfl⟩
    · skip
      exfalso; omega
  | succ n ih =>
    intro f b e hin
    have eN0 : (zr_N 0 : Int) = 40 := rfl
    have eN1 : (zr_N 1 : Int) = 40 := rfl
    have hle := hin.1
    have en : ((n + 1 : Nat) : Int) - 1 = (n : Int) := by omega
    rw [en]
    refine zk_iload_n dS_workOut_67 rfl ?_
    refine zk_if_lt (tgt := 82) dS_workOut_68 (by decide) ⟨by omega, by omega⟩ (fun h68 => ?_) (fun h68 => ?_)
    · skip
      exfalso; omega
    · skip
      refine zk_aload_n dS_workOut_71 rfl ?_
      refine zk_iload_n dS_workOut_72 rfl ?_
      refine zk_callV (av := [.inl (n : Int)]) (st := []) (d' := (3, 69)) (kc' := 0) (ks' := 0) zbS_49 dS_workOut_73 rfl (by decide) rfl rfl (Nat.le_of_ble_eq_true rfl) ⟨by decide, by decide⟩ rfl rfl (kS_workOutPlace G sw σ (zs_3 α f b e) t hn0 hn1 hv0 hv1 hc (i := n) (by omega) (fun i' s x y z => hin.2.2.2.1 i' s (by omega) y z) (fun p x => (hin.2.2.2.2.1 p x).1) (fun s x => (hin.2.2.2.2.2 s x).1)) (fun v9 h9 q9 => ?_)
      obtain ⟨rfl, rfl⟩ := q9
      rw [zs_3_al]
      have hnx : mt_in (α 0) (σ 0).toNat (α 1) (σ 1).toNat (zs_c σ) (mt_fs (zs_g σ (zs_3 α f b e) n) f n ((σ 0).toNat + 1)) (zs_b σ (zs_3 α f b e) n) (mt_es (zs_c σ) f e n ((σ 0).toNat + 1)) n := by
        refine mt_in_step (f := f) (b := b) (e := e) (by omega) (by omega) hc hin (fun p hp => rfl) (fun s hs => ?_) (fun s hs => mt_fs_tbi (by omega)) (fun i' s x y z => mt_fs_tb x (by omega))
        show (if s < (σ 0).toNat + 1 then _ else _) = _
        rw [if_pos (by omega)]
      generalize mt_fs (zs_g σ (zs_3 α f b e) n) f n ((σ 0).toNat + 1) = f' at hnx ⊢
      generalize zs_b σ (zs_3 α f b e) n = b' at hnx ⊢
      generalize mt_es (zs_c σ) f e n ((σ 0).toNat + 1) = e' at hnx ⊢
      refine zk_W.to (ls' := [some (.inr (some 18)), some (.inl (min (σ 1) 40)), some (.inl (n : Int))]) (st' := []) (h' := (zk_mk G sw σ (zs_3 α f' b' e') t)) rfl rfl rfl ?_
      refine zk_iinc (ls' := [some (.inr (some 18)), some (.inl (min (σ 1) 40)), some (.inl ((n : Int) + (-1)))]) dS_workOut_76 rfl (by decide) rfl ?_
      refine zk_goto (tgt := 67) dS_workOut_79 (by decide) ?_
      have e3 : (n : Int) + (-1) = (n : Int) - 1 := by omega
      rw [e3]
      exact ih f' b' e' hnx

set_option maxRecDepth 100000 in
set_option maxHeartbeats 4000000 in
theorem wS_workOut1 (G : zk_G) (sw : Bool) (σ : Nat → Int) (α : Nat → Nat → Int) (t : zk_H) (hn0 : 0 ≤ σ 0 ∧ σ 0 ≤ (zr_N 0 : Int)) (hn1 : 0 ≤ σ 1 ∧ σ 1 ≤ (zr_N 1 : Int)) (hv0 : ∀ j, 0 ≤ α 0 j ∧ α 0 j ≤ 255) (hv1 : ∀ j, 0 ≤ α 1 j ∧ α 1 j ≤ 255) (hc : ∀ j, j < 5 → 0 ≤ zs_c σ j ∧ zs_c σ j ≤ 100) (h12 : σ 12 = 0) : ∀ (k : Nat) (s : Nat), (s ≤ 41) → (41 < s + k) → zk_W G mS_workOut (4, 95) 0 0 23 [some (.inr (some 18)), some (.inl (min (σ 1) 40)), some (.inl (s : Int))] [] (zk_mk G sw σ (zs_3 α (mt_fs (fun _ => 0) (α 9) (σ 1).toNat s) (mt_nv (α 10) s) (mt_nv (α 11) s)) t) (fun v h' => v = none ∧ ∃ f b e, zs_T σ (zs_3 α f b e) ∧ h' = zk_mk G sw (zk_up σ 12 1) (zs_3 α f b e) t) := by
  intro k
  induction k with
  | zero =>
    intro s g1 g2
    exfalso
    omega
  | succ k ih =>
    intro s g1 g2
    have eN0 : (zr_N 0 : Int) = 40 := rfl
    have eN1 : (zr_N 1 : Int) = 40 := rfl
    refine zk_iload_n dS_workOut_23 rfl ?_
    refine zk_bipush dS_workOut_24 (by decide) ?_
    refine zk_icmp_ge (tgt := 63) dS_workOut_26 (by decide) ⟨by omega, by omega⟩ ⟨by decide, by decide⟩ (fun h26 => ?_) (fun h26 => ?_)
    · skip
      refine zk_iload_n dS_workOut_63 rfl ?_
      refine zk_iconst dS_workOut_64 ?_
      refine zk_isub dS_workOut_65 ?_
      refine zk_istore_n (ls' := [some (.inr (some 18)), some (.inl (min (σ 1) 40)), some (.inl ((min (σ 1) 40) - 1))]) dS_workOut_66 (by decide) rfl ?_
      have es : s = 41 := by omega
      subst es
      have e3 : min (σ 1) 40 - 1 = (((σ 1).toNat : Nat) : Int) - 1 := by omega
      rw [e3]
      refine wS_workOut2 G sw σ α t hn0 hn1 hv0 hv1 hc h12 (σ 1).toNat _ _ _ (mt_in_last (fun s hs => mt_fs_tbi (by omega)) (fun s hs => ?_) (fun s hs => ?_))
      · show (if s < 41 then _ else _) = _
        rw [if_pos (by omega)]
      · show (if s < 41 then _ else _) = _
        rw [if_pos (by omega)]
    · skip
      refine zk_aload_n dS_workOut_29 rfl ?_
      refine zk_get zfS_11 dS_workOut_30 (v := .inr (some 19)) rfl (by decide) rfl ?_
      refine zk_iload_n dS_workOut_33 rfl ?_
      refine zk_bipush dS_workOut_34 (by decide) ?_
      refine zk_imul dS_workOut_36 ?_
      refine zk_iload_n dS_workOut_37 rfl ?_
      refine zk_iadd dS_workOut_38 ?_
      refine zk_iconst dS_workOut_39 ?_
      refine zk_iast dS_workOut_40 (n := 1681) (f := mt_fs (fun _ => 0) (α 9) (σ 1).toNat s) (h' := (zk_mk G sw σ (zk_ua (zs_3 α (mt_fs (fun _ => 0) (α 9) (σ 1).toNat s) (mt_nv (α 10) s) (mt_nv (α 11) s)) 9 (zk_up (mt_fs (fun _ => 0) (α 9) (σ 1).toNat s) (((min (σ 1) 40) * 41) + (s : Int)).toNat 0)) t)) rfl (by decide) (by omega) (by omega) (by omega) rfl ?_
      refine zk_aload_n dS_workOut_41 rfl ?_
      refine zk_get zfS_15 dS_workOut_42 (v := .inr (some 20)) rfl (by decide) rfl ?_
      refine zk_iload_n dS_workOut_45 rfl ?_
      refine zk_ldc (z := 1000000) dS_workOut_46 zcS_36 ?_
      refine zk_iast dS_workOut_48 (n := 41) (f := mt_nv (α 10) s) (h' := (zk_mk G sw σ (zk_ua (zk_ua (zs_3 α (mt_fs (fun _ => 0) (α 9) (σ 1).toNat s) (mt_nv (α 10) s) (mt_nv (α 11) s)) 9 (zk_up (mt_fs (fun _ => 0) (α 9) (σ 1).toNat s) (((min (σ 1) 40) * 41) + (s : Int)).toNat 0)) 10 (zk_up (mt_nv (α 10) s) (s : Int).toNat 1000000)) t)) rfl (by decide) (by omega) (by omega) (by omega) rfl ?_
      refine zk_aload_n dS_workOut_49 rfl ?_
      refine zk_get zfS_18 dS_workOut_50 (v := .inr (some 21)) rfl (by decide) rfl ?_
      refine zk_iload_n dS_workOut_53 rfl ?_
      refine zk_ldc (z := 1000000) dS_workOut_54 zcS_36 ?_
      refine zk_iast dS_workOut_56 (n := 41) (f := mt_nv (α 11) s) (h' := (zk_mk G sw σ (zk_ua (zk_ua (zk_ua (zs_3 α (mt_fs (fun _ => 0) (α 9) (σ 1).toNat s) (mt_nv (α 10) s) (mt_nv (α 11) s)) 9 (zk_up (mt_fs (fun _ => 0) (α 9) (σ 1).toNat s) (((min (σ 1) 40) * 41) + (s : Int)).toNat 0)) 10 (zk_up (mt_nv (α 10) s) (s : Int).toNat 1000000)) 11 (zk_up (mt_nv (α 11) s) (s : Int).toNat 1000000)) t)) rfl (by decide) (by omega) (by omega) (by omega) rfl ?_
      refine zk_iinc (ls' := [some (.inr (some 18)), some (.inl (min (σ 1) 40)), some (.inl ((s : Int) + 1))]) dS_workOut_57 rfl (by decide) rfl ?_
      refine zk_goto (tgt := 23) dS_workOut_60 (by decide) ?_
      have e2 : (s : Int) + 1 = ((s + 1 : Nat) : Int) := by omega
      rw [show ((min (σ 1) 40) * 41 + (s : Int)).toNat = 41 * (σ 1).toNat + s by omega, show zk_up (mt_fs (fun _ => 0) (α 9) (σ 1).toNat s) (41 * (σ 1).toNat + s) 0 = mt_fs (fun _ => 0) (α 9) (σ 1).toNat (s + 1) from mt_fs_up (fun _ => 0) (α 9) (σ 1).toNat s, show ((s : Int)).toNat = s from rfl, mt_nv_up, mt_nv_up, zs_3_up, e2]
      exact ih (s + 1) (by omega) (by omega)

set_option maxRecDepth 100000 in
set_option maxHeartbeats 4000000 in
theorem kS_workOut (G : zk_G) (sw : Bool) (σ : Nat → Int) (α : Nat → Nat → Int) (t : zk_H) (hn0 : 0 ≤ σ 0 ∧ σ 0 ≤ (zr_N 0 : Int)) (hn1 : 0 ≤ σ 1 ∧ σ 1 ≤ (zr_N 1 : Int)) (hv0 : ∀ j, 0 ≤ α 0 j ∧ α 0 j ≤ 255) (hv1 : ∀ j, 0 ≤ α 1 j ∧ α 1 j ≤ 255) (hc : ∀ j, j < 5 → 0 ≤ zs_c σ j ∧ zs_c σ j ≤ 100) (h12 : σ 12 = 0 ∨ σ 12 = 1) (hkn : σ 12 = 1 → zs_T σ α) : zk_K G mS_workOut (4, 95) 0 0 [.inr (some 18)] (zk_mk G sw σ α t) (fun v h' => v = none ∧ ∃ f b e, zs_T σ (zs_3 α f b e) ∧ h' = zk_mk G sw (zk_up σ 12 1) (zs_3 α f b e) t) := by
  have eN0 : (zr_N 0 : Int) = 40 := rfl
  have eN1 : (zr_N 1 : Int) = 40 := rfl
  refine zk_K.of (ls := [some (.inr (some 18)), none, none]) (by decide +kernel) (Nat.le_of_ble_eq_true rfl) rfl ?_
  refine zk_aload_n dS_workOut_0 rfl ?_
  refine zk_get zfS_32 dS_workOut_1 (v := .inl (σ 12)) rfl (by decide) rfl ?_
  refine zk_if_eq (tgt := 8) dS_workOut_4 (by decide) ⟨by omega, by omega⟩ (fun h4 => ?_) (fun h4 => ?_)
  · skip
    refine zk_aload_n dS_workOut_8 rfl ?_
    refine zk_get zfS_25 dS_workOut_9 (v := .inr (some 4)) rfl (by decide) rfl ?_
    refine zk_callV (av := []) (st := []) (d' := (0, 0)) (kc' := 0) (ks' := 0) zbS_37 dS_workOut_12 rfl (by decide) rfl rfl (Nat.le_of_ble_eq_true rfl) ⟨by decide, by decide⟩ rfl rfl (kR_length G sw σ α t (q := 1) (by decide)) (fun v9 h9 q9 => ?_)
    obtain ⟨rfl, rfl⟩ := q9
    refine zk_W.to (ls' := [some (.inr (some 18)), none, none]) (st' := [.inl (σ 1)]) (h' := (zk_mk G sw σ α t)) rfl rfl rfl ?_
    refine zk_bipush dS_workOut_15 (by decide) ?_
    refine zk_mmin dS_workOut_17 zlS_43 zw_mins zw_mi zw_minc ⟨by decide, Nat.le_of_ble_eq_true rfl⟩ ⟨by omega, by omega⟩ ⟨by decide, by decide⟩ ?_
    refine zk_istore_n (ls' := [some (.inr (some 18)), some (.inl (min (σ 1) 40)), none]) dS_workOut_20 (by decide) rfl ?_
    refine zk_iconst dS_workOut_21 ?_
    refine zk_istore_n (ls' := [some (.inr (some 18)), some (.inl (min (σ 1) 40)), some (.inl 0)]) dS_workOut_22 (by decide) rfl ?_
    have e := wS_workOut1 G sw σ α t hn0 hn1 hv0 hv1 hc h4 42 0 (by omega) (by omega)
    rw [mt_fs_0, mt_nv_0, mt_nv_0, zs_3_self] at e
    exact e
  · skip
    have e12 : σ 12 = 1 := by omega
    refine zk_ret dS_workOut_7 rfl ⟨rfl, α 9, α 10, α 11, ?_, ?_⟩
    · rw [zs_3_self]; exact hkn e12
    · rw [zs_3_self, show zk_up σ 12 1 = σ by rw [← e12]; exact zk_up_self σ 12]
