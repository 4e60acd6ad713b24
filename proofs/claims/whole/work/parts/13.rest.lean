/-! the table of rests, from the end of NEW on: what a place adds -/
def mt_tb (f : Nat → Int) (i s : Nat) : Int := f (41 * i + s)
/-- the longest match of what is made ahead -/
def mt_la (N : Nat → Int) (nN i : Nat) : Nat → Nat
  | 0 => 0
  | p + 1 => max (mt_la N nN i p) (mt_len N N p i (nN - i))
theorem mt_la_ge {N : Nat → Int} {nN i : Nat} : ∀ {q p : Nat}, p < q → mt_len N N p i (nN - i) ≤ mt_la N nN i q
  | 0, p, h => absurd h (Nat.not_lt_zero p)
  | q + 1, p, h => by
    show mt_len N N p i (nN - i) ≤ max (mt_la N nN i q) (mt_len N N q i (nN - i))
    by_cases e : p = q
    · subst e; omega
    · have := mt_la_ge (N := N) (nN := nN) (i := i) (q := q) (p := p) (by omega)
      omega
theorem mt_la_ex {N : Nat → Int} {nN i : Nat} : ∀ {q : Nat}, mt_la N nN i q = 0 ∨ ∃ p, p < q ∧ mt_la N nN i q = mt_len N N p i (nN - i)
  | 0 => Or.inl rfl
  | q + 1 => by
    show max (mt_la N nN i q) (mt_len N N q i (nN - i)) = 0 ∨ ∃ p, p < q + 1 ∧ max (mt_la N nN i q) (mt_len N N q i (nN - i)) = mt_len N N p i (nN - i)
    by_cases e : mt_la N nN i q ≤ mt_len N N q i (nN - i)
    · exact Or.inr ⟨q, by omega, by omega⟩
    · rcases mt_la_ex (N := N) (nN := nN) (i := i) (q := q) with h | ⟨p, h1, h2⟩
      · omega
      · exact Or.inr ⟨p, by omega, by omega⟩
theorem mt_la_le {N : Nat → Int} {nN i q : Nat} : mt_la N nN i q ≤ nN - i := by
  rcases mt_la_ex (N := N) (nN := nN) (i := i) (q := q) with h | ⟨p, -, h⟩
  · omega
  · rw [h]; exact mt_len_le _ _ _ _ _
/-- the least rest behind a SELF -/
def mt_ls (f : Nat → Int) (i s : Nat) : Nat → Int
  | 0 => 1000000
  | n + 1 => min (mt_ls f i s n) (mt_tb f (i + n + 1) s)
theorem mt_ls_le {f : Nat → Int} {i s : Nat} : ∀ {m n : Nat}, 1 ≤ n → n ≤ m → mt_ls f i s m ≤ mt_tb f (i + n) s
  | 0, n, h, h2 => by omega
  | m + 1, n, h, h2 => by
    show min (mt_ls f i s m) (mt_tb f (i + m + 1) s) ≤ mt_tb f (i + n) s
    by_cases e : n = m + 1
    · subst e
      rw [show i + (m + 1) = i + m + 1 by omega]
      omega
    · have := mt_ls_le (f := f) (i := i) (s := s) (m := m) (n := n) h (by omega)
      omega
theorem mt_ls_ex {f : Nat → Int} {i s : Nat} : ∀ {m : Nat}, mt_ls f i s m = 1000000 ∨ ∃ n, 1 ≤ n ∧ n ≤ m ∧ mt_ls f i s m = mt_tb f (i + n) s
  | 0 => Or.inl rfl
  | m + 1 => by
    show min (mt_ls f i s m) (mt_tb f (i + m + 1) s) = 1000000 ∨ ∃ n, 1 ≤ n ∧ n ≤ m + 1 ∧ min (mt_ls f i s m) (mt_tb f (i + m + 1) s) = mt_tb f (i + n) s
    by_cases e : mt_ls f i s m ≤ mt_tb f (i + m + 1) s
    · rcases mt_ls_ex (f := f) (i := i) (s := s) (m := m) with h | ⟨n, h1, h2, h3⟩
      · exact Or.inl (by omega)
      · exact Or.inr ⟨n, h1, by omega, by omega⟩
    · exact Or.inr ⟨m + 1, by omega, by omega, by rw [show i + (m + 1) = i + m + 1 by omega]; omega⟩
theorem mt_ls_rg {f : Nat → Int} {i s m B : Nat} (hB : B ≤ 1000000) (h : ∀ n, 1 ≤ n → n ≤ m → 0 ≤ mt_tb f (i + n) s ∧ mt_tb f (i + n) s ≤ B) : 0 ≤ mt_ls f i s m ∧ mt_ls f i s m ≤ 1000000 := by
  rcases mt_ls_ex (f := f) (i := i) (s := s) (m := m) with h1 | ⟨n, h1, h2, h3⟩
  · omega
  · have := h n h1 h2
    omega
/-- the least of a row -/
def mt_ml (g : Nat → Int) : Nat → Int
  | 0 => 1000000
  | p + 1 => min (mt_ml g p) (g p)
theorem mt_ml_le {g : Nat → Int} : ∀ {m p : Nat}, p < m → mt_ml g m ≤ g p
  | 0, p, h => absurd h (Nat.not_lt_zero p)
  | m + 1, p, h => by
    show min (mt_ml g m) (g m) ≤ g p
    by_cases e : p = m
    · subst e; omega
    · have := mt_ml_le (g := g) (m := m) (p := p) (by omega)
      omega
theorem mt_ml_ex {g : Nat → Int} : ∀ {m : Nat}, mt_ml g m = 1000000 ∨ ∃ p, p < m ∧ mt_ml g m = g p
  | 0 => Or.inl rfl
  | m + 1 => by
    show min (mt_ml g m) (g m) = 1000000 ∨ ∃ p, p < m + 1 ∧ min (mt_ml g m) (g m) = g p
    by_cases e : mt_ml g m ≤ g m
    · rcases mt_ml_ex (g := g) (m := m) with h | ⟨p, h1, h2⟩
      · exact Or.inl (by omega)
      · exact Or.inr ⟨p, by omega, by omega⟩
    · exact Or.inr ⟨m, by omega, by omega⟩
theorem mt_ml_congr {g g' : Nat → Int} : ∀ {m : Nat}, (∀ p, p < m → g p = g' p) → mt_ml g m = mt_ml g' m
  | 0, _ => rfl
  | m + 1, h => by
    show min (mt_ml g m) (g m) = min (mt_ml g' m) (g' m)
    rw [mt_ml_congr (fun p hp => h p (by omega)), h m (by omega)]
def mt_nb (O N f b : Nat → Int) (i p : Nat) : Int := if O p = N i then min (mt_tb f (i + 1) (p + 1)) (b (p + 1)) else 1000000
def mt_b' (O : Nat → Int) (nO : Nat) (N f b : Nat → Int) (i : Nat) : Nat → Int := fun p => if p < nO then mt_nb O N f b i p else b p
def mt_ne (c f e : Nat → Int) (i s : Nat) : Int := c 4 + min (mt_tb f (i + 1) s) (e s)
def mt_bs (O : Nat → Int) (nO : Nat) (N : Nat → Int) (nN : Nat) (c f b e : Nat → Int) (i s : Nat) : Int :=
  min (min (min (c 3 + mt_ne c f e i s) (c 0 + mt_b' O nO N f b i s)) (c 0 + c 1 + mt_ml (mt_b' O nO N f b i) nO)) (c 2 + mt_ls f i s (mt_la N nN i i))
/-- what holds with the rows from i on worked out: f the table, b and e the rows behind copies and behind lays -/
def mt_in (O : Nat → Int) (nO : Nat) (N : Nat → Int) (nN : Nat) (c f b e : Nat → Int) (i : Nat) : Prop :=
  i ≤ nN ∧ (∀ s, s ≤ nO → mt_tb f nN s = 0) ∧
  (∀ i' s, i ≤ i' → i' < nN → s ≤ nO → (∀ k p n, mt_ok O nO N nN i' k p n → mt_tb f i' s ≤ mt_c c s k p n + mt_tb f (i' + n) (mt_s s k p n)) ∧ ∃ k p n, mt_ok O nO N nN i' k p n ∧ mt_tb f i' s = mt_c c s k p n + mt_tb f (i' + n) (mt_s s k p n)) ∧
  (∀ i' s, i ≤ i' → i' ≤ nN → s ≤ nO → 0 ≤ mt_tb f i' s ∧ mt_tb f i' s ≤ 4100) ∧
  (∀ p, p ≤ nO → (0 ≤ b p ∧ b p ≤ 1000000) ∧ (∀ n, mt_ok O nO N nN i 0 p n → b p ≤ mt_tb f (i + n) (p + n)) ∧ (b p = 1000000 ∨ ∃ n, mt_ok O nO N nN i 0 p n ∧ b p = mt_tb f (i + n) (p + n))) ∧
  (∀ s, s ≤ nO → (0 ≤ e s ∧ e s ≤ 1000000) ∧ (∀ n, 1 ≤ n → i + n ≤ nN → e s ≤ c 4 * n + mt_tb f (i + n) s) ∧ (e s = 1000000 ∨ ∃ n, 1 ≤ n ∧ i + n ≤ nN ∧ e s = c 4 * n + mt_tb f (i + n) s))
theorem mt_in_rest {O : Nat → Int} {nO : Nat} {N : Nat → Int} {nN : Nat} {c f b e : Nat → Int} (h : mt_in O nO N nN c f b e 0) : mt_rest O nO N nN c (mt_tb f) :=
  ⟨h.2.1, fun i s hi hs => h.2.2.1 i s (Nat.zero_le i) hi hs⟩
theorem mt_in_last {O : Nat → Int} {nO : Nat} {N : Nat → Int} {nN : Nat} {c f b e : Nat → Int} (h1 : ∀ s, s ≤ nO → mt_tb f nN s = 0) (h2 : ∀ s, s ≤ nO → b s = 1000000) (h3 : ∀ s, s ≤ nO → e s = 1000000) : mt_in O nO N nN c f b e nN := by
  refine ⟨Nat.le_refl _, h1, fun i' s g1 g2 => by omega, fun i' s g1 g2 g3 => ?_, fun p hp => ⟨by rw [h2 p hp]; omega, fun n hn => ?_, Or.inl (h2 p hp)⟩, fun s hs => ⟨by rw [h3 s hs]; omega, fun n g1 g2 => by omega, Or.inl (h3 s hs)⟩⟩
  · rw [show i' = nN by omega, h1 s g3]
    omega
  · have := hn.1
    have := hn.2.1
    omega
theorem mt_in_step {O : Nat → Int} {nO : Nat} {N : Nat → Int} {nN : Nat} {c f b e f' b' e' : Nat → Int} {i : Nat} (hO : nO ≤ 40) (hN : nN ≤ 40) (hc : ∀ j, j < 5 → 0 ≤ c j ∧ c j ≤ 100) (h : mt_in O nO N nN c f b e (i + 1))
    (hb : ∀ p, p ≤ nO → b' p = mt_b' O nO N f b i p) (he : ∀ s, s ≤ nO → e' s = mt_ne c f e i s) (hf : ∀ s, s ≤ nO → mt_tb f' i s = mt_bs O nO N nN c f b e i s) (hk : ∀ i' s, i < i' → i' ≤ nN → s ≤ nO → mt_tb f' i' s = mt_tb f i' s) : mt_in O nO N nN c f' b' e' i := by
  obtain ⟨a1, a2, a3, a4, a5, a6⟩ := h
  have c0 := hc 0 (by omega)
  have c1 := hc 1 (by omega)
  have c2 := hc 2 (by omega)
  have c3 := hc 3 (by omega)
  have c4 := hc 4 (by omega)
  -- behind copies
  have B : ∀ p, p ≤ nO → (0 ≤ b' p ∧ b' p ≤ 1000000) ∧ (∀ n, mt_ok O nO N nN i 0 p n → b' p ≤ mt_tb f (i + n) (p + n)) ∧ (b' p = 1000000 ∨ ∃ n, mt_ok O nO N nN i 0 p n ∧ b' p = mt_tb f (i + n) (p + n)) := by
    intro p hp
    rw [hb p hp]
    unfold mt_b'
    by_cases hpn : p < nO
    · rw [if_pos hpn]
      unfold mt_nb
      obtain ⟨g1, g2, g3⟩ := a5 (p + 1) (by omega)
      have g4 := a4 (i + 1) (p + 1) (by omega) (by omega) (by omega)
      by_cases hx : O p = N i
      · rw [if_pos hx]
        refine ⟨by omega, fun n hn => ?_, ?_⟩
        · obtain ⟨n1, n2, n3⟩ := hn
          rcases n3 with ⟨-, n4, n5⟩ | ⟨n4, -⟩ | ⟨n4, -⟩
          · by_cases hn1 : n = 1
            · subst hn1; omega
            · have := g2 (n - 1) ⟨by omega, by omega, Or.inl ⟨rfl, by omega, fun t ht => ?_⟩⟩
              · rw [show i + 1 + (n - 1) = i + n by omega, show p + 1 + (n - 1) = p + n by omega] at this
                omega
              · have := n5 (t + 1) (by omega)
                rw [show p + 1 + t = p + (t + 1) by omega, show i + 1 + t = i + (t + 1) by omega]
                exact this
          · omega
          · omega
        · have one : mt_ok O nO N nN i 0 p 1 := ⟨by omega, by omega, Or.inl ⟨rfl, by omega, fun t ht => by rw [show t = 0 by omega]; exact hx⟩⟩
          by_cases hm : mt_tb f (i + 1) (p + 1) ≤ b (p + 1)
          · exact Or.inr ⟨1, one, by omega⟩
          · rcases g3 with g3 | ⟨n, g5, g6⟩
            · omega
            · refine Or.inr ⟨n + 1, ⟨by omega, ?_, Or.inl ⟨rfl, ?_, ?_⟩⟩, ?_⟩
              · have := g5.2.1; omega
              · obtain ⟨-, -, ⟨-, n4, -⟩ | ⟨n4, -⟩ | ⟨n4, -⟩⟩ := g5 <;> omega
              · obtain ⟨-, -, ⟨-, -, n5⟩ | ⟨n4, -⟩ | ⟨n4, -⟩⟩ := g5
                · intro t ht
                  cases t with
                  | zero => exact hx
                  | succ t =>
                    have := n5 t (by omega)
                    rw [show p + (t + 1) = p + 1 + t by omega, show i + (t + 1) = i + 1 + t by omega]
                    exact this
                · omega
                · omega
              · rw [show i + (n + 1) = i + 1 + n by omega, show p + (n + 1) = p + 1 + n by omega]
                omega
      · rw [if_neg hx]
        refine ⟨by omega, fun n hn => ?_, Or.inl rfl⟩
        obtain ⟨n1, -, ⟨-, -, n5⟩ | ⟨n4, -⟩ | ⟨n4, -⟩⟩ := hn
        · exact absurd (n5 0 (by omega)) hx
        · omega
        · omega
    · rw [if_neg hpn]
      have hpe : p = nO := by omega
      obtain ⟨g1, g2, g3⟩ := a5 p (by omega)
      refine ⟨g1, fun n hn => ?_, ?_⟩
      · obtain ⟨n1, -, ⟨-, n4, -⟩ | ⟨n4, -⟩ | ⟨n4, -⟩⟩ := hn <;> omega
      · rcases g3 with g3 | ⟨n, g5, -⟩
        · exact Or.inl g3
        · obtain ⟨n1, -, ⟨-, n4, -⟩ | ⟨n4, -⟩ | ⟨n4, -⟩⟩ := g5 <;> omega
  -- behind lays
  have E : ∀ s, s ≤ nO → (0 ≤ e' s ∧ e' s ≤ 4200) ∧ (∀ n, 1 ≤ n → i + n ≤ nN → e' s ≤ c 4 * n + mt_tb f (i + n) s) ∧ ∃ n, 1 ≤ n ∧ i + n ≤ nN ∧ e' s = c 4 * n + mt_tb f (i + n) s := by
    intro s hs
    rw [he s hs]
    unfold mt_ne
    obtain ⟨g1, g2, g3⟩ := a6 s hs
    have g4 := a4 (i + 1) s (by omega) (by omega) hs
    refine ⟨by omega, fun n n1 n2 => ?_, ?_⟩
    · by_cases hn1 : n = 1
      · subst hn1
        have : c 4 * ((1 : Nat) : Int) = c 4 := by rw [show ((1 : Nat) : Int) = 1 from rfl, Int.mul_one]
        omega
      · have g5 := g2 (n - 1) (by omega) (by omega)
        rw [show i + 1 + (n - 1) = i + n by omega] at g5
        have : c 4 * (n : Int) = c 4 * ((n - 1 : Nat) : Int) + c 4 := by
          rw [show (n : Int) = ((n - 1 : Nat) : Int) + 1 by omega, Int.mul_add, Int.mul_one]
        omega
    · by_cases hm : mt_tb f (i + 1) s ≤ e s
      · refine ⟨1, by omega, by omega, ?_⟩
        have : c 4 * ((1 : Nat) : Int) = c 4 := by rw [show ((1 : Nat) : Int) = 1 from rfl, Int.mul_one]
        omega
      · rcases g3 with g3 | ⟨n, n1, n2, n3⟩
        · omega
        · refine ⟨n + 1, by omega, by omega, ?_⟩
          rw [show i + (n + 1) = i + 1 + n by omega]
          have : c 4 * ((n + 1 : Nat) : Int) = c 4 * (n : Int) + c 4 := by rw [show ((n + 1 : Nat) : Int) = (n : Int) + 1 by omega, Int.mul_add, Int.mul_one]
          omega
  -- a place's best
  have A : ∀ s, s ≤ nO → (∀ k p n, mt_ok O nO N nN i k p n → mt_tb f' i s ≤ mt_c c s k p n + mt_tb f (i + n) (mt_s s k p n)) ∧ (0 ≤ mt_tb f' i s) ∧ ∃ k p n, mt_ok O nO N nN i k p n ∧ mt_tb f' i s = mt_c c s k p n + mt_tb f (i + n) (mt_s s k p n) := by
    intro s hs
    have ef := hf s hs
    have ee := he s hs
    obtain ⟨e1, e2, n0, e3, e4, e5⟩ := E s hs
    obtain ⟨b1, b2, b3⟩ := B s hs
    have eb := hb s hs
    unfold mt_bs at ef
    rw [← ee, ← eb] at ef
    have low : ∀ k p n, mt_ok O nO N nN i k p n → mt_tb f' i s ≤ mt_c c s k p n + mt_tb f (i + n) (mt_s s k p n) := by
      intro k p n hn
      clear b3
      unfold mt_c mt_s
      have hn' := hn
      obtain ⟨n1, n2, ⟨n3, n4, n5⟩ | ⟨n3, n4, n5⟩ | ⟨n3, -⟩⟩ := hn
      · subst n3
        rw [if_pos rfl, if_pos rfl]
        by_cases hps : p = s
        · subst hps
          rw [if_pos rfl]
          have := b2 n hn'
          omega
        · rw [if_neg hps]
          have g1 := (B p (by omega)).2.1 n hn'
          have g2 := mt_ml_le (g := mt_b' O nO N f b i) (m := nO) (p := p) (by omega)
          rw [← hb p (by omega)] at g2
          omega
      · subst n3
        rw [if_neg (by decide), if_pos rfl, if_neg (by decide)]
        have g1 := mt_le_len (f := N) (g := N) (m := nN - i) (i := p) (j := i) (n := n) (by omega) n5
        have g2 := mt_la_ge (N := N) (nN := nN) (i := i) (q := i) (p := p) n4
        have g3 := mt_ls_le (f := f) (i := i) (s := s) (m := mt_la N nN i i) (n := n) n1 (by omega)
        omega
      · subst n3
        rw [if_neg (by decide), if_neg (by decide), if_neg (by decide)]
        have := e2 n n1 n2
        omega
    have lsr := mt_ls_rg (f := f) (i := i) (s := s) (m := mt_la N nN i i) (B := 4100) (by omega) (fun n n1 n2 => by
      have := mt_la_le (N := N) (nN := nN) (i := i) (q := i)
      exact a4 (i + n) s (by omega) (by omega) hs)
    have mlr : 0 ≤ mt_ml (mt_b' O nO N f b i) nO := by
      rcases mt_ml_ex (g := mt_b' O nO N f b i) (m := nO) with g | ⟨p, g1, g2⟩
      · omega
      · rw [g2, ← hb p (by omega)]
        have := (B p (by omega)).1
        omega
    refine ⟨low, by omega, ?_⟩
    by_cases k1 : mt_tb f' i s = c 3 + e' s
    · refine ⟨2, 0, n0, ⟨e3, e4, Or.inr (Or.inr ⟨rfl, rfl⟩)⟩, ?_⟩
      unfold mt_c mt_s
      rw [if_neg (by decide), if_neg (by decide), if_neg (by decide)]
      omega
    by_cases k2 : mt_tb f' i s = c 0 + b' s
    · rcases b3 with b3 | ⟨n, b4, b5⟩
      · omega
      · refine ⟨0, s, n, b4, ?_⟩
        unfold mt_c mt_s
        rw [if_pos rfl, if_pos rfl, if_pos rfl]
        omega
    by_cases k3 : mt_tb f' i s = c 0 + c 1 + mt_ml (mt_b' O nO N f b i) nO
    · rcases mt_ml_ex (g := mt_b' O nO N f b i) (m := nO) with g | ⟨p, g1, g2⟩
      · omega
      · rw [← hb p (by omega)] at g2
        rcases (B p (by omega)).2.2 with b6 | ⟨n, b7, b8⟩
        · omega
        · have hl := low 0 p n b7
          refine ⟨0, p, n, b7, ?_⟩
          unfold mt_c mt_s at hl ⊢
          rw [if_pos rfl, if_pos rfl] at hl ⊢
          by_cases hps : p = s
          · rw [if_pos hps] at hl ⊢
            omega
          · rw [if_neg hps] at hl ⊢
            omega
    · clear b3
      have k4 : mt_tb f' i s = c 2 + mt_ls f i s (mt_la N nN i i) := by omega
      rcases mt_ls_ex (f := f) (i := i) (s := s) (m := mt_la N nN i i) with g | ⟨n, g1, g2, g3⟩
      · omega
      · rcases mt_la_ex (N := N) (nN := nN) (i := i) (q := i) with g4 | ⟨p, g4, g5⟩
        · omega
        · refine ⟨1, p, n, ⟨g1, ?_, Or.inr (Or.inl ⟨rfl, g4, fun t ht => mt_len_lt (m := nN - i) (by omega)⟩)⟩, ?_⟩
          · have := mt_la_le (N := N) (nN := nN) (i := i) (q := i)
            omega
          · unfold mt_c mt_s
            rw [if_neg (by decide), if_pos rfl, if_neg (by decide)]
            omega
  have up : ∀ s, s ≤ nO → mt_tb f' i s ≤ 4100 := by
    intro s hs
    have hl := (A s hs).1 2 0 (nN - i) ⟨by omega, by omega, Or.inr (Or.inr ⟨rfl, rfl⟩)⟩
    unfold mt_c mt_s at hl
    rw [if_neg (by decide), if_neg (by decide), if_neg (by decide), show i + (nN - i) = nN by omega, a2 s hs] at hl
    have hm : c 4 * ((nN - i : Nat) : Int) ≤ 100 * 40 := by
      have h1 : c 4 * ((nN - i : Nat) : Int) ≤ 100 * ((nN - i : Nat) : Int) := Int.mul_le_mul_of_nonneg_right c4.2 (by omega)
      omega
    omega
  have hs' : ∀ i' n s k p, mt_ok O nO N nN i' k p n → i ≤ i' → s ≤ nO → mt_tb f' (i' + n) (mt_s s k p n) = mt_tb f (i' + n) (mt_s s k p n) := by
    intro i' n s k p hn hi hs
    have := hn.1
    exact hk (i' + n) _ (by omega) hn.2.1 (mt_s_le hn hs)
  refine ⟨by omega, fun s hs => ?_, fun i' s g1 g2 g3 => ?_, fun i' s g1 g2 g3 => ?_, fun p hp => ?_, fun s hs => ?_⟩
  · rw [hk nN s (by omega) (Nat.le_refl _) hs]
    exact a2 s hs
  · by_cases hii : i' = i
    · subst hii
      obtain ⟨x1, -, k, p, n, x2, x3⟩ := A s g3
      refine ⟨fun k p n hn => ?_, k, p, n, x2, ?_⟩
      · rw [hs' i' n s k p hn (Nat.le_refl _) g3]
        exact x1 k p n hn
      · rw [hs' i' n s k p x2 (Nat.le_refl _) g3]
        exact x3
    · obtain ⟨x1, k, p, n, x2, x3⟩ := a3 i' s (by omega) g2 g3
      refine ⟨fun k p n hn => ?_, k, p, n, x2, ?_⟩
      · rw [hs' i' n s k p hn g1 g3, hk i' s (by omega) (by omega) g3]
        exact x1 k p n hn
      · rw [hs' i' n s k p x2 g1 g3, hk i' s (by omega) (by omega) g3]
        exact x3
  · by_cases hii : i' = i
    · subst hii
      exact ⟨(A s g3).2.1, up s g3⟩
    · rw [hk i' s (by omega) g2 g3]
      exact a4 i' s (by omega) g2 g3
  · obtain ⟨b1, b2, b3⟩ := B p hp
    refine ⟨b1, fun n hn => ?_, ?_⟩
    · have := hs' i n p 0 p hn (Nat.le_refl _) hp
      have e0 : mt_s p 0 p n = p + n := rfl
      rw [e0] at this
      rw [this]
      exact b2 n hn
    · rcases b3 with b3 | ⟨n, b4, b5⟩
      · exact Or.inl b3
      · refine Or.inr ⟨n, b4, ?_⟩
        have := hs' i n p 0 p b4 (Nat.le_refl _) hp
        have e0 : mt_s p 0 p n = p + n := rfl
        rw [e0] at this
        rw [this]
        exact b5
  · obtain ⟨e1, e2, n, e3, e4, e5⟩ := E s hs
    refine ⟨by omega, fun n n1 n2 => ?_, Or.inr ⟨n, e3, e4, ?_⟩⟩
    · rw [hk (i + n) s (by omega) n2 hs]
      exact e2 n n1 n2
    · rw [hk (i + n) s (by omega) e4 hs]
      exact e5
