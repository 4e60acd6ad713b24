/-! numbers alone: sums, matches, the least cost and the first best act -/
def mt_sum (f : Nat → Int) : Nat → Int
  | 0 => 1
  | n + 1 => (mt_sum f n * 31 + f n) % 65521
theorem mt_sum_rg (f : Nat → Int) (n : Nat) : 0 ≤ mt_sum f n ∧ mt_sum f n < 65521 := by
  cases n with
  | zero =>
    show (0 : Int) ≤ 1 ∧ (1 : Int) < 65521
    omega
  | succ n =>
    show 0 ≤ (mt_sum f n * 31 + f n) % 65521 ∧ (mt_sum f n * 31 + f n) % 65521 < 65521
    omega
theorem mt_sum_congr {f g : Nat → Int} : ∀ {n : Nat}, (∀ j, j < n → f j = g j) → mt_sum f n = mt_sum g n
  | 0, _ => rfl
  | n + 1, h => by
    show (mt_sum f n * 31 + f n) % 65521 = (mt_sum g n * 31 + g n) % 65521
    rw [mt_sum_congr (fun j hj => h j (by omega)), h n (by omega)]
def mt_len (f g : Nat → Int) (i j : Nat) : Nat → Nat
  | 0 => 0
  | m + 1 => if f i = g j then mt_len f g (i + 1) (j + 1) m + 1 else 0
theorem mt_len_le (f g : Nat → Int) : ∀ (m i j : Nat), mt_len f g i j m ≤ m
  | 0, _, _ => Nat.le_refl 0
  | m + 1, i, j => by
    show (if f i = g j then mt_len f g (i + 1) (j + 1) m + 1 else 0) ≤ m + 1
    have := mt_len_le f g m (i + 1) (j + 1)
    split <;> omega
theorem mt_len_eq {f g : Nat → Int} : ∀ {m i j n : Nat}, n ≤ m → (∀ t, t < n → f (i + t) = g (j + t)) → (n = m ∨ f (i + n) ≠ g (j + n)) → mt_len f g i j m = n
  | 0, i, j, n, h, _, _ => by
    have : n = 0 := by omega
    subst this
    rfl
  | m + 1, i, j, 0, h, _, h2 => by
    show (if f i = g j then mt_len f g (i + 1) (j + 1) m + 1 else 0) = 0
    have h3 : f i ≠ g j := by
      rcases h2 with h2 | h2
      · omega
      · exact h2
    rw [if_neg h3]
  | m + 1, i, j, n + 1, h, h1, h2 => by
    show (if f i = g j then mt_len f g (i + 1) (j + 1) m + 1 else 0) = n + 1
    have h3 : f i = g j := h1 0 (by omega)
    have h4 : mt_len f g (i + 1) (j + 1) m = n := by
      refine mt_len_eq (by omega) (fun t ht => ?_) ?_
      · have := h1 (t + 1) (by omega)
        rw [show i + 1 + t = i + (t + 1) by omega, show j + 1 + t = j + (t + 1) by omega]
        exact this
      · rcases h2 with h2 | h2
        · exact Or.inl (by omega)
        · refine Or.inr ?_
          rw [show i + 1 + n = i + (n + 1) by omega, show j + 1 + n = j + (n + 1) by omega]
          exact h2
    rw [if_pos h3, h4]
theorem mt_len_lt {f g : Nat → Int} : ∀ {m i j t : Nat}, t < mt_len f g i j m → f (i + t) = g (j + t)
  | 0, i, j, t, h => absurd h (Nat.not_lt_zero t)
  | m + 1, i, j, t, h => by
    have h : t < (if f i = g j then mt_len f g (i + 1) (j + 1) m + 1 else 0) := h
    split at h
    next h3 =>
      cases t with
      | zero => exact h3
      | succ t =>
        have := mt_len_lt (f := f) (g := g) (m := m) (i := i + 1) (j := j + 1) (t := t) (by omega)
        rw [show i + (t + 1) = i + 1 + t by omega, show j + (t + 1) = j + 1 + t by omega]
        exact this
    next => omega
theorem mt_le_len {f g : Nat → Int} {m i j n : Nat} (h : n ≤ m) (h1 : ∀ t, t < n → f (i + t) = g (j + t)) : n ≤ mt_len f g i j m := by
  refine Classical.byContradiction fun hc => ?_
  have h2 : mt_len f g i j m < n := by omega
  have h3 := mt_len_eq (f := f) (g := g) (m := m) (i := i) (j := j) (n := mt_len f g i j m) (mt_len_le f g m i j) (fun t ht => mt_len_lt ht)
  have h4 : mt_len f g i j m = m ∨ f (i + mt_len f g i j m) ≠ g (j + mt_len f g i j m) := by
    refine Classical.byContradiction fun hd => ?_
    have h5 : mt_len f g i j m ≠ m := fun e => hd (Or.inl e)
    have h6 : f (i + mt_len f g i j m) = g (j + mt_len f g i j m) := Classical.byContradiction fun e => hd (Or.inr e)
    have key : ∀ (m i j n : Nat), n = mt_len f g i j m → n < m → f (i + n) ≠ g (j + n) := by
      intro m
      induction m with
      | zero => intro i j n _ h; omega
      | succ m ih =>
        intro i j n hn hm
        have hn : n = (if f i = g j then mt_len f g (i + 1) (j + 1) m + 1 else 0) := hn
        split at hn
        next h3 =>
          have := ih (i + 1) (j + 1) (n - 1) (by omega) (by omega)
          rw [show i + 1 + (n - 1) = i + n by omega, show j + 1 + (n - 1) = j + n by omega] at this
          exact this
        next h3 =>
          subst hn
          exact h3
    exact key m i j _ rfl (by have := mt_len_le f g m i j; omega) h6
  rcases h4 with h4 | h4
  · omega
  · exact h4 (h1 _ h2)
/-- an act k p n that makes the bytes of N from i on -/
def mt_ok (O : Nat → Int) (nO : Nat) (N : Nat → Int) (nN i k p n : Nat) : Prop := 1 ≤ n ∧ i + n ≤ nN ∧ ((k = 0 ∧ p + n ≤ nO ∧ ∀ t, t < n → O (p + t) = N (i + t)) ∨ (k = 1 ∧ p < i ∧ ∀ t, t < n → N (p + t) = N (i + t)) ∨ (k = 2 ∧ p = 0))
def mt_c (c : Nat → Int) (s k p n : Nat) : Int := if k = 0 then (if p = s then c 0 else c 0 + c 1) else if k = 1 then c 2 else c 3 + c 4 * n
def mt_s (s k p n : Nat) : Nat := if k = 0 then p + n else s
/-- the table L is the rest -/
def mt_rest (O : Nat → Int) (nO : Nat) (N : Nat → Int) (nN : Nat) (c : Nat → Int) (L : Nat → Nat → Int) : Prop :=
  (∀ s, s ≤ nO → L nN s = 0) ∧ ∀ i s, i < nN → s ≤ nO → (∀ k p n, mt_ok O nO N nN i k p n → L i s ≤ mt_c c s k p n + L (i + n) (mt_s s k p n)) ∧ ∃ k p n, mt_ok O nO N nN i k p n ∧ L i s = mt_c c s k p n + L (i + n) (mt_s s k p n)
theorem mt_s_le {O : Nat → Int} {nO : Nat} {N : Nat → Int} {nN i s k p n : Nat} (h : mt_ok O nO N nN i k p n) (hs : s ≤ nO) : mt_s s k p n ≤ nO := by
  unfold mt_s
  obtain ⟨h1, h2, ⟨h3, h4, -⟩ | ⟨h3, -⟩ | h3⟩ := h
  · rw [if_pos h3]; exact h4
  · rw [if_neg (by omega)]; exact hs
  · rw [if_neg (by omega)]; exact hs
theorem mt_ok_congr {O O' : Nat → Int} {nO : Nat} {N N' : Nat → Int} {nN i k p n : Nat} (hO : ∀ j, j < nO → O j = O' j) (hN : ∀ j, j < nN → N j = N' j) (h : mt_ok O nO N nN i k p n) : mt_ok O' nO N' nN i k p n := by
  obtain ⟨h1, h2, h3⟩ := h
  refine ⟨h1, h2, ?_⟩
  rcases h3 with ⟨h3, h4, h5⟩ | ⟨h3, h4, h5⟩ | h3
  · exact Or.inl ⟨h3, h4, fun t ht => by rw [← hO _ (by omega), ← hN _ (by omega)]; exact h5 t ht⟩
  · exact Or.inr (Or.inl ⟨h3, h4, fun t ht => by rw [← hN (p + t) (by omega), ← hN (i + t) (by omega)]; exact h5 t ht⟩)
  · exact Or.inr (Or.inr h3)
theorem mt_rest_congr {O O' : Nat → Int} {nO : Nat} {N N' : Nat → Int} {nN : Nat} {c c' : Nat → Int} {L : Nat → Nat → Int} (hO : ∀ j, j < nO → O j = O' j) (hN : ∀ j, j < nN → N j = N' j) (hc : ∀ j, j < 5 → c j = c' j) (h : mt_rest O nO N nN c L) : mt_rest O' nO N' nN c' L := by
  have e : ∀ s k p n, mt_c c s k p n = mt_c c' s k p n := fun s k p n => by
    unfold mt_c
    rw [hc 0 (by omega), hc 1 (by omega), hc 2 (by omega), hc 3 (by omega), hc 4 (by omega)]
  refine ⟨h.1, fun i s hi hs => ⟨fun k p n hk => ?_, ?_⟩⟩
  · rw [← e]
    exact (h.2 i s hi hs).1 k p n (mt_ok_congr (fun j hj => (hO j hj).symm) (fun j hj => (hN j hj).symm) hk)
  · obtain ⟨k, p, n, h1, h2⟩ := (h.2 i s hi hs).2
    exact ⟨k, p, n, mt_ok_congr hO hN h1, by rw [← e]; exact h2⟩
theorem mt_rest_uniq {O : Nat → Int} {nO : Nat} {N : Nat → Int} {nN : Nat} {c : Nat → Int} {L L' : Nat → Nat → Int} (h : mt_rest O nO N nN c L) (h' : mt_rest O nO N nN c L') : ∀ (r i s : Nat), i + r = nN → s ≤ nO → L i s = L' i s := by
  intro r
  induction r using Nat.strongRecOn with
  | ind r ih =>
    intro i s hi hs
    by_cases h0 : r = 0
    · subst h0
      have : i = nN := by omega
      subst this
      rw [h.1 s hs, h'.1 s hs]
    · obtain ⟨a1, k, p, n, a2, a3⟩ := h.2 i s (by omega) hs
      obtain ⟨b1, k', p', n', b2, b3⟩ := h'.2 i s (by omega) hs
      have c1 := b1 k p n a2
      have c2 := a1 k' p' n' b2
      have hn : 1 ≤ n ∧ i + n ≤ nN := ⟨a2.1, a2.2.1⟩
      have hn' : 1 ≤ n' ∧ i + n' ≤ nN := ⟨b2.1, b2.2.1⟩
      have d1 := ih (r - n) (by omega) (i + n) (mt_s s k p n) (by omega) (mt_s_le a2 hs)
      have d2 := ih (r - n') (by omega) (i + n') (mt_s s k' p' n') (by omega) (mt_s_le b2 hs)
      omega
/-- the first best act -/
def mt_best (O : Nat → Int) (nO : Nat) (N : Nat → Int) (nN : Nat) (c : Nat → Int) (L : Nat → Nat → Int) (i s k p n : Nat) : Prop :=
  mt_ok O nO N nN i k p n ∧ L i s = mt_c c s k p n + L (i + n) (mt_s s k p n) ∧
    ∀ k' p' n', mt_ok O nO N nN i k' p' n' → L i s = mt_c c s k' p' n' + L (i + n') (mt_s s k' p' n') → k < k' ∨ (k = k' ∧ (n' < n ∨ (n' = n ∧ p ≤ p')))
theorem mt_best_uniq {O : Nat → Int} {nO : Nat} {N : Nat → Int} {nN : Nat} {c : Nat → Int} {L : Nat → Nat → Int} {i s k p n k' p' n' : Nat} (h : mt_best O nO N nN c L i s k p n) (h' : mt_best O nO N nN c L i s k' p' n') : k = k' ∧ p = p' ∧ n = n' := by
  have h1 := h.2.2 k' p' n' h'.1 h'.2.1
  have h2 := h'.2.2 k p n h.1 h.2.1
  omega
theorem mt_best_congr {O O' : Nat → Int} {nO : Nat} {N N' : Nat → Int} {nN : Nat} {c c' : Nat → Int} {L L' : Nat → Nat → Int} {i s k p n : Nat} (hO : ∀ j, j < nO → O j = O' j) (hN : ∀ j, j < nN → N j = N' j) (hc : ∀ j, j < 5 → c j = c' j) (hL : ∀ i s, i ≤ nN → s ≤ nO → L i s = L' i s) (hi : i ≤ nN) (hs : s ≤ nO) (h : mt_best O nO N nN c L i s k p n) : mt_best O' nO N' nN c' L' i s k p n := by
  have e : ∀ s k p n, mt_c c s k p n = mt_c c' s k p n := fun s k p n => by
    unfold mt_c
    rw [hc 0 (by omega), hc 1 (by omega), hc 2 (by omega), hc 3 (by omega), hc 4 (by omega)]
  obtain ⟨h1, h2, h3⟩ := h
  refine ⟨mt_ok_congr hO hN h1, ?_, fun k' p' n' g1 g2 => ?_⟩
  · rw [← e, ← hL i s hi hs, ← hL _ _ h1.2.1 (mt_s_le h1 hs)]
    exact h2
  · have g3 := mt_ok_congr (fun j hj => (hO j hj).symm) (fun j hj => (hN j hj).symm) g1
    refine h3 k' p' n' g3 ?_
    rw [e, hL i s hi hs, hL _ _ g3.2.1 (mt_s_le g3 hs)]
    exact g2
