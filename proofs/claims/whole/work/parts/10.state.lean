/-! the cells of the class and of the reference, as lists -/
def zk_ua (α : Nat → Nat → Int) (k : Nat) (f : Nat → Int) : Nat → Nat → Int := fun j => if j = k then f else α j
/-- the class: σ its numbers, α its arrays; sw: the arrays of OLD and NEW are changed for one another -/
def zk_mk (G : zk_G) (sw : Bool) (σ : Nat → Int) (α : Nat → Nat → Int) (t : zk_H) : zk_H :=
  zk_scr G ::
  .inr (4, [.inr (some 2), .inr (some 4), .inr (some 6), .inr (some 8), .inr (some 10), .inr (some 11), .inr (some 18)]) ::
  .inr (2, [.inr (some (bif sw then 5 else 3)), .inl (σ 0)]) ::
  .inl (40, bif sw then α 1 else α 0) ::
  .inr (2, [.inr (some (bif sw then 3 else 5)), .inl (σ 1)]) ::
  .inl (40, bif sw then α 0 else α 1) ::
  .inr (2, [.inr (some 7), .inl (σ 2)]) ::
  .inl (80, α 2) ::
  .inr (2, [.inr (some 9), .inl (σ 3)]) ::
  .inl (4102, α 3) ::
  .inr (1, [.inl (σ 5), .inl (σ 6), .inl (σ 7), .inl (σ 8), .inl (σ 9)]) ::
  .inr (0, [.inr (some 12), .inr (some 13), .inr (some 14), .inr (some 15), .inr (some 16), .inl (σ 10), .inl (σ 11)]) ::
  .inl (100, α 5) :: .inl (100, α 6) :: .inl (100, α 7) :: .inl (100, α 8) ::
  .inr (2, [.inr (some 17), .inl (σ 4)]) ::
  .inl (4000, α 4) ::
  .inr (3, [.inr (some 2), .inr (some 4), .inr (some 10), .inr (some 19), .inr (some 20), .inr (some 21), .inl (σ 12), .inl (σ 13), .inl (σ 14), .inl (σ 15), .inl (σ 16), .inl (σ 17), .inl (σ 18)]) ::
  .inl (1681, α 9) :: .inl (41, α 10) :: .inl (41, α 11) :: t
/-- the reference: τ its numbers, β its arrays -/
def zk_md (τ : Nat → Int) (β : Nat → Nat → Int) (t : zk_H) : zk_H :=
  .inr (5, [.inr (some 23), .inr (some 24), .inl (τ 0), .inl (τ 1), .inl (τ 2), .inl (τ 3), .inl (τ 4), .inl (τ 5), .inr (some 25), .inr (some 26), .inr (some 27), .inr (some 28), .inl (τ 6), .inl (τ 7), .inr (some 29), .inl (τ 8), .inr (some 30), .inl (τ 9), .inr (some 31), .inl (τ 10), .inl (τ 11), .inl (τ 12)]) ::
  .inl (80, β 0) :: .inl (2, β 1) :: .inl (100, β 2) :: .inl (100, β 3) :: .inl (100, β 4) :: .inl (4000, β 5) :: .inl (4110, β 6) :: .inl (80, β 7) :: .inl (1681, β 8) :: t
/-- the rows: 0 OLD, 1 NEW, 2 what is made, 3 CODE, 4 what is laid -/
def zr_p (q : Nat) : Nat := match q with
  | 0 => 2
  | 1 => 4
  | 2 => 6
  | 3 => 8
  | _ => 16
def zr_a (sw : Bool) (q : Nat) : Nat := match q with
  | 0 => bif sw then 5 else 3
  | 1 => bif sw then 3 else 5
  | 2 => 7
  | 3 => 9
  | _ => 17
def zr_N (q : Nat) : Nat := match q with
  | 0 => 40
  | 1 => 40
  | 2 => 80
  | 3 => 4102
  | _ => 4000
/-- the five numbers -/
def zs_c (σ : Nat → Int) : Nat → Int := fun j => match j with
  | 0 => σ 5
  | 1 => σ 6
  | 2 => σ 7
  | 3 => σ 8
  | _ => σ 9
section ZkState
variable {G : zk_G} {sw : Bool} {σ : Nat → Int} {α : Nat → Nat → Int} {t : zk_H} {q : Nat}
theorem zr_p0 : zr_p q ≠ 0 := by
  unfold zr_p
  split <;> decide
theorem zr_a0 : zr_a sw q ≠ 0 := by
  unfold zr_a
  cases sw <;> split <;> decide
theorem zr_Nle : zr_N q ≤ 4102 := by
  unfold zr_N
  split <;> decide
theorem mk_row (hq : q < 5) : (zk_mk G sw σ α t)[zr_p q]? = some (.inr (2, [.inr (some (zr_a sw q)), .inl (σ q)])) := by
  match q, hq with
  | 0, _ => rfl
  | 1, _ => rfl
  | 2, _ => rfl
  | 3, _ => rfl
  | 4, _ => rfl
theorem mk_arr (hq : q < 5) : (zk_mk G sw σ α t)[zr_a sw q]? = some (.inl (zr_N q, α q)) := by
  match q, hq with
  | 0, _ => cases sw <;> rfl
  | 1, _ => cases sw <;> rfl
  | 2, _ => rfl
  | 3, _ => rfl
  | 4, _ => rfl
theorem mk_srow (hq : q < 5) {n : Int} : (zk_mk G sw σ α t).set (zr_p q) (.inr (2, [.inr (some (zr_a sw q)), .inl n])) = zk_mk G sw (zk_up σ q n) α t := by
  match q, hq with
  | 0, _ => rfl
  | 1, _ => rfl
  | 2, _ => rfl
  | 3, _ => rfl
  | 4, _ => rfl
theorem mk_sarr (hq : q < 5) {f : Nat → Int} : (zk_mk G sw σ α t).set (zr_a sw q) (.inl (zr_N q, f)) = zk_mk G sw σ (zk_ua α q f) t := by
  match q, hq with
  | 0, _ => cases sw <;> rfl
  | 1, _ => cases sw <;> rfl
  | 2, _ => rfl
  | 3, _ => rfl
  | 4, _ => rfl
end ZkState
