/-! reading a pattern: its bytes bs, as far as n, from place a -/
def rSelf (bs : List Nat) (n a : Nat) : Nat × Nat := if bs.getD a 0 = 92 ∧ a + 1 < n then (bs.getD (a + 1) 0, a + 2) else (bs.getD a 0, a + 1)
theorem rSelf_gt (bs : List Nat) (n a : Nat) : a < (rSelf bs n a).2 ∧ (rSelf bs n a).2 ≤ a + 2 := by
  unfold rSelf
  split <;> simp
def rStep (bs : List Nat) (n a : Nat) : Nat × Nat × Nat := if (rSelf bs n a).2 + 1 < n ∧ bs.getD (rSelf bs n a).2 0 = 45 ∧ bs.getD ((rSelf bs n a).2 + 1) 0 ≠ 93 then ((rSelf bs n a).1, (rSelf bs n ((rSelf bs n a).2 + 1)).1, (rSelf bs n ((rSelf bs n a).2 + 1)).2) else ((rSelf bs n a).1, (rSelf bs n a).1, (rSelf bs n a).2)
theorem rStep_gt (bs : List Nat) (n a : Nat) : a < (rStep bs n a).2.2 := by
  have h1 := rSelf_gt bs n a
  have h2 := rSelf_gt bs n ((rSelf bs n a).2 + 1)
  unfold rStep
  split
  · show a < (rSelf bs n ((rSelf bs n a).2 + 1)).2
    omega
  · show a < (rSelf bs n a).2
    omega
def rSet (bs : List Nat) (n a : Nat) : List (Nat × Nat) × Nat :=
  if h : n ≤ a ∨ bs.getD a 0 = 93 then ([], a + 1) else
    (((rStep bs n a).1, (rStep bs n a).2.1) :: (rSet bs n (rStep bs n a).2.2).1, (rSet bs n (rStep bs n a).2.2).2)
termination_by n - a
decreasing_by all_goals (have := rStep_gt bs n a; omega)
theorem rSet_end {bs : List Nat} {n a : Nat} (h : n ≤ a ∨ bs.getD a 0 = 93) : rSet bs n a = ([], a + 1) := by
  rw [rSet, dif_pos h]
theorem rSet_step {bs : List Nat} {n a : Nat} (h1 : a < n) (h2 : bs.getD a 0 ≠ 93) : rSet bs n a = (((rStep bs n a).1, (rStep bs n a).2.1) :: (rSet bs n (rStep bs n a).2.2).1, (rSet bs n (rStep bs n a).2.2).2) := by
  rw [rSet, dif_neg (fun q => q.elim (fun z => absurd z (Nat.not_le.mpr h1)) h2)]
theorem rSet_gt (bs : List Nat) (n : Nat) : ∀ (k a : Nat), n - a ≤ k → a < (rSet bs n a).2 := by
  intro k
  induction k with
  | zero =>
    intro a h
    rw [rSet_end (Or.inl (by omega))]
    exact Nat.lt_succ_self a
  | succ k ih =>
    intro a h
    by_cases h1 : n ≤ a ∨ bs.getD a 0 = 93
    · rw [rSet_end h1]
      exact Nat.lt_succ_self a
    · have h2 : a < n := Nat.not_le.mp fun z => h1 (Or.inl z)
      rw [rSet_step h2 (fun z => h1 (Or.inr z))]
      have h3 := rStep_gt bs n a
      have h4 := ih (rStep bs n a).2.2 (by omega)
      show a < (rSet bs n (rStep bs n a).2.2).2
      omega
def rItem (bs : List Nat) (n a : Nat) : pItem × Nat := if bs.getD a 0 = 42 then (none, a + 1) else if bs.getD a 0 = 63 then (some [(0, 255)], a + 1) else if bs.getD a 0 = 91 then (some (rSet bs n (a + 1)).1, (rSet bs n (a + 1)).2) else (some [((rSelf bs n a).1, (rSelf bs n a).1)], (rSelf bs n a).2)
theorem rItem_gt (bs : List Nat) (n a : Nat) : a < (rItem bs n a).2 := by
  have h1 := rSelf_gt bs n a
  have h2 := rSet_gt bs n n (a + 1) (by omega)
  unfold rItem
  split
  · exact Nat.lt_succ_self a
  · split
    · exact Nat.lt_succ_self a
    · split
      · show a < (rSet bs n (a + 1)).2
        omega
      · show a < (rSelf bs n a).2
        omega
def rItems (bs : List Nat) (n a : Nat) : List pItem := if h : n ≤ a then [] else (rItem bs n a).1 :: rItems bs n (rItem bs n a).2
termination_by n - a
decreasing_by all_goals (have := rItem_gt bs n a; omega)
theorem rItems_end {bs : List Nat} {n a : Nat} (h : n ≤ a) : rItems bs n a = [] := by
  rw [rItems, dif_pos h]
theorem rItems_step {bs : List Nat} {n a : Nat} (h : a < n) : rItems bs n a = (rItem bs n a).1 :: rItems bs n (rItem bs n a).2 := by
  rw [rItems, dif_neg (Nat.not_le.mpr h)]
theorem rItems_len (bs : List Nat) (n : Nat) : ∀ (k a : Nat), n - a ≤ k → (rItems bs n a).length ≤ n - a := by
  intro k
  induction k with
  | zero =>
    intro a h
    rw [rItems_end (by omega)]
    exact Nat.zero_le _
  | succ k ih =>
    intro a h
    by_cases h1 : n ≤ a
    · rw [rItems_end h1]
      exact Nat.zero_le _
    · have h3 := rItem_gt bs n a
      rw [rItems_step (by omega), List.length_cons]
      have h4 := ih (rItem bs n a).2 (by omega)
      omega
def zAh (bs : List Nat) (n i : Nat) : Int32 := if i < n then nI (bs.getD i 0) else -1
def pInO (o : pItem) (v : Nat) : Bool := match o with
  | none => false
  | some S => pIn S v
