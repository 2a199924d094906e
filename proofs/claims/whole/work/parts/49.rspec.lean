/-! the reference's way through a pattern -/
theorem sbE : ∀ c, c < 256 → (sb_b c = nI 92 ↔ c = 92) ∧ (sb_b c = nI 93 ↔ c = 93) ∧ (sb_b c = nI 45 ↔ c = 45) ∧ (sb_b c = nI 42 ↔ c = 42) ∧ (sb_b c = nI 63 ↔ c = 63) ∧ (sb_b c = nI 91 ↔ c = 91) ∧ (sb_b c = nI 0 ↔ c = 0) ∧ (sb_b c = nI 10 ↔ c = 10) := by decide +kernel
def rClose (bs : List Nat) (n a : Nat) : Nat := if h : n ≤ a ∨ bs.getD a 0 = 93 then a else rClose bs n (rSelf bs n a).2
termination_by n - a
decreasing_by all_goals (have := rSelf_gt bs n a; omega)
theorem rClose_end {bs : List Nat} {n a : Nat} (h : n ≤ a ∨ bs.getD a 0 = 93) : rClose bs n a = a := by rw [rClose, dif_pos h]
theorem rClose_step {bs : List Nat} {n a : Nat} (h1 : a < n) (h2 : bs.getD a 0 ≠ 93) : rClose bs n a = rClose bs n (rSelf bs n a).2 := by
  rw [rClose, dif_neg (fun q => q.elim (fun z => absurd z (Nat.not_le.mpr h1)) h2)]
theorem rSelf_le {bs : List Nat} {n a : Nat} (h : a < n) : (rSelf bs n a).2 ≤ n := by
  unfold rSelf
  split
  · rename_i h1
    show a + 2 ≤ n
    have := h1.2
    omega
  · show a + 1 ≤ n
    omega
theorem rClose_ge (bs : List Nat) (n : Nat) : ∀ (k a : Nat), n - a ≤ k → a ≤ rClose bs n a ∧ (a ≤ n → rClose bs n a ≤ n) := by
  intro k
  induction k with
  | zero =>
    intro a h
    rw [rClose_end (Or.inl (by omega))]
    exact ⟨Nat.le_refl _, fun z => z⟩
  | succ k ih =>
    intro a h
    by_cases h1 : n ≤ a ∨ bs.getD a 0 = 93
    · rw [rClose_end h1]
      exact ⟨Nat.le_refl _, fun z => z⟩
    · have h2 : a < n := Nat.not_le.mp fun z => h1 (Or.inl z)
      rw [rClose_step h2 (fun z => h1 (Or.inr z))]
      have h3 := rSelf_gt bs n a
      have h4 := ih (rSelf bs n a).2 (by omega)
      exact ⟨by omega, fun _ => h4.2 (rSelf_le h2)⟩
/-- the ranges between [ and the closing place e -/
def rOne (bs : List Nat) (e a : Nat) : List (Nat × Nat) :=
  if h : e ≤ a then [] else
    if (rSelf bs e a).2 + 1 < e ∧ bs.getD (rSelf bs e a).2 0 = 45 then ((rSelf bs e a).1, (rSelf bs e ((rSelf bs e a).2 + 1)).1) :: rOne bs e (rSelf bs e ((rSelf bs e a).2 + 1)).2 else ((rSelf bs e a).1, (rSelf bs e a).1) :: rOne bs e (rSelf bs e a).2
termination_by e - a
decreasing_by
  · have := rSelf_gt bs e a
    have := rSelf_gt bs e ((rSelf bs e a).2 + 1)
    omega
  · have := rSelf_gt bs e a
    omega
theorem rOne_end {bs : List Nat} {e a : Nat} (h : e ≤ a) : rOne bs e a = [] := by rw [rOne, dif_pos h]
theorem rOne_range {bs : List Nat} {e a : Nat} (h : a < e) (h1 : (rSelf bs e a).2 + 1 < e ∧ bs.getD (rSelf bs e a).2 0 = 45) : rOne bs e a = ((rSelf bs e a).1, (rSelf bs e ((rSelf bs e a).2 + 1)).1) :: rOne bs e (rSelf bs e ((rSelf bs e a).2 + 1)).2 := by rw [rOne, dif_neg (Nat.not_le.mpr h), if_pos h1]
theorem rOne_single {bs : List Nat} {e a : Nat} (h : a < e) (h1 : ¬ ((rSelf bs e a).2 + 1 < e ∧ bs.getD (rSelf bs e a).2 0 = 45)) : rOne bs e a = ((rSelf bs e a).1, (rSelf bs e a).1) :: rOne bs e (rSelf bs e a).2 := by rw [rOne, dif_neg (Nat.not_le.mpr h), if_neg h1]
theorem rSelf_close {bs : List Nat} {n a : Nat} (h : a < n) (h93 : bs.getD a 0 ≠ 93) : rSelf bs (rClose bs n a) a = rSelf bs n a := by
  have e := rClose_step h h93
  have g1 := rClose_ge bs n n (rSelf bs n a).2 (by omega)
  have g2 := rSelf_le (bs := bs) h
  unfold rSelf at g1 g2 e ⊢
  by_cases hc : bs.getD a 0 = 92 ∧ a + 1 < n
  · rw [if_pos hc] at g1 g2 e
    simp only at g1 g2 e
    rw [if_pos hc, if_pos ⟨hc.1, by omega⟩]
  · rw [if_neg hc] at g1 g2 e
    simp only at g1 g2 e
    rw [if_neg hc, if_neg (fun z => hc ⟨z.1, by have := g1.2 g2; omega⟩)]
theorem rOne_rSet (bs : List Nat) (n : Nat) : ∀ (k a : Nat), n - a ≤ k → rOne bs (rClose bs n a) a = (rSet bs n a).1 ∧ (rSet bs n a).2 = rClose bs n a + 1 := by
  intro k
  induction k with
  | zero =>
    intro a h
    have hend : n ≤ a ∨ bs.getD a 0 = 93 := Or.inl (by omega)
    rw [rClose_end hend, rSet_end hend, rOne_end (Nat.le_refl _)]
    exact ⟨rfl, rfl⟩
  | succ k ih =>
    intro a h
    by_cases hend : n ≤ a ∨ bs.getD a 0 = 93
    · rw [rClose_end hend, rSet_end hend, rOne_end (Nat.le_refl _)]
      exact ⟨rfl, rfl⟩
    · have han : a < n := Nat.not_le.mp fun z => hend (Or.inl z)
      have h93 : bs.getD a 0 ≠ 93 := fun z => hend (Or.inr z)
      have g0 := rSelf_gt bs n a
      have g1 := rClose_ge bs n n (rSelf bs n a).2 (by omega)
      have e0 := rClose_step han h93
      have es := rSelf_close han h93
      have g2 := rSelf_le (bs := bs) han
      have hae : a < rClose bs n a := by rw [e0]; omega
      rw [rSet_step han h93]
      by_cases hc : (rSelf bs n a).2 + 1 < n ∧ bs.getD (rSelf bs n a).2 0 = 45 ∧ bs.getD ((rSelf bs n a).2 + 1) 0 ≠ 93
      · have hst : rStep bs n a = ((rSelf bs n a).1, (rSelf bs n ((rSelf bs n a).2 + 1)).1, (rSelf bs n ((rSelf bs n a).2 + 1)).2) := if_pos hc
        have e1 : rClose bs n (rSelf bs n a).2 = rClose bs n ((rSelf bs n a).2 + 1) := by
          rw [rClose_step (by omega) (by rw [hc.2.1]; decide)]
          congr 1
          unfold rSelf
          have : ¬ (bs.getD (if bs.getD a 0 = 92 ∧ a + 1 < n then (bs.getD (a + 1) 0, a + 2) else (bs.getD a 0, a + 1)).2 0 = 92 ∧ (if bs.getD a 0 = 92 ∧ a + 1 < n then (bs.getD (a + 1) 0, a + 2) else (bs.getD a 0, a + 1)).2 + 1 < n) := fun z => by
            have := hc.2.1
            unfold rSelf at this
            omega
          rw [if_neg this]
        have es2 := rSelf_close hc.1 hc.2.2
        rw [← e1, ← e0] at es2
        have e2 := rClose_step hc.1 hc.2.2
        rw [← e1, ← e0] at e2
        have g3 := rSelf_gt bs n ((rSelf bs n a).2 + 1)
        have g4 := rClose_ge bs n n (rSelf bs n ((rSelf bs n a).2 + 1)).2 (by omega)
        rw [hst]
        rw [rOne_range hae (by rw [es]; exact ⟨by rw [e2]; omega, hc.2.1⟩), es, es2]
        obtain ⟨i1, i2⟩ := ih (rSelf bs n ((rSelf bs n a).2 + 1)).2 (by omega)
        rw [← e2] at i1 i2
        exact ⟨by rw [i1], i2⟩
      · have hst : rStep bs n a = ((rSelf bs n a).1, (rSelf bs n a).1, (rSelf bs n a).2) := if_neg hc
        have hno : ¬ ((rSelf bs n a).2 + 1 < rClose bs n a ∧ bs.getD (rSelf bs n a).2 0 = 45) := fun z => by
          have h45 := z.2
          have hlt : (rSelf bs n a).2 < n := by
            have := g1.2 g2
            have := z.1
            rw [e0] at this
            omega
          have e1 : rClose bs n (rSelf bs n a).2 = rClose bs n ((rSelf bs n a).2 + 1) := by
            rw [rClose_step hlt (by rw [h45]; decide)]
            congr 1
            generalize (rSelf bs n a).2 = a1 at *
            unfold rSelf
            rw [if_neg (fun z => by omega)]
          apply hc
          have hz := z.1
          rw [e0, e1] at hz
          by_cases hq : n ≤ (rSelf bs n a).2 + 1 ∨ bs.getD ((rSelf bs n a).2 + 1) 0 = 93
          · rw [rClose_end hq] at hz
            omega
          · exact ⟨Nat.not_le.mp fun y => hq (Or.inl y), h45, fun y => hq (Or.inr y)⟩
        rw [hst, rOne_single hae (by rw [es]; exact hno), es]
        obtain ⟨i1, i2⟩ := ih (rSelf bs n a).2 (by omega)
        rw [← e0] at i1 i2
        exact ⟨by rw [i1], i2⟩
/-- bytes bs, n of them, lie in the row f from place b on -/
def PatIn (f : Nat → Int32) (b n : Nat) (bs : List Nat) : Prop := ∀ i, i < n → bs.getD i 0 < 256 ∧ f (b + i) = sb_b (bs.getD i 0)
