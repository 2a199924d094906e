/-! What fits what, by places: a text is t, its bytes from p to e; items i .. i + n - 1, a star (none) or a set of ranges -/
abbrev pItem : Type := Option (List (Nat × Nat))
def pIn (S : List (Nat × Nat)) (v : Nat) : Bool := S.any (fun q => decide (q.1 ≤ v) && decide (v ≤ q.2))
def pF (t : Nat → Nat) (it : Nat → pItem) : Nat → Nat → Nat → Nat → Prop
  | 0, _, p, e => p = e
  | n + 1, i, p, e => match it i with
    | none => ∃ k, p ≤ k ∧ k ≤ e ∧ pF t it n (i + 1) k e
    | some S => p < e ∧ pIn S (t p) = true ∧ pF t it n (i + 1) (p + 1) e
def pRun (t : Nat → Nat) (it : Nat → pItem) (i a p : Nat) : Prop := ∀ j, j < a → ∃ S, it (i + j) = some S ∧ pIn S (t (p + j)) = true
def pG (t : Nat → Nat) (it : Nat → pItem) (n i p e : Nat) : Prop := ∃ k, p ≤ k ∧ k ≤ e ∧ pF t it n i k e
def pLeast (t : Nat → Nat) (it : Nat → pItem) (n i p to : Nat) (r : Option Nat) : Prop := match r with
  | some e => e ≤ to ∧ pG t it n i p e ∧ ∀ e', pG t it n i p e' → e ≤ e'
  | none => ∀ e, e ≤ to → ¬ pG t it n i p e
def pPlace (t : Nat → Nat) (it : Nat → pItem) (i a p to : Nat) (r : Option Nat) : Prop := match r with
  | some k => p ≤ k ∧ k + a ≤ to ∧ pRun t it i a k ∧ ∀ k', p ≤ k' → k' + a ≤ to → pRun t it i a k' → k ≤ k'
  | none => ∀ k, p ≤ k → k + a ≤ to → ¬ pRun t it i a k
section
variable {t : Nat → Nat} {it : Nat → pItem}
theorem pF_star {n i p e : Nat} (h : it i = none) : pF t it (n + 1) i p e ↔ ∃ k, p ≤ k ∧ k ≤ e ∧ pF t it n (i + 1) k e := by
  simp only [pF, h]
theorem pF_set {n i p e : Nat} {S : List (Nat × Nat)} (h : it i = some S) : pF t it (n + 1) i p e ↔ p < e ∧ pIn S (t p) = true ∧ pF t it n (i + 1) (p + 1) e := by
  simp only [pF, h]
theorem pF_le : ∀ (n i p e : Nat), pF t it n i p e → p ≤ e := by
  intro n
  induction n with
  | zero => intro i p e h; exact Nat.le_of_eq h
  | succ n ih =>
    intro i p e h
    cases hi : it i with
    | none =>
      obtain ⟨k, h1, h2, -⟩ := (pF_star hi).mp h
      omega
    | some S =>
      obtain ⟨h1, -⟩ := (pF_set hi).mp h
      omega
theorem pRun_0 {i p : Nat} : pRun t it i 0 p := fun j hj => absurd hj (Nat.not_lt_zero j)
theorem pF_run : ∀ (a n i p e : Nat), (∀ j, j < a → it (i + j) ≠ none) → (pF t it (a + n) i p e ↔ pRun t it i a p ∧ pF t it n (i + a) (p + a) e) := by
  intro a
  induction a with
  | zero =>
    intro n i p e _
    rw [Nat.zero_add, Nat.add_zero, Nat.add_zero]
    exact ⟨fun h => ⟨pRun_0, h⟩, fun h => h.2⟩
  | succ a ih =>
    intro n i p e h
    cases hi : it i with
    | none => exact absurd hi (h 0 (Nat.succ_pos a))
    | some S =>
      rw [show a + 1 + n = (a + n) + 1 by omega, pF_set hi, ih n (i + 1) (p + 1) e (fun j hj => by rw [show i + 1 + j = i + (j + 1) by omega]; exact h (j + 1) (by omega)), show i + (a + 1) = i + 1 + a by omega, show p + (a + 1) = p + 1 + a by omega]
      constructor
      · rintro ⟨h1, h2, h3, h4⟩
        refine ⟨fun j hj => ?_, h4⟩
        cases j with
        | zero => exact ⟨S, hi, h2⟩
        | succ j =>
          obtain ⟨S', h5, h6⟩ := h3 j (by omega)
          exact ⟨S', by rw [show i + (j + 1) = i + 1 + j by omega]; exact h5, by rw [show p + (j + 1) = p + 1 + j by omega]; exact h6⟩
      · rintro ⟨h1, h4⟩
        have h5 := pF_le _ _ _ _ h4
        obtain ⟨S', h6, h7⟩ := h1 0 (by omega)
        rw [Nat.add_zero] at h6 h7
        rw [hi] at h6
        cases h6
        refine ⟨by omega, h7, fun j hj => ?_, h4⟩
        obtain ⟨S', h8, h9⟩ := h1 (j + 1) (by omega)
        exact ⟨S', by rw [show i + 1 + j = i + (j + 1) by omega]; exact h8, by rw [show p + 1 + j = p + (j + 1) by omega]; exact h9⟩
theorem pG_mono {n i p q e : Nat} (hq : q ≤ p) (h : pG t it n i p e) : pG t it n i q e := by
  obtain ⟨k, h1, h2, h3⟩ := h
  exact ⟨k, by omega, h2, h3⟩
theorem pG_step {a n i p to k e : Nat} (hr : ∀ j, j < a → it (i + j) ≠ none) (hs : it (i + a) = none) (hp : pPlace t it i a p to (some k)) : pG t it (a + (n + 1)) i p e ↔ pG t it n (i + a + 1) (k + a) e := by
  obtain ⟨h1, h2, h3, h4⟩ := hp
  constructor
  · rintro ⟨q, g1, g2, g3⟩
    rw [pF_run a (n + 1) i q e hr, pF_star hs] at g3
    obtain ⟨g4, z, g5, g6, g7⟩ := g3
    have hk : k ≤ q := by
      by_cases hc : q + a ≤ to
      · exact h4 q g1 hc g4
      · omega
    exact ⟨z, by omega, g6, g7⟩
  · rintro ⟨z, g1, g2, g3⟩
    refine ⟨k, h1, by omega, ?_⟩
    rw [pF_run a (n + 1) i k e hr, pF_star hs]
    exact ⟨h3, z, g1, g2, g3⟩
theorem pLeast_step {a n i p to k : Nat} {r : Option Nat} (hr : ∀ j, j < a → it (i + j) ≠ none) (hs : it (i + a) = none) (hp : pPlace t it i a p to (some k)) (h : pLeast t it n (i + a + 1) (k + a) to r) : pLeast t it (a + (n + 1)) i p to r := by
  cases r with
  | none => exact fun e he hg => h e he ((pG_step hr hs hp).mp hg)
  | some e => exact ⟨h.1, (pG_step hr hs hp).mpr h.2.1, fun e' hg => h.2.2 e' ((pG_step hr hs hp).mp hg)⟩
theorem pLeast_no {a n i p to : Nat} (hr : ∀ j, j < a → it (i + j) ≠ none) (hp : pPlace t it i a p to none) : pLeast t it (a + n) i p to none := by
  rintro e he ⟨q, g1, g2, g3⟩
  rw [pF_run a n i q e hr] at g3
  have := pF_le _ _ _ _ g3.2
  exact hp q g1 (by omega) g3.1
theorem pLeast_run {a i p to k : Nat} (hr : ∀ j, j < a → it (i + j) ≠ none) (hp : pPlace t it i a p to (some k)) : pLeast t it a i p to (some (k + a)) := by
  obtain ⟨h1, h2, h3, h4⟩ := hp
  have key : ∀ q e, pF t it a i q e ↔ pRun t it i a q ∧ q + a = e := by
    intro q e
    have := pF_run (t := t) (it := it) a 0 i q e hr
    rw [Nat.add_zero] at this
    rw [this]
    exact Iff.rfl
  refine ⟨h2, ⟨k, h1, by omega, (key k _).mpr ⟨h3, rfl⟩⟩, ?_⟩
  rintro e' ⟨q, g1, g2, g3⟩
  obtain ⟨g4, g5⟩ := (key q e').mp g3
  by_cases hc : q + a ≤ to
  · have := h4 q g1 hc g4
    omega
  · omega
theorem pLeast_0 {i p to : Nat} (h : p ≤ to) : pLeast t it 0 i p to (some p) := by
  refine ⟨h, ⟨p, Nat.le_refl p, Nat.le_refl p, rfl⟩, ?_⟩
  rintro e' ⟨q, g1, g2, -⟩
  omega
theorem pF_tail : ∀ (n a i p e : Nat), (∀ j, j < a → it (i + n + j) ≠ none) → (pF t it (n + a) i p e ↔ a ≤ e ∧ pF t it n i p (e - a) ∧ pRun t it (i + n) a (e - a)) := by
  intro n
  induction n with
  | zero =>
    intro a i p e h
    have h0 := pF_run (t := t) (it := it) a 0 i p e (fun j hj => by have := h j hj; rwa [Nat.add_zero] at this)
    rw [Nat.add_zero] at h0
    rw [Nat.zero_add, Nat.add_zero, h0]
    constructor
    · rintro ⟨h1, h2⟩
      have h2 : p + a = e := h2
      have h3 : p = e - a := by omega
      exact ⟨by omega, h3, by rw [← h3]; exact h1⟩
    · rintro ⟨h1, h2, h3⟩
      have h2 : p = e - a := h2
      refine ⟨by rw [h2]; exact h3, ?_⟩
      show p + a = e
      omega
  | succ n ih =>
    intro a i p e h
    have h' : ∀ j, j < a → it (i + 1 + n + j) ≠ none := fun j hj => by rw [show i + 1 + n + j = i + (n + 1) + j by omega]; exact h j hj
    rw [show n + 1 + a = (n + a) + 1 by omega, show i + (n + 1) = i + 1 + n by omega]
    cases hi : it i with
    | none =>
      rw [pF_star hi, pF_star hi]
      constructor
      · rintro ⟨k, h1, h2, h3⟩
        obtain ⟨g1, g2, g3⟩ := (ih a (i + 1) k e h').mp h3
        exact ⟨g1, ⟨k, h1, pF_le _ _ _ _ g2, g2⟩, g3⟩
      · rintro ⟨g1, ⟨k, h1, h2, h3⟩, g3⟩
        exact ⟨k, h1, by omega, (ih a (i + 1) k e h').mpr ⟨g1, h3, g3⟩⟩
    | some S =>
      rw [pF_set hi, pF_set hi]
      constructor
      · rintro ⟨h1, h2, h3⟩
        obtain ⟨g1, g2, g3⟩ := (ih a (i + 1) (p + 1) e h').mp h3
        have := pF_le _ _ _ _ g2
        exact ⟨g1, ⟨by omega, h2, g2⟩, g3⟩
      · rintro ⟨g1, ⟨h1, h2, h3⟩, g3⟩
        exact ⟨by omega, h2, (ih a (i + 1) (p + 1) e h').mpr ⟨g1, h3, g3⟩⟩
theorem pF_last : ∀ (n i p e : Nat), it (i + n) = none → (pF t it (n + 1) i p e ↔ ∃ e', e' ≤ e ∧ pF t it n i p e') := by
  intro n
  induction n with
  | zero =>
    intro i p e h
    rw [pF_star (by rw [Nat.add_zero] at h; exact h)]
    constructor
    · rintro ⟨k, h1, h2, h3⟩
      exact ⟨p, by omega, rfl⟩
    · rintro ⟨e', h1, h2⟩
      have h2 : p = e' := h2
      exact ⟨e, by omega, Nat.le_refl e, rfl⟩
  | succ n ih =>
    intro i p e h
    have h' : it (i + 1 + n) = none := by rw [show i + 1 + n = i + (n + 1) by omega]; exact h
    cases hi : it i with
    | none =>
      rw [pF_star hi]
      constructor
      · rintro ⟨k, h1, h2, h3⟩
        obtain ⟨e', g1, g2⟩ := (ih (i + 1) k e h').mp h3
        exact ⟨e', g1, (pF_star hi).mpr ⟨k, h1, pF_le _ _ _ _ g2, g2⟩⟩
      · rintro ⟨e', g1, g2⟩
        obtain ⟨k, h1, h2, h3⟩ := (pF_star hi).mp g2
        exact ⟨k, h1, by omega, (ih (i + 1) k e h').mpr ⟨e', g1, h3⟩⟩
    | some S =>
      rw [pF_set hi]
      constructor
      · rintro ⟨h1, h2, h3⟩
        obtain ⟨e', g1, g2⟩ := (ih (i + 1) (p + 1) e h').mp h3
        have := pF_le _ _ _ _ g2
        exact ⟨e', g1, (pF_set hi).mpr ⟨by omega, h2, g2⟩⟩
      · rintro ⟨e', g1, g2⟩
        obtain ⟨h1, h2, h3⟩ := (pF_set hi).mp g2
        exact ⟨by omega, h2, (ih (i + 1) (p + 1) e h').mpr ⟨e', g1, h3⟩⟩
/-- a whole text: the run ahead of the first star, the run behind the last one, and between them the earliest places -/
theorem pF_whole {h tl cnt sz : Nat} (h1 : h < tl) (h2 : tl ≤ cnt) (hh : ∀ j, j < h → it j ≠ none) (hs : it h = none) (ht : it (tl - 1) = none) (hl : ∀ j, tl ≤ j → j < cnt → it j ≠ none) :
    pF t it cnt 0 0 sz ↔ cnt - tl ≤ sz ∧ h ≤ sz - (cnt - tl) ∧ pRun t it 0 h 0 ∧ pRun t it tl (cnt - tl) (sz - (cnt - tl)) ∧ ∃ e, e ≤ sz - (cnt - tl) ∧ pG t it (tl - h) h h e := by
  have e1 := pF_run (t := t) (it := it) h ((tl - h) + (cnt - tl)) 0 0 sz (fun j hj => by rw [Nat.zero_add]; exact hh j hj)
  rw [show h + ((tl - h) + (cnt - tl)) = cnt by omega, Nat.zero_add] at e1
  have e2 := pF_tail (t := t) (it := it) (tl - h) (cnt - tl) h h sz (fun j hj => by rw [show h + (tl - h) + j = tl + j by omega]; exact hl _ (by omega) (by omega))
  rw [show h + (tl - h) = tl by omega] at e2
  rw [e1, e2]
  obtain ⟨k, hk⟩ : ∃ k, tl - h = k + 1 := ⟨tl - h - 1, by omega⟩
  have hlast : it (h + k) = none := by rw [show h + k = tl - 1 by omega]; exact ht
  constructor
  · rintro ⟨g1, g2, g3, g4⟩
    exact ⟨g2, pF_le _ _ _ _ g3, g1, g4, _, Nat.le_refl _, h, Nat.le_refl h, pF_le _ _ _ _ g3, g3⟩
  · rintro ⟨g2, g5, g1, g4, e, g6, q, g7, g8, g9⟩
    refine ⟨g1, g2, ?_, g4⟩
    rw [hk] at g9 ⊢
    obtain ⟨k2, z1, z2, z3⟩ := (pF_star hs).mp g9
    obtain ⟨e', y1, y2⟩ := (pF_last k h h e hlast).mp ((pF_star hs).mpr ⟨k2, by omega, z2, z3⟩)
    exact (pF_last k h h _ hlast).mpr ⟨e', by omega, y2⟩
end
