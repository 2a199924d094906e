theorem zCapN_upto {lim n sz : Nat} (hn : n ≤ lim) (hs : sz ≤ n) (h0 : 0 < n) : ∀ (j i : Nat), i ≤ j → sz + j ≤ lim → zCapN lim n sz i ≤ zCapN lim n sz j := by
  intro j
  induction j with
  | zero => intro i hi _; rw [show i = 0 by omega]; exact Nat.le_refl _
  | succ j ih =>
    intro i hi hl
    by_cases h : i = j + 1
    · rw [h]; exact Nat.le_refl _
    · exact Nat.le_trans (ih i (by omega) (by omega)) (zCapN_mono (zCapN_ge hn hs j (by omega) hn h0).1)
