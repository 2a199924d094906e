/-- the room of a row behind k bytes more -/
def zCapN (lim : Nat) : Nat → Nat → Nat → Nat
  | n, _, 0 => n
  | n, sz, k + 1 => zCap lim (zCapN lim n sz k) (sz + k)
theorem zCapN_mono {lim n sz : Nat} : ∀ {k : Nat}, sz + k ≤ zCapN lim n sz k → zCapN lim n sz k ≤ zCapN lim n sz (k + 1) := fun h => zCap_ge h
theorem zApp_lt {lim v : Nat} {bs : List Nat} (h : bs.length < lim) : zApp lim bs v = bs ++ [v] := if_pos h
theorem zTake_snoc {bs os : List Nat} {i : Nat} (h : i < os.length) : (bs ++ os.take i) ++ [os.getD i 0] = bs ++ os.take (i + 1) := by
  rw [List.append_assoc, zgetD h, List.take_succ_eq_append_getElem h]
theorem zLen_take {bs os : List Nat} {i : Nat} (h : i ≤ os.length) : (bs ++ os.take i).length = bs.length + i := by
  rw [List.length_append, List.length_take]; omega
theorem zCapN_ge {lim n sz : Nat} (hn : n ≤ lim) (hs : sz ≤ n) : ∀ k, sz + k ≤ lim → n ≤ lim → (0 < n) → sz + k ≤ zCapN lim n sz k ∧ n ≤ zCapN lim n sz k ∧ zCapN lim n sz k ≤ lim := by
  intro k
  induction k with
  | zero => intro _ _ _; exact ⟨hs, Nat.le_refl _, hn⟩
  | succ k ih =>
    intro h1 h2 h3
    obtain ⟨g1, g2, g3⟩ := ih (by omega) h2 h3
    have e : zCapN lim n sz (k + 1) = zCap lim (zCapN lim n sz k) (sz + k) := rfl
    rw [e]
    refine ⟨?_, Nat.le_trans g2 (zCap_ge g1), zCap_le g3⟩
    unfold zCap
    split
    · omega
    · split
      · omega
      · omega
