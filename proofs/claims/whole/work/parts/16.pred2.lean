theorem zgetD {bs : List Nat} {i : Nat} (h : i < bs.length) : bs.getD i 0 = bs[i] := by
  rw [List.getD_eq_getElem?_getD, List.getElem?_eq_getElem h]; rfl
/-- the first byte 0 -/
def zAt (bs : List Nat) : Option Nat := bs.findIdx? (fun b => b == 0)
def zI (o : Option Nat) : Int32 := match o with
  | some k => nI k
  | none => -1
theorem zAt_some {bs : List Nat} {i : Nat} (hi : i < bs.length) (h0 : bs.getD i 0 = 0) (h : ∀ j, j < i → bs.getD j 0 ≠ 0) : zAt bs = some i := by
  unfold zAt
  rw [List.findIdx?_eq_some_iff_getElem]
  refine ⟨hi, ?_, fun j hj => ?_⟩
  · rw [zgetD hi] at h0
    simp [h0]
  · have h1 := h j hj
    rw [zgetD (by omega)] at h1
    simp [h1]
theorem zAt_none {bs : List Nat} (h : ∀ j, j < bs.length → bs.getD j 0 ≠ 0) : zAt bs = none := by
  unfold zAt
  rw [List.findIdx?_eq_none_iff]
  intro x hx
  obtain ⟨j, hj, rfl⟩ := List.mem_iff_getElem.mp hx
  have h1 := h j hj
  rw [zgetD hj] at h1
  simp [h1]
abbrev wB (kA : Nat → ClassId) (a r lim n : Nat) (f : Nat → Int32) (bs : List Nat) : va_W := [(a, .inr (0, [.int (nI lim), .ref r, .int (nI bs.length)])), (r, .inl (kA 0, n, .inl f))]
/-- a row of bytes, behind a method: its limit, its room, what it holds; its own row somewhere -/
def BsPost (D : va_G) (kA : Nat → ClassId) (A : Nat → Prop) (H : Heap) (a lim n : Nat) (bs : List Nat) : Prop := ∃ (r : Nat) (f : Nat → Int32), va_P D classes (wB kA a r lim n f bs) H ∧ va_D A (wB kA a r lim n f bs) ∧ zBs lim n f bs
theorem zBs_nil {lim n : Nat} {f : Nat → Int32} {bs : List Nat} (h : zBs lim n f bs) : zBs lim n f [] := ⟨Nat.zero_le _, h.2.1, h.2.2.1, h.2.2.2.1, fun i hi => absurd hi (Nat.not_lt_zero i)⟩
theorem zBs_take {lim n k : Nat} {f : Nat → Int32} {bs : List Nat} (h : zBs lim n f bs) : zBs lim n f (bs.take k) := by
  obtain ⟨h1, h2, h3, h4, h5⟩ := h
  have hl : (bs.take k).length ≤ bs.length := by rw [List.length_take]; omega
  refine ⟨by omega, h2, h3, h4, fun i hi => ?_⟩
  have e : (bs.take k).getD i 0 = bs.getD i 0 := by
    rw [List.length_take] at hi
    rw [List.getD_eq_getElem?_getD, List.getD_eq_getElem?_getD, List.getElem?_take, if_pos (by omega)]
  rw [e]
  exact h5 i (by omega)
theorem zBs_drop {lim n k : Nat} {f g : Nat → Int32} {bs : List Nat} (h : zBs lim n f bs) (hg : ∀ i, i < bs.length - k → g i = f (k + i)) : zBs lim n g (bs.drop k) := by
  obtain ⟨h1, h2, h3, h4, h5⟩ := h
  refine ⟨by rw [List.length_drop]; omega, h2, h3, h4, fun i hi => ?_⟩
  rw [List.length_drop] at hi
  have e : (bs.drop k).getD i 0 = bs.getD (k + i) 0 := by
    rw [List.getD_eq_getElem?_getD, List.getD_eq_getElem?_getD, List.getElem?_drop]
  rw [e, hg i hi]
  exact h5 (k + i) (by omega)
theorem zBs_snoc {lim n v : Nat} {f : Nat → Int32} {bs : List Nat} (h : zBs lim n f bs) (hr : bs.length < n) (hv : v < 256) : zBs lim n (upd f bs.length (sb_b v)) (bs ++ [v]) := by
  obtain ⟨h1, h2, h3, h4, h5⟩ := h
  refine ⟨by rw [List.length_append]; simp; omega, h2, h3, h4, fun i hi => ?_⟩
  rw [List.length_append] at hi
  simp only [List.length_cons, List.length_nil] at hi
  by_cases hc : i = bs.length
  · subst hc
    rw [pk_us, List.getD_eq_getElem?_getD, List.getElem?_append_right (Nat.le_refl _), Nat.sub_self]
    exact ⟨hv, rfl⟩
  · rw [pk_un hc, List.getD_eq_getElem?_getD, List.getElem?_append_left (by omega), ← List.getD_eq_getElem?_getD]
    exact h5 i (by omega)
theorem zBs_grow {lim n n' : Nat} {f g : Nat → Int32} {bs : List Nat} (h : zBs lim n f bs) (hn : n ≤ n') (hl : n' ≤ lim) (ho : zOk lim n') (hg : ∀ i, i < n → g i = f i) : zBs lim n' g bs := by
  obtain ⟨h1, h2, h3, h4, h5⟩ := h
  refine ⟨by omega, hl, by omega, ⟨h4.1, ho⟩, fun i hi => ?_⟩
  rw [hg i (by omega)]
  exact h5 i hi
