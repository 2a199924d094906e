/-! a pattern's reading asks for no byte behind its end -/
theorem rSelf_cong {bs cs : List Nat} {n a : Nat} (h : ∀ i, i < n → bs.getD i 0 = cs.getD i 0) (ha : a < n) : rSelf bs n a = rSelf cs n a := by
  unfold rSelf
  rw [h a ha]
  by_cases h1 : a + 1 < n
  · rw [h (a + 1) h1]
  · rw [if_neg (fun z => h1 z.2), if_neg (fun z => h1 z.2)]
theorem rStep_cong {bs cs : List Nat} {n a : Nat} (h : ∀ i, i < n → bs.getD i 0 = cs.getD i 0) (ha : a < n) : rStep bs n a = rStep cs n a := by
  unfold rStep
  rw [rSelf_cong h ha]
  by_cases h1 : (rSelf cs n a).2 + 1 < n
  · rw [h _ (Nat.lt_of_succ_lt h1), h _ h1, rSelf_cong h h1]
  · rw [if_neg (fun z => h1 z.1), if_neg (fun z => h1 z.1)]
theorem rSet_cong {bs cs : List Nat} {n : Nat} (h : ∀ i, i < n → bs.getD i 0 = cs.getD i 0) : ∀ (k a : Nat), n - a ≤ k → rSet bs n a = rSet cs n a := by
  intro k
  induction k with
  | zero =>
    intro a hk
    rw [rSet_end (Or.inl (by omega)), rSet_end (Or.inl (by omega))]
  | succ k ih =>
    intro a hk
    by_cases h1 : n ≤ a
    · rw [rSet_end (Or.inl h1), rSet_end (Or.inl h1)]
    · by_cases h2 : bs.getD a 0 = 93
      · rw [rSet_end (Or.inr h2), rSet_end (Or.inr (by rw [← h a (by omega)]; exact h2))]
      · have h3 := rStep_gt cs n a
        rw [rSet_step (bs := bs) (a := a) (by omega) h2, rSet_step (bs := cs) (a := a) (by omega) (by rw [← h a (by omega)]; exact h2), rStep_cong h (by omega), ih _ (by omega)]
theorem rItem_cong {bs cs : List Nat} {n a : Nat} (h : ∀ i, i < n → bs.getD i 0 = cs.getD i 0) (ha : a < n) : rItem bs n a = rItem cs n a := by
  unfold rItem
  rw [h a ha, rSet_cong h n (a + 1) (by omega), rSelf_cong h ha]
theorem rItems_cong {bs cs : List Nat} {n : Nat} (h : ∀ i, i < n → bs.getD i 0 = cs.getD i 0) : ∀ (k a : Nat), n - a ≤ k → rItems bs n a = rItems cs n a := by
  intro k
  induction k with
  | zero =>
    intro a hk
    rw [rItems_end (by omega), rItems_end (by omega)]
  | succ k ih =>
    intro a hk
    by_cases h1 : n ≤ a
    · rw [rItems_end h1, rItems_end h1]
    · have h3 := rItem_gt cs n a
      rw [rItems_step (bs := bs) (a := a) (by omega), rItems_step (bs := cs) (a := a) (by omega), rItem_cong h (by omega), ih _ (by omega)]
theorem rItems_take {bs : List Nat} {z : Nat} (h : z ≤ bs.length) : rItems bs z 0 = zIts (bs.take z) := by
  have e : (bs.take z).length = z := by rw [List.length_take]; omega
  show _ = rItems (bs.take z) (bs.take z).length 0
  rw [e]
  exact rItems_cong (fun i hi => (zTakeG hi).symm) z 0 (by omega)
theorem pLeast_eq {t : Nat → Nat} {it : Nat → pItem} {n i p to : Nat} {a b : Option Nat} (ha : pLeast t it n i p to a) (hb : pLeast t it n i p to b) : a = b := by
  cases a with
  | none => cases b with
    | none => rfl
    | some e => exact absurd hb.2.1 (ha e hb.1)
  | some d => cases b with
    | none => exact absurd ha.2.1 (hb d ha.1)
    | some e => rw [Nat.le_antisymm (ha.2.2 e hb.2.1) (hb.2.2 d ha.2.1)]
theorem zC_cong {ad ad' : Nat → Nat} {mq : List (Nat × Nat)} (h : ∀ q ∈ mq, ad q.2 = ad' q.2) : zC ad mq = zC ad' mq := by
  unfold zC
  refine List.map_congr_left (fun q hq => ?_)
  rw [h q (qs_mem.mp hq)]
theorem zQok_snoc {rs : List zRule} {ρ : zRule} {mq : List (Nat × Nat)} (h : zQok rs mq) : zQok (rs ++ [ρ]) mq := ⟨h.1, fun q hq => ⟨by rw [List.length_append]; have := (h.2 q hq).1; omega, (h.2 q hq).2⟩⟩
/-! the pool: cells that no world holds -/
theorem zk_poolA {ws wc : va_W} {sz q : Nat} (isC : List Nat) (hC : isC.map (fun i => ws[i]?) = wc.map some) (h : va_A wc sz q) : va_A ws sz q := by
  rcases h with ⟨k, e, h⟩ | h
  · have h1 : (isC.map (fun i => ws[i]?))[k]? = some (some (q, e)) := by rw [hC, List.getElem?_map, h]; rfl
    rw [List.getElem?_map] at h1
    cases hi : isC[k]? with
    | none => rw [hi] at h1; cases h1
    | some i =>
      rw [hi] at h1
      exact Or.inl ⟨i, e, Option.some.inj h1⟩
  · exact Or.inr h
theorem zk_poolB {ws wc wr w1 : va_W} {H H1 : Heap} {q : Nat} (isC isR : List Nat) (hC : isC.map (fun i => ws[i]?) = wc.map some) (hR : isR.map (fun i => ws[i]?) = wr.map some) (hz : H.size ≤ H1.size) (hD1 : va_D (va_A wc H.size) w1) (h : va_A (wr ++ w1) H1.size q) : va_A ws H.size q := by
  rcases h with ⟨k, e, h⟩ | h
  · rw [List.getElem?_append] at h
    split at h
    · exact zk_poolA isR hR (Or.inl ⟨k, e, h⟩)
    · exact zk_poolA isC hC (hD1.2 _ _ h)
  · exact Or.inr (Nat.le_trans hz h)
theorem zMq_push {rs : List zRule} {t B : Nat} {mq : List (Nat × Nat)} {st : Nat} {ln : List Nat} (hr : zRok rs) (h : ∀ q ∈ mq, q.1 ≤ B) (ht : t + 1000 ≤ B) : ∀ q ∈ zPush rs t mq (zFirst rs st ln), q.1 ≤ B := by
  cases hf : zFirst rs st ln with
  | none => exact h
  | some i =>
    have hi := zFirst_lt hf
    show ∀ q ∈ (if mq.length < 64 then mq ++ [(t + (rs.getD i zR0).2.2.2.1, i)] else mq), q.1 ≤ B
    split
    · intro q hq
      rcases List.mem_append.mp hq with h1 | h1
      · exact h q h1
      · rw [List.mem_singleton.mp h1]
        have := (hr i hi).2.1
        show t + (rs.getD i zR0).2.2.2.1 ≤ B
        omega
    · exact h
theorem zGv_inv {rs : List zRule} {t B : Nat} (hr : zRok rs) (ht : t < 2 ^ 30) (htB : t + 1000 ≤ B) : ∀ (l : List Nat) (u : zGs), zQok rs u.2.2.2 ∧ (∀ q ∈ u.2.2.2, q.1 ≤ B) ∧ u.2.2.1 ≤ 31 → zQok rs (zGv rs t l u).2.2.2 ∧ (∀ q ∈ (zGv rs t l u).2.2.2, q.1 ≤ B) ∧ (zGv rs t l u).2.2.1 ≤ 31
  | [], u, h => h
  | v :: l, u, h => by
    refine zGv_inv hr ht htB l (zG1 rs t v u) ?_
    unfold zG1
    by_cases hv : v = 10
    · rw [if_pos hv]
      exact ⟨zQok_push hr h.1 ht, zMq_push hr h.2.1 htB, zNext_le hr (Nat.le_refl _) h.2.2⟩
    · rw [if_neg hv]
      exact h
