/-! the document's terms: rules, the first that fits, what is to come -/
abbrev zRule : Type := Nat × List Nat × List Nat × Nat × Nat
def zR0 : zRule := (0, [], [], 0, 0)
abbrev zIts (pat : List Nat) : List pItem := rItems pat pat.length 0
def zFits (pat ln : List Nat) : Prop := pF (zT ln) (zIt (zIts pat)) (zIts pat).length 0 0 ln.length
noncomputable def zHit (st : Nat) (ln : List Nat) (ρ : zRule) : Bool := @decide (ρ.1 = st ∧ zFits ρ.2.1 ln) (Classical.propDecidable _)
noncomputable def zFirst (rs : List zRule) (st : Nat) (ln : List Nat) : Option Nat := rs.findIdx? (zHit st ln)
theorem zHit_t {st : Nat} {ln : List Nat} {ρ : zRule} (h : ρ.1 = st ∧ zFits ρ.2.1 ln) : zHit st ln ρ = true := @decide_eq_true _ (Classical.propDecidable _) h
theorem zHit_f {st : Nat} {ln : List Nat} {ρ : zRule} (h : ¬ (ρ.1 = st ∧ zFits ρ.2.1 ln)) : zHit st ln ρ = false := @decide_eq_false _ (Classical.propDecidable _) h
theorem zgetR {rs : List zRule} {i : Nat} (h : i < rs.length) : rs.getD i zR0 = rs[i] := by
  rw [List.getD_eq_getElem?_getD, List.getElem?_eq_getElem h]; rfl
theorem zFirst_some {rs : List zRule} {st i : Nat} {ln : List Nat} (hi : i < rs.length) (h : (rs.getD i zR0).1 = st ∧ zFits (rs.getD i zR0).2.1 ln) (hn : ∀ j, j < i → ¬ ((rs.getD j zR0).1 = st ∧ zFits (rs.getD j zR0).2.1 ln)) : zFirst rs st ln = some i := by
  unfold zFirst
  rw [List.findIdx?_eq_some_iff_getElem]
  refine ⟨hi, ?_, fun j hj => ?_⟩
  · rw [zgetR hi] at h
    exact zHit_t h
  · have h1 := hn j hj
    rw [zgetR (by omega)] at h1
    rw [zHit_f h1]
    exact Bool.false_ne_true
theorem zFirst_none {rs : List zRule} {st : Nat} {ln : List Nat} (hn : ∀ j, j < rs.length → ¬ ((rs.getD j zR0).1 = st ∧ zFits (rs.getD j zR0).2.1 ln)) : zFirst rs st ln = none := by
  unfold zFirst
  rw [List.findIdx?_eq_none_iff]
  intro x hx
  obtain ⟨j, hj, rfl⟩ := List.mem_iff_getElem.mp hx
  have h1 := hn j hj
  rw [zgetR hj] at h1
  exact zHit_f h1
def zNext (rs : List zRule) (st : Nat) (o : Option Nat) : Nat := match o with
  | none => st
  | some i => (rs.getD i zR0).2.2.2.2
def zPush (rs : List zRule) (t : Nat) (mq : List (Nat × Nat)) (o : Option Nat) : List (Nat × Nat) := match o with
  | none => mq
  | some i => if mq.length < 64 then mq ++ [(t + (rs.getD i zR0).2.2.2.1, i)] else mq
def qIns (x : Nat × Nat) : List (Nat × Nat) → List (Nat × Nat)
  | [] => [x]
  | y :: l => if y.1 ≤ x.1 then y :: qIns x l else x :: y :: l
def qs (mq : List (Nat × Nat)) : List (Nat × Nat) := mq.foldl (fun acc x => qIns x acc) []
def qSorted : List (Nat × Nat) → Prop
  | [] => True
  | x :: l => (∀ y ∈ l, x.1 ≤ y.1) ∧ qSorted l
theorem qIns_mem {x z : Nat × Nat} : ∀ {l : List (Nat × Nat)}, z ∈ qIns x l ↔ z = x ∨ z ∈ l
  | [] => by simp [qIns]
  | y :: l => by
    unfold qIns
    split
    · rw [List.mem_cons, qIns_mem, List.mem_cons]
      constructor
      · rintro (h | h | h)
        · exact Or.inr (Or.inl h)
        · exact Or.inl h
        · exact Or.inr (Or.inr h)
      · rintro (h | h | h)
        · exact Or.inr (Or.inl h)
        · exact Or.inl h
        · exact Or.inr (Or.inr h)
    · rw [List.mem_cons]
theorem qIns_len {x : Nat × Nat} : ∀ {l : List (Nat × Nat)}, (qIns x l).length = l.length + 1
  | [] => rfl
  | y :: l => by
    unfold qIns
    split
    · rw [List.length_cons, qIns_len, List.length_cons]
    · rfl
theorem qIns_sorted {x : Nat × Nat} : ∀ {l : List (Nat × Nat)}, qSorted l → qSorted (qIns x l)
  | [], _ => ⟨fun y h => (by cases h), trivial⟩
  | y :: l, h => by
    unfold qIns
    split
    · rename_i hc
      refine ⟨fun z hz => ?_, qIns_sorted h.2⟩
      rcases qIns_mem.mp hz with h1 | h1
      · rw [h1]; exact hc
      · exact h.1 z h1
    · rename_i hc
      refine ⟨fun z hz => ?_, h⟩
      rcases List.mem_cons.mp hz with h1 | h1
      · rw [h1]; omega
      · have := h.1 z h1
        omega
theorem qs_snoc {mq : List (Nat × Nat)} {x : Nat × Nat} : qs (mq ++ [x]) = qIns x (qs mq) := by
  unfold qs
  rw [List.foldl_append]
  rfl
theorem qs_ind {P : List (Nat × Nat) → Prop} (h0 : P []) (hs : ∀ l x, P l → P (l ++ [x])) : ∀ (n : Nat) (l : List (Nat × Nat)), l.length = n → P l := by
  intro n
  induction n with
  | zero => intro l hl; rw [List.length_eq_zero_iff.mp hl]; exact h0
  | succ n ih =>
    intro l hl
    have hne : l ≠ [] := fun z => by rw [z] at hl; simp at hl
    rw [← List.dropLast_concat_getLast hne]
    exact hs _ _ (ih _ (by rw [List.length_dropLast]; omega))
theorem qs_sorted (mq : List (Nat × Nat)) : qSorted (qs mq) := qs_ind (P := fun l => qSorted (qs l)) trivial (fun l x h => by rw [qs_snoc]; exact qIns_sorted h) _ mq rfl
theorem qs_len (mq : List (Nat × Nat)) : (qs mq).length = mq.length := qs_ind (P := fun l => (qs l).length = l.length) rfl (fun l x h => by rw [qs_snoc, qIns_len, h, List.length_append]; rfl) _ mq rfl
theorem qs_mem {mq : List (Nat × Nat)} {z : Nat × Nat} : z ∈ qs mq ↔ z ∈ mq := qs_ind (P := fun l => z ∈ qs l ↔ z ∈ l) (by simp [qs]) (fun l x h => by
  rw [qs_snoc, qIns_mem, h, List.mem_append, List.mem_singleton]
  exact Or.comm) _ mq rfl
theorem qIns_take {x : Nat × Nat} : ∀ (l : List (Nat × Nat)) (p : Nat), qSorted l → p ≤ l.length → (∀ j, p ≤ j → j < l.length → x.1 < (l.getD j (0, 0)).1) → (p = 0 ∨ (l.getD (p - 1) (0, 0)).1 ≤ x.1) → qIns x l = l.take p ++ x :: l.drop p
  | [], p, _, hp, _, _ => by simp [qIns]
  | y :: l, 0, _, _, h1, _ => by
    have h2 : x.1 < y.1 := h1 0 (Nat.le_refl _) (Nat.succ_pos _)
    unfold qIns
    rw [if_neg (by omega)]
    rfl
  | y :: l, p + 1, hs, hp, h1, h2 => by
    have hp' : p ≤ l.length := by simpa using hp
    have h3 : ((y :: l).getD p (0, 0)).1 ≤ x.1 := by
      rcases h2 with h | h
      · omega
      · exact h
    have h4 : y.1 ≤ x.1 := by
      cases p with
      | zero => exact h3
      | succ p =>
        refine Nat.le_trans (hs.1 (l.getD p (0, 0)) ?_) h3
        rw [List.getD_eq_getElem?_getD, List.getElem?_eq_getElem (by omega)]
        exact List.getElem_mem _
    unfold qIns
    rw [if_pos h4, qIns_take l p hs.2 hp' (fun j hj1 hj2 => h1 (j + 1) (by omega) (by simp; omega)) (by
      cases p with
      | zero => exact Or.inl rfl
      | succ p => exact Or.inr h3)]
    rfl
/-- what is to come as the class holds it: sorted, answers by their cells -/
def zC (ad : Nat → Nat) (mq : List (Nat × Nat)) : List (Nat × Nat) := (qs mq).map (fun q => (q.1, ad q.2))
theorem zC_len {ad : Nat → Nat} {mq : List (Nat × Nat)} : (zC ad mq).length = mq.length := by
  unfold zC
  rw [List.length_map, qs_len]
theorem zC_get {ad : Nat → Nat} {mq : List (Nat × Nat)} {j : Nat} (h : j < mq.length) : (zC ad mq).getD j (0, 0) = (((qs mq).getD j (0, 0)).1, ad ((qs mq).getD j (0, 0)).2) := by
  have h' : j < (qs mq).length := by rw [qs_len]; exact h
  unfold zC
  rw [List.getD_eq_getElem?_getD, List.getElem?_map, List.getD_eq_getElem?_getD, List.getElem?_eq_getElem h']
  rfl
theorem zC_snoc {ad : Nat → Nat} {mq : List (Nat × Nat)} {t i p : Nat} (hp : p ≤ (zC ad mq).length) (h1 : ∀ j, p ≤ j → j < (zC ad mq).length → t < ((zC ad mq).getD j (0, 0)).1) (h2 : p = 0 ∨ ((zC ad mq).getD (p - 1) (0, 0)).1 ≤ t) : (zC ad mq).take p ++ (t, ad i) :: (zC ad mq).drop p = zC ad (mq ++ [(t, i)]) := by
  rw [zC_len] at hp h1
  have e : qIns (t, i) (qs mq) = (qs mq).take p ++ (t, i) :: (qs mq).drop p := by
    refine qIns_take (qs mq) p (qs_sorted mq) (by rw [qs_len]; exact hp) (fun j hj1 hj2 => ?_) ?_
    · rw [qs_len] at hj2
      have := h1 j hj1 hj2
      rw [zC_get hj2] at this
      exact this
    · rcases h2 with h | h
      · exact Or.inl h
      · by_cases h0 : p = 0
        · exact Or.inl h0
        · rw [zC_get (by omega)] at h
          exact Or.inr h
  unfold zC
  rw [qs_snoc, e, List.map_append, List.map_cons, List.map_take, List.map_drop]
theorem zC_mem {mq : List (Nat × Nat)} {j : Nat} (h : j < mq.length) : (qs mq).getD j (0, 0) ∈ mq := by
  have h' : j < (qs mq).length := by rw [qs_len]; exact h
  rw [← qs_mem, List.getD_eq_getElem?_getD, List.getElem?_eq_getElem h']
  exact List.getElem_mem _
/-! the rules as the class holds them -/
def RuleAt (D : va_G) (kA : Nat → ClassId) (Z : Nat → Prop) (H : Heap) (q : Nat) (ρ : zRule) (ad : Nat) : Prop := ∃ pa, (Z q ∧ va_at D classes (q, .inr (4, [.int (nI ρ.1), .ref pa, .ref ad, .int (nI ρ.2.2.2.1), .int (nI ρ.2.2.2.2)])) H) ∧ PtAt D kA Z H pa (zIts ρ.2.1) ∧ BsAt D kA Z H ad 200 ρ.2.2.1 ∧ ρ.1 ≤ 31 ∧ ρ.2.2.2.1 ≤ 1000 ∧ ρ.2.2.2.2 ≤ 31 ∧ ρ.2.1.length ≤ 200
def RsAt (D : va_G) (kA : Nat → ClassId) (Z : Nat → Prop) (H : Heap) (rf : Nat → Option Nat) (rs : List zRule) (ad : Nat → Nat) : Prop := ∀ i, i < rs.length → ∃ q, rf i = some q ∧ RuleAt D kA Z H q (rs.getD i zR0) (ad i)
theorem RuleAt.kept {D : va_G} {kA : Nat → ClassId} {Z : Nat → Prop} {H H1 : Heap} {q : Nat} {ρ : zRule} {ad : Nat} (h : RuleAt D kA Z H q ρ ad) (hk : ∀ q, Z q → q < H.size → H1[q]? = H[q]?) : RuleAt D kA Z H1 q ρ ad := by
  obtain ⟨pa, ⟨h1, h2⟩, h3, h4, h5⟩ := h
  exact ⟨pa, ⟨h1, h2.kept (hk _ h1 h2.lt)⟩, h3.kept hk, h4.kept hk, h5⟩
theorem RuleAt.weaken {D : va_G} {kA : Nat → ClassId} {Z Z' : Nat → Prop} {H : Heap} {q : Nat} {ρ : zRule} {ad : Nat} (h : RuleAt D kA Z H q ρ ad) (hz : ∀ q, Z q → Z' q) : RuleAt D kA Z' H q ρ ad := by
  obtain ⟨pa, ⟨h1, h2⟩, h3, h4, h5⟩ := h
  exact ⟨pa, ⟨hz _ h1, h2⟩, h3.weaken hz, h4.weaken hz, h5⟩
theorem RsAt.kept {D : va_G} {kA : Nat → ClassId} {Z : Nat → Prop} {H H1 : Heap} {rf : Nat → Option Nat} {rs : List zRule} {ad : Nat → Nat} (h : RsAt D kA Z H rf rs ad) (hk : ∀ q, Z q → q < H.size → H1[q]? = H[q]?) : RsAt D kA Z H1 rf rs ad := fun i hi => by
  obtain ⟨q, h1, h2⟩ := h i hi
  exact ⟨q, h1, h2.kept hk⟩
theorem RsAt.weaken {D : va_G} {kA : Nat → ClassId} {Z Z' : Nat → Prop} {H : Heap} {rf : Nat → Option Nat} {rs : List zRule} {ad : Nat → Nat} (h : RsAt D kA Z H rf rs ad) (hz : ∀ q, Z q → Z' q) : RsAt D kA Z' H rf rs ad := fun i hi => by
  obtain ⟨q, h1, h2⟩ := h i hi
  exact ⟨q, h1, h2.weaken hz⟩
theorem RsAt.ro {D : va_G} {kA : Nat → ClassId} {A : Nat → Prop} {H0 H : Heap} {locs : List Loc} {rf : Nat → Option Nat} {rs : List zRule} {ad : Nat → Nat} (h : RsAt D kA (fun q => ¬ A q) H0 rf rs ad) (hS : va_S A H0 H locs) : RsAt D kA (fun q => ¬ A q) H rf rs ad := h.kept (fun q hq hlt => hS.2.1 q hlt hq)
def zQok (rs : List zRule) (mq : List (Nat × Nat)) : Prop := mq.length ≤ 64 ∧ ∀ q ∈ mq, q.2 < rs.length ∧ q.1 < 2 ^ 31
theorem zQok.co {D : va_G} {kA : Nat → ClassId} {Z : Nat → Prop} {H : Heap} {rf : Nat → Option Nat} {rs : List zRule} {ad : Nat → Nat} {mq : List (Nat × Nat)} (h : zQok rs mq) (hr : RsAt D kA Z H rf rs ad) : CoOk D kA Z H (zC ad mq) := by
  intro i hi
  rw [zC_len] at hi
  rw [zC_get hi]
  obtain ⟨h1, h2⟩ := h.2 _ (zC_mem hi)
  obtain ⟨q, -, pa, -, -, hb, -⟩ := hr _ h1
  exact ⟨h2, 200, _, hb⟩
