theorem zk_top {p : Program} {l : Launch} {e : Env} {R : Room} {s : State} {m : MethodId} {args : Array Value} {below : List Frame} {meth : Method} {c : Code} {H : Heap} {locs : List Loc} {cells slots : Nat} {Q : State → Prop} {pc : Nat} {ls : Array Slot} {rest : List Value} {v v' : Value} (h : v = v') (kk : W p l e R s m args below meth c H locs cells slots Q (F0 m pc ls (v' :: rest))) : W p l e R s m args below meth c H locs cells slots Q (F0 m pc ls (v :: rest)) := by
  rw [h]; exact kk
theorem BsAt.any {D : va_G} {kA : Nat → ClassId} {Z : Nat → Prop} {H : Heap} {a lim : Nat} {bs : List Nat} {tys : List (ClassId × FieldType)} {s : State} (h : BsAt D kA Z H a lim bs) (hK : va_K D classes tys s) : va_Any "PeerLine$Bytes" s H a := by
  obtain ⟨r, n, f, h1, h2, h3, -⟩ := h
  refine va_rAny (r := (R_Bytes, F_Bytes, 3)) hK (zk_P1 h3) (q0 := 0) rfl rfl (fun comp c0 e1 e2 => ?_)
  have e3 : comp = c0 := Option.some.inj (e1.symm.trans e2)
  rw [e3]
  exact va_asg _ _
/-- the answers that are to come: (time, the cell of the answer) -/
def CoRep (cq : List (Nat × Nat)) (f : Nat → Int64) (g : Nat → Option Nat) : Prop := ∀ i, i < cq.length → f i = lN (cq.getD i (0, 0)).1 ∧ g i = some (cq.getD i (0, 0)).2
def CoOk (D : va_G) (kA : Nat → ClassId) (Z : Nat → Prop) (H : Heap) (cq : List (Nat × Nat)) : Prop := ∀ i, i < cq.length → (cq.getD i (0, 0)).1 < 2 ^ 31 ∧ ∃ lim bs, BsAt D kA Z H (cq.getD i (0, 0)).2 lim bs
theorem CoOk.ro {D : va_G} {kA : Nat → ClassId} {A : Nat → Prop} {H0 H : Heap} {locs : List Loc} {cq : List (Nat × Nat)} (h : CoOk D kA (fun q => ¬ A q) H0 cq) (hS : va_S A H0 H locs) : CoOk D kA (fun q => ¬ A q) H cq := fun i hi => ⟨(h i hi).1, by
  obtain ⟨lim, bs, hb⟩ := (h i hi).2
  exact ⟨lim, bs, hb.ro hS⟩⟩
abbrev wC (kA : Nat → ClassId) (a tm an : Nat) (k : Nat) (f : Nat → Int64) (g : Nat → Option Nat) : va_W := [(a, .inr (1, [.ref tm, .ref an, .int (nI k)])), (tm, .inl (kA 1, 64, .inr (.inl f))), (an, .inl (kA 5, 64, .inr (.inr (.inr (.inr g)))))]
def CoPost (D : va_G) (kA : Nat → ClassId) (A : Nat → Prop) (H : Heap) (a tm an : Nat) (cq : List (Nat × Nat)) : Prop := ∃ (f : Nat → Int64) (g : Nat → Option Nat), va_P D classes (wC kA a tm an cq.length f g) H ∧ va_D A (wC kA a tm an cq.length f g) ∧ CoRep cq f g
theorem zIns_get {cq : List (Nat × Nat)} {x : Nat × Nat} {p i : Nat} (hp : p ≤ cq.length) : (cq.take p ++ x :: cq.drop p).getD i (0, 0) = if i < p then cq.getD i (0, 0) else if i = p then x else cq.getD (i - 1) (0, 0) := by
  have hl : (cq.take p).length = p := by rw [List.length_take]; omega
  by_cases h1 : i < p
  · rw [if_pos h1, List.getD_eq_getElem?_getD, List.getElem?_append_left (by omega), List.getElem?_take, if_pos h1, ← List.getD_eq_getElem?_getD]
  · rw [if_neg h1, List.getD_eq_getElem?_getD, List.getElem?_append_right (by omega), hl]
    by_cases h2 : i = p
    · rw [if_pos h2, h2, Nat.sub_self]; rfl
    · rw [if_neg h2]
      obtain ⟨k, hk⟩ : ∃ k, i - p = k + 1 := ⟨i - p - 1, by omega⟩
      rw [hk, List.getElem?_cons_succ, List.getElem?_drop, ← List.getD_eq_getElem?_getD, show p + k = i - 1 by omega]
theorem zIns_len {cq : List (Nat × Nat)} {x : Nat × Nat} {p : Nat} (hp : p ≤ cq.length) : (cq.take p ++ x :: cq.drop p).length = cq.length + 1 := by
  rw [List.length_append, List.length_take, List.length_cons, List.length_drop]; omega
theorem zk_newq {p : Program} {l : Launch} {e : Env} {R : Room} {s : State} {m : MethodId} {args : Array Value} {below : List Frame} {meth : Method} {c : Code} {H : Heap} {locs : List Loc} {cells slots : Nat} {Q : State → Prop} {cc : ByteArray} {pc nL idx : Nat} {own C : String} {ls : Array Slot} {rest : List Value} {D : va_G} {cl : List vw_C} {A : Nat → Prop} {tys : List (ClassId × FieldType)} {ws : va_W} {H0 : Heap} (S : CallFix p m c cc nL s args zTB own) (hm : Cond.classLink own idx C ∈ zTB) (hover : va_AO C s) (hK : va_K D cl tys s) (t0 : Nat) {cA : ClassId} (ht0 : tys[t0]? = some (cA, .object C)) (hP : va_P D cl ws H) (hD : va_D A ws) (hS : va_S A H0 H locs) (hA : ∀ q, H0.size ≤ q → A q)
    {n : Int32} {N' : Nat} (hn : ¬ n < 0) (hN : n.toNatClampNeg = N') (hbytes : N' * 4 ≤ 536870912) (hcells : cells + 1 ≤ R.cells) (hslots : slots + N' ≤ R.slots) (hdg : decode cc pc = .ok (.anewarray idx, 3))
    (kk : ∀ (q : Nat) (H1 : Heap), va_P D cl (ws ++ [(q, .inl (cA, N', .inr (.inr (.inr (.inr (fun _ => none))))))]) H1 → va_D A (ws ++ [(q, .inl (cA, N', .inr (.inr (.inr (.inr (fun _ => none))))))]) → va_S A H0 H1 locs → W p l e R s m args below meth c H1 locs (cells + 1) (slots + N') Q (F0 m (pc + 3) ls (.ref q :: rest))) : W p l e R s m args below meth c H locs cells slots Q (F0 m pc ls (.int n :: rest)) := by
  refine va_newq S.1 S.2.1 S.2.2.2.1 (S.2.2.2.2 _ hm) hover hK hP hD hS hA hn hN hbytes hcells hslots hdg (fun q cA1 H1 hK1 hP1 hD1 hS1 => ?_)
  obtain ⟨k1, c1, a1, a2, a3, a4⟩ := (hK1.2 tys.length (cA1, .object C) (by simp)).2
  obtain ⟨k2, c2, b1, b2, b3, b4⟩ := (hK.2 t0 _ ht0).2
  have e3 : cA1 = cA := Option.some.inj (a4.symm.trans b4)
  subst e3
  exact kk q H1 hP1 hD1 hS1
