section
variable {p : Program} {l : Launch} {e : Env} {R : Room} {s : State} {m : MethodId} {args : Array Value} {below : List Frame} {meth : Method} {c : Code} {H : Heap} {locs : List Loc} {cells slots : Nat} {Q : State → Prop}
variable {cc : ByteArray} {pc nL idx mc ms : Nat} {own : String} {ls : Array Slot} {rest st0 : List Value} {D : va_G} {cl : List vw_C} {A : Nat → Prop} {a : Nat} {tys : List (ClassId × FieldType)} {ws : va_W} {H0 : Heap} {post : Option Value → Heap → Prop}
/-- the ends of a method that changes cells -/
theorem zk_vret (S : CallFix p m c cc nL s args zTB own) (hr : meth.sig.returnType = none) (hlk : meth.locks = false) (hS : va_S A s.heap H locs) (hp : post none H) (hc : cells ≤ mc) (hs : slots ≤ ms) (hdg : decode cc pc = .ok (.return_, 1)) : W p l e R s m args below meth c H locs cells slots (MQ below (zk_mQ post A) args s mc ms A) (F0 m pc ls []) :=
  W.widen hc hs (W.vret S.1 S.2.1 hr (fun t ht _ => ⟨⟨none, rfl, by rw [ht]; exact hp⟩, hS.F ht⟩) hS.2.2 hdg)
theorem zk_iret {v : Int32} (S : CallFix p m c cc nL s args zTB own) (hr : meth.sig.returnType = some .int) (hlk : meth.locks = false) (hS : va_S A s.heap H locs) (hp : post (some (.int v)) H) (hc : cells ≤ mc) (hs : slots ≤ ms) (hdg : decode cc pc = .ok (.ireturn, 1)) : W p l e R s m args below meth c H locs cells slots (MQ below (zk_mQ post A) args s mc ms A) (F0 m pc ls [.int v]) :=
  W.widen hc hs (W.iret S.1 S.2.1 hr (fun t ht _ => ⟨⟨_, rfl, by rw [ht]; exact hp⟩, hS.F ht⟩) hS.2.2 hdg)
theorem zk_zret {v : Int32} (S : CallFix p m c cc nL s args zTB own) (hr : meth.sig.returnType = some .boolean) (hv : v = 0 ∨ v = 1) (hlk : meth.locks = false) (hS : va_S A s.heap H locs) (hp : post (some (.int v)) H) (hc : cells ≤ mc) (hs : slots ≤ ms) (hdg : decode cc pc = .ok (.ireturn, 1)) : W p l e R s m args below meth c H locs cells slots (MQ below (zk_mQ post A) args s mc ms A) (F0 m pc ls [.int v]) :=
  W.widen hc hs (W.zret S.1 S.2.1 hr (by rcases hv with rfl | rfl <;> decide +kernel) (fun t ht _ => ⟨⟨_, rfl, by rw [ht]; exact hp⟩, hS.F ht⟩) hS.2.2 hdg)
theorem zk_lret {v : Int64} (S : CallFix p m c cc nL s args zTB own) (hr : meth.sig.returnType = some .long) (hlk : meth.locks = false) (hS : va_S A s.heap H locs) (hp : post (some (.long v)) H) (hc : cells ≤ mc) (hs : slots ≤ ms) (hdg : decode cc pc = .ok (.lreturn, 1)) : W p l e R s m args below meth c H locs cells slots (MQ below (zk_mQ post A) args s mc ms A) (F0 m pc ls [.long v]) :=
  W.widen hc hs (W.lret S.1 S.2.1 hr (fun t ht _ => ⟨⟨_, rfl, by rw [ht]; exact hp⟩, hS.F ht⟩) hS.2.2 hdg)
theorem zk_aret {v : Nat} {rt : FieldType} (S : CallFix p m c cc nL s args zTB own) (hr : meth.sig.returnType = some rt) (hrt : (∃ n, rt = .object n) ∨ ∃ t, rt = .array t) (hlk : meth.locks = false) (hS : va_S A s.heap H locs) (hp : post (some (.ref v)) H) (hc : cells ≤ mc) (hs : slots ≤ ms) (hdg : decode cc pc = .ok (.areturn, 1)) : W p l e R s m args below meth c H locs cells slots (MQ below (zk_mQ post A) args s mc ms A) (F0 m pc ls [.ref v]) :=
  W.widen hc hs (W.aret S.1 S.2.1 hr hrt (Or.inr ⟨v, rfl⟩) (fun t ht _ => ⟨⟨_, rfl, by rw [ht]; exact hp⟩, hS.F ht⟩) hS.2.2 hdg)
/-- a new array of a class that is known -/
theorem zk_newa (S : CallFix p m c cc nL s args zTB own) {atype : ArrayType} {ty : FieldType} (hm : Cond.arrayClass ty ∈ zTB) (hty : newarray.typeOf atype = ty) (hnr : ∀ C, ty ≠ .object C) (hK : va_K D cl tys s) (t0 : Nat) {cA : ClassId} (ht0 : tys[t0]? = some (cA, ty)) (hP : va_P D cl ws H) (hD : va_D A ws) (hS : va_S A H0 H locs) (hA : ∀ q, H0.size ≤ q → A q)
    {n : Int32} {N' : Nat} {a0 : vp_A} (ha : ∀ cA : ClassId, vp_cell cA a0 = arrV cA N' (fun _ => defaultValue ty)) (hn : ¬ n < 0) (hN : n.toNatClampNeg = N') (hbytes : N' * componentBytes ty ≤ 536870912) (hcells : cells + 1 ≤ R.cells) (hslots : slots + N' ≤ R.slots) (hdg : decode cc pc = .ok (.newarray atype, 2))
    (kk : ∀ (q : Nat) (H1 : Heap), va_P D cl (ws ++ [(q, .inl (cA, a0))]) H1 → va_D A (ws ++ [(q, .inl (cA, a0))]) → va_S A H0 H1 locs → W p l e R s m args below meth c H1 locs (cells + 1) (slots + N') Q (F0 m (pc + 2) ls (.ref q :: rest))) : W p l e R s m args below meth c H locs cells slots Q (F0 m pc ls (.int n :: rest)) := by
  subst hty
  refine va_newa S.1 S.2.1 (S.2.2.2.2 _ hm) rfl hK hP hD hS hA ha hn hN hbytes hcells hslots hdg (fun q cA1 H1 hK1 hP1 hD1 hS1 => ?_)
  have e1 : va_RA s cA1 (newarray.typeOf atype) := (hK1.2 tys.length (cA1, newarray.typeOf atype) (by simp)).2
  have e2 : va_RA s cA (newarray.typeOf atype) := (hK.2 t0 _ ht0).2
  have e3 : cA1 = cA := by
    generalize newarray.typeOf atype = t at *
    cases t with
    | object C => exact absurd rfl (hnr C)
    | _ => exact Option.some.inj (e1.symm.trans e2)
  subst e3
  exact kk q H1 hP1 hD1 hS1
end
/-- a cell of the world that the callee doesn't get is none of the callee's -/
theorem zk_apart {D : va_G} {cl : List vw_C} {A0 : Nat → Prop} {ws wc : va_W} {H : Heap} (hP : va_P D cl ws H) (hD : va_D A0 ws) (isC : List Nat) (hC : isC.map (fun i => ws[i]?) = wc.map some) {k q : Nat} {x : va_E} (hk : ws[k]? = some (q, x)) (hn : k ∉ isC) : ¬ va_A wc H.size q := by
  intro h
  rcases h with ⟨k2, e, h⟩ | h
  · have h1 : (isC.map (fun i => ws[i]?))[k2]? = some (some (q, e)) := by rw [hC, List.getElem?_map, h]; rfl
    rw [List.getElem?_map] at h1
    cases hi : isC[k2]? with
    | none => rw [hi] at h1; cases h1
    | some i =>
      rw [hi] at h1
      have h2 := hD.1 k i (q, x) (q, e) hk (Option.some.inj h1) rfl
      subst h2
      exact hn (List.mem_of_getElem? hi)
  · exact absurd (hP k _ hk).lt (Nat.not_lt.mpr h)
