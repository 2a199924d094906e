/-! My own small kit: every method has the words of the whole table; a start is the tables' classes and what the heap holds; a pure method leaves the heap as it was -/
theorem zk_good : ∀ w ∈ zTB, (w.onTables && w.keeps) = true ∨ ∃ ty, w = .arrayClass ty := fun _ hw => good_of_word (List.mem_filter.mp hw).2
/-- what the tables say beside: links to a nest mate's private fields, arrays of objects -/
def zk_X (U : State) : Prop := (va_Nw (.fieldLinkNest "PeerLine" 150 "PeerLine$Rule" "state" "I" "PeerLine") U ∧ va_Nw (.fieldLinkNest "PeerLine" 153 "PeerLine$Rule" "pattern" "LPeerLine$Pattern;" "PeerLine") U ∧ va_Nw (.fieldLinkNest "PeerLine" 161 "PeerLine$Rule" "next" "I" "PeerLine") U ∧ va_Nw (.fieldLinkNest "PeerLine" 164 "PeerLine$Rule" "delay" "I" "PeerLine") U ∧ va_Nw (.fieldLinkNest "PeerLine" 167 "PeerLine$Rule" "answer" "LPeerLine$Bytes;" "PeerLine") U) ∧ va_AO "PeerLine$Rule" U ∧ va_AO "PeerLine$Bytes" U
theorem zk_X.moved {s U : State} (hW : s.WarmedH U.vm) (h : zk_X s) : zk_X U := ⟨⟨va_Nw.warmF hW h.1.1, va_Nw.warmF hW h.1.2.1, va_Nw.warmF hW h.1.2.2.1, va_Nw.warmF hW h.1.2.2.2.1, va_Nw.warmF hW h.1.2.2.2.2⟩, va_AO.moved hW.alike h.2.1, va_AO.moved hW.alike h.2.2⟩
def zk_Pc (D : va_G) (cl : List vw_C) (tys : List (ClassId × FieldType)) (av : List Value) (P : Heap → Prop) : Array Value → State → Prop := va_Pc av (fun U => va_K D cl tys U ∧ zk_X U ∧ P U.heap)
def zk_pQ (v : Option Value) : Array Value → State → Outcome → State → Prop := fun _ st oc t => oc = .returned v ∧ t.heap = st.heap
def zk_no : Addr → Prop := fun _ => False
def zk_mQ (post : Option Value → Heap → Prop) (A : Nat → Prop) : Array Value → State → Outcome → State → Prop := fun _ st oc t => (∃ v, oc = .returned v ∧ post v t.heap) ∧ va_F A st t
theorem zk_blind {D : va_G} {cl : List vw_C} {tys : List (ClassId × FieldType)} {av : List Value} {P : Heap → Prop} : FrameBlind (zk_Pc D cl tys av P) := fun a U g mk h => ⟨h.1, va_K.moved (u := U) (U := U.calling g mk a) (Vm.Alike.refl U.vm) h.2.1, zk_X.moved (s := U) (U := U.calling g mk a) (State.WarmedH.refl U) h.2.2.1, h.2.2.2⟩
theorem zk_P1 {D : va_G} {cl : List vw_C} {q : Nat × va_E} {H : Heap} (h : va_at D cl q H) : va_P D cl [q] H := by
  intro k x hk
  cases k with
  | zero => cases hk; exact h
  | succ k => simp at hk
/-- what was there at the start, and isn't the method's own, is there still -/
theorem zk_ro {D : va_G} {cl : List vw_C} {q : Nat × va_E} {A : Nat → Prop} {H0 H : Heap} {locs : List Loc} (hS : va_S A H0 H locs) (h : va_at D cl q H0) (hq : ¬ A q.1) : va_at D cl q H := h.kept (hS.2.1 q.1 h.lt hq)
/-- the words of a call of an instance method -/
def zk_wV (own : String) (idx : Nat) (y : MethodName) (b : ByteArray) (mL : Nat) (ret : Option FieldType) (n : Nat) : Prop := (Cond.methodLink own idx y ∈ zTB ∧ Cond.instanceMethod y ∈ zTB ∧ Cond.selects y.cls y y ∈ zTB ∧ Cond.initialized y.cls ∈ zTB) ∧ Cond.code y b mL ret ∈ zTB ∧ y.cls ≠ "java/lang/invoke/MethodHandle" ∧ y.cls ≠ "java/lang/invoke/VarHandle" ∧ (parseMethodDescriptor y.desc).map (fun d => d.parameters.length) = some n
def zk_wS (own : String) (idx : Nat) (y : MethodName) (b : ByteArray) (mL : Nat) (ret : Option FieldType) (n : Nat) : Prop := (Cond.methodLink own idx y ∈ zTB ∧ Cond.static y ∈ zTB ∧ Cond.initialized y.cls ∈ zTB) ∧ Cond.code y b mL ret ∈ zTB ∧ y.cls ≠ "java/lang/invoke/MethodHandle" ∧ y.cls ≠ "java/lang/invoke/VarHandle" ∧ (parseMethodDescriptor y.desc).map (fun d => d.parameters.length) = some n
def zk_wI (own : String) (idx : Nat) (y : MethodName) (b : ByteArray) (mL : Nat) (n : Nat) : Prop := (Cond.methodLink own idx y ∈ zTB ∧ Cond.instanceMethod y ∈ zTB ∧ Cond.initialized y.cls ∈ zTB ∧ y.name = "<init>") ∧ Cond.code y b mL none ∈ zTB ∧ y.cls ≠ "java/lang/invoke/MethodHandle" ∧ y.cls ≠ "java/lang/invoke/VarHandle" ∧ (parseMethodDescriptor y.desc).map (fun d => d.parameters.length) = some n
theorem zk_goodIn {y : MethodName} {b : ByteArray} {mL : Nat} {ret : Option FieldType} (h : Cond.code y b mL ret ∈ zTB) : GoodIn zTB (Cond.code y b mL ret :: zTB) := by
  intro w hw
  rcases List.mem_cons.mp hw with rfl | hw
  · exact ⟨h, zk_good _ h⟩
  · exact ⟨hw, zk_good _ hw⟩
section
variable {p : Program} {l : Launch} {e : Env} {R : Room} {s : State} {m : MethodId} {args : Array Value} {below : List Frame} {meth : Method} {c : Code} {H : Heap} {locs : List Loc} {cells slots : Nat} {Q : State → Prop}
variable {cc : ByteArray} {pc nL idx : Nat} {own : String} {ls : Array Slot} {rest st0 : List Value} {D : va_G} {cl : List vw_C} {A : Nat → Prop} {a : Nat} {tys : List (ClassId × FieldType)} {ws : va_W} {H0 : Heap}
variable {y : MethodName} {b : ByteArray} {mL n mc ms : Nat} {ret : Option FieldType} {rm : Room} {Pc : Array Value → State → Prop} {P : Heap → Prop} {Qc : Array Value → State → Outcome → State → Prop} {free : Addr → Prop} {As : List Value}
theorem zk_cB (ht : ∀ w ∈ zTB, w.before args s = true) (h1 : Cond.methodLink own idx y ∈ zTB) (h4 : Cond.initialized y.cls ∈ zTB) (h5 : Cond.code y b mL ret ∈ zTB) (hd : y.cls ≠ "java/lang/invoke/MethodHandle" ∧ y.cls ≠ "java/lang/invoke/VarHandle" ∧ (parseMethodDescriptor y.desc).map (fun d => d.parameters.length) = some n) (hrc : rm.cells = mc) (hrs : rm.slots = ms) (hR : rm.frames + 1 ≤ R.frames ∧ 8 + (mL + 11) + rm.locals ≤ R.locals) : CallB R s args own idx y b mL ret (Cond.code y b mL ret :: zTB) rm mc ms n :=
  callB_of (Ts := zTB) n ht (zk_goodIn h5) rfl hrc hrs (ht _ h4) (ht _ h1) hd hR
theorem zk_of (av : List Value) (hy : plainName y.cls = true) (hn : (lg_sl av).length ≤ mL)
    (body : ∀ (p : Program) (e : Env) (s : State) (m : MethodId) (below : List Frame) (meth : Method) (c : Code), CallFix p m c cc mL s av.toArray zTB y.cls → meth.sig.returnType = ret → meth.locks = false → meth.name = y.name → va_K D cl tys s → zk_X s → P s.heap → ∀ ls : Array Slot, lv_has ls mL (lv_args 0 av) →
      W p l e rm s m av.toArray below meth c s.heap [] 0 0 (MQ below Qc av.toArray s mc ms free) (F0 m 0 ls [])) : Met l y (Cond.code y cc mL ret :: zTB) rm (zk_Pc D cl tys av P) Qc mc ms free := by
  refine Met.ofW (cc := cc) (maxL := mL) (ret := ret) hy rfl ?_
  intro p e s m args below meth c s₁ B0 hml hv
  obtain ⟨rfl, hK, hX, hP⟩ := hv
  rw [lg_entry_eq]
  exact body p e s m below meth c ⟨B0.exec, B0.bytes, hml, findClass_of_methodNamed B0.named, fun w hw => atoms_spec (ws := Cond.code y cc mL ret :: zTB) B0.pre w (List.mem_cons_of_mem _ hw)⟩ B0.returns B0.notSynchronized (name_of_methodNamed B0.named B0.method).1 hK hX hP _ (lv_entry av hn)
/-- a receiver is an object of its class -/
theorem zk_recv {ci : Nat} {q : vw_C} {fs : List Value} (hK : va_K D cl tys s) (h : va_at D cl (a, .inr (ci, fs)) H) (hc : cl[ci]? = some q) : ∃ cell : Cell, H[a]? = some cell ∧ cell.vm.isStatics = false ∧ s.vm.findClass q.1 = some cell.cls := va_recv hK (zk_P1 h) hc (q0 := 0) rfl
theorem zk_runV (S : CallFix p m c cc nL s args zTB own) (hw : zk_wV own idx y b mL ret n) (hM : Met l y (Cond.code y b mL ret :: zTB) rm (zk_Pc D cl tys (.ref a :: As) P) Qc mc ms free) (hrc : rm.cells = mc) (hrs : rm.slots = ms) (hR : rm.frames + 1 ≤ R.frames ∧ 8 + (mL + 11) + rm.locals ≤ R.locals) (hK : va_K D cl tys s) (hX : zk_X s) (hr : ∃ cell : Cell, H[a]? = some cell ∧ cell.vm.isStatics = false ∧ s.vm.findClass y.cls = some cell.cls) (hP : P H)
    (hn : As.length = n) (hsize : ls.size = nL) (hst : st0 = As.reverse ++ .ref a :: rest) (hro : (rest.map fun v => v.category).sum ≤ 8) (hf : cells + mc ≤ R.cells ∧ slots + ms ≤ R.slots) (hdg : decode cc pc = .ok (.invokevirtual idx, 3)) :
    va_Run p l e R s m args below meth c H locs cells slots mc ms (F0 m pc ls st0) rest (Qc (Value.ref a :: As).toArray) free := by
  obtain ⟨⟨h1, h2, h3, h4⟩, h5, hd⟩ := hw
  have ht := S.2.2.2.2
  exact va_runV S hM ⟨zk_cB ht h1 h4 h5 hd hrc hrs hR, ht _ h2, ht _ h3⟩ ⟨zk_blind, hr, fun U hU hW => ⟨rfl, va_K.moved hW.alike hK, zk_X.moved hW hX, by rw [hU]; exact hP⟩⟩ rfl hn hsize hst (lv_room hro) hdg hf
theorem zk_runS (S : CallFix p m c cc nL s args zTB own) (hw : zk_wS own idx y b mL ret n) (hM : Met l y (Cond.code y b mL ret :: zTB) rm (zk_Pc D cl tys As P) Qc mc ms free) (hrc : rm.cells = mc) (hrs : rm.slots = ms) (hR : rm.frames + 1 ≤ R.frames ∧ 8 + (mL + 11) + rm.locals ≤ R.locals) (hK : va_K D cl tys s) (hX : zk_X s) (hP : P H)
    (hn : As.length = n) (hsize : ls.size = nL) (hst : st0 = As.reverse ++ rest) (hro : (rest.map fun v => v.category).sum ≤ 8) (hf : cells + mc ≤ R.cells ∧ slots + ms ≤ R.slots) (hdg : decode cc pc = .ok (.invokestatic idx, 3)) :
    va_Run p l e R s m args below meth c H locs cells slots mc ms (F0 m pc ls st0) rest (Qc As.toArray) free := by
  obtain ⟨⟨h1, h2, h4⟩, h5, hd⟩ := hw
  have ht := S.2.2.2.2
  exact va_runS S hM ⟨zk_cB ht h1 h4 h5 hd hrc hrs hR, ht _ h2⟩ ⟨zk_blind, fun U hU hW => ⟨rfl, va_K.moved hW.alike hK, zk_X.moved hW hX, by rw [hU]; exact hP⟩⟩ rfl hn hsize hst (lv_room hro) hdg hf
theorem zk_runI (S : CallFix p m c cc nL s args zTB own) (hw : zk_wI own idx y b mL n) (hM : Met l y (Cond.code y b mL none :: zTB) rm (zk_Pc D cl tys (.ref a :: As) P) Qc mc ms free) (hrc : rm.cells = mc) (hrs : rm.slots = ms) (hR : rm.frames + 1 ≤ R.frames ∧ 8 + (mL + 11) + rm.locals ≤ R.locals) (hK : va_K D cl tys s) (hX : zk_X s) (hP : P H)
    (hn : As.length = n) (hsize : ls.size = nL) (hst : st0 = As.reverse ++ .ref a :: rest) (hro : (rest.map fun v => v.category).sum ≤ 8) (hf : cells + mc ≤ R.cells ∧ slots + ms ≤ R.slots) (hdg : decode cc pc = .ok (.invokespecial idx, 3)) :
    va_Run p l e R s m args below meth c H locs cells slots mc ms (F0 m pc ls st0) rest (Qc (Value.ref a :: As).toArray) free := by
  obtain ⟨⟨h1, h2, h4, h6⟩, h5, hd⟩ := hw
  have ht := S.2.2.2.2
  exact va_runI S hM ⟨zk_cB ht h1 h4 h5 hd hrc hrs hR, h6, ht _ h2⟩ ⟨zk_blind, fun U hU hW => ⟨rfl, va_K.moved hW.alike hK, zk_X.moved hW hX, by rw [hU]; exact hP⟩⟩ rfl hn hsize hst (lv_room hro) hdg hf
/-- behind a call of a pure method: the answer, all else as it was -/
theorem zk_pure {v : Value} {ar : Array Value} (hr : va_Run p l e R s m args below meth c H locs cells slots 0 0 (F0 m pc ls st0) rest (zk_pQ (some v) ar) zk_no) (kk : W p l e R s m args below meth c H locs cells slots Q (F0 m (pc + 3) ls (v :: rest))) : W p l e R s m args below meth c H locs cells slots Q (F0 m pc ls st0) := by
  intro T hT X
  obtain ⟨v', st₀, t, T', L, h0, X', hL, e1, e2, ⟨hv, hh⟩, st⟩ := hr T hT X
  have hL0 : L = [] := by
    cases L with
    | nil => rfl
    | cons q L => exact (hL q List.mem_cons_self).elim
  subst hL0
  cases hv
  rw [List.append_nil] at X'
  obtain ⟨t2, a1, b1⟩ := kk T' (by rw [e1, hh, h0]) X'
  exact ⟨t2, st t2 a1, b1⟩
/-- behind a call of a method that changes cells of A1 -/
theorem zk_mut {post : Option Value → Heap → Prop} {ar : Array Value} {A1 : Nat → Prop} (hr : va_Run p l e R s m args below meth c H locs cells slots mc ms (F0 m pc ls st0) rest (zk_mQ post A1 ar) free) (hS : va_S A H0 H locs) (hA : ∀ q, A1 q → A q) (hf : ∀ q, free q → A q)
    (kk : ∀ (v : Option Value) (H1 : Heap) (locs1 : List Loc), post v H1 → H.size ≤ H1.size → (∀ q : Nat, q < H.size → ¬ A1 q → H1[q]? = H[q]?) → va_S A H0 H1 locs1 → W p l e R s m args below meth c H1 locs1 (cells + mc) (slots + ms) Q (F0 m (pc + 3) ls (v.toList ++ rest))) : W p l e R s m args below meth c H locs cells slots Q (F0 m pc ls st0) := by
  intro T hT X
  obtain ⟨v, st₀, t, T', L, h0, X', hL, e1, e2, ⟨⟨v', hv, hb⟩, hz, hk⟩, st⟩ := hr T hT X
  cases hv
  rw [h0] at hz hk
  rw [← e1] at hz hk hb
  obtain ⟨t2, a1, b1⟩ := kk v T'.heap (locs ++ L) hb hz hk
    ⟨Nat.le_trans hS.1 hz, fun q h1 h2 => by rw [hk q (Nat.lt_of_lt_of_le h1 hS.1) (fun z => h2 (hA q z))]; exact hS.2.1 q h1 h2, fun q hq => by
      rcases List.mem_append.mp hq with h | h
      · exact hS.2.2 q h
      · exact hf _ (hL q h)⟩ T' rfl X'
  exact ⟨t2, st t2 a1, b1⟩
/-- the top of the stack under another name -/
theorem zk_ti {x z : Int32} (h : x = z) (kk : W p l e R s m args below meth c H locs cells slots Q (F0 m pc ls (.int z :: rest))) : W p l e R s m args below meth c H locs cells slots Q (F0 m pc ls (.int x :: rest)) := by
  rw [h]; exact kk
theorem zk_tl {x z : Int64} (h : x = z) (kk : W p l e R s m args below meth c H locs cells slots Q (F0 m pc ls (.long z :: rest))) : W p l e R s m args below meth c H locs cells slots Q (F0 m pc ls (.long x :: rest)) := by
  rw [h]; exact kk
/-- fields and elements, read from a cell that is known -/
theorem zk_get (S : CallFix p m c cc nL s args zTB own) (hK : va_K D cl tys s) {C ref : String} {T : u_T} {N ci : Nat} {fs : List Value} (h : va_at D cl (a, .inr (ci, fs)) H) (hc : cl[ci]? = some (C, T, N)) (hin : ∀ w ∈ u_ws C T N, w ∈ zTB) (k : Nat) (hk : k < N) (hl : Cond.fieldLink own idx ref (T k).2.1 (T k).2.2.1 ∈ zTB) (hs : (T k).1 = ref) {v : Value} (hv : fs[k]? = some v) (hdg : decode cc pc = .ok (.getfield idx, 3))
    (kk : W p l e R s m args below meth c H locs cells slots Q (F0 m (pc + 3) ls (v :: rest))) : W p l e R s m args below meth c H locs cells slots Q (F0 m pc ls (.ref a :: rest)) := by
  subst hs
  exact va_get S.1 S.2.1 S.2.2.2.2 hin S.2.2.2.1 hK (zk_P1 h) 0 rfl hc k hk (S.2.2.2.2 _ hl) (fun _ h9 => h9) hv hdg kk
theorem zk_bald (S : CallFix p m c cc nL s args zTB own) (hK : va_K D cl tys s) (t0 : Nat) {cA : ClassId} {N : Nat} {f : Nat → Int32} (h : va_at D cl (a, .inl (cA, N, .inl f)) H) (ht : tys[t0]? = some (cA, .byte)) {i : Int32} (hi : vp_in i N) (hdg : decode cc pc = .ok (.baload, 1))
    (kk : W p l e R s m args below meth c H locs cells slots Q (F0 m (pc + 1) ls (.int (f i.toNatClampNeg) :: rest))) : W p l e R s m args below meth c H locs cells slots Q (F0 m pc ls (.int i :: .ref a :: rest)) := va_bald S.1 S.2.1 hK (zk_P1 h) 0 t0 rfl ht hi hdg kk
theorem zk_zald (S : CallFix p m c cc nL s args zTB own) (hK : va_K D cl tys s) (t0 : Nat) {cA : ClassId} {N : Nat} {f : Nat → Int32} (h : va_at D cl (a, .inl (cA, N, .inl f)) H) (ht : tys[t0]? = some (cA, .boolean)) {i : Int32} (hi : vp_in i N) (hdg : decode cc pc = .ok (.baload, 1))
    (kk : W p l e R s m args below meth c H locs cells slots Q (F0 m (pc + 1) ls (.int (f i.toNatClampNeg) :: rest))) : W p l e R s m args below meth c H locs cells slots Q (F0 m pc ls (.int i :: .ref a :: rest)) := va_zald S.1 S.2.1 hK (zk_P1 h) 0 t0 rfl ht hi hdg kk
theorem zk_iald (S : CallFix p m c cc nL s args zTB own) (hK : va_K D cl tys s) (t0 : Nat) {cA : ClassId} {N : Nat} {f : Nat → Int32} (h : va_at D cl (a, .inl (cA, N, .inl f)) H) (ht : tys[t0]? = some (cA, .int)) {i : Int32} (hi : vp_in i N) (hdg : decode cc pc = .ok (.iaload, 1))
    (kk : W p l e R s m args below meth c H locs cells slots Q (F0 m (pc + 1) ls (.int (f i.toNatClampNeg) :: rest))) : W p l e R s m args below meth c H locs cells slots Q (F0 m pc ls (.int i :: .ref a :: rest)) := va_iald S.1 S.2.1 hK (zk_P1 h) 0 t0 rfl ht hi hdg kk
theorem zk_lald (S : CallFix p m c cc nL s args zTB own) (hK : va_K D cl tys s) (t0 : Nat) {cA : ClassId} {N : Nat} {f : Nat → Int64} (h : va_at D cl (a, .inl (cA, N, .inr (.inl f))) H) (ht : tys[t0]? = some (cA, .long)) {i : Int32} (hi : vp_in i N) (hdg : decode cc pc = .ok (.laload, 1))
    (kk : W p l e R s m args below meth c H locs cells slots Q (F0 m (pc + 1) ls (.long (f i.toNatClampNeg) :: rest))) : W p l e R s m args below meth c H locs cells slots Q (F0 m pc ls (.int i :: .ref a :: rest)) := va_lald S.1 S.2.1 hK (zk_P1 h) 0 t0 rfl ht hi hdg kk
theorem zk_aald (S : CallFix p m c cc nL s args zTB own) (hK : va_K D cl tys s) (t0 : Nat) {cA : ClassId} {C : String} {N : Nat} {f : Nat → Option Nat} (h : va_at D cl (a, .inl (cA, N, .inr (.inr (.inr (.inr f))))) H) (ht : tys[t0]? = some (cA, .object C)) {i : Int32} (hi : vp_in i N) (hdg : decode cc pc = .ok (.aaload, 1))
    (kk : W p l e R s m args below meth c H locs cells slots Q (F0 m (pc + 1) ls (va_rf (f i.toNatClampNeg) :: rest))) : W p l e R s m args below meth c H locs cells slots Q (F0 m pc ls (.int i :: .ref a :: rest)) := va_aldq S.1 S.2.1 hK (zk_P1 h) 0 t0 rfl ht hi hdg kk
theorem zk_alen (S : CallFix p m c cc nL s args zTB own) (hK : va_K D cl tys s) (t0 : Nat) {cA : ClassId} {x : vp_A} (h : va_at D cl (a, .inl (cA, x)) H) {ty : FieldType} (ht : tys[t0]? = some (cA, ty)) {v : Int32} (hv : Int32.ofNat x.1 = v) (hdg : decode cc pc = .ok (.arraylength, 1))
    (kk : W p l e R s m args below meth c H locs cells slots Q (F0 m (pc + 1) ls (.int v :: rest))) : W p l e R s m args below meth c H locs cells slots Q (F0 m pc ls (.ref a :: rest)) := va_alen S.1 S.2.1 hK (zk_P1 h) 0 t0 rfl ht hv hdg kk
/-- the ends of a pure method -/
theorem zk_reti {v : Int32} (S : CallFix p m c cc nL s args zTB own) (hr : meth.sig.returnType = some .int) (hlk : meth.locks = false) (hdg : decode cc pc = .ok (.ireturn, 1)) : W p l e R s m args below meth c s.heap [] 0 0 (MQ below (zk_pQ (some (.int v))) args s 0 0 zk_no) (F0 m pc ls [.int v]) :=
  W.iret S.1 S.2.1 hr (fun t ht _ => ⟨rfl, ht⟩) (fun q h => by cases h) hdg
theorem zk_retz {v : Int32} (S : CallFix p m c cc nL s args zTB own) (hr : meth.sig.returnType = some .boolean) (hv : v = 0 ∨ v = 1) (hlk : meth.locks = false) (hdg : decode cc pc = .ok (.ireturn, 1)) : W p l e R s m args below meth c s.heap [] 0 0 (MQ below (zk_pQ (some (.int v))) args s 0 0 zk_no) (F0 m pc ls [.int v]) :=
  W.zret S.1 S.2.1 hr (by rcases hv with rfl | rfl <;> decide +kernel) (fun t ht _ => ⟨rfl, ht⟩) (fun q h => by cases h) hdg
theorem zk_retl {v : Int64} (S : CallFix p m c cc nL s args zTB own) (hr : meth.sig.returnType = some .long) (hlk : meth.locks = false) (hdg : decode cc pc = .ok (.lreturn, 1)) : W p l e R s m args below meth c s.heap [] 0 0 (MQ below (zk_pQ (some (.long v))) args s 0 0 zk_no) (F0 m pc ls [.long v]) :=
  W.lret S.1 S.2.1 hr (fun t ht _ => ⟨rfl, ht⟩) (fun q h => by cases h) hdg
theorem zk_reta {v : Value} {rt : FieldType} (S : CallFix p m c cc nL s args zTB own) (hr : meth.sig.returnType = some rt) (hrt : ∃ n, rt = .object n) (hv : v = .null ∨ ∃ a, v = .ref a) (hlk : meth.locks = false) (hdg : decode cc pc = .ok (.areturn, 1)) : W p l e R s m args below meth c s.heap [] 0 0 (MQ below (zk_pQ (some v)) args s 0 0 zk_no) (F0 m pc ls [v]) :=
  W.aret S.1 S.2.1 hr (Or.inl hrt) hv (fun t ht _ => ⟨rfl, ht⟩) (fun q h => by cases h) hdg
end
