theorem zArrC {ty : FieldType} {args : Array Value} {s : State} (h : (Cond.arrayClass ty).before args s = true) : ∃ cA : ClassId, ArrOfT s cA ty ∧ s.vm.findClass ("[" ++ ty.toString) = some cA := by
  obtain ⟨cA, kA, comp, h1, h2, h3⟩ := Cond.arrayClass_spec h
  exact ⟨cA, fun n z => ⟨fun k h => (by cases h), kA, h2, comp, h3⟩, h1⟩
theorem zArrO {C : String} {args : Array Value} {s : State} (h : (Cond.arrayOver (.object C)).before args s = true) : ∃ cA : ClassId, ArrOfT s cA (.object C) ∧ va_RA s cA (.object C) := by
  obtain ⟨comp, cA, kA, h1, h2, h3, h4, h5⟩ := Cond.arrayOver_spec h
  exact ⟨cA, fun n z => ⟨fun k h => (by cases h), kA, h3, comp, h4⟩, ⟨kA, comp, h3, h4, h1, h5⟩⟩
/-! THE CLAIM OUT OF ONE WALK OF THE LAW'S BODY. Your part is whole_start (and what it stands on); all else here is the same for every law, but numbers. -/
def R_law : String := "PeerLineLaw"
def lw_P (b : Addr) (xs : List Int32) (args : Array Value) (s : State) : Prop := args = #[.ref b] ∧ s.IntsAt b xs ∧ xs.length ≤ 3072 ∧ (Jvm.Cond.and given_1 narrow_1).before args s = true
def lw_Q (_ : Array Value) (s : State) (o : Outcome) (t : State) : Prop := o = .returned (some (.int 1)) ∧ Framed s o t [] room_1.cells room_1.slots
def lw_Z (below : List Frame) (a : Array Value) (s : State) : State → Prop := fun t => ∃ o, t.status = .running ∧ Ended t below o ∧ lw_Q a s o t
/-- the law's own end, with 1 on the stack, nothing written that was there before, its room as the claim has it -/
theorem lw_ret {p : Program} {l : Launch} {e : Env} {s : State} {m : MethodId} {below : List Frame} {meth : Method} {c : Code} {b : Nat} (hx : p.tables.exec = Jvm.exec) (hb : c.code = code) (hr : meth.sig.returnType = ret) (hlocks : meth.locks = false) {pc : Nat} {H : Heap} {ls : Array Slot} (hdg : decode code pc = .ok (.ireturn, 1)) : W p l e room_1 s m #[Value.ref b] below meth c H [] room_1.cells room_1.slots (lw_Z below #[Value.ref b] s) (F0 m pc ls [.int 1]) := by
  intro T hT X
  obtain ⟨fs, hret, hrun, hended, hW, hframe⟩ := X.leave (v := some (.int 1)) (hlocks := hlocks) (fun h => by rw [hr] at h; cases h)
  have hmeth' : T.vm.method? m = some meth := X.method'
  refine ⟨T.setFrames fs, ?_, .returned (some (.int 1)), hrun, hended, rfl, ⟨_, rfl⟩, hW, hframe⟩
  jvm_step X.here [X.here.top, hx, hb, hdg, hmeth', hr, ret, narrow_b1]
  (try refine ⟨rfl, ?_⟩); (try refine ⟨rfl, ?_⟩)
  first | (intro acts; rw [hret _ acts rfl rfl rfl]) | rw [hret _ _ rfl rfl rfl]
  exact Steps.refl _
/-- what holds at the law's entry: the machine, the code, the tables' words (any of lw_tbl by 'hts w (by decide +kernel)'), the script of L ints xs at the cell b, what the Statement gives of the start (any of its parts by flat_of_before) -/
def lw_At (p : Program) (s : State) (m : MethodId) (meth : Method) (c : Code) (b L : Nat) (xs : Nat → Int32) : Prop :=
  p.tables.exec = Jvm.exec ∧ c.code = code ∧ meth.sig.returnType = ret ∧ c.maxLocals = 4 ∧ s.vm.findClass R_law = some m.cls ∧ (∀ w ∈ lw_tbl, w.before #[Value.ref b] s = true) ∧ va_X b L xs s s.heap ∧ b < s.heap.size ∧ meth.locks = false ∧ (Jvm.Cond.and given_1 narrow_1).before #[Value.ref b] s = true
set_option maxHeartbeats 8000000 in
set_option maxRecDepth 100000 in
/-- the law, from its entry -/
theorem whole_start {p : Program} {e : Env} {s : State} {m : MethodId} {below : List Frame} {meth : Method} {c : Code} (l : Launch) {b L : Nat} {xs : Nat → Int32} (hL : L ≤ 3072) (C0 : lw_At p s m meth c b L xs) : W p l e room_1 s m #[Value.ref b] below meth c s.heap [] 0 0 (lw_Z below #[Value.ref b] s) (entryFrame m ([Value.ref b] : List Value).toArray 4) := by
  obtain ⟨hx, hb, hr, hml, hown, hts, hX1, hbl, hlocks, hgv⟩ := id C0
  obtain ⟨A, eA⟩ : ∃ A : Nat → Prop, A = fun q : Nat => s.heap.size ≤ q := ⟨_, rfl⟩
  have hA : ∀ q : Nat, s.heap.size ≤ q → A q := fun _ h => by rw [eA]; exact h
  have hbA : ¬ A b := by rw [eA]; exact Nat.not_le.mpr hbl
  have ht : ∀ w ∈ zTB, w.before #[Value.ref b] s = true := fun w hw => hts w (List.mem_filter.mp hw).1
  have S : CallFix p m c code 4 s #[Value.ref b] zTB "PeerLineLaw" := ⟨hx, hb, hml, hown, ht⟩
  obtain ⟨c0, i0, k0⟩ := u_known (C := R_Bytes) (T := F_Bytes) (N := 3) (n := 3) ht i_Bytes (ht _ m_inst_Bytes)
  obtain ⟨c1, i1, k1⟩ := u_known (C := R_Coming) (T := F_Coming) (N := 3) (n := 3) ht i_Coming (ht _ m_inst_Coming)
  obtain ⟨c2, i2, k2⟩ := u_known (C := R_Pattern) (T := F_Pattern) (N := 3) (n := 3) ht i_Pattern (ht _ m_inst_Pattern)
  obtain ⟨c3, i3, k3⟩ := u_known (C := R_Reader) (T := F_Reader) (N := 3) (n := 3) ht i_Reader (ht _ m_inst_Reader)
  obtain ⟨c4, i4, k4⟩ := u_known (C := R_Rule) (T := F_Rule) (N := 5) (n := 5) ht i_Rule (ht _ m_inst_Rule)
  obtain ⟨c5, i5, k5⟩ := u_known (C := R_Peer) (T := F_Peer) (N := 10) (n := 10) ht i_Peer (ht _ m_inst_Peer)
  obtain ⟨c6, i6, k6⟩ := u_known (C := R_Model) (T := F_Model) (N := 23) (n := 23) ht i_Model (ht _ m_inst_Model)
  obtain ⟨a_byte, ha_byte, hf_byte⟩ := zArrC (ht _ m_arr_byte)
  obtain ⟨a_long, ha_long, hf_long⟩ := zArrC (ht _ m_arr_long)
  obtain ⟨a_boolean, ha_boolean, hf_boolean⟩ := zArrC (ht _ m_arr_boolean)
  obtain ⟨a_int, ha_int, hf_int⟩ := zArrC (ht _ m_arr_int)
  obtain ⟨a_Rule, ha_Rule, hf_Rule⟩ := zArrO (hts (.arrayOver (.object "PeerLine$Rule")) (by decide +kernel))
  obtain ⟨a_Bytes, ha_Bytes, hf_Bytes⟩ := zArrO (hts (.arrayOver (.object "PeerLine$Bytes")) (by decide +kernel))
  have hX : zk_X s := ⟨⟨va_Nw.of rfl (hts (.fieldLinkNest "PeerLine" 150 "PeerLine$Rule" "state" "I" "PeerLine") (by decide +kernel)), va_Nw.of rfl (hts (.fieldLinkNest "PeerLine" 153 "PeerLine$Rule" "pattern" "LPeerLine$Pattern;" "PeerLine") (by decide +kernel)), va_Nw.of rfl (hts (.fieldLinkNest "PeerLine" 161 "PeerLine$Rule" "next" "I" "PeerLine") (by decide +kernel)), va_Nw.of rfl (hts (.fieldLinkNest "PeerLine" 164 "PeerLine$Rule" "delay" "I" "PeerLine") (by decide +kernel)), va_Nw.of rfl (hts (.fieldLinkNest "PeerLine" 167 "PeerLine$Rule" "answer" "LPeerLine$Bytes;" "PeerLine") (by decide +kernel))⟩, va_AO.of (hts (.arrayOver (.object "PeerLine$Rule")) (by decide +kernel)), va_AO.of (hts (.arrayOver (.object "PeerLine$Bytes")) (by decide +kernel))⟩
  obtain ⟨D, hKc⟩ : ∃ D : va_G, ∀ (k : Nat) (q : vw_C), classes[k]? = some q → u_Kn s q.1 q.2.1 q.2.2 (D.1 k) (D.2 k) := by
    refine ⟨(fun k => match k with | 0 => c0 | 1 => c1 | 2 => c2 | 3 => c3 | 4 => c4 | 5 => c5 | _ => c6, fun k => match k with | 0 => i0 | 1 => i1 | 2 => i2 | 3 => i3 | 4 => i4 | 5 => i5 | _ => i6), ?_⟩
    intro k q hq
    match k, hq with
    | 0, hq => cases hq; exact k0
    | 1, hq => cases hq; exact k1
    | 2, hq => cases hq; exact k2
    | 3, hq => cases hq; exact k3
    | 4, hq => cases hq; exact k4
    | 5, hq => cases hq; exact k5
    | 6, hq => cases hq; exact k6
    | k + 7, hq => simp [classes] at hq
  obtain ⟨kA, hKt⟩ : ∃ kA : Nat → ClassId, ∀ (k : Nat) (q : ClassId × FieldType), (zTY kA)[k]? = some q → ArrOfT s q.1 q.2 ∧ va_RA s q.1 q.2 := by
    refine ⟨fun k => match k with | 0 => a_byte | 1 => a_long | 2 => a_boolean | 3 => a_int | 4 => a_Rule | _ => a_Bytes, ?_⟩
    intro k q hq
    match k, hq with
    | 0, hq => cases hq; exact ⟨ha_byte, hf_byte⟩
    | 1, hq => cases hq; exact ⟨ha_long, hf_long⟩
    | 2, hq => cases hq; exact ⟨ha_boolean, hf_boolean⟩
    | 3, hq => cases hq; exact ⟨ha_int, hf_int⟩
    | 4, hq => cases hq; exact ⟨ha_Rule, hf_Rule⟩
    | 5, hq => cases hq; exact ⟨ha_Bytes, hf_Bytes⟩
    | k + 6, hq => simp [zTY] at hq
  have hK : va_K D classes (zTY kA) s := ⟨hKc, hKt⟩
  have hS : va_S A s.heap s.heap [] := va_S.rf
  have hP : va_P D classes [] s.heap := fun k q h => by simp at h
  have hD : va_D A [] := ⟨fun i j p q h => by simp at h, fun k q h => by simp at h⟩
  have hl := lv_entry ([.ref b]) (n := 4) (Nat.le_of_ble_eq_true rfl)
  rw [lg_entry_eq]
  generalize (lg_sl ([.ref b]) ++ List.replicate (4 - (lg_sl ([.ref b])).length) Slot.unset).toArray = ls at hl ⊢
  have hl : lv_has ls 4 [(0, .ref b)] := hl
  refine va_new (ci := 5) (fs := [.null, .null, .null, .null, .null, .null, .int 0, .int 0, .int 0, .long 0]) (C := R_Peer) (T := F_Peer) (N := 10) hx hb ht i_Peer t_Peer t_Peer_ok hown (ht _ m_law_7) (ht _ m_inst_Peer) (ht _ m_ini_Peer) hK hP hD hS hA rfl (fun j hj => by rcases (show j = 0 ∨ j = 1 ∨ j = 2 ∨ j = 3 ∨ j = 4 ∨ j = 5 ∨ j = 6 ∨ j = 7 ∨ j = 8 ∨ j = 9 by omega) with rfl | rfl | rfl | rfl | rfl | rfl | rfl | rfl | rfl | rfl <;> rfl) (by
    have h9 := zRoomC
    omega) (by
    have h9 := zRoomS
    omega) d_law_0 (fun x H hP hD hS => ?_)
  have hP : va_P D classes [(x, .inr (5, [.null, .null, .null, .null, .null, .null, .int 0, .int 0, .int 0, .long 0]))] H := hP
  have hD : va_D A [(x, .inr (5, [.null, .null, .null, .null, .null, .null, .int 0, .int 0, .int 0, .long 0]))] := hD
  refine lv_dup hx hb d_law_3 rfl ?_
  have hFc := va_free (wc := [(x, .inr (5, [.null, .null, .null, .null, .null, .null, .int 0, .int 0, .int 0, .long 0]))]) hD hS hA [0] rfl
  refine zk_mut (zk_runI (As := []) (rest := [.ref x]) S m_law_9 (c_Peer_init l D kA x H.size) rfl rfl ⟨Nat.le_of_ble_eq_true rfl, Nat.le_of_ble_eq_true rfl⟩ hK hX ⟨rfl, hP.sub (ws' := [(x, .inr (5, [.null, .null, .null, .null, .null, .null, .int 0, .int 0, .int 0, .long 0]))]) [0] rfl, (hD.sub (ws' := [(x, .inr (5, [.null, .null, .null, .null, .null, .null, .int 0, .int 0, .int 0, .long 0]))]) [0] (by decide) rfl).weaken (fun _ _ _ _ => trivial)⟩ rfl hl.1 rfl (Nat.le_of_ble_eq_true rfl) ⟨by
    have h9 := zRoomC
    omega, by
    have h9 := zRoomS
    omega⟩ d_law_4) hS hFc hFc (fun v H locs hpost hz1 hk1 hS => ?_)
  obtain ⟨rfl, tp, ln, bf, tr, ru, co, ct, ca, rp, rl, rb, rt, fp, fl, fb, ft, f, g, hP1, hD1, b1, b2, b3, b4⟩ := hpost
  obtain ⟨hP, hD⟩ := va_join (wr := []) (w1 := [(x, .inr (5, [.ref tp, .ref ln, .ref bf, .ref tr, .ref ru, .ref co, .int (nI 0), .int 0, .int (nI 0), .long (lN 0)])), (tp, .inr (0, [.int (nI 1024), .ref rp, .int (nI ([] : List Nat).length)])), (rp, .inl ((kA 0), 64, .inl fp)), (ln, .inr (0, [.int (nI 1024), .ref rl, .int (nI ([] : List Nat).length)])), (rl, .inl ((kA 0), 64, .inl fl)), (bf, .inr (0, [.int (nI 1024), .ref rb, .int (nI ([] : List Nat).length)])), (rb, .inl ((kA 0), 64, .inl fb)), (tr, .inr (0, [.int (nI 32768), .ref rt, .int (nI ([] : List Nat).length)])), (rt, .inl ((kA 0), 64, .inl ft)), (ru, .inl ((kA 4), 64, .inr (.inr (.inr (.inr (fun _ => none)))))), (co, .inr (1, [.ref ct, .ref ca, .int (nI ([] : List (Nat × Nat)).length)])), (ct, .inl ((kA 1), 64, .inr (.inl f))), (ca, .inl ((kA 5), 64, .inr (.inr (.inr (.inr g)))))]) hP hD [0] [] rfl rfl (by decide) (by decide) hk1 hFc hP1 hD1
  refine W.eq (g2 := F0 m 7 ls [.ref x]) rfl ?_
  have hP : va_P D classes [(x, .inr (5, [.ref tp, .ref ln, .ref bf, .ref tr, .ref ru, .ref co, .int (nI 0), .int 0, .int (nI 0), .long (lN 0)])), (tp, .inr (0, [.int (nI 1024), .ref rp, .int (nI ([] : List Nat).length)])), (rp, .inl ((kA 0), 64, .inl fp)), (ln, .inr (0, [.int (nI 1024), .ref rl, .int (nI ([] : List Nat).length)])), (rl, .inl ((kA 0), 64, .inl fl)), (bf, .inr (0, [.int (nI 1024), .ref rb, .int (nI ([] : List Nat).length)])), (rb, .inl ((kA 0), 64, .inl fb)), (tr, .inr (0, [.int (nI 32768), .ref rt, .int (nI ([] : List Nat).length)])), (rt, .inl ((kA 0), 64, .inl ft)), (ru, .inl ((kA 4), 64, .inr (.inr (.inr (.inr (fun _ => none)))))), (co, .inr (1, [.ref ct, .ref ca, .int (nI ([] : List (Nat × Nat)).length)])), (ct, .inl ((kA 1), 64, .inr (.inl f))), (ca, .inl ((kA 5), 64, .inr (.inr (.inr (.inr g)))))] H := hP
  have hD : va_D A [(x, .inr (5, [.ref tp, .ref ln, .ref bf, .ref tr, .ref ru, .ref co, .int (nI 0), .int 0, .int (nI 0), .long (lN 0)])), (tp, .inr (0, [.int (nI 1024), .ref rp, .int (nI ([] : List Nat).length)])), (rp, .inl ((kA 0), 64, .inl fp)), (ln, .inr (0, [.int (nI 1024), .ref rl, .int (nI ([] : List Nat).length)])), (rl, .inl ((kA 0), 64, .inl fl)), (bf, .inr (0, [.int (nI 1024), .ref rb, .int (nI ([] : List Nat).length)])), (rb, .inl ((kA 0), 64, .inl fb)), (tr, .inr (0, [.int (nI 32768), .ref rt, .int (nI ([] : List Nat).length)])), (rt, .inl ((kA 0), 64, .inl ft)), (ru, .inl ((kA 4), 64, .inr (.inr (.inr (.inr (fun _ => none)))))), (co, .inr (1, [.ref ct, .ref ca, .int (nI ([] : List (Nat × Nat)).length)])), (ct, .inl ((kA 1), 64, .inr (.inl f))), (ca, .inl ((kA 5), 64, .inr (.inr (.inr (.inr g)))))] := hD
  refine lv_astore_n (lv' := [(1, .ref x), (0, .ref b)]) hx hb d_law_7 rfl hl (by decide) rfl (fun ls hl => ?_)
  refine va_new (ci := 6) (fs := [.null, .int 0, .int 0, .null, .null, .null, .null, .null, .null, .null, .int 0, .int 0, .int 0, .null, .int 0, .null, .null, .long 0, .int 0, .int 0, .null, .null, .null]) (C := R_Model) (T := F_Model) (N := 23) hx hb ht i_Model t_Model t_Model_ok hown (ht _ m_law_10) (ht _ m_inst_Model) (ht _ m_ini_Model) hK hP hD hS hA rfl (fun j hj => by rcases (show j = 0 ∨ j = 1 ∨ j = 2 ∨ j = 3 ∨ j = 4 ∨ j = 5 ∨ j = 6 ∨ j = 7 ∨ j = 8 ∨ j = 9 ∨ j = 10 ∨ j = 11 ∨ j = 12 ∨ j = 13 ∨ j = 14 ∨ j = 15 ∨ j = 16 ∨ j = 17 ∨ j = 18 ∨ j = 19 ∨ j = 20 ∨ j = 21 ∨ j = 22 by omega) with rfl | rfl | rfl | rfl | rfl | rfl | rfl | rfl | rfl | rfl | rfl | rfl | rfl | rfl | rfl | rfl | rfl | rfl | rfl | rfl | rfl | rfl | rfl <;> rfl) (by
    have h9 := zRoomC
    omega) (by
    have h9 := zRoomS
    omega) d_law_8 (fun y H hP hD hS => ?_)
  have hP : va_P D classes [(x, .inr (5, [.ref tp, .ref ln, .ref bf, .ref tr, .ref ru, .ref co, .int (nI 0), .int 0, .int (nI 0), .long (lN 0)])), (tp, .inr (0, [.int (nI 1024), .ref rp, .int (nI ([] : List Nat).length)])), (rp, .inl ((kA 0), 64, .inl fp)), (ln, .inr (0, [.int (nI 1024), .ref rl, .int (nI ([] : List Nat).length)])), (rl, .inl ((kA 0), 64, .inl fl)), (bf, .inr (0, [.int (nI 1024), .ref rb, .int (nI ([] : List Nat).length)])), (rb, .inl ((kA 0), 64, .inl fb)), (tr, .inr (0, [.int (nI 32768), .ref rt, .int (nI ([] : List Nat).length)])), (rt, .inl ((kA 0), 64, .inl ft)), (ru, .inl ((kA 4), 64, .inr (.inr (.inr (.inr (fun _ => none)))))), (co, .inr (1, [.ref ct, .ref ca, .int (nI ([] : List (Nat × Nat)).length)])), (ct, .inl ((kA 1), 64, .inr (.inl f))), (ca, .inl ((kA 5), 64, .inr (.inr (.inr (.inr g))))), (y, .inr (6, [.null, .int 0, .int 0, .null, .null, .null, .null, .null, .null, .null, .int 0, .int 0, .int 0, .null, .int 0, .null, .null, .long 0, .int 0, .int 0, .null, .null, .null]))] H := hP
  have hD : va_D A [(x, .inr (5, [.ref tp, .ref ln, .ref bf, .ref tr, .ref ru, .ref co, .int (nI 0), .int 0, .int (nI 0), .long (lN 0)])), (tp, .inr (0, [.int (nI 1024), .ref rp, .int (nI ([] : List Nat).length)])), (rp, .inl ((kA 0), 64, .inl fp)), (ln, .inr (0, [.int (nI 1024), .ref rl, .int (nI ([] : List Nat).length)])), (rl, .inl ((kA 0), 64, .inl fl)), (bf, .inr (0, [.int (nI 1024), .ref rb, .int (nI ([] : List Nat).length)])), (rb, .inl ((kA 0), 64, .inl fb)), (tr, .inr (0, [.int (nI 32768), .ref rt, .int (nI ([] : List Nat).length)])), (rt, .inl ((kA 0), 64, .inl ft)), (ru, .inl ((kA 4), 64, .inr (.inr (.inr (.inr (fun _ => none)))))), (co, .inr (1, [.ref ct, .ref ca, .int (nI ([] : List (Nat × Nat)).length)])), (ct, .inl ((kA 1), 64, .inr (.inl f))), (ca, .inl ((kA 5), 64, .inr (.inr (.inr (.inr g))))), (y, .inr (6, [.null, .int 0, .int 0, .null, .null, .null, .null, .null, .null, .null, .int 0, .int 0, .int 0, .null, .int 0, .null, .null, .long 0, .int 0, .int 0, .null, .null, .null]))] := hD
  refine lv_dup hx hb d_law_11 rfl ?_
  have hFc := va_free (wc := [(y, .inr (6, [.null, .int 0, .int 0, .null, .null, .null, .null, .null, .null, .null, .int 0, .int 0, .int 0, .null, .int 0, .null, .null, .long 0, .int 0, .int 0, .null, .null, .null]))]) hD hS hA [13] rfl
  refine zk_mut (zk_runI (As := []) (rest := [.ref y]) S m_law_12 (c_Model_init l D kA y H.size) rfl rfl ⟨Nat.le_of_ble_eq_true rfl, Nat.le_of_ble_eq_true rfl⟩ hK hX ⟨rfl, hP.sub (ws' := [(y, .inr (6, [.null, .int 0, .int 0, .null, .null, .null, .null, .null, .null, .null, .int 0, .int 0, .int 0, .null, .int 0, .null, .null, .long 0, .int 0, .int 0, .null, .null, .null]))]) [13] rfl, (hD.sub (ws' := [(y, .inr (6, [.null, .int 0, .int 0, .null, .null, .null, .null, .null, .null, .null, .int 0, .int 0, .int 0, .null, .int 0, .null, .null, .long 0, .int 0, .int 0, .null, .null, .null]))]) [13] (by decide) rfl).weaken (fun _ _ _ _ => trivial)⟩ rfl hl.1 rfl (Nat.le_of_ble_eq_true rfl) ⟨by
    have h9 := zRoomC
    omega, by
    have h9 := zRoomS
    omega⟩ d_law_12) hS hFc hFc (fun v H locs hpost hz1 hk1 hS => ?_)
  obtain ⟨rfl, mt, m1, m2, m3, m4, m5, mP, mA, ml, mw, mh, mb, mr, mf, hP1, hD1⟩ := hpost
  obtain ⟨hP, hD⟩ := va_join (wr := [(x, .inr (5, [.ref tp, .ref ln, .ref bf, .ref tr, .ref ru, .ref co, .int (nI 0), .int 0, .int (nI 0), .long (lN 0)])), (tp, .inr (0, [.int (nI 1024), .ref rp, .int (nI ([] : List Nat).length)])), (rp, .inl ((kA 0), 64, .inl fp)), (ln, .inr (0, [.int (nI 1024), .ref rl, .int (nI ([] : List Nat).length)])), (rl, .inl ((kA 0), 64, .inl fl)), (bf, .inr (0, [.int (nI 1024), .ref rb, .int (nI ([] : List Nat).length)])), (rb, .inl ((kA 0), 64, .inl fb)), (tr, .inr (0, [.int (nI 32768), .ref rt, .int (nI ([] : List Nat).length)])), (rt, .inl ((kA 0), 64, .inl ft)), (ru, .inl ((kA 4), 64, .inr (.inr (.inr (.inr (fun _ => none)))))), (co, .inr (1, [.ref ct, .ref ca, .int (nI ([] : List (Nat × Nat)).length)])), (ct, .inl ((kA 1), 64, .inr (.inl f))), (ca, .inl ((kA 5), 64, .inr (.inr (.inr (.inr g)))))]) (w1 := [(y, .inr (6, [.ref mt, .int 0, .int 0, .ref m1, .ref m2, .ref m3, .ref m4, .ref m5, .ref mP, .ref mA, .int 0, .int 0, .int 0, .ref ml, .int 0, .ref mw, .ref mh, .long 0, .int 0, .int 0, .ref mb, .ref mr, .ref mf])), (mt, .inl ((kA 0), 1024, .inl (fun _ => 0))), (m1, .inl ((kA 3), 64, .inl (fun _ => 0))), (m2, .inl ((kA 3), 64, .inl (fun _ => 0))), (m3, .inl ((kA 3), 64, .inl (fun _ => 0))), (m4, .inl ((kA 3), 64, .inl (fun _ => 0))), (m5, .inl ((kA 3), 64, .inl (fun _ => 0))), (mP, .inl ((kA 0), 12800, .inl (fun _ => 0))), (mA, .inl ((kA 0), 12800, .inl (fun _ => 0))), (ml, .inl ((kA 0), 1024, .inl (fun _ => 0))), (mw, .inl ((kA 1), 64, .inr (.inl (fun _ => 0)))), (mh, .inl ((kA 3), 64, .inl (fun _ => 0))), (mb, .inl ((kA 0), 1024, .inl (fun _ => 0))), (mr, .inl ((kA 0), 32768, .inl (fun _ => 0))), (mf, .inl ((kA 2), 1025, .inl (fun _ => 0)))]) hP hD [13] [0, 1, 2, 3, 4, 5, 6, 7, 8, 9, 10, 11, 12] rfl rfl (by decide) (by decide) hk1 hFc hP1 hD1
  refine W.eq (g2 := F0 m 15 ls [.ref y]) rfl ?_
  have hP : va_P D classes [(x, .inr (5, [.ref tp, .ref ln, .ref bf, .ref tr, .ref ru, .ref co, .int (nI 0), .int 0, .int (nI 0), .long (lN 0)])), (tp, .inr (0, [.int (nI 1024), .ref rp, .int (nI ([] : List Nat).length)])), (rp, .inl ((kA 0), 64, .inl fp)), (ln, .inr (0, [.int (nI 1024), .ref rl, .int (nI ([] : List Nat).length)])), (rl, .inl ((kA 0), 64, .inl fl)), (bf, .inr (0, [.int (nI 1024), .ref rb, .int (nI ([] : List Nat).length)])), (rb, .inl ((kA 0), 64, .inl fb)), (tr, .inr (0, [.int (nI 32768), .ref rt, .int (nI ([] : List Nat).length)])), (rt, .inl ((kA 0), 64, .inl ft)), (ru, .inl ((kA 4), 64, .inr (.inr (.inr (.inr (fun _ => none)))))), (co, .inr (1, [.ref ct, .ref ca, .int (nI ([] : List (Nat × Nat)).length)])), (ct, .inl ((kA 1), 64, .inr (.inl f))), (ca, .inl ((kA 5), 64, .inr (.inr (.inr (.inr g))))), (y, .inr (6, [.ref mt, .int 0, .int 0, .ref m1, .ref m2, .ref m3, .ref m4, .ref m5, .ref mP, .ref mA, .int 0, .int 0, .int 0, .ref ml, .int 0, .ref mw, .ref mh, .long 0, .int 0, .int 0, .ref mb, .ref mr, .ref mf])), (mt, .inl ((kA 0), 1024, .inl (fun _ => 0))), (m1, .inl ((kA 3), 64, .inl (fun _ => 0))), (m2, .inl ((kA 3), 64, .inl (fun _ => 0))), (m3, .inl ((kA 3), 64, .inl (fun _ => 0))), (m4, .inl ((kA 3), 64, .inl (fun _ => 0))), (m5, .inl ((kA 3), 64, .inl (fun _ => 0))), (mP, .inl ((kA 0), 12800, .inl (fun _ => 0))), (mA, .inl ((kA 0), 12800, .inl (fun _ => 0))), (ml, .inl ((kA 0), 1024, .inl (fun _ => 0))), (mw, .inl ((kA 1), 64, .inr (.inl (fun _ => 0)))), (mh, .inl ((kA 3), 64, .inl (fun _ => 0))), (mb, .inl ((kA 0), 1024, .inl (fun _ => 0))), (mr, .inl ((kA 0), 32768, .inl (fun _ => 0))), (mf, .inl ((kA 2), 1025, .inl (fun _ => 0)))] H := hP
  have hD : va_D A [(x, .inr (5, [.ref tp, .ref ln, .ref bf, .ref tr, .ref ru, .ref co, .int (nI 0), .int 0, .int (nI 0), .long (lN 0)])), (tp, .inr (0, [.int (nI 1024), .ref rp, .int (nI ([] : List Nat).length)])), (rp, .inl ((kA 0), 64, .inl fp)), (ln, .inr (0, [.int (nI 1024), .ref rl, .int (nI ([] : List Nat).length)])), (rl, .inl ((kA 0), 64, .inl fl)), (bf, .inr (0, [.int (nI 1024), .ref rb, .int (nI ([] : List Nat).length)])), (rb, .inl ((kA 0), 64, .inl fb)), (tr, .inr (0, [.int (nI 32768), .ref rt, .int (nI ([] : List Nat).length)])), (rt, .inl ((kA 0), 64, .inl ft)), (ru, .inl ((kA 4), 64, .inr (.inr (.inr (.inr (fun _ => none)))))), (co, .inr (1, [.ref ct, .ref ca, .int (nI ([] : List (Nat × Nat)).length)])), (ct, .inl ((kA 1), 64, .inr (.inl f))), (ca, .inl ((kA 5), 64, .inr (.inr (.inr (.inr g))))), (y, .inr (6, [.ref mt, .int 0, .int 0, .ref m1, .ref m2, .ref m3, .ref m4, .ref m5, .ref mP, .ref mA, .int 0, .int 0, .int 0, .ref ml, .int 0, .ref mw, .ref mh, .long 0, .int 0, .int 0, .ref mb, .ref mr, .ref mf])), (mt, .inl ((kA 0), 1024, .inl (fun _ => 0))), (m1, .inl ((kA 3), 64, .inl (fun _ => 0))), (m2, .inl ((kA 3), 64, .inl (fun _ => 0))), (m3, .inl ((kA 3), 64, .inl (fun _ => 0))), (m4, .inl ((kA 3), 64, .inl (fun _ => 0))), (m5, .inl ((kA 3), 64, .inl (fun _ => 0))), (mP, .inl ((kA 0), 12800, .inl (fun _ => 0))), (mA, .inl ((kA 0), 12800, .inl (fun _ => 0))), (ml, .inl ((kA 0), 1024, .inl (fun _ => 0))), (mw, .inl ((kA 1), 64, .inr (.inl (fun _ => 0)))), (mh, .inl ((kA 3), 64, .inl (fun _ => 0))), (mb, .inl ((kA 0), 1024, .inl (fun _ => 0))), (mr, .inl ((kA 0), 32768, .inl (fun _ => 0))), (mf, .inl ((kA 2), 1025, .inl (fun _ => 0)))] := hD
  refine lv_astore_n (lv' := [(2, .ref y), (1, .ref x), (0, .ref b)]) hx hb d_law_15 rfl hl (by decide) rfl (fun ls hl => ?_)
  refine lv_iconst (v := 0) hx hb d_law_16 (by decide) ?_
  refine zk_ti (z := nI (6 * 0)) (rfl) ?_
  refine lv_istore_n (lv' := [(3, .int (nI (6 * 0))), (2, .ref y), (1, .ref x), (0, .ref b)]) hx hb d_law_17 rfl hl (by decide) rfl (fun ls hl => ?_)
  have hEnd : ∀ (H : Heap) (locs : List Loc) (cc ss : Nat) (ls : Array Slot), cc ≤ 200000 → ss ≤ 3500000 → va_S A s.heap H locs → W p l e room_1 s m #[Value.ref b] below meth c H locs cc ss (lw_Z below #[Value.ref b] s) (F0 m 483 ls []) := by
    intro H locs cc ss ls hc9 hs9 hS
    refine lv_iconst (v := 1) hx hb d_law_483 (by decide) ?_
    refine va_forget (fun q hq => by have := hS.2.2 q hq; rw [eA] at this; exact this) ?_
    refine W.widen (k := room_1.cells) (n := room_1.slots) (Nat.le_trans hc9 zRoomC) (Nat.le_trans hs9 zRoomS) ?_
    exact lw_ret hx hb hr hlocks d_law_484
  have hI : zInv D kA A H x y 0 (0 + 1 + 12 + 1 + 14) (0 + 10 + 463 + 23 + 62913) := fun P9 h9 => h9 tp ln bf tr ru co ct ca rp 64 rl 64 rb 64 rt 64 fp fl fb ft f g (fun _ => none) [] (fun _ => 0) [] [] [] [] [] 0 0 0 (fun _ => False) mt m1 m2 m3 m4 m5 mP mA ml mw mh mb mr mf (fun _ => 0) (fun _ => 0) (fun _ => 0) (fun _ => 0) (fun _ => 0) (fun _ => 0) (fun _ => 0) (fun _ => 0) (fun _ => 0) (fun _ => 0) (fun _ => 0) (fun _ => 0) (fun _ => 0) (fun _ => 0) (hP.sub [0, 1, 2, 3, 4, 5, 6, 7, 8, 9, 10, 11, 12, 13, 14, 15, 16, 17, 18, 19, 20, 21, 22, 23, 24, 25, 26, 27] rfl) (hD.sub [0, 1, 2, 3, 4, 5, 6, 7, 8, 9, 10, 11, 12, 13, 14, 15, 16, 17, 18, 19, 20, 21, 22, 23, 24, 25, 26, 27] (by decide) rfl) b1 b2 b3 b4 (fun i hi => absurd hi (by rw [zC_len]; exact Nat.not_lt_zero i)) ⟨Nat.zero_le _, fun q hq => absurd hq List.not_mem_nil⟩ (fun i hi => absurd hi (Nat.not_lt_zero i)) (fun q hq => hq.elim) zRw_nil zRw_nil zRw_nil zRw_nil (fun i hi => absurd hi (Nat.not_lt_zero i)) ⟨Nat.zero_le _, fun r hr => absurd hr (Nat.not_lt_zero r)⟩ (Or.inl rfl) (Nat.zero_le _) (Nat.zero_le _) (fun q hq => absurd hq List.not_mem_nil) (by omega) (by omega)
  exact law_loop hL S hK hX hX1 hbl hbA hA hEnd (L + 1) 0 (Nat.zero_le L) (by omega) _ _ _ _ hI hS ls (lv_sub hl [3, 2, 1, 0] rfl)
