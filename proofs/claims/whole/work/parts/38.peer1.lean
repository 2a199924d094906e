theorem zCapN_add {lim n sz : Nat} : ∀ (k i : Nat), zCapN lim n sz (i + k) = zCapN lim (zCapN lim n sz i) (sz + i) k := by
  intro k
  induction k with
  | zero => intro i; rfl
  | succ k ih =>
    intro i
    show zCap lim (zCapN lim n sz (i + k)) (sz + (i + k)) = zCap lim (zCapN lim (zCapN lim n sz i) (sz + i) k) (sz + i + k)
    rw [ih i, Nat.add_assoc]
/-- a thing on the transcript: its kind, its bytes, a newline or none -/
def zThing (kd : Nat) (os : List Nat) (nl : Bool) : List Nat := kd :: (os ++ if nl then [10] else [])
def zTell (trs : List Nat) (th : List Nat) : List Nat := if trs.length + th.length ≤ 32768 then trs ++ th else trs
def zTellN (n : Nat) (trs th : List Nat) : Nat := if trs.length + th.length ≤ 32768 then zCapN 32768 n trs.length th.length else n
set_option maxHeartbeats 4000000 in
set_option maxRecDepth 100000 in
/-- PeerLine.isState(n) -/
theorem c_Peer_isState (l : Launch) (D : va_G) (kA : Nat → ClassId) (x : Int32) : Met l y_Peer_isState (Cond.code y_Peer_isState b_Peer_isState 1 (some .boolean) :: zTB) { frames := 0, cells := 0, slots := 0, locals := 0 } (zk_Pc D classes (zTY kA) [.int x] (fun H => True)) (zk_pE (fun v => (∃ k, k ≤ 31 ∧ x = nI k ∧ v = .int 1) ∨ ((∀ k, k ≤ 31 → x ≠ nI k) ∧ v = .int 0))) 0 0 zk_no := by
  refine zk_of [.int x] (by decide) (Nat.le_of_ble_eq_true rfl) ?_
  intro p e s m below meth c S hr hlk hnm hK hX hpre ls hl
  obtain ⟨hx, hb, hml, hown, ht⟩ := id S
  have hl : lv_has ls 1 [(0, .int x)] := hl
  refine lv_iload_n hx hb d_Peer_isState_0 rfl (lv_at hl 0 rfl) ?_
  refine lv_if_lt (tgt := 14) hx hb d_Peer_isState_1 (by decide) (fun c1 => ?_) (fun c1 => ?_)
  · refine lv_iconst (v := 0) hx hb d_Peer_isState_14 (by decide) ?_
    exact zk_retzE S hr (by decide) hlk (Or.inr ⟨fun k hk q => absurd c1 (by rw [q]; exact nI_pos (by omega)), rfl⟩) d_Peer_isState_15
  · refine lv_iload_n hx hb d_Peer_isState_4 rfl (lv_at hl 0 rfl) ?_
    refine lv_bipush (v := 31) hx hb d_Peer_isState_5 (by decide) ?_
    refine lv_icmp_gt (tgt := 14) hx hb d_Peer_isState_7 (by decide) (fun c7 => ?_) (fun c7 => ?_)
    · refine lv_iconst (v := 0) hx hb d_Peer_isState_14 (by decide) ?_
      exact zk_retzE S hr (by decide) hlk (Or.inr ⟨fun k hk q => absurd c7 (by rw [q]; exact nI_nlt (a := 31) (show k ≤ 31 from hk) (by omega)), rfl⟩) d_Peer_isState_15
    · refine lv_iconst (v := 1) hx hb d_Peer_isState_10 (by decide) ?_
      refine lv_goto (tgt := 15) hx hb d_Peer_isState_11 (by decide) ?_
      obtain ⟨k, hk, ex⟩ := nI_of2 (n := 31) (M := 31) (by decide) c1 (Int32.not_lt.mp c7)
      exact zk_retzE S hr (by decide) hlk (Or.inl ⟨k, hk, ex, rfl⟩) d_Peer_isState_15

set_option maxHeartbeats 4000000 in
set_option maxRecDepth 100000 in
/-- PeerLine.tapeIsRule(zeroAt) -/
theorem c_Peer_tapeIsRule (l : Launch) (D : va_G) (kA : Nat → ClassId) (Z : Nat → Prop) (x tp ln bf tr ru co : Nat) (rc hp st : Int32) (tm : Int64) (lim : Nat) (bs : List Nat) (zz : Option Nat) (hzz : ∀ k, zz = some k → k < bs.length) : Met l y_Peer_tapeIsRule (Cond.code y_Peer_tapeIsRule b_Peer_tapeIsRule 2 (some .boolean) :: zTB) { frames := 1, cells := 0, slots := 0, locals := 20 } (zk_Pc D classes (zTY kA) [.ref x, .int (zI zz)] (fun H => va_at D classes (x, .inr (5, [.ref tp, .ref ln, .ref bf, .ref tr, .ref ru, .ref co, .int rc, .int hp, .int st, .long tm])) H ∧ BsAt D kA Z H tp lim bs)) (zk_pE (fun v => (∃ k, zz = some k ∧ k ≤ 200 ∧ bs.length - k - 1 ≤ 200 ∧ v = .int 1) ∨ ((∀ k, zz = some k → ¬ (k ≤ 200 ∧ bs.length - k - 1 ≤ 200)) ∧ v = .int 0))) 0 0 zk_no := by
  refine zk_of [.ref x, .int (zI zz)] (by decide) (Nat.le_of_ble_eq_true rfl) ?_
  intro p e s m below meth c S hr hlk hnm hK hX hpre ls hl
  obtain ⟨hx, hb, hml, hown, ht⟩ := id S
  obtain ⟨hx0, hO⟩ := hpre
  obtain ⟨ro, no, fo, hzo1, hzo2, hO1, hO2, hO3⟩ := id hO
  obtain ⟨g1, g2, g3, g4, g5⟩ := id hO3
  have hl : lv_has ls 2 [(0, .ref x), (1, .int (zI zz))] := hl
  rcases zz with _ | k
  · have hl : lv_has ls 2 [(0, .ref x), (1, .int (-1))] := hl
    refine lv_iload_n hx hb d_Peer_tapeIsRule_0 rfl (lv_at hl 1 rfl) ?_
    refine lv_if_lt (tgt := 32) hx hb d_Peer_tapeIsRule_1 (by decide) (fun c1 => ?_) (fun c1 => ?_)
    · refine lv_iconst (v := 0) hx hb d_Peer_tapeIsRule_32 (by decide) ?_
      exact zk_retzE S hr (by decide) hlk (Or.inr ⟨fun k hk => (by cases hk), rfl⟩) d_Peer_tapeIsRule_33
    · exact absurd (show (-1 : Int32) < 0 by decide) c1
  · have hl : lv_has ls 2 [(0, .ref x), (1, .int (nI k))] := hl
    have hkl := hzz k rfl
    refine lv_iload_n hx hb d_Peer_tapeIsRule_0 rfl (lv_at hl 1 rfl) ?_
    refine lv_if_lt (tgt := 32) hx hb d_Peer_tapeIsRule_1 (by decide) (fun c1 => ?_) (fun c1 => ?_)
    · exact absurd c1 (nI_pos (by omega))
    · refine lv_iload_n hx hb d_Peer_tapeIsRule_4 rfl (lv_at hl 1 rfl) ?_
      refine lv_sipush (v := 200) hx hb d_Peer_tapeIsRule_5 (by decide) ?_
      refine lv_icmp_gt (tgt := 32) hx hb d_Peer_tapeIsRule_8 (by decide) (fun c8 => ?_) (fun c8 => ?_)
      · refine lv_iconst (v := 0) hx hb d_Peer_tapeIsRule_32 (by decide) ?_
        exact zk_retzE S hr (by decide) hlk (Or.inr ⟨fun k2 hk q => (by cases hk; exact absurd c8 (nI_nlt (a := 200) (show k ≤ 200 from q.1) (by omega))), rfl⟩) d_Peer_tapeIsRule_33
      · refine lv_aload_n hx hb d_Peer_tapeIsRule_11 rfl (lv_at hl 0 rfl) ?_
        refine zk_get (C := R_Peer) (T := F_Peer) (N := 10) S hK hx0 rfl i_Peer 0 (by decide) m_Peer_14 rfl rfl d_Peer_tapeIsRule_12 ?_
        refine zk_pure (zk_runV (As := []) (rest := []) S m_Peer_121 (c_Bytes_size l D kA Z tp lim bs) rfl rfl ⟨Nat.le_of_ble_eq_true rfl, Nat.le_of_ble_eq_true rfl⟩ hK hX (zk_recv hK hO1 rfl) (hO) rfl hl.1 rfl (Nat.le_of_ble_eq_true rfl) ⟨Nat.le_of_ble_eq_true rfl, Nat.le_of_ble_eq_true rfl⟩ d_Peer_tapeIsRule_15) ?_
        refine lv_iload_n hx hb d_Peer_tapeIsRule_18 rfl (lv_at hl 1 rfl) ?_
        refine lv_isub hx hb d_Peer_tapeIsRule_19 ?_
        refine zk_ti (z := nI (bs.length - k)) (pk_sub (by omega)) ?_
        refine lv_iconst (v := 1) hx hb d_Peer_tapeIsRule_20 (by decide) ?_
        refine lv_isub hx hb d_Peer_tapeIsRule_21 ?_
        refine zk_ti (z := nI (bs.length - k - 1)) (by rw [show (1 : Int32) = nI 1 from rfl]; exact pk_sub (by omega)) ?_
        refine lv_sipush (v := 200) hx hb d_Peer_tapeIsRule_22 (by decide) ?_
        refine lv_icmp_gt (tgt := 32) hx hb d_Peer_tapeIsRule_25 (by decide) (fun c25 => ?_) (fun c25 => ?_)
        · refine lv_iconst (v := 0) hx hb d_Peer_tapeIsRule_32 (by decide) ?_
          exact zk_retzE S hr (by decide) hlk (Or.inr ⟨fun k2 hk q => (by cases hk; exact absurd c25 (nI_nlt (a := 200) (show bs.length - k - 1 ≤ 200 from q.2) (by omega))), rfl⟩) d_Peer_tapeIsRule_33
        · refine lv_iconst (v := 1) hx hb d_Peer_tapeIsRule_28 (by decide) ?_
          refine lv_goto (tgt := 33) hx hb d_Peer_tapeIsRule_29 (by decide) ?_
          exact zk_retzE S hr (by decide) hlk (Or.inl ⟨k, rfl, Nat.not_lt.mp fun z => c8 (show nI 200 < nI k from nI_lt z (by omega)), Nat.not_lt.mp fun z => c25 (show nI 200 < nI (bs.length - k - 1) from nI_lt z (by omega)), rfl⟩) d_Peer_tapeIsRule_33

set_option maxHeartbeats 4000000 in
set_option maxRecDepth 100000 in
/-- PeerLine.bufferAt(i) -/
theorem c_Peer_bufferAt (l : Launch) (D : va_G) (kA : Nat → ClassId) (Z : Nat → Prop) (x tp ln bf tr ru co : Nat) (rc hp st : Int32) (tm : Int64) (lim : Nat) (bs : List Nat) (i : Int32) : Met l y_Peer_bufferAt (Cond.code y_Peer_bufferAt b_Peer_bufferAt 2 (some .int) :: zTB) { frames := 1, cells := 0, slots := 0, locals := 21 } (zk_Pc D classes (zTY kA) [.ref x, .int i] (fun H => va_at D classes (x, .inr (5, [.ref tp, .ref ln, .ref bf, .ref tr, .ref ru, .ref co, .int rc, .int hp, .int st, .long tm])) H ∧ BsAt D kA Z H bf lim bs)) (zk_pQ (some (Value.int (bAt bs i)))) 0 0 zk_no := by
  refine zk_of [.ref x, .int i] (by decide) (Nat.le_of_ble_eq_true rfl) ?_
  intro p e s m below meth c S hr hlk hnm hK hX hpre ls hl
  obtain ⟨hx, hb, hml, hown, ht⟩ := id S
  obtain ⟨hx0, hO⟩ := hpre
  obtain ⟨ro, no, fo, hzo1, hzo2, hO1, hO2, hO3⟩ := id hO
  have hl : lv_has ls 2 [(0, .ref x), (1, .int i)] := hl
  refine lv_aload_n hx hb d_Peer_bufferAt_0 rfl (lv_at hl 0 rfl) ?_
  refine zk_get (C := R_Peer) (T := F_Peer) (N := 10) S hK hx0 rfl i_Peer 2 (by decide) m_Peer_21 rfl rfl d_Peer_bufferAt_1 ?_
  refine lv_iload_n hx hb d_Peer_bufferAt_4 rfl (lv_at hl 1 rfl) ?_
  refine zk_pure (zk_runV (As := [.int i]) (rest := []) S m_Peer_143 (c_Bytes_at l D kA Z bf lim bs i) rfl rfl ⟨Nat.le_of_ble_eq_true rfl, Nat.le_of_ble_eq_true rfl⟩ hK hX (zk_recv hK hO1 rfl) (hO) rfl hl.1 rfl (Nat.le_of_ble_eq_true rfl) ⟨Nat.le_of_ble_eq_true rfl, Nat.le_of_ble_eq_true rfl⟩ d_Peer_bufferAt_5) ?_
  exact zk_reti S hr hlk d_Peer_bufferAt_8

set_option maxHeartbeats 4000000 in
set_option maxRecDepth 100000 in
/-- PeerLine.toldAt(i) -/
theorem c_Peer_toldAt (l : Launch) (D : va_G) (kA : Nat → ClassId) (Z : Nat → Prop) (x tp ln bf tr ru co : Nat) (rc hp st : Int32) (tm : Int64) (lim : Nat) (bs : List Nat) (i : Int32) : Met l y_Peer_toldAt (Cond.code y_Peer_toldAt b_Peer_toldAt 2 (some .int) :: zTB) { frames := 1, cells := 0, slots := 0, locals := 21 } (zk_Pc D classes (zTY kA) [.ref x, .int i] (fun H => va_at D classes (x, .inr (5, [.ref tp, .ref ln, .ref bf, .ref tr, .ref ru, .ref co, .int rc, .int hp, .int st, .long tm])) H ∧ BsAt D kA Z H tr lim bs)) (zk_pQ (some (Value.int (bAt bs i)))) 0 0 zk_no := by
  refine zk_of [.ref x, .int i] (by decide) (Nat.le_of_ble_eq_true rfl) ?_
  intro p e s m below meth c S hr hlk hnm hK hX hpre ls hl
  obtain ⟨hx, hb, hml, hown, ht⟩ := id S
  obtain ⟨hx0, hO⟩ := hpre
  obtain ⟨ro, no, fo, hzo1, hzo2, hO1, hO2, hO3⟩ := id hO
  have hl : lv_has ls 2 [(0, .ref x), (1, .int i)] := hl
  refine lv_aload_n hx hb d_Peer_toldAt_0 rfl (lv_at hl 0 rfl) ?_
  refine zk_get (C := R_Peer) (T := F_Peer) (N := 10) S hK hx0 rfl i_Peer 3 (by decide) m_Peer_25 rfl rfl d_Peer_toldAt_1 ?_
  refine lv_iload_n hx hb d_Peer_toldAt_4 rfl (lv_at hl 1 rfl) ?_
  refine zk_pure (zk_runV (As := [.int i]) (rest := []) S m_Peer_143 (c_Bytes_at l D kA Z tr lim bs i) rfl rfl ⟨Nat.le_of_ble_eq_true rfl, Nat.le_of_ble_eq_true rfl⟩ hK hX (zk_recv hK hO1 rfl) (hO) rfl hl.1 rfl (Nat.le_of_ble_eq_true rfl) ⟨Nat.le_of_ble_eq_true rfl, Nat.le_of_ble_eq_true rfl⟩ d_Peer_toldAt_5) ?_
  exact zk_reti S hr hlk d_Peer_toldAt_8

set_option maxHeartbeats 4000000 in
set_option maxRecDepth 100000 in
/-- PeerLine.end(n) -/
theorem c_Peer_end (l : Launch) (D : va_G) (kA : Nat → ClassId) (x tp ln bf tr ru co : Nat) (rc hp st : Int32) (tm : Int64) (r lim n : Nat) (f : Nat → Int32) (bs : List Nat) (i : Int32) (sz0 : Nat) : Met l y_Peer_end (Cond.code y_Peer_end b_Peer_end 2 (some .boolean) :: zTB) { frames := 1, cells := 0, slots := 0, locals := 21 } (zk_Pc D classes (zTY kA) [.ref x, .int i] (fun H => H.size = sz0 ∧ va_P D classes [(tp, .inr (0, [.int (nI lim), .ref r, .int (nI bs.length)])), (r, .inl ((kA 0), n, .inl f))] H ∧ va_D (fun _ => True) [(tp, .inr (0, [.int (nI lim), .ref r, .int (nI bs.length)])), (r, .inl ((kA 0), n, .inl f))] ∧ va_at D classes (x, .inr (5, [.ref tp, .ref ln, .ref bf, .ref tr, .ref ru, .ref co, .int rc, .int hp, .int st, .long tm])) H ∧ ¬ (va_A [(tp, .inr (0, [.int (nI lim), .ref r, .int (nI bs.length)])), (r, .inl ((kA 0), n, .inl f))] sz0) x ∧ zBs lim n f bs)) (zk_mQ (fun v H => (∃ k, i = nI k ∧ k ≤ bs.length ∧ v = some (.int 1) ∧ BsPost D kA (va_A [(tp, .inr (0, [.int (nI lim), .ref r, .int (nI bs.length)])), (r, .inl ((kA 0), n, .inl f))] sz0) H tp lim n (bs.take k)) ∨ ((∀ k, k ≤ bs.length → i ≠ nI k) ∧ v = some (.int 0) ∧ BsPost D kA (va_A [(tp, .inr (0, [.int (nI lim), .ref r, .int (nI bs.length)])), (r, .inl ((kA 0), n, .inl f))] sz0) H tp lim n bs)) (va_A [(tp, .inr (0, [.int (nI lim), .ref r, .int (nI bs.length)])), (r, .inl ((kA 0), n, .inl f))] sz0)) 0 0 (va_A [(tp, .inr (0, [.int (nI lim), .ref r, .int (nI bs.length)])), (r, .inl ((kA 0), n, .inl f))] sz0) := by
  refine zk_of [.ref x, .int i] (by decide) (Nat.le_of_ble_eq_true rfl) ?_
  intro p e s m below meth c S hr hlk hnm hK hX hpre ls hl
  obtain ⟨hx, hb, hml, hown, ht⟩ := id S
  have hl : lv_has ls 2 [(0, .ref x), (1, .int i)] := hl
  obtain ⟨hsz, hP, hD0, hx0, hxA, hbs⟩ := hpre
  subst hsz
  have hD := hD0.self (sz := s.heap.size)
  generalize hAe : va_A [(tp, .inr (0, [.int (nI lim), .ref r, .int (nI bs.length)])), (r, .inl ((kA 0), n, .inl f))] s.heap.size = A at hD hxA ⊢
  have hA : ∀ q : Nat, s.heap.size ≤ q → A q := fun q h => by rw [← hAe]; exact Or.inr h
  have hS : va_S A s.heap s.heap [] := va_S.rf
  have hP : va_P D classes [(tp, .inr (0, [.int (nI lim), .ref r, .int (nI bs.length)])), (r, .inl ((kA 0), n, .inl f))] s.heap := hP
  refine lv_aload_n hx hb d_Peer_end_0 rfl (lv_at hl 0 rfl) ?_
  refine zk_get (C := R_Peer) (T := F_Peer) (N := 10) S hK (zk_ro hS hx0 hxA) rfl i_Peer 0 (by decide) m_Peer_14 rfl rfl d_Peer_end_1 ?_
  refine lv_iload_n hx hb d_Peer_end_4 rfl (lv_at hl 1 rfl) ?_
  have hFc := va_free (wc := [(tp, .inr (0, [.int (nI lim), .ref r, .int (nI bs.length)])), (r, .inl ((kA 0), n, .inl f))]) hD hS hA [0, 1] rfl
  refine zk_mut (zk_runV (As := [.int i]) (rest := []) S m_Peer_63 (c_Bytes_keepFirst l D kA tp r lim n f bs i s.heap.size) rfl rfl ⟨Nat.le_of_ble_eq_true rfl, Nat.le_of_ble_eq_true rfl⟩ hK hX (zk_recv hK (hP 0 _ rfl) rfl) ⟨rfl, hP, hD.weaken (fun _ _ _ _ => trivial), hbs⟩ rfl hl.1 rfl (Nat.le_of_ble_eq_true rfl) ⟨Nat.le_of_ble_eq_true rfl, Nat.le_of_ble_eq_true rfl⟩ d_Peer_end_5) hS hFc hFc (fun v H locs hpost hz1 hk1 hS => ?_)
  rcases hpost with ⟨k, hk1, hk2, rfl, r1, f1, hP1, hD1, hb1⟩ | ⟨hk1, rfl, r1, f1, hP1, hD1, hb1⟩
  · have hD2 := va_D.weaken hD1 (fun _ q _ hq => hFc q.1 hq)
    refine W.eq (g2 := F0 m 8 ls [.int 1]) rfl ?_
    exact zk_zret S hr (by decide) hlk hS (Or.inl ⟨k, hk1, hk2, rfl, r1, f1, hP1, hD2, hb1⟩) (Nat.le_refl _) (Nat.le_refl _) d_Peer_end_8
  · have hD2 := va_D.weaken hD1 (fun _ q _ hq => hFc q.1 hq)
    refine W.eq (g2 := F0 m 8 ls [.int 0]) rfl ?_
    exact zk_zret S hr (by decide) hlk hS (Or.inr ⟨hk1, rfl, r1, f1, hP1, hD2, hb1⟩) (Nat.le_refl _) (Nat.le_refl _) d_Peer_end_8

set_option maxHeartbeats 4000000 in
set_option maxRecDepth 100000 in
/-- PeerLine.take(n) -/
theorem c_Peer_take (l : Launch) (D : va_G) (kA : Nat → ClassId) (x tp ln bf tr ru co : Nat) (rc hp st : Int32) (tm : Int64) (r lim n : Nat) (f : Nat → Int32) (bs : List Nat) (i : Int32) (sz0 : Nat) : Met l y_Peer_take (Cond.code y_Peer_take b_Peer_take 2 (some .boolean) :: zTB) { frames := 2, cells := 0, slots := 0, locals := 61 } (zk_Pc D classes (zTY kA) [.ref x, .int i] (fun H => H.size = sz0 ∧ va_P D classes [(bf, .inr (0, [.int (nI lim), .ref r, .int (nI bs.length)])), (r, .inl ((kA 0), n, .inl f))] H ∧ va_D (fun _ => True) [(bf, .inr (0, [.int (nI lim), .ref r, .int (nI bs.length)])), (r, .inl ((kA 0), n, .inl f))] ∧ va_at D classes (x, .inr (5, [.ref tp, .ref ln, .ref bf, .ref tr, .ref ru, .ref co, .int rc, .int hp, .int st, .long tm])) H ∧ ¬ (va_A [(bf, .inr (0, [.int (nI lim), .ref r, .int (nI bs.length)])), (r, .inl ((kA 0), n, .inl f))] sz0) x ∧ zBs lim n f bs)) (zk_mQ (fun v H => (∃ k, i = nI k ∧ k ≤ bs.length ∧ v = some (.int 1) ∧ BsPost D kA (va_A [(bf, .inr (0, [.int (nI lim), .ref r, .int (nI bs.length)])), (r, .inl ((kA 0), n, .inl f))] sz0) H bf lim n (bs.drop k)) ∨ ((∀ k, k ≤ bs.length → i ≠ nI k) ∧ v = some (.int 0) ∧ BsPost D kA (va_A [(bf, .inr (0, [.int (nI lim), .ref r, .int (nI bs.length)])), (r, .inl ((kA 0), n, .inl f))] sz0) H bf lim n bs)) (va_A [(bf, .inr (0, [.int (nI lim), .ref r, .int (nI bs.length)])), (r, .inl ((kA 0), n, .inl f))] sz0)) 0 0 (va_A [(bf, .inr (0, [.int (nI lim), .ref r, .int (nI bs.length)])), (r, .inl ((kA 0), n, .inl f))] sz0) := by
  refine zk_of [.ref x, .int i] (by decide) (Nat.le_of_ble_eq_true rfl) ?_
  intro p e s m below meth c S hr hlk hnm hK hX hpre ls hl
  obtain ⟨hx, hb, hml, hown, ht⟩ := id S
  have hl : lv_has ls 2 [(0, .ref x), (1, .int i)] := hl
  obtain ⟨hsz, hP, hD0, hx0, hxA, hbs⟩ := hpre
  subst hsz
  have hD := hD0.self (sz := s.heap.size)
  generalize hAe : va_A [(bf, .inr (0, [.int (nI lim), .ref r, .int (nI bs.length)])), (r, .inl ((kA 0), n, .inl f))] s.heap.size = A at hD hxA ⊢
  have hA : ∀ q : Nat, s.heap.size ≤ q → A q := fun q h => by rw [← hAe]; exact Or.inr h
  have hS : va_S A s.heap s.heap [] := va_S.rf
  have hP : va_P D classes [(bf, .inr (0, [.int (nI lim), .ref r, .int (nI bs.length)])), (r, .inl ((kA 0), n, .inl f))] s.heap := hP
  refine lv_aload_n hx hb d_Peer_take_0 rfl (lv_at hl 0 rfl) ?_
  refine zk_get (C := R_Peer) (T := F_Peer) (N := 10) S hK (zk_ro hS hx0 hxA) rfl i_Peer 2 (by decide) m_Peer_21 rfl rfl d_Peer_take_1 ?_
  refine lv_iload_n hx hb d_Peer_take_4 rfl (lv_at hl 1 rfl) ?_
  have hFc := va_free (wc := [(bf, .inr (0, [.int (nI lim), .ref r, .int (nI bs.length)])), (r, .inl ((kA 0), n, .inl f))]) hD hS hA [0, 1] rfl
  refine zk_mut (zk_runV (As := [.int i]) (rest := []) S m_Peer_127 (c_Bytes_dropFirst l D kA bf r lim n f bs i s.heap.size) rfl rfl ⟨Nat.le_of_ble_eq_true rfl, Nat.le_of_ble_eq_true rfl⟩ hK hX (zk_recv hK (hP 0 _ rfl) rfl) ⟨rfl, hP, hD.weaken (fun _ _ _ _ => trivial), hbs⟩ rfl hl.1 rfl (Nat.le_of_ble_eq_true rfl) ⟨Nat.le_of_ble_eq_true rfl, Nat.le_of_ble_eq_true rfl⟩ d_Peer_take_5) hS hFc hFc (fun v H locs hpost hz1 hk1 hS => ?_)
  rcases hpost with ⟨k, hk1, hk2, rfl, r1, f1, hP1, hD1, hb1⟩ | ⟨hk1, rfl, r1, f1, hP1, hD1, hb1⟩
  · have hD2 := va_D.weaken hD1 (fun _ q _ hq => hFc q.1 hq)
    refine W.eq (g2 := F0 m 8 ls [.int 1]) rfl ?_
    exact zk_zret S hr (by decide) hlk hS (Or.inl ⟨k, hk1, hk2, rfl, r1, f1, hP1, hD2, hb1⟩) (Nat.le_refl _) (Nat.le_refl _) d_Peer_take_8
  · have hD2 := va_D.weaken hD1 (fun _ q _ hq => hFc q.1 hq)
    refine W.eq (g2 := F0 m 8 ls [.int 0]) rfl ?_
    exact zk_zret S hr (by decide) hlk hS (Or.inr ⟨hk1, rfl, r1, f1, hP1, hD2, hb1⟩) (Nat.le_refl _) (Nat.le_refl _) d_Peer_take_8
