set_option maxHeartbeats 4000000 in
set_option maxRecDepth 100000 in
/-- PeerLine.tell(kind, thing, withNewline) -/
theorem c_Peer_tell (l : Launch) (D : va_G) (kA : Nat → ClassId) (x tp ln bf tr ru co : Nat) (rc hp st : Int32) (tm : Int64) (r n : Nat) (f : Nat → Int32) (trs : List Nat) (o lo : Nat) (os : List Nat) (kd : Nat) (nl : Bool) (hkd : kd < 256) (sz0 : Nat) : Met l y_Peer_tell (Cond.code y_Peer_tell b_Peer_tell 5 none :: zTB) { frames := 4, cells := zTellN n trs (zThing kd os nl) - n, slots := 3 * (zTellN n trs (zThing kd os nl) - n), locals := 105 } (zk_Pc D classes (zTY kA) [.ref x, .int (nI kd), .ref o, .int (if nl then 1 else 0)] (fun H => H.size = sz0 ∧ va_P D classes [(tr, .inr (0, [.int (nI 32768), .ref r, .int (nI trs.length)])), (r, .inl ((kA 0), n, .inl f))] H ∧ va_D (fun _ => True) [(tr, .inr (0, [.int (nI 32768), .ref r, .int (nI trs.length)])), (r, .inl ((kA 0), n, .inl f))] ∧ va_at D classes (x, .inr (5, [.ref tp, .ref ln, .ref bf, .ref tr, .ref ru, .ref co, .int rc, .int hp, .int st, .long tm])) H ∧ ¬ (va_A [(tr, .inr (0, [.int (nI 32768), .ref r, .int (nI trs.length)])), (r, .inl ((kA 0), n, .inl f))] sz0) x ∧ zBs 32768 n f trs ∧ BsAt D kA (fun q => ¬ (va_A [(tr, .inr (0, [.int (nI 32768), .ref r, .int (nI trs.length)])), (r, .inl ((kA 0), n, .inl f))] sz0) q) H o lo os)) (zk_mQ (fun v H => v = none ∧ BsPost D kA (va_A [(tr, .inr (0, [.int (nI 32768), .ref r, .int (nI trs.length)])), (r, .inl ((kA 0), n, .inl f))] sz0) H tr 32768 (zTellN n trs (zThing kd os nl)) (zTell trs (zThing kd os nl))) (va_A [(tr, .inr (0, [.int (nI 32768), .ref r, .int (nI trs.length)])), (r, .inl ((kA 0), n, .inl f))] sz0)) (zTellN n trs (zThing kd os nl) - n) (3 * (zTellN n trs (zThing kd os nl) - n)) (va_A [(tr, .inr (0, [.int (nI 32768), .ref r, .int (nI trs.length)])), (r, .inl ((kA 0), n, .inl f))] sz0) := by
  refine zk_of [.ref x, .int (nI kd), .ref o, .int (if nl then 1 else 0)] (by decide) (Nat.le_of_ble_eq_true rfl) ?_
  intro p e s m below meth c S hr hlk hnm hK hX hpre ls hl
  obtain ⟨hx, hb, hml, hown, ht⟩ := id S
  have hl : lv_has ls 5 [(0, .ref x), (1, .int (nI kd)), (2, .ref o), (3, .int (if nl then 1 else 0))] := hl
  obtain ⟨hsz, hP, hD0, hx0, hxA, hbs0, hO⟩ := hpre
  subst hsz
  have hD := hD0.self (sz := s.heap.size)
  generalize hAe : va_A [(tr, .inr (0, [.int (nI 32768), .ref r, .int (nI trs.length)])), (r, .inl ((kA 0), n, .inl f))] s.heap.size = A at hD hxA hO ⊢
  have hA : ∀ q : Nat, s.heap.size ≤ q → A q := fun q h => by rw [← hAe]; exact Or.inr h
  have hS : va_S A s.heap s.heap [] := va_S.rf
  have hP : va_P D classes [(tr, .inr (0, [.int (nI 32768), .ref r, .int (nI trs.length)])), (r, .inl ((kA 0), n, .inl f))] s.heap := hP
  obtain ⟨ro, no, fo, hzo1, hzo2, hO1, hO2, hO3⟩ := id hO
  obtain ⟨g1, g2, g3, g4, g5⟩ := id hO3
  obtain ⟨h1, h2, h3, h4, h5⟩ := id hbs0
  have hth : (zThing kd os nl).length = 1 + os.length + (if nl then 1 else 0) := by unfold zThing; cases nl <;> simp <;> omega
  refine lv_iconst (v := 1) hx hb d_Peer_tell_0 (by decide) ?_
  refine zk_ti (z := nI 1) (rfl) ?_
  refine lv_aload_n hx hb d_Peer_tell_1 rfl (lv_at hl 2 rfl) ?_
  refine zk_pure (zk_runV (As := []) (rest := [.int (nI 1)]) S m_Peer_121 (c_Bytes_size l D kA (fun q => ¬ A q) o lo os) rfl rfl ⟨Nat.le_of_ble_eq_true rfl, Nat.le_of_ble_eq_true rfl⟩ hK hX (zk_recv hK (zk_ro hS hO1 hzo1) rfl) (hO.ro hS) rfl hl.1 rfl (Nat.le_of_ble_eq_true rfl) ⟨Nat.zero_le _, Nat.zero_le _⟩ d_Peer_tell_2) ?_
  refine lv_iadd hx hb d_Peer_tell_5 ?_
  refine zk_ti (z := nI (1 + os.length)) (nI_add _ _) ?_
  cases nl
  · have hl : lv_has ls 5 [(0, .ref x), (1, .int (nI kd)), (2, .ref o), (3, .int 0)] := hl
    have hth : (zThing kd os false).length = 1 + os.length + 0 := hth
    refine lv_iload_n hx hb d_Peer_tell_6 rfl (lv_at hl 3 rfl) ?_
    refine lv_if_eq (tgt := 14) hx hb d_Peer_tell_7 (by decide) (fun c7 => ?_) (fun c7 => ?_)
    · refine lv_iconst (v := 0) hx hb d_Peer_tell_14 (by decide) ?_
      refine lv_iadd hx hb d_Peer_tell_15 ?_
      refine zk_ti (z := nI (zThing kd os false).length) (by rw [hth]; exact nI_add (1 + os.length) 0) ?_
      refine lv_istore (lv' := [(4, .int (nI (zThing kd os false).length)), (0, .ref x), (1, .int (nI kd)), (2, .ref o), (3, .int 0)]) hx hb d_Peer_tell_16 hl (by decide) rfl (fun ls hl => ?_)
      refine lv_aload_n hx hb d_Peer_tell_18 rfl (lv_at hl 1 rfl) ?_
      refine zk_get (C := R_Peer) (T := F_Peer) (N := 10) S hK (zk_ro hS hx0 hxA) rfl i_Peer 3 (by decide) m_Peer_25 rfl rfl d_Peer_tell_19 ?_
      refine lv_iload hx hb d_Peer_tell_22 (lv_at hl 0 rfl) ?_
      refine zk_pure (zk_runV (As := [.int (nI (zThing kd os false).length)]) (rest := []) S m_Peer_56 (c_Bytes_hasRoomFor l D kA (fun _ => True) tr 32768 trs (zThing kd os false).length (by omega)) rfl rfl ⟨Nat.le_of_ble_eq_true rfl, Nat.le_of_ble_eq_true rfl⟩ hK hX (zk_recv hK (hP 0 _ rfl) rfl) (⟨r, n, f, trivial, trivial, hP 0 _ rfl, hP 1 _ rfl, hbs0⟩) rfl hl.1 rfl (Nat.le_of_ble_eq_true rfl) ⟨Nat.zero_le _, Nat.zero_le _⟩ d_Peer_tell_24) ?_
      refine lv_if_ne (tgt := 31) hx hb d_Peer_tell_27 (by decide) (fun c27 => ?_) (fun c27 => ?_)
      · refine lv_aload_n hx hb d_Peer_tell_31 rfl (lv_at hl 1 rfl) ?_
        refine zk_get (C := R_Peer) (T := F_Peer) (N := 10) S hK (zk_ro hS hx0 hxA) rfl i_Peer 3 (by decide) m_Peer_25 rfl rfl d_Peer_tell_32 ?_
        refine lv_iload_n hx hb d_Peer_tell_35 rfl (lv_at hl 2 rfl) ?_
        have hroom : trs.length + (zThing kd os false).length ≤ 32768 := by
          by_cases z : (zThing kd os false).length ≤ 32768 - trs.length
          · omega
          · exact absurd (if_neg z) c27
        have htn : zTellN n trs (zThing kd os false) = zCapN 32768 n trs.length (zThing kd os false).length := if_pos hroom
        have ht9 : zTell trs (zThing kd os false) = trs ++ (zThing kd os false) := if_pos hroom
        obtain ⟨y11, y12, y13⟩ := zCapN_ge (lim := 32768) h2 h1 1 (by omega) h2 (by omega)
        obtain ⟨y21, y22, y23⟩ := zCapN_ge (lim := 32768) h2 h1 (1 + os.length) (by omega) h2 (by omega)
        have u1 := zCapN_upto (lim := 32768) h2 h1 (by omega) (1 + os.length) 1 (by omega) (by omega)
        have u2 := zCapN_upto (lim := 32768) h2 h1 (by omega) (zThing kd os false).length (1 + os.length) (by omega) (by omega)
        have hm0 : zCap 32768 n trs.length = (zCapN 32768 n trs.length 1) := by rfl
        have hFc := va_free (wc := [(tr, .inr (0, [.int (nI 32768), .ref r, .int (nI trs.length)])), (r, .inl ((kA 0), n, .inl f))]) hD hS hA [0, 1] rfl
        refine zk_mut (zk_runV (As := [.int (nI kd)]) (rest := []) S m_Peer_147 (c_Bytes_append l D kA tr r 32768 n f trs (nI kd) s.heap.size) rfl rfl ⟨Nat.le_of_ble_eq_true rfl, Nat.le_of_ble_eq_true rfl⟩ hK hX (zk_recv hK (hP 0 _ rfl) rfl) ⟨rfl, hP.sub (ws' := [(tr, .inr (0, [.int (nI 32768), .ref r, .int (nI trs.length)])), (r, .inl ((kA 0), n, .inl f))]) [0, 1] rfl, (hD.sub (ws' := [(tr, .inr (0, [.int (nI 32768), .ref r, .int (nI trs.length)])), (r, .inl ((kA 0), n, .inl f))]) [0, 1] (by decide) rfl).weaken (fun _ _ _ _ => trivial), hbs0⟩ rfl hl.1 rfl (Nat.le_of_ble_eq_true rfl) ⟨by
          show _ + (_ - _) ≤ zTellN n trs (zThing kd os false) - n
          rw [htn, hm0]; omega, by
          show _ + 3 * (_ - _) ≤ 3 * (zTellN n trs (zThing kd os false) - n)
          rw [htn, hm0]; omega⟩ d_Peer_tell_36) hS hFc hFc (fun v H locs hpost hz1 hk1 hS => ?_)
        obtain ⟨rfl, r1, f1, hP1, hD1, hb1⟩ := hpost
        obtain ⟨hP, hD⟩ := va_join (wr := []) (w1 := [(tr, .inr (0, [.int (nI 32768), .ref r1, .int (nI (zApp 32768 trs (zByte (nI kd))).length)])), (r1, .inl ((kA 0), (zCap 32768 n trs.length), .inl f1))]) hP hD [0, 1] [] rfl rfl (by decide) (by decide) hk1 hFc hP1 hD1
        refine W.eq (g2 := F0 m 39 ls []) rfl ?_
        have hP : va_P D classes [(tr, .inr (0, [.int (nI 32768), .ref r1, .int (nI (zApp 32768 trs (zByte (nI kd))).length)])), (r1, .inl ((kA 0), (zCap 32768 n trs.length), .inl f1))] H := hP
        have hD : va_D A [(tr, .inr (0, [.int (nI 32768), .ref r1, .int (nI (zApp 32768 trs (zByte (nI kd))).length)])), (r1, .inl ((kA 0), (zCap 32768 n trs.length), .inl f1))] := hD
        have hap0 : zApp 32768 trs (zByte (nI kd)) = (trs ++ [kd]) := by rw [zByte_nI (by omega), zApp_lt (by omega)]
        rw [hap0, hm0] at hP hD hb1
        have hP : va_P D classes [(tr, .inr (0, [.int (nI 32768), .ref r1, .int (nI (trs ++ [kd]).length)])), (r1, .inl ((kA 0), (zCapN 32768 n trs.length 1), .inl f1))] H := hP
        have hD : va_D A [(tr, .inr (0, [.int (nI 32768), .ref r1, .int (nI (trs ++ [kd]).length)])), (r1, .inl ((kA 0), (zCapN 32768 n trs.length 1), .inl f1))] := hD
        refine W.widen (k := ((zCapN 32768 n trs.length 1) - n)) (n := (3 * ((zCapN 32768 n trs.length 1) - n))) (by rw [hm0]; omega) (by rw [hm0]; omega) ?_
        refine lv_aload_n hx hb d_Peer_tell_39 rfl (lv_at hl 1 rfl) ?_
        refine zk_get (C := R_Peer) (T := F_Peer) (N := 10) S hK (zk_ro hS hx0 hxA) rfl i_Peer 3 (by decide) m_Peer_25 rfl rfl d_Peer_tell_40 ?_
        refine lv_aload_n hx hb d_Peer_tell_43 rfl (lv_at hl 3 rfl) ?_
        have hl1 : (trs ++ [kd]).length = trs.length + 1 := by simp
        have hm2 : zCapN 32768 (zCapN 32768 n trs.length 1) (trs ++ [kd]).length os.length = (zCapN 32768 n trs.length (1 + os.length)) := by rw [hl1]; exact (zCapN_add os.length 1).symm
        have hFc := va_free (wc := [(tr, .inr (0, [.int (nI 32768), .ref r1, .int (nI (trs ++ [kd]).length)])), (r1, .inl ((kA 0), (zCapN 32768 n trs.length 1), .inl f1))]) hD hS hA [0, 1] rfl
        refine zk_mut (zk_runV (As := [.ref o]) (rest := []) S m_Peer_129 (c_Bytes_appendAll l D kA tr r1 32768 (zCapN 32768 n trs.length 1) f1 (trs ++ [kd]) o lo os (by rw [hl1]; omega) H.size) rfl rfl ⟨Nat.le_of_ble_eq_true rfl, Nat.le_of_ble_eq_true rfl⟩ hK hX (zk_recv hK (hP 0 _ rfl) rfl) ⟨rfl, hP.sub (ws' := [(tr, .inr (0, [.int (nI 32768), .ref r1, .int (nI (trs ++ [kd]).length)])), (r1, .inl ((kA 0), (zCapN 32768 n trs.length 1), .inl f1))]) [0, 1] rfl, (hD.sub (ws' := [(tr, .inr (0, [.int (nI 32768), .ref r1, .int (nI (trs ++ [kd]).length)])), (r1, .inl ((kA 0), (zCapN 32768 n trs.length 1), .inl f1))]) [0, 1] (by decide) rfl).weaken (fun _ _ _ _ => trivial), hb1, ((hO.ro hS).weaken (fun q hq hz => hq (hFc q hz)))⟩ rfl hl.1 rfl (Nat.le_of_ble_eq_true rfl) ⟨by
          show _ + (_ - _) ≤ zTellN n trs (zThing kd os false) - n
          rw [htn, hm2]; omega, by
          show _ + 3 * (_ - _) ≤ 3 * (zTellN n trs (zThing kd os false) - n)
          rw [htn, hm2]; omega⟩ d_Peer_tell_44) hS hFc hFc (fun v H locs hpost hz1 hk1 hS => ?_)
        obtain ⟨rfl, r2, f2, hP1, hD1, hb2⟩ := hpost
        obtain ⟨hP, hD⟩ := va_join (wr := []) (w1 := [(tr, .inr (0, [.int (nI 32768), .ref r2, .int (nI (trs ++ [kd] ++ os).length)])), (r2, .inl ((kA 0), (zCapN 32768 (zCapN 32768 n trs.length 1) (trs ++ [kd]).length os.length), .inl f2))]) hP hD [0, 1] [] rfl rfl (by decide) (by decide) hk1 hFc hP1 hD1
        refine W.eq (g2 := F0 m 47 ls []) rfl ?_
        have hP : va_P D classes [(tr, .inr (0, [.int (nI 32768), .ref r2, .int (nI (trs ++ [kd] ++ os).length)])), (r2, .inl ((kA 0), (zCapN 32768 (zCapN 32768 n trs.length 1) (trs ++ [kd]).length os.length), .inl f2))] H := hP
        have hD : va_D A [(tr, .inr (0, [.int (nI 32768), .ref r2, .int (nI (trs ++ [kd] ++ os).length)])), (r2, .inl ((kA 0), (zCapN 32768 (zCapN 32768 n trs.length 1) (trs ++ [kd]).length os.length), .inl f2))] := hD
        rw [hm2] at hP hD hb2
        have hP : va_P D classes [(tr, .inr (0, [.int (nI 32768), .ref r2, .int (nI (trs ++ [kd] ++ os).length)])), (r2, .inl ((kA 0), (zCapN 32768 n trs.length (1 + os.length)), .inl f2))] H := hP
        have hD : va_D A [(tr, .inr (0, [.int (nI 32768), .ref r2, .int (nI (trs ++ [kd] ++ os).length)])), (r2, .inl ((kA 0), (zCapN 32768 n trs.length (1 + os.length)), .inl f2))] := hD
        refine W.widen (k := ((zCapN 32768 n trs.length (1 + os.length)) - n)) (n := (3 * ((zCapN 32768 n trs.length (1 + os.length)) - n))) (by rw [hm2]; omega) (by rw [hm2]; omega) ?_
        refine lv_iload_n hx hb d_Peer_tell_47 rfl (lv_at hl 4 rfl) ?_
        refine lv_if_eq (tgt := 60) hx hb d_Peer_tell_48 (by decide) (fun c48 => ?_) (fun c48 => ?_)
        · have hfin : (trs ++ [kd] ++ os) = zTell trs (zThing kd os false) := by rw [ht9]; simp [zThing]
          have hcap : (zCapN 32768 n trs.length (1 + os.length)) = zCapN 32768 n trs.length (zThing kd os false).length := by rw [hth]; simp
          have hP9 := hP.sub (ws' := [(tr, .inr (0, [.int (nI 32768), .ref r2, .int (nI (trs ++ [kd] ++ os).length)])), (r2, .inl ((kA 0), (zCapN 32768 n trs.length (1 + os.length)), .inl f2))]) [0, 1] rfl
          have hD9 := hD.sub (ws' := [(tr, .inr (0, [.int (nI 32768), .ref r2, .int (nI (trs ++ [kd] ++ os).length)])), (r2, .inl ((kA 0), (zCapN 32768 n trs.length (1 + os.length)), .inl f2))]) [0, 1] (by decide) rfl
          rw [hcap, ← htn, hfin] at hP9 hD9 hb2
          exact zk_vret S hr hlk hS ⟨rfl, r2, f2, hP9, hD9, hb2⟩ (by rw [htn]; rw [← hcap]; exact Nat.le_refl _) (by rw [htn]; rw [← hcap]; exact Nat.le_refl _) d_Peer_tell_60
        · exact absurd rfl c48
      · have hno : ¬ trs.length + (zThing kd os false).length ≤ 32768 := fun z => absurd (c27.symm.trans (if_pos (show (zThing kd os false).length ≤ 32768 - trs.length by omega))) (by decide)
        exact zk_vret S hr hlk hS ⟨rfl, by
          rw [show zTellN n trs (zThing kd os false) = n from if_neg hno, show zTell trs (zThing kd os false) = trs from if_neg hno]
          exact ⟨r, f, hP, hD, hbs0⟩⟩ (Nat.zero_le _) (Nat.zero_le _) d_Peer_tell_30
    · exact absurd rfl c7
  · have hl : lv_has ls 5 [(0, .ref x), (1, .int (nI kd)), (2, .ref o), (3, .int 1)] := hl
    have hth : (zThing kd os true).length = 1 + os.length + 1 := hth
    refine lv_iload_n hx hb d_Peer_tell_6 rfl (lv_at hl 3 rfl) ?_
    refine lv_if_eq (tgt := 14) hx hb d_Peer_tell_7 (by decide) (fun c7 => ?_) (fun c7 => ?_)
    · exact absurd c7 (by decide)
    · refine lv_iconst (v := 1) hx hb d_Peer_tell_10 (by decide) ?_
      refine lv_goto (tgt := 15) hx hb d_Peer_tell_11 (by decide) ?_
      refine lv_iadd hx hb d_Peer_tell_15 ?_
      refine zk_ti (z := nI (zThing kd os true).length) (by rw [hth]; exact nI_add (1 + os.length) 1) ?_
      refine lv_istore (lv' := [(4, .int (nI (zThing kd os true).length)), (0, .ref x), (1, .int (nI kd)), (2, .ref o), (3, .int 1)]) hx hb d_Peer_tell_16 hl (by decide) rfl (fun ls hl => ?_)
      refine lv_aload_n hx hb d_Peer_tell_18 rfl (lv_at hl 1 rfl) ?_
      refine zk_get (C := R_Peer) (T := F_Peer) (N := 10) S hK (zk_ro hS hx0 hxA) rfl i_Peer 3 (by decide) m_Peer_25 rfl rfl d_Peer_tell_19 ?_
      refine lv_iload hx hb d_Peer_tell_22 (lv_at hl 0 rfl) ?_
      refine zk_pure (zk_runV (As := [.int (nI (zThing kd os true).length)]) (rest := []) S m_Peer_56 (c_Bytes_hasRoomFor l D kA (fun _ => True) tr 32768 trs (zThing kd os true).length (by omega)) rfl rfl ⟨Nat.le_of_ble_eq_true rfl, Nat.le_of_ble_eq_true rfl⟩ hK hX (zk_recv hK (hP 0 _ rfl) rfl) (⟨r, n, f, trivial, trivial, hP 0 _ rfl, hP 1 _ rfl, hbs0⟩) rfl hl.1 rfl (Nat.le_of_ble_eq_true rfl) ⟨Nat.zero_le _, Nat.zero_le _⟩ d_Peer_tell_24) ?_
      refine lv_if_ne (tgt := 31) hx hb d_Peer_tell_27 (by decide) (fun c27 => ?_) (fun c27 => ?_)
      · refine lv_aload_n hx hb d_Peer_tell_31 rfl (lv_at hl 1 rfl) ?_
        refine zk_get (C := R_Peer) (T := F_Peer) (N := 10) S hK (zk_ro hS hx0 hxA) rfl i_Peer 3 (by decide) m_Peer_25 rfl rfl d_Peer_tell_32 ?_
        refine lv_iload_n hx hb d_Peer_tell_35 rfl (lv_at hl 2 rfl) ?_
        have hroom : trs.length + (zThing kd os true).length ≤ 32768 := by
          by_cases z : (zThing kd os true).length ≤ 32768 - trs.length
          · omega
          · exact absurd (if_neg z) c27
        have htn : zTellN n trs (zThing kd os true) = zCapN 32768 n trs.length (zThing kd os true).length := if_pos hroom
        have ht9 : zTell trs (zThing kd os true) = trs ++ (zThing kd os true) := if_pos hroom
        obtain ⟨y11, y12, y13⟩ := zCapN_ge (lim := 32768) h2 h1 1 (by omega) h2 (by omega)
        obtain ⟨y21, y22, y23⟩ := zCapN_ge (lim := 32768) h2 h1 (1 + os.length) (by omega) h2 (by omega)
        have u1 := zCapN_upto (lim := 32768) h2 h1 (by omega) (1 + os.length) 1 (by omega) (by omega)
        have u2 := zCapN_upto (lim := 32768) h2 h1 (by omega) (zThing kd os true).length (1 + os.length) (by omega) (by omega)
        have hm0 : zCap 32768 n trs.length = (zCapN 32768 n trs.length 1) := by rfl
        have hFc := va_free (wc := [(tr, .inr (0, [.int (nI 32768), .ref r, .int (nI trs.length)])), (r, .inl ((kA 0), n, .inl f))]) hD hS hA [0, 1] rfl
        refine zk_mut (zk_runV (As := [.int (nI kd)]) (rest := []) S m_Peer_147 (c_Bytes_append l D kA tr r 32768 n f trs (nI kd) s.heap.size) rfl rfl ⟨Nat.le_of_ble_eq_true rfl, Nat.le_of_ble_eq_true rfl⟩ hK hX (zk_recv hK (hP 0 _ rfl) rfl) ⟨rfl, hP.sub (ws' := [(tr, .inr (0, [.int (nI 32768), .ref r, .int (nI trs.length)])), (r, .inl ((kA 0), n, .inl f))]) [0, 1] rfl, (hD.sub (ws' := [(tr, .inr (0, [.int (nI 32768), .ref r, .int (nI trs.length)])), (r, .inl ((kA 0), n, .inl f))]) [0, 1] (by decide) rfl).weaken (fun _ _ _ _ => trivial), hbs0⟩ rfl hl.1 rfl (Nat.le_of_ble_eq_true rfl) ⟨by
          show _ + (_ - _) ≤ zTellN n trs (zThing kd os true) - n
          rw [htn, hm0]; omega, by
          show _ + 3 * (_ - _) ≤ 3 * (zTellN n trs (zThing kd os true) - n)
          rw [htn, hm0]; omega⟩ d_Peer_tell_36) hS hFc hFc (fun v H locs hpost hz1 hk1 hS => ?_)
        obtain ⟨rfl, r1, f1, hP1, hD1, hb1⟩ := hpost
        obtain ⟨hP, hD⟩ := va_join (wr := []) (w1 := [(tr, .inr (0, [.int (nI 32768), .ref r1, .int (nI (zApp 32768 trs (zByte (nI kd))).length)])), (r1, .inl ((kA 0), (zCap 32768 n trs.length), .inl f1))]) hP hD [0, 1] [] rfl rfl (by decide) (by decide) hk1 hFc hP1 hD1
        refine W.eq (g2 := F0 m 39 ls []) rfl ?_
        have hP : va_P D classes [(tr, .inr (0, [.int (nI 32768), .ref r1, .int (nI (zApp 32768 trs (zByte (nI kd))).length)])), (r1, .inl ((kA 0), (zCap 32768 n trs.length), .inl f1))] H := hP
        have hD : va_D A [(tr, .inr (0, [.int (nI 32768), .ref r1, .int (nI (zApp 32768 trs (zByte (nI kd))).length)])), (r1, .inl ((kA 0), (zCap 32768 n trs.length), .inl f1))] := hD
        have hap0 : zApp 32768 trs (zByte (nI kd)) = (trs ++ [kd]) := by rw [zByte_nI (by omega), zApp_lt (by omega)]
        rw [hap0, hm0] at hP hD hb1
        have hP : va_P D classes [(tr, .inr (0, [.int (nI 32768), .ref r1, .int (nI (trs ++ [kd]).length)])), (r1, .inl ((kA 0), (zCapN 32768 n trs.length 1), .inl f1))] H := hP
        have hD : va_D A [(tr, .inr (0, [.int (nI 32768), .ref r1, .int (nI (trs ++ [kd]).length)])), (r1, .inl ((kA 0), (zCapN 32768 n trs.length 1), .inl f1))] := hD
        refine W.widen (k := ((zCapN 32768 n trs.length 1) - n)) (n := (3 * ((zCapN 32768 n trs.length 1) - n))) (by rw [hm0]; omega) (by rw [hm0]; omega) ?_
        refine lv_aload_n hx hb d_Peer_tell_39 rfl (lv_at hl 1 rfl) ?_
        refine zk_get (C := R_Peer) (T := F_Peer) (N := 10) S hK (zk_ro hS hx0 hxA) rfl i_Peer 3 (by decide) m_Peer_25 rfl rfl d_Peer_tell_40 ?_
        refine lv_aload_n hx hb d_Peer_tell_43 rfl (lv_at hl 3 rfl) ?_
        have hl1 : (trs ++ [kd]).length = trs.length + 1 := by simp
        have hm2 : zCapN 32768 (zCapN 32768 n trs.length 1) (trs ++ [kd]).length os.length = (zCapN 32768 n trs.length (1 + os.length)) := by rw [hl1]; exact (zCapN_add os.length 1).symm
        have hFc := va_free (wc := [(tr, .inr (0, [.int (nI 32768), .ref r1, .int (nI (trs ++ [kd]).length)])), (r1, .inl ((kA 0), (zCapN 32768 n trs.length 1), .inl f1))]) hD hS hA [0, 1] rfl
        refine zk_mut (zk_runV (As := [.ref o]) (rest := []) S m_Peer_129 (c_Bytes_appendAll l D kA tr r1 32768 (zCapN 32768 n trs.length 1) f1 (trs ++ [kd]) o lo os (by rw [hl1]; omega) H.size) rfl rfl ⟨Nat.le_of_ble_eq_true rfl, Nat.le_of_ble_eq_true rfl⟩ hK hX (zk_recv hK (hP 0 _ rfl) rfl) ⟨rfl, hP.sub (ws' := [(tr, .inr (0, [.int (nI 32768), .ref r1, .int (nI (trs ++ [kd]).length)])), (r1, .inl ((kA 0), (zCapN 32768 n trs.length 1), .inl f1))]) [0, 1] rfl, (hD.sub (ws' := [(tr, .inr (0, [.int (nI 32768), .ref r1, .int (nI (trs ++ [kd]).length)])), (r1, .inl ((kA 0), (zCapN 32768 n trs.length 1), .inl f1))]) [0, 1] (by decide) rfl).weaken (fun _ _ _ _ => trivial), hb1, ((hO.ro hS).weaken (fun q hq hz => hq (hFc q hz)))⟩ rfl hl.1 rfl (Nat.le_of_ble_eq_true rfl) ⟨by
          show _ + (_ - _) ≤ zTellN n trs (zThing kd os true) - n
          rw [htn, hm2]; omega, by
          show _ + 3 * (_ - _) ≤ 3 * (zTellN n trs (zThing kd os true) - n)
          rw [htn, hm2]; omega⟩ d_Peer_tell_44) hS hFc hFc (fun v H locs hpost hz1 hk1 hS => ?_)
        obtain ⟨rfl, r2, f2, hP1, hD1, hb2⟩ := hpost
        obtain ⟨hP, hD⟩ := va_join (wr := []) (w1 := [(tr, .inr (0, [.int (nI 32768), .ref r2, .int (nI (trs ++ [kd] ++ os).length)])), (r2, .inl ((kA 0), (zCapN 32768 (zCapN 32768 n trs.length 1) (trs ++ [kd]).length os.length), .inl f2))]) hP hD [0, 1] [] rfl rfl (by decide) (by decide) hk1 hFc hP1 hD1
        refine W.eq (g2 := F0 m 47 ls []) rfl ?_
        have hP : va_P D classes [(tr, .inr (0, [.int (nI 32768), .ref r2, .int (nI (trs ++ [kd] ++ os).length)])), (r2, .inl ((kA 0), (zCapN 32768 (zCapN 32768 n trs.length 1) (trs ++ [kd]).length os.length), .inl f2))] H := hP
        have hD : va_D A [(tr, .inr (0, [.int (nI 32768), .ref r2, .int (nI (trs ++ [kd] ++ os).length)])), (r2, .inl ((kA 0), (zCapN 32768 (zCapN 32768 n trs.length 1) (trs ++ [kd]).length os.length), .inl f2))] := hD
        rw [hm2] at hP hD hb2
        have hP : va_P D classes [(tr, .inr (0, [.int (nI 32768), .ref r2, .int (nI (trs ++ [kd] ++ os).length)])), (r2, .inl ((kA 0), (zCapN 32768 n trs.length (1 + os.length)), .inl f2))] H := hP
        have hD : va_D A [(tr, .inr (0, [.int (nI 32768), .ref r2, .int (nI (trs ++ [kd] ++ os).length)])), (r2, .inl ((kA 0), (zCapN 32768 n trs.length (1 + os.length)), .inl f2))] := hD
        refine W.widen (k := ((zCapN 32768 n trs.length (1 + os.length)) - n)) (n := (3 * ((zCapN 32768 n trs.length (1 + os.length)) - n))) (by rw [hm2]; omega) (by rw [hm2]; omega) ?_
        refine lv_iload_n hx hb d_Peer_tell_47 rfl (lv_at hl 4 rfl) ?_
        refine lv_if_eq (tgt := 60) hx hb d_Peer_tell_48 (by decide) (fun c48 => ?_) (fun c48 => ?_)
        · exact absurd c48 (by decide)
        · refine lv_aload_n hx hb d_Peer_tell_51 rfl (lv_at hl 1 rfl) ?_
          refine zk_get (C := R_Peer) (T := F_Peer) (N := 10) S hK (zk_ro hS hx0 hxA) rfl i_Peer 3 (by decide) m_Peer_25 rfl rfl d_Peer_tell_52 ?_
          refine lv_bipush (v := 10) hx hb d_Peer_tell_55 (by decide) ?_
          refine zk_ti (z := nI 10) (rfl) ?_
          have hm3 : zCap 32768 (zCapN 32768 n trs.length (1 + os.length)) (trs ++ [kd] ++ os).length = (zCapN 32768 n trs.length (zThing kd os true).length) := by rw [hth]; show _ = zCap 32768 (zCapN 32768 n trs.length (1 + os.length)) (trs.length + (1 + os.length)); congr 1; simp; omega
          have hFc := va_free (wc := [(tr, .inr (0, [.int (nI 32768), .ref r2, .int (nI (trs ++ [kd] ++ os).length)])), (r2, .inl ((kA 0), (zCapN 32768 n trs.length (1 + os.length)), .inl f2))]) hD hS hA [0, 1] rfl
          refine zk_mut (zk_runV (As := [.int (nI 10)]) (rest := []) S m_Peer_147 (c_Bytes_append l D kA tr r2 32768 (zCapN 32768 n trs.length (1 + os.length)) f2 (trs ++ [kd] ++ os) (nI 10) H.size) rfl rfl ⟨Nat.le_of_ble_eq_true rfl, Nat.le_of_ble_eq_true rfl⟩ hK hX (zk_recv hK (hP 0 _ rfl) rfl) ⟨rfl, hP.sub (ws' := [(tr, .inr (0, [.int (nI 32768), .ref r2, .int (nI (trs ++ [kd] ++ os).length)])), (r2, .inl ((kA 0), (zCapN 32768 n trs.length (1 + os.length)), .inl f2))]) [0, 1] rfl, (hD.sub (ws' := [(tr, .inr (0, [.int (nI 32768), .ref r2, .int (nI (trs ++ [kd] ++ os).length)])), (r2, .inl ((kA 0), (zCapN 32768 n trs.length (1 + os.length)), .inl f2))]) [0, 1] (by decide) rfl).weaken (fun _ _ _ _ => trivial), hb2⟩ rfl hl.1 rfl (Nat.le_of_ble_eq_true rfl) ⟨by
            show _ + (_ - _) ≤ zTellN n trs (zThing kd os true) - n
            rw [htn, hm3]; omega, by
            show _ + 3 * (_ - _) ≤ 3 * (zTellN n trs (zThing kd os true) - n)
            rw [htn, hm3]; omega⟩ d_Peer_tell_57) hS hFc hFc (fun v H locs hpost hz1 hk1 hS => ?_)
          obtain ⟨rfl, r3, f3, hP1, hD1, hb3⟩ := hpost
          obtain ⟨hP, hD⟩ := va_join (wr := []) (w1 := [(tr, .inr (0, [.int (nI 32768), .ref r3, .int (nI (zApp 32768 (trs ++ [kd] ++ os) (zByte (nI 10))).length)])), (r3, .inl ((kA 0), (zCap 32768 (zCapN 32768 n trs.length (1 + os.length)) (trs ++ [kd] ++ os).length), .inl f3))]) hP hD [0, 1] [] rfl rfl (by decide) (by decide) hk1 hFc hP1 hD1
          refine W.eq (g2 := F0 m 60 ls []) rfl ?_
          have hP : va_P D classes [(tr, .inr (0, [.int (nI 32768), .ref r3, .int (nI (zApp 32768 (trs ++ [kd] ++ os) (zByte (nI 10))).length)])), (r3, .inl ((kA 0), (zCap 32768 (zCapN 32768 n trs.length (1 + os.length)) (trs ++ [kd] ++ os).length), .inl f3))] H := hP
          have hD : va_D A [(tr, .inr (0, [.int (nI 32768), .ref r3, .int (nI (zApp 32768 (trs ++ [kd] ++ os) (zByte (nI 10))).length)])), (r3, .inl ((kA 0), (zCap 32768 (zCapN 32768 n trs.length (1 + os.length)) (trs ++ [kd] ++ os).length), .inl f3))] := hD
          have hap3 : zApp 32768 (trs ++ [kd] ++ os) (zByte (nI 10)) = ((trs ++ [kd] ++ os) ++ [10]) := by rw [zByte_nI (by omega), zApp_lt (by simp; omega)]
          rw [hap3, hm3] at hP hD hb3
          have hP : va_P D classes [(tr, .inr (0, [.int (nI 32768), .ref r3, .int (nI ((trs ++ [kd] ++ os) ++ [10]).length)])), (r3, .inl ((kA 0), (zCapN 32768 n trs.length (zThing kd os true).length), .inl f3))] H := hP
          have hD : va_D A [(tr, .inr (0, [.int (nI 32768), .ref r3, .int (nI ((trs ++ [kd] ++ os) ++ [10]).length)])), (r3, .inl ((kA 0), (zCapN 32768 n trs.length (zThing kd os true).length), .inl f3))] := hD
          refine W.widen (k := ((zCapN 32768 n trs.length (zThing kd os true).length) - n)) (n := (3 * ((zCapN 32768 n trs.length (zThing kd os true).length) - n))) (by rw [hm3]; omega) (by rw [hm3]; omega) ?_
          have hfin : ((trs ++ [kd] ++ os) ++ [10]) = zTell trs (zThing kd os true) := by rw [ht9]; simp [zThing]
          have hP9 := hP.sub (ws' := [(tr, .inr (0, [.int (nI 32768), .ref r3, .int (nI ((trs ++ [kd] ++ os) ++ [10]).length)])), (r3, .inl ((kA 0), (zCapN 32768 n trs.length (zThing kd os true).length), .inl f3))]) [0, 1] rfl
          have hD9 := hD.sub (ws' := [(tr, .inr (0, [.int (nI 32768), .ref r3, .int (nI ((trs ++ [kd] ++ os) ++ [10]).length)])), (r3, .inl ((kA 0), (zCapN 32768 n trs.length (zThing kd os true).length), .inl f3))]) [0, 1] (by decide) rfl
          rw [← htn, hfin] at hP9 hD9 hb3
          exact zk_vret S hr hlk hS ⟨rfl, r3, f3, hP9, hD9, hb3⟩ (by rw [htn]; exact Nat.le_refl _) (by rw [htn]; exact Nat.le_refl _) d_Peer_tell_60
      · have hno : ¬ trs.length + (zThing kd os true).length ≤ 32768 := fun z => absurd (c27.symm.trans (if_pos (show (zThing kd os true).length ≤ 32768 - trs.length by omega))) (by decide)
        exact zk_vret S hr hlk hS ⟨rfl, by
          rw [show zTellN n trs (zThing kd os true) = n from if_neg hno, show zTell trs (zThing kd os true) = trs from if_neg hno]
          exact ⟨r, f, hP, hD, hbs0⟩⟩ (Nat.zero_le _) (Nat.zero_le _) d_Peer_tell_30
