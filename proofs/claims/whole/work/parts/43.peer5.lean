def zB4 (x : Int32) : List Nat := [zByte ((x.toUInt32 >>> ((24 : Int32).toUInt32 &&& Int32.toUInt32 31)).toInt32), zByte ((x.toUInt32 >>> ((16 : Int32).toUInt32 &&& Int32.toUInt32 31)).toInt32), zByte ((x.toUInt32 >>> ((8 : Int32).toUInt32 &&& Int32.toUInt32 31)).toInt32), zByte x]
theorem zB4_app {bs : List Nat} {x : Int32} : bs ++ [zByte ((x.toUInt32 >>> ((24 : Int32).toUInt32 &&& Int32.toUInt32 31)).toInt32)] ++ [zByte ((x.toUInt32 >>> ((16 : Int32).toUInt32 &&& Int32.toUInt32 31)).toInt32)] ++ [zByte ((x.toUInt32 >>> ((8 : Int32).toUInt32 &&& Int32.toUInt32 31)).toInt32)] ++ [zByte x] = bs ++ zB4 x := by
  simp [zB4]
theorem zB4_len {x : Int32} : (zB4 x).length = 4 := rfl
def zClamp (n : Int64) : Nat := if n < 0 then 0 else if 1000000 < n then 1000000 else n.toInt.toNat
theorem zClamp_le (n : Int64) : zClamp n ≤ 1000000 := by
  unfold zClamp
  split
  · omega
  · split
    · exact Nat.le_refl _
    · rename_i h1 h2
      have := mt Int64.lt_iff_toInt_lt.mpr h2
      rw [show (1000000 : Int64).toInt = 1000000 by decide] at this
      omega
theorem zClamp_eq (n : Int64) : (if (if (1000000 : Int64) < n then (1000000 : Int64) else n) < (0 : Int64) then (0 : Int64) else (if (1000000 : Int64) < n then (1000000 : Int64) else n)) = lN (zClamp n) := by
  unfold zClamp
  by_cases h1 : n < 0
  · have h2 : ¬ (1000000 : Int64) < n := fun h => by
      have a := Int64.lt_iff_toInt_lt.mp h1
      have b := Int64.lt_iff_toInt_lt.mp h
      rw [show (1000000 : Int64).toInt = 1000000 by decide] at b
      rw [show (0 : Int64).toInt = 0 by decide] at a
      omega
    rw [if_neg h2, if_pos h1, if_pos h1]
    rfl
  · rw [if_neg h1]
    by_cases h2 : (1000000 : Int64) < n
    · rw [if_pos h2, if_pos h2]
      decide
    · rw [if_neg h2, if_neg h2, if_neg h1]
      obtain ⟨k, hk, e⟩ := pk_lOf h1
      rw [e, pk_lT hk]
      rfl
set_option maxHeartbeats 4000000 in
set_option maxRecDepth 100000 in
/-- PeerLine.feed(a, b, c, d, e) -/
theorem c_Peer_feed (l : Launch) (D : va_G) (kA : Nat → ClassId) (x tp ln bf tr ru co : Nat) (rc hp st : Int32) (tm : Int64) (r n : Nat) (f : Nat → Int32) (bs : List Nat) (a1 a2 a3 a4 a5 : Int32) (sz0 : Nat) : Met l y_Peer_feed (Cond.code y_Peer_feed b_Peer_feed 6 (some .boolean) :: zTB) { frames := 4, cells := zCapN 1024 n bs.length 20 - n, slots := 3 * (zCapN 1024 n bs.length 20 - n), locals := 104 } (zk_Pc D classes (zTY kA) [.ref x, .int a1, .int a2, .int a3, .int a4, .int a5] (fun H => H.size = sz0 ∧ va_P D classes [(tp, .inr (0, [.int (nI 1024), .ref r, .int (nI bs.length)])), (r, .inl ((kA 0), n, .inl f))] H ∧ va_D (fun _ => True) [(tp, .inr (0, [.int (nI 1024), .ref r, .int (nI bs.length)])), (r, .inl ((kA 0), n, .inl f))] ∧ va_at D classes (x, .inr (5, [.ref tp, .ref ln, .ref bf, .ref tr, .ref ru, .ref co, .int rc, .int hp, .int st, .long tm])) H ∧ ¬ (va_A [(tp, .inr (0, [.int (nI 1024), .ref r, .int (nI bs.length)])), (r, .inl ((kA 0), n, .inl f))] sz0) x ∧ zBs 1024 n f bs)) (zk_mQ (fun v H => (bs.length + 20 ≤ 1024 ∧ v = some (.int 1) ∧ BsPost D kA (va_A [(tp, .inr (0, [.int (nI 1024), .ref r, .int (nI bs.length)])), (r, .inl ((kA 0), n, .inl f))] sz0) H tp 1024 (zCapN 1024 n bs.length 20) (bs ++ (zB4 a1 ++ zB4 a2 ++ zB4 a3 ++ zB4 a4 ++ zB4 a5))) ∨ (¬ bs.length + 20 ≤ 1024 ∧ v = some (.int 0) ∧ BsPost D kA (va_A [(tp, .inr (0, [.int (nI 1024), .ref r, .int (nI bs.length)])), (r, .inl ((kA 0), n, .inl f))] sz0) H tp 1024 n bs)) (va_A [(tp, .inr (0, [.int (nI 1024), .ref r, .int (nI bs.length)])), (r, .inl ((kA 0), n, .inl f))] sz0)) (zCapN 1024 n bs.length 20 - n) (3 * (zCapN 1024 n bs.length 20 - n)) (va_A [(tp, .inr (0, [.int (nI 1024), .ref r, .int (nI bs.length)])), (r, .inl ((kA 0), n, .inl f))] sz0) := by
  refine zk_of [.ref x, .int a1, .int a2, .int a3, .int a4, .int a5] (by decide) (Nat.le_of_ble_eq_true rfl) ?_
  intro p e s m below meth c S hr hlk hnm hK hX hpre ls hl
  obtain ⟨hx, hb, hml, hown, ht⟩ := id S
  have hl : lv_has ls 6 [(0, .ref x), (1, .int a1), (2, .int a2), (3, .int a3), (4, .int a4), (5, .int a5)] := hl
  obtain ⟨hsz, hP, hD0, hx0, hxA, hbs0⟩ := hpre
  subst hsz
  have hD := hD0.self (sz := s.heap.size)
  generalize hAe : va_A [(tp, .inr (0, [.int (nI 1024), .ref r, .int (nI bs.length)])), (r, .inl ((kA 0), n, .inl f))] s.heap.size = A at hD hxA ⊢
  have hA : ∀ q : Nat, s.heap.size ≤ q → A q := fun q h => by rw [← hAe]; exact Or.inr h
  have hS : va_S A s.heap s.heap [] := va_S.rf
  have hP : va_P D classes [(tp, .inr (0, [.int (nI 1024), .ref r, .int (nI bs.length)])), (r, .inl ((kA 0), n, .inl f))] s.heap := hP
  obtain ⟨h1, h2, h3, h4, h5⟩ := id hbs0
  refine lv_aload_n hx hb d_Peer_feed_0 rfl (lv_at hl 0 rfl) ?_
  refine zk_get (C := R_Peer) (T := F_Peer) (N := 10) S hK (zk_ro hS hx0 hxA) rfl i_Peer 0 (by decide) m_Peer_14 rfl rfl d_Peer_feed_1 ?_
  refine lv_bipush (v := 20) hx hb d_Peer_feed_4 (by decide) ?_
  refine zk_ti (z := nI 20) (rfl) ?_
  refine zk_pure (zk_runV (As := [.int (nI 20)]) (rest := []) S m_Peer_56 (c_Bytes_hasRoomFor l D kA (fun _ => True) tp 1024 bs 20 (by decide)) rfl rfl ⟨Nat.le_of_ble_eq_true rfl, Nat.le_of_ble_eq_true rfl⟩ hK hX (zk_recv hK (hP 0 _ rfl) rfl) (⟨r, n, f, trivial, trivial, hP 0 _ rfl, hP 1 _ rfl, hbs0⟩) rfl hl.1 rfl (Nat.le_of_ble_eq_true rfl) ⟨Nat.zero_le _, Nat.zero_le _⟩ d_Peer_feed_6) ?_
  refine lv_if_ne (tgt := 14) hx hb d_Peer_feed_9 (by decide) (fun c9 => ?_) (fun c9 => ?_)
  · refine lv_aload_n hx hb d_Peer_feed_14 rfl (lv_at hl 0 rfl) ?_
    refine zk_get (C := R_Peer) (T := F_Peer) (N := 10) S hK (zk_ro hS hx0 hxA) rfl i_Peer 0 (by decide) m_Peer_14 rfl rfl d_Peer_feed_15 ?_
    refine lv_iload_n hx hb d_Peer_feed_18 rfl (lv_at hl 1 rfl) ?_
    have hroom : bs.length + 20 ≤ 1024 := by
      by_cases z : 20 ≤ 1024 - bs.length
      · omega
      · exact absurd (if_neg z) c9
    obtain ⟨y4a, y4b, y4c⟩ := zCapN_ge (lim := 1024) h2 h1 4 (by omega) h2 (by omega)
    obtain ⟨y8a, y8b, y8c⟩ := zCapN_ge (lim := 1024) h2 h1 8 (by omega) h2 (by omega)
    obtain ⟨y12a, y12b, y12c⟩ := zCapN_ge (lim := 1024) h2 h1 12 (by omega) h2 (by omega)
    obtain ⟨y16a, y16b, y16c⟩ := zCapN_ge (lim := 1024) h2 h1 16 (by omega) h2 (by omega)
    obtain ⟨y20a, y20b, y20c⟩ := zCapN_ge (lim := 1024) h2 h1 20 (by omega) h2 (by omega)
    have u4 := zCapN_upto (lim := 1024) h2 h1 (by omega) 8 4 (by omega) (by omega)
    have u8 := zCapN_upto (lim := 1024) h2 h1 (by omega) 12 8 (by omega) (by omega)
    have u12 := zCapN_upto (lim := 1024) h2 h1 (by omega) 16 12 (by omega) (by omega)
    have u16 := zCapN_upto (lim := 1024) h2 h1 (by omega) 20 16 (by omega) (by omega)
    have hlen0 : bs.length = bs.length + 0 := rfl
    have hm0 : zCapN 1024 n bs.length 4 = (zCapN 1024 n bs.length 4) := by rfl
    have hFc := va_free (wc := [(tp, .inr (0, [.int (nI 1024), .ref r, .int (nI bs.length)])), (r, .inl ((kA 0), n, .inl f))]) hD hS hA [0, 1] rfl
    refine zk_mut (zk_runV (As := [.int a1]) (rest := []) S m_Peer_60 (c_Bytes_appendNumber l D kA tp r 1024 n f bs a1 (by rw [hlen0]; omega) s.heap.size) rfl rfl ⟨Nat.le_of_ble_eq_true rfl, Nat.le_of_ble_eq_true rfl⟩ hK hX (zk_recv hK (hP 0 _ rfl) rfl) ⟨rfl, hP.sub (ws' := [(tp, .inr (0, [.int (nI 1024), .ref r, .int (nI bs.length)])), (r, .inl ((kA 0), n, .inl f))]) [0, 1] rfl, (hD.sub (ws' := [(tp, .inr (0, [.int (nI 1024), .ref r, .int (nI bs.length)])), (r, .inl ((kA 0), n, .inl f))]) [0, 1] (by decide) rfl).weaken (fun _ _ _ _ => trivial), hbs0⟩ rfl hl.1 rfl (Nat.le_of_ble_eq_true rfl) ⟨by
      show _ + (_ - _) ≤ zCapN 1024 n bs.length 20 - n
      rw [hm0]; omega, by
      show _ + 3 * (_ - _) ≤ 3 * (zCapN 1024 n bs.length 20 - n)
      rw [hm0]; omega⟩ d_Peer_feed_19) hS hFc hFc (fun v H locs hpost hz1 hk1 hS => ?_)
    obtain ⟨rfl, r1, f1, hP1, hD1, hbs1⟩ := hpost
    obtain ⟨hP, hD⟩ := va_join (wr := []) (w1 := [(tp, .inr (0, [.int (nI 1024), .ref r1, .int (nI ((((bs ++ [zByte ((a1.toUInt32 >>> ((24 : Int32).toUInt32 &&& Int32.toUInt32 31)).toInt32)]) ++ [zByte ((a1.toUInt32 >>> ((16 : Int32).toUInt32 &&& Int32.toUInt32 31)).toInt32)]) ++ [zByte ((a1.toUInt32 >>> ((8 : Int32).toUInt32 &&& Int32.toUInt32 31)).toInt32)]) ++ [zByte a1]).length)])), (r1, .inl ((kA 0), (zCapN 1024 n bs.length 4), .inl f1))]) hP hD [0, 1] [] rfl rfl (by decide) (by decide) hk1 hFc hP1 hD1
    refine W.eq (g2 := F0 m 22 ls []) rfl ?_
    have hP : va_P D classes [(tp, .inr (0, [.int (nI 1024), .ref r1, .int (nI ((((bs ++ [zByte ((a1.toUInt32 >>> ((24 : Int32).toUInt32 &&& Int32.toUInt32 31)).toInt32)]) ++ [zByte ((a1.toUInt32 >>> ((16 : Int32).toUInt32 &&& Int32.toUInt32 31)).toInt32)]) ++ [zByte ((a1.toUInt32 >>> ((8 : Int32).toUInt32 &&& Int32.toUInt32 31)).toInt32)]) ++ [zByte a1]).length)])), (r1, .inl ((kA 0), (zCapN 1024 n bs.length 4), .inl f1))] H := hP
    have hD : va_D A [(tp, .inr (0, [.int (nI 1024), .ref r1, .int (nI ((((bs ++ [zByte ((a1.toUInt32 >>> ((24 : Int32).toUInt32 &&& Int32.toUInt32 31)).toInt32)]) ++ [zByte ((a1.toUInt32 >>> ((16 : Int32).toUInt32 &&& Int32.toUInt32 31)).toInt32)]) ++ [zByte ((a1.toUInt32 >>> ((8 : Int32).toUInt32 &&& Int32.toUInt32 31)).toInt32)]) ++ [zByte a1]).length)])), (r1, .inl ((kA 0), (zCapN 1024 n bs.length 4), .inl f1))] := hD
    rw [zB4_app, hm0] at hP hD hbs1
    have hP : va_P D classes [(tp, .inr (0, [.int (nI 1024), .ref r1, .int (nI (bs ++ zB4 a1).length)])), (r1, .inl ((kA 0), (zCapN 1024 n bs.length 4), .inl f1))] H := hP
    have hD : va_D A [(tp, .inr (0, [.int (nI 1024), .ref r1, .int (nI (bs ++ zB4 a1).length)])), (r1, .inl ((kA 0), (zCapN 1024 n bs.length 4), .inl f1))] := hD
    refine W.widen (k := ((zCapN 1024 n bs.length 4) - n)) (n := (3 * ((zCapN 1024 n bs.length 4) - n))) (by rw [hm0]; omega) (by rw [hm0]; omega) ?_
    refine lv_aload_n hx hb d_Peer_feed_22 rfl (lv_at hl 0 rfl) ?_
    refine zk_get (C := R_Peer) (T := F_Peer) (N := 10) S hK (zk_ro hS hx0 hxA) rfl i_Peer 0 (by decide) m_Peer_14 rfl rfl d_Peer_feed_23 ?_
    refine lv_iload_n hx hb d_Peer_feed_26 rfl (lv_at hl 2 rfl) ?_
    have hlen1 : (bs ++ zB4 a1).length = bs.length + 4 := by simp [zB4]
    have hm1 : zCapN 1024 (zCapN 1024 n bs.length 4) (bs ++ zB4 a1).length 4 = (zCapN 1024 n bs.length 8) := by rw [hlen1]; exact (zCapN_add 4 4).symm
    have hFc := va_free (wc := [(tp, .inr (0, [.int (nI 1024), .ref r1, .int (nI (bs ++ zB4 a1).length)])), (r1, .inl ((kA 0), (zCapN 1024 n bs.length 4), .inl f1))]) hD hS hA [0, 1] rfl
    refine zk_mut (zk_runV (As := [.int a2]) (rest := []) S m_Peer_60 (c_Bytes_appendNumber l D kA tp r1 1024 (zCapN 1024 n bs.length 4) f1 (bs ++ zB4 a1) a2 (by rw [hlen1]; omega) H.size) rfl rfl ⟨Nat.le_of_ble_eq_true rfl, Nat.le_of_ble_eq_true rfl⟩ hK hX (zk_recv hK (hP 0 _ rfl) rfl) ⟨rfl, hP.sub (ws' := [(tp, .inr (0, [.int (nI 1024), .ref r1, .int (nI (bs ++ zB4 a1).length)])), (r1, .inl ((kA 0), (zCapN 1024 n bs.length 4), .inl f1))]) [0, 1] rfl, (hD.sub (ws' := [(tp, .inr (0, [.int (nI 1024), .ref r1, .int (nI (bs ++ zB4 a1).length)])), (r1, .inl ((kA 0), (zCapN 1024 n bs.length 4), .inl f1))]) [0, 1] (by decide) rfl).weaken (fun _ _ _ _ => trivial), hbs1⟩ rfl hl.1 rfl (Nat.le_of_ble_eq_true rfl) ⟨by
      show _ + (_ - _) ≤ zCapN 1024 n bs.length 20 - n
      rw [hm1]; omega, by
      show _ + 3 * (_ - _) ≤ 3 * (zCapN 1024 n bs.length 20 - n)
      rw [hm1]; omega⟩ d_Peer_feed_27) hS hFc hFc (fun v H locs hpost hz1 hk1 hS => ?_)
    obtain ⟨rfl, r2, f2, hP1, hD1, hbs2⟩ := hpost
    obtain ⟨hP, hD⟩ := va_join (wr := []) (w1 := [(tp, .inr (0, [.int (nI 1024), .ref r2, .int (nI (((((bs ++ zB4 a1) ++ [zByte ((a2.toUInt32 >>> ((24 : Int32).toUInt32 &&& Int32.toUInt32 31)).toInt32)]) ++ [zByte ((a2.toUInt32 >>> ((16 : Int32).toUInt32 &&& Int32.toUInt32 31)).toInt32)]) ++ [zByte ((a2.toUInt32 >>> ((8 : Int32).toUInt32 &&& Int32.toUInt32 31)).toInt32)]) ++ [zByte a2]).length)])), (r2, .inl ((kA 0), (zCapN 1024 (zCapN 1024 n bs.length 4) (bs ++ zB4 a1).length 4), .inl f2))]) hP hD [0, 1] [] rfl rfl (by decide) (by decide) hk1 hFc hP1 hD1
    refine W.eq (g2 := F0 m 30 ls []) rfl ?_
    have hP : va_P D classes [(tp, .inr (0, [.int (nI 1024), .ref r2, .int (nI (((((bs ++ zB4 a1) ++ [zByte ((a2.toUInt32 >>> ((24 : Int32).toUInt32 &&& Int32.toUInt32 31)).toInt32)]) ++ [zByte ((a2.toUInt32 >>> ((16 : Int32).toUInt32 &&& Int32.toUInt32 31)).toInt32)]) ++ [zByte ((a2.toUInt32 >>> ((8 : Int32).toUInt32 &&& Int32.toUInt32 31)).toInt32)]) ++ [zByte a2]).length)])), (r2, .inl ((kA 0), (zCapN 1024 (zCapN 1024 n bs.length 4) (bs ++ zB4 a1).length 4), .inl f2))] H := hP
    have hD : va_D A [(tp, .inr (0, [.int (nI 1024), .ref r2, .int (nI (((((bs ++ zB4 a1) ++ [zByte ((a2.toUInt32 >>> ((24 : Int32).toUInt32 &&& Int32.toUInt32 31)).toInt32)]) ++ [zByte ((a2.toUInt32 >>> ((16 : Int32).toUInt32 &&& Int32.toUInt32 31)).toInt32)]) ++ [zByte ((a2.toUInt32 >>> ((8 : Int32).toUInt32 &&& Int32.toUInt32 31)).toInt32)]) ++ [zByte a2]).length)])), (r2, .inl ((kA 0), (zCapN 1024 (zCapN 1024 n bs.length 4) (bs ++ zB4 a1).length 4), .inl f2))] := hD
    rw [zB4_app, hm1] at hP hD hbs2
    have hP : va_P D classes [(tp, .inr (0, [.int (nI 1024), .ref r2, .int (nI ((bs ++ zB4 a1) ++ zB4 a2).length)])), (r2, .inl ((kA 0), (zCapN 1024 n bs.length 8), .inl f2))] H := hP
    have hD : va_D A [(tp, .inr (0, [.int (nI 1024), .ref r2, .int (nI ((bs ++ zB4 a1) ++ zB4 a2).length)])), (r2, .inl ((kA 0), (zCapN 1024 n bs.length 8), .inl f2))] := hD
    refine W.widen (k := ((zCapN 1024 n bs.length 8) - n)) (n := (3 * ((zCapN 1024 n bs.length 8) - n))) (by rw [hm1]; omega) (by rw [hm1]; omega) ?_
    refine lv_aload_n hx hb d_Peer_feed_30 rfl (lv_at hl 0 rfl) ?_
    refine zk_get (C := R_Peer) (T := F_Peer) (N := 10) S hK (zk_ro hS hx0 hxA) rfl i_Peer 0 (by decide) m_Peer_14 rfl rfl d_Peer_feed_31 ?_
    refine lv_iload_n hx hb d_Peer_feed_34 rfl (lv_at hl 3 rfl) ?_
    have hlen2 : ((bs ++ zB4 a1) ++ zB4 a2).length = bs.length + 8 := by simp [zB4]
    have hm2 : zCapN 1024 (zCapN 1024 n bs.length 8) ((bs ++ zB4 a1) ++ zB4 a2).length 4 = (zCapN 1024 n bs.length 12) := by rw [hlen2]; exact (zCapN_add 4 8).symm
    have hFc := va_free (wc := [(tp, .inr (0, [.int (nI 1024), .ref r2, .int (nI ((bs ++ zB4 a1) ++ zB4 a2).length)])), (r2, .inl ((kA 0), (zCapN 1024 n bs.length 8), .inl f2))]) hD hS hA [0, 1] rfl
    refine zk_mut (zk_runV (As := [.int a3]) (rest := []) S m_Peer_60 (c_Bytes_appendNumber l D kA tp r2 1024 (zCapN 1024 n bs.length 8) f2 ((bs ++ zB4 a1) ++ zB4 a2) a3 (by rw [hlen2]; omega) H.size) rfl rfl ⟨Nat.le_of_ble_eq_true rfl, Nat.le_of_ble_eq_true rfl⟩ hK hX (zk_recv hK (hP 0 _ rfl) rfl) ⟨rfl, hP.sub (ws' := [(tp, .inr (0, [.int (nI 1024), .ref r2, .int (nI ((bs ++ zB4 a1) ++ zB4 a2).length)])), (r2, .inl ((kA 0), (zCapN 1024 n bs.length 8), .inl f2))]) [0, 1] rfl, (hD.sub (ws' := [(tp, .inr (0, [.int (nI 1024), .ref r2, .int (nI ((bs ++ zB4 a1) ++ zB4 a2).length)])), (r2, .inl ((kA 0), (zCapN 1024 n bs.length 8), .inl f2))]) [0, 1] (by decide) rfl).weaken (fun _ _ _ _ => trivial), hbs2⟩ rfl hl.1 rfl (Nat.le_of_ble_eq_true rfl) ⟨by
      show _ + (_ - _) ≤ zCapN 1024 n bs.length 20 - n
      rw [hm2]; omega, by
      show _ + 3 * (_ - _) ≤ 3 * (zCapN 1024 n bs.length 20 - n)
      rw [hm2]; omega⟩ d_Peer_feed_35) hS hFc hFc (fun v H locs hpost hz1 hk1 hS => ?_)
    obtain ⟨rfl, r3, f3, hP1, hD1, hbs3⟩ := hpost
    obtain ⟨hP, hD⟩ := va_join (wr := []) (w1 := [(tp, .inr (0, [.int (nI 1024), .ref r3, .int (nI ((((((bs ++ zB4 a1) ++ zB4 a2) ++ [zByte ((a3.toUInt32 >>> ((24 : Int32).toUInt32 &&& Int32.toUInt32 31)).toInt32)]) ++ [zByte ((a3.toUInt32 >>> ((16 : Int32).toUInt32 &&& Int32.toUInt32 31)).toInt32)]) ++ [zByte ((a3.toUInt32 >>> ((8 : Int32).toUInt32 &&& Int32.toUInt32 31)).toInt32)]) ++ [zByte a3]).length)])), (r3, .inl ((kA 0), (zCapN 1024 (zCapN 1024 n bs.length 8) ((bs ++ zB4 a1) ++ zB4 a2).length 4), .inl f3))]) hP hD [0, 1] [] rfl rfl (by decide) (by decide) hk1 hFc hP1 hD1
    refine W.eq (g2 := F0 m 38 ls []) rfl ?_
    have hP : va_P D classes [(tp, .inr (0, [.int (nI 1024), .ref r3, .int (nI ((((((bs ++ zB4 a1) ++ zB4 a2) ++ [zByte ((a3.toUInt32 >>> ((24 : Int32).toUInt32 &&& Int32.toUInt32 31)).toInt32)]) ++ [zByte ((a3.toUInt32 >>> ((16 : Int32).toUInt32 &&& Int32.toUInt32 31)).toInt32)]) ++ [zByte ((a3.toUInt32 >>> ((8 : Int32).toUInt32 &&& Int32.toUInt32 31)).toInt32)]) ++ [zByte a3]).length)])), (r3, .inl ((kA 0), (zCapN 1024 (zCapN 1024 n bs.length 8) ((bs ++ zB4 a1) ++ zB4 a2).length 4), .inl f3))] H := hP
    have hD : va_D A [(tp, .inr (0, [.int (nI 1024), .ref r3, .int (nI ((((((bs ++ zB4 a1) ++ zB4 a2) ++ [zByte ((a3.toUInt32 >>> ((24 : Int32).toUInt32 &&& Int32.toUInt32 31)).toInt32)]) ++ [zByte ((a3.toUInt32 >>> ((16 : Int32).toUInt32 &&& Int32.toUInt32 31)).toInt32)]) ++ [zByte ((a3.toUInt32 >>> ((8 : Int32).toUInt32 &&& Int32.toUInt32 31)).toInt32)]) ++ [zByte a3]).length)])), (r3, .inl ((kA 0), (zCapN 1024 (zCapN 1024 n bs.length 8) ((bs ++ zB4 a1) ++ zB4 a2).length 4), .inl f3))] := hD
    rw [zB4_app, hm2] at hP hD hbs3
    have hP : va_P D classes [(tp, .inr (0, [.int (nI 1024), .ref r3, .int (nI (((bs ++ zB4 a1) ++ zB4 a2) ++ zB4 a3).length)])), (r3, .inl ((kA 0), (zCapN 1024 n bs.length 12), .inl f3))] H := hP
    have hD : va_D A [(tp, .inr (0, [.int (nI 1024), .ref r3, .int (nI (((bs ++ zB4 a1) ++ zB4 a2) ++ zB4 a3).length)])), (r3, .inl ((kA 0), (zCapN 1024 n bs.length 12), .inl f3))] := hD
    refine W.widen (k := ((zCapN 1024 n bs.length 12) - n)) (n := (3 * ((zCapN 1024 n bs.length 12) - n))) (by rw [hm2]; omega) (by rw [hm2]; omega) ?_
    refine lv_aload_n hx hb d_Peer_feed_38 rfl (lv_at hl 0 rfl) ?_
    refine zk_get (C := R_Peer) (T := F_Peer) (N := 10) S hK (zk_ro hS hx0 hxA) rfl i_Peer 0 (by decide) m_Peer_14 rfl rfl d_Peer_feed_39 ?_
    refine lv_iload hx hb d_Peer_feed_42 (lv_at hl 4 rfl) ?_
    have hlen3 : (((bs ++ zB4 a1) ++ zB4 a2) ++ zB4 a3).length = bs.length + 12 := by simp [zB4]
    have hm3 : zCapN 1024 (zCapN 1024 n bs.length 12) (((bs ++ zB4 a1) ++ zB4 a2) ++ zB4 a3).length 4 = (zCapN 1024 n bs.length 16) := by rw [hlen3]; exact (zCapN_add 4 12).symm
    have hFc := va_free (wc := [(tp, .inr (0, [.int (nI 1024), .ref r3, .int (nI (((bs ++ zB4 a1) ++ zB4 a2) ++ zB4 a3).length)])), (r3, .inl ((kA 0), (zCapN 1024 n bs.length 12), .inl f3))]) hD hS hA [0, 1] rfl
    refine zk_mut (zk_runV (As := [.int a4]) (rest := []) S m_Peer_60 (c_Bytes_appendNumber l D kA tp r3 1024 (zCapN 1024 n bs.length 12) f3 (((bs ++ zB4 a1) ++ zB4 a2) ++ zB4 a3) a4 (by rw [hlen3]; omega) H.size) rfl rfl ⟨Nat.le_of_ble_eq_true rfl, Nat.le_of_ble_eq_true rfl⟩ hK hX (zk_recv hK (hP 0 _ rfl) rfl) ⟨rfl, hP.sub (ws' := [(tp, .inr (0, [.int (nI 1024), .ref r3, .int (nI (((bs ++ zB4 a1) ++ zB4 a2) ++ zB4 a3).length)])), (r3, .inl ((kA 0), (zCapN 1024 n bs.length 12), .inl f3))]) [0, 1] rfl, (hD.sub (ws' := [(tp, .inr (0, [.int (nI 1024), .ref r3, .int (nI (((bs ++ zB4 a1) ++ zB4 a2) ++ zB4 a3).length)])), (r3, .inl ((kA 0), (zCapN 1024 n bs.length 12), .inl f3))]) [0, 1] (by decide) rfl).weaken (fun _ _ _ _ => trivial), hbs3⟩ rfl hl.1 rfl (Nat.le_of_ble_eq_true rfl) ⟨by
      show _ + (_ - _) ≤ zCapN 1024 n bs.length 20 - n
      rw [hm3]; omega, by
      show _ + 3 * (_ - _) ≤ 3 * (zCapN 1024 n bs.length 20 - n)
      rw [hm3]; omega⟩ d_Peer_feed_44) hS hFc hFc (fun v H locs hpost hz1 hk1 hS => ?_)
    obtain ⟨rfl, r4, f4, hP1, hD1, hbs4⟩ := hpost
    obtain ⟨hP, hD⟩ := va_join (wr := []) (w1 := [(tp, .inr (0, [.int (nI 1024), .ref r4, .int (nI (((((((bs ++ zB4 a1) ++ zB4 a2) ++ zB4 a3) ++ [zByte ((a4.toUInt32 >>> ((24 : Int32).toUInt32 &&& Int32.toUInt32 31)).toInt32)]) ++ [zByte ((a4.toUInt32 >>> ((16 : Int32).toUInt32 &&& Int32.toUInt32 31)).toInt32)]) ++ [zByte ((a4.toUInt32 >>> ((8 : Int32).toUInt32 &&& Int32.toUInt32 31)).toInt32)]) ++ [zByte a4]).length)])), (r4, .inl ((kA 0), (zCapN 1024 (zCapN 1024 n bs.length 12) (((bs ++ zB4 a1) ++ zB4 a2) ++ zB4 a3).length 4), .inl f4))]) hP hD [0, 1] [] rfl rfl (by decide) (by decide) hk1 hFc hP1 hD1
    refine W.eq (g2 := F0 m 47 ls []) rfl ?_
    have hP : va_P D classes [(tp, .inr (0, [.int (nI 1024), .ref r4, .int (nI (((((((bs ++ zB4 a1) ++ zB4 a2) ++ zB4 a3) ++ [zByte ((a4.toUInt32 >>> ((24 : Int32).toUInt32 &&& Int32.toUInt32 31)).toInt32)]) ++ [zByte ((a4.toUInt32 >>> ((16 : Int32).toUInt32 &&& Int32.toUInt32 31)).toInt32)]) ++ [zByte ((a4.toUInt32 >>> ((8 : Int32).toUInt32 &&& Int32.toUInt32 31)).toInt32)]) ++ [zByte a4]).length)])), (r4, .inl ((kA 0), (zCapN 1024 (zCapN 1024 n bs.length 12) (((bs ++ zB4 a1) ++ zB4 a2) ++ zB4 a3).length 4), .inl f4))] H := hP
    have hD : va_D A [(tp, .inr (0, [.int (nI 1024), .ref r4, .int (nI (((((((bs ++ zB4 a1) ++ zB4 a2) ++ zB4 a3) ++ [zByte ((a4.toUInt32 >>> ((24 : Int32).toUInt32 &&& Int32.toUInt32 31)).toInt32)]) ++ [zByte ((a4.toUInt32 >>> ((16 : Int32).toUInt32 &&& Int32.toUInt32 31)).toInt32)]) ++ [zByte ((a4.toUInt32 >>> ((8 : Int32).toUInt32 &&& Int32.toUInt32 31)).toInt32)]) ++ [zByte a4]).length)])), (r4, .inl ((kA 0), (zCapN 1024 (zCapN 1024 n bs.length 12) (((bs ++ zB4 a1) ++ zB4 a2) ++ zB4 a3).length 4), .inl f4))] := hD
    rw [zB4_app, hm3] at hP hD hbs4
    have hP : va_P D classes [(tp, .inr (0, [.int (nI 1024), .ref r4, .int (nI ((((bs ++ zB4 a1) ++ zB4 a2) ++ zB4 a3) ++ zB4 a4).length)])), (r4, .inl ((kA 0), (zCapN 1024 n bs.length 16), .inl f4))] H := hP
    have hD : va_D A [(tp, .inr (0, [.int (nI 1024), .ref r4, .int (nI ((((bs ++ zB4 a1) ++ zB4 a2) ++ zB4 a3) ++ zB4 a4).length)])), (r4, .inl ((kA 0), (zCapN 1024 n bs.length 16), .inl f4))] := hD
    refine W.widen (k := ((zCapN 1024 n bs.length 16) - n)) (n := (3 * ((zCapN 1024 n bs.length 16) - n))) (by rw [hm3]; omega) (by rw [hm3]; omega) ?_
    refine lv_aload_n hx hb d_Peer_feed_47 rfl (lv_at hl 0 rfl) ?_
    refine zk_get (C := R_Peer) (T := F_Peer) (N := 10) S hK (zk_ro hS hx0 hxA) rfl i_Peer 0 (by decide) m_Peer_14 rfl rfl d_Peer_feed_48 ?_
    refine lv_iload hx hb d_Peer_feed_51 (lv_at hl 5 rfl) ?_
    have hlen4 : ((((bs ++ zB4 a1) ++ zB4 a2) ++ zB4 a3) ++ zB4 a4).length = bs.length + 16 := by simp [zB4]
    have hm4 : zCapN 1024 (zCapN 1024 n bs.length 16) ((((bs ++ zB4 a1) ++ zB4 a2) ++ zB4 a3) ++ zB4 a4).length 4 = (zCapN 1024 n bs.length 20) := by rw [hlen4]; exact (zCapN_add 4 16).symm
    have hFc := va_free (wc := [(tp, .inr (0, [.int (nI 1024), .ref r4, .int (nI ((((bs ++ zB4 a1) ++ zB4 a2) ++ zB4 a3) ++ zB4 a4).length)])), (r4, .inl ((kA 0), (zCapN 1024 n bs.length 16), .inl f4))]) hD hS hA [0, 1] rfl
    refine zk_mut (zk_runV (As := [.int a5]) (rest := []) S m_Peer_60 (c_Bytes_appendNumber l D kA tp r4 1024 (zCapN 1024 n bs.length 16) f4 ((((bs ++ zB4 a1) ++ zB4 a2) ++ zB4 a3) ++ zB4 a4) a5 (by rw [hlen4]; omega) H.size) rfl rfl ⟨Nat.le_of_ble_eq_true rfl, Nat.le_of_ble_eq_true rfl⟩ hK hX (zk_recv hK (hP 0 _ rfl) rfl) ⟨rfl, hP.sub (ws' := [(tp, .inr (0, [.int (nI 1024), .ref r4, .int (nI ((((bs ++ zB4 a1) ++ zB4 a2) ++ zB4 a3) ++ zB4 a4).length)])), (r4, .inl ((kA 0), (zCapN 1024 n bs.length 16), .inl f4))]) [0, 1] rfl, (hD.sub (ws' := [(tp, .inr (0, [.int (nI 1024), .ref r4, .int (nI ((((bs ++ zB4 a1) ++ zB4 a2) ++ zB4 a3) ++ zB4 a4).length)])), (r4, .inl ((kA 0), (zCapN 1024 n bs.length 16), .inl f4))]) [0, 1] (by decide) rfl).weaken (fun _ _ _ _ => trivial), hbs4⟩ rfl hl.1 rfl (Nat.le_of_ble_eq_true rfl) ⟨by
      show _ + (_ - _) ≤ zCapN 1024 n bs.length 20 - n
      rw [hm4]; omega, by
      show _ + 3 * (_ - _) ≤ 3 * (zCapN 1024 n bs.length 20 - n)
      rw [hm4]; omega⟩ d_Peer_feed_53) hS hFc hFc (fun v H locs hpost hz1 hk1 hS => ?_)
    obtain ⟨rfl, r5, f5, hP1, hD1, hbs5⟩ := hpost
    obtain ⟨hP, hD⟩ := va_join (wr := []) (w1 := [(tp, .inr (0, [.int (nI 1024), .ref r5, .int (nI ((((((((bs ++ zB4 a1) ++ zB4 a2) ++ zB4 a3) ++ zB4 a4) ++ [zByte ((a5.toUInt32 >>> ((24 : Int32).toUInt32 &&& Int32.toUInt32 31)).toInt32)]) ++ [zByte ((a5.toUInt32 >>> ((16 : Int32).toUInt32 &&& Int32.toUInt32 31)).toInt32)]) ++ [zByte ((a5.toUInt32 >>> ((8 : Int32).toUInt32 &&& Int32.toUInt32 31)).toInt32)]) ++ [zByte a5]).length)])), (r5, .inl ((kA 0), (zCapN 1024 (zCapN 1024 n bs.length 16) ((((bs ++ zB4 a1) ++ zB4 a2) ++ zB4 a3) ++ zB4 a4).length 4), .inl f5))]) hP hD [0, 1] [] rfl rfl (by decide) (by decide) hk1 hFc hP1 hD1
    refine W.eq (g2 := F0 m 56 ls []) rfl ?_
    have hP : va_P D classes [(tp, .inr (0, [.int (nI 1024), .ref r5, .int (nI ((((((((bs ++ zB4 a1) ++ zB4 a2) ++ zB4 a3) ++ zB4 a4) ++ [zByte ((a5.toUInt32 >>> ((24 : Int32).toUInt32 &&& Int32.toUInt32 31)).toInt32)]) ++ [zByte ((a5.toUInt32 >>> ((16 : Int32).toUInt32 &&& Int32.toUInt32 31)).toInt32)]) ++ [zByte ((a5.toUInt32 >>> ((8 : Int32).toUInt32 &&& Int32.toUInt32 31)).toInt32)]) ++ [zByte a5]).length)])), (r5, .inl ((kA 0), (zCapN 1024 (zCapN 1024 n bs.length 16) ((((bs ++ zB4 a1) ++ zB4 a2) ++ zB4 a3) ++ zB4 a4).length 4), .inl f5))] H := hP
    have hD : va_D A [(tp, .inr (0, [.int (nI 1024), .ref r5, .int (nI ((((((((bs ++ zB4 a1) ++ zB4 a2) ++ zB4 a3) ++ zB4 a4) ++ [zByte ((a5.toUInt32 >>> ((24 : Int32).toUInt32 &&& Int32.toUInt32 31)).toInt32)]) ++ [zByte ((a5.toUInt32 >>> ((16 : Int32).toUInt32 &&& Int32.toUInt32 31)).toInt32)]) ++ [zByte ((a5.toUInt32 >>> ((8 : Int32).toUInt32 &&& Int32.toUInt32 31)).toInt32)]) ++ [zByte a5]).length)])), (r5, .inl ((kA 0), (zCapN 1024 (zCapN 1024 n bs.length 16) ((((bs ++ zB4 a1) ++ zB4 a2) ++ zB4 a3) ++ zB4 a4).length 4), .inl f5))] := hD
    rw [zB4_app, hm4] at hP hD hbs5
    have hP : va_P D classes [(tp, .inr (0, [.int (nI 1024), .ref r5, .int (nI (((((bs ++ zB4 a1) ++ zB4 a2) ++ zB4 a3) ++ zB4 a4) ++ zB4 a5).length)])), (r5, .inl ((kA 0), (zCapN 1024 n bs.length 20), .inl f5))] H := hP
    have hD : va_D A [(tp, .inr (0, [.int (nI 1024), .ref r5, .int (nI (((((bs ++ zB4 a1) ++ zB4 a2) ++ zB4 a3) ++ zB4 a4) ++ zB4 a5).length)])), (r5, .inl ((kA 0), (zCapN 1024 n bs.length 20), .inl f5))] := hD
    refine W.widen (k := ((zCapN 1024 n bs.length 20) - n)) (n := (3 * ((zCapN 1024 n bs.length 20) - n))) (by rw [hm4]; omega) (by rw [hm4]; omega) ?_
    refine lv_iconst (v := 1) hx hb d_Peer_feed_56 (by decide) ?_
    have hfin : (((((bs ++ zB4 a1) ++ zB4 a2) ++ zB4 a3) ++ zB4 a4) ++ zB4 a5) = bs ++ (zB4 a1 ++ zB4 a2 ++ zB4 a3 ++ zB4 a4 ++ zB4 a5) := by simp
    rw [hfin] at hP hD hbs5
    exact zk_zret S hr (by decide) hlk hS (Or.inl ⟨hroom, rfl, r5, f5, hP, hD, hbs5⟩) (Nat.le_refl _) (Nat.le_refl _) d_Peer_feed_57
  · refine lv_iconst (v := 0) hx hb d_Peer_feed_12 (by decide) ?_
    exact zk_zret S hr (by decide) hlk hS (Or.inr ⟨fun z => absurd (c9.symm.trans (if_pos (show 20 ≤ 1024 - bs.length by omega))) (by decide), rfl, r, f, hP, hD, hbs0⟩) (Nat.zero_le _) (Nat.zero_le _) d_Peer_feed_13

set_option maxHeartbeats 4000000 in
set_option maxRecDepth 100000 in
/-- PeerLine.pass(n) -/
theorem c_Peer_pass (l : Launch) (D : va_G) (kA : Nat → ClassId) (x tp ln bf tr ru co : Nat) (rc hp st : Int32) (t0 : Nat) (nn : Int64) (sz0 : Nat) : Met l y_Peer_pass (Cond.code y_Peer_pass b_Peer_pass 3 (some .long) :: zTB) { frames := 1, cells := 0, slots := 0, locals := 20 } (zk_Pc D classes (zTY kA) [.ref x, .long nn] (fun H => H.size = sz0 ∧ va_P D classes [(x, .inr (5, [.ref tp, .ref ln, .ref bf, .ref tr, .ref ru, .ref co, .int rc, .int hp, .int st, .long (lN t0)]))] H ∧ va_D (fun _ => True) [(x, .inr (5, [.ref tp, .ref ln, .ref bf, .ref tr, .ref ru, .ref co, .int rc, .int hp, .int st, .long (lN t0)]))])) (zk_mQ (fun v H => v = some (.long (lN (t0 + zClamp nn))) ∧ va_P D classes [(x, .inr (5, [.ref tp, .ref ln, .ref bf, .ref tr, .ref ru, .ref co, .int rc, .int hp, .int st, .long (lN (t0 + zClamp nn))]))] H ∧ va_D (va_A [(x, .inr (5, [.ref tp, .ref ln, .ref bf, .ref tr, .ref ru, .ref co, .int rc, .int hp, .int st, .long (lN t0)]))] sz0) [(x, .inr (5, [.ref tp, .ref ln, .ref bf, .ref tr, .ref ru, .ref co, .int rc, .int hp, .int st, .long (lN (t0 + zClamp nn))]))]) (va_A [(x, .inr (5, [.ref tp, .ref ln, .ref bf, .ref tr, .ref ru, .ref co, .int rc, .int hp, .int st, .long (lN t0)]))] sz0)) 0 0 (va_A [(x, .inr (5, [.ref tp, .ref ln, .ref bf, .ref tr, .ref ru, .ref co, .int rc, .int hp, .int st, .long (lN t0)]))] sz0) := by
  refine zk_of [.ref x, .long nn] (by decide) (Nat.le_of_ble_eq_true rfl) ?_
  intro p e s m below meth c S hr hlk hnm hK hX hpre ls hl
  obtain ⟨hx, hb, hml, hown, ht⟩ := id S
  have hl : lv_has ls 3 [(0, .ref x), (1, .long nn)] := hl
  obtain ⟨hsz, hP, hD0⟩ := hpre
  subst hsz
  have hD := hD0.self (sz := s.heap.size)
  generalize hAe : va_A [(x, .inr (5, [.ref tp, .ref ln, .ref bf, .ref tr, .ref ru, .ref co, .int rc, .int hp, .int st, .long (lN t0)]))] s.heap.size = A at hD ⊢
  have hA : ∀ q : Nat, s.heap.size ≤ q → A q := fun q h => by rw [← hAe]; exact Or.inr h
  have hS : va_S A s.heap s.heap [] := va_S.rf
  have hP : va_P D classes [(x, .inr (5, [.ref tp, .ref ln, .ref bf, .ref tr, .ref ru, .ref co, .int rc, .int hp, .int st, .long (lN t0)]))] s.heap := hP
  refine lv_aload_n hx hb d_Peer_pass_0 rfl (lv_at hl 0 rfl) ?_
  refine lv_dup hx hb d_Peer_pass_1 rfl ?_
  refine zk_get (C := R_Peer) (T := F_Peer) (N := 10) S hK (hP 0 _ rfl) rfl i_Peer 9 (by decide) m_Peer_52 rfl rfl d_Peer_pass_2 ?_
  refine lv_lconst (v := 0) hx hb d_Peer_pass_5 (by decide) ?_
  refine lv_lload_n hx hb d_Peer_pass_6 rfl (lv_at hl 1 rfl) ?_
  refine lv_ldc2 (v := 1000000) hx hb hown (ht _ m_Peer_137) d_Peer_pass_7 ?_
  refine va_mmin_long hx hb (by rw [hml]; exact hl.1.symm) hown (ht _ m_Peer_139) (ht _ m_minl_s) (ht _ m_ini_Math) (ht _ m_minl_c) (Nat.le_of_ble_eq_true rfl) (Nat.le_of_ble_eq_true rfl) (Nat.le_of_ble_eq_true rfl) (Nat.le_of_ble_eq_true rfl) d_Peer_pass_10 ?_
  refine va_mmax_long hx hb (by rw [hml]; exact hl.1.symm) hown (ht _ m_Peer_112) (ht _ m_maxl_s) (ht _ m_ini_Math) (ht _ m_maxl_c) (Nat.le_of_ble_eq_true rfl) (Nat.le_of_ble_eq_true rfl) (Nat.le_of_ble_eq_true rfl) (Nat.le_of_ble_eq_true rfl) d_Peer_pass_13 ?_
  refine zk_tl (z := lN (zClamp nn)) (zClamp_eq nn) ?_
  refine lv_ladd hx hb d_Peer_pass_16 ?_
  refine zk_tl (z := lN (t0 + zClamp nn)) (lN_add _ _) ?_
  refine va_put (D := D) (ci := 5) (v := .long (lN (t0 + zClamp nn))) (ty := .long) (C := R_Peer) (T := F_Peer) (N := 10) hx hb ht i_Peer t_Peer t_Peer_ok n_Peer hown hK hP hD hS 0 rfl rfl 9 (by decide) (ht _ m_Peer_52) (fun _ h9 => h9) rfl (by decide +kernel) rfl rfl (Nat.le_of_ble_eq_true rfl) d_Peer_pass_17 (fun H locs hP hD hS => ?_)
  have hP : va_P D classes [(x, .inr (5, [.ref tp, .ref ln, .ref bf, .ref tr, .ref ru, .ref co, .int rc, .int hp, .int st, .long (lN (t0 + zClamp nn))]))] H := hP
  have hD : va_D A [(x, .inr (5, [.ref tp, .ref ln, .ref bf, .ref tr, .ref ru, .ref co, .int rc, .int hp, .int st, .long (lN (t0 + zClamp nn))]))] := hD
  refine lv_aload_n hx hb d_Peer_pass_20 rfl (lv_at hl 0 rfl) ?_
  refine zk_get (C := R_Peer) (T := F_Peer) (N := 10) S hK (hP 0 _ rfl) rfl i_Peer 9 (by decide) m_Peer_52 rfl rfl d_Peer_pass_21 ?_
  exact zk_lret S hr hlk hS ⟨rfl, hP, hD⟩ (Nat.le_refl _) (Nat.le_refl _) d_Peer_pass_24

set_option maxHeartbeats 4000000 in
set_option maxRecDepth 100000 in
/-- PeerLine.put() -/
theorem c_Peer_put (l : Launch) (D : va_G) (kA : Nat → ClassId) (x tp ln bf tr ru co : Nat) (rc hp st : Int32) (tm : Int64) (r n : Nat) (f : Nat → Int32) (trs : List Nat) (r2 n2 : Nat) (f2 : Nat → Int32) (tps : List Nat) (sz0 : Nat) : Met l y_Peer_put (Cond.code y_Peer_put b_Peer_put 1 none :: zTB) { frames := 5, cells := zTellN n trs (zThing 3 tps true) - n, slots := 3 * (zTellN n trs (zThing 3 tps true) - n), locals := 129 } (zk_Pc D classes (zTY kA) [.ref x] (fun H => H.size = sz0 ∧ va_P D classes [(tr, .inr (0, [.int (nI 32768), .ref r, .int (nI trs.length)])), (r, .inl ((kA 0), n, .inl f)), (tp, .inr (0, [.int (nI 1024), .ref r2, .int (nI tps.length)])), (r2, .inl ((kA 0), n2, .inl f2))] H ∧ va_D (fun _ => True) [(tr, .inr (0, [.int (nI 32768), .ref r, .int (nI trs.length)])), (r, .inl ((kA 0), n, .inl f)), (tp, .inr (0, [.int (nI 1024), .ref r2, .int (nI tps.length)])), (r2, .inl ((kA 0), n2, .inl f2))] ∧ va_at D classes (x, .inr (5, [.ref tp, .ref ln, .ref bf, .ref tr, .ref ru, .ref co, .int rc, .int hp, .int st, .long tm])) H ∧ ¬ (va_A [(tr, .inr (0, [.int (nI 32768), .ref r, .int (nI trs.length)])), (r, .inl ((kA 0), n, .inl f)), (tp, .inr (0, [.int (nI 1024), .ref r2, .int (nI tps.length)])), (r2, .inl ((kA 0), n2, .inl f2))] sz0) x ∧ zBs 32768 n f trs ∧ zBs 1024 n2 f2 tps)) (zk_mQ (fun v H => v = none ∧ ∃ r' f' r2' f2', va_P D classes (wB kA tr r' 32768 (zTellN n trs (zThing 3 tps true)) f' (zTell trs (zThing 3 tps true)) ++ wB kA tp r2' 1024 n2 f2' []) H ∧ va_D (va_A [(tr, .inr (0, [.int (nI 32768), .ref r, .int (nI trs.length)])), (r, .inl ((kA 0), n, .inl f)), (tp, .inr (0, [.int (nI 1024), .ref r2, .int (nI tps.length)])), (r2, .inl ((kA 0), n2, .inl f2))] sz0) (wB kA tr r' 32768 (zTellN n trs (zThing 3 tps true)) f' (zTell trs (zThing 3 tps true)) ++ wB kA tp r2' 1024 n2 f2' []) ∧ zBs 32768 (zTellN n trs (zThing 3 tps true)) f' (zTell trs (zThing 3 tps true)) ∧ zBs 1024 n2 f2' []) (va_A [(tr, .inr (0, [.int (nI 32768), .ref r, .int (nI trs.length)])), (r, .inl ((kA 0), n, .inl f)), (tp, .inr (0, [.int (nI 1024), .ref r2, .int (nI tps.length)])), (r2, .inl ((kA 0), n2, .inl f2))] sz0)) (zTellN n trs (zThing 3 tps true) - n) (3 * (zTellN n trs (zThing 3 tps true) - n)) (va_A [(tr, .inr (0, [.int (nI 32768), .ref r, .int (nI trs.length)])), (r, .inl ((kA 0), n, .inl f)), (tp, .inr (0, [.int (nI 1024), .ref r2, .int (nI tps.length)])), (r2, .inl ((kA 0), n2, .inl f2))] sz0) := by
  refine zk_of [.ref x] (by decide) (Nat.le_of_ble_eq_true rfl) ?_
  intro p e s m below meth c S hr hlk hnm hK hX hpre ls hl
  obtain ⟨hx, hb, hml, hown, ht⟩ := id S
  have hl : lv_has ls 1 [(0, .ref x)] := hl
  obtain ⟨hsz, hP, hD0, hx0, hxA, hbs, htp⟩ := hpre
  subst hsz
  have hD := hD0.self (sz := s.heap.size)
  generalize hAe : va_A [(tr, .inr (0, [.int (nI 32768), .ref r, .int (nI trs.length)])), (r, .inl ((kA 0), n, .inl f)), (tp, .inr (0, [.int (nI 1024), .ref r2, .int (nI tps.length)])), (r2, .inl ((kA 0), n2, .inl f2))] s.heap.size = A at hD hxA ⊢
  have hA : ∀ q : Nat, s.heap.size ≤ q → A q := fun q h => by rw [← hAe]; exact Or.inr h
  have hS : va_S A s.heap s.heap [] := va_S.rf
  have hP : va_P D classes [(tr, .inr (0, [.int (nI 32768), .ref r, .int (nI trs.length)])), (r, .inl ((kA 0), n, .inl f)), (tp, .inr (0, [.int (nI 1024), .ref r2, .int (nI tps.length)])), (r2, .inl ((kA 0), n2, .inl f2))] s.heap := hP
  refine lv_aload_n hx hb d_Peer_put_0 rfl (lv_at hl 0 rfl) ?_
  refine lv_iconst (v := 3) hx hb d_Peer_put_1 (by decide) ?_
  refine zk_ti (z := nI 3) (rfl) ?_
  refine lv_aload_n hx hb d_Peer_put_2 rfl (lv_at hl 0 rfl) ?_
  refine zk_get (C := R_Peer) (T := F_Peer) (N := 10) S hK (zk_ro hS hx0 hxA) rfl i_Peer 0 (by decide) m_Peer_14 rfl rfl d_Peer_put_3 ?_
  refine lv_iconst (v := 1) hx hb d_Peer_put_6 (by decide) ?_
  refine zk_ti (z := if true then 1 else 0) (rfl) ?_
  have hapl := zk_apart (wc := [(tr, .inr (0, [.int (nI 32768), .ref r, .int (nI trs.length)])), (r, .inl ((kA 0), n, .inl f))]) hP hD [0, 1] rfl (k := 2) rfl (by decide)
  have hapr := zk_apart (wc := [(tr, .inr (0, [.int (nI 32768), .ref r, .int (nI trs.length)])), (r, .inl ((kA 0), n, .inl f))]) hP hD [0, 1] rfl (k := 3) rfl (by decide)
  have hFc := va_free (wc := [(tr, .inr (0, [.int (nI 32768), .ref r, .int (nI trs.length)])), (r, .inl ((kA 0), n, .inl f))]) hD hS hA [0, 1] rfl
  refine zk_mut (zk_runV (As := [.int (nI 3), .ref tp, .int (if true then 1 else 0)]) (rest := []) S m_Peer_95 (c_Peer_tell l D kA x tp ln bf tr ru co rc hp st tm r n f trs tp 1024 tps 3 true (by decide) s.heap.size) rfl rfl ⟨Nat.le_of_ble_eq_true rfl, Nat.le_of_ble_eq_true rfl⟩ hK hX (zk_recv hK (zk_ro hS hx0 hxA) rfl) ⟨rfl, hP.sub (ws' := [(tr, .inr (0, [.int (nI 32768), .ref r, .int (nI trs.length)])), (r, .inl ((kA 0), n, .inl f))]) [0, 1] rfl, (hD.sub (ws' := [(tr, .inr (0, [.int (nI 32768), .ref r, .int (nI trs.length)])), (r, .inl ((kA 0), n, .inl f))]) [0, 1] (by decide) rfl).weaken (fun _ _ _ _ => trivial), zk_ro hS hx0 hxA, fun z => hxA (hFc _ z), hbs, r2, n2, f2, hapl, hapr, (hP 2 _ rfl), (hP 3 _ rfl), htp⟩ rfl hl.1 rfl (Nat.le_of_ble_eq_true rfl) ⟨by
    show _ ≤ (zTellN n trs (zThing 3 tps true) - n)
    omega, by
    show _ ≤ (3 * (zTellN n trs (zThing 3 tps true) - n))
    omega⟩ d_Peer_put_7) hS hFc hFc (fun v H locs hpost hz1 hk1 hS => ?_)
  obtain ⟨rfl, r', f', hP1, hD1, hbs'⟩ := hpost
  obtain ⟨hP, hD⟩ := va_join (wr := [(tp, .inr (0, [.int (nI 1024), .ref r2, .int (nI tps.length)])), (r2, .inl ((kA 0), n2, .inl f2))]) (w1 := [(tr, .inr (0, [.int (nI 32768), .ref r', .int (nI (zTell trs (zThing 3 tps true)).length)])), (r', .inl ((kA 0), (zTellN n trs (zThing 3 tps true)), .inl f'))]) hP hD [0, 1] [2, 3] rfl rfl (by decide) (by decide) hk1 hFc hP1 hD1
  refine W.eq (g2 := F0 m 10 ls []) rfl ?_
  have hP : va_P D classes [(tp, .inr (0, [.int (nI 1024), .ref r2, .int (nI tps.length)])), (r2, .inl ((kA 0), n2, .inl f2)), (tr, .inr (0, [.int (nI 32768), .ref r', .int (nI (zTell trs (zThing 3 tps true)).length)])), (r', .inl ((kA 0), (zTellN n trs (zThing 3 tps true)), .inl f'))] H := hP
  have hD : va_D A [(tp, .inr (0, [.int (nI 1024), .ref r2, .int (nI tps.length)])), (r2, .inl ((kA 0), n2, .inl f2)), (tr, .inr (0, [.int (nI 32768), .ref r', .int (nI (zTell trs (zThing 3 tps true)).length)])), (r', .inl ((kA 0), (zTellN n trs (zThing 3 tps true)), .inl f'))] := hD
  refine lv_aload_n hx hb d_Peer_put_10 rfl (lv_at hl 0 rfl) ?_
  refine zk_get (C := R_Peer) (T := F_Peer) (N := 10) S hK (zk_ro hS hx0 hxA) rfl i_Peer 0 (by decide) m_Peer_14 rfl rfl d_Peer_put_11 ?_
  have hFc := va_free (wc := [(tp, .inr (0, [.int (nI 1024), .ref r2, .int (nI tps.length)])), (r2, .inl ((kA 0), n2, .inl f2))]) hD hS hA [0, 1] rfl
  refine zk_mut (zk_runV (As := []) (rest := []) S m_Peer_88 (c_Bytes_clear l D kA tp r2 1024 n2 f2 tps H.size) rfl rfl ⟨Nat.le_of_ble_eq_true rfl, Nat.le_of_ble_eq_true rfl⟩ hK hX (zk_recv hK (hP 0 _ rfl) rfl) ⟨rfl, hP.sub (ws' := [(tp, .inr (0, [.int (nI 1024), .ref r2, .int (nI tps.length)])), (r2, .inl ((kA 0), n2, .inl f2))]) [0, 1] rfl, (hD.sub (ws' := [(tp, .inr (0, [.int (nI 1024), .ref r2, .int (nI tps.length)])), (r2, .inl ((kA 0), n2, .inl f2))]) [0, 1] (by decide) rfl).weaken (fun _ _ _ _ => trivial), htp⟩ rfl hl.1 rfl (Nat.le_of_ble_eq_true rfl) ⟨by
    show _ ≤ (zTellN n trs (zThing 3 tps true) - n)
    omega, by
    show _ ≤ (3 * (zTellN n trs (zThing 3 tps true) - n))
    omega⟩ d_Peer_put_14) hS hFc hFc (fun v H locs hpost hz1 hk1 hS => ?_)
  obtain ⟨rfl, r2', f2', hP1, hD1, htp'⟩ := hpost
  obtain ⟨hP, hD⟩ := va_join (wr := [(tr, .inr (0, [.int (nI 32768), .ref r', .int (nI (zTell trs (zThing 3 tps true)).length)])), (r', .inl ((kA 0), (zTellN n trs (zThing 3 tps true)), .inl f'))]) (w1 := [(tp, .inr (0, [.int (nI 1024), .ref r2', .int (nI ([] : List Nat).length)])), (r2', .inl ((kA 0), n2, .inl f2'))]) hP hD [0, 1] [2, 3] rfl rfl (by decide) (by decide) hk1 hFc hP1 hD1
  refine W.eq (g2 := F0 m 17 ls []) rfl ?_
  have hP : va_P D classes [(tr, .inr (0, [.int (nI 32768), .ref r', .int (nI (zTell trs (zThing 3 tps true)).length)])), (r', .inl ((kA 0), (zTellN n trs (zThing 3 tps true)), .inl f')), (tp, .inr (0, [.int (nI 1024), .ref r2', .int (nI ([] : List Nat).length)])), (r2', .inl ((kA 0), n2, .inl f2'))] H := hP
  have hD : va_D A [(tr, .inr (0, [.int (nI 32768), .ref r', .int (nI (zTell trs (zThing 3 tps true)).length)])), (r', .inl ((kA 0), (zTellN n trs (zThing 3 tps true)), .inl f')), (tp, .inr (0, [.int (nI 1024), .ref r2', .int (nI ([] : List Nat).length)])), (r2', .inl ((kA 0), n2, .inl f2'))] := hD
  exact zk_vret S hr hlk hS ⟨rfl, r', f', r2', f2', hP, hD, hbs', htp'⟩ (by omega) (by omega) d_Peer_put_17
