set_option maxHeartbeats 4000000 in
set_option maxRecDepth 100000 in
/-- PeerLineModel.in(v, low, high) -/
theorem c_Model_in (l : Launch) (D : va_G) (kA : Nat → ClassId) (x lo hi : Int32) : Met l y_Model_in (Cond.code y_Model_in b_Model_in 3 (some .boolean) :: zTB) { frames := 0, cells := 0, slots := 0, locals := 0 } (zk_Pc D classes (zTY kA) [.int x, .int lo, .int hi] (fun H => True)) (zk_pE (fun v => (lo ≤ x ∧ x ≤ hi ∧ v = .int 1) ∨ (¬ (lo ≤ x ∧ x ≤ hi) ∧ v = .int 0))) 0 0 zk_no := by
  refine zk_of [.int x, .int lo, .int hi] (by decide) (Nat.le_of_ble_eq_true rfl) ?_
  intro p e s m below meth c S hr hlk hnm hK hX hpre ls hl
  obtain ⟨hx, hb, hml, hown, ht⟩ := id S
  have hl : lv_has ls 3 [(0, .int x), (1, .int lo), (2, .int hi)] := hl
  refine lv_iload_n hx hb d_Model_in_0 rfl (lv_at hl 0 rfl) ?_
  refine lv_iload_n hx hb d_Model_in_1 rfl (lv_at hl 1 rfl) ?_
  refine lv_icmp_lt (tgt := 14) hx hb d_Model_in_2 (by decide) (fun c2 => ?_) (fun c2 => ?_)
  · refine lv_iconst (v := 0) hx hb d_Model_in_14 (by decide) ?_
    exact zk_retzE S hr (by decide) hlk (Or.inr ⟨fun z => absurd z.1 (Int32.not_le.mpr c2), rfl⟩) d_Model_in_15
  · refine lv_iload_n hx hb d_Model_in_5 rfl (lv_at hl 0 rfl) ?_
    refine lv_iload_n hx hb d_Model_in_6 rfl (lv_at hl 2 rfl) ?_
    refine lv_icmp_gt (tgt := 14) hx hb d_Model_in_7 (by decide) (fun c7 => ?_) (fun c7 => ?_)
    · refine lv_iconst (v := 0) hx hb d_Model_in_14 (by decide) ?_
      exact zk_retzE S hr (by decide) hlk (Or.inr ⟨fun z => absurd z.2 (Int32.not_le.mpr c7), rfl⟩) d_Model_in_15
    · refine lv_iconst (v := 1) hx hb d_Model_in_10 (by decide) ?_
      refine lv_goto (tgt := 15) hx hb d_Model_in_11 (by decide) ?_
      exact zk_retzE S hr (by decide) hlk (Or.inl ⟨Int32.not_lt.mp c2, Int32.not_lt.mp c7, rfl⟩) d_Model_in_15

set_option maxHeartbeats 4000000 in
set_option maxRecDepth 100000 in
/-- PeerLineModel.itself(p, k, to) -/
theorem c_Model_itself (l : Launch) (D : va_G) (kA : Nat → ClassId) (p0 N b a e0 n : Nat) (f : Nat → Int32) (bs : List Nat) (ha : a < e0) (he : e0 ≤ n) (hN : b + n ≤ N) (hN2 : N ≤ 65536) (hpt : PatIn f b n bs) : Met l y_Model_itself (Cond.code y_Model_itself b_Model_itself 3 (some .int) :: zTB) { frames := 0, cells := 0, slots := 0, locals := 0 } (zk_Pc D classes (zTY kA) [.ref p0, .int (nI (b + a)), .int (nI (b + e0))] (fun H => va_at D classes (p0, .inl (kA 0, N, .inl f)) H)) (zk_pQ (some (Value.int (nI (rSelf bs e0 a).1)))) 0 0 zk_no := by
  refine zk_of [.ref p0, .int (nI (b + a)), .int (nI (b + e0))] (by decide) (Nat.le_of_ble_eq_true rfl) ?_
  intro p e s m below meth c S hr hlk hnm hK hX hpre ls hl
  obtain ⟨hx, hb, hml, hown, ht⟩ := id S
  have hpa := hpt a (by omega)
  have hE := sbE _ hpa.1
  have hl : lv_has ls 3 [(0, .ref p0), (1, .int (nI (b + a))), (2, .int (nI (b + e0)))] := hl
  refine lv_aload_n hx hb d_Model_itself_0 rfl (lv_at hl 0 rfl) ?_
  refine lv_iload_n hx hb d_Model_itself_1 rfl (lv_at hl 1 rfl) ?_
  refine zk_bald S hK 0 hpre rfl (vp_in_nI (by omega) (by omega)) d_Model_itself_2 ?_
  refine zk_ti (z := sb_b (bs.getD a 0)) (by rw [nI_clamp (by omega)]; exact hpa.2) ?_
  refine lv_bipush (v := 92) hx hb d_Model_itself_3 (by decide) ?_
  refine zk_ti (z := nI 92) (rfl) ?_
  refine lv_icmp_ne (tgt := 27) hx hb d_Model_itself_5 (by decide) (fun c5 => ?_) (fun c5 => ?_)
  · have hrs : rSelf bs e0 a = ((bs.getD a 0), a + 1) := if_neg (fun z => c5 (hE.1.mpr z.1))
    refine lv_aload_n hx hb d_Model_itself_27 rfl (lv_at hl 0 rfl) ?_
    refine lv_iload_n hx hb d_Model_itself_28 rfl (lv_at hl 1 rfl) ?_
    refine zk_bald S hK 0 hpre rfl (vp_in_nI (by omega) (by omega)) d_Model_itself_29 ?_
    refine zk_ti (z := sb_b (bs.getD a 0)) (by rw [nI_clamp (by omega)]; exact hpa.2) ?_
    refine lv_sipush (v := 255) hx hb d_Model_itself_30 (by decide) ?_
    refine lv_iand hx hb d_Model_itself_33 ?_
    refine zk_ti (z := nI (rSelf bs e0 a).1) (by rw [hrs]; exact (sb_byte _ hpa.1).1) ?_
    exact zk_reti S hr hlk d_Model_itself_34
  · refine lv_iload_n hx hb d_Model_itself_8 rfl (lv_at hl 1 rfl) ?_
    refine lv_iconst (v := 1) hx hb d_Model_itself_9 (by decide) ?_
    refine lv_iadd hx hb d_Model_itself_10 ?_
    refine zk_ti (z := nI (b + a + 1)) (nI_1 _) ?_
    refine lv_iload_n hx hb d_Model_itself_11 rfl (lv_at hl 2 rfl) ?_
    refine lv_icmp_ge (tgt := 27) hx hb d_Model_itself_12 (by decide) (fun c12 => ?_) (fun c12 => ?_)
    · have hrs : rSelf bs e0 a = ((bs.getD a 0), a + 1) := if_neg (fun z => absurd ((nI_leI (by omega) (by omega)).mp c12) (by omega))
      refine lv_aload_n hx hb d_Model_itself_27 rfl (lv_at hl 0 rfl) ?_
      refine lv_iload_n hx hb d_Model_itself_28 rfl (lv_at hl 1 rfl) ?_
      refine zk_bald S hK 0 hpre rfl (vp_in_nI (by omega) (by omega)) d_Model_itself_29 ?_
      refine zk_ti (z := sb_b (bs.getD a 0)) (by rw [nI_clamp (by omega)]; exact hpa.2) ?_
      refine lv_sipush (v := 255) hx hb d_Model_itself_30 (by decide) ?_
      refine lv_iand hx hb d_Model_itself_33 ?_
      refine zk_ti (z := nI (rSelf bs e0 a).1) (by rw [hrs]; exact (sb_byte _ hpa.1).1) ?_
      exact zk_reti S hr hlk d_Model_itself_34
    · have h1 : a + 1 < e0 := by
        have := Nat.not_le.mp fun z => c12 (nI_le z (by omega))
        omega
      have hpb := hpt (a + 1) (by omega)
      have hrs : rSelf bs e0 a = ((bs.getD (a + 1) 0), a + 2) := if_pos ⟨hE.1.mp c5, h1⟩
      refine lv_aload_n hx hb d_Model_itself_15 rfl (lv_at hl 0 rfl) ?_
      refine lv_iload_n hx hb d_Model_itself_16 rfl (lv_at hl 1 rfl) ?_
      refine lv_iconst (v := 1) hx hb d_Model_itself_17 (by decide) ?_
      refine lv_iadd hx hb d_Model_itself_18 ?_
      refine zk_ti (z := nI (b + (a + 1))) (nI_1 _) ?_
      refine zk_bald S hK 0 hpre rfl (vp_in_nI (by omega) (by omega)) d_Model_itself_19 ?_
      refine zk_ti (z := sb_b (bs.getD (a + 1) 0)) (by rw [nI_clamp (by omega)]; exact hpb.2) ?_
      refine lv_sipush (v := 255) hx hb d_Model_itself_20 (by decide) ?_
      refine lv_iand hx hb d_Model_itself_23 ?_
      refine zk_ti (z := nI (rSelf bs e0 a).1) (by rw [hrs]; exact (sb_byte _ hpb.1).1) ?_
      refine lv_goto (tgt := 34) hx hb d_Model_itself_24 (by decide) ?_
      exact zk_reti S hr hlk d_Model_itself_34

set_option maxHeartbeats 4000000 in
set_option maxRecDepth 100000 in
/-- PeerLineModel.behind(p, k, to) -/
theorem c_Model_behind (l : Launch) (D : va_G) (kA : Nat → ClassId) (p0 N b a e0 n : Nat) (f : Nat → Int32) (bs : List Nat) (ha : a < e0) (he : e0 ≤ n) (hN : b + n ≤ N) (hN2 : N ≤ 65536) (hpt : PatIn f b n bs) : Met l y_Model_behind (Cond.code y_Model_behind b_Model_behind 3 (some .int) :: zTB) { frames := 0, cells := 0, slots := 0, locals := 0 } (zk_Pc D classes (zTY kA) [.ref p0, .int (nI (b + a)), .int (nI (b + e0))] (fun H => va_at D classes (p0, .inl (kA 0, N, .inl f)) H)) (zk_pQ (some (Value.int (nI (b + (rSelf bs e0 a).2))))) 0 0 zk_no := by
  refine zk_of [.ref p0, .int (nI (b + a)), .int (nI (b + e0))] (by decide) (Nat.le_of_ble_eq_true rfl) ?_
  intro p e s m below meth c S hr hlk hnm hK hX hpre ls hl
  obtain ⟨hx, hb, hml, hown, ht⟩ := id S
  have hpa := hpt a (by omega)
  have hE := sbE _ hpa.1
  have hl : lv_has ls 3 [(0, .ref p0), (1, .int (nI (b + a))), (2, .int (nI (b + e0)))] := hl
  refine lv_aload_n hx hb d_Model_behind_0 rfl (lv_at hl 0 rfl) ?_
  refine lv_iload_n hx hb d_Model_behind_1 rfl (lv_at hl 1 rfl) ?_
  refine zk_bald S hK 0 hpre rfl (vp_in_nI (by omega) (by omega)) d_Model_behind_2 ?_
  refine zk_ti (z := sb_b (bs.getD a 0)) (by rw [nI_clamp (by omega)]; exact hpa.2) ?_
  refine lv_bipush (v := 92) hx hb d_Model_behind_3 (by decide) ?_
  refine zk_ti (z := nI 92) (rfl) ?_
  refine lv_icmp_ne (tgt := 21) hx hb d_Model_behind_5 (by decide) (fun c5 => ?_) (fun c5 => ?_)
  · have hrs : rSelf bs e0 a = ((bs.getD a 0), a + 1) := if_neg (fun z => c5 (hE.1.mpr z.1))
    refine lv_iload_n hx hb d_Model_behind_21 rfl (lv_at hl 1 rfl) ?_
    refine lv_iconst (v := 1) hx hb d_Model_behind_22 (by decide) ?_
    refine lv_iadd hx hb d_Model_behind_23 ?_
    refine zk_ti (z := nI (b + (rSelf bs e0 a).2)) (by rw [hrs]; exact nI_1 (b + a)) ?_
    exact zk_reti S hr hlk d_Model_behind_24
  · refine lv_iload_n hx hb d_Model_behind_8 rfl (lv_at hl 1 rfl) ?_
    refine lv_iconst (v := 1) hx hb d_Model_behind_9 (by decide) ?_
    refine lv_iadd hx hb d_Model_behind_10 ?_
    refine zk_ti (z := nI (b + a + 1)) (nI_1 _) ?_
    refine lv_iload_n hx hb d_Model_behind_11 rfl (lv_at hl 2 rfl) ?_
    refine lv_icmp_ge (tgt := 21) hx hb d_Model_behind_12 (by decide) (fun c12 => ?_) (fun c12 => ?_)
    · have hrs : rSelf bs e0 a = ((bs.getD a 0), a + 1) := if_neg (fun z => absurd ((nI_leI (by omega) (by omega)).mp c12) (by omega))
      refine lv_iload_n hx hb d_Model_behind_21 rfl (lv_at hl 1 rfl) ?_
      refine lv_iconst (v := 1) hx hb d_Model_behind_22 (by decide) ?_
      refine lv_iadd hx hb d_Model_behind_23 ?_
      refine zk_ti (z := nI (b + (rSelf bs e0 a).2)) (by rw [hrs]; exact nI_1 (b + a)) ?_
      exact zk_reti S hr hlk d_Model_behind_24
    · have h1 : a + 1 < e0 := by
        have := Nat.not_le.mp fun z => c12 (nI_le z (by omega))
        omega
      have hpb := hpt (a + 1) (by omega)
      have hrs : rSelf bs e0 a = ((bs.getD (a + 1) 0), a + 2) := if_pos ⟨hE.1.mp c5, h1⟩
      refine lv_iload_n hx hb d_Model_behind_15 rfl (lv_at hl 1 rfl) ?_
      refine lv_iconst (v := 2) hx hb d_Model_behind_16 (by decide) ?_
      refine zk_ti (z := nI 2) (rfl) ?_
      refine lv_iadd hx hb d_Model_behind_17 ?_
      refine zk_ti (z := nI (b + (rSelf bs e0 a).2)) (by rw [hrs]; exact nI_add (b + a) 2) ?_
      refine lv_goto (tgt := 24) hx hb d_Model_behind_18 (by decide) ?_
      exact zk_reti S hr hlk d_Model_behind_24

set_option maxHeartbeats 4000000 in
set_option maxRecDepth 100000 in
/-- PeerLineModel.closing(p, from, to) -/
theorem c_Model_closing (l : Launch) (D : va_G) (kA : Nat → ClassId) (p0 N b a n : Nat) (f : Nat → Int32) (bs : List Nat) (ha : a ≤ n) (hN : b + n ≤ N) (hN2 : N ≤ 65536) (hpt : PatIn f b n bs) : Met l y_Model_closing (Cond.code y_Model_closing b_Model_closing 4 (some .int) :: zTB) { frames := 1, cells := 0, slots := 0, locals := 22 } (zk_Pc D classes (zTY kA) [.ref p0, .int (nI (b + a)), .int (nI (b + n))] (fun H => va_at D classes (p0, .inl (kA 0, N, .inl f)) H)) (zk_pQ (some (Value.int (nI (b + rClose bs n a))))) 0 0 zk_no := by
  refine zk_of [.ref p0, .int (nI (b + a)), .int (nI (b + n))] (by decide) (Nat.le_of_ble_eq_true rfl) ?_
  intro p e s m below meth c S hr hlk hnm hK hX hpre ls hl
  obtain ⟨hx, hb, hml, hown, ht⟩ := id S
  have hl : lv_has ls 4 [(0, .ref p0), (1, .int (nI (b + a))), (2, .int (nI (b + n)))] := hl
  refine lv_iload_n hx hb d_Model_closing_0 rfl (lv_at hl 1 rfl) ?_
  refine lv_istore_n (lv' := [(3, .int (nI (b + a))), (0, .ref p0), (1, .int (nI (b + a))), (2, .int (nI (b + n)))]) hx hb d_Model_closing_1 rfl hl (by decide) rfl (fun ls hl => ?_)
  have lp : ∀ (fu : Nat) (q : Nat), n - q < fu → q ≤ n → rClose bs n a = rClose bs n q → ∀ ls : Array Slot, lv_has ls 4 [(0, .ref p0), (2, .int (nI (b + n))), (3, .int (nI (b + q)))] → W p l e { frames := 1, cells := 0, slots := 0, locals := 22 } s m [.ref p0, .int (nI (b + a)), .int (nI (b + n))].toArray below meth c s.heap [] 0 0 (MQ below (zk_pQ (some (Value.int (nI (b + rClose bs n a))))) [.ref p0, .int (nI (b + a)), .int (nI (b + n))].toArray s 0 0 zk_no) (F0 m 2 ls []) := by
    intro fu
    induction fu with
    | zero => intro q hfu; exact absurd hfu (Nat.not_lt_zero _)
    | succ fu ih =>
      intro q hfu hq hcl ls hl
      refine lv_iload_n hx hb d_Model_closing_2 rfl (lv_at hl 2 rfl) ?_
      refine lv_iload_n hx hb d_Model_closing_3 rfl (lv_at hl 1 rfl) ?_
      refine lv_icmp_ge (tgt := 25) hx hb d_Model_closing_4 (by decide) (fun c4 => ?_) (fun c4 => ?_)
      · refine lv_iload_n hx hb d_Model_closing_25 rfl (lv_at hl 2 rfl) ?_
        refine zk_ti (z := nI (b + rClose bs n a)) (by rw [hcl, rClose_end (Or.inl (by have := (nI_leI (by omega) (by omega)).mp c4; omega))]) ?_
        exact zk_reti S hr hlk d_Model_closing_26
      · have hqn : q < n := by
          have := Nat.not_le.mp fun z => c4 (nI_le z (by omega))
          omega
        have hpq := hpt q hqn
        have hE := sbE _ hpq.1
        refine lv_aload_n hx hb d_Model_closing_7 rfl (lv_at hl 0 rfl) ?_
        refine lv_iload_n hx hb d_Model_closing_8 rfl (lv_at hl 2 rfl) ?_
        refine zk_bald S hK 0 hpre rfl (vp_in_nI (by omega) (by omega)) d_Model_closing_9 ?_
        refine zk_ti (z := sb_b (bs.getD q 0)) (by rw [nI_clamp (by omega)]; exact hpq.2) ?_
        refine lv_bipush (v := 93) hx hb d_Model_closing_10 (by decide) ?_
        refine zk_ti (z := nI 93) (rfl) ?_
        refine lv_icmp_eq (tgt := 25) hx hb d_Model_closing_12 (by decide) (fun c12 => ?_) (fun c12 => ?_)
        · refine lv_iload_n hx hb d_Model_closing_25 rfl (lv_at hl 2 rfl) ?_
          refine zk_ti (z := nI (b + rClose bs n a)) (by rw [hcl, rClose_end (Or.inr (hE.2.1.mp c12))]) ?_
          exact zk_reti S hr hlk d_Model_closing_26
        · have h93 : bs.getD q 0 ≠ 93 := fun z => c12 (hE.2.1.mpr z)
          have hgt := rSelf_gt bs n q
          have hle := rSelf_le (bs := bs) hqn
          refine lv_aload_n hx hb d_Model_closing_15 rfl (lv_at hl 0 rfl) ?_
          refine lv_iload_n hx hb d_Model_closing_16 rfl (lv_at hl 2 rfl) ?_
          refine lv_iload_n hx hb d_Model_closing_17 rfl (lv_at hl 1 rfl) ?_
          refine zk_pure (zk_runS (As := [.ref p0, .int (nI (b + q)), .int (nI (b + n))]) (rest := []) S m_Model_72 (c_Model_behind l D kA p0 N b q n n f bs hqn (Nat.le_refl _) hN hN2 hpt) rfl rfl ⟨Nat.le_of_ble_eq_true rfl, Nat.le_of_ble_eq_true rfl⟩ hK hX (hpre) rfl hl.1 rfl (Nat.le_of_ble_eq_true rfl) ⟨Nat.le_of_ble_eq_true rfl, Nat.le_of_ble_eq_true rfl⟩ d_Model_closing_18) ?_
          refine lv_istore_n (lv' := [(3, .int (nI (b + (rSelf bs n q).2))), (0, .ref p0), (2, .int (nI (b + n)))]) hx hb d_Model_closing_21 rfl hl (by decide) rfl (fun ls hl => ?_)
          refine lv_goto (tgt := 2) hx hb d_Model_closing_22 (by decide) ?_
          exact ih (rSelf bs n q).2 (by omega) hle (by rw [hcl, rClose_step hqn h93]) ls (lv_sub hl [1, 2, 0] rfl)
  exact lp (n + 1) a (by omega) ha rfl ls (lv_sub hl [1, 3, 0] rfl)
