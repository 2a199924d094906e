set_option maxHeartbeats 4000000 in
set_option maxRecDepth 100000 in
/-- Bytes.size() -/
theorem c_Bytes_size (l : Launch) (D : va_G) (kA : Nat → ClassId) (Z : Nat → Prop) (a lim : Nat) (bs : List Nat) : Met l y_Bytes_size (Cond.code y_Bytes_size b_Bytes_size 1 (some .int) :: zTB) { frames := 0, cells := 0, slots := 0, locals := 0 } (zk_Pc D classes (zTY kA) [.ref a] (fun H => BsAt D kA Z H a lim bs)) (zk_pQ (some (Value.int (nI bs.length)))) 0 0 zk_no := by
  refine zk_of [.ref a] (by decide) (Nat.le_of_ble_eq_true rfl) ?_
  intro p e s m below meth c S hr hlk hnm hK hX hpre ls hl
  obtain ⟨hx, hb, hml, hown, ht⟩ := id S
  obtain ⟨r, n, f, ha, hra, hP1, hP2, hbs⟩ := hpre
  obtain ⟨h1, h2, h3, h4, h5⟩ := id hbs
  have hl : lv_has ls 1 [(0, .ref a)] := hl
  refine lv_aload_n hx hb d_Bytes_size_0 rfl (lv_at hl 0 rfl) ?_
  refine zk_get (C := R_Bytes) (T := F_Bytes) (N := 3) S hK hP1 rfl i_Bytes 2 (by decide) m_Bytes_28 rfl rfl d_Bytes_size_1 ?_
  exact zk_reti S hr hlk d_Bytes_size_4

set_option maxHeartbeats 4000000 in
set_option maxRecDepth 100000 in
/-- Bytes.at(i) -/
theorem c_Bytes_at (l : Launch) (D : va_G) (kA : Nat → ClassId) (Z : Nat → Prop) (a lim : Nat) (bs : List Nat) (x : Int32) : Met l y_Bytes_at (Cond.code y_Bytes_at b_Bytes_at 2 (some .int) :: zTB) { frames := 0, cells := 0, slots := 0, locals := 0 } (zk_Pc D classes (zTY kA) [.ref a, .int x] (fun H => BsAt D kA Z H a lim bs)) (zk_pQ (some (Value.int (bAt bs x)))) 0 0 zk_no := by
  refine zk_of [.ref a, .int x] (by decide) (Nat.le_of_ble_eq_true rfl) ?_
  intro p e s m below meth c S hr hlk hnm hK hX hpre ls hl
  obtain ⟨hx, hb, hml, hown, ht⟩ := id S
  obtain ⟨r, n, f, ha, hra, hP1, hP2, hbs⟩ := hpre
  obtain ⟨h1, h2, h3, h4, h5⟩ := id hbs
  have hl : lv_has ls 2 [(0, .ref a), (1, .int x)] := hl
  refine lv_iload_n hx hb d_Bytes_at_0 rfl (lv_at hl 1 rfl) ?_
  refine lv_if_lt (tgt := 34) hx hb d_Bytes_at_1 (by decide) (fun c1 => ?_) (fun c1 => ?_)
  · refine lv_iconst (v := (-1)) hx hb d_Bytes_at_34 (by decide) ?_
    refine zk_ti (z := bAt bs x) (bAt_neg c1).symm ?_
    exact zk_reti S hr hlk d_Bytes_at_35
  · refine lv_iload_n hx hb d_Bytes_at_4 rfl (lv_at hl 1 rfl) ?_
    refine lv_aload_n hx hb d_Bytes_at_5 rfl (lv_at hl 0 rfl) ?_
    refine zk_get (C := R_Bytes) (T := F_Bytes) (N := 3) S hK hP1 rfl i_Bytes 2 (by decide) m_Bytes_28 rfl rfl d_Bytes_at_6 ?_
    refine lv_icmp_ge (tgt := 34) hx hb d_Bytes_at_9 (by decide) (fun c9 => ?_) (fun c9 => ?_)
    · refine lv_iconst (v := (-1)) hx hb d_Bytes_at_34 (by decide) ?_
      refine zk_ti (z := bAt bs x) (bAt_ge (by omega) c9).symm ?_
      exact zk_reti S hr hlk d_Bytes_at_35
    · obtain ⟨j, hj, ex⟩ : ∃ j, j < bs.length ∧ x = nI j := (pk_ix x (n := bs.length) (by omega)).resolve_left c1 |>.resolve_left c9
      refine lv_iload_n hx hb d_Bytes_at_12 rfl (lv_at hl 1 rfl) ?_
      refine lv_aload_n hx hb d_Bytes_at_13 rfl (lv_at hl 0 rfl) ?_
      refine zk_get (C := R_Bytes) (T := F_Bytes) (N := 3) S hK hP1 rfl i_Bytes 1 (by decide) m_Bytes_24 rfl rfl d_Bytes_at_14 ?_
      refine zk_alen S hK 0 hP2 rfl (v := nI n) rfl d_Bytes_at_17 ?_
      refine lv_icmp_ge (tgt := 34) hx hb d_Bytes_at_18 (by decide) (fun c18 => ?_) (fun c18 => ?_)
      · exact absurd c18 (by rw [ex]; exact nI_ge (by omega) (by omega))
      · refine lv_aload_n hx hb d_Bytes_at_21 rfl (lv_at hl 0 rfl) ?_
        refine zk_get (C := R_Bytes) (T := F_Bytes) (N := 3) S hK hP1 rfl i_Bytes 1 (by decide) m_Bytes_24 rfl rfl d_Bytes_at_22 ?_
        refine lv_iload_n hx hb d_Bytes_at_25 rfl (lv_at hl 1 rfl) ?_
        refine zk_bald S hK 0 hP2 rfl (by rw [ex]; exact vp_in_nI (by omega) (by omega)) d_Bytes_at_26 ?_
        refine zk_ti (z := sb_b (bs.getD j 0)) (by rw [ex, nI_clamp (by omega)]; exact (h5 j hj).2) ?_
        refine lv_sipush (v := 255) hx hb d_Bytes_at_27 (by decide) ?_
        refine lv_iand hx hb d_Bytes_at_30 ?_
        refine zk_ti (z := nI (bs.getD j 0)) ((sb_byte _ (h5 j hj).1).1) ?_
        refine lv_goto (tgt := 35) hx hb d_Bytes_at_31 (by decide) ?_
        refine zk_ti (z := bAt bs x) (by rw [ex]; exact (bAt_nI (by omega) hj).symm) ?_
        exact zk_reti S hr hlk d_Bytes_at_35

set_option maxHeartbeats 4000000 in
set_option maxRecDepth 100000 in
/-- Bytes.hasRoomFor(n) -/
theorem c_Bytes_hasRoomFor (l : Launch) (D : va_G) (kA : Nat → ClassId) (Z : Nat → Prop) (a lim : Nat) (bs : List Nat) (k : Nat) (hk : k < 2 ^ 30) : Met l y_Bytes_hasRoomFor (Cond.code y_Bytes_hasRoomFor b_Bytes_hasRoomFor 2 (some .boolean) :: zTB) { frames := 0, cells := 0, slots := 0, locals := 0 } (zk_Pc D classes (zTY kA) [.ref a, .int (nI k)] (fun H => BsAt D kA Z H a lim bs)) (zk_pQ (some (Value.int (if k ≤ lim - bs.length then 1 else 0)))) 0 0 zk_no := by
  refine zk_of [.ref a, .int (nI k)] (by decide) (Nat.le_of_ble_eq_true rfl) ?_
  intro p e s m below meth c S hr hlk hnm hK hX hpre ls hl
  obtain ⟨hx, hb, hml, hown, ht⟩ := id S
  obtain ⟨r, n, f, ha, hra, hP1, hP2, hbs⟩ := hpre
  obtain ⟨h1, h2, h3, h4, h5⟩ := id hbs
  have hl : lv_has ls 2 [(0, .ref a), (1, .int (nI k))] := hl
  refine lv_iload_n hx hb d_Bytes_hasRoomFor_0 rfl (lv_at hl 1 rfl) ?_
  refine lv_aload_n hx hb d_Bytes_hasRoomFor_1 rfl (lv_at hl 0 rfl) ?_
  refine zk_get (C := R_Bytes) (T := F_Bytes) (N := 3) S hK hP1 rfl i_Bytes 0 (by decide) m_Bytes_15 rfl rfl d_Bytes_hasRoomFor_2 ?_
  refine lv_aload_n hx hb d_Bytes_hasRoomFor_5 rfl (lv_at hl 0 rfl) ?_
  refine zk_get (C := R_Bytes) (T := F_Bytes) (N := 3) S hK hP1 rfl i_Bytes 2 (by decide) m_Bytes_28 rfl rfl d_Bytes_hasRoomFor_6 ?_
  refine lv_isub hx hb d_Bytes_hasRoomFor_9 ?_
  refine zk_ti (z := nI (lim - bs.length)) (pk_sub (by omega)) ?_
  refine lv_icmp_gt (tgt := 17) hx hb d_Bytes_hasRoomFor_10 (by decide) (fun c10 => ?_) (fun c10 => ?_)
  · refine lv_iconst (v := 0) hx hb d_Bytes_hasRoomFor_17 (by decide) ?_
    refine zk_ti (z := if k ≤ lim - bs.length then 1 else 0) (if_neg (fun hh => absurd c10 (nI_nlt hh (by omega)))).symm ?_
    exact zk_retz S hr (by by_cases q : k ≤ lim - bs.length <;> simp [q]) hlk d_Bytes_hasRoomFor_18
  · refine lv_iconst (v := 1) hx hb d_Bytes_hasRoomFor_13 (by decide) ?_
    refine lv_goto (tgt := 18) hx hb d_Bytes_hasRoomFor_14 (by decide) ?_
    refine zk_ti (z := if k ≤ lim - bs.length then 1 else 0) (if_pos (Nat.not_lt.mp fun hh => c10 (nI_lt hh (by omega)))).symm ?_
    exact zk_retz S hr (by by_cases q : k ≤ lim - bs.length <;> simp [q]) hlk d_Bytes_hasRoomFor_18
