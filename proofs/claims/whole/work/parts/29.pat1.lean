set_option maxHeartbeats 4000000 in
set_option maxRecDepth 100000 in
/-- Pattern.isStar(i), i an item -/
theorem c_Pattern_isStar (l : Launch) (D : va_G) (kA : Nat → ClassId) (Z : Nat → Prop) (a : Nat) (its : List pItem) (i : Nat) (hi : i < its.length) : Met l y_Pattern_isStar (Cond.code y_Pattern_isStar b_Pattern_isStar 2 (some .boolean) :: zTB) { frames := 0, cells := 0, slots := 0, locals := 0 } (zk_Pc D classes (zTY kA) [.ref a, .int (nI i)] (fun H => PtAt D kA Z H a its)) (zk_pE (fun v => (its.getD i none = none ∧ v = .int 1) ∨ (its.getD i none ≠ none ∧ v = .int 0))) 0 0 zk_no := by
  refine zk_of [.ref a, .int (nI i)] (by decide) (Nat.le_of_ble_eq_true rfl) ?_
  intro p e s m below meth c S hr hlk hnm hK hX hpre ls hl
  obtain ⟨hx, hb, hml, hown, ht⟩ := id S
  have hpt := hpre
  obtain ⟨sa, za, mm, sf, zf, ⟨ha, hsa, hza⟩, hP1, hP2, hP3, hrep⟩ := id hpt
  obtain ⟨r1, r2, r3⟩ := id hrep
  have hl : lv_has ls 2 [(0, .ref a), (1, .int (nI i))] := hl
  refine lv_iload_n hx hb d_Pattern_isStar_0 rfl (lv_at hl 1 rfl) ?_
  refine lv_if_lt (tgt := 26) hx hb d_Pattern_isStar_1 (by decide) (fun c1 => ?_) (fun c1 => ?_)
  · exact absurd c1 (nI_pos (by omega))
  · refine lv_iload_n hx hb d_Pattern_isStar_4 rfl (lv_at hl 1 rfl) ?_
    refine lv_aload_n hx hb d_Pattern_isStar_5 rfl (lv_at hl 0 rfl) ?_
    refine zk_get (C := R_Pattern) (T := F_Pattern) (N := 3) S hK hP1 rfl i_Pattern 1 (by decide) m_Pattern_30 rfl rfl d_Pattern_isStar_6 ?_
    refine zk_alen S hK 2 hP3 rfl (v := nI mm) rfl d_Pattern_isStar_9 ?_
    refine lv_icmp_ge (tgt := 26) hx hb d_Pattern_isStar_10 (by decide) (fun c10 => ?_) (fun c10 => ?_)
    · exact absurd c10 (nI_ge (by omega) (by omega))
    · refine lv_aload_n hx hb d_Pattern_isStar_13 rfl (lv_at hl 0 rfl) ?_
      refine zk_get (C := R_Pattern) (T := F_Pattern) (N := 3) S hK hP1 rfl i_Pattern 1 (by decide) m_Pattern_30 rfl rfl d_Pattern_isStar_14 ?_
      refine lv_iload_n hx hb d_Pattern_isStar_17 rfl (lv_at hl 1 rfl) ?_
      refine zk_zald S hK 2 hP3 rfl (vp_in_nI (by omega) (by omega)) d_Pattern_isStar_18 ?_
      refine zk_ti (z := zf i) (by rw [nI_clamp (by omega)]) ?_
      refine lv_if_eq (tgt := 26) hx hb d_Pattern_isStar_19 (by decide) (fun c19 => ?_) (fun c19 => ?_)
      · refine lv_iconst (v := 0) hx hb d_Pattern_isStar_26 (by decide) ?_
        exact zk_retzE S hr (by decide) hlk (Or.inr ⟨fun q => absurd c19 (by rw [(r3 i hi).1 q]; decide), rfl⟩) d_Pattern_isStar_27
      · refine lv_iconst (v := 1) hx hb d_Pattern_isStar_22 (by decide) ?_
        refine lv_goto (tgt := 27) hx hb d_Pattern_isStar_23 (by decide) ?_
        exact zk_retzE S hr (by decide) hlk (Or.inl ⟨by
          cases q : its.getD i none with
          | none => rfl
          | some SS => exact absurd ((r3 i hi).2 SS q).1 c19, rfl⟩) d_Pattern_isStar_27

set_option maxHeartbeats 4000000 in
set_option maxRecDepth 100000 in
/-- Pattern.starOrEndFrom(i) -/
theorem c_Pattern_starOrEndFrom (l : Launch) (D : va_G) (kA : Nat → ClassId) (Z : Nat → Prop) (a : Nat) (its : List pItem) (i : Nat) (hi : i < 2 ^ 20) : Met l y_Pattern_starOrEndFrom (Cond.code y_Pattern_starOrEndFrom b_Pattern_starOrEndFrom 3 (some .int) :: zTB) { frames := 1, cells := 0, slots := 0, locals := 21 } (zk_Pc D classes (zTY kA) [.ref a, .int (nI i)] (fun H => PtAt D kA Z H a its)) (zk_pE (fun v => ∃ j, v = .int (nI j) ∧ i ≤ j ∧ (∀ k, i ≤ k → k < j → k < its.length ∧ its.getD k none ≠ none) ∧ (its.length ≤ j ∨ its.getD j none = none))) 0 0 zk_no := by
  refine zk_of [.ref a, .int (nI i)] (by decide) (Nat.le_of_ble_eq_true rfl) ?_
  intro p e s m below meth c S hr hlk hnm hK hX hpre ls hl
  obtain ⟨hx, hb, hml, hown, ht⟩ := id S
  have hpt := hpre
  obtain ⟨sa, za, mm, sf, zf, ⟨ha, hsa, hza⟩, hP1, hP2, hP3, hrep⟩ := id hpt
  obtain ⟨r1, r2, r3⟩ := id hrep
  have hl : lv_has ls 3 [(0, .ref a), (1, .int (nI i))] := hl
  refine lv_iload_n hx hb d_Pattern_starOrEndFrom_0 rfl (lv_at hl 1 rfl) ?_
  refine lv_istore_n (lv' := [(2, .int (nI i)), (0, .ref a), (1, .int (nI i))]) hx hb d_Pattern_starOrEndFrom_1 rfl hl (by decide) rfl (fun ls hl => ?_)
  have lp : ∀ (fu : Nat) (j : Nat), its.length - j < fu → i ≤ j → j ≤ i + its.length → (∀ k, i ≤ k → k < j → k < its.length ∧ its.getD k none ≠ none) → ∀ ls : Array Slot, lv_has ls 3 [(0, .ref a), (2, .int (nI j))] → W p l e { frames := 1, cells := 0, slots := 0, locals := 21 } s m [.ref a, .int (nI i)].toArray below meth c s.heap [] 0 0 (MQ below (zk_pE (fun v => ∃ j, v = .int (nI j) ∧ i ≤ j ∧ (∀ k, i ≤ k → k < j → k < its.length ∧ its.getD k none ≠ none) ∧ (its.length ≤ j ∨ its.getD j none = none))) [.ref a, .int (nI i)].toArray s 0 0 zk_no) (F0 m 2 ls []) := by
    intro fu
    induction fu with
    | zero => intro j hn; exact absurd hn (Nat.not_lt_zero _)
    | succ fu ih =>
      intro j hn hij hj2 hno ls hl
      refine lv_iload_n hx hb d_Pattern_starOrEndFrom_2 rfl (lv_at hl 1 rfl) ?_
      refine lv_aload_n hx hb d_Pattern_starOrEndFrom_3 rfl (lv_at hl 0 rfl) ?_
      refine zk_get (C := R_Pattern) (T := F_Pattern) (N := 3) S hK hP1 rfl i_Pattern 2 (by decide) m_Pattern_39 rfl rfl d_Pattern_starOrEndFrom_4 ?_
      refine lv_icmp_ge (tgt := 24) hx hb d_Pattern_starOrEndFrom_7 (by decide) (fun c7 => ?_) (fun c7 => ?_)
      · refine lv_iload_n hx hb d_Pattern_starOrEndFrom_24 rfl (lv_at hl 1 rfl) ?_
        exact zk_retiE S hr hlk ⟨j, rfl, hij, hno, Or.inl ((nI_leI (by omega) (by omega)).mp c7)⟩ d_Pattern_starOrEndFrom_25
      · have hlt : j < its.length := Nat.not_le.mp fun z => c7 (nI_le z (by omega))
        refine lv_aload_n hx hb d_Pattern_starOrEndFrom_10 rfl (lv_at hl 0 rfl) ?_
        refine lv_iload_n hx hb d_Pattern_starOrEndFrom_11 rfl (lv_at hl 1 rfl) ?_
        refine zk_pureE (zk_runV (As := [.int (nI j)]) (rest := []) S m_Pattern_67 (c_Pattern_isStar l D kA Z a its j hlt) rfl rfl ⟨Nat.le_of_ble_eq_true rfl, Nat.le_of_ble_eq_true rfl⟩ hK hX (zk_recv hK hP1 rfl) (hpt) rfl hl.1 rfl (Nat.le_of_ble_eq_true rfl) ⟨Nat.le_of_ble_eq_true rfl, Nat.le_of_ble_eq_true rfl⟩ d_Pattern_starOrEndFrom_12) (fun v hv => ?_)
        rcases hv with ⟨hs, rfl⟩ | ⟨hs, rfl⟩
        · refine lv_if_ne (tgt := 24) hx hb d_Pattern_starOrEndFrom_15 (by decide) (fun c15 => ?_) (fun c15 => ?_)
          · refine lv_iload_n hx hb d_Pattern_starOrEndFrom_24 rfl (lv_at hl 1 rfl) ?_
            exact zk_retiE S hr hlk ⟨j, rfl, hij, hno, Or.inr hs⟩ d_Pattern_starOrEndFrom_25
          · exact absurd c15 (by decide)
        · refine lv_if_ne (tgt := 24) hx hb d_Pattern_starOrEndFrom_15 (by decide) (fun c15 => ?_) (fun c15 => ?_)
          · exact absurd rfl c15
          · refine lv_iinc (v := (nI (j + 1))) (lv' := [(2, .int (nI (j + 1))), (0, .ref a)]) hx hb d_Pattern_starOrEndFrom_18 hl (k := 1) rfl (nI_1 j) (by decide) rfl (fun ls hl => ?_)
            refine lv_goto (tgt := 2) hx hb d_Pattern_starOrEndFrom_21 (by decide) ?_
            exact ih (j + 1) (by omega) (by omega) (by omega) (fun k h1 h2 => by
              by_cases e : k = j
              · rw [e]; exact ⟨hlt, hs⟩
              · exact hno k h1 (by omega)) ls (lv_sub hl [1, 0] rfl)
  exact lp (its.length + 1) i (by omega) (Nat.le_refl _) (by omega) (fun k h1 h2 => absurd h1 (by omega)) ls (lv_sub hl [1, 0] rfl)

set_option maxHeartbeats 4000000 in
set_option maxRecDepth 100000 in
/-- Pattern.behindLastStar() -/
theorem c_Pattern_behindLastStar (l : Launch) (D : va_G) (kA : Nat → ClassId) (Z : Nat → Prop) (a : Nat) (its : List pItem) : Met l y_Pattern_behindLastStar (Cond.code y_Pattern_behindLastStar b_Pattern_behindLastStar 2 (some .int) :: zTB) { frames := 1, cells := 0, slots := 0, locals := 21 } (zk_Pc D classes (zTY kA) [.ref a] (fun H => PtAt D kA Z H a its)) (zk_pE (fun v => ∃ j, v = .int (nI j) ∧ j ≤ its.length ∧ (∀ k, j ≤ k → k < its.length → its.getD k none ≠ none) ∧ (j = 0 ∨ its.getD (j - 1) none = none))) 0 0 zk_no := by
  refine zk_of [.ref a] (by decide) (Nat.le_of_ble_eq_true rfl) ?_
  intro p e s m below meth c S hr hlk hnm hK hX hpre ls hl
  obtain ⟨hx, hb, hml, hown, ht⟩ := id S
  have hpt := hpre
  obtain ⟨sa, za, mm, sf, zf, ⟨ha, hsa, hza⟩, hP1, hP2, hP3, hrep⟩ := id hpt
  obtain ⟨r1, r2, r3⟩ := id hrep
  have hl : lv_has ls 2 [(0, .ref a)] := hl
  refine lv_aload_n hx hb d_Pattern_behindLastStar_0 rfl (lv_at hl 0 rfl) ?_
  refine zk_get (C := R_Pattern) (T := F_Pattern) (N := 3) S hK hP1 rfl i_Pattern 2 (by decide) m_Pattern_39 rfl rfl d_Pattern_behindLastStar_1 ?_
  refine lv_istore_n (lv' := [(1, .int (nI its.length)), (0, .ref a)]) hx hb d_Pattern_behindLastStar_4 rfl hl (by decide) rfl (fun ls hl => ?_)
  have lp : ∀ (fu : Nat) (j : Nat), j < fu → j ≤ its.length → (∀ k, j ≤ k → k < its.length → its.getD k none ≠ none) → ∀ ls : Array Slot, lv_has ls 2 [(0, .ref a), (1, .int (nI j))] → W p l e { frames := 1, cells := 0, slots := 0, locals := 21 } s m [.ref a].toArray below meth c s.heap [] 0 0 (MQ below (zk_pE (fun v => ∃ j, v = .int (nI j) ∧ j ≤ its.length ∧ (∀ k, j ≤ k → k < its.length → its.getD k none ≠ none) ∧ (j = 0 ∨ its.getD (j - 1) none = none))) [.ref a].toArray s 0 0 zk_no) (F0 m 5 ls []) := by
    intro fu
    induction fu with
    | zero => intro j hn; exact absurd hn (Nat.not_lt_zero _)
    | succ fu ih =>
      intro j hn hj hno ls hl
      refine lv_iload_n hx hb d_Pattern_behindLastStar_5 rfl (lv_at hl 1 rfl) ?_
      refine lv_if_le (tgt := 25) hx hb d_Pattern_behindLastStar_6 (by decide) (fun c6 => ?_) (fun c6 => ?_)
      · refine lv_iload_n hx hb d_Pattern_behindLastStar_25 rfl (lv_at hl 1 rfl) ?_
        exact zk_retiE S hr hlk ⟨j, rfl, hj, hno, Or.inl (by
          by_cases z : j = 0
          · exact z
          · exact absurd c6 (nI_nle (by omega) (by omega)))⟩ d_Pattern_behindLastStar_26
      · have j0 : 0 < j := by
          by_cases z : j = 0
          · exact absurd (show nI j ≤ 0 by rw [z]; decide) c6
          · omega
        refine lv_aload_n hx hb d_Pattern_behindLastStar_9 rfl (lv_at hl 0 rfl) ?_
        refine lv_iload_n hx hb d_Pattern_behindLastStar_10 rfl (lv_at hl 1 rfl) ?_
        refine lv_iconst (v := 1) hx hb d_Pattern_behindLastStar_11 (by decide) ?_
        refine lv_isub hx hb d_Pattern_behindLastStar_12 ?_
        refine zk_ti (z := nI (j - 1)) (by rw [show (1 : Int32) = nI 1 from rfl]; exact pk_sub (by omega)) ?_
        refine zk_pureE (zk_runV (As := [.int (nI (j - 1))]) (rest := []) S m_Pattern_67 (c_Pattern_isStar l D kA Z a its (j - 1) (by omega)) rfl rfl ⟨Nat.le_of_ble_eq_true rfl, Nat.le_of_ble_eq_true rfl⟩ hK hX (zk_recv hK hP1 rfl) (hpt) rfl hl.1 rfl (Nat.le_of_ble_eq_true rfl) ⟨Nat.le_of_ble_eq_true rfl, Nat.le_of_ble_eq_true rfl⟩ d_Pattern_behindLastStar_13) (fun v hv => ?_)
        rcases hv with ⟨hs, rfl⟩ | ⟨hs, rfl⟩
        · refine lv_if_ne (tgt := 25) hx hb d_Pattern_behindLastStar_16 (by decide) (fun c16 => ?_) (fun c16 => ?_)
          · refine lv_iload_n hx hb d_Pattern_behindLastStar_25 rfl (lv_at hl 1 rfl) ?_
            exact zk_retiE S hr hlk ⟨j, rfl, hj, hno, Or.inr hs⟩ d_Pattern_behindLastStar_26
          · exact absurd c16 (by decide)
        · refine lv_if_ne (tgt := 25) hx hb d_Pattern_behindLastStar_16 (by decide) (fun c16 => ?_) (fun c16 => ?_)
          · exact absurd rfl c16
          · refine lv_iinc (v := (nI (j - 1))) (lv' := [(1, .int (nI (j - 1))), (0, .ref a)]) hx hb d_Pattern_behindLastStar_19 hl (k := 1) rfl (sb_m1 j0) (by decide) rfl (fun ls hl => ?_)
            refine lv_goto (tgt := 5) hx hb d_Pattern_behindLastStar_22 (by decide) ?_
            exact ih (j - 1) (by omega) (by omega) (fun k h1 h2 => by
              by_cases e : k = j - 1
              · rw [e]; exact hs
              · exact hno k (by omega) h2) ls (lv_sub hl [1, 0] rfl)
  exact lp (its.length + 1) its.length (by omega) (Nat.le_refl _) (fun k h1 h2 => absurd h1 (by omega)) ls (lv_sub hl [1, 0] rfl)
