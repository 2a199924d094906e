theorem zNe1 {n : Nat} (h : n < 2 ^ 31) : ¬ nI n = -1 := by
  intro q
  have h1 := congrArg Int32.toInt q
  rw [nI_toInt h, show (-1 : Int32).toInt = -1 by decide] at h1
  omega
set_option maxHeartbeats 4000000 in
set_option maxRecDepth 100000 in
/-- Pattern.standsAt(text, place, item, runEnd) -/
theorem c_Pattern_standsAt (l : Launch) (D : va_G) (kA : Nat → ClassId) (Z : Nat → Prop) (a : Nat) (its : List pItem) (o lim : Nat) (bs : List Nat) (q i e0 : Nat) (hie : i ≤ e0) (he : e0 ≤ its.length) (hq : q ≤ bs.length) (hns : ∀ j, i ≤ j → j < e0 → its.getD j none ≠ none) : Met l y_Pattern_standsAt (Cond.code y_Pattern_standsAt b_Pattern_standsAt 8 (some .boolean) :: zTB) { frames := 1, cells := 0, slots := 0, locals := 21 } (zk_Pc D classes (zTY kA) [.ref a, .ref o, .int (nI q), .int (nI i), .int (nI e0)] (fun H => PtAt D kA Z H a its ∧ BsAt D kA Z H o lim bs)) (zk_pE (fun v => (pRun (zT bs) (zIt its) i (e0 - i) q ∧ q + (e0 - i) ≤ bs.length ∧ v = .int 1) ∨ (¬ (pRun (zT bs) (zIt its) i (e0 - i) q ∧ q + (e0 - i) ≤ bs.length) ∧ v = .int 0))) 0 0 zk_no := by
  refine zk_of [.ref a, .ref o, .int (nI q), .int (nI i), .int (nI e0)] (by decide) (Nat.le_of_ble_eq_true rfl) ?_
  intro p e s m below meth c S hr hlk hnm hK hX hpre ls hl
  obtain ⟨hx, hb, hml, hown, ht⟩ := id S
  obtain ⟨hpt, hO⟩ := hpre
  obtain ⟨sa, za, mm, sf, zf, ⟨ha, hsa, hza⟩, hP1, hP2, hP3, hrep⟩ := id hpt
  obtain ⟨r1, r2, r3⟩ := id hrep
  obtain ⟨ro, no, fo, hzo1, hzo2, hO1, hO2, hO3⟩ := id hO
  obtain ⟨g1, g2, g3, g4, g5⟩ := id hO3
  have hl : lv_has ls 8 [(0, .ref a), (1, .ref o), (2, .int (nI q)), (3, .int (nI i)), (4, .int (nI e0))] := hl
  refine lv_iload_n hx hb d_Pattern_standsAt_0 rfl (lv_at hl 3 rfl) ?_
  refine lv_istore (lv' := [(5, .int (nI i)), (0, .ref a), (1, .ref o), (2, .int (nI q)), (3, .int (nI i)), (4, .int (nI e0))]) hx hb d_Pattern_standsAt_1 hl (by decide) rfl (fun ls hl => ?_)
  have lp : ∀ (fu : Nat) (k : Nat), e0 - k < fu → i ≤ k → k ≤ e0 → (∀ j, j < k - i → (∃ SS, zIt its (i + j) = some SS ∧ pIn SS (zT bs (q + j)) = true) ∧ q + j < bs.length) → ∀ ls : Array Slot, lv_has ls 8 [(0, .ref a), (1, .ref o), (2, .int (nI q)), (3, .int (nI i)), (4, .int (nI e0)), (5, .int (nI k))] → W p l e { frames := 1, cells := 0, slots := 0, locals := 21 } s m [.ref a, .ref o, .int (nI q), .int (nI i), .int (nI e0)].toArray below meth c s.heap [] 0 0 (MQ below (zk_pE (fun v => (pRun (zT bs) (zIt its) i (e0 - i) q ∧ q + (e0 - i) ≤ bs.length ∧ v = .int 1) ∨ (¬ (pRun (zT bs) (zIt its) i (e0 - i) q ∧ q + (e0 - i) ≤ bs.length) ∧ v = .int 0))) [.ref a, .ref o, .int (nI q), .int (nI i), .int (nI e0)].toArray s 0 0 zk_no) (F0 m 3 ls []) := by
    intro fu
    induction fu with
    | zero => intro k hn; exact absurd hn (Nat.not_lt_zero _)
    | succ fu ih =>
      intro k hn hik hke0 hok ls hl
      refine lv_iload hx hb d_Pattern_standsAt_3 (lv_at hl 5 rfl) ?_
      refine lv_iload hx hb d_Pattern_standsAt_5 (lv_at hl 4 rfl) ?_
      refine lv_icmp_ge (tgt := 83) hx hb d_Pattern_standsAt_7 (by decide) (fun c7 => ?_) (fun c7 => ?_)
      · refine lv_iconst (v := 1) hx hb d_Pattern_standsAt_83 (by decide) ?_
        have hke : k = e0 := by
          have := (nI_leI (by omega) (by omega)).mp c7
          omega
        exact zk_retzE S hr (by decide) hlk (Or.inl ⟨fun j hj => (hok j (by omega)).1, by
          by_cases z : e0 - i = 0
          · rw [z]; omega
          · have := (hok (e0 - i - 1) (by omega)).2
            omega, rfl⟩) d_Pattern_standsAt_84
      · have hlt : k < e0 := Nat.not_le.mp fun z => c7 (nI_le z (by omega))
        refine lv_aload_n hx hb d_Pattern_standsAt_10 rfl (lv_at hl 1 rfl) ?_
        refine lv_iload_n hx hb d_Pattern_standsAt_11 rfl (lv_at hl 2 rfl) ?_
        refine lv_iload hx hb d_Pattern_standsAt_12 (lv_at hl 5 rfl) ?_
        refine lv_iadd hx hb d_Pattern_standsAt_14 ?_
        refine zk_ti (z := nI (q + k)) (nI_add _ _) ?_
        refine lv_iload_n hx hb d_Pattern_standsAt_15 rfl (lv_at hl 3 rfl) ?_
        refine lv_isub hx hb d_Pattern_standsAt_16 ?_
        refine zk_ti (z := nI (q + k - i)) (pk_sub (by omega)) ?_
        refine zk_pure (zk_runV (As := [.int (nI (q + k - i))]) (rest := []) S m_Pattern_88 (c_Bytes_at l D kA Z o lim bs (nI (q + k - i))) rfl rfl ⟨Nat.le_of_ble_eq_true rfl, Nat.le_of_ble_eq_true rfl⟩ hK hX (zk_recv hK hO1 rfl) (hO) rfl hl.1 rfl (Nat.le_of_ble_eq_true rfl) ⟨Nat.le_of_ble_eq_true rfl, Nat.le_of_ble_eq_true rfl⟩ d_Pattern_standsAt_17) ?_
        rcases Nat.lt_or_ge (q + k - i) bs.length with hin | hin
        · refine zk_ti (z := nI (bs.getD (q + k - i) 0)) (bAt_nI (by omega) hin) ?_
          have hv := (g5 _ hin).1
          refine lv_istore (lv' := [(6, .int (nI (bs.getD (q + k - i) 0))), (0, .ref a), (1, .ref o), (2, .int (nI q)), (3, .int (nI i)), (4, .int (nI e0)), (5, .int (nI k))]) hx hb d_Pattern_standsAt_20 hl (by decide) rfl (fun ls hl => ?_)
          refine lv_iload hx hb d_Pattern_standsAt_22 (lv_at hl 6 rfl) ?_
          refine lv_iconst (v := 4) hx hb d_Pattern_standsAt_24 (by decide) ?_
          refine lv_imul hx hb d_Pattern_standsAt_25 ?_
          refine zk_ti (z := nI (k * 4)) (show nI k * nI 4 = _ from pk_mul k 4) ?_
          refine lv_iload hx hb d_Pattern_standsAt_26 (lv_at hl 0 rfl) ?_
          refine lv_bipush (v := 6) hx hb d_Pattern_standsAt_28 (by decide) ?_
          refine lv_ishr hx hb d_Pattern_standsAt_30 ?_
          refine zk_ti (z := nI ((bs.getD (q + k - i) 0) / 64)) (pk_shrN (by omega) _ 6 (by decide)) ?_
          refine lv_iadd hx hb d_Pattern_standsAt_31 ?_
          refine zk_ti (z := nI (k * 4 + (bs.getD (q + k - i) 0) / 64)) (nI_add _ _) ?_
          refine lv_istore (lv' := [(7, .int (nI (k * 4 + (bs.getD (q + k - i) 0) / 64))), (6, .int (nI (bs.getD (q + k - i) 0))), (0, .ref a), (1, .ref o), (2, .int (nI q)), (3, .int (nI i)), (4, .int (nI e0)), (5, .int (nI k))]) hx hb d_Pattern_standsAt_32 hl (by decide) rfl (fun ls hl => ?_)
          refine lv_iload hx hb d_Pattern_standsAt_34 (lv_at hl 1 rfl) ?_
          refine lv_iconst (v := (-1)) hx hb d_Pattern_standsAt_36 (by decide) ?_
          refine lv_icmp_eq (tgt := 75) hx hb d_Pattern_standsAt_37 (by decide) (fun c37 => ?_) (fun c37 => ?_)
          · exact absurd c37 (zNe1 (by omega))
          · refine lv_iload hx hb d_Pattern_standsAt_40 (lv_at hl 0 rfl) ?_
            refine lv_if_lt (tgt := 75) hx hb d_Pattern_standsAt_42 (by decide) (fun c42 => ?_) (fun c42 => ?_)
            · exact absurd c42 (nI_pos (by omega))
            · refine lv_iload hx hb d_Pattern_standsAt_45 (lv_at hl 0 rfl) ?_
              refine lv_aload_n hx hb d_Pattern_standsAt_47 rfl (lv_at hl 2 rfl) ?_
              refine zk_get (C := R_Pattern) (T := F_Pattern) (N := 3) S hK hP1 rfl i_Pattern 0 (by decide) m_Pattern_26 rfl rfl d_Pattern_standsAt_48 ?_
              refine zk_alen S hK 1 hP2 rfl (v := nI (mm * 4)) rfl d_Pattern_standsAt_51 ?_
              refine lv_icmp_ge (tgt := 75) hx hb d_Pattern_standsAt_52 (by decide) (fun c52 => ?_) (fun c52 => ?_)
              · exact absurd ((nI_leI (by omega) (by omega)).mp c52) (by omega)
              · refine lv_aload_n hx hb d_Pattern_standsAt_55 rfl (lv_at hl 2 rfl) ?_
                refine zk_get (C := R_Pattern) (T := F_Pattern) (N := 3) S hK hP1 rfl i_Pattern 0 (by decide) m_Pattern_26 rfl rfl d_Pattern_standsAt_56 ?_
                refine lv_iload hx hb d_Pattern_standsAt_59 (lv_at hl 0 rfl) ?_
                refine zk_lald S hK 1 hP2 rfl (vp_in_nI (by omega) (by omega)) d_Pattern_standsAt_61 ?_
                refine zk_tl (z := sf (k * 4 + (bs.getD (q + k - i) 0) / 64)) (by rw [nI_clamp (by omega)]) ?_
                refine lv_iload hx hb d_Pattern_standsAt_62 (lv_at hl 1 rfl) ?_
                refine lv_bipush (v := 63) hx hb d_Pattern_standsAt_64 (by decide) ?_
                refine lv_iand hx hb d_Pattern_standsAt_66 ?_
                refine zk_ti (z := nI ((bs.getD (q + k - i) 0) % 64)) (pk_andN (by omega) 6 (by decide)) ?_
                refine lv_lushr hx hb d_Pattern_standsAt_67 rfl ?_
                refine lv_topl (fun v67 e67 => ?_)
                refine lv_lconst (v := 1) hx hb d_Pattern_standsAt_68 (by decide) ?_
                refine lv_land hx hb d_Pattern_standsAt_69 ?_
                refine lv_lconst (v := 0) hx hb d_Pattern_standsAt_70 (by decide) ?_
                refine W.lcmp hx hb d_Pattern_standsAt_71 ?_
                refine lv_if_ne (tgt := 77) hx hb d_Pattern_standsAt_72 (by decide) (fun c72 => ?_) (fun c72 => ?_)
                · have hb1 : zSb sf k (bs.getD (q + k - i) 0) = true := by
                    cases hbb : zSb sf k (bs.getD (q + k - i) 0) with
                    | true => rfl
                    | false => exact absurd ((lg_cmp_eq _ _).mpr (by rw [e67]; exact (zBit_test (Nat.mod_lt _ (by decide))).mpr hbb)) c72
                  refine lv_iinc (v := (nI (k + 1))) (lv' := [(5, .int (nI (k + 1))), (7, .int (nI (k * 4 + (bs.getD (q + k - i) 0) / 64))), (6, .int (nI (bs.getD (q + k - i) 0))), (0, .ref a), (1, .ref o), (2, .int (nI q)), (3, .int (nI i)), (4, .int (nI e0))]) hx hb d_Pattern_standsAt_77 hl (k := 7) rfl (nI_1 k) (by decide) rfl (fun ls hl => ?_)
                  refine lv_goto (tgt := 3) hx hb d_Pattern_standsAt_80 (by decide) ?_
                  exact ih (k + 1) (by omega) (by omega) (by omega) (fun j hj => by
                    by_cases z : j = k - i
                    · rw [z, show i + (k - i) = k by omega, show q + (k - i) = q + k - i by omega]
                      refine ⟨?_, hin⟩
                      cases hs : its.getD k none with
                      | none => exact absurd hs (hns k hik hlt)
                      | some SS => exact ⟨SS, hs, by rw [← ((r3 k (by omega)).2 SS hs).2 _ hv]; exact hb1⟩
                    · exact hok j (by omega)) ls (lv_sub hl [3, 4, 5, 6, 7, 0] rfl)
                · refine lv_iconst (v := 0) hx hb d_Pattern_standsAt_75 (by decide) ?_
                  exact zk_retzE S hr (by decide) hlk (Or.inr ⟨fun z => by
                    obtain ⟨SS, z1, z2⟩ := z.1 (k - i) (by omega)
                    rw [show i + (k - i) = k by omega] at z1
                    have hb0 : zSb sf k (bs.getD (q + k - i) 0) = false := (zBit_test (Nat.mod_lt _ (by decide))).mp (by rw [← e67]; exact (lg_cmp_eq _ _).mp c72)
                    rw [((r3 k (by omega)).2 SS z1).2 _ hv] at hb0
                    rw [show q + (k - i) = q + k - i by omega] at z2
                    exact absurd (hb0.symm.trans z2) (by decide), rfl⟩) d_Pattern_standsAt_76
        · refine zk_ti (z := -1) (bAt_nIge (by omega) hin) ?_
          refine lv_istore (lv' := [(6, .int (-1)), (0, .ref a), (1, .ref o), (2, .int (nI q)), (3, .int (nI i)), (4, .int (nI e0)), (5, .int (nI k))]) hx hb d_Pattern_standsAt_20 hl (by decide) rfl (fun ls hl => ?_)
          refine lv_iload hx hb d_Pattern_standsAt_22 (lv_at hl 6 rfl) ?_
          refine lv_iconst (v := 4) hx hb d_Pattern_standsAt_24 (by decide) ?_
          refine lv_imul hx hb d_Pattern_standsAt_25 ?_
          refine zk_ti (z := nI (k * 4)) (show nI k * nI 4 = _ from pk_mul k 4) ?_
          refine lv_iload hx hb d_Pattern_standsAt_26 (lv_at hl 0 rfl) ?_
          refine lv_bipush (v := 6) hx hb d_Pattern_standsAt_28 (by decide) ?_
          refine lv_ishr hx hb d_Pattern_standsAt_30 ?_
          refine lv_iadd hx hb d_Pattern_standsAt_31 ?_
          refine lv_istore (lv' := [(7, .int ((nI (k * 4)) + ((-1 : Int32) >>> ((6 : Int32) &&& 31)))), (6, .int (-1)), (0, .ref a), (1, .ref o), (2, .int (nI q)), (3, .int (nI i)), (4, .int (nI e0)), (5, .int (nI k))]) hx hb d_Pattern_standsAt_32 hl (by decide) rfl (fun ls hl => ?_)
          refine lv_iload hx hb d_Pattern_standsAt_34 (lv_at hl 1 rfl) ?_
          refine lv_iconst (v := (-1)) hx hb d_Pattern_standsAt_36 (by decide) ?_
          refine lv_icmp_eq (tgt := 75) hx hb d_Pattern_standsAt_37 (by decide) (fun c37 => ?_) (fun c37 => ?_)
          · refine lv_iconst (v := 0) hx hb d_Pattern_standsAt_75 (by decide) ?_
            exact zk_retzE S hr (by decide) hlk (Or.inr ⟨fun z => absurd z.2 (by omega), rfl⟩) d_Pattern_standsAt_76
          · exact absurd rfl c37
  exact lp (e0 + 1) i (by omega) (Nat.le_refl _) hie (fun j hj => absurd hj (by omega)) ls (lv_sub hl [1, 2, 3, 4, 5, 0] rfl)

set_option maxHeartbeats 4000000 in
set_option maxRecDepth 100000 in
/-- Pattern.earliestPlace(text, from, to, item, runEnd) -/
theorem c_Pattern_earliestPlace (l : Launch) (D : va_G) (kA : Nat → ClassId) (Z : Nat → Prop) (a : Nat) (its : List pItem) (o lim : Nat) (bs : List Nat) (q to i e0 : Nat) (hie : i ≤ e0) (he : e0 ≤ its.length) (hq : q < 2 ^ 20) (hto : to ≤ bs.length) (hns : ∀ j, i ≤ j → j < e0 → its.getD j none ≠ none) : Met l y_Pattern_earliestPlace (Cond.code y_Pattern_earliestPlace b_Pattern_earliestPlace 7 (some .int) :: zTB) { frames := 2, cells := 0, slots := 0, locals := 48 } (zk_Pc D classes (zTY kA) [.ref a, .ref o, .int (nI q), .int (nI to), .int (nI i), .int (nI e0)] (fun H => PtAt D kA Z H a its ∧ BsAt D kA Z H o lim bs)) (zk_pE (fun v => ∃ rr, v = .int (zI rr) ∧ pPlace (zT bs) (zIt its) i (e0 - i) q to rr)) 0 0 zk_no := by
  refine zk_of [.ref a, .ref o, .int (nI q), .int (nI to), .int (nI i), .int (nI e0)] (by decide) (Nat.le_of_ble_eq_true rfl) ?_
  intro p e s m below meth c S hr hlk hnm hK hX hpre ls hl
  obtain ⟨hx, hb, hml, hown, ht⟩ := id S
  obtain ⟨hpt, hO⟩ := hpre
  obtain ⟨sa, za, mm, sf, zf, ⟨ha, hsa, hza⟩, hP1, hP2, hP3, hrep⟩ := id hpt
  obtain ⟨r1, r2, r3⟩ := id hrep
  obtain ⟨ro, no, fo, hzo1, hzo2, hO1, hO2, hO3⟩ := id hO
  obtain ⟨g1, g2, g3, g4, g5⟩ := id hO3
  have hl : lv_has ls 7 [(0, .ref a), (1, .ref o), (2, .int (nI q)), (3, .int (nI to)), (4, .int (nI i)), (5, .int (nI e0))] := hl
  refine lv_iload_n hx hb d_Pattern_earliestPlace_0 rfl (lv_at hl 2 rfl) ?_
  refine lv_istore (lv' := [(6, .int (nI q)), (0, .ref a), (1, .ref o), (2, .int (nI q)), (3, .int (nI to)), (4, .int (nI i)), (5, .int (nI e0))]) hx hb d_Pattern_earliestPlace_1 hl (by decide) rfl (fun ls hl => ?_)
  have lp : ∀ (fu : Nat) (k : Nat), to + 1 - k < fu → q ≤ k → k < 2 ^ 20 + 1 → (∀ k', q ≤ k' → k' < k → k' + (e0 - i) ≤ to → ¬ pRun (zT bs) (zIt its) i (e0 - i) k') → ∀ ls : Array Slot, lv_has ls 7 [(0, .ref a), (1, .ref o), (3, .int (nI to)), (4, .int (nI i)), (5, .int (nI e0)), (6, .int (nI k))] → W p l e { frames := 2, cells := 0, slots := 0, locals := 48 } s m [.ref a, .ref o, .int (nI q), .int (nI to), .int (nI i), .int (nI e0)].toArray below meth c s.heap [] 0 0 (MQ below (zk_pE (fun v => ∃ rr, v = .int (zI rr) ∧ pPlace (zT bs) (zIt its) i (e0 - i) q to rr)) [.ref a, .ref o, .int (nI q), .int (nI to), .int (nI i), .int (nI e0)].toArray s 0 0 zk_no) (F0 m 3 ls []) := by
    intro fu
    induction fu with
    | zero => intro k hn; exact absurd hn (Nat.not_lt_zero _)
    | succ fu ih =>
      intro k hn hqk hk2 hno ls hl
      refine lv_iload hx hb d_Pattern_earliestPlace_3 (lv_at hl 5 rfl) ?_
      refine lv_iload_n hx hb d_Pattern_earliestPlace_5 rfl (lv_at hl 2 rfl) ?_
      refine lv_iload hx hb d_Pattern_earliestPlace_6 (lv_at hl 4 rfl) ?_
      refine lv_iload hx hb d_Pattern_earliestPlace_8 (lv_at hl 3 rfl) ?_
      refine lv_isub hx hb d_Pattern_earliestPlace_10 ?_
      refine zk_ti (z := nI (e0 - i)) (pk_sub hie) ?_
      refine lv_isub hx hb d_Pattern_earliestPlace_11 ?_
      refine lv_icmp_gt (tgt := 38) hx hb d_Pattern_earliestPlace_12 (by decide) (fun c12 => ?_) (fun c12 => ?_)
      · refine lv_iconst (v := (-1)) hx hb d_Pattern_earliestPlace_38 (by decide) ?_
        have hgt : to < k + (e0 - i) := by
          have z := Int32.lt_iff_toInt_lt.mp c12
          rw [pk_sub_toInt (by omega) (by omega), nI_toInt (by omega)] at z
          omega
        exact zk_retiE S hr hlk ⟨none, rfl, fun k' h1 h2 h3 => hno k' h1 (by omega) h2 h3⟩ d_Pattern_earliestPlace_39
      · have hle : k + (e0 - i) ≤ to := by
          have z := mt Int32.lt_iff_toInt_lt.mpr c12
          rw [pk_sub_toInt (by omega) (by omega), nI_toInt (by omega)] at z
          omega
        refine lv_aload_n hx hb d_Pattern_earliestPlace_15 rfl (lv_at hl 0 rfl) ?_
        refine lv_aload_n hx hb d_Pattern_earliestPlace_16 rfl (lv_at hl 1 rfl) ?_
        refine lv_iload hx hb d_Pattern_earliestPlace_17 (lv_at hl 5 rfl) ?_
        refine lv_iload hx hb d_Pattern_earliestPlace_19 (lv_at hl 3 rfl) ?_
        refine lv_iload hx hb d_Pattern_earliestPlace_21 (lv_at hl 4 rfl) ?_
        refine zk_pureE (zk_runV (As := [.ref o, .int (nI k), .int (nI i), .int (nI e0)]) (rest := []) S m_Pattern_74 (c_Pattern_standsAt l D kA Z a its o lim bs k i e0 hie he (by omega) hns) rfl rfl ⟨Nat.le_of_ble_eq_true rfl, Nat.le_of_ble_eq_true rfl⟩ hK hX (zk_recv hK hP1 rfl) (⟨hpt, hO⟩) rfl hl.1 rfl (Nat.le_of_ble_eq_true rfl) ⟨Nat.le_of_ble_eq_true rfl, Nat.le_of_ble_eq_true rfl⟩ d_Pattern_earliestPlace_23) (fun v hv => ?_)
        rcases hv with ⟨hs1, hs2, rfl⟩ | ⟨hs1, rfl⟩
        · refine lv_if_eq (tgt := 32) hx hb d_Pattern_earliestPlace_26 (by decide) (fun c26 => ?_) (fun c26 => ?_)
          · exact absurd c26 (by decide)
          · refine lv_iload hx hb d_Pattern_earliestPlace_29 (lv_at hl 5 rfl) ?_
            exact zk_retiE S hr hlk ⟨some k, rfl, hqk, hle, hs1, fun k' h1 h2 h3 => Nat.not_lt.mp fun z => hno k' h1 z h2 h3⟩ d_Pattern_earliestPlace_31
        · refine lv_if_eq (tgt := 32) hx hb d_Pattern_earliestPlace_26 (by decide) (fun c26 => ?_) (fun c26 => ?_)
          · refine lv_iinc (v := (nI (k + 1))) (lv' := [(6, .int (nI (k + 1))), (0, .ref a), (1, .ref o), (3, .int (nI to)), (4, .int (nI i)), (5, .int (nI e0))]) hx hb d_Pattern_earliestPlace_32 hl (k := 5) rfl (nI_1 k) (by decide) rfl (fun ls hl => ?_)
            refine lv_goto (tgt := 3) hx hb d_Pattern_earliestPlace_35 (by decide) ?_
            exact ih (k + 1) (by omega) (by omega) (by omega) (fun k' h1 h2 h3 => by
              by_cases z : k' = k
              · rw [z]; exact fun y => hs1 ⟨y, by omega⟩
              · exact hno k' h1 (by omega) h3) ls (lv_sub hl [1, 2, 3, 4, 5, 0] rfl)
          · exact absurd rfl c26
  exact lp (to + 2) q (by omega) (Nat.le_refl _) (by omega) (fun k' h1 h2 => absurd h1 (by omega)) ls (lv_sub hl [1, 2, 4, 5, 6, 0] rfl)
