set_option maxHeartbeats 4000000 in
set_option maxRecDepth 100000 in
/-- Pattern.earliestEnd(text, from, to, firstItem, itemsEnd) -/
theorem c_Pattern_earliestEnd (l : Launch) (D : va_G) (kA : Nat → ClassId) (Z : Nat → Prop) (a : Nat) (its : List pItem) (o lim : Nat) (bs : List Nat) (q to i0 ie : Nat) (hi0 : i0 ≤ ie) (hie : ie ≤ its.length) (hq : q ≤ to) (hto : to ≤ bs.length) : Met l y_Pattern_earliestEnd (Cond.code y_Pattern_earliestEnd b_Pattern_earliestEnd 9 (some .int) :: zTB) { frames := 3, cells := 0, slots := 0, locals := 74 } (zk_Pc D classes (zTY kA) [.ref a, .ref o, .int (nI q), .int (nI to), .int (nI i0), .int (nI ie)] (fun H => PtAt D kA Z H a its ∧ BsAt D kA Z H o lim bs)) (zk_pE (fun v => ∃ rr, v = .int (zI rr) ∧ pLeast (zT bs) (zIt its) (ie - i0) i0 q to rr)) 0 0 zk_no := by
  refine zk_of [.ref a, .ref o, .int (nI q), .int (nI to), .int (nI i0), .int (nI ie)] (by decide) (Nat.le_of_ble_eq_true rfl) ?_
  intro p e s m below meth c S hr hlk hnm hK hX hpre ls hl
  obtain ⟨hx, hb, hml, hown, ht⟩ := id S
  obtain ⟨hpt, hO⟩ := hpre
  obtain ⟨sa, za, mm, sf, zf, ⟨ha, hsa, hza⟩, hP1, hP2, hP3, hrep⟩ := id hpt
  obtain ⟨r1, r2, r3⟩ := id hrep
  obtain ⟨ro, no, fo, hzo1, hzo2, hO1, hO2, hO3⟩ := id hO
  obtain ⟨g1, g2, g3, g4, g5⟩ := id hO3
  have hl : lv_has ls 9 [(0, .ref a), (1, .ref o), (2, .int (nI q)), (3, .int (nI to)), (4, .int (nI i0)), (5, .int (nI ie))] := hl
  refine lv_iload_n hx hb d_Pattern_earliestEnd_0 rfl (lv_at hl 2 rfl) ?_
  refine lv_istore (lv' := [(6, .int (nI q)), (0, .ref a), (1, .ref o), (2, .int (nI q)), (3, .int (nI to)), (4, .int (nI i0)), (5, .int (nI ie))]) hx hb d_Pattern_earliestEnd_1 hl (by decide) rfl (fun ls hl => ?_)
  refine lv_iload hx hb d_Pattern_earliestEnd_3 (lv_at hl 5 rfl) ?_
  refine lv_istore (lv' := [(7, .int (nI i0)), (6, .int (nI q)), (0, .ref a), (1, .ref o), (2, .int (nI q)), (3, .int (nI to)), (4, .int (nI i0)), (5, .int (nI ie))]) hx hb d_Pattern_earliestEnd_5 hl (by decide) rfl (fun ls hl => ?_)
  have lp : ∀ (fu : Nat) (pl it : Nat), ie + 1 - it < fu → pl ≤ to → i0 ≤ it → it ≤ ie + 1 → ((it ≤ ie ∧ ∀ rr, pLeast (zT bs) (zIt its) (ie - it) it pl to rr → pLeast (zT bs) (zIt its) (ie - i0) i0 q to rr) ∨ (it = ie + 1 ∧ pLeast (zT bs) (zIt its) (ie - i0) i0 q to (some pl))) → ∀ ls : Array Slot, lv_has ls 9 [(0, .ref a), (1, .ref o), (3, .int (nI to)), (5, .int (nI ie)), (6, .int (nI pl)), (7, .int (nI it))] → W p l e { frames := 3, cells := 0, slots := 0, locals := 74 } s m [.ref a, .ref o, .int (nI q), .int (nI to), .int (nI i0), .int (nI ie)].toArray below meth c s.heap [] 0 0 (MQ below (zk_pE (fun v => ∃ rr, v = .int (zI rr) ∧ pLeast (zT bs) (zIt its) (ie - i0) i0 q to rr)) [.ref a, .ref o, .int (nI q), .int (nI to), .int (nI i0), .int (nI ie)].toArray s 0 0 zk_no) (F0 m 7 ls []) := by
    intro fu
    induction fu with
    | zero => intro pl it hn; exact absurd hn (Nat.not_lt_zero _)
    | succ fu ih =>
      intro pl it hn hpl0 hit1 hit2 hinv ls hl
      refine lv_iload hx hb d_Pattern_earliestEnd_7 (lv_at hl 5 rfl) ?_
      refine lv_iload hx hb d_Pattern_earliestEnd_9 (lv_at hl 3 rfl) ?_
      refine lv_icmp_ge (tgt := 73) hx hb d_Pattern_earliestEnd_11 (by decide) (fun c11 => ?_) (fun c11 => ?_)
      · refine lv_iload hx hb d_Pattern_earliestEnd_73 (lv_at hl 4 rfl) ?_
        have hge : ie ≤ it := (nI_leI (by omega) (by omega)).mp c11
        rcases hinv with ⟨z1, z2⟩ | ⟨z1, z2⟩
        · have : it = ie := by omega
          exact zk_retiE S hr hlk ⟨some pl, rfl, z2 _ (by rw [this, Nat.sub_self]; exact pLeast_0 hpl0)⟩ d_Pattern_earliestEnd_75
        · exact zk_retiE S hr hlk ⟨some pl, rfl, z2⟩ d_Pattern_earliestEnd_75
      · have hlt : it < ie := Nat.not_le.mp fun z => c11 (nI_le z (by omega))
        have hinv2 : ∀ rr, pLeast (zT bs) (zIt its) (ie - it) it pl to rr → pLeast (zT bs) (zIt its) (ie - i0) i0 q to rr := by
          rcases hinv with ⟨z1, z2⟩ | ⟨z1, z2⟩
          · exact z2
          · omega
        refine lv_iload hx hb d_Pattern_earliestEnd_14 (lv_at hl 3 rfl) ?_
        refine lv_aload_n hx hb d_Pattern_earliestEnd_16 rfl (lv_at hl 0 rfl) ?_
        refine lv_iload hx hb d_Pattern_earliestEnd_17 (lv_at hl 5 rfl) ?_
        refine zk_pureE (zk_runV (As := [.int (nI it)]) (rest := [.int (nI ie)]) S m_Pattern_71 (c_Pattern_starOrEndFrom l D kA Z a its it (by omega)) rfl rfl ⟨Nat.le_of_ble_eq_true rfl, Nat.le_of_ble_eq_true rfl⟩ hK hX (zk_recv hK hP1 rfl) (hpt) rfl hl.1 rfl (Nat.le_of_ble_eq_true rfl) ⟨Nat.le_of_ble_eq_true rfl, Nat.le_of_ble_eq_true rfl⟩ d_Pattern_earliestEnd_19) (fun v hv => ?_)
        obtain ⟨j, rfl, hj1, hj2, hj3⟩ := hv
        have hj4 : j ≤ it + its.length := by
          by_cases z : j = it
          · omega
          · have := (hj2 (j - 1) (by omega) (by omega)).1
            omega
        refine va_mmin hx hb (by rw [hml]; exact hl.1.symm) hown (ht _ m_Pattern_15) (ht _ m_min_s) (ht _ m_ini_Math) (ht _ m_min_c) (Nat.le_of_ble_eq_true rfl) (Nat.le_of_ble_eq_true rfl) (Nat.le_of_ble_eq_true rfl) (Nat.le_of_ble_eq_true rfl) d_Pattern_earliestEnd_22 ?_
        refine zk_ti (z := nI (min ie j)) (by
          by_cases z : j < ie
          · rw [if_pos (nI_lt z (by omega)), Nat.min_eq_right (by omega)]
          · rw [if_neg (nI_nlt (by omega) (by omega)), Nat.min_eq_left (by omega)]) ?_
        refine lv_istore (lv' := [(8, .int (nI (min ie j))), (0, .ref a), (1, .ref o), (3, .int (nI to)), (5, .int (nI ie)), (6, .int (nI pl)), (7, .int (nI it))]) hx hb d_Pattern_earliestEnd_25 hl (by decide) rfl (fun ls hl => ?_)
        refine lv_aload_n hx hb d_Pattern_earliestEnd_27 rfl (lv_at hl 1 rfl) ?_
        refine lv_aload_n hx hb d_Pattern_earliestEnd_28 rfl (lv_at hl 2 rfl) ?_
        refine lv_iload hx hb d_Pattern_earliestEnd_29 (lv_at hl 5 rfl) ?_
        refine lv_iload_n hx hb d_Pattern_earliestEnd_31 rfl (lv_at hl 3 rfl) ?_
        refine lv_iload hx hb d_Pattern_earliestEnd_32 (lv_at hl 6 rfl) ?_
        refine lv_iload hx hb d_Pattern_earliestEnd_34 (lv_at hl 0 rfl) ?_
        refine zk_pureE (zk_runV (As := [.ref o, .int (nI pl), .int (nI to), .int (nI it), .int (nI (min ie j))]) (rest := []) S m_Pattern_85 (c_Pattern_earliestPlace l D kA Z a its o lim bs pl to it (min ie j) (by omega) (by omega) (by omega) hto (fun k h1 h2 => (hj2 k h1 (by omega)).2)) rfl rfl ⟨Nat.le_of_ble_eq_true rfl, Nat.le_of_ble_eq_true rfl⟩ hK hX (zk_recv hK hP1 rfl) (⟨hpt, hO⟩) rfl hl.1 rfl (Nat.le_of_ble_eq_true rfl) ⟨Nat.le_of_ble_eq_true rfl, Nat.le_of_ble_eq_true rfl⟩ d_Pattern_earliestEnd_36) (fun v hv => ?_)
        rcases hv with ⟨_ | k, rfl, hpl⟩
        · refine zk_top (v' := .int (-1)) rfl ?_
          refine lv_istore (lv' := [(6, .int (-1)), (8, .int (nI (min ie j))), (0, .ref a), (1, .ref o), (3, .int (nI to)), (5, .int (nI ie)), (7, .int (nI it))]) hx hb d_Pattern_earliestEnd_39 hl (by decide) rfl (fun ls hl => ?_)
          refine lv_iload hx hb d_Pattern_earliestEnd_41 (lv_at hl 0 rfl) ?_
          refine lv_iconst (v := (-1)) hx hb d_Pattern_earliestEnd_43 (by decide) ?_
          refine lv_icmp_ne (tgt := 49) hx hb d_Pattern_earliestEnd_44 (by decide) (fun c44 => ?_) (fun c44 => ?_)
          · exact absurd rfl c44
          · refine lv_iconst (v := (-1)) hx hb d_Pattern_earliestEnd_47 (by decide) ?_
            exact zk_retiE S hr hlk ⟨none, rfl, hinv2 none (by
              have := pLeast_no (n := ie - (min ie j)) (fun z hz => (hj2 (it + z) (by omega) (by omega)).2) hpl
              rw [show (min ie j) - it + (ie - (min ie j)) = ie - it by omega] at this
              exact this)⟩ d_Pattern_earliestEnd_48
        · refine zk_top (v' := .int (nI k)) rfl ?_
          obtain ⟨y1, y2, y3, y4⟩ := id hpl
          refine lv_istore (lv' := [(6, .int (nI k)), (8, .int (nI (min ie j))), (0, .ref a), (1, .ref o), (3, .int (nI to)), (5, .int (nI ie)), (7, .int (nI it))]) hx hb d_Pattern_earliestEnd_39 hl (by decide) rfl (fun ls hl => ?_)
          refine lv_iload hx hb d_Pattern_earliestEnd_41 (lv_at hl 0 rfl) ?_
          refine lv_iconst (v := (-1)) hx hb d_Pattern_earliestEnd_43 (by decide) ?_
          refine lv_icmp_ne (tgt := 49) hx hb d_Pattern_earliestEnd_44 (by decide) (fun c44 => ?_) (fun c44 => ?_)
          · refine lv_iload hx hb d_Pattern_earliestEnd_49 (lv_at hl 0 rfl) ?_
            refine lv_iload hx hb d_Pattern_earliestEnd_51 (lv_at hl 1 rfl) ?_
            refine lv_iload hx hb d_Pattern_earliestEnd_53 (lv_at hl 6 rfl) ?_
            refine lv_isub hx hb d_Pattern_earliestEnd_55 ?_
            refine zk_ti (z := nI ((min ie j) - it)) (pk_sub (by omega)) ?_
            refine lv_iadd hx hb d_Pattern_earliestEnd_56 ?_
            refine zk_ti (z := nI (k + ((min ie j) - it))) (nI_add _ _) ?_
            refine lv_istore (lv' := [(6, .int (nI (k + ((min ie j) - it)))), (8, .int (nI (min ie j))), (0, .ref a), (1, .ref o), (3, .int (nI to)), (5, .int (nI ie)), (7, .int (nI it))]) hx hb d_Pattern_earliestEnd_57 hl (by decide) rfl (fun ls hl => ?_)
            refine lv_iload hx hb d_Pattern_earliestEnd_59 (lv_at hl 6 rfl) ?_
            refine lv_iload hx hb d_Pattern_earliestEnd_61 (lv_at hl 1 rfl) ?_
            refine va_mmax hx hb (by rw [hml]; exact hl.1.symm) hown (ht _ m_Pattern_21) (ht _ m_max_s) (ht _ m_ini_Math) (ht _ m_max_c) (Nat.le_of_ble_eq_true rfl) (Nat.le_of_ble_eq_true rfl) (Nat.le_of_ble_eq_true rfl) (Nat.le_of_ble_eq_true rfl) d_Pattern_earliestEnd_63 ?_
            refine zk_ti (z := nI (min ie j)) (by
              by_cases z : it < (min ie j)
              · rw [if_pos (nI_lt z (by omega))]
              · rw [if_neg (nI_nlt (by omega) (by omega)), show (min ie j) = it by omega]) ?_
            refine lv_iconst (v := 1) hx hb d_Pattern_earliestEnd_66 (by decide) ?_
            refine lv_iadd hx hb d_Pattern_earliestEnd_67 ?_
            refine zk_ti (z := nI ((min ie j) + 1)) (nI_1 _) ?_
            refine lv_istore (lv' := [(7, .int (nI ((min ie j) + 1))), (6, .int (nI (k + ((min ie j) - it)))), (8, .int (nI (min ie j))), (0, .ref a), (1, .ref o), (3, .int (nI to)), (5, .int (nI ie))]) hx hb d_Pattern_earliestEnd_68 hl (by decide) rfl (fun ls hl => ?_)
            refine lv_goto (tgt := 7) hx hb d_Pattern_earliestEnd_70 (by decide) ?_
            exact ih (k + ((min ie j) - it)) ((min ie j) + 1) (by omega) (by omega) (by omega) (by omega) (by
              by_cases z : (min ie j) < ie
              · refine Or.inl ⟨by omega, fun rr hrr => hinv2 rr ?_⟩
                have hst : zIt its (it + ((min ie j) - it)) = none := by
                  rw [show it + ((min ie j) - it) = j by omega]
                  rcases hj3 with h9 | h9
                  · omega
                  · exact h9
                have h8 := pLeast_step (n := ie - ((min ie j) + 1)) (r := rr) (fun z9 hz9 => (hj2 (it + z9) (by omega) (by omega)).2) hst hpl (by rw [show it + ((min ie j) - it) + 1 = (min ie j) + 1 by omega]; exact hrr)
                rw [show (min ie j) - it + (ie - ((min ie j) + 1) + 1) = ie - it by omega] at h8
                exact h8
              · refine Or.inr ⟨by omega, hinv2 _ ?_⟩
                have h8 := pLeast_run (fun z9 hz9 => (hj2 (it + z9) (by omega) (by omega)).2) hpl
                rw [show ie - it = (min ie j) - it by omega]
                exact h8) ls (lv_sub hl [3, 4, 5, 6, 1, 0] rfl)
          · exact absurd c44 (zNe1 (by omega))
  exact lp (ie + 2) q i0 (by omega) hq (Nat.le_refl _) (by omega) (Or.inl ⟨hi0, fun _ h => h⟩) ls (lv_sub hl [2, 3, 5, 7, 1, 0] rfl)

set_option maxHeartbeats 4000000 in
set_option maxRecDepth 100000 in
/-- Pattern.shortestBeginning(text) -/
theorem c_Pattern_shortestBeginning (l : Launch) (D : va_G) (kA : Nat → ClassId) (Z : Nat → Prop) (a : Nat) (its : List pItem) (o lim : Nat) (bs : List Nat) : Met l y_Pattern_shortestBeginning (Cond.code y_Pattern_shortestBeginning b_Pattern_shortestBeginning 2 (some .int) :: zTB) { frames := 4, cells := 0, slots := 0, locals := 102 } (zk_Pc D classes (zTY kA) [.ref a, .ref o] (fun H => PtAt D kA Z H a its ∧ BsAt D kA Z H o lim bs)) (zk_pE (fun v => ∃ rr, v = .int (zI rr) ∧ pLeast (zT bs) (zIt its) its.length 0 0 bs.length rr)) 0 0 zk_no := by
  refine zk_of [.ref a, .ref o] (by decide) (Nat.le_of_ble_eq_true rfl) ?_
  intro p e s m below meth c S hr hlk hnm hK hX hpre ls hl
  obtain ⟨hx, hb, hml, hown, ht⟩ := id S
  obtain ⟨hpt, hO⟩ := hpre
  obtain ⟨sa, za, mm, sf, zf, ⟨ha, hsa, hza⟩, hP1, hP2, hP3, hrep⟩ := id hpt
  obtain ⟨r1, r2, r3⟩ := id hrep
  obtain ⟨ro, no, fo, hzo1, hzo2, hO1, hO2, hO3⟩ := id hO
  obtain ⟨g1, g2, g3, g4, g5⟩ := id hO3
  have hl : lv_has ls 2 [(0, .ref a), (1, .ref o)] := hl
  refine lv_aload_n hx hb d_Pattern_shortestBeginning_0 rfl (lv_at hl 0 rfl) ?_
  refine lv_aload_n hx hb d_Pattern_shortestBeginning_1 rfl (lv_at hl 1 rfl) ?_
  refine lv_iconst (v := 0) hx hb d_Pattern_shortestBeginning_2 (by decide) ?_
  refine zk_ti (z := nI 0) (rfl) ?_
  refine lv_aload_n hx hb d_Pattern_shortestBeginning_3 rfl (lv_at hl 1 rfl) ?_
  refine zk_pure (zk_runV (As := []) (rest := [.int (nI 0), .ref o, .ref a]) S m_Pattern_9 (c_Bytes_size l D kA Z o lim bs) rfl rfl ⟨Nat.le_of_ble_eq_true rfl, Nat.le_of_ble_eq_true rfl⟩ hK hX (zk_recv hK hO1 rfl) (hO) rfl hl.1 rfl (Nat.le_of_ble_eq_true rfl) ⟨Nat.le_of_ble_eq_true rfl, Nat.le_of_ble_eq_true rfl⟩ d_Pattern_shortestBeginning_4) ?_
  refine lv_iconst (v := 0) hx hb d_Pattern_shortestBeginning_7 (by decide) ?_
  refine zk_ti (z := nI 0) (rfl) ?_
  refine lv_aload_n hx hb d_Pattern_shortestBeginning_8 rfl (lv_at hl 0 rfl) ?_
  refine zk_get (C := R_Pattern) (T := F_Pattern) (N := 3) S hK hP1 rfl i_Pattern 2 (by decide) m_Pattern_39 rfl rfl d_Pattern_shortestBeginning_9 ?_
  refine zk_pureE (zk_runV (As := [.ref o, .int (nI 0), .int (nI bs.length), .int (nI 0), .int (nI its.length)]) (rest := []) S m_Pattern_81 (c_Pattern_earliestEnd l D kA Z a its o lim bs 0 bs.length 0 its.length (Nat.zero_le _) (Nat.le_refl _) (Nat.zero_le _) (Nat.le_refl _)) rfl rfl ⟨Nat.le_of_ble_eq_true rfl, Nat.le_of_ble_eq_true rfl⟩ hK hX (zk_recv hK hP1 rfl) (⟨hpt, hO⟩) rfl hl.1 rfl (Nat.le_of_ble_eq_true rfl) ⟨Nat.le_of_ble_eq_true rfl, Nat.le_of_ble_eq_true rfl⟩ d_Pattern_shortestBeginning_12) (fun v hv => ?_)
  rcases hv with ⟨rr, rfl, hrr⟩
  · refine zk_top (v' := .int (zI rr)) rfl ?_
    exact zk_retiE S hr hlk ⟨rr, rfl, hrr⟩ d_Pattern_shortestBeginning_15

set_option maxHeartbeats 4000000 in
set_option maxRecDepth 100000 in
/-- Pattern.fitsWhole(text) -/
theorem c_Pattern_fitsWhole (l : Launch) (D : va_G) (kA : Nat → ClassId) (Z : Nat → Prop) (a : Nat) (its : List pItem) (o lim : Nat) (bs : List Nat) : Met l y_Pattern_fitsWhole (Cond.code y_Pattern_fitsWhole b_Pattern_fitsWhole 5 (some .boolean) :: zTB) { frames := 4, cells := 0, slots := 0, locals := 102 } (zk_Pc D classes (zTY kA) [.ref a, .ref o] (fun H => PtAt D kA Z H a its ∧ BsAt D kA Z H o lim bs)) (zk_pE (fun v => (pF (zT bs) (zIt its) its.length 0 0 bs.length ∧ v = .int 1) ∨ (¬ pF (zT bs) (zIt its) its.length 0 0 bs.length ∧ v = .int 0))) 0 0 zk_no := by
  refine zk_of [.ref a, .ref o] (by decide) (Nat.le_of_ble_eq_true rfl) ?_
  intro p e s m below meth c S hr hlk hnm hK hX hpre ls hl
  obtain ⟨hx, hb, hml, hown, ht⟩ := id S
  obtain ⟨hpt, hO⟩ := hpre
  obtain ⟨sa, za, mm, sf, zf, ⟨ha, hsa, hza⟩, hP1, hP2, hP3, hrep⟩ := id hpt
  obtain ⟨r1, r2, r3⟩ := id hrep
  obtain ⟨ro, no, fo, hzo1, hzo2, hO1, hO2, hO3⟩ := id hO
  obtain ⟨g1, g2, g3, g4, g5⟩ := id hO3
  have hl : lv_has ls 5 [(0, .ref a), (1, .ref o)] := hl
  refine lv_aload_n hx hb d_Pattern_fitsWhole_0 rfl (lv_at hl 0 rfl) ?_
  refine lv_iconst (v := 0) hx hb d_Pattern_fitsWhole_1 (by decide) ?_
  refine zk_ti (z := nI 0) (rfl) ?_
  refine zk_pureE (zk_runV (As := [.int (nI 0)]) (rest := []) S m_Pattern_71 (c_Pattern_starOrEndFrom l D kA Z a its 0 (by decide)) rfl rfl ⟨Nat.le_of_ble_eq_true rfl, Nat.le_of_ble_eq_true rfl⟩ hK hX (zk_recv hK hP1 rfl) (hpt) rfl hl.1 rfl (Nat.le_of_ble_eq_true rfl) ⟨Nat.le_of_ble_eq_true rfl, Nat.le_of_ble_eq_true rfl⟩ d_Pattern_fitsWhole_2) (fun v hv => ?_)
  rcases hv with ⟨h0, rfl, hj1, hj2, hj3⟩
  · have hh1 : ∀ k, k < h0 → its.getD k none ≠ none := fun k hk => (hj2 k (Nat.zero_le _) hk).2
    have hle0 : h0 ≤ its.length := by
      by_cases z : h0 = 0
      · omega
      · have := (hj2 (h0 - 1) (Nat.zero_le _) (by omega)).1
        omega
    refine lv_istore_n (lv' := [(2, .int (nI h0)), (0, .ref a), (1, .ref o)]) hx hb d_Pattern_fitsWhole_5 rfl hl (by decide) rfl (fun ls hl => ?_)
    refine lv_iload_n hx hb d_Pattern_fitsWhole_6 rfl (lv_at hl 0 rfl) ?_
    refine lv_aload_n hx hb d_Pattern_fitsWhole_7 rfl (lv_at hl 1 rfl) ?_
    refine zk_get (C := R_Pattern) (T := F_Pattern) (N := 3) S hK hP1 rfl i_Pattern 2 (by decide) m_Pattern_39 rfl rfl d_Pattern_fitsWhole_8 ?_
    refine lv_icmp_ne (tgt := 45) hx hb d_Pattern_fitsWhole_11 (by decide) (fun c11 => ?_) (fun c11 => ?_)
    · have hne : h0 < its.length := by
        by_cases z : h0 = its.length
        · exact absurd (by rw [z]) c11
        · omega
      have hst : its.getD h0 none = none := by
        rcases hj3 with z | z
        · omega
        · exact z
      refine lv_aload_n hx hb d_Pattern_fitsWhole_45 rfl (lv_at hl 1 rfl) ?_
      refine zk_pureE (zk_runV (As := []) (rest := []) S m_Pattern_78 (c_Pattern_behindLastStar l D kA Z a its) rfl rfl ⟨Nat.le_of_ble_eq_true rfl, Nat.le_of_ble_eq_true rfl⟩ hK hX (zk_recv hK hP1 rfl) (hpt) rfl hl.1 rfl (Nat.le_of_ble_eq_true rfl) ⟨Nat.le_of_ble_eq_true rfl, Nat.le_of_ble_eq_true rfl⟩ d_Pattern_fitsWhole_46) (fun v hv => ?_)
      rcases hv with ⟨tl, rfl, htl1, htl2, htl3⟩
      · have hlt2 : h0 < tl := Nat.not_le.mp fun z => htl2 h0 z hne hst
        have htl4 : zIt its (tl - 1) = none := by
          rcases htl3 with z | z
          · omega
          · exact z
        refine lv_istore_n (lv' := [(3, .int (nI tl)), (2, .int (nI h0)), (0, .ref a), (1, .ref o)]) hx hb d_Pattern_fitsWhole_49 rfl hl (by decide) rfl (fun ls hl => ?_)
        refine lv_aload_n hx hb d_Pattern_fitsWhole_50 rfl (lv_at hl 3 rfl) ?_
        refine zk_pure (zk_runV (As := []) (rest := []) S m_Pattern_9 (c_Bytes_size l D kA Z o lim bs) rfl rfl ⟨Nat.le_of_ble_eq_true rfl, Nat.le_of_ble_eq_true rfl⟩ hK hX (zk_recv hK hO1 rfl) (hO) rfl hl.1 rfl (Nat.le_of_ble_eq_true rfl) ⟨Nat.le_of_ble_eq_true rfl, Nat.le_of_ble_eq_true rfl⟩ d_Pattern_fitsWhole_51) ?_
        refine lv_aload_n hx hb d_Pattern_fitsWhole_54 rfl (lv_at hl 2 rfl) ?_
        refine zk_get (C := R_Pattern) (T := F_Pattern) (N := 3) S hK hP1 rfl i_Pattern 2 (by decide) m_Pattern_39 rfl rfl d_Pattern_fitsWhole_55 ?_
        refine lv_iload_n hx hb d_Pattern_fitsWhole_58 rfl (lv_at hl 0 rfl) ?_
        refine lv_isub hx hb d_Pattern_fitsWhole_59 ?_
        refine zk_ti (z := nI (its.length - tl)) (pk_sub (by omega)) ?_
        refine lv_isub hx hb d_Pattern_fitsWhole_60 ?_
        refine lv_istore (lv' := [(4, .int ((nI bs.length) - (nI (its.length - tl)))), (3, .int (nI tl)), (2, .int (nI h0)), (0, .ref a), (1, .ref o)]) hx hb d_Pattern_fitsWhole_61 hl (by decide) rfl (fun ls hl => ?_)
        refine lv_iload_n hx hb d_Pattern_fitsWhole_63 rfl (lv_at hl 2 rfl) ?_
        refine lv_iload hx hb d_Pattern_fitsWhole_64 (lv_at hl 0 rfl) ?_
        refine lv_icmp_gt (tgt := 113) hx hb d_Pattern_fitsWhole_66 (by decide) (fun c66 => ?_) (fun c66 => ?_)
        · refine lv_iconst (v := 0) hx hb d_Pattern_fitsWhole_113 (by decide) ?_
          have hgt : ¬ (its.length - tl ≤ bs.length ∧ h0 ≤ bs.length - (its.length - tl)) := by
            have z := Int32.lt_iff_toInt_lt.mp c66
            rw [pk_sub_toInt (by omega) (by omega), nI_toInt (by omega)] at z
            omega
          exact zk_retzE S hr (by decide) hlk (Or.inr ⟨fun z => hgt (by
            obtain ⟨z1, z2, -⟩ := (pF_whole (t := zT bs) (it := zIt its) (h := h0) (tl := tl) (cnt := its.length) (sz := bs.length) hlt2 htl1 hh1 hst htl4 htl2).mp z
            exact ⟨z1, z2⟩), rfl⟩) d_Pattern_fitsWhole_114
        · have hle : its.length - tl ≤ bs.length ∧ h0 ≤ bs.length - (its.length - tl) := by
            have z := mt Int32.lt_iff_toInt_lt.mpr c66
            rw [pk_sub_toInt (by omega) (by omega), nI_toInt (by omega)] at z
            omega
          refine lv_aload_n hx hb d_Pattern_fitsWhole_69 rfl (lv_at hl 3 rfl) ?_
          refine lv_aload_n hx hb d_Pattern_fitsWhole_70 rfl (lv_at hl 4 rfl) ?_
          refine lv_iconst (v := 0) hx hb d_Pattern_fitsWhole_71 (by decide) ?_
          refine zk_ti (z := nI 0) (rfl) ?_
          refine lv_iconst (v := 0) hx hb d_Pattern_fitsWhole_72 (by decide) ?_
          refine zk_ti (z := nI 0) (rfl) ?_
          refine lv_iload_n hx hb d_Pattern_fitsWhole_73 rfl (lv_at hl 2 rfl) ?_
          refine zk_pureE (zk_runV (As := [.ref o, .int (nI 0), .int (nI 0), .int (nI h0)]) (rest := []) S m_Pattern_74 (c_Pattern_standsAt l D kA Z a its o lim bs 0 0 h0 (Nat.zero_le _) (by omega) (Nat.zero_le _) (fun j _ hj => hh1 j hj)) rfl rfl ⟨Nat.le_of_ble_eq_true rfl, Nat.le_of_ble_eq_true rfl⟩ hK hX (zk_recv hK hP1 rfl) (⟨hpt, hO⟩) rfl hl.1 rfl (Nat.le_of_ble_eq_true rfl) ⟨Nat.le_of_ble_eq_true rfl, Nat.le_of_ble_eq_true rfl⟩ d_Pattern_fitsWhole_74) (fun v hv => ?_)
          rcases hv with ⟨hs1, hs2, rfl⟩ | ⟨hs1, rfl⟩
          · refine lv_if_eq (tgt := 113) hx hb d_Pattern_fitsWhole_77 (by decide) (fun c77 => ?_) (fun c77 => ?_)
            · exact absurd c77 (by decide)
            · refine lv_aload_n hx hb d_Pattern_fitsWhole_80 rfl (lv_at hl 3 rfl) ?_
              refine lv_aload_n hx hb d_Pattern_fitsWhole_81 rfl (lv_at hl 4 rfl) ?_
              refine lv_iload hx hb d_Pattern_fitsWhole_82 (lv_at hl 0 rfl) ?_
              refine lv_iload_n hx hb d_Pattern_fitsWhole_84 rfl (lv_at hl 1 rfl) ?_
              refine lv_aload_n hx hb d_Pattern_fitsWhole_85 rfl (lv_at hl 3 rfl) ?_
              refine zk_get (C := R_Pattern) (T := F_Pattern) (N := 3) S hK hP1 rfl i_Pattern 2 (by decide) m_Pattern_39 rfl rfl d_Pattern_fitsWhole_86 ?_
              refine W.eq (g2 := F0 m 89 ls [.int (nI its.length), .int (nI tl), .int (nI (bs.length - (its.length - tl))), .ref o, .ref a]) (by rw [show nI bs.length - nI (its.length - tl) = nI (bs.length - (its.length - tl)) from pk_sub hle.1]) ?_
              refine zk_pureE (zk_runV (As := [.ref o, .int (nI (bs.length - (its.length - tl))), .int (nI tl), .int (nI its.length)]) (rest := []) S m_Pattern_74 (c_Pattern_standsAt l D kA Z a its o lim bs (bs.length - (its.length - tl)) tl its.length (by omega) (Nat.le_refl _) (by omega) (fun j h1 h2 => htl2 j h1 h2)) rfl rfl ⟨Nat.le_of_ble_eq_true rfl, Nat.le_of_ble_eq_true rfl⟩ hK hX (zk_recv hK hP1 rfl) (⟨hpt, hO⟩) rfl hl.1 rfl (Nat.le_of_ble_eq_true rfl) ⟨Nat.le_of_ble_eq_true rfl, Nat.le_of_ble_eq_true rfl⟩ d_Pattern_fitsWhole_89) (fun v hv => ?_)
              rcases hv with ⟨ht1, ht2, rfl⟩ | ⟨ht1, rfl⟩
              · refine lv_if_eq (tgt := 113) hx hb d_Pattern_fitsWhole_92 (by decide) (fun c92 => ?_) (fun c92 => ?_)
                · exact absurd c92 (by decide)
                · refine lv_aload_n hx hb d_Pattern_fitsWhole_95 rfl (lv_at hl 3 rfl) ?_
                  refine lv_aload_n hx hb d_Pattern_fitsWhole_96 rfl (lv_at hl 4 rfl) ?_
                  refine lv_iload_n hx hb d_Pattern_fitsWhole_97 rfl (lv_at hl 2 rfl) ?_
                  refine lv_iload hx hb d_Pattern_fitsWhole_98 (lv_at hl 0 rfl) ?_
                  refine lv_iload_n hx hb d_Pattern_fitsWhole_100 rfl (lv_at hl 2 rfl) ?_
                  refine lv_iload_n hx hb d_Pattern_fitsWhole_101 rfl (lv_at hl 1 rfl) ?_
                  refine W.eq (g2 := F0 m 102 ls [.int (nI tl), .int (nI h0), .int (nI (bs.length - (its.length - tl))), .int (nI h0), .ref o, .ref a]) (by rw [show nI bs.length - nI (its.length - tl) = nI (bs.length - (its.length - tl)) from pk_sub hle.1]) ?_
                  refine zk_pureE (zk_runV (As := [.ref o, .int (nI h0), .int (nI (bs.length - (its.length - tl))), .int (nI h0), .int (nI tl)]) (rest := []) S m_Pattern_81 (c_Pattern_earliestEnd l D kA Z a its o lim bs h0 (bs.length - (its.length - tl)) h0 tl (by omega) (by omega) (by omega) (by omega)) rfl rfl ⟨Nat.le_of_ble_eq_true rfl, Nat.le_of_ble_eq_true rfl⟩ hK hX (zk_recv hK hP1 rfl) (⟨hpt, hO⟩) rfl hl.1 rfl (Nat.le_of_ble_eq_true rfl) ⟨Nat.le_of_ble_eq_true rfl, Nat.le_of_ble_eq_true rfl⟩ d_Pattern_fitsWhole_102) (fun v hv => ?_)
                  rcases hv with ⟨_ | k, rfl, hpl⟩
                  · refine zk_top (v' := .int (-1)) rfl ?_
                    refine lv_iconst (v := (-1)) hx hb d_Pattern_fitsWhole_105 (by decide) ?_
                    refine lv_icmp_eq (tgt := 113) hx hb d_Pattern_fitsWhole_106 (by decide) (fun c106 => ?_) (fun c106 => ?_)
                    · refine lv_iconst (v := 0) hx hb d_Pattern_fitsWhole_113 (by decide) ?_
                      exact zk_retzE S hr (by decide) hlk (Or.inr ⟨fun z => by
                        obtain ⟨z1, z2, z3, z4, e9, z5, z6⟩ := (pF_whole (t := zT bs) (it := zIt its) (h := h0) (tl := tl) (cnt := its.length) (sz := bs.length) hlt2 htl1 hh1 hst htl4 htl2).mp z
                        exact hpl e9 z5 z6, rfl⟩) d_Pattern_fitsWhole_114
                    · exact absurd rfl c106
                  · refine zk_top (v' := .int (nI k)) rfl ?_
                    refine lv_iconst (v := (-1)) hx hb d_Pattern_fitsWhole_105 (by decide) ?_
                    refine lv_icmp_eq (tgt := 113) hx hb d_Pattern_fitsWhole_106 (by decide) (fun c106 => ?_) (fun c106 => ?_)
                    · exact absurd c106 (zNe1 (by have := hpl.1; omega))
                    · refine lv_iconst (v := 1) hx hb d_Pattern_fitsWhole_109 (by decide) ?_
                      refine lv_goto (tgt := 114) hx hb d_Pattern_fitsWhole_110 (by decide) ?_
                      exact zk_retzE S hr (by decide) hlk (Or.inl ⟨(pF_whole (t := zT bs) (it := zIt its) (h := h0) (tl := tl) (cnt := its.length) (sz := bs.length) hlt2 htl1 hh1 hst htl4 htl2).mpr ⟨hle.1, hle.2, hs1, ht1, k, hpl.1, hpl.2.1⟩, rfl⟩) d_Pattern_fitsWhole_114
              · refine lv_if_eq (tgt := 113) hx hb d_Pattern_fitsWhole_92 (by decide) (fun c92 => ?_) (fun c92 => ?_)
                · refine lv_iconst (v := 0) hx hb d_Pattern_fitsWhole_113 (by decide) ?_
                  exact zk_retzE S hr (by decide) hlk (Or.inr ⟨fun z => ht1 (by
                    obtain ⟨z1, z2, z3, z4, -⟩ := (pF_whole (t := zT bs) (it := zIt its) (h := h0) (tl := tl) (cnt := its.length) (sz := bs.length) hlt2 htl1 hh1 hst htl4 htl2).mp z
                    exact ⟨z4, by omega⟩), rfl⟩) d_Pattern_fitsWhole_114
                · exact absurd rfl c92
          · refine lv_if_eq (tgt := 113) hx hb d_Pattern_fitsWhole_77 (by decide) (fun c77 => ?_) (fun c77 => ?_)
            · refine lv_iconst (v := 0) hx hb d_Pattern_fitsWhole_113 (by decide) ?_
              exact zk_retzE S hr (by decide) hlk (Or.inr ⟨fun z => hs1 (by
                obtain ⟨z1, z2, z3, -⟩ := (pF_whole (t := zT bs) (it := zIt its) (h := h0) (tl := tl) (cnt := its.length) (sz := bs.length) hlt2 htl1 hh1 hst htl4 htl2).mp z
                exact ⟨z3, by omega⟩), rfl⟩) d_Pattern_fitsWhole_114
            · exact absurd rfl c77
    · have hall : h0 = its.length := (nI_eq (by omega) (by omega)).mp c11
      have hrun := pF_run (t := zT bs) (it := zIt its) its.length 0 0 0 bs.length (fun j hj => by rw [Nat.zero_add]; exact hh1 j (by omega))
      rw [Nat.add_zero] at hrun
      refine lv_aload_n hx hb d_Pattern_fitsWhole_14 rfl (lv_at hl 2 rfl) ?_
      refine zk_pure (zk_runV (As := []) (rest := []) S m_Pattern_9 (c_Bytes_size l D kA Z o lim bs) rfl rfl ⟨Nat.le_of_ble_eq_true rfl, Nat.le_of_ble_eq_true rfl⟩ hK hX (zk_recv hK hO1 rfl) (hO) rfl hl.1 rfl (Nat.le_of_ble_eq_true rfl) ⟨Nat.le_of_ble_eq_true rfl, Nat.le_of_ble_eq_true rfl⟩ d_Pattern_fitsWhole_15) ?_
      refine lv_aload_n hx hb d_Pattern_fitsWhole_18 rfl (lv_at hl 1 rfl) ?_
      refine zk_get (C := R_Pattern) (T := F_Pattern) (N := 3) S hK hP1 rfl i_Pattern 2 (by decide) m_Pattern_39 rfl rfl d_Pattern_fitsWhole_19 ?_
      refine lv_icmp_ne (tgt := 43) hx hb d_Pattern_fitsWhole_22 (by decide) (fun c22 => ?_) (fun c22 => ?_)
      · refine lv_iconst (v := 0) hx hb d_Pattern_fitsWhole_43 (by decide) ?_
        exact zk_retzE S hr (by decide) hlk (Or.inr ⟨fun z => absurd (show 0 + its.length = bs.length from (hrun.mp z).2) (fun y => c22 (by rw [show bs.length = its.length by omega])), rfl⟩) d_Pattern_fitsWhole_44
      · have hsz : bs.length = its.length := (nI_eq (by omega) (by omega)).mp c22
        refine lv_aload_n hx hb d_Pattern_fitsWhole_25 rfl (lv_at hl 1 rfl) ?_
        refine lv_aload_n hx hb d_Pattern_fitsWhole_26 rfl (lv_at hl 2 rfl) ?_
        refine lv_iconst (v := 0) hx hb d_Pattern_fitsWhole_27 (by decide) ?_
        refine zk_ti (z := nI 0) (rfl) ?_
        refine lv_iconst (v := 0) hx hb d_Pattern_fitsWhole_28 (by decide) ?_
        refine zk_ti (z := nI 0) (rfl) ?_
        refine lv_aload_n hx hb d_Pattern_fitsWhole_29 rfl (lv_at hl 1 rfl) ?_
        refine zk_get (C := R_Pattern) (T := F_Pattern) (N := 3) S hK hP1 rfl i_Pattern 2 (by decide) m_Pattern_39 rfl rfl d_Pattern_fitsWhole_30 ?_
        refine zk_pureE (zk_runV (As := [.ref o, .int (nI 0), .int (nI 0), .int (nI its.length)]) (rest := []) S m_Pattern_74 (c_Pattern_standsAt l D kA Z a its o lim bs 0 0 its.length (Nat.zero_le _) (Nat.le_refl _) (Nat.zero_le _) (fun j _ hj => hh1 j (by omega))) rfl rfl ⟨Nat.le_of_ble_eq_true rfl, Nat.le_of_ble_eq_true rfl⟩ hK hX (zk_recv hK hP1 rfl) (⟨hpt, hO⟩) rfl hl.1 rfl (Nat.le_of_ble_eq_true rfl) ⟨Nat.le_of_ble_eq_true rfl, Nat.le_of_ble_eq_true rfl⟩ d_Pattern_fitsWhole_33) (fun v hv => ?_)
        rcases hv with ⟨hs1, hs2, rfl⟩ | ⟨hs1, rfl⟩
        · refine lv_if_eq (tgt := 43) hx hb d_Pattern_fitsWhole_36 (by decide) (fun c36 => ?_) (fun c36 => ?_)
          · exact absurd c36 (by decide)
          · refine lv_iconst (v := 1) hx hb d_Pattern_fitsWhole_39 (by decide) ?_
            refine lv_goto (tgt := 44) hx hb d_Pattern_fitsWhole_40 (by decide) ?_
            exact zk_retzE S hr (by decide) hlk (Or.inl ⟨hrun.mpr ⟨hs1, show 0 + its.length = bs.length by omega⟩, rfl⟩) d_Pattern_fitsWhole_44
        · refine lv_if_eq (tgt := 43) hx hb d_Pattern_fitsWhole_36 (by decide) (fun c36 => ?_) (fun c36 => ?_)
          · refine lv_iconst (v := 0) hx hb d_Pattern_fitsWhole_43 (by decide) ?_
            exact zk_retzE S hr (by decide) hlk (Or.inr ⟨fun z => hs1 ⟨(hrun.mp z).1, by omega⟩, rfl⟩) d_Pattern_fitsWhole_44
          · exact absurd rfl c36
