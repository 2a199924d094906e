set_option maxHeartbeats 4000000 in
set_option maxRecDepth 100000 in
/-- Pattern.markStar() -/
theorem c_Pattern_markStar (l : Launch) (D : va_G) (kA : Nat → ClassId) (a sa za mm cnt : Nat) (zf : Nat → Int32) (hc : cnt < mm) (hm : mm ≤ 1024) (sz0 : Nat) : Met l y_Pattern_markStar (Cond.code y_Pattern_markStar b_Pattern_markStar 1 none :: zTB) { frames := 0, cells := 0, slots := 0, locals := 0 } (zk_Pc D classes (zTY kA) [.ref a] (fun H => H.size = sz0 ∧ va_P D classes [(a, .inr (2, [.ref sa, .ref za, .int (nI cnt)])), (za, .inl ((kA 2), mm, .inl zf))] H ∧ va_D (fun _ => True) [(a, .inr (2, [.ref sa, .ref za, .int (nI cnt)])), (za, .inl ((kA 2), mm, .inl zf))])) (zk_mQ (fun v H => v = none ∧ va_P D classes [(a, .inr (2, [.ref sa, .ref za, .int (nI cnt)])), (za, .inl (kA 2, mm, .inl (upd zf cnt 1)))] H ∧ va_D (va_A [(a, .inr (2, [.ref sa, .ref za, .int (nI cnt)])), (za, .inl ((kA 2), mm, .inl zf))] sz0) [(a, .inr (2, [.ref sa, .ref za, .int (nI cnt)])), (za, .inl (kA 2, mm, .inl (upd zf cnt 1)))]) (va_A [(a, .inr (2, [.ref sa, .ref za, .int (nI cnt)])), (za, .inl ((kA 2), mm, .inl zf))] sz0)) 0 0 (va_A [(a, .inr (2, [.ref sa, .ref za, .int (nI cnt)])), (za, .inl ((kA 2), mm, .inl zf))] sz0) := by
  refine zk_of [.ref a] (by decide) (Nat.le_of_ble_eq_true rfl) ?_
  intro p e s m below meth c S hr hlk hnm hK hX hpre ls hl
  obtain ⟨hx, hb, hml, hown, ht⟩ := id S
  have hl : lv_has ls 1 [(0, .ref a)] := hl
  obtain ⟨hsz, hP, hD0⟩ := hpre
  subst hsz
  have hD := hD0.self (sz := s.heap.size)
  generalize hAe : va_A [(a, .inr (2, [.ref sa, .ref za, .int (nI cnt)])), (za, .inl ((kA 2), mm, .inl zf))] s.heap.size = A at hD ⊢
  have hA : ∀ q : Nat, s.heap.size ≤ q → A q := fun q h => by rw [← hAe]; exact Or.inr h
  have hS : va_S A s.heap s.heap [] := va_S.rf
  have hP : va_P D classes [(a, .inr (2, [.ref sa, .ref za, .int (nI cnt)])), (za, .inl ((kA 2), mm, .inl zf))] s.heap := hP
  refine lv_aload_n hx hb d_Pattern_markStar_0 rfl (lv_at hl 0 rfl) ?_
  refine zk_get (C := R_Pattern) (T := F_Pattern) (N := 3) S hK (hP 0 _ rfl) rfl i_Pattern 2 (by decide) m_Pattern_39 rfl rfl d_Pattern_markStar_1 ?_
  refine lv_if_lt (tgt := 29) hx hb d_Pattern_markStar_4 (by decide) (fun c4 => ?_) (fun c4 => ?_)
  · exact absurd c4 (nI_pos (by omega))
  · refine lv_aload_n hx hb d_Pattern_markStar_7 rfl (lv_at hl 0 rfl) ?_
    refine zk_get (C := R_Pattern) (T := F_Pattern) (N := 3) S hK (hP 0 _ rfl) rfl i_Pattern 2 (by decide) m_Pattern_39 rfl rfl d_Pattern_markStar_8 ?_
    refine lv_aload_n hx hb d_Pattern_markStar_11 rfl (lv_at hl 0 rfl) ?_
    refine zk_get (C := R_Pattern) (T := F_Pattern) (N := 3) S hK (hP 0 _ rfl) rfl i_Pattern 1 (by decide) m_Pattern_30 rfl rfl d_Pattern_markStar_12 ?_
    refine zk_alen S hK 2 (hP 1 _ rfl) rfl (v := nI mm) rfl d_Pattern_markStar_15 ?_
    refine lv_icmp_ge (tgt := 29) hx hb d_Pattern_markStar_16 (by decide) (fun c16 => ?_) (fun c16 => ?_)
    · exact absurd c16 (nI_ge (by omega) (by omega))
    · refine lv_aload_n hx hb d_Pattern_markStar_19 rfl (lv_at hl 0 rfl) ?_
      refine zk_get (C := R_Pattern) (T := F_Pattern) (N := 3) S hK (hP 0 _ rfl) rfl i_Pattern 1 (by decide) m_Pattern_30 rfl rfl d_Pattern_markStar_20 ?_
      refine lv_aload_n hx hb d_Pattern_markStar_23 rfl (lv_at hl 0 rfl) ?_
      refine zk_get (C := R_Pattern) (T := F_Pattern) (N := 3) S hK (hP 0 _ rfl) rfl i_Pattern 2 (by decide) m_Pattern_39 rfl rfl d_Pattern_markStar_24 ?_
      refine lv_iconst (v := 1) hx hb d_Pattern_markStar_27 (by decide) ?_
      refine va_zast hx hb hK hP hD hS 1 2 rfl rfl (vp_in_nI (by omega) (by omega)) d_Pattern_markStar_28 (fun H locs hP hD hS => ?_)
      rw [nI_clamp (by omega), show vp_nar .boolean 1 = 1 from rfl] at hP hD
      have hP : va_P D classes [(a, .inr (2, [.ref sa, .ref za, .int (nI cnt)])), (za, .inl ((kA 2), mm, .inl (upd zf cnt 1)))] H := hP
      have hD : va_D A [(a, .inr (2, [.ref sa, .ref za, .int (nI cnt)])), (za, .inl ((kA 2), mm, .inl (upd zf cnt 1)))] := hD
      exact zk_vret S hr hlk hS ⟨rfl, hP, hD⟩ (Nat.le_refl _) (Nat.le_refl _) d_Pattern_markStar_29

set_option maxHeartbeats 4000000 in
set_option maxRecDepth 100000 in
/-- Pattern.allow(low, high) -/
theorem c_Pattern_allow (l : Launch) (D : va_G) (kA : Nat → ClassId) (a sa za mm cnt : Nat) (sf : Nat → Int64) (lo hi : Nat) (hc : cnt < mm) (hm : mm ≤ 1024) (hlo : lo < 256) (hhi : hi < 256) (sz0 : Nat) : Met l y_Pattern_allow (Cond.code y_Pattern_allow b_Pattern_allow 5 none :: zTB) { frames := 1, cells := 0, slots := 0, locals := 13 } (zk_Pc D classes (zTY kA) [.ref a, .int (nI lo), .int (nI hi)] (fun H => H.size = sz0 ∧ va_P D classes [(a, .inr (2, [.ref sa, .ref za, .int (nI cnt)])), (sa, .inl ((kA 1), (mm * 4), .inr (.inl sf)))] H ∧ va_D (fun _ => True) [(a, .inr (2, [.ref sa, .ref za, .int (nI cnt)])), (sa, .inl ((kA 1), (mm * 4), .inr (.inl sf)))])) (zk_mQ (fun v H => v = none ∧ ∃ sf', va_P D classes [(a, .inr (2, [.ref sa, .ref za, .int (nI cnt)])), (sa, .inl (kA 1, mm * 4, .inr (.inl sf')))] H ∧ va_D (va_A [(a, .inr (2, [.ref sa, .ref za, .int (nI cnt)])), (sa, .inl ((kA 1), (mm * 4), .inr (.inl sf)))] sz0) [(a, .inr (2, [.ref sa, .ref za, .int (nI cnt)])), (sa, .inl (kA 1, mm * 4, .inr (.inl sf')))] ∧ ∀ i x, x < 256 → zSb sf' i x = (zSb sf i x || (decide (i = cnt) && (decide (lo ≤ x) && decide (x ≤ hi))))) (va_A [(a, .inr (2, [.ref sa, .ref za, .int (nI cnt)])), (sa, .inl ((kA 1), (mm * 4), .inr (.inl sf)))] sz0)) 0 0 (va_A [(a, .inr (2, [.ref sa, .ref za, .int (nI cnt)])), (sa, .inl ((kA 1), (mm * 4), .inr (.inl sf)))] sz0) := by
  refine zk_of [.ref a, .int (nI lo), .int (nI hi)] (by decide) (Nat.le_of_ble_eq_true rfl) ?_
  intro p e s m below meth c S hr hlk hnm hK hX hpre ls hl
  obtain ⟨hx, hb, hml, hown, ht⟩ := id S
  have hl : lv_has ls 5 [(0, .ref a), (1, .int (nI lo)), (2, .int (nI hi))] := hl
  obtain ⟨hsz, hP, hD0⟩ := hpre
  subst hsz
  have hD := hD0.self (sz := s.heap.size)
  generalize hAe : va_A [(a, .inr (2, [.ref sa, .ref za, .int (nI cnt)])), (sa, .inl ((kA 1), (mm * 4), .inr (.inl sf)))] s.heap.size = A at hD ⊢
  have hA : ∀ q : Nat, s.heap.size ≤ q → A q := fun q h => by rw [← hAe]; exact Or.inr h
  have hS : va_S A s.heap s.heap [] := va_S.rf
  have hP : va_P D classes [(a, .inr (2, [.ref sa, .ref za, .int (nI cnt)])), (sa, .inl ((kA 1), (mm * 4), .inr (.inl sf)))] s.heap := hP
  refine lv_iconst (v := 0) hx hb d_Pattern_allow_0 (by decide) ?_
  refine lv_iload_n hx hb d_Pattern_allow_1 rfl (lv_at hl 1 rfl) ?_
  refine va_mmax hx hb (by rw [hml]; exact hl.1.symm) hown (ht _ m_Pattern_21) (ht _ m_max_s) (ht _ m_ini_Math) (ht _ m_max_c) (Nat.le_of_ble_eq_true rfl) (Nat.le_of_ble_eq_true rfl) (Nat.le_of_ble_eq_true rfl) (Nat.le_of_ble_eq_true rfl) d_Pattern_allow_2 ?_
  refine zk_ti (z := nI lo) (by
    by_cases q0 : lo = 0
    · rw [q0]; rfl
    · exact if_pos (by rw [← nI_0]; exact nI_lt (by omega) (by omega))) ?_
  refine lv_istore_n (lv' := [(3, .int (nI lo)), (0, .ref a), (1, .int (nI lo)), (2, .int (nI hi))]) hx hb d_Pattern_allow_5 rfl hl (by decide) rfl (fun ls hl => ?_)
  have lp : ∀ (fu : Nat) (y : Nat) (s1 : Nat → Int64), 257 - y < fu → lo ≤ y → y ≤ hi + 1 ∨ y = lo → (∀ i x, x < 256 → zSb s1 i x = (zSb sf i x || (decide (i = cnt) && (decide (lo ≤ x) && decide (x < y))))) → ∀ (H : Heap) (locs : List Loc), va_P D classes [(a, .inr (2, [.ref sa, .ref za, .int (nI cnt)])), (sa, .inl ((kA 1), (mm * 4), .inr (.inl s1)))] H → va_D A [(a, .inr (2, [.ref sa, .ref za, .int (nI cnt)])), (sa, .inl ((kA 1), (mm * 4), .inr (.inl s1)))] → va_S A s.heap H locs → ∀ ls : Array Slot, lv_has ls 5 [(0, .ref a), (2, .int (nI hi)), (3, .int (nI y))] → W p l e { frames := 1, cells := 0, slots := 0, locals := 13 } s m [.ref a, .int (nI lo), .int (nI hi)].toArray below meth c H locs 0 0 (MQ below (zk_mQ (fun v H => v = none ∧ ∃ sf', va_P D classes [(a, .inr (2, [.ref sa, .ref za, .int (nI cnt)])), (sa, .inl (kA 1, mm * 4, .inr (.inl sf')))] H ∧ va_D A [(a, .inr (2, [.ref sa, .ref za, .int (nI cnt)])), (sa, .inl (kA 1, mm * 4, .inr (.inl sf')))] ∧ ∀ i x, x < 256 → zSb sf' i x = (zSb sf i x || (decide (i = cnt) && (decide (lo ≤ x) && decide (x ≤ hi))))) A) [.ref a, .int (nI lo), .int (nI hi)].toArray s 0 0 A) (F0 m 6 ls []) := by
    intro fu
    induction fu with
    | zero => intro y s1 hn; exact absurd hn (Nat.not_lt_zero _)
    | succ fu ih =>
      intro y s1 hn hy1 hy2 hs1 H locs hP hD hS ls hl
      refine lv_iload_n hx hb d_Pattern_allow_6 rfl (lv_at hl 2 rfl) ?_
      refine lv_iload_n hx hb d_Pattern_allow_7 rfl (lv_at hl 1 rfl) ?_
      refine lv_icmp_gt (tgt := 63) hx hb d_Pattern_allow_8 (by decide) (fun c8 => ?_) (fun c8 => ?_)
      · have hyh : hi < y := (nI_ltI (by omega) (by omega)).mp c8
        exact zk_vret S hr hlk hS ⟨rfl, s1, hP, hD, fun i x hx => by
          rw [hs1 i x hx]
          congr 2
          by_cases z1 : lo ≤ x
          · by_cases z2 : x ≤ hi
            · simp [z1, z2, show x < y by omega]
            · simp [z2, show ¬ x < y by omega]
          · simp [z1]⟩ (Nat.le_refl _) (Nat.le_refl _) d_Pattern_allow_63
      · have hyh : y ≤ hi := Nat.not_lt.mp fun z => c8 (nI_lt z (by omega))
        refine lv_iload_n hx hb d_Pattern_allow_11 rfl (lv_at hl 2 rfl) ?_
        refine lv_sipush (v := 255) hx hb d_Pattern_allow_12 (by decide) ?_
        refine lv_icmp_gt (tgt := 63) hx hb d_Pattern_allow_15 (by decide) (fun c15 => ?_) (fun c15 => ?_)
        · exact absurd (show nI 255 < nI y from c15) (nI_nlt (by omega) (by omega))
        · refine lv_aload_n hx hb d_Pattern_allow_18 rfl (lv_at hl 0 rfl) ?_
          refine zk_get (C := R_Pattern) (T := F_Pattern) (N := 3) S hK (hP 0 _ rfl) rfl i_Pattern 2 (by decide) m_Pattern_39 rfl rfl d_Pattern_allow_19 ?_
          refine lv_iconst (v := 4) hx hb d_Pattern_allow_22 (by decide) ?_
          refine lv_imul hx hb d_Pattern_allow_23 ?_
          refine zk_ti (z := nI (cnt * 4)) (show nI cnt * nI 4 = _ from pk_mul cnt 4) ?_
          refine lv_iload_n hx hb d_Pattern_allow_24 rfl (lv_at hl 2 rfl) ?_
          refine lv_bipush (v := 6) hx hb d_Pattern_allow_25 (by decide) ?_
          refine lv_ishr hx hb d_Pattern_allow_27 ?_
          refine zk_ti (z := nI (y / 64)) (pk_shrN (by omega) _ 6 (by decide)) ?_
          refine lv_iadd hx hb d_Pattern_allow_28 ?_
          refine zk_ti (z := nI (cnt * 4 + y / 64)) (nI_add _ _) ?_
          refine lv_istore (lv' := [(4, .int (nI (cnt * 4 + y / 64))), (0, .ref a), (2, .int (nI hi)), (3, .int (nI y))]) hx hb d_Pattern_allow_29 hl (by decide) rfl (fun ls hl => ?_)
          refine lv_iload hx hb d_Pattern_allow_31 (lv_at hl 0 rfl) ?_
          refine lv_aload_n hx hb d_Pattern_allow_33 rfl (lv_at hl 1 rfl) ?_
          refine zk_get (C := R_Pattern) (T := F_Pattern) (N := 3) S hK (hP 0 _ rfl) rfl i_Pattern 0 (by decide) m_Pattern_26 rfl rfl d_Pattern_allow_34 ?_
          refine zk_alen S hK 1 (hP 1 _ rfl) rfl (v := nI (mm * 4)) rfl d_Pattern_allow_37 ?_
          refine lv_icmp_ge (tgt := 57) hx hb d_Pattern_allow_38 (by decide) (fun c38 => ?_) (fun c38 => ?_)
          · exact absurd ((nI_leI (by omega) (by omega)).mp c38) (by omega)
          · refine lv_aload_n hx hb d_Pattern_allow_41 rfl (lv_at hl 1 rfl) ?_
            refine zk_get (C := R_Pattern) (T := F_Pattern) (N := 3) S hK (hP 0 _ rfl) rfl i_Pattern 0 (by decide) m_Pattern_26 rfl rfl d_Pattern_allow_42 ?_
            refine lv_iload hx hb d_Pattern_allow_45 (lv_at hl 0 rfl) ?_
            refine lv_dup2_11 hx hb d_Pattern_allow_47 rfl rfl ?_
            refine zk_lald S hK 1 (hP 1 _ rfl) rfl (vp_in_nI (by omega) (by omega)) d_Pattern_allow_48 ?_
            refine zk_tl (z := s1 (cnt * 4 + y / 64)) (by rw [nI_clamp (by omega)]) ?_
            refine lv_lconst (v := 1) hx hb d_Pattern_allow_49 (by decide) ?_
            refine lv_iload_n hx hb d_Pattern_allow_50 rfl (lv_at hl 3 rfl) ?_
            refine lv_bipush (v := 63) hx hb d_Pattern_allow_51 (by decide) ?_
            refine lv_iand hx hb d_Pattern_allow_53 ?_
            refine zk_ti (z := nI (y % 64)) (pk_andN (by omega) 6 (by decide)) ?_
            refine lv_lshl hx hb d_Pattern_allow_54 rfl ?_
            refine zk_tl (z := ((1 : Int64) <<< ((nI (y % 64)).toInt64 &&& 63))) (rfl) ?_
            refine lv_lor hx hb d_Pattern_allow_55 ?_
            refine va_last hx hb hK hP hD hS 1 1 rfl rfl (vp_in_nI (by omega) (by omega)) d_Pattern_allow_56 (fun H locs hP hD hS => ?_)
            rw [nI_clamp (by omega)] at hP hD
            have hP : va_P D classes [(a, .inr (2, [.ref sa, .ref za, .int (nI cnt)])), (sa, .inl ((kA 1), (mm * 4), .inr (.inl (vp_updL s1 (cnt * 4 + y / 64) (s1 (cnt * 4 + y / 64) ||| ((1 : Int64) <<< ((nI (y % 64)).toInt64 &&& 63)))))))] H := hP
            have hD : va_D A [(a, .inr (2, [.ref sa, .ref za, .int (nI cnt)])), (sa, .inl ((kA 1), (mm * 4), .inr (.inl (vp_updL s1 (cnt * 4 + y / 64) (s1 (cnt * 4 + y / 64) ||| ((1 : Int64) <<< ((nI (y % 64)).toInt64 &&& 63)))))))] := hD
            refine lv_iinc (v := (nI (y + 1))) (lv' := [(3, .int (nI (y + 1))), (4, .int (nI (cnt * 4 + y / 64))), (0, .ref a), (2, .int (nI hi))]) hx hb d_Pattern_allow_57 hl (k := 3) rfl (nI_1 y) (by decide) rfl (fun ls hl => ?_)
            refine lv_goto (tgt := 6) hx hb d_Pattern_allow_60 (by decide) ?_
            exact ih (y + 1) (vp_updL s1 (cnt * 4 + y / 64) (s1 (cnt * 4 + y / 64) ||| ((1 : Int64) <<< ((nI (y % 64)).toInt64 &&& 63)))) (by omega) (by omega) (by omega) (fun i x hx => by
              rw [zSb_upd (by omega) hx, hs1 i x hx, Bool.or_assoc]
              congr 1
              by_cases z0 : i = cnt
              · by_cases z1 : x = y
                · simp [z0, z1, show lo ≤ y by omega]
                · by_cases z2 : x < y
                  · simp [z0, z1, z2, show x < y + 1 by omega]
                  · simp [z0, z1, z2, show ¬ x < y + 1 by omega]
              · simp [z0]) _ _ (hP.sub [0, 1] rfl) (hD.sub [0, 1] (by decide) rfl) hS ls (lv_sub hl [2, 3, 0] rfl)
  exact lp 258 lo sf (by omega) (Nat.le_refl _) (Or.inr rfl) (fun i x hx => by
    by_cases z : lo ≤ x
    · simp [z, show ¬ x < lo by omega]
    · simp [z]) _ _ (hP.sub [0, 1] rfl) (hD.sub [0, 1] (by decide) rfl) hS ls (lv_sub hl [1, 3, 0] rfl)
