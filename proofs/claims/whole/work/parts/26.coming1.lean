set_option maxHeartbeats 4000000 in
set_option maxRecDepth 100000 in
/-- Coming.size() -/
theorem c_Coming_size (l : Launch) (D : va_G) (kA : Nat → ClassId) (a tm an k : Nat) : Met l y_Coming_size (Cond.code y_Coming_size b_Coming_size 1 (some .int) :: zTB) { frames := 0, cells := 0, slots := 0, locals := 0 } (zk_Pc D classes (zTY kA) [.ref a] (fun H => va_at D classes (a, .inr (1, [.ref tm, .ref an, .int (nI k)])) H)) (zk_pQ (some (Value.int (nI k)))) 0 0 zk_no := by
  refine zk_of [.ref a] (by decide) (Nat.le_of_ble_eq_true rfl) ?_
  intro p e s m below meth c S hr hlk hnm hK hX hpre ls hl
  obtain ⟨hx, hb, hml, hown, ht⟩ := id S
  have hl : lv_has ls 1 [(0, .ref a)] := hl
  refine lv_aload_n hx hb d_Coming_size_0 rfl (lv_at hl 0 rfl) ?_
  refine zk_get (C := R_Coming) (T := F_Coming) (N := 3) S hK hpre rfl i_Coming 2 (by decide) m_Coming_21 rfl rfl d_Coming_size_1 ?_
  exact zk_reti S hr hlk d_Coming_size_4

set_option maxHeartbeats 4000000 in
set_option maxRecDepth 100000 in
/-- Coming.first() -/
theorem c_Coming_first (l : Launch) (D : va_G) (kA : Nat → ClassId) (a tm an k : Nat) (g : Nat → Option Nat) (hk : k < 2 ^ 31) : Met l y_Coming_first (Cond.code y_Coming_first b_Coming_first 1 (some (.object "PeerLine$Bytes")) :: zTB) { frames := 0, cells := 0, slots := 0, locals := 0 } (zk_Pc D classes (zTY kA) [.ref a] (fun H => va_at D classes (a, .inr (1, [.ref tm, .ref an, .int (nI k)])) H ∧ va_at D classes (an, .inl (kA 5, 64, .inr (.inr (.inr (.inr g))))) H)) (zk_pQ (some (if 0 < k then va_rf (g 0) else Value.null))) 0 0 zk_no := by
  refine zk_of [.ref a] (by decide) (Nat.le_of_ble_eq_true rfl) ?_
  intro p e s m below meth c S hr hlk hnm hK hX hpre ls hl
  obtain ⟨hx, hb, hml, hown, ht⟩ := id S
  obtain ⟨hP1, hP2⟩ := hpre
  have hl : lv_has ls 1 [(0, .ref a)] := hl
  refine lv_aload_n hx hb d_Coming_first_0 rfl (lv_at hl 0 rfl) ?_
  refine zk_get (C := R_Coming) (T := F_Coming) (N := 3) S hK hP1 rfl i_Coming 2 (by decide) m_Coming_21 rfl rfl d_Coming_first_1 ?_
  refine lv_if_le (tgt := 16) hx hb d_Coming_first_4 (by decide) (fun c4 => ?_) (fun c4 => ?_)
  · refine lv_null hx hb d_Coming_first_16 ?_
    refine zk_top (v' := if 0 < k then va_rf (g 0) else Value.null) (if_neg (fun hh => absurd c4 (nI_nle hh hk))).symm ?_
    exact zk_reta S hr ⟨_, rfl⟩ (by
      by_cases q : 0 < k
      · rw [if_pos q]
        cases g 0 with
        | none => exact Or.inl rfl
        | some z => exact Or.inr ⟨z, rfl⟩
      · rw [if_neg q]; exact Or.inl rfl) hlk d_Coming_first_17
  · refine lv_aload_n hx hb d_Coming_first_7 rfl (lv_at hl 0 rfl) ?_
    refine zk_get (C := R_Coming) (T := F_Coming) (N := 3) S hK hP1 rfl i_Coming 1 (by decide) m_Coming_17 rfl rfl d_Coming_first_8 ?_
    refine lv_iconst (v := 0) hx hb d_Coming_first_11 (by decide) ?_
    refine zk_aald S hK 5 hP2 rfl (by unfold vp_in; decide) d_Coming_first_12 ?_
    refine zk_top (v' := va_rf (g 0)) (rfl) ?_
    refine lv_goto (tgt := 17) hx hb d_Coming_first_13 (by decide) ?_
    refine zk_top (v' := if 0 < k then va_rf (g 0) else Value.null) (if_pos (by
      by_cases q : k = 0
      · exact absurd (by rw [q]; decide) c4
      · omega)).symm ?_
    exact zk_reta S hr ⟨_, rfl⟩ (by
      by_cases q : 0 < k
      · rw [if_pos q]
        cases g 0 with
        | none => exact Or.inl rfl
        | some z => exact Or.inr ⟨z, rfl⟩
      · rw [if_neg q]; exact Or.inl rfl) hlk d_Coming_first_17

set_option maxHeartbeats 4000000 in
set_option maxRecDepth 100000 in
/-- Coming.firstTime() -/
theorem c_Coming_firstTime (l : Launch) (D : va_G) (kA : Nat → ClassId) (a tm an k : Nat) (f : Nat → Int64) (hk : k < 2 ^ 31) : Met l y_Coming_firstTime (Cond.code y_Coming_firstTime b_Coming_firstTime 1 (some .long) :: zTB) { frames := 0, cells := 0, slots := 0, locals := 0 } (zk_Pc D classes (zTY kA) [.ref a] (fun H => va_at D classes (a, .inr (1, [.ref tm, .ref an, .int (nI k)])) H ∧ va_at D classes (tm, .inl (kA 1, 64, .inr (.inl f))) H)) (zk_pQ (some (Value.long (if 0 < k then f 0 else 0)))) 0 0 zk_no := by
  refine zk_of [.ref a] (by decide) (Nat.le_of_ble_eq_true rfl) ?_
  intro p e s m below meth c S hr hlk hnm hK hX hpre ls hl
  obtain ⟨hx, hb, hml, hown, ht⟩ := id S
  obtain ⟨hP1, hP2⟩ := hpre
  have hl : lv_has ls 1 [(0, .ref a)] := hl
  refine lv_aload_n hx hb d_Coming_firstTime_0 rfl (lv_at hl 0 rfl) ?_
  refine zk_get (C := R_Coming) (T := F_Coming) (N := 3) S hK hP1 rfl i_Coming 2 (by decide) m_Coming_21 rfl rfl d_Coming_firstTime_1 ?_
  refine lv_if_le (tgt := 16) hx hb d_Coming_firstTime_4 (by decide) (fun c4 => ?_) (fun c4 => ?_)
  · refine lv_lconst (v := 0) hx hb d_Coming_firstTime_16 (by decide) ?_
    refine zk_tl (z := if 0 < k then f 0 else 0) (if_neg (fun hh => absurd c4 (nI_nle hh hk))).symm ?_
    exact zk_retl S hr hlk d_Coming_firstTime_17
  · refine lv_aload_n hx hb d_Coming_firstTime_7 rfl (lv_at hl 0 rfl) ?_
    refine zk_get (C := R_Coming) (T := F_Coming) (N := 3) S hK hP1 rfl i_Coming 0 (by decide) m_Coming_9 rfl rfl d_Coming_firstTime_8 ?_
    refine lv_iconst (v := 0) hx hb d_Coming_firstTime_11 (by decide) ?_
    refine zk_lald S hK 1 hP2 rfl (by unfold vp_in; decide) d_Coming_firstTime_12 ?_
    refine lv_goto (tgt := 17) hx hb d_Coming_firstTime_13 (by decide) ?_
    refine zk_tl (z := if 0 < k then f 0 else 0) (if_pos (by
      by_cases q : k = 0
      · exact absurd (by rw [q]; decide) c4
      · omega)).symm ?_
    exact zk_retl S hr hlk d_Coming_firstTime_17

set_option maxHeartbeats 4000000 in
set_option maxRecDepth 100000 in
/-- Coming() -/
theorem c_Coming_init (l : Launch) (D : va_G) (kA : Nat → ClassId) (a : Nat) (sz0 : Nat) : Met l y_Coming_init (Cond.code y_Coming_init b_Coming_init 1 none :: zTB) { frames := 1, cells := 2, slots := 128, locals := 12 } (zk_Pc D classes (zTY kA) [.ref a] (fun H => H.size = sz0 ∧ va_P D classes [(a, .inr (1, [.null, .null, .int 0]))] H ∧ va_D (fun _ => True) [(a, .inr (1, [.null, .null, .int 0]))])) (zk_mQ (fun v H => v = none ∧ ∃ tm an, CoPost D kA (va_A [(a, .inr (1, [.null, .null, .int 0]))] sz0) H a tm an []) (va_A [(a, .inr (1, [.null, .null, .int 0]))] sz0)) 2 128 (va_A [(a, .inr (1, [.null, .null, .int 0]))] sz0) := by
  refine zk_of [.ref a] (by decide) (Nat.le_of_ble_eq_true rfl) ?_
  intro p e s m below meth c S hr hlk hnm hK hX hpre ls hl
  obtain ⟨hx, hb, hml, hown, ht⟩ := id S
  have hl : lv_has ls 1 [(0, .ref a)] := hl
  obtain ⟨hsz, hP, hD0⟩ := hpre
  subst hsz
  have hD := hD0.self (sz := s.heap.size)
  generalize hAe : va_A [(a, .inr (1, [.null, .null, .int 0]))] s.heap.size = A at hD ⊢
  have hA : ∀ q : Nat, s.heap.size ≤ q → A q := fun q h => by rw [← hAe]; exact Or.inr h
  have hS : va_S A s.heap s.heap [] := va_S.rf
  have hP : va_P D classes [(a, .inr (1, [.null, .null, .int 0]))] s.heap := hP
  refine lv_aload_n hx hb d_Coming_init_0 rfl (lv_at hl 0 rfl) ?_
  refine W.objInit hx hb hown (ht _ m_Coming_3) (ht _ m_obj_i) (ht _ m_obj_c) rfl (by rw [hml]; exact hl.1) rfl d_Coming_init_1 (Nat.le_of_ble_eq_true rfl) (Nat.le_of_ble_eq_true rfl) ?_
  refine W.eq (g2 := F0 m 4 ls []) rfl ?_
  refine lv_aload_n hx hb d_Coming_init_4 rfl (lv_at hl 0 rfl) ?_
  refine lv_bipush (v := 64) hx hb d_Coming_init_5 (by decide) ?_
  refine zk_newa (a0 := (64, .inr (.inl (fun _ => 0)))) (N' := 64) S m_arr_long rfl (fun _ h => by cases h) hK 1 rfl hP hD hS hA (fun _ => rfl) (by decide) (rfl) (by show 64 * 8 ≤ 536870912; omega) (Nat.le_of_ble_eq_true rfl) (Nat.le_of_ble_eq_true rfl) d_Coming_init_7 (fun tm H hP hD hS => ?_)
  have hP : va_P D classes [(a, .inr (1, [.null, .null, .int 0])), (tm, .inl ((kA 1), 64, .inr (.inl (fun _ => 0))))] H := hP
  have hD : va_D A [(a, .inr (1, [.null, .null, .int 0])), (tm, .inl ((kA 1), 64, .inr (.inl (fun _ => 0))))] := hD
  refine va_putF (D := D) (ci := 1) (v := .ref tm) (ty := (.array .long)) (C := R_Coming) (T := F_Coming) (N := 3) hx hb ht i_Coming t_Coming t_Coming_ok n_Coming hown hK hP hD hS 0 rfl rfl 0 (by decide) (ht _ m_Coming_9) (fun _ h9 => h9) rfl hnm rfl (by decide +kernel) rfl rfl (Nat.le_of_ble_eq_true rfl) d_Coming_init_9 (fun H locs hP hD hS => ?_)
  have hP : va_P D classes [(a, .inr (1, [.ref tm, .null, .int 0])), (tm, .inl ((kA 1), 64, .inr (.inl (fun _ => 0))))] H := hP
  have hD : va_D A [(a, .inr (1, [.ref tm, .null, .int 0])), (tm, .inl ((kA 1), 64, .inr (.inl (fun _ => 0))))] := hD
  refine lv_aload_n hx hb d_Coming_init_12 rfl (lv_at hl 0 rfl) ?_
  refine lv_bipush (v := 64) hx hb d_Coming_init_13 (by decide) ?_
  refine zk_newq (N' := 64) S m_Coming_15 (hX.2.2) hK 5 rfl hP hD hS hA (by decide) (rfl) (by decide) (Nat.le_of_ble_eq_true rfl) (Nat.le_of_ble_eq_true rfl) d_Coming_init_15 (fun an H hP hD hS => ?_)
  have hP : va_P D classes [(a, .inr (1, [.ref tm, .null, .int 0])), (tm, .inl ((kA 1), 64, .inr (.inl (fun _ => 0)))), (an, .inl ((kA 5), 64, .inr (.inr (.inr (.inr (fun _ => none))))))] H := hP
  have hD : va_D A [(a, .inr (1, [.ref tm, .null, .int 0])), (tm, .inl ((kA 1), 64, .inr (.inl (fun _ => 0)))), (an, .inl ((kA 5), 64, .inr (.inr (.inr (.inr (fun _ => none))))))] := hD
  refine va_putF (D := D) (ci := 1) (v := .ref an) (ty := (.array (.object "PeerLine$Bytes"))) (C := R_Coming) (T := F_Coming) (N := 3) hx hb ht i_Coming t_Coming t_Coming_ok n_Coming hown hK hP hD hS 0 rfl rfl 1 (by decide) (ht _ m_Coming_17) (fun _ h9 => h9) rfl hnm rfl (by decide +kernel) rfl rfl (Nat.le_of_ble_eq_true rfl) d_Coming_init_18 (fun H locs hP hD hS => ?_)
  have hP : va_P D classes [(a, .inr (1, [.ref tm, .ref an, .int 0])), (tm, .inl ((kA 1), 64, .inr (.inl (fun _ => 0)))), (an, .inl ((kA 5), 64, .inr (.inr (.inr (.inr (fun _ => none))))))] H := hP
  have hD : va_D A [(a, .inr (1, [.ref tm, .ref an, .int 0])), (tm, .inl ((kA 1), 64, .inr (.inl (fun _ => 0)))), (an, .inl ((kA 5), 64, .inr (.inr (.inr (.inr (fun _ => none))))))] := hD
  refine lv_aload_n hx hb d_Coming_init_21 rfl (lv_at hl 0 rfl) ?_
  refine lv_iconst (v := 0) hx hb d_Coming_init_22 (by decide) ?_
  refine va_put (D := D) (ci := 1) (v := .int 0) (ty := .int) (C := R_Coming) (T := F_Coming) (N := 3) hx hb ht i_Coming t_Coming t_Coming_ok n_Coming hown hK hP hD hS 0 rfl rfl 2 (by decide) (ht _ m_Coming_21) (fun _ h9 => h9) rfl (by decide +kernel) rfl rfl (Nat.le_of_ble_eq_true rfl) d_Coming_init_23 (fun H locs hP hD hS => ?_)
  have hP : va_P D classes [(a, .inr (1, [.ref tm, .ref an, .int 0])), (tm, .inl ((kA 1), 64, .inr (.inl (fun _ => 0)))), (an, .inl ((kA 5), 64, .inr (.inr (.inr (.inr (fun _ => none))))))] H := hP
  have hD : va_D A [(a, .inr (1, [.ref tm, .ref an, .int 0])), (tm, .inl ((kA 1), 64, .inr (.inl (fun _ => 0)))), (an, .inl ((kA 5), 64, .inr (.inr (.inr (.inr (fun _ => none))))))] := hD
  exact zk_vret S hr hlk hS ⟨rfl, tm, an, _, _, hP, hD, fun i hi => absurd hi (Nat.not_lt_zero i)⟩ (Nat.le_refl _) (Nat.le_refl _) d_Coming_init_26

set_option maxHeartbeats 4000000 in
set_option maxRecDepth 100000 in
/-- Coming.clear() -/
theorem c_Coming_clear (l : Launch) (D : va_G) (kA : Nat → ClassId) (a tm an : Nat) (f : Nat → Int64) (g : Nat → Option Nat) (cq : List (Nat × Nat)) (sz0 : Nat) : Met l y_Coming_clear (Cond.code y_Coming_clear b_Coming_clear 1 none :: zTB) { frames := 0, cells := 0, slots := 0, locals := 0 } (zk_Pc D classes (zTY kA) [.ref a] (fun H => H.size = sz0 ∧ va_P D classes [(a, .inr (1, [.ref tm, .ref an, .int (nI cq.length)])), (tm, .inl ((kA 1), 64, .inr (.inl f))), (an, .inl ((kA 5), 64, .inr (.inr (.inr (.inr g)))))] H ∧ va_D (fun _ => True) [(a, .inr (1, [.ref tm, .ref an, .int (nI cq.length)])), (tm, .inl ((kA 1), 64, .inr (.inl f))), (an, .inl ((kA 5), 64, .inr (.inr (.inr (.inr g)))))])) (zk_mQ (fun v H => v = none ∧ CoPost D kA (va_A [(a, .inr (1, [.ref tm, .ref an, .int (nI cq.length)])), (tm, .inl ((kA 1), 64, .inr (.inl f))), (an, .inl ((kA 5), 64, .inr (.inr (.inr (.inr g)))))] sz0) H a tm an []) (va_A [(a, .inr (1, [.ref tm, .ref an, .int (nI cq.length)])), (tm, .inl ((kA 1), 64, .inr (.inl f))), (an, .inl ((kA 5), 64, .inr (.inr (.inr (.inr g)))))] sz0)) 0 0 (va_A [(a, .inr (1, [.ref tm, .ref an, .int (nI cq.length)])), (tm, .inl ((kA 1), 64, .inr (.inl f))), (an, .inl ((kA 5), 64, .inr (.inr (.inr (.inr g)))))] sz0) := by
  refine zk_of [.ref a] (by decide) (Nat.le_of_ble_eq_true rfl) ?_
  intro p e s m below meth c S hr hlk hnm hK hX hpre ls hl
  obtain ⟨hx, hb, hml, hown, ht⟩ := id S
  have hl : lv_has ls 1 [(0, .ref a)] := hl
  obtain ⟨hsz, hP, hD0⟩ := hpre
  subst hsz
  have hD := hD0.self (sz := s.heap.size)
  generalize hAe : va_A [(a, .inr (1, [.ref tm, .ref an, .int (nI cq.length)])), (tm, .inl ((kA 1), 64, .inr (.inl f))), (an, .inl ((kA 5), 64, .inr (.inr (.inr (.inr g)))))] s.heap.size = A at hD ⊢
  have hA : ∀ q : Nat, s.heap.size ≤ q → A q := fun q h => by rw [← hAe]; exact Or.inr h
  have hS : va_S A s.heap s.heap [] := va_S.rf
  have hP : va_P D classes [(a, .inr (1, [.ref tm, .ref an, .int (nI cq.length)])), (tm, .inl ((kA 1), 64, .inr (.inl f))), (an, .inl ((kA 5), 64, .inr (.inr (.inr (.inr g)))))] s.heap := hP
  refine lv_aload_n hx hb d_Coming_clear_0 rfl (lv_at hl 0 rfl) ?_
  refine lv_iconst (v := 0) hx hb d_Coming_clear_1 (by decide) ?_
  refine va_put (D := D) (ci := 1) (v := .int 0) (ty := .int) (C := R_Coming) (T := F_Coming) (N := 3) hx hb ht i_Coming t_Coming t_Coming_ok n_Coming hown hK hP hD hS 0 rfl rfl 2 (by decide) (ht _ m_Coming_21) (fun _ h9 => h9) rfl (by decide +kernel) rfl rfl (Nat.le_of_ble_eq_true rfl) d_Coming_clear_2 (fun H locs hP hD hS => ?_)
  have hP : va_P D classes [(a, .inr (1, [.ref tm, .ref an, .int 0])), (tm, .inl ((kA 1), 64, .inr (.inl f))), (an, .inl ((kA 5), 64, .inr (.inr (.inr (.inr g)))))] H := hP
  have hD : va_D A [(a, .inr (1, [.ref tm, .ref an, .int 0])), (tm, .inl ((kA 1), 64, .inr (.inl f))), (an, .inl ((kA 5), 64, .inr (.inr (.inr (.inr g)))))] := hD
  exact zk_vret S hr hlk hS ⟨rfl, f, g, hP, hD, fun i hi => absurd hi (Nat.not_lt_zero i)⟩ (Nat.le_refl _) (Nat.le_refl _) d_Coming_clear_5
