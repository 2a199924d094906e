set_option maxHeartbeats 4000000 in
set_option maxRecDepth 100000 in
/-- PatternReader(source, length) -/
theorem c_Reader_init (l : Launch) (D : va_G) (kA : Nat → ClassId) (a o n : Nat) (sz0 : Nat) : Met l y_Reader_init (Cond.code y_Reader_init b_Reader_init 3 none :: zTB) { frames := 1, cells := 0, slots := 0, locals := 12 } (zk_Pc D classes (zTY kA) [.ref a, .ref o, .int (nI n)] (fun H => H.size = sz0 ∧ va_P D classes [(a, .inr (3, [.null, .int 0, .int 0]))] H ∧ va_D (fun _ => True) [(a, .inr (3, [.null, .int 0, .int 0]))])) (zk_mQ (fun v H => v = none ∧ va_P D classes [(a, .inr (3, [.ref o, .int (nI n), .int (nI 0)]))] H ∧ va_D (va_A [(a, .inr (3, [.null, .int 0, .int 0]))] sz0) [(a, .inr (3, [.ref o, .int (nI n), .int (nI 0)]))]) (va_A [(a, .inr (3, [.null, .int 0, .int 0]))] sz0)) 0 0 (va_A [(a, .inr (3, [.null, .int 0, .int 0]))] sz0) := by
  refine zk_of [.ref a, .ref o, .int (nI n)] (by decide) (Nat.le_of_ble_eq_true rfl) ?_
  intro p e s m below meth c S hr hlk hnm hK hX hpre ls hl
  obtain ⟨hx, hb, hml, hown, ht⟩ := id S
  have hl : lv_has ls 3 [(0, .ref a), (1, .ref o), (2, .int (nI n))] := hl
  obtain ⟨hsz, hP, hD0⟩ := hpre
  subst hsz
  have hD := hD0.self (sz := s.heap.size)
  generalize hAe : va_A [(a, .inr (3, [.null, .int 0, .int 0]))] s.heap.size = A at hD ⊢
  have hA : ∀ q : Nat, s.heap.size ≤ q → A q := fun q h => by rw [← hAe]; exact Or.inr h
  have hS : va_S A s.heap s.heap [] := va_S.rf
  have hP : va_P D classes [(a, .inr (3, [.null, .int 0, .int 0]))] s.heap := hP
  refine lv_aload_n hx hb d_Reader_init_0 rfl (lv_at hl 0 rfl) ?_
  refine W.objInit hx hb hown (ht _ m_Reader_3) (ht _ m_obj_i) (ht _ m_obj_c) rfl (by rw [hml]; exact hl.1) rfl d_Reader_init_1 (Nat.le_of_ble_eq_true rfl) (Nat.le_of_ble_eq_true rfl) ?_
  refine W.eq (g2 := F0 m 4 ls []) rfl ?_
  refine lv_aload_n hx hb d_Reader_init_4 rfl (lv_at hl 0 rfl) ?_
  refine lv_aload_n hx hb d_Reader_init_5 rfl (lv_at hl 1 rfl) ?_
  refine va_putF (D := D) (ci := 3) (v := .ref o) (ty := .object "PeerLine$Bytes") (C := R_Reader) (T := F_Reader) (N := 3) hx hb ht i_Reader t_Reader t_Reader_ok n_Reader hown hK hP hD hS 0 rfl rfl 0 (by decide) (ht _ m_Reader_9) (fun _ h9 => h9) rfl hnm rfl (by decide +kernel) rfl rfl (Nat.le_of_ble_eq_true rfl) d_Reader_init_6 (fun H locs hP hD hS => ?_)
  have hP : va_P D classes [(a, .inr (3, [.ref o, .int 0, .int 0]))] H := hP
  have hD : va_D A [(a, .inr (3, [.ref o, .int 0, .int 0]))] := hD
  refine lv_aload_n hx hb d_Reader_init_9 rfl (lv_at hl 0 rfl) ?_
  refine lv_iload_n hx hb d_Reader_init_10 rfl (lv_at hl 2 rfl) ?_
  refine va_putF (D := D) (ci := 3) (v := .int (nI n)) (ty := .int) (C := R_Reader) (T := F_Reader) (N := 3) hx hb ht i_Reader t_Reader t_Reader_ok n_Reader hown hK hP hD hS 0 rfl rfl 1 (by decide) (ht _ m_Reader_15) (fun _ h9 => h9) rfl hnm rfl (by decide +kernel) rfl rfl (Nat.le_of_ble_eq_true rfl) d_Reader_init_11 (fun H locs hP hD hS => ?_)
  have hP : va_P D classes [(a, .inr (3, [.ref o, .int (nI n), .int 0]))] H := hP
  have hD : va_D A [(a, .inr (3, [.ref o, .int (nI n), .int 0]))] := hD
  refine lv_aload_n hx hb d_Reader_init_14 rfl (lv_at hl 0 rfl) ?_
  refine lv_iconst (v := 0) hx hb d_Reader_init_15 (by decide) ?_
  refine zk_ti (z := nI 0) (rfl) ?_
  refine va_put (D := D) (ci := 3) (v := .int (nI 0)) (ty := .int) (C := R_Reader) (T := F_Reader) (N := 3) hx hb ht i_Reader t_Reader t_Reader_ok n_Reader hown hK hP hD hS 0 rfl rfl 2 (by decide) (ht _ m_Reader_19) (fun _ h9 => h9) rfl (by decide +kernel) rfl rfl (Nat.le_of_ble_eq_true rfl) d_Reader_init_16 (fun H locs hP hD hS => ?_)
  have hP : va_P D classes [(a, .inr (3, [.ref o, .int (nI n), .int (nI 0)]))] H := hP
  have hD : va_D A [(a, .inr (3, [.ref o, .int (nI n), .int (nI 0)]))] := hD
  exact zk_vret S hr hlk hS ⟨rfl, hP, hD⟩ (Nat.le_refl _) (Nat.le_refl _) d_Reader_init_19

set_option maxHeartbeats 4000000 in
set_option maxRecDepth 100000 in
/-- PatternReader.ahead(distance) -/
theorem c_Reader_ahead (l : Launch) (D : va_G) (kA : Nat → ClassId) (Z : Nat → Prop) (a o lim n p0 k : Nat) (bs : List Nat) (hn : n ≤ bs.length) (hp : p0 < 2 ^ 20) (hk : k < 2 ^ 20) : Met l y_Reader_ahead (Cond.code y_Reader_ahead b_Reader_ahead 2 (some .int) :: zTB) { frames := 1, cells := 0, slots := 0, locals := 21 } (zk_Pc D classes (zTY kA) [.ref a, .int (nI k)] (fun H => va_at D classes (a, .inr (3, [.ref o, .int (nI n), .int (nI p0)])) H ∧ BsAt D kA Z H o lim bs)) (zk_pQ (some (Value.int (zAh bs n (p0 + k))))) 0 0 zk_no := by
  refine zk_of [.ref a, .int (nI k)] (by decide) (Nat.le_of_ble_eq_true rfl) ?_
  intro p e s m below meth c S hr hlk hnm hK hX hpre ls hl
  obtain ⟨hx, hb, hml, hown, ht⟩ := id S
  obtain ⟨hP1, hO⟩ := hpre
  obtain ⟨ro, no, fo, hzo1, hzo2, hO1, hO2, hO3⟩ := id hO
  obtain ⟨g1, g2, g3, g4, g5⟩ := id hO3
  have hl : lv_has ls 2 [(0, .ref a), (1, .int (nI k))] := hl
  refine lv_aload_n hx hb d_Reader_ahead_0 rfl (lv_at hl 0 rfl) ?_
  refine zk_get (C := R_Reader) (T := F_Reader) (N := 3) S hK hP1 rfl i_Reader 2 (by decide) m_Reader_19 rfl rfl d_Reader_ahead_1 ?_
  refine lv_iload_n hx hb d_Reader_ahead_4 rfl (lv_at hl 1 rfl) ?_
  refine lv_iadd hx hb d_Reader_ahead_5 ?_
  refine zk_ti (z := nI (p0 + k)) (nI_add _ _) ?_
  refine lv_aload_n hx hb d_Reader_ahead_6 rfl (lv_at hl 0 rfl) ?_
  refine zk_get (C := R_Reader) (T := F_Reader) (N := 3) S hK hP1 rfl i_Reader 1 (by decide) m_Reader_15 rfl rfl d_Reader_ahead_7 ?_
  refine lv_icmp_ge (tgt := 29) hx hb d_Reader_ahead_10 (by decide) (fun c10 => ?_) (fun c10 => ?_)
  · refine lv_iconst (v := (-1)) hx hb d_Reader_ahead_29 (by decide) ?_
    refine zk_ti (z := zAh bs n (p0 + k)) (if_neg (Nat.not_lt.mpr ((nI_leI (by omega) (by omega)).mp c10))).symm ?_
    exact zk_reti S hr hlk d_Reader_ahead_30
  · refine lv_aload_n hx hb d_Reader_ahead_13 rfl (lv_at hl 0 rfl) ?_
    refine zk_get (C := R_Reader) (T := F_Reader) (N := 3) S hK hP1 rfl i_Reader 0 (by decide) m_Reader_9 rfl rfl d_Reader_ahead_14 ?_
    refine lv_aload_n hx hb d_Reader_ahead_17 rfl (lv_at hl 0 rfl) ?_
    refine zk_get (C := R_Reader) (T := F_Reader) (N := 3) S hK hP1 rfl i_Reader 2 (by decide) m_Reader_19 rfl rfl d_Reader_ahead_18 ?_
    refine lv_iload_n hx hb d_Reader_ahead_21 rfl (lv_at hl 1 rfl) ?_
    refine lv_iadd hx hb d_Reader_ahead_22 ?_
    refine zk_ti (z := nI (p0 + k)) (nI_add _ _) ?_
    refine zk_pure (zk_runV (As := [.int (nI (p0 + k))]) (rest := []) S m_Reader_22 (c_Bytes_at l D kA Z o lim bs (nI (p0 + k))) rfl rfl ⟨Nat.le_of_ble_eq_true rfl, Nat.le_of_ble_eq_true rfl⟩ hK hX (zk_recv hK hO1 rfl) (hO) rfl hl.1 rfl (Nat.le_of_ble_eq_true rfl) ⟨Nat.le_of_ble_eq_true rfl, Nat.le_of_ble_eq_true rfl⟩ d_Reader_ahead_23) ?_
    refine lv_goto (tgt := 30) hx hb d_Reader_ahead_26 (by decide) ?_
    have hlt : p0 + k < n := Nat.not_le.mp fun z => c10 (nI_le z (by omega))
    refine zk_ti (z := zAh bs n (p0 + k)) (by rw [bAt_nI (by omega) (by omega)]; exact (if_pos hlt).symm) ?_
    exact zk_reti S hr hlk d_Reader_ahead_30

set_option maxHeartbeats 4000000 in
set_option maxRecDepth 100000 in
/-- PatternReader.skip() -/
theorem c_Reader_skip (l : Launch) (D : va_G) (kA : Nat → ClassId) (a o n p0 : Nat) (sz0 : Nat) : Met l y_Reader_skip (Cond.code y_Reader_skip b_Reader_skip 1 none :: zTB) { frames := 0, cells := 0, slots := 0, locals := 0 } (zk_Pc D classes (zTY kA) [.ref a] (fun H => H.size = sz0 ∧ va_P D classes [(a, .inr (3, [.ref o, .int (nI n), .int (nI p0)]))] H ∧ va_D (fun _ => True) [(a, .inr (3, [.ref o, .int (nI n), .int (nI p0)]))])) (zk_mQ (fun v H => v = none ∧ va_P D classes [(a, .inr (3, [.ref o, .int (nI n), .int (nI (p0 + 1))]))] H ∧ va_D (va_A [(a, .inr (3, [.ref o, .int (nI n), .int (nI p0)]))] sz0) [(a, .inr (3, [.ref o, .int (nI n), .int (nI (p0 + 1))]))]) (va_A [(a, .inr (3, [.ref o, .int (nI n), .int (nI p0)]))] sz0)) 0 0 (va_A [(a, .inr (3, [.ref o, .int (nI n), .int (nI p0)]))] sz0) := by
  refine zk_of [.ref a] (by decide) (Nat.le_of_ble_eq_true rfl) ?_
  intro p e s m below meth c S hr hlk hnm hK hX hpre ls hl
  obtain ⟨hx, hb, hml, hown, ht⟩ := id S
  have hl : lv_has ls 1 [(0, .ref a)] := hl
  obtain ⟨hsz, hP, hD0⟩ := hpre
  subst hsz
  have hD := hD0.self (sz := s.heap.size)
  generalize hAe : va_A [(a, .inr (3, [.ref o, .int (nI n), .int (nI p0)]))] s.heap.size = A at hD ⊢
  have hA : ∀ q : Nat, s.heap.size ≤ q → A q := fun q h => by rw [← hAe]; exact Or.inr h
  have hS : va_S A s.heap s.heap [] := va_S.rf
  have hP : va_P D classes [(a, .inr (3, [.ref o, .int (nI n), .int (nI p0)]))] s.heap := hP
  refine lv_aload_n hx hb d_Reader_skip_0 rfl (lv_at hl 0 rfl) ?_
  refine lv_dup hx hb d_Reader_skip_1 rfl ?_
  refine zk_get (C := R_Reader) (T := F_Reader) (N := 3) S hK (hP 0 _ rfl) rfl i_Reader 2 (by decide) m_Reader_19 rfl rfl d_Reader_skip_2 ?_
  refine lv_iconst (v := 1) hx hb d_Reader_skip_5 (by decide) ?_
  refine lv_iadd hx hb d_Reader_skip_6 ?_
  refine zk_ti (z := nI (p0 + 1)) (nI_1 _) ?_
  refine va_put (D := D) (ci := 3) (v := .int (nI (p0 + 1))) (ty := .int) (C := R_Reader) (T := F_Reader) (N := 3) hx hb ht i_Reader t_Reader t_Reader_ok n_Reader hown hK hP hD hS 0 rfl rfl 2 (by decide) (ht _ m_Reader_19) (fun _ h9 => h9) rfl (by decide +kernel) rfl rfl (Nat.le_of_ble_eq_true rfl) d_Reader_skip_7 (fun H locs hP hD hS => ?_)
  have hP : va_P D classes [(a, .inr (3, [.ref o, .int (nI n), .int (nI (p0 + 1))]))] H := hP
  have hD : va_D A [(a, .inr (3, [.ref o, .int (nI n), .int (nI (p0 + 1))]))] := hD
  exact zk_vret S hr hlk hS ⟨rfl, hP, hD⟩ (Nat.le_refl _) (Nat.le_refl _) d_Reader_skip_10

set_option maxHeartbeats 4000000 in
set_option maxRecDepth 100000 in
/-- PatternReader.nextItself() -/
theorem c_Reader_nextItself (l : Launch) (D : va_G) (kA : Nat → ClassId) (a o lim n p0 : Nat) (bs : List Nat) (hn : n ≤ bs.length) (hn2 : n < 2 ^ 19) (hp : p0 < n) (sz0 : Nat) : Met l y_Reader_nextItself (Cond.code y_Reader_nextItself b_Reader_nextItself 2 (some .int) :: zTB) { frames := 2, cells := 0, slots := 0, locals := 42 } (zk_Pc D classes (zTY kA) [.ref a] (fun H => H.size = sz0 ∧ va_P D classes [(a, .inr (3, [.ref o, .int (nI n), .int (nI p0)]))] H ∧ va_D (fun _ => True) [(a, .inr (3, [.ref o, .int (nI n), .int (nI p0)]))] ∧ BsAt D kA (fun q => ¬ (va_A [(a, .inr (3, [.ref o, .int (nI n), .int (nI p0)]))] sz0) q) H o lim bs)) (zk_mQ (fun v H => v = some (.int (nI (rSelf bs n p0).1)) ∧ va_P D classes [(a, .inr (3, [.ref o, .int (nI n), .int (nI (rSelf bs n p0).2)]))] H ∧ va_D (va_A [(a, .inr (3, [.ref o, .int (nI n), .int (nI p0)]))] sz0) [(a, .inr (3, [.ref o, .int (nI n), .int (nI (rSelf bs n p0).2)]))]) (va_A [(a, .inr (3, [.ref o, .int (nI n), .int (nI p0)]))] sz0)) 0 0 (va_A [(a, .inr (3, [.ref o, .int (nI n), .int (nI p0)]))] sz0) := by
  refine zk_of [.ref a] (by decide) (Nat.le_of_ble_eq_true rfl) ?_
  intro p e s m below meth c S hr hlk hnm hK hX hpre ls hl
  obtain ⟨hx, hb, hml, hown, ht⟩ := id S
  have hl : lv_has ls 2 [(0, .ref a)] := hl
  obtain ⟨hsz, hP, hD0, hO⟩ := hpre
  subst hsz
  have hD := hD0.self (sz := s.heap.size)
  generalize hAe : va_A [(a, .inr (3, [.ref o, .int (nI n), .int (nI p0)]))] s.heap.size = A at hD hO ⊢
  have hA : ∀ q : Nat, s.heap.size ≤ q → A q := fun q h => by rw [← hAe]; exact Or.inr h
  have hS : va_S A s.heap s.heap [] := va_S.rf
  have hP : va_P D classes [(a, .inr (3, [.ref o, .int (nI n), .int (nI p0)]))] s.heap := hP
  obtain ⟨ro, no, fo, hzo1, hzo2, hO1, hO2, hO3⟩ := id hO
  obtain ⟨g1, g2, g3, g4, g5⟩ := id hO3
  refine lv_aload_n hx hb d_Reader_nextItself_0 rfl (lv_at hl 0 rfl) ?_
  refine lv_iconst (v := 0) hx hb d_Reader_nextItself_1 (by decide) ?_
  refine zk_ti (z := nI 0) (rfl) ?_
  refine zk_pure (zk_runV (As := [.int (nI 0)]) (rest := []) S m_Reader_27 (c_Reader_ahead l D kA (fun q => ¬ A q) a o lim n p0 0 bs hn (by omega) (by omega)) rfl rfl ⟨Nat.le_of_ble_eq_true rfl, Nat.le_of_ble_eq_true rfl⟩ hK hX (zk_recv hK (hP 0 _ rfl) rfl) (⟨hP 0 _ rfl, hO.ro hS⟩) rfl hl.1 rfl (Nat.le_of_ble_eq_true rfl) ⟨Nat.le_of_ble_eq_true rfl, Nat.le_of_ble_eq_true rfl⟩ d_Reader_nextItself_2) ?_
  refine zk_ti (z := nI (bs.getD p0 0)) (by show zAh bs n (p0 + 0) = _; rw [Nat.add_zero]; exact if_pos hp) ?_
  have hb0 := (g5 p0 (by omega)).1
  refine lv_bipush (v := 92) hx hb d_Reader_nextItself_5 (by decide) ?_
  refine lv_icmp_ne (tgt := 29) hx hb d_Reader_nextItself_7 (by decide) (fun c7 => ?_) (fun c7 => ?_)
  · have hno : ¬ bs.getD p0 0 = 92 := fun z => c7 (by rw [z]; rfl)
    refine lv_aload_n hx hb d_Reader_nextItself_29 rfl (lv_at hl 0 rfl) ?_
    refine lv_iconst (v := 0) hx hb d_Reader_nextItself_30 (by decide) ?_
    refine zk_ti (z := nI 0) (rfl) ?_
    refine zk_pure (zk_runV (As := [.int (nI 0)]) (rest := []) S m_Reader_27 (c_Reader_ahead l D kA (fun q => ¬ A q) a o lim n p0 0 bs hn (by omega) (by omega)) rfl rfl ⟨Nat.le_of_ble_eq_true rfl, Nat.le_of_ble_eq_true rfl⟩ hK hX (zk_recv hK (hP 0 _ rfl) rfl) (⟨hP 0 _ rfl, hO.ro hS⟩) rfl hl.1 rfl (Nat.le_of_ble_eq_true rfl) ⟨Nat.le_of_ble_eq_true rfl, Nat.le_of_ble_eq_true rfl⟩ d_Reader_nextItself_31) ?_
    refine zk_ti (z := nI (bs.getD p0 0)) (by show zAh bs n (p0 + 0) = _; rw [Nat.add_zero]; exact if_pos (by omega)) ?_
    refine lv_istore_n (lv' := [(1, .int (nI (bs.getD p0 0))), (0, .ref a)]) hx hb d_Reader_nextItself_34 rfl hl (by decide) rfl (fun ls hl => ?_)
    refine lv_aload_n hx hb d_Reader_nextItself_35 rfl (lv_at hl 1 rfl) ?_
    refine lv_dup hx hb d_Reader_nextItself_36 rfl ?_
    refine zk_get (C := R_Reader) (T := F_Reader) (N := 3) S hK (hP 0 _ rfl) rfl i_Reader 2 (by decide) m_Reader_19 rfl rfl d_Reader_nextItself_37 ?_
    refine lv_iconst (v := 1) hx hb d_Reader_nextItself_40 (by decide) ?_
    refine lv_iadd hx hb d_Reader_nextItself_41 ?_
    refine zk_ti (z := nI (p0 + 1)) (nI_1 _) ?_
    refine va_put (D := D) (ci := 3) (v := .int (nI (p0 + 1))) (ty := .int) (C := R_Reader) (T := F_Reader) (N := 3) hx hb ht i_Reader t_Reader t_Reader_ok n_Reader hown hK hP hD hS 0 rfl rfl 2 (by decide) (ht _ m_Reader_19) (fun _ h9 => h9) rfl (by decide +kernel) rfl rfl (Nat.le_of_ble_eq_true rfl) d_Reader_nextItself_42 (fun H locs hP hD hS => ?_)
    have hP : va_P D classes [(a, .inr (3, [.ref o, .int (nI n), .int (nI (p0 + 1))]))] H := hP
    have hD : va_D A [(a, .inr (3, [.ref o, .int (nI n), .int (nI (p0 + 1))]))] := hD
    refine lv_iload_n hx hb d_Reader_nextItself_45 rfl (lv_at hl 0 rfl) ?_
    have hrs : rSelf bs n p0 = (bs.getD p0 0, p0 + 1) := if_neg (fun z => hno z.1)
    exact zk_iret S hr hlk hS ⟨by rw [hrs], by rw [hrs]; exact hP, by rw [hrs]; exact hD⟩ (Nat.le_refl _) (Nat.le_refl _) d_Reader_nextItself_46
  · have h92 : bs.getD p0 0 = 92 := (nI_eq (by omega) (by omega)).mp (show nI (bs.getD p0 0) = nI 92 from c7)
    refine lv_aload_n hx hb d_Reader_nextItself_10 rfl (lv_at hl 0 rfl) ?_
    refine lv_iconst (v := 1) hx hb d_Reader_nextItself_11 (by decide) ?_
    refine zk_ti (z := nI 1) (rfl) ?_
    refine zk_pure (zk_runV (As := [.int (nI 1)]) (rest := []) S m_Reader_27 (c_Reader_ahead l D kA (fun q => ¬ A q) a o lim n p0 1 bs hn (by omega) (by omega)) rfl rfl ⟨Nat.le_of_ble_eq_true rfl, Nat.le_of_ble_eq_true rfl⟩ hK hX (zk_recv hK (hP 0 _ rfl) rfl) (⟨hP 0 _ rfl, hO.ro hS⟩) rfl hl.1 rfl (Nat.le_of_ble_eq_true rfl) ⟨Nat.le_of_ble_eq_true rfl, Nat.le_of_ble_eq_true rfl⟩ d_Reader_nextItself_12) ?_
    refine lv_iconst (v := (-1)) hx hb d_Reader_nextItself_15 (by decide) ?_
    refine lv_icmp_eq (tgt := 29) hx hb d_Reader_nextItself_16 (by decide) (fun c16 => ?_) (fun c16 => ?_)
    · have hno : ¬ p0 + 1 < n := fun z => by
        have h9 : zAh bs n (p0 + 1) = nI (bs.getD (p0 + 1) 0) := if_pos z
        rw [h9] at c16
        have := (g5 (p0 + 1) (by omega)).1
        exact zNe1 (by omega) c16
      refine lv_aload_n hx hb d_Reader_nextItself_29 rfl (lv_at hl 0 rfl) ?_
      refine lv_iconst (v := 0) hx hb d_Reader_nextItself_30 (by decide) ?_
      refine zk_ti (z := nI 0) (rfl) ?_
      refine zk_pure (zk_runV (As := [.int (nI 0)]) (rest := []) S m_Reader_27 (c_Reader_ahead l D kA (fun q => ¬ A q) a o lim n p0 0 bs hn (by omega) (by omega)) rfl rfl ⟨Nat.le_of_ble_eq_true rfl, Nat.le_of_ble_eq_true rfl⟩ hK hX (zk_recv hK (hP 0 _ rfl) rfl) (⟨hP 0 _ rfl, hO.ro hS⟩) rfl hl.1 rfl (Nat.le_of_ble_eq_true rfl) ⟨Nat.le_of_ble_eq_true rfl, Nat.le_of_ble_eq_true rfl⟩ d_Reader_nextItself_31) ?_
      refine zk_ti (z := nI (bs.getD p0 0)) (by show zAh bs n (p0 + 0) = _; rw [Nat.add_zero]; exact if_pos (by omega)) ?_
      refine lv_istore_n (lv' := [(1, .int (nI (bs.getD p0 0))), (0, .ref a)]) hx hb d_Reader_nextItself_34 rfl hl (by decide) rfl (fun ls hl => ?_)
      refine lv_aload_n hx hb d_Reader_nextItself_35 rfl (lv_at hl 1 rfl) ?_
      refine lv_dup hx hb d_Reader_nextItself_36 rfl ?_
      refine zk_get (C := R_Reader) (T := F_Reader) (N := 3) S hK (hP 0 _ rfl) rfl i_Reader 2 (by decide) m_Reader_19 rfl rfl d_Reader_nextItself_37 ?_
      refine lv_iconst (v := 1) hx hb d_Reader_nextItself_40 (by decide) ?_
      refine lv_iadd hx hb d_Reader_nextItself_41 ?_
      refine zk_ti (z := nI (p0 + 1)) (nI_1 _) ?_
      refine va_put (D := D) (ci := 3) (v := .int (nI (p0 + 1))) (ty := .int) (C := R_Reader) (T := F_Reader) (N := 3) hx hb ht i_Reader t_Reader t_Reader_ok n_Reader hown hK hP hD hS 0 rfl rfl 2 (by decide) (ht _ m_Reader_19) (fun _ h9 => h9) rfl (by decide +kernel) rfl rfl (Nat.le_of_ble_eq_true rfl) d_Reader_nextItself_42 (fun H locs hP hD hS => ?_)
      have hP : va_P D classes [(a, .inr (3, [.ref o, .int (nI n), .int (nI (p0 + 1))]))] H := hP
      have hD : va_D A [(a, .inr (3, [.ref o, .int (nI n), .int (nI (p0 + 1))]))] := hD
      refine lv_iload_n hx hb d_Reader_nextItself_45 rfl (lv_at hl 0 rfl) ?_
      have hrs : rSelf bs n p0 = (bs.getD p0 0, p0 + 1) := if_neg (fun z => hno z.2)
      exact zk_iret S hr hlk hS ⟨by rw [hrs], by rw [hrs]; exact hP, by rw [hrs]; exact hD⟩ (Nat.le_refl _) (Nat.le_refl _) d_Reader_nextItself_46
    · have hin1 : p0 + 1 < n := by
        by_cases z : p0 + 1 < n
        · exact z
        · exact absurd (show zAh bs n (p0 + 1) = -1 from if_neg z) c16
      refine lv_aload_n hx hb d_Reader_nextItself_19 rfl (lv_at hl 0 rfl) ?_
      refine lv_dup hx hb d_Reader_nextItself_20 rfl ?_
      refine zk_get (C := R_Reader) (T := F_Reader) (N := 3) S hK (hP 0 _ rfl) rfl i_Reader 2 (by decide) m_Reader_19 rfl rfl d_Reader_nextItself_21 ?_
      refine lv_iconst (v := 1) hx hb d_Reader_nextItself_24 (by decide) ?_
      refine lv_iadd hx hb d_Reader_nextItself_25 ?_
      refine zk_ti (z := nI (p0 + 1)) (nI_1 _) ?_
      refine va_put (D := D) (ci := 3) (v := .int (nI (p0 + 1))) (ty := .int) (C := R_Reader) (T := F_Reader) (N := 3) hx hb ht i_Reader t_Reader t_Reader_ok n_Reader hown hK hP hD hS 0 rfl rfl 2 (by decide) (ht _ m_Reader_19) (fun _ h9 => h9) rfl (by decide +kernel) rfl rfl (Nat.le_of_ble_eq_true rfl) d_Reader_nextItself_26 (fun H locs hP hD hS => ?_)
      have hP : va_P D classes [(a, .inr (3, [.ref o, .int (nI n), .int (nI (p0 + 1))]))] H := hP
      have hD : va_D A [(a, .inr (3, [.ref o, .int (nI n), .int (nI (p0 + 1))]))] := hD
      refine lv_aload_n hx hb d_Reader_nextItself_29 rfl (lv_at hl 0 rfl) ?_
      refine lv_iconst (v := 0) hx hb d_Reader_nextItself_30 (by decide) ?_
      refine zk_ti (z := nI 0) (rfl) ?_
      refine zk_pure (zk_runV (As := [.int (nI 0)]) (rest := []) S m_Reader_27 (c_Reader_ahead l D kA (fun q => ¬ A q) a o lim n (p0 + 1) 0 bs hn (by omega) (by omega)) rfl rfl ⟨Nat.le_of_ble_eq_true rfl, Nat.le_of_ble_eq_true rfl⟩ hK hX (zk_recv hK (hP 0 _ rfl) rfl) (⟨hP 0 _ rfl, hO.ro hS⟩) rfl hl.1 rfl (Nat.le_of_ble_eq_true rfl) ⟨Nat.le_of_ble_eq_true rfl, Nat.le_of_ble_eq_true rfl⟩ d_Reader_nextItself_31) ?_
      refine zk_ti (z := nI (bs.getD (p0 + 1) 0)) (by show zAh bs n (p0 + 1 + 0) = _; rw [Nat.add_zero]; exact if_pos (by omega)) ?_
      refine lv_istore_n (lv' := [(1, .int (nI (bs.getD (p0 + 1) 0))), (0, .ref a)]) hx hb d_Reader_nextItself_34 rfl hl (by decide) rfl (fun ls hl => ?_)
      refine lv_aload_n hx hb d_Reader_nextItself_35 rfl (lv_at hl 1 rfl) ?_
      refine lv_dup hx hb d_Reader_nextItself_36 rfl ?_
      refine zk_get (C := R_Reader) (T := F_Reader) (N := 3) S hK (hP 0 _ rfl) rfl i_Reader 2 (by decide) m_Reader_19 rfl rfl d_Reader_nextItself_37 ?_
      refine lv_iconst (v := 1) hx hb d_Reader_nextItself_40 (by decide) ?_
      refine lv_iadd hx hb d_Reader_nextItself_41 ?_
      refine zk_ti (z := nI (p0 + 1 + 1)) (nI_1 _) ?_
      refine va_put (D := D) (ci := 3) (v := .int (nI (p0 + 1 + 1))) (ty := .int) (C := R_Reader) (T := F_Reader) (N := 3) hx hb ht i_Reader t_Reader t_Reader_ok n_Reader hown hK hP hD hS 0 rfl rfl 2 (by decide) (ht _ m_Reader_19) (fun _ h9 => h9) rfl (by decide +kernel) rfl rfl (Nat.le_of_ble_eq_true rfl) d_Reader_nextItself_42 (fun H locs hP hD hS => ?_)
      have hP : va_P D classes [(a, .inr (3, [.ref o, .int (nI n), .int (nI (p0 + 1 + 1))]))] H := hP
      have hD : va_D A [(a, .inr (3, [.ref o, .int (nI n), .int (nI (p0 + 1 + 1))]))] := hD
      refine lv_iload_n hx hb d_Reader_nextItself_45 rfl (lv_at hl 0 rfl) ?_
      have hrs : rSelf bs n p0 = (bs.getD (p0 + 1) 0, p0 + 2) := if_pos ⟨h92, hin1⟩
      exact zk_iret S hr hlk hS ⟨by rw [hrs], by rw [hrs]; exact hP, by rw [hrs]; exact hD⟩ (Nat.le_refl _) (Nat.le_refl _) d_Reader_nextItself_46

set_option maxHeartbeats 4000000 in
set_option maxRecDepth 100000 in
/-- Rule(state, pattern, answer, delay, next) -/
theorem c_Rule_init (l : Launch) (D : va_G) (kA : Nat → ClassId) (a pt an : Nat) (x0 x3 x4 : Int32) (sz0 : Nat) : Met l y_Rule_init (Cond.code y_Rule_init b_Rule_init 6 none :: zTB) { frames := 1, cells := 0, slots := 0, locals := 12 } (zk_Pc D classes (zTY kA) [.ref a, .int x0, .ref pt, .ref an, .int x3, .int x4] (fun H => H.size = sz0 ∧ va_P D classes [(a, .inr (4, [.int 0, .null, .null, .int 0, .int 0]))] H ∧ va_D (fun _ => True) [(a, .inr (4, [.int 0, .null, .null, .int 0, .int 0]))])) (zk_mQ (fun v H => v = none ∧ va_P D classes [(a, .inr (4, [.int x0, .ref pt, .ref an, .int x3, .int x4]))] H ∧ va_D (va_A [(a, .inr (4, [.int 0, .null, .null, .int 0, .int 0]))] sz0) [(a, .inr (4, [.int x0, .ref pt, .ref an, .int x3, .int x4]))]) (va_A [(a, .inr (4, [.int 0, .null, .null, .int 0, .int 0]))] sz0)) 0 0 (va_A [(a, .inr (4, [.int 0, .null, .null, .int 0, .int 0]))] sz0) := by
  refine zk_of [.ref a, .int x0, .ref pt, .ref an, .int x3, .int x4] (by decide) (Nat.le_of_ble_eq_true rfl) ?_
  intro p e s m below meth c S hr hlk hnm hK hX hpre ls hl
  obtain ⟨hx, hb, hml, hown, ht⟩ := id S
  have hl : lv_has ls 6 [(0, .ref a), (1, .int x0), (2, .ref pt), (3, .ref an), (4, .int x3), (5, .int x4)] := hl
  obtain ⟨hsz, hP, hD0⟩ := hpre
  subst hsz
  have hD := hD0.self (sz := s.heap.size)
  generalize hAe : va_A [(a, .inr (4, [.int 0, .null, .null, .int 0, .int 0]))] s.heap.size = A at hD ⊢
  have hA : ∀ q : Nat, s.heap.size ≤ q → A q := fun q h => by rw [← hAe]; exact Or.inr h
  have hS : va_S A s.heap s.heap [] := va_S.rf
  have hP : va_P D classes [(a, .inr (4, [.int 0, .null, .null, .int 0, .int 0]))] s.heap := hP
  refine lv_aload_n hx hb d_Rule_init_0 rfl (lv_at hl 0 rfl) ?_
  refine W.objInit hx hb hown (ht _ m_Rule_1) (ht _ m_obj_i) (ht _ m_obj_c) rfl (by rw [hml]; exact hl.1) rfl d_Rule_init_1 (Nat.le_of_ble_eq_true rfl) (Nat.le_of_ble_eq_true rfl) ?_
  refine W.eq (g2 := F0 m 4 ls []) rfl ?_
  refine lv_aload_n hx hb d_Rule_init_4 rfl (lv_at hl 0 rfl) ?_
  refine lv_iload_n hx hb d_Rule_init_5 rfl (lv_at hl 1 rfl) ?_
  refine va_putF (D := D) (ci := 4) (v := .int x0) (ty := .int) (C := R_Rule) (T := F_Rule) (N := 5) hx hb ht i_Rule t_Rule t_Rule_ok n_Rule hown hK hP hD hS 0 rfl rfl 0 (by decide) (ht _ m_Rule_7) (fun _ h9 => h9) rfl hnm rfl (by decide +kernel) rfl rfl (Nat.le_of_ble_eq_true rfl) d_Rule_init_6 (fun H locs hP hD hS => ?_)
  have hP : va_P D classes [(a, .inr (4, [.int x0, .null, .null, .int 0, .int 0]))] H := hP
  have hD : va_D A [(a, .inr (4, [.int x0, .null, .null, .int 0, .int 0]))] := hD
  refine lv_aload_n hx hb d_Rule_init_9 rfl (lv_at hl 0 rfl) ?_
  refine lv_aload_n hx hb d_Rule_init_10 rfl (lv_at hl 2 rfl) ?_
  refine va_putF (D := D) (ci := 4) (v := .ref pt) (ty := .object "PeerLine$Pattern") (C := R_Rule) (T := F_Rule) (N := 5) hx hb ht i_Rule t_Rule t_Rule_ok n_Rule hown hK hP hD hS 0 rfl rfl 1 (by decide) (ht _ m_Rule_13) (fun _ h9 => h9) rfl hnm rfl (by decide +kernel) rfl rfl (Nat.le_of_ble_eq_true rfl) d_Rule_init_11 (fun H locs hP hD hS => ?_)
  have hP : va_P D classes [(a, .inr (4, [.int x0, .ref pt, .null, .int 0, .int 0]))] H := hP
  have hD : va_D A [(a, .inr (4, [.int x0, .ref pt, .null, .int 0, .int 0]))] := hD
  refine lv_aload_n hx hb d_Rule_init_14 rfl (lv_at hl 0 rfl) ?_
  refine lv_aload_n hx hb d_Rule_init_15 rfl (lv_at hl 3 rfl) ?_
  refine va_putF (D := D) (ci := 4) (v := .ref an) (ty := .object "PeerLine$Bytes") (C := R_Rule) (T := F_Rule) (N := 5) hx hb ht i_Rule t_Rule t_Rule_ok n_Rule hown hK hP hD hS 0 rfl rfl 2 (by decide) (ht _ m_Rule_17) (fun _ h9 => h9) rfl hnm rfl (by decide +kernel) rfl rfl (Nat.le_of_ble_eq_true rfl) d_Rule_init_16 (fun H locs hP hD hS => ?_)
  have hP : va_P D classes [(a, .inr (4, [.int x0, .ref pt, .ref an, .int 0, .int 0]))] H := hP
  have hD : va_D A [(a, .inr (4, [.int x0, .ref pt, .ref an, .int 0, .int 0]))] := hD
  refine lv_aload_n hx hb d_Rule_init_19 rfl (lv_at hl 0 rfl) ?_
  refine lv_iload hx hb d_Rule_init_20 (lv_at hl 4 rfl) ?_
  refine va_putF (D := D) (ci := 4) (v := .int x3) (ty := .int) (C := R_Rule) (T := F_Rule) (N := 5) hx hb ht i_Rule t_Rule t_Rule_ok n_Rule hown hK hP hD hS 0 rfl rfl 3 (by decide) (ht _ m_Rule_21) (fun _ h9 => h9) rfl hnm rfl (by decide +kernel) rfl rfl (Nat.le_of_ble_eq_true rfl) d_Rule_init_22 (fun H locs hP hD hS => ?_)
  have hP : va_P D classes [(a, .inr (4, [.int x0, .ref pt, .ref an, .int x3, .int 0]))] H := hP
  have hD : va_D A [(a, .inr (4, [.int x0, .ref pt, .ref an, .int x3, .int 0]))] := hD
  refine lv_aload_n hx hb d_Rule_init_25 rfl (lv_at hl 0 rfl) ?_
  refine lv_iload hx hb d_Rule_init_26 (lv_at hl 5 rfl) ?_
  refine va_putF (D := D) (ci := 4) (v := .int x4) (ty := .int) (C := R_Rule) (T := F_Rule) (N := 5) hx hb ht i_Rule t_Rule t_Rule_ok n_Rule hown hK hP hD hS 0 rfl rfl 4 (by decide) (ht _ m_Rule_24) (fun _ h9 => h9) rfl hnm rfl (by decide +kernel) rfl rfl (Nat.le_of_ble_eq_true rfl) d_Rule_init_28 (fun H locs hP hD hS => ?_)
  have hP : va_P D classes [(a, .inr (4, [.int x0, .ref pt, .ref an, .int x3, .int x4]))] H := hP
  have hD : va_D A [(a, .inr (4, [.int x0, .ref pt, .ref an, .int x3, .int x4]))] := hD
  exact zk_vret S hr hlk hS ⟨rfl, hP, hD⟩ (Nat.le_refl _) (Nat.le_refl _) d_Rule_init_31
