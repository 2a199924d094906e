set_option maxHeartbeats 4000000 in
set_option maxRecDepth 100000 in
/-- Bytes.firstZero() -/
theorem c_Bytes_firstZero (l : Launch) (D : va_G) (kA : Nat → ClassId) (Z : Nat → Prop) (a lim : Nat) (bs : List Nat) : Met l y_Bytes_firstZero (Cond.code y_Bytes_firstZero b_Bytes_firstZero 2 (some .int) :: zTB) { frames := 1, cells := 0, slots := 0, locals := 21 } (zk_Pc D classes (zTY kA) [.ref a] (fun H => BsAt D kA Z H a lim bs)) (zk_pQ (some (Value.int (zI (zAt bs))))) 0 0 zk_no := by
  refine zk_of [.ref a] (by decide) (Nat.le_of_ble_eq_true rfl) ?_
  intro p e s m below meth c S hr hlk hnm hK hX hpre ls hl
  obtain ⟨hx, hb, hml, hown, ht⟩ := id S
  have hpre0 := hpre
  obtain ⟨r, n0, f, ha, hra, hP1, hP2, hbs⟩ := hpre
  obtain ⟨h1, h2, h3, h4, h5⟩ := id hbs
  have hl : lv_has ls 2 [(0, .ref a)] := hl
  refine lv_iconst (v := 0) hx hb d_Bytes_firstZero_0 (by decide) ?_
  refine lv_istore_n (lv' := [(1, .int 0), (0, .ref a)]) hx hb d_Bytes_firstZero_1 rfl hl (by decide) rfl (fun ls hl => ?_)
  have lp : ∀ (fu : Nat) (i : Nat), bs.length - i < fu → i ≤ bs.length → (∀ j, j < i → bs.getD j 0 ≠ 0) → ∀ ls : Array Slot, lv_has ls 2 [(0, .ref a), (1, .int (nI i))] → W p l e { frames := 1, cells := 0, slots := 0, locals := 21 } s m [.ref a].toArray below meth c s.heap [] 0 0 (MQ below (zk_pQ (some (Value.int (zI (zAt bs))))) [.ref a].toArray s 0 0 zk_no) (F0 m 2 ls []) := by
    intro fu
    induction fu with
    | zero => intro i hn; exact absurd hn (Nat.not_lt_zero _)
    | succ fu ih =>
      intro i hn hi hnz ls hl
      refine lv_iload_n hx hb d_Bytes_firstZero_2 rfl (lv_at hl 1 rfl) ?_
      refine lv_aload_n hx hb d_Bytes_firstZero_3 rfl (lv_at hl 0 rfl) ?_
      refine zk_get (C := R_Bytes) (T := F_Bytes) (N := 3) S hK hP1 rfl i_Bytes 2 (by decide) m_Bytes_28 rfl rfl d_Bytes_firstZero_4 ?_
      refine lv_icmp_ge (tgt := 26) hx hb d_Bytes_firstZero_7 (by decide) (fun c7 => ?_) (fun c7 => ?_)
      · refine lv_iconst (v := (-1)) hx hb d_Bytes_firstZero_26 (by decide) ?_
        refine zk_ti (z := zI (zAt bs)) (by
          have hge : bs.length ≤ i := (nI_leI (by omega) (by omega)).mp c7
          rw [zAt_none (fun j hj => hnz j (by omega))]; rfl) ?_
        exact zk_reti S hr hlk d_Bytes_firstZero_27
      · have hlt : i < bs.length := Nat.not_le.mp fun q => c7 (nI_le q (by omega))
        refine lv_aload_n hx hb d_Bytes_firstZero_10 rfl (lv_at hl 0 rfl) ?_
        refine lv_iload_n hx hb d_Bytes_firstZero_11 rfl (lv_at hl 1 rfl) ?_
        refine zk_pure (zk_runV (As := [.int (nI i)]) (rest := []) S m_Bytes_31 (c_Bytes_at l D kA Z a lim bs (nI i)) rfl rfl ⟨Nat.le_of_ble_eq_true rfl, Nat.le_of_ble_eq_true rfl⟩ hK hX (zk_recv hK hP1 rfl) (hpre0) rfl hl.1 rfl (Nat.le_of_ble_eq_true rfl) ⟨Nat.le_of_ble_eq_true rfl, Nat.le_of_ble_eq_true rfl⟩ d_Bytes_firstZero_12) ?_
        refine zk_ti (z := nI (bs.getD i 0)) (bAt_nI (by omega) hlt) ?_
        refine lv_if_ne (tgt := 20) hx hb d_Bytes_firstZero_15 (by decide) (fun c15 => ?_) (fun c15 => ?_)
        · have hz : bs.getD i 0 ≠ 0 := fun q => c15 (by rw [q]; rfl)
          refine lv_iinc (v := (nI (i + 1))) (lv' := [(1, .int (nI (i + 1))), (0, .ref a)]) hx hb d_Bytes_firstZero_20 hl (k := 1) rfl (nI_1 i) (by decide) rfl (fun ls hl => ?_)
          refine lv_goto (tgt := 2) hx hb d_Bytes_firstZero_23 (by decide) ?_
          exact ih (i + 1) (by omega) (by omega) (fun j hj => by
            by_cases q : j = i
            · rw [q]; exact hz
            · exact hnz j (by omega)) ls (lv_sub hl [1, 0] rfl)
        · have hz : bs.getD i 0 = 0 := by
            have := (h5 i hlt).1
            by_cases q : bs.getD i 0 = 0
            · exact q
            · exact absurd c15 (nI_ne0 (by omega) (by omega))
          refine lv_iload_n hx hb d_Bytes_firstZero_18 rfl (lv_at hl 1 rfl) ?_
          refine zk_ti (z := zI (zAt bs)) (by rw [zAt_some hlt hz hnz]; rfl) ?_
          exact zk_reti S hr hlk d_Bytes_firstZero_19
  exact lp (bs.length + 1) 0 (by omega) (Nat.zero_le _) (fun j hj => absurd hj (Nat.not_lt_zero j)) ls (lv_sub hl [1, 0] rfl)

set_option maxHeartbeats 4000000 in
set_option maxRecDepth 100000 in
/-- Bytes.clear() -/
theorem c_Bytes_clear (l : Launch) (D : va_G) (kA : Nat → ClassId) (a r lim n : Nat) (f : Nat → Int32) (bs : List Nat) (sz0 : Nat) : Met l y_Bytes_clear (Cond.code y_Bytes_clear b_Bytes_clear 1 none :: zTB) { frames := 0, cells := 0, slots := 0, locals := 0 } (zk_Pc D classes (zTY kA) [.ref a] (fun H => H.size = sz0 ∧ va_P D classes [(a, .inr (0, [.int (nI lim), .ref r, .int (nI bs.length)])), (r, .inl ((kA 0), n, .inl f))] H ∧ va_D (fun _ => True) [(a, .inr (0, [.int (nI lim), .ref r, .int (nI bs.length)])), (r, .inl ((kA 0), n, .inl f))] ∧ zBs lim n f bs)) (zk_mQ (fun v H => v = none ∧ BsPost D kA (va_A [(a, .inr (0, [.int (nI lim), .ref r, .int (nI bs.length)])), (r, .inl ((kA 0), n, .inl f))] sz0) H a lim n []) (va_A [(a, .inr (0, [.int (nI lim), .ref r, .int (nI bs.length)])), (r, .inl ((kA 0), n, .inl f))] sz0)) 0 0 (va_A [(a, .inr (0, [.int (nI lim), .ref r, .int (nI bs.length)])), (r, .inl ((kA 0), n, .inl f))] sz0) := by
  refine zk_of [.ref a] (by decide) (Nat.le_of_ble_eq_true rfl) ?_
  intro p e s m below meth c S hr hlk hnm hK hX hpre ls hl
  obtain ⟨hx, hb, hml, hown, ht⟩ := id S
  have hl : lv_has ls 1 [(0, .ref a)] := hl
  obtain ⟨hsz, hP, hD0, hbs⟩ := hpre
  subst hsz
  have hD := hD0.self (sz := s.heap.size)
  generalize hAe : va_A [(a, .inr (0, [.int (nI lim), .ref r, .int (nI bs.length)])), (r, .inl ((kA 0), n, .inl f))] s.heap.size = A at hD ⊢
  have hA : ∀ q : Nat, s.heap.size ≤ q → A q := fun q h => by rw [← hAe]; exact Or.inr h
  have hS : va_S A s.heap s.heap [] := va_S.rf
  have hP : va_P D classes [(a, .inr (0, [.int (nI lim), .ref r, .int (nI bs.length)])), (r, .inl ((kA 0), n, .inl f))] s.heap := hP
  refine lv_aload_n hx hb d_Bytes_clear_0 rfl (lv_at hl 0 rfl) ?_
  refine lv_iconst (v := 0) hx hb d_Bytes_clear_1 (by decide) ?_
  refine va_put (D := D) (ci := 0) (v := .int 0) (ty := .int) (C := R_Bytes) (T := F_Bytes) (N := 3) hx hb ht i_Bytes t_Bytes t_Bytes_ok n_Bytes hown hK hP hD hS 0 rfl rfl 2 (by decide) (ht _ m_Bytes_28) (fun _ h9 => h9) rfl (by decide +kernel) rfl rfl (Nat.le_of_ble_eq_true rfl) d_Bytes_clear_2 (fun H locs hP hD hS => ?_)
  have hP : va_P D classes [(a, .inr (0, [.int (nI lim), .ref r, .int 0])), (r, .inl ((kA 0), n, .inl f))] H := hP
  have hD : va_D A [(a, .inr (0, [.int (nI lim), .ref r, .int 0])), (r, .inl ((kA 0), n, .inl f))] := hD
  exact zk_vret S hr hlk hS ⟨rfl, r, f, hP, hD, zBs_nil hbs⟩ (Nat.le_refl _) (Nat.le_refl _) d_Bytes_clear_5

set_option maxHeartbeats 4000000 in
set_option maxRecDepth 100000 in
/-- Bytes.keepFirst(n) -/
theorem c_Bytes_keepFirst (l : Launch) (D : va_G) (kA : Nat → ClassId) (a r lim n : Nat) (f : Nat → Int32) (bs : List Nat) (x : Int32) (sz0 : Nat) : Met l y_Bytes_keepFirst (Cond.code y_Bytes_keepFirst b_Bytes_keepFirst 2 (some .boolean) :: zTB) { frames := 0, cells := 0, slots := 0, locals := 0 } (zk_Pc D classes (zTY kA) [.ref a, .int x] (fun H => H.size = sz0 ∧ va_P D classes [(a, .inr (0, [.int (nI lim), .ref r, .int (nI bs.length)])), (r, .inl ((kA 0), n, .inl f))] H ∧ va_D (fun _ => True) [(a, .inr (0, [.int (nI lim), .ref r, .int (nI bs.length)])), (r, .inl ((kA 0), n, .inl f))] ∧ zBs lim n f bs)) (zk_mQ (fun v H => (∃ k, x = nI k ∧ k ≤ bs.length ∧ v = some (.int 1) ∧ BsPost D kA (va_A [(a, .inr (0, [.int (nI lim), .ref r, .int (nI bs.length)])), (r, .inl ((kA 0), n, .inl f))] sz0) H a lim n (bs.take k)) ∨ ((∀ k, k ≤ bs.length → x ≠ nI k) ∧ v = some (.int 0) ∧ BsPost D kA (va_A [(a, .inr (0, [.int (nI lim), .ref r, .int (nI bs.length)])), (r, .inl ((kA 0), n, .inl f))] sz0) H a lim n bs)) (va_A [(a, .inr (0, [.int (nI lim), .ref r, .int (nI bs.length)])), (r, .inl ((kA 0), n, .inl f))] sz0)) 0 0 (va_A [(a, .inr (0, [.int (nI lim), .ref r, .int (nI bs.length)])), (r, .inl ((kA 0), n, .inl f))] sz0) := by
  refine zk_of [.ref a, .int x] (by decide) (Nat.le_of_ble_eq_true rfl) ?_
  intro p e s m below meth c S hr hlk hnm hK hX hpre ls hl
  obtain ⟨hx, hb, hml, hown, ht⟩ := id S
  have hl : lv_has ls 2 [(0, .ref a), (1, .int x)] := hl
  obtain ⟨hsz, hP, hD0, hbs⟩ := hpre
  subst hsz
  have hD := hD0.self (sz := s.heap.size)
  generalize hAe : va_A [(a, .inr (0, [.int (nI lim), .ref r, .int (nI bs.length)])), (r, .inl ((kA 0), n, .inl f))] s.heap.size = A at hD ⊢
  have hA : ∀ q : Nat, s.heap.size ≤ q → A q := fun q h => by rw [← hAe]; exact Or.inr h
  have hS : va_S A s.heap s.heap [] := va_S.rf
  have hP : va_P D classes [(a, .inr (0, [.int (nI lim), .ref r, .int (nI bs.length)])), (r, .inl ((kA 0), n, .inl f))] s.heap := hP
  refine lv_iload_n hx hb d_Bytes_keepFirst_0 rfl (lv_at hl 1 rfl) ?_
  obtain ⟨h1, h2, h3, h4, h5⟩ := id hbs
  refine lv_if_lt (tgt := 12) hx hb d_Bytes_keepFirst_1 (by decide) (fun c1 => ?_) (fun c1 => ?_)
  · refine lv_iconst (v := 0) hx hb d_Bytes_keepFirst_12 (by decide) ?_
    exact zk_zret S hr (by decide) hlk hS (Or.inr ⟨fun k hk q => absurd c1 (by rw [q]; exact nI_pos (by omega)), rfl, r, f, hP, hD, hbs⟩) (Nat.le_refl _) (Nat.le_refl _) d_Bytes_keepFirst_13
  · refine lv_iload_n hx hb d_Bytes_keepFirst_4 rfl (lv_at hl 1 rfl) ?_
    refine lv_aload_n hx hb d_Bytes_keepFirst_5 rfl (lv_at hl 0 rfl) ?_
    refine zk_get (C := R_Bytes) (T := F_Bytes) (N := 3) S hK (hP 0 _ rfl) rfl i_Bytes 2 (by decide) m_Bytes_28 rfl rfl d_Bytes_keepFirst_6 ?_
    refine lv_icmp_le (tgt := 14) hx hb d_Bytes_keepFirst_9 (by decide) (fun c9 => ?_) (fun c9 => ?_)
    · obtain ⟨k, hk, ex⟩ := nI_of2 (n := bs.length) (nI_toInt (by omega)) c1 c9
      have hlen : (bs.take k).length = k := by rw [List.length_take]; omega
      refine lv_aload_n hx hb d_Bytes_keepFirst_14 rfl (lv_at hl 0 rfl) ?_
      refine lv_iload_n hx hb d_Bytes_keepFirst_15 rfl (lv_at hl 1 rfl) ?_
      refine va_put (D := D) (ci := 0) (v := .int x) (ty := .int) (C := R_Bytes) (T := F_Bytes) (N := 3) hx hb ht i_Bytes t_Bytes t_Bytes_ok n_Bytes hown hK hP hD hS 0 rfl rfl 2 (by decide) (ht _ m_Bytes_28) (fun _ h9 => h9) rfl (by decide +kernel) rfl rfl (Nat.le_of_ble_eq_true rfl) d_Bytes_keepFirst_16 (fun H locs hP hD hS => ?_)
      have hP : va_P D classes [(a, .inr (0, [.int (nI lim), .ref r, .int x])), (r, .inl ((kA 0), n, .inl f))] H := hP
      have hD : va_D A [(a, .inr (0, [.int (nI lim), .ref r, .int x])), (r, .inl ((kA 0), n, .inl f))] := hD
      refine lv_iconst (v := 1) hx hb d_Bytes_keepFirst_19 (by decide) ?_
      exact zk_zret S hr (by decide) hlk hS (Or.inl ⟨k, ex, hk, rfl, r, f, by unfold wB; rw [hlen, ← ex]; exact hP, by unfold wB; rw [hlen, ← ex]; exact hD, zBs_take hbs⟩) (Nat.le_refl _) (Nat.le_refl _) d_Bytes_keepFirst_20
    · refine lv_iconst (v := 0) hx hb d_Bytes_keepFirst_12 (by decide) ?_
      exact zk_zret S hr (by decide) hlk hS (Or.inr ⟨fun k hk q => c9 (by rw [q]; exact nI_le hk (by omega)), rfl, r, f, hP, hD, hbs⟩) (Nat.le_refl _) (Nat.le_refl _) d_Bytes_keepFirst_13
