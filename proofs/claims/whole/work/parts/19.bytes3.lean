set_option maxHeartbeats 4000000 in
set_option maxRecDepth 100000 in
/-- Bytes.dropFirst(n) -/
theorem c_Bytes_dropFirst (l : Launch) (D : va_G) (kA : Nat → ClassId) (a r lim n : Nat) (f : Nat → Int32) (bs : List Nat) (x : Int32) (sz0 : Nat) : Met l y_Bytes_dropFirst (Cond.code y_Bytes_dropFirst b_Bytes_dropFirst 2 (some .boolean) :: zTB) { frames := 1, cells := 0, slots := 0, locals := 40 } (zk_Pc D classes (zTY kA) [.ref a, .int x] (fun H => H.size = sz0 ∧ va_P D classes [(a, .inr (0, [.int (nI lim), .ref r, .int (nI bs.length)])), (r, .inl ((kA 0), n, .inl f))] H ∧ va_D (fun _ => True) [(a, .inr (0, [.int (nI lim), .ref r, .int (nI bs.length)])), (r, .inl ((kA 0), n, .inl f))] ∧ zBs lim n f bs)) (zk_mQ (fun v H => (∃ k, x = nI k ∧ k ≤ bs.length ∧ v = some (.int 1) ∧ BsPost D kA (va_A [(a, .inr (0, [.int (nI lim), .ref r, .int (nI bs.length)])), (r, .inl ((kA 0), n, .inl f))] sz0) H a lim n (bs.drop k)) ∨ ((∀ k, k ≤ bs.length → x ≠ nI k) ∧ v = some (.int 0) ∧ BsPost D kA (va_A [(a, .inr (0, [.int (nI lim), .ref r, .int (nI bs.length)])), (r, .inl ((kA 0), n, .inl f))] sz0) H a lim n bs)) (va_A [(a, .inr (0, [.int (nI lim), .ref r, .int (nI bs.length)])), (r, .inl ((kA 0), n, .inl f))] sz0)) 0 0 (va_A [(a, .inr (0, [.int (nI lim), .ref r, .int (nI bs.length)])), (r, .inl ((kA 0), n, .inl f))] sz0) := by
  refine zk_of [.ref a, .int x] (by decide) (Nat.le_of_ble_eq_true rfl) ?_
  intro p e s m below meth c S hr hlk hnm hK hX hpre ls hl
  obtain ⟨hx, hb, hml, hown, ht⟩ := id S
  have hl : lv_has ls 2 [(0, .ref a), (1, .int x)] := hl
  obtain ⟨hsz, hP, hD0, hbs⟩ := hpre
  subst hsz
  have hD := hD0.self (sz := s.heap.size)
  generalize hAe : va_A [(a, .inr (0, [.int (nI lim), .ref r, .int (nI bs.length)])), (r, .inl ((kA 0), n, .inl f))] s.heap.size = A at hD ⊢
  have hA : ∀ q : Nat, s.heap.size ≤ q → A q := fun q h => by rw [← hAe]; exact Or.inr h
  have hS : va_S A s.heap s.heap [] := va_S.rf
  have hP : va_P D classes [(a, .inr (0, [.int (nI lim), .ref r, .int (nI bs.length)])), (r, .inl ((kA 0), n, .inl f))] s.heap := hP
  refine lv_iload_n hx hb d_Bytes_dropFirst_0 rfl (lv_at hl 1 rfl) ?_
  obtain ⟨h1, h2, h3, h4, h5⟩ := id hbs
  refine lv_if_lt (tgt := 12) hx hb d_Bytes_dropFirst_1 (by decide) (fun c1 => ?_) (fun c1 => ?_)
  · refine lv_iconst (v := 0) hx hb d_Bytes_dropFirst_12 (by decide) ?_
    exact zk_zret S hr (by decide) hlk hS (Or.inr ⟨fun k hk q => absurd c1 (by rw [q]; exact nI_pos (by omega)), rfl, r, f, hP, hD, hbs⟩) (Nat.le_refl _) (Nat.le_refl _) d_Bytes_dropFirst_13
  · refine lv_iload_n hx hb d_Bytes_dropFirst_4 rfl (lv_at hl 1 rfl) ?_
    refine lv_aload_n hx hb d_Bytes_dropFirst_5 rfl (lv_at hl 0 rfl) ?_
    refine zk_get (C := R_Bytes) (T := F_Bytes) (N := 3) S hK (hP 0 _ rfl) rfl i_Bytes 2 (by decide) m_Bytes_28 rfl rfl d_Bytes_dropFirst_6 ?_
    refine lv_icmp_le (tgt := 14) hx hb d_Bytes_dropFirst_9 (by decide) (fun c9 => ?_) (fun c9 => ?_)
    · obtain ⟨k, hk, ex⟩ := nI_of2 (n := bs.length) (nI_toInt (by omega)) c1 c9
      refine lv_aload_n hx hb d_Bytes_dropFirst_14 rfl (lv_at hl 0 rfl) ?_
      refine zk_get (C := R_Bytes) (T := F_Bytes) (N := 3) S hK (hP 0 _ rfl) rfl i_Bytes 1 (by decide) m_Bytes_24 rfl rfl d_Bytes_dropFirst_15 ?_
      refine lv_iload_n hx hb d_Bytes_dropFirst_18 rfl (lv_at hl 1 rfl) ?_
      refine lv_aload_n hx hb d_Bytes_dropFirst_19 rfl (lv_at hl 0 rfl) ?_
      refine zk_get (C := R_Bytes) (T := F_Bytes) (N := 3) S hK (hP 0 _ rfl) rfl i_Bytes 1 (by decide) m_Bytes_24 rfl rfl d_Bytes_dropFirst_20 ?_
      refine lv_iconst (v := 0) hx hb d_Bytes_dropFirst_23 (by decide) ?_
      refine lv_aload_n hx hb d_Bytes_dropFirst_24 rfl (lv_at hl 0 rfl) ?_
      refine zk_get (C := R_Bytes) (T := F_Bytes) (N := 3) S hK (hP 0 _ rfl) rfl i_Bytes 2 (by decide) m_Bytes_28 rfl rfl d_Bytes_dropFirst_25 ?_
      refine lv_iload_n hx hb d_Bytes_dropFirst_28 rfl (lv_at hl 1 rfl) ?_
      refine lv_isub hx hb d_Bytes_dropFirst_29 ?_
      refine zk_ti (z := nI (bs.length - k)) (by rw [ex]; exact pk_sub hk) ?_
      refine va_copyi hx hb (by rw [hml]; exact hl.1.symm) hown (ht _ m_Bytes_35) (ht _ m_ac_n) (ht _ m_ac_s) (ht _ m_ini_System) hK hP hD hS 1 1 0 0 rfl rfl rfl rfl rfl c1 (by decide) (nI_pos (by omega)) (by rw [ex, nI_clamp (by omega), nI_clamp (by omega)]; omega) (by rw [nI_clamp (by omega)]; show 0 + _ ≤ n; omega) (fun i hi => by
        rw [nI_clamp (by omega)] at hi
        rw [ex, nI_clamp (by omega), (h5 (k + i) (by omega)).2]
        exact sb_fitB _) (Nat.le_of_ble_eq_true rfl) (by show _ ≤ (40 : Nat); decide) d_Bytes_dropFirst_30 (fun H locs hP hD hS => ?_)
      generalize hg : va_cpy f f x.toNatClampNeg (0 : Int32).toNatClampNeg (nI (bs.length - k)).toNatClampNeg = g at hP hD
      have hP : va_P D classes [(a, .inr (0, [.int (nI lim), .ref r, .int (nI bs.length)])), (r, .inl ((kA 0), n, .inl g))] H := hP
      have hD : va_D A [(a, .inr (0, [.int (nI lim), .ref r, .int (nI bs.length)])), (r, .inl ((kA 0), n, .inl g))] := hD
      refine lv_aload_n hx hb d_Bytes_dropFirst_33 rfl (lv_at hl 0 rfl) ?_
      refine lv_dup hx hb d_Bytes_dropFirst_34 rfl ?_
      refine zk_get (C := R_Bytes) (T := F_Bytes) (N := 3) S hK (hP 0 _ rfl) rfl i_Bytes 2 (by decide) m_Bytes_28 rfl rfl d_Bytes_dropFirst_35 ?_
      refine lv_iload_n hx hb d_Bytes_dropFirst_38 rfl (lv_at hl 1 rfl) ?_
      refine lv_isub hx hb d_Bytes_dropFirst_39 ?_
      refine zk_ti (z := nI (bs.length - k)) (by rw [ex]; exact pk_sub hk) ?_
      refine va_put (D := D) (ci := 0) (v := .int (nI (bs.length - k))) (ty := .int) (C := R_Bytes) (T := F_Bytes) (N := 3) hx hb ht i_Bytes t_Bytes t_Bytes_ok n_Bytes hown hK hP hD hS 0 rfl rfl 2 (by decide) (ht _ m_Bytes_28) (fun _ h9 => h9) rfl (by decide +kernel) rfl rfl (Nat.le_of_ble_eq_true rfl) d_Bytes_dropFirst_40 (fun H locs hP hD hS => ?_)
      have hP : va_P D classes [(a, .inr (0, [.int (nI lim), .ref r, .int (nI (bs.length - k))])), (r, .inl ((kA 0), n, .inl g))] H := hP
      have hD : va_D A [(a, .inr (0, [.int (nI lim), .ref r, .int (nI (bs.length - k))])), (r, .inl ((kA 0), n, .inl g))] := hD
      refine lv_iconst (v := 1) hx hb d_Bytes_dropFirst_43 (by decide) ?_
      exact zk_zret S hr (by decide) hlk hS (Or.inl ⟨k, ex, hk, rfl, r, g, by unfold wB; rw [List.length_drop]; exact hP, by unfold wB; rw [List.length_drop]; exact hD, zBs_drop hbs (fun i hi => by
        rw [← hg, ex, nI_clamp (by omega), nI_clamp (by omega), sb_cl0, pk_cpy_in (Nat.zero_le _) (by omega)]
        rfl)⟩) (Nat.le_refl _) (Nat.le_refl _) d_Bytes_dropFirst_44
    · refine lv_iconst (v := 0) hx hb d_Bytes_dropFirst_12 (by decide) ?_
      exact zk_zret S hr (by decide) hlk hS (Or.inr ⟨fun k hk q => c9 (by rw [q]; exact nI_le hk (by omega)), rfl, r, f, hP, hD, hbs⟩) (Nat.le_refl _) (Nat.le_refl _) d_Bytes_dropFirst_13

set_option maxHeartbeats 4000000 in
set_option maxRecDepth 100000 in
/-- Arrays.copyOf(row, k), k beyond its length -/
theorem c_Arrays_copyOf (l : Launch) (D : va_G) (kA : Nat → ClassId) (r n k : Nat) (f : Nat → Int32) (hk : n < k) (hk2 : k ≤ 65536) (hf : ∀ i, i < n → fits .byte (.int (f i)) = true) (sz0 : Nat) : Met l y_Arrays_copyOf (Cond.code y_Arrays_copyOf b_Arrays_copyOf 3 (some (.array .byte)) :: zTB) { frames := 1, cells := 1, slots := k, locals := 40 } (zk_Pc D classes (zTY kA) [.ref r, .int (nI k)] (fun H => H.size = sz0 ∧ va_P D classes [(r, .inl ((kA 0), n, .inl f))] H ∧ va_D (fun _ => True) [(r, .inl ((kA 0), n, .inl f))])) (zk_mQ (fun v H => ∃ (q : Nat) (g : Nat → Int32), v = some (.ref q) ∧ va_P D classes [(r, .inl (kA 0, n, .inl f)), (q, .inl (kA 0, k, .inl g))] H ∧ va_D (va_A [(r, .inl ((kA 0), n, .inl f))] sz0) [(r, .inl (kA 0, n, .inl f)), (q, .inl (kA 0, k, .inl g))] ∧ ∀ i, i < n → g i = f i) (va_A [(r, .inl ((kA 0), n, .inl f))] sz0)) 1 k (va_A [(r, .inl ((kA 0), n, .inl f))] sz0) := by
  refine zk_of [.ref r, .int (nI k)] (by decide) (Nat.le_of_ble_eq_true rfl) ?_
  intro p e s m below meth c S hr hlk hnm hK hX hpre ls hl
  obtain ⟨hx, hb, hml, hown, ht⟩ := id S
  have hl : lv_has ls 3 [(0, .ref r), (1, .int (nI k))] := hl
  obtain ⟨hsz, hP, hD0⟩ := hpre
  subst hsz
  have hD := hD0.self (sz := s.heap.size)
  generalize hAe : va_A [(r, .inl ((kA 0), n, .inl f))] s.heap.size = A at hD ⊢
  have hA : ∀ q : Nat, s.heap.size ≤ q → A q := fun q h => by rw [← hAe]; exact Or.inr h
  have hS : va_S A s.heap s.heap [] := va_S.rf
  have hP : va_P D classes [(r, .inl ((kA 0), n, .inl f))] s.heap := hP
  refine lv_iload_n hx hb d_Arrays_copyOf_0 rfl (lv_at hl 1 rfl) ?_
  refine lv_aload_n hx hb d_Arrays_copyOf_1 rfl (lv_at hl 0 rfl) ?_
  refine zk_alen S hK 0 (hP 0 _ rfl) rfl (v := nI n) rfl d_Arrays_copyOf_2 ?_
  refine lv_icmp_ne (tgt := 14) hx hb d_Arrays_copyOf_3 (by decide) (fun c3 => ?_) (fun c3 => ?_)
  · refine lv_iload_n hx hb d_Arrays_copyOf_14 rfl (lv_at hl 1 rfl) ?_
    refine zk_newa (a0 := (k, .inl (fun _ => 0))) (N' := k) S m_arr_byte rfl (fun _ h => by cases h) hK 0 rfl hP hD hS hA (fun _ => rfl) (nI_pos (by omega)) (nI_clamp (by omega)) (by show k * 1 ≤ 536870912; omega) (Nat.le_refl _) (by show 0 + k ≤ k; omega) d_Arrays_copyOf_15 (fun q H hP hD hS => ?_)
    have hP : va_P D classes [(r, .inl ((kA 0), n, .inl f)), (q, .inl ((kA 0), k, .inl (fun _ => 0)))] H := hP
    have hD : va_D A [(r, .inl ((kA 0), n, .inl f)), (q, .inl ((kA 0), k, .inl (fun _ => 0)))] := hD
    refine lv_astore_n (lv' := [(2, .ref q), (0, .ref r), (1, .int (nI k))]) hx hb d_Arrays_copyOf_17 rfl hl (by decide) rfl (fun ls hl => ?_)
    refine lv_aload_n hx hb d_Arrays_copyOf_18 rfl (lv_at hl 1 rfl) ?_
    refine lv_iconst (v := 0) hx hb d_Arrays_copyOf_19 (by decide) ?_
    refine lv_aload_n hx hb d_Arrays_copyOf_20 rfl (lv_at hl 0 rfl) ?_
    refine lv_iconst (v := 0) hx hb d_Arrays_copyOf_21 (by decide) ?_
    refine lv_aload_n hx hb d_Arrays_copyOf_22 rfl (lv_at hl 1 rfl) ?_
    refine zk_alen S hK 0 (hP 0 _ rfl) rfl (v := nI n) rfl d_Arrays_copyOf_23 ?_
    refine lv_iload_n hx hb d_Arrays_copyOf_24 rfl (lv_at hl 2 rfl) ?_
    refine va_mmin hx hb (by rw [hml]; exact hl.1.symm) hown (ht _ m_Arrays_304) (ht _ m_min_s) (ht _ m_ini_Math) (ht _ m_min_c) (Nat.le_of_ble_eq_true rfl) (Nat.le_of_ble_eq_true rfl) (Nat.le_refl _) (by show 0 + k ≤ k; omega) d_Arrays_copyOf_25 ?_
    refine zk_ti (z := nI n) (if_neg (nI_nlt (by omega) (by omega))) ?_
    refine va_copyi hx hb (by rw [hml]; exact hl.1.symm) hown (ht _ m_Arrays_150) (ht _ m_ac_n) (ht _ m_ac_s) (ht _ m_ini_System) hK hP hD hS 0 1 0 0 rfl rfl rfl rfl rfl (by decide) (by decide) (nI_pos (by omega)) (by rw [nI_clamp (by omega)]; show 0 + n ≤ n; omega) (by rw [nI_clamp (by omega)]; show 0 + n ≤ k; omega) (fun i hi => by
      rw [nI_clamp (by omega)] at hi
      show fits .byte (.int (f (0 + i))) = true
      rw [Nat.zero_add]; exact hf i hi) (Nat.le_of_ble_eq_true rfl) (by show _ ≤ (40 : Nat); decide) d_Arrays_copyOf_28 (fun H locs hP hD hS => ?_)
    generalize hg : va_cpy f (fun _ => 0) (0 : Int32).toNatClampNeg (0 : Int32).toNatClampNeg (nI n).toNatClampNeg = g at hP hD
    have hP : va_P D classes [(r, .inl ((kA 0), n, .inl f)), (q, .inl ((kA 0), k, .inl g))] H := hP
    have hD : va_D A [(r, .inl ((kA 0), n, .inl f)), (q, .inl ((kA 0), k, .inl g))] := hD
    refine lv_aload_n hx hb d_Arrays_copyOf_31 rfl (lv_at hl 0 rfl) ?_
    exact zk_aret S hr (Or.inr ⟨_, rfl⟩) hlk hS ⟨q, g, rfl, hP, hD, fun i hi => by
      rw [← hg, nI_clamp (by omega)]
      exact sb_cpy0 hi⟩ (Nat.le_refl _) (by omega) d_Arrays_copyOf_32
  · exact absurd c3 (fun h => absurd ((nI_eq (by omega) (by omega)).mp h) (by omega))

set_option maxHeartbeats 4000000 in
set_option maxRecDepth 100000 in
/-- Bytes.append(v) -/
theorem c_Bytes_append (l : Launch) (D : va_G) (kA : Nat → ClassId) (a r lim n : Nat) (f : Nat → Int32) (bs : List Nat) (x : Int32) (sz0 : Nat) : Met l y_Bytes_append (Cond.code y_Bytes_append b_Bytes_append 2 none :: zTB) { frames := 2, cells := zCap lim n bs.length - n, slots := 3 * (zCap lim n bs.length - n), locals := 62 } (zk_Pc D classes (zTY kA) [.ref a, .int x] (fun H => H.size = sz0 ∧ va_P D classes [(a, .inr (0, [.int (nI lim), .ref r, .int (nI bs.length)])), (r, .inl ((kA 0), n, .inl f))] H ∧ va_D (fun _ => True) [(a, .inr (0, [.int (nI lim), .ref r, .int (nI bs.length)])), (r, .inl ((kA 0), n, .inl f))] ∧ zBs lim n f bs)) (zk_mQ (fun v H => v = none ∧ BsPost D kA (va_A [(a, .inr (0, [.int (nI lim), .ref r, .int (nI bs.length)])), (r, .inl ((kA 0), n, .inl f))] sz0) H a lim (zCap lim n bs.length) (zApp lim bs (zByte x))) (va_A [(a, .inr (0, [.int (nI lim), .ref r, .int (nI bs.length)])), (r, .inl ((kA 0), n, .inl f))] sz0)) (zCap lim n bs.length - n) (3 * (zCap lim n bs.length - n)) (va_A [(a, .inr (0, [.int (nI lim), .ref r, .int (nI bs.length)])), (r, .inl ((kA 0), n, .inl f))] sz0) := by
  refine zk_of [.ref a, .int x] (by decide) (Nat.le_of_ble_eq_true rfl) ?_
  intro p e s m below meth c S hr hlk hnm hK hX hpre ls hl
  obtain ⟨hx, hb, hml, hown, ht⟩ := id S
  have hl : lv_has ls 2 [(0, .ref a), (1, .int x)] := hl
  obtain ⟨hsz, hP, hD0, hbs⟩ := hpre
  subst hsz
  have hD := hD0.self (sz := s.heap.size)
  generalize hAe : va_A [(a, .inr (0, [.int (nI lim), .ref r, .int (nI bs.length)])), (r, .inl ((kA 0), n, .inl f))] s.heap.size = A at hD ⊢
  have hA : ∀ q : Nat, s.heap.size ≤ q → A q := fun q h => by rw [← hAe]; exact Or.inr h
  have hS : va_S A s.heap s.heap [] := va_S.rf
  have hP : va_P D classes [(a, .inr (0, [.int (nI lim), .ref r, .int (nI bs.length)])), (r, .inl ((kA 0), n, .inl f))] s.heap := hP
  obtain ⟨h1, h2, h3, h4, h5⟩ := id hbs
  refine lv_aload_n hx hb d_Bytes_append_0 rfl (lv_at hl 0 rfl) ?_
  refine zk_get (C := R_Bytes) (T := F_Bytes) (N := 3) S hK (hP 0 _ rfl) rfl i_Bytes 2 (by decide) m_Bytes_28 rfl rfl d_Bytes_append_1 ?_
  refine lv_aload_n hx hb d_Bytes_append_4 rfl (lv_at hl 0 rfl) ?_
  refine zk_get (C := R_Bytes) (T := F_Bytes) (N := 3) S hK (hP 0 _ rfl) rfl i_Bytes 0 (by decide) m_Bytes_15 rfl rfl d_Bytes_append_5 ?_
  refine lv_icmp_lt (tgt := 12) hx hb d_Bytes_append_8 (by decide) (fun c8 => ?_) (fun c8 => ?_)
  · have hll : bs.length < lim := (nI_ltI (by omega) (by omega)).mp c8
    refine lv_aload_n hx hb d_Bytes_append_12 rfl (lv_at hl 0 rfl) ?_
    refine zk_get (C := R_Bytes) (T := F_Bytes) (N := 3) S hK (hP 0 _ rfl) rfl i_Bytes 2 (by decide) m_Bytes_28 rfl rfl d_Bytes_append_13 ?_
    refine lv_aload_n hx hb d_Bytes_append_16 rfl (lv_at hl 0 rfl) ?_
    refine zk_get (C := R_Bytes) (T := F_Bytes) (N := 3) S hK (hP 0 _ rfl) rfl i_Bytes 1 (by decide) m_Bytes_24 rfl rfl d_Bytes_append_17 ?_
    refine zk_alen S hK 0 (hP 1 _ rfl) rfl (v := nI n) rfl d_Bytes_append_20 ?_
    refine lv_icmp_lt (tgt := 51) hx hb d_Bytes_append_21 (by decide) (fun c21 => ?_) (fun c21 => ?_)
    · have hlt : bs.length < n := (nI_ltI (by omega) (by omega)).mp c21
      refine lv_aload_n hx hb d_Bytes_append_51 rfl (lv_at hl 0 rfl) ?_
      refine zk_get (C := R_Bytes) (T := F_Bytes) (N := 3) S hK (hP 0 _ rfl) rfl i_Bytes 2 (by decide) m_Bytes_28 rfl rfl d_Bytes_append_52 ?_
      refine lv_aload_n hx hb d_Bytes_append_55 rfl (lv_at hl 0 rfl) ?_
      refine zk_get (C := R_Bytes) (T := F_Bytes) (N := 3) S hK (hP 0 _ rfl) rfl i_Bytes 1 (by decide) m_Bytes_24 rfl rfl d_Bytes_append_56 ?_
      refine zk_alen S hK 0 (hP 1 _ rfl) rfl (v := nI n) rfl d_Bytes_append_59 ?_
      refine lv_icmp_ge (tgt := 84) hx hb d_Bytes_append_60 (by decide) (fun c60 => ?_) (fun c60 => ?_)
      · exact absurd ((nI_leI (by omega) (by omega)).mp c60) (by omega)
      · refine lv_aload_n hx hb d_Bytes_append_63 rfl (lv_at hl 0 rfl) ?_
        refine zk_get (C := R_Bytes) (T := F_Bytes) (N := 3) S hK (hP 0 _ rfl) rfl i_Bytes 1 (by decide) m_Bytes_24 rfl rfl d_Bytes_append_64 ?_
        refine lv_aload_n hx hb d_Bytes_append_67 rfl (lv_at hl 0 rfl) ?_
        refine zk_get (C := R_Bytes) (T := F_Bytes) (N := 3) S hK (hP 0 _ rfl) rfl i_Bytes 2 (by decide) m_Bytes_28 rfl rfl d_Bytes_append_68 ?_
        refine lv_iload_n hx hb d_Bytes_append_71 rfl (lv_at hl 1 rfl) ?_
        refine lv_i2b hx hb d_Bytes_append_72 rfl ?_
        refine zk_ti (z := x.toInt8.toInt32) (rfl) ?_
        refine va_bast hx hb hK hP hD hS 1 0 rfl rfl (vp_in_nI (by omega) (by omega)) d_Bytes_append_73 (fun H locs hP hD hS => ?_)
        rw [nI_clamp (by omega), pk_vb, zByte_b] at hP hD
        have hP : va_P D classes [(a, .inr (0, [.int (nI lim), .ref r, .int (nI bs.length)])), (r, .inl ((kA 0), n, .inl (upd f bs.length (sb_b (zByte x)))))] H := hP
        have hD : va_D A [(a, .inr (0, [.int (nI lim), .ref r, .int (nI bs.length)])), (r, .inl ((kA 0), n, .inl (upd f bs.length (sb_b (zByte x)))))] := hD
        refine lv_aload_n hx hb d_Bytes_append_74 rfl (lv_at hl 0 rfl) ?_
        refine lv_dup hx hb d_Bytes_append_75 rfl ?_
        refine zk_get (C := R_Bytes) (T := F_Bytes) (N := 3) S hK (hP 0 _ rfl) rfl i_Bytes 2 (by decide) m_Bytes_28 rfl rfl d_Bytes_append_76 ?_
        refine lv_iconst (v := 1) hx hb d_Bytes_append_79 (by decide) ?_
        refine lv_iadd hx hb d_Bytes_append_80 ?_
        refine zk_ti (z := nI (bs.length + 1)) (nI_1 _) ?_
        refine va_put (D := D) (ci := 0) (v := .int (nI (bs.length + 1))) (ty := .int) (C := R_Bytes) (T := F_Bytes) (N := 3) hx hb ht i_Bytes t_Bytes t_Bytes_ok n_Bytes hown hK hP hD hS 0 rfl rfl 2 (by decide) (ht _ m_Bytes_28) (fun _ h9 => h9) rfl (by decide +kernel) rfl rfl (Nat.le_of_ble_eq_true rfl) d_Bytes_append_81 (fun H locs hP hD hS => ?_)
        have hP : va_P D classes [(a, .inr (0, [.int (nI lim), .ref r, .int (nI (bs.length + 1))])), (r, .inl ((kA 0), n, .inl (upd f bs.length (sb_b (zByte x)))))] H := hP
        have hD : va_D A [(a, .inr (0, [.int (nI lim), .ref r, .int (nI (bs.length + 1))])), (r, .inl ((kA 0), n, .inl (upd f bs.length (sb_b (zByte x)))))] := hD
        have hap : zApp lim bs (zByte x) = bs ++ [zByte x] := if_pos hll
        have hz := zBs_snoc hbs hlt (zByte_lt x)
        have hP9 := hP.sub (ws' := [(a, .inr (0, [.int (nI lim), .ref r, .int (nI (bs.length + 1))])), (r, .inl ((kA 0), n, .inl (upd f bs.length (sb_b (zByte x)))))]) [0, 1] rfl
        have hD9 := hD.sub (ws' := [(a, .inr (0, [.int (nI lim), .ref r, .int (nI (bs.length + 1))])), (r, .inl ((kA 0), n, .inl (upd f bs.length (sb_b (zByte x)))))]) [0, 1] (by decide) rfl
        exact zk_vret S hr hlk hS ⟨rfl, by
          rw [hap, show zCap lim n bs.length = n from if_pos hlt]
          exact ⟨r, _, by unfold wB; rw [List.length_append]; exact hP9, by unfold wB; rw [List.length_append]; exact hD9, hz⟩⟩ (by omega) (by omega) d_Bytes_append_84
    · have hen : bs.length = n := by
        have : ¬ bs.length < n := fun q => c21 (nI_lt q (by omega))
        omega
      have hcap : zCap lim n bs.length = min lim (bs.length + bs.length) := by
        unfold zCap
        rw [if_neg (by omega), if_neg (by omega)]
      obtain ⟨hg1, hg2, hg3⟩ := zOk_grow h4.2 (show n < lim by omega)
      have hcap2 : zCap lim n bs.length = min lim (n + n) := by rw [hcap, hen]
      rw [← hcap2] at hg1 hg2 hg3
      have hbig : n < zCap lim n bs.length := hg3
      refine lv_aload_n hx hb d_Bytes_append_24 rfl (lv_at hl 0 rfl) ?_
      refine lv_aload_n hx hb d_Bytes_append_25 rfl (lv_at hl 0 rfl) ?_
      refine zk_get (C := R_Bytes) (T := F_Bytes) (N := 3) S hK (hP 0 _ rfl) rfl i_Bytes 1 (by decide) m_Bytes_24 rfl rfl d_Bytes_append_26 ?_
      refine lv_aload_n hx hb d_Bytes_append_29 rfl (lv_at hl 0 rfl) ?_
      refine zk_get (C := R_Bytes) (T := F_Bytes) (N := 3) S hK (hP 0 _ rfl) rfl i_Bytes 0 (by decide) m_Bytes_15 rfl rfl d_Bytes_append_30 ?_
      refine lv_aload_n hx hb d_Bytes_append_33 rfl (lv_at hl 0 rfl) ?_
      refine zk_get (C := R_Bytes) (T := F_Bytes) (N := 3) S hK (hP 0 _ rfl) rfl i_Bytes 2 (by decide) m_Bytes_28 rfl rfl d_Bytes_append_34 ?_
      refine lv_aload_n hx hb d_Bytes_append_37 rfl (lv_at hl 0 rfl) ?_
      refine zk_get (C := R_Bytes) (T := F_Bytes) (N := 3) S hK (hP 0 _ rfl) rfl i_Bytes 2 (by decide) m_Bytes_28 rfl rfl d_Bytes_append_38 ?_
      refine lv_iadd hx hb d_Bytes_append_41 ?_
      refine zk_ti (z := nI (bs.length + bs.length)) (nI_add _ _) ?_
      refine va_mmin hx hb (by rw [hml]; exact hl.1.symm) hown (ht _ m_Bytes_21) (ht _ m_min_s) (ht _ m_ini_Math) (ht _ m_min_c) (Nat.le_of_ble_eq_true rfl) (Nat.le_of_ble_eq_true rfl) (Nat.zero_le _) (Nat.zero_le _) d_Bytes_append_42 ?_
      refine zk_ti (z := nI (zCap lim n bs.length)) (by
        rw [hcap]
        by_cases q : bs.length + bs.length < lim
        · rw [if_pos (nI_lt q (by omega)), Nat.min_eq_right (by omega)]
        · rw [if_neg (nI_nlt (by omega) (by omega)), Nat.min_eq_left (by omega)]) ?_
      have hFc := va_free (wc := [(r, .inl ((kA 0), n, .inl f))]) hD hS hA [1] rfl
      refine zk_mut (zk_runS (As := [.ref r, .int (nI (zCap lim n bs.length))]) (rest := [.ref a]) S m_Bytes_41 (c_Arrays_copyOf l D kA r n (zCap lim n bs.length) f hbig (by rw [hcap]; omega) (fun i hi => by rw [(h5 i (by omega)).2]; exact sb_fitB _) s.heap.size) rfl rfl ⟨Nat.le_of_ble_eq_true rfl, Nat.le_of_ble_eq_true rfl⟩ hK hX ⟨rfl, hP.sub (ws' := [(r, .inl ((kA 0), n, .inl f))]) [1] rfl, (hD.sub (ws' := [(r, .inl ((kA 0), n, .inl f))]) [1] (by decide) rfl).weaken (fun _ _ _ _ => trivial)⟩ rfl hl.1 rfl (Nat.le_of_ble_eq_true rfl) ⟨by show 0 + 1 ≤ zCap lim n bs.length - n; omega, by show 0 + zCap lim n bs.length ≤ 3 * (zCap lim n bs.length - n); omega⟩ d_Bytes_append_45) hS hFc hFc (fun v H locs hpost hz1 hk1 hS => ?_)
      obtain ⟨q, g, rfl, hP1, hD1, hg⟩ := hpost
      obtain ⟨hP, hD⟩ := va_join (wr := [(a, .inr (0, [.int (nI lim), .ref r, .int (nI bs.length)]))]) (w1 := [(r, .inl ((kA 0), n, .inl f)), (q, .inl ((kA 0), (zCap lim n bs.length), .inl g))]) hP hD [1] [0] rfl rfl (by decide) (by decide) hk1 hFc hP1 hD1
      refine W.eq (g2 := F0 m 48 ls [.ref q, .ref a]) rfl ?_
      have hP : va_P D classes [(a, .inr (0, [.int (nI lim), .ref r, .int (nI bs.length)])), (r, .inl ((kA 0), n, .inl f)), (q, .inl ((kA 0), (zCap lim n bs.length), .inl g))] H := hP
      have hD : va_D A [(a, .inr (0, [.int (nI lim), .ref r, .int (nI bs.length)])), (r, .inl ((kA 0), n, .inl f)), (q, .inl ((kA 0), (zCap lim n bs.length), .inl g))] := hD
      refine va_put (D := D) (ci := 0) (v := .ref q) (ty := (.array .byte)) (C := R_Bytes) (T := F_Bytes) (N := 3) hx hb ht i_Bytes t_Bytes t_Bytes_ok n_Bytes hown hK hP hD hS 0 rfl rfl 1 (by decide) (ht _ m_Bytes_24) (fun _ h9 => h9) rfl (by decide +kernel) rfl rfl (Nat.le_of_ble_eq_true rfl) d_Bytes_append_48 (fun H locs hP hD hS => ?_)
      have hP : va_P D classes [(a, .inr (0, [.int (nI lim), .ref q, .int (nI bs.length)])), (r, .inl ((kA 0), n, .inl f)), (q, .inl ((kA 0), (zCap lim n bs.length), .inl g))] H := hP
      have hD : va_D A [(a, .inr (0, [.int (nI lim), .ref q, .int (nI bs.length)])), (r, .inl ((kA 0), n, .inl f)), (q, .inl ((kA 0), (zCap lim n bs.length), .inl g))] := hD
      have hP := hP.sub (ws' := [(a, .inr (0, [.int (nI lim), .ref q, .int (nI bs.length)])), (q, .inl ((kA 0), (zCap lim n bs.length), .inl g))]) [0, 2] rfl
      have hD := hD.sub (ws' := [(a, .inr (0, [.int (nI lim), .ref q, .int (nI bs.length)])), (q, .inl ((kA 0), (zCap lim n bs.length), .inl g))]) [0, 2] (by decide) rfl
      have hbs2 : zBs lim (zCap lim n bs.length) g bs := zBs_grow hbs (by omega) (by rw [hcap]; omega) hg1 hg
      refine lv_aload_n hx hb d_Bytes_append_51 rfl (lv_at hl 0 rfl) ?_
      refine zk_get (C := R_Bytes) (T := F_Bytes) (N := 3) S hK (hP 0 _ rfl) rfl i_Bytes 2 (by decide) m_Bytes_28 rfl rfl d_Bytes_append_52 ?_
      refine lv_aload_n hx hb d_Bytes_append_55 rfl (lv_at hl 0 rfl) ?_
      refine zk_get (C := R_Bytes) (T := F_Bytes) (N := 3) S hK (hP 0 _ rfl) rfl i_Bytes 1 (by decide) m_Bytes_24 rfl rfl d_Bytes_append_56 ?_
      refine zk_alen S hK 0 (hP 1 _ rfl) rfl (v := nI (zCap lim n bs.length)) rfl d_Bytes_append_59 ?_
      refine lv_icmp_ge (tgt := 84) hx hb d_Bytes_append_60 (by decide) (fun c60 => ?_) (fun c60 => ?_)
      · exact absurd ((nI_leI (by omega) (by omega)).mp c60) (by omega)
      · refine lv_aload_n hx hb d_Bytes_append_63 rfl (lv_at hl 0 rfl) ?_
        refine zk_get (C := R_Bytes) (T := F_Bytes) (N := 3) S hK (hP 0 _ rfl) rfl i_Bytes 1 (by decide) m_Bytes_24 rfl rfl d_Bytes_append_64 ?_
        refine lv_aload_n hx hb d_Bytes_append_67 rfl (lv_at hl 0 rfl) ?_
        refine zk_get (C := R_Bytes) (T := F_Bytes) (N := 3) S hK (hP 0 _ rfl) rfl i_Bytes 2 (by decide) m_Bytes_28 rfl rfl d_Bytes_append_68 ?_
        refine lv_iload_n hx hb d_Bytes_append_71 rfl (lv_at hl 1 rfl) ?_
        refine lv_i2b hx hb d_Bytes_append_72 rfl ?_
        refine zk_ti (z := x.toInt8.toInt32) (rfl) ?_
        refine va_bast hx hb hK hP hD hS 1 0 rfl rfl (vp_in_nI (by omega) (by omega)) d_Bytes_append_73 (fun H locs hP hD hS => ?_)
        rw [nI_clamp (by omega), pk_vb, zByte_b] at hP hD
        have hP : va_P D classes [(a, .inr (0, [.int (nI lim), .ref q, .int (nI bs.length)])), (q, .inl ((kA 0), (zCap lim n bs.length), .inl (upd g bs.length (sb_b (zByte x)))))] H := hP
        have hD : va_D A [(a, .inr (0, [.int (nI lim), .ref q, .int (nI bs.length)])), (q, .inl ((kA 0), (zCap lim n bs.length), .inl (upd g bs.length (sb_b (zByte x)))))] := hD
        refine lv_aload_n hx hb d_Bytes_append_74 rfl (lv_at hl 0 rfl) ?_
        refine lv_dup hx hb d_Bytes_append_75 rfl ?_
        refine zk_get (C := R_Bytes) (T := F_Bytes) (N := 3) S hK (hP 0 _ rfl) rfl i_Bytes 2 (by decide) m_Bytes_28 rfl rfl d_Bytes_append_76 ?_
        refine lv_iconst (v := 1) hx hb d_Bytes_append_79 (by decide) ?_
        refine lv_iadd hx hb d_Bytes_append_80 ?_
        refine zk_ti (z := nI (bs.length + 1)) (nI_1 _) ?_
        refine va_put (D := D) (ci := 0) (v := .int (nI (bs.length + 1))) (ty := .int) (C := R_Bytes) (T := F_Bytes) (N := 3) hx hb ht i_Bytes t_Bytes t_Bytes_ok n_Bytes hown hK hP hD hS 0 rfl rfl 2 (by decide) (ht _ m_Bytes_28) (fun _ h9 => h9) rfl (by decide +kernel) rfl rfl (Nat.le_of_ble_eq_true rfl) d_Bytes_append_81 (fun H locs hP hD hS => ?_)
        have hP : va_P D classes [(a, .inr (0, [.int (nI lim), .ref q, .int (nI (bs.length + 1))])), (q, .inl ((kA 0), (zCap lim n bs.length), .inl (upd g bs.length (sb_b (zByte x)))))] H := hP
        have hD : va_D A [(a, .inr (0, [.int (nI lim), .ref q, .int (nI (bs.length + 1))])), (q, .inl ((kA 0), (zCap lim n bs.length), .inl (upd g bs.length (sb_b (zByte x)))))] := hD
        have hap : zApp lim bs (zByte x) = bs ++ [zByte x] := if_pos hll
        have hz := zBs_snoc hbs2 (by omega) (zByte_lt x)
        have hP9 := hP.sub (ws' := [(a, .inr (0, [.int (nI lim), .ref q, .int (nI (bs.length + 1))])), (q, .inl ((kA 0), (zCap lim n bs.length), .inl (upd g bs.length (sb_b (zByte x)))))]) [0, 1] rfl
        have hD9 := hD.sub (ws' := [(a, .inr (0, [.int (nI lim), .ref q, .int (nI (bs.length + 1))])), (q, .inl ((kA 0), (zCap lim n bs.length), .inl (upd g bs.length (sb_b (zByte x)))))]) [0, 1] (by decide) rfl
        exact zk_vret S hr hlk hS ⟨rfl, by
          rw [hap]
          exact ⟨q, _, by unfold wB; rw [List.length_append]; exact hP9, by unfold wB; rw [List.length_append]; exact hD9, hz⟩⟩ (by omega) (by omega) d_Bytes_append_84
  · have hge : lim ≤ bs.length := Nat.not_lt.mp fun q => c8 (nI_lt q (by omega))
    exact zk_vret S hr hlk hS ⟨rfl, by
      rw [show zCap lim n bs.length = n by unfold zCap; rw [if_pos hge]; split <;> rfl, show zApp lim bs (zByte x) = bs from if_neg (Nat.not_lt.mpr hge)]
      exact ⟨r, f, hP, hD, hbs⟩⟩ (Nat.zero_le _) (Nat.zero_le _) d_Bytes_append_11
