set_option maxHeartbeats 4000000 in
set_option maxRecDepth 100000 in
/-- Bytes(limit) -/
theorem c_Bytes_init (l : Launch) (D : va_G) (kA : Nat → ClassId) (a lim : Nat) (hlim : 64 < lim) (hlim2 : lim ≤ 32768) (hok : zOk lim 64) (sz0 : Nat) : Met l y_Bytes_init (Cond.code y_Bytes_init b_Bytes_init 2 none :: zTB) { frames := 1, cells := 1, slots := 64, locals := 14 } (zk_Pc D classes (zTY kA) [.ref a, .int (nI lim)] (fun H => H.size = sz0 ∧ va_P D classes [(a, .inr (0, [.int 0, .null, .int 0]))] H ∧ va_D (fun _ => True) [(a, .inr (0, [.int 0, .null, .int 0]))])) (zk_mQ (fun v H => v = none ∧ BsPost D kA (va_A [(a, .inr (0, [.int 0, .null, .int 0]))] sz0) H a lim 64 []) (va_A [(a, .inr (0, [.int 0, .null, .int 0]))] sz0)) 1 64 (va_A [(a, .inr (0, [.int 0, .null, .int 0]))] sz0) := by
  refine zk_of [.ref a, .int (nI lim)] (by decide) (Nat.le_of_ble_eq_true rfl) ?_
  intro p e s m below meth c S hr hlk hnm hK hX hpre ls hl
  obtain ⟨hx, hb, hml, hown, ht⟩ := id S
  have hl : lv_has ls 2 [(0, .ref a), (1, .int (nI lim))] := hl
  obtain ⟨hsz, hP, hD0⟩ := hpre
  subst hsz
  have hD := hD0.self (sz := s.heap.size)
  generalize hAe : va_A [(a, .inr (0, [.int 0, .null, .int 0]))] s.heap.size = A at hD ⊢
  have hA : ∀ q : Nat, s.heap.size ≤ q → A q := fun q h => by rw [← hAe]; exact Or.inr h
  have hS : va_S A s.heap s.heap [] := va_S.rf
  have hP : va_P D classes [(a, .inr (0, [.int 0, .null, .int 0]))] s.heap := hP
  refine lv_aload_n hx hb d_Bytes_init_0 rfl (lv_at hl 0 rfl) ?_
  refine W.objInit hx hb hown (ht _ m_Bytes_3) (ht _ m_obj_i) (ht _ m_obj_c) rfl (by rw [hml]; exact hl.1) rfl d_Bytes_init_1 (Nat.le_of_ble_eq_true rfl) (Nat.le_of_ble_eq_true rfl) ?_
  refine W.eq (g2 := F0 m 4 ls []) rfl ?_
  refine lv_aload_n hx hb d_Bytes_init_4 rfl (lv_at hl 0 rfl) ?_
  refine lv_iconst (v := 0) hx hb d_Bytes_init_5 (by decide) ?_
  refine lv_iload_n hx hb d_Bytes_init_6 rfl (lv_at hl 1 rfl) ?_
  refine va_mmax hx hb (by rw [hml]; exact hl.1.symm) hown (ht _ m_Bytes_9) (ht _ m_max_s) (ht _ m_ini_Math) (ht _ m_max_c) (Nat.le_of_ble_eq_true rfl) (Nat.le_of_ble_eq_true rfl) (Nat.le_of_ble_eq_true rfl) (Nat.le_of_ble_eq_true rfl) d_Bytes_init_7 ?_
  refine zk_ti (z := nI lim) (if_pos (by rw [← nI_0]; exact nI_lt (by omega) (by omega))) ?_
  refine va_putF (D := D) (ci := 0) (v := .int (nI lim)) (ty := .int) (C := R_Bytes) (T := F_Bytes) (N := 3) hx hb ht i_Bytes t_Bytes t_Bytes_ok n_Bytes hown hK hP hD hS 0 rfl rfl 0 (by decide) (ht _ m_Bytes_15) (fun _ h9 => h9) rfl hnm rfl (by decide +kernel) rfl rfl (Nat.le_of_ble_eq_true rfl) d_Bytes_init_10 (fun H locs hP hD hS => ?_)
  have hP : va_P D classes [(a, .inr (0, [.int (nI lim), .null, .int 0]))] H := hP
  have hD : va_D A [(a, .inr (0, [.int (nI lim), .null, .int 0]))] := hD
  refine lv_aload_n hx hb d_Bytes_init_13 rfl (lv_at hl 0 rfl) ?_
  refine lv_aload_n hx hb d_Bytes_init_14 rfl (lv_at hl 0 rfl) ?_
  refine zk_get (C := R_Bytes) (T := F_Bytes) (N := 3) S hK (hP 0 _ rfl) rfl i_Bytes 0 (by decide) m_Bytes_15 rfl rfl d_Bytes_init_15 ?_
  refine lv_bipush (v := 64) hx hb d_Bytes_init_18 (by decide) ?_
  refine va_mmin hx hb (by rw [hml]; exact hl.1.symm) hown (ht _ m_Bytes_21) (ht _ m_min_s) (ht _ m_ini_Math) (ht _ m_min_c) (Nat.le_of_ble_eq_true rfl) (Nat.le_of_ble_eq_true rfl) (Nat.le_of_ble_eq_true rfl) (Nat.le_of_ble_eq_true rfl) d_Bytes_init_20 ?_
  refine zk_ti (z := nI 64) (if_pos (show nI 64 < nI lim from nI_lt hlim (by omega))) ?_
  refine zk_newa (a0 := (64, .inl (fun _ => 0))) (N' := 64) S m_arr_byte rfl (fun _ h => by cases h) hK 0 rfl hP hD hS hA (fun _ => rfl) (by decide) (rfl) (by show 64 * 1 ≤ 536870912; omega) (Nat.le_refl _) (Nat.le_refl _) d_Bytes_init_23 (fun q H hP hD hS => ?_)
  have hP : va_P D classes [(a, .inr (0, [.int (nI lim), .null, .int 0])), (q, .inl ((kA 0), 64, .inl (fun _ => 0)))] H := hP
  have hD : va_D A [(a, .inr (0, [.int (nI lim), .null, .int 0])), (q, .inl ((kA 0), 64, .inl (fun _ => 0)))] := hD
  refine va_put (D := D) (ci := 0) (v := .ref q) (ty := (.array .byte)) (C := R_Bytes) (T := F_Bytes) (N := 3) hx hb ht i_Bytes t_Bytes t_Bytes_ok n_Bytes hown hK hP hD hS 0 rfl rfl 1 (by decide) (ht _ m_Bytes_24) (fun _ h9 => h9) rfl (by decide +kernel) rfl rfl (Nat.le_of_ble_eq_true rfl) d_Bytes_init_25 (fun H locs hP hD hS => ?_)
  have hP : va_P D classes [(a, .inr (0, [.int (nI lim), .ref q, .int 0])), (q, .inl ((kA 0), 64, .inl (fun _ => 0)))] H := hP
  have hD : va_D A [(a, .inr (0, [.int (nI lim), .ref q, .int 0])), (q, .inl ((kA 0), 64, .inl (fun _ => 0)))] := hD
  refine lv_aload_n hx hb d_Bytes_init_28 rfl (lv_at hl 0 rfl) ?_
  refine lv_iconst (v := 0) hx hb d_Bytes_init_29 (by decide) ?_
  refine va_put (D := D) (ci := 0) (v := .int 0) (ty := .int) (C := R_Bytes) (T := F_Bytes) (N := 3) hx hb ht i_Bytes t_Bytes t_Bytes_ok n_Bytes hown hK hP hD hS 0 rfl rfl 2 (by decide) (ht _ m_Bytes_28) (fun _ h9 => h9) rfl (by decide +kernel) rfl rfl (Nat.le_of_ble_eq_true rfl) d_Bytes_init_30 (fun H locs hP hD hS => ?_)
  have hP : va_P D classes [(a, .inr (0, [.int (nI lim), .ref q, .int 0])), (q, .inl ((kA 0), 64, .inl (fun _ => 0)))] H := hP
  have hD : va_D A [(a, .inr (0, [.int (nI lim), .ref q, .int 0])), (q, .inl ((kA 0), 64, .inl (fun _ => 0)))] := hD
  exact zk_vret S hr hlk hS ⟨rfl, q, _, hP, hD, ⟨Nat.zero_le _, by omega, Nat.le_refl _, ⟨hlim2, hok⟩, fun i hi => absurd hi (Nat.not_lt_zero i)⟩⟩ (Nat.le_refl _) (Nat.le_refl _) d_Bytes_init_33

set_option maxHeartbeats 4000000 in
set_option maxRecDepth 100000 in
/-- Bytes.appendNumber(v) -/
theorem c_Bytes_appendNumber (l : Launch) (D : va_G) (kA : Nat → ClassId) (a r lim n : Nat) (f : Nat → Int32) (bs : List Nat) (x : Int32) (hroom : bs.length + 4 ≤ lim) (sz0 : Nat) : Met l y_Bytes_appendNumber (Cond.code y_Bytes_appendNumber b_Bytes_appendNumber 2 none :: zTB) { frames := 3, cells := zCapN lim n bs.length 4 - n, slots := 3 * (zCapN lim n bs.length 4 - n), locals := 83 } (zk_Pc D classes (zTY kA) [.ref a, .int x] (fun H => H.size = sz0 ∧ va_P D classes [(a, .inr (0, [.int (nI lim), .ref r, .int (nI bs.length)])), (r, .inl ((kA 0), n, .inl f))] H ∧ va_D (fun _ => True) [(a, .inr (0, [.int (nI lim), .ref r, .int (nI bs.length)])), (r, .inl ((kA 0), n, .inl f))] ∧ zBs lim n f bs)) (zk_mQ (fun v H => v = none ∧ BsPost D kA (va_A [(a, .inr (0, [.int (nI lim), .ref r, .int (nI bs.length)])), (r, .inl ((kA 0), n, .inl f))] sz0) H a lim (zCapN lim n bs.length 4) ((((bs ++ [zByte ((x.toUInt32 >>> ((24 : Int32).toUInt32 &&& Int32.toUInt32 31)).toInt32)]) ++ [zByte ((x.toUInt32 >>> ((16 : Int32).toUInt32 &&& Int32.toUInt32 31)).toInt32)]) ++ [zByte ((x.toUInt32 >>> ((8 : Int32).toUInt32 &&& Int32.toUInt32 31)).toInt32)]) ++ [zByte x])) (va_A [(a, .inr (0, [.int (nI lim), .ref r, .int (nI bs.length)])), (r, .inl ((kA 0), n, .inl f))] sz0)) (zCapN lim n bs.length 4 - n) (3 * (zCapN lim n bs.length 4 - n)) (va_A [(a, .inr (0, [.int (nI lim), .ref r, .int (nI bs.length)])), (r, .inl ((kA 0), n, .inl f))] sz0) := by
  refine zk_of [.ref a, .int x] (by decide) (Nat.le_of_ble_eq_true rfl) ?_
  intro p e s m below meth c S hr hlk hnm hK hX hpre ls hl
  obtain ⟨hx, hb, hml, hown, ht⟩ := id S
  have hl : lv_has ls 2 [(0, .ref a), (1, .int x)] := hl
  obtain ⟨hsz, hP, hD0, hbs0⟩ := hpre
  subst hsz
  have hD := hD0.self (sz := s.heap.size)
  generalize hAe : va_A [(a, .inr (0, [.int (nI lim), .ref r, .int (nI bs.length)])), (r, .inl ((kA 0), n, .inl f))] s.heap.size = A at hD ⊢
  have hA : ∀ q : Nat, s.heap.size ≤ q → A q := fun q h => by rw [← hAe]; exact Or.inr h
  have hS : va_S A s.heap s.heap [] := va_S.rf
  have hP : va_P D classes [(a, .inr (0, [.int (nI lim), .ref r, .int (nI bs.length)])), (r, .inl ((kA 0), n, .inl f))] s.heap := hP
  obtain ⟨z1, z2, z3, z4, z5⟩ := id hbs0
  obtain ⟨y11, y12, y13⟩ := zCapN_ge (lim := lim) z2 z1 1 (by omega) z2 (by omega)
  obtain ⟨y21, y22, y23⟩ := zCapN_ge (lim := lim) z2 z1 2 (by omega) z2 (by omega)
  obtain ⟨y31, y32, y33⟩ := zCapN_ge (lim := lim) z2 z1 3 (by omega) z2 (by omega)
  have w1 : zCapN lim n bs.length 1 ≤ zCapN lim n bs.length 2 := zCapN_mono y11
  have w2 : zCapN lim n bs.length 2 ≤ zCapN lim n bs.length 3 := zCapN_mono y21
  have w3 : zCapN lim n bs.length 3 ≤ zCapN lim n bs.length 4 := zCapN_mono y31
  refine lv_aload_n hx hb d_Bytes_appendNumber_0 rfl (lv_at hl 0 rfl) ?_
  refine lv_iload_n hx hb d_Bytes_appendNumber_1 rfl (lv_at hl 1 rfl) ?_
  refine lv_bipush (v := 24) hx hb d_Bytes_appendNumber_2 (by decide) ?_
  refine lv_iushr hx hb d_Bytes_appendNumber_4 rfl ?_
  refine zk_ti (z := (x.toUInt32 >>> ((24 : Int32).toUInt32 &&& Int32.toUInt32 31)).toInt32) (rfl) ?_
  have hm0 : zCap lim n bs.length = zCapN lim n bs.length 1 := rfl
  have hFc := va_free (wc := [(a, .inr (0, [.int (nI lim), .ref r, .int (nI bs.length)])), (r, .inl ((kA 0), n, .inl f))]) hD hS hA [0, 1] rfl
  refine zk_mut (zk_runV (As := [.int ((x.toUInt32 >>> ((24 : Int32).toUInt32 &&& Int32.toUInt32 31)).toInt32)]) (rest := []) S m_Bytes_47 (c_Bytes_append l D kA a r lim n f bs ((x.toUInt32 >>> ((24 : Int32).toUInt32 &&& Int32.toUInt32 31)).toInt32) s.heap.size) rfl rfl ⟨Nat.le_of_ble_eq_true rfl, Nat.le_of_ble_eq_true rfl⟩ hK hX (zk_recv hK (hP 0 _ rfl) rfl) ⟨rfl, hP.sub (ws' := [(a, .inr (0, [.int (nI lim), .ref r, .int (nI bs.length)])), (r, .inl ((kA 0), n, .inl f))]) [0, 1] rfl, (hD.sub (ws' := [(a, .inr (0, [.int (nI lim), .ref r, .int (nI bs.length)])), (r, .inl ((kA 0), n, .inl f))]) [0, 1] (by decide) rfl).weaken (fun _ _ _ _ => trivial), hbs0⟩ rfl hl.1 rfl (Nat.le_of_ble_eq_true rfl) ⟨by
    show _ + (_ - _) ≤ zCapN lim n bs.length 4 - n
    omega, by
    show _ + 3 * (_ - _) ≤ 3 * (zCapN lim n bs.length 4 - n)
    omega⟩ d_Bytes_appendNumber_5) hS hFc hFc (fun v H locs hpost hz1 hk1 hS => ?_)
  obtain ⟨rfl, r1, f1, hP1, hD1, hbs1⟩ := hpost
  obtain ⟨hP, hD⟩ := va_join (wr := []) (w1 := [(a, .inr (0, [.int (nI lim), .ref r1, .int (nI (zApp lim bs (zByte ((x.toUInt32 >>> ((24 : Int32).toUInt32 &&& Int32.toUInt32 31)).toInt32))).length)])), (r1, .inl ((kA 0), (zCap lim n bs.length), .inl f1))]) hP hD [0, 1] [] rfl rfl (by decide) (by decide) hk1 hFc hP1 hD1
  refine W.eq (g2 := F0 m 8 ls []) rfl ?_
  have hP : va_P D classes [(a, .inr (0, [.int (nI lim), .ref r1, .int (nI (zApp lim bs (zByte ((x.toUInt32 >>> ((24 : Int32).toUInt32 &&& Int32.toUInt32 31)).toInt32))).length)])), (r1, .inl ((kA 0), (zCap lim n bs.length), .inl f1))] H := hP
  have hD : va_D A [(a, .inr (0, [.int (nI lim), .ref r1, .int (nI (zApp lim bs (zByte ((x.toUInt32 >>> ((24 : Int32).toUInt32 &&& Int32.toUInt32 31)).toInt32))).length)])), (r1, .inl ((kA 0), (zCap lim n bs.length), .inl f1))] := hD
  have hap0 : zApp lim bs (zByte ((x.toUInt32 >>> ((24 : Int32).toUInt32 &&& Int32.toUInt32 31)).toInt32)) = (bs ++ [zByte ((x.toUInt32 >>> ((24 : Int32).toUInt32 &&& Int32.toUInt32 31)).toInt32)]) := zApp_lt (by omega)
  rw [hap0, hm0] at hP hD hbs1
  have hP : va_P D classes [(a, .inr (0, [.int (nI lim), .ref r1, .int (nI (bs ++ [zByte ((x.toUInt32 >>> ((24 : Int32).toUInt32 &&& Int32.toUInt32 31)).toInt32)]).length)])), (r1, .inl ((kA 0), (zCapN lim n bs.length 1), .inl f1))] H := hP
  have hD : va_D A [(a, .inr (0, [.int (nI lim), .ref r1, .int (nI (bs ++ [zByte ((x.toUInt32 >>> ((24 : Int32).toUInt32 &&& Int32.toUInt32 31)).toInt32)]).length)])), (r1, .inl ((kA 0), (zCapN lim n bs.length 1), .inl f1))] := hD
  refine W.widen (k := zCapN lim n bs.length 1 - n) (n := 3 * (zCapN lim n bs.length 1 - n)) (by rw [hm0]; omega) (by rw [hm0]; omega) ?_
  refine lv_aload_n hx hb d_Bytes_appendNumber_8 rfl (lv_at hl 0 rfl) ?_
  refine lv_iload_n hx hb d_Bytes_appendNumber_9 rfl (lv_at hl 1 rfl) ?_
  refine lv_bipush (v := 16) hx hb d_Bytes_appendNumber_10 (by decide) ?_
  refine lv_iushr hx hb d_Bytes_appendNumber_12 rfl ?_
  refine zk_ti (z := (x.toUInt32 >>> ((16 : Int32).toUInt32 &&& Int32.toUInt32 31)).toInt32) (rfl) ?_
  have hm1 : zCap lim (zCapN lim n bs.length 1) (bs ++ [zByte ((x.toUInt32 >>> ((24 : Int32).toUInt32 &&& Int32.toUInt32 31)).toInt32)]).length = zCapN lim n bs.length 2 := by show _ = zCap lim _ _; congr 1; simp
  have hFc := va_free (wc := [(a, .inr (0, [.int (nI lim), .ref r1, .int (nI (bs ++ [zByte ((x.toUInt32 >>> ((24 : Int32).toUInt32 &&& Int32.toUInt32 31)).toInt32)]).length)])), (r1, .inl ((kA 0), (zCapN lim n bs.length 1), .inl f1))]) hD hS hA [0, 1] rfl
  refine zk_mut (zk_runV (As := [.int ((x.toUInt32 >>> ((16 : Int32).toUInt32 &&& Int32.toUInt32 31)).toInt32)]) (rest := []) S m_Bytes_47 (c_Bytes_append l D kA a r1 lim (zCapN lim n bs.length 1) f1 (bs ++ [zByte ((x.toUInt32 >>> ((24 : Int32).toUInt32 &&& Int32.toUInt32 31)).toInt32)]) ((x.toUInt32 >>> ((16 : Int32).toUInt32 &&& Int32.toUInt32 31)).toInt32) H.size) rfl rfl ⟨Nat.le_of_ble_eq_true rfl, Nat.le_of_ble_eq_true rfl⟩ hK hX (zk_recv hK (hP 0 _ rfl) rfl) ⟨rfl, hP.sub (ws' := [(a, .inr (0, [.int (nI lim), .ref r1, .int (nI (bs ++ [zByte ((x.toUInt32 >>> ((24 : Int32).toUInt32 &&& Int32.toUInt32 31)).toInt32)]).length)])), (r1, .inl ((kA 0), (zCapN lim n bs.length 1), .inl f1))]) [0, 1] rfl, (hD.sub (ws' := [(a, .inr (0, [.int (nI lim), .ref r1, .int (nI (bs ++ [zByte ((x.toUInt32 >>> ((24 : Int32).toUInt32 &&& Int32.toUInt32 31)).toInt32)]).length)])), (r1, .inl ((kA 0), (zCapN lim n bs.length 1), .inl f1))]) [0, 1] (by decide) rfl).weaken (fun _ _ _ _ => trivial), hbs1⟩ rfl hl.1 rfl (Nat.le_of_ble_eq_true rfl) ⟨by
    show _ + (_ - _) ≤ zCapN lim n bs.length 4 - n
    omega, by
    show _ + 3 * (_ - _) ≤ 3 * (zCapN lim n bs.length 4 - n)
    omega⟩ d_Bytes_appendNumber_13) hS hFc hFc (fun v H locs hpost hz1 hk1 hS => ?_)
  obtain ⟨rfl, r2, f2, hP1, hD1, hbs2⟩ := hpost
  obtain ⟨hP, hD⟩ := va_join (wr := []) (w1 := [(a, .inr (0, [.int (nI lim), .ref r2, .int (nI (zApp lim (bs ++ [zByte ((x.toUInt32 >>> ((24 : Int32).toUInt32 &&& Int32.toUInt32 31)).toInt32)]) (zByte ((x.toUInt32 >>> ((16 : Int32).toUInt32 &&& Int32.toUInt32 31)).toInt32))).length)])), (r2, .inl ((kA 0), (zCap lim (zCapN lim n bs.length 1) (bs ++ [zByte ((x.toUInt32 >>> ((24 : Int32).toUInt32 &&& Int32.toUInt32 31)).toInt32)]).length), .inl f2))]) hP hD [0, 1] [] rfl rfl (by decide) (by decide) hk1 hFc hP1 hD1
  refine W.eq (g2 := F0 m 16 ls []) rfl ?_
  have hP : va_P D classes [(a, .inr (0, [.int (nI lim), .ref r2, .int (nI (zApp lim (bs ++ [zByte ((x.toUInt32 >>> ((24 : Int32).toUInt32 &&& Int32.toUInt32 31)).toInt32)]) (zByte ((x.toUInt32 >>> ((16 : Int32).toUInt32 &&& Int32.toUInt32 31)).toInt32))).length)])), (r2, .inl ((kA 0), (zCap lim (zCapN lim n bs.length 1) (bs ++ [zByte ((x.toUInt32 >>> ((24 : Int32).toUInt32 &&& Int32.toUInt32 31)).toInt32)]).length), .inl f2))] H := hP
  have hD : va_D A [(a, .inr (0, [.int (nI lim), .ref r2, .int (nI (zApp lim (bs ++ [zByte ((x.toUInt32 >>> ((24 : Int32).toUInt32 &&& Int32.toUInt32 31)).toInt32)]) (zByte ((x.toUInt32 >>> ((16 : Int32).toUInt32 &&& Int32.toUInt32 31)).toInt32))).length)])), (r2, .inl ((kA 0), (zCap lim (zCapN lim n bs.length 1) (bs ++ [zByte ((x.toUInt32 >>> ((24 : Int32).toUInt32 &&& Int32.toUInt32 31)).toInt32)]).length), .inl f2))] := hD
  have hap1 : zApp lim (bs ++ [zByte ((x.toUInt32 >>> ((24 : Int32).toUInt32 &&& Int32.toUInt32 31)).toInt32)]) (zByte ((x.toUInt32 >>> ((16 : Int32).toUInt32 &&& Int32.toUInt32 31)).toInt32)) = ((bs ++ [zByte ((x.toUInt32 >>> ((24 : Int32).toUInt32 &&& Int32.toUInt32 31)).toInt32)]) ++ [zByte ((x.toUInt32 >>> ((16 : Int32).toUInt32 &&& Int32.toUInt32 31)).toInt32)]) := zApp_lt (by simp; omega)
  rw [hap1, hm1] at hP hD hbs2
  have hP : va_P D classes [(a, .inr (0, [.int (nI lim), .ref r2, .int (nI ((bs ++ [zByte ((x.toUInt32 >>> ((24 : Int32).toUInt32 &&& Int32.toUInt32 31)).toInt32)]) ++ [zByte ((x.toUInt32 >>> ((16 : Int32).toUInt32 &&& Int32.toUInt32 31)).toInt32)]).length)])), (r2, .inl ((kA 0), (zCapN lim n bs.length 2), .inl f2))] H := hP
  have hD : va_D A [(a, .inr (0, [.int (nI lim), .ref r2, .int (nI ((bs ++ [zByte ((x.toUInt32 >>> ((24 : Int32).toUInt32 &&& Int32.toUInt32 31)).toInt32)]) ++ [zByte ((x.toUInt32 >>> ((16 : Int32).toUInt32 &&& Int32.toUInt32 31)).toInt32)]).length)])), (r2, .inl ((kA 0), (zCapN lim n bs.length 2), .inl f2))] := hD
  refine W.widen (k := zCapN lim n bs.length 2 - n) (n := 3 * (zCapN lim n bs.length 2 - n)) (by rw [hm1]; omega) (by rw [hm1]; omega) ?_
  refine lv_aload_n hx hb d_Bytes_appendNumber_16 rfl (lv_at hl 0 rfl) ?_
  refine lv_iload_n hx hb d_Bytes_appendNumber_17 rfl (lv_at hl 1 rfl) ?_
  refine lv_bipush (v := 8) hx hb d_Bytes_appendNumber_18 (by decide) ?_
  refine lv_iushr hx hb d_Bytes_appendNumber_20 rfl ?_
  refine zk_ti (z := (x.toUInt32 >>> ((8 : Int32).toUInt32 &&& Int32.toUInt32 31)).toInt32) (rfl) ?_
  have hm2 : zCap lim (zCapN lim n bs.length 2) ((bs ++ [zByte ((x.toUInt32 >>> ((24 : Int32).toUInt32 &&& Int32.toUInt32 31)).toInt32)]) ++ [zByte ((x.toUInt32 >>> ((16 : Int32).toUInt32 &&& Int32.toUInt32 31)).toInt32)]).length = zCapN lim n bs.length 3 := by show _ = zCap lim _ _; congr 1; simp
  have hFc := va_free (wc := [(a, .inr (0, [.int (nI lim), .ref r2, .int (nI ((bs ++ [zByte ((x.toUInt32 >>> ((24 : Int32).toUInt32 &&& Int32.toUInt32 31)).toInt32)]) ++ [zByte ((x.toUInt32 >>> ((16 : Int32).toUInt32 &&& Int32.toUInt32 31)).toInt32)]).length)])), (r2, .inl ((kA 0), (zCapN lim n bs.length 2), .inl f2))]) hD hS hA [0, 1] rfl
  refine zk_mut (zk_runV (As := [.int ((x.toUInt32 >>> ((8 : Int32).toUInt32 &&& Int32.toUInt32 31)).toInt32)]) (rest := []) S m_Bytes_47 (c_Bytes_append l D kA a r2 lim (zCapN lim n bs.length 2) f2 ((bs ++ [zByte ((x.toUInt32 >>> ((24 : Int32).toUInt32 &&& Int32.toUInt32 31)).toInt32)]) ++ [zByte ((x.toUInt32 >>> ((16 : Int32).toUInt32 &&& Int32.toUInt32 31)).toInt32)]) ((x.toUInt32 >>> ((8 : Int32).toUInt32 &&& Int32.toUInt32 31)).toInt32) H.size) rfl rfl ⟨Nat.le_of_ble_eq_true rfl, Nat.le_of_ble_eq_true rfl⟩ hK hX (zk_recv hK (hP 0 _ rfl) rfl) ⟨rfl, hP.sub (ws' := [(a, .inr (0, [.int (nI lim), .ref r2, .int (nI ((bs ++ [zByte ((x.toUInt32 >>> ((24 : Int32).toUInt32 &&& Int32.toUInt32 31)).toInt32)]) ++ [zByte ((x.toUInt32 >>> ((16 : Int32).toUInt32 &&& Int32.toUInt32 31)).toInt32)]).length)])), (r2, .inl ((kA 0), (zCapN lim n bs.length 2), .inl f2))]) [0, 1] rfl, (hD.sub (ws' := [(a, .inr (0, [.int (nI lim), .ref r2, .int (nI ((bs ++ [zByte ((x.toUInt32 >>> ((24 : Int32).toUInt32 &&& Int32.toUInt32 31)).toInt32)]) ++ [zByte ((x.toUInt32 >>> ((16 : Int32).toUInt32 &&& Int32.toUInt32 31)).toInt32)]).length)])), (r2, .inl ((kA 0), (zCapN lim n bs.length 2), .inl f2))]) [0, 1] (by decide) rfl).weaken (fun _ _ _ _ => trivial), hbs2⟩ rfl hl.1 rfl (Nat.le_of_ble_eq_true rfl) ⟨by
    show _ + (_ - _) ≤ zCapN lim n bs.length 4 - n
    omega, by
    show _ + 3 * (_ - _) ≤ 3 * (zCapN lim n bs.length 4 - n)
    omega⟩ d_Bytes_appendNumber_21) hS hFc hFc (fun v H locs hpost hz1 hk1 hS => ?_)
  obtain ⟨rfl, r3, f3, hP1, hD1, hbs3⟩ := hpost
  obtain ⟨hP, hD⟩ := va_join (wr := []) (w1 := [(a, .inr (0, [.int (nI lim), .ref r3, .int (nI (zApp lim ((bs ++ [zByte ((x.toUInt32 >>> ((24 : Int32).toUInt32 &&& Int32.toUInt32 31)).toInt32)]) ++ [zByte ((x.toUInt32 >>> ((16 : Int32).toUInt32 &&& Int32.toUInt32 31)).toInt32)]) (zByte ((x.toUInt32 >>> ((8 : Int32).toUInt32 &&& Int32.toUInt32 31)).toInt32))).length)])), (r3, .inl ((kA 0), (zCap lim (zCapN lim n bs.length 2) ((bs ++ [zByte ((x.toUInt32 >>> ((24 : Int32).toUInt32 &&& Int32.toUInt32 31)).toInt32)]) ++ [zByte ((x.toUInt32 >>> ((16 : Int32).toUInt32 &&& Int32.toUInt32 31)).toInt32)]).length), .inl f3))]) hP hD [0, 1] [] rfl rfl (by decide) (by decide) hk1 hFc hP1 hD1
  refine W.eq (g2 := F0 m 24 ls []) rfl ?_
  have hP : va_P D classes [(a, .inr (0, [.int (nI lim), .ref r3, .int (nI (zApp lim ((bs ++ [zByte ((x.toUInt32 >>> ((24 : Int32).toUInt32 &&& Int32.toUInt32 31)).toInt32)]) ++ [zByte ((x.toUInt32 >>> ((16 : Int32).toUInt32 &&& Int32.toUInt32 31)).toInt32)]) (zByte ((x.toUInt32 >>> ((8 : Int32).toUInt32 &&& Int32.toUInt32 31)).toInt32))).length)])), (r3, .inl ((kA 0), (zCap lim (zCapN lim n bs.length 2) ((bs ++ [zByte ((x.toUInt32 >>> ((24 : Int32).toUInt32 &&& Int32.toUInt32 31)).toInt32)]) ++ [zByte ((x.toUInt32 >>> ((16 : Int32).toUInt32 &&& Int32.toUInt32 31)).toInt32)]).length), .inl f3))] H := hP
  have hD : va_D A [(a, .inr (0, [.int (nI lim), .ref r3, .int (nI (zApp lim ((bs ++ [zByte ((x.toUInt32 >>> ((24 : Int32).toUInt32 &&& Int32.toUInt32 31)).toInt32)]) ++ [zByte ((x.toUInt32 >>> ((16 : Int32).toUInt32 &&& Int32.toUInt32 31)).toInt32)]) (zByte ((x.toUInt32 >>> ((8 : Int32).toUInt32 &&& Int32.toUInt32 31)).toInt32))).length)])), (r3, .inl ((kA 0), (zCap lim (zCapN lim n bs.length 2) ((bs ++ [zByte ((x.toUInt32 >>> ((24 : Int32).toUInt32 &&& Int32.toUInt32 31)).toInt32)]) ++ [zByte ((x.toUInt32 >>> ((16 : Int32).toUInt32 &&& Int32.toUInt32 31)).toInt32)]).length), .inl f3))] := hD
  have hap2 : zApp lim ((bs ++ [zByte ((x.toUInt32 >>> ((24 : Int32).toUInt32 &&& Int32.toUInt32 31)).toInt32)]) ++ [zByte ((x.toUInt32 >>> ((16 : Int32).toUInt32 &&& Int32.toUInt32 31)).toInt32)]) (zByte ((x.toUInt32 >>> ((8 : Int32).toUInt32 &&& Int32.toUInt32 31)).toInt32)) = (((bs ++ [zByte ((x.toUInt32 >>> ((24 : Int32).toUInt32 &&& Int32.toUInt32 31)).toInt32)]) ++ [zByte ((x.toUInt32 >>> ((16 : Int32).toUInt32 &&& Int32.toUInt32 31)).toInt32)]) ++ [zByte ((x.toUInt32 >>> ((8 : Int32).toUInt32 &&& Int32.toUInt32 31)).toInt32)]) := zApp_lt (by simp; omega)
  rw [hap2, hm2] at hP hD hbs3
  have hP : va_P D classes [(a, .inr (0, [.int (nI lim), .ref r3, .int (nI (((bs ++ [zByte ((x.toUInt32 >>> ((24 : Int32).toUInt32 &&& Int32.toUInt32 31)).toInt32)]) ++ [zByte ((x.toUInt32 >>> ((16 : Int32).toUInt32 &&& Int32.toUInt32 31)).toInt32)]) ++ [zByte ((x.toUInt32 >>> ((8 : Int32).toUInt32 &&& Int32.toUInt32 31)).toInt32)]).length)])), (r3, .inl ((kA 0), (zCapN lim n bs.length 3), .inl f3))] H := hP
  have hD : va_D A [(a, .inr (0, [.int (nI lim), .ref r3, .int (nI (((bs ++ [zByte ((x.toUInt32 >>> ((24 : Int32).toUInt32 &&& Int32.toUInt32 31)).toInt32)]) ++ [zByte ((x.toUInt32 >>> ((16 : Int32).toUInt32 &&& Int32.toUInt32 31)).toInt32)]) ++ [zByte ((x.toUInt32 >>> ((8 : Int32).toUInt32 &&& Int32.toUInt32 31)).toInt32)]).length)])), (r3, .inl ((kA 0), (zCapN lim n bs.length 3), .inl f3))] := hD
  refine W.widen (k := zCapN lim n bs.length 3 - n) (n := 3 * (zCapN lim n bs.length 3 - n)) (by rw [hm2]; omega) (by rw [hm2]; omega) ?_
  refine lv_aload_n hx hb d_Bytes_appendNumber_24 rfl (lv_at hl 0 rfl) ?_
  refine lv_iload_n hx hb d_Bytes_appendNumber_25 rfl (lv_at hl 1 rfl) ?_
  have hm3 : zCap lim (zCapN lim n bs.length 3) (((bs ++ [zByte ((x.toUInt32 >>> ((24 : Int32).toUInt32 &&& Int32.toUInt32 31)).toInt32)]) ++ [zByte ((x.toUInt32 >>> ((16 : Int32).toUInt32 &&& Int32.toUInt32 31)).toInt32)]) ++ [zByte ((x.toUInt32 >>> ((8 : Int32).toUInt32 &&& Int32.toUInt32 31)).toInt32)]).length = zCapN lim n bs.length 4 := by show _ = zCap lim _ _; congr 1; simp
  have hFc := va_free (wc := [(a, .inr (0, [.int (nI lim), .ref r3, .int (nI (((bs ++ [zByte ((x.toUInt32 >>> ((24 : Int32).toUInt32 &&& Int32.toUInt32 31)).toInt32)]) ++ [zByte ((x.toUInt32 >>> ((16 : Int32).toUInt32 &&& Int32.toUInt32 31)).toInt32)]) ++ [zByte ((x.toUInt32 >>> ((8 : Int32).toUInt32 &&& Int32.toUInt32 31)).toInt32)]).length)])), (r3, .inl ((kA 0), (zCapN lim n bs.length 3), .inl f3))]) hD hS hA [0, 1] rfl
  refine zk_mut (zk_runV (As := [.int x]) (rest := []) S m_Bytes_47 (c_Bytes_append l D kA a r3 lim (zCapN lim n bs.length 3) f3 (((bs ++ [zByte ((x.toUInt32 >>> ((24 : Int32).toUInt32 &&& Int32.toUInt32 31)).toInt32)]) ++ [zByte ((x.toUInt32 >>> ((16 : Int32).toUInt32 &&& Int32.toUInt32 31)).toInt32)]) ++ [zByte ((x.toUInt32 >>> ((8 : Int32).toUInt32 &&& Int32.toUInt32 31)).toInt32)]) x H.size) rfl rfl ⟨Nat.le_of_ble_eq_true rfl, Nat.le_of_ble_eq_true rfl⟩ hK hX (zk_recv hK (hP 0 _ rfl) rfl) ⟨rfl, hP.sub (ws' := [(a, .inr (0, [.int (nI lim), .ref r3, .int (nI (((bs ++ [zByte ((x.toUInt32 >>> ((24 : Int32).toUInt32 &&& Int32.toUInt32 31)).toInt32)]) ++ [zByte ((x.toUInt32 >>> ((16 : Int32).toUInt32 &&& Int32.toUInt32 31)).toInt32)]) ++ [zByte ((x.toUInt32 >>> ((8 : Int32).toUInt32 &&& Int32.toUInt32 31)).toInt32)]).length)])), (r3, .inl ((kA 0), (zCapN lim n bs.length 3), .inl f3))]) [0, 1] rfl, (hD.sub (ws' := [(a, .inr (0, [.int (nI lim), .ref r3, .int (nI (((bs ++ [zByte ((x.toUInt32 >>> ((24 : Int32).toUInt32 &&& Int32.toUInt32 31)).toInt32)]) ++ [zByte ((x.toUInt32 >>> ((16 : Int32).toUInt32 &&& Int32.toUInt32 31)).toInt32)]) ++ [zByte ((x.toUInt32 >>> ((8 : Int32).toUInt32 &&& Int32.toUInt32 31)).toInt32)]).length)])), (r3, .inl ((kA 0), (zCapN lim n bs.length 3), .inl f3))]) [0, 1] (by decide) rfl).weaken (fun _ _ _ _ => trivial), hbs3⟩ rfl hl.1 rfl (Nat.le_of_ble_eq_true rfl) ⟨by
    show _ + (_ - _) ≤ zCapN lim n bs.length 4 - n
    omega, by
    show _ + 3 * (_ - _) ≤ 3 * (zCapN lim n bs.length 4 - n)
    omega⟩ d_Bytes_appendNumber_26) hS hFc hFc (fun v H locs hpost hz1 hk1 hS => ?_)
  obtain ⟨rfl, r4, f4, hP1, hD1, hbs4⟩ := hpost
  obtain ⟨hP, hD⟩ := va_join (wr := []) (w1 := [(a, .inr (0, [.int (nI lim), .ref r4, .int (nI (zApp lim (((bs ++ [zByte ((x.toUInt32 >>> ((24 : Int32).toUInt32 &&& Int32.toUInt32 31)).toInt32)]) ++ [zByte ((x.toUInt32 >>> ((16 : Int32).toUInt32 &&& Int32.toUInt32 31)).toInt32)]) ++ [zByte ((x.toUInt32 >>> ((8 : Int32).toUInt32 &&& Int32.toUInt32 31)).toInt32)]) (zByte x)).length)])), (r4, .inl ((kA 0), (zCap lim (zCapN lim n bs.length 3) (((bs ++ [zByte ((x.toUInt32 >>> ((24 : Int32).toUInt32 &&& Int32.toUInt32 31)).toInt32)]) ++ [zByte ((x.toUInt32 >>> ((16 : Int32).toUInt32 &&& Int32.toUInt32 31)).toInt32)]) ++ [zByte ((x.toUInt32 >>> ((8 : Int32).toUInt32 &&& Int32.toUInt32 31)).toInt32)]).length), .inl f4))]) hP hD [0, 1] [] rfl rfl (by decide) (by decide) hk1 hFc hP1 hD1
  refine W.eq (g2 := F0 m 29 ls []) rfl ?_
  have hP : va_P D classes [(a, .inr (0, [.int (nI lim), .ref r4, .int (nI (zApp lim (((bs ++ [zByte ((x.toUInt32 >>> ((24 : Int32).toUInt32 &&& Int32.toUInt32 31)).toInt32)]) ++ [zByte ((x.toUInt32 >>> ((16 : Int32).toUInt32 &&& Int32.toUInt32 31)).toInt32)]) ++ [zByte ((x.toUInt32 >>> ((8 : Int32).toUInt32 &&& Int32.toUInt32 31)).toInt32)]) (zByte x)).length)])), (r4, .inl ((kA 0), (zCap lim (zCapN lim n bs.length 3) (((bs ++ [zByte ((x.toUInt32 >>> ((24 : Int32).toUInt32 &&& Int32.toUInt32 31)).toInt32)]) ++ [zByte ((x.toUInt32 >>> ((16 : Int32).toUInt32 &&& Int32.toUInt32 31)).toInt32)]) ++ [zByte ((x.toUInt32 >>> ((8 : Int32).toUInt32 &&& Int32.toUInt32 31)).toInt32)]).length), .inl f4))] H := hP
  have hD : va_D A [(a, .inr (0, [.int (nI lim), .ref r4, .int (nI (zApp lim (((bs ++ [zByte ((x.toUInt32 >>> ((24 : Int32).toUInt32 &&& Int32.toUInt32 31)).toInt32)]) ++ [zByte ((x.toUInt32 >>> ((16 : Int32).toUInt32 &&& Int32.toUInt32 31)).toInt32)]) ++ [zByte ((x.toUInt32 >>> ((8 : Int32).toUInt32 &&& Int32.toUInt32 31)).toInt32)]) (zByte x)).length)])), (r4, .inl ((kA 0), (zCap lim (zCapN lim n bs.length 3) (((bs ++ [zByte ((x.toUInt32 >>> ((24 : Int32).toUInt32 &&& Int32.toUInt32 31)).toInt32)]) ++ [zByte ((x.toUInt32 >>> ((16 : Int32).toUInt32 &&& Int32.toUInt32 31)).toInt32)]) ++ [zByte ((x.toUInt32 >>> ((8 : Int32).toUInt32 &&& Int32.toUInt32 31)).toInt32)]).length), .inl f4))] := hD
  have hap3 : zApp lim (((bs ++ [zByte ((x.toUInt32 >>> ((24 : Int32).toUInt32 &&& Int32.toUInt32 31)).toInt32)]) ++ [zByte ((x.toUInt32 >>> ((16 : Int32).toUInt32 &&& Int32.toUInt32 31)).toInt32)]) ++ [zByte ((x.toUInt32 >>> ((8 : Int32).toUInt32 &&& Int32.toUInt32 31)).toInt32)]) (zByte x) = ((((bs ++ [zByte ((x.toUInt32 >>> ((24 : Int32).toUInt32 &&& Int32.toUInt32 31)).toInt32)]) ++ [zByte ((x.toUInt32 >>> ((16 : Int32).toUInt32 &&& Int32.toUInt32 31)).toInt32)]) ++ [zByte ((x.toUInt32 >>> ((8 : Int32).toUInt32 &&& Int32.toUInt32 31)).toInt32)]) ++ [zByte x]) := zApp_lt (by simp; omega)
  rw [hap3, hm3] at hP hD hbs4
  have hP : va_P D classes [(a, .inr (0, [.int (nI lim), .ref r4, .int (nI ((((bs ++ [zByte ((x.toUInt32 >>> ((24 : Int32).toUInt32 &&& Int32.toUInt32 31)).toInt32)]) ++ [zByte ((x.toUInt32 >>> ((16 : Int32).toUInt32 &&& Int32.toUInt32 31)).toInt32)]) ++ [zByte ((x.toUInt32 >>> ((8 : Int32).toUInt32 &&& Int32.toUInt32 31)).toInt32)]) ++ [zByte x]).length)])), (r4, .inl ((kA 0), (zCapN lim n bs.length 4), .inl f4))] H := hP
  have hD : va_D A [(a, .inr (0, [.int (nI lim), .ref r4, .int (nI ((((bs ++ [zByte ((x.toUInt32 >>> ((24 : Int32).toUInt32 &&& Int32.toUInt32 31)).toInt32)]) ++ [zByte ((x.toUInt32 >>> ((16 : Int32).toUInt32 &&& Int32.toUInt32 31)).toInt32)]) ++ [zByte ((x.toUInt32 >>> ((8 : Int32).toUInt32 &&& Int32.toUInt32 31)).toInt32)]) ++ [zByte x]).length)])), (r4, .inl ((kA 0), (zCapN lim n bs.length 4), .inl f4))] := hD
  refine W.widen (k := zCapN lim n bs.length 4 - n) (n := 3 * (zCapN lim n bs.length 4 - n)) (by rw [hm3]; omega) (by rw [hm3]; omega) ?_
  exact zk_vret S hr hlk hS ⟨rfl, r4, f4, hP, hD, hbs4⟩ (Nat.le_refl _) (Nat.le_refl _) d_Bytes_appendNumber_29
