set_option maxHeartbeats 4000000 in
set_option maxRecDepth 100000 in
/-- Pattern.readItem(reader) -/
theorem c_Pattern_readItem (l : Launch) (D : va_G) (kA : Nat → ClassId) (a sa za mm cnt rd o lim n p0 : Nat) (sf : Nat → Int64) (zf : Nat → Int32) (bs : List Nat) (hc : cnt < mm) (hm : mm ≤ 1024) (hnm2 : n ≤ mm) (hn : n ≤ bs.length) (hp2 : p0 < n) (sz0 : Nat) : Met l y_Pattern_readItem (Cond.code y_Pattern_readItem b_Pattern_readItem 3 none :: zTB) { frames := 4, cells := 0, slots := 0, locals := 87 } (zk_Pc D classes (zTY kA) [.ref a, .ref rd] (fun H => H.size = sz0 ∧ va_P D classes [(a, .inr (2, [.ref sa, .ref za, .int (nI cnt)])), (sa, .inl ((kA 1), (mm * 4), .inr (.inl sf))), (za, .inl ((kA 2), mm, .inl zf)), (rd, .inr (3, [.ref o, .int (nI n), .int (nI p0)]))] H ∧ va_D (fun _ => True) [(a, .inr (2, [.ref sa, .ref za, .int (nI cnt)])), (sa, .inl ((kA 1), (mm * 4), .inr (.inl sf))), (za, .inl ((kA 2), mm, .inl zf)), (rd, .inr (3, [.ref o, .int (nI n), .int (nI p0)]))] ∧ BsAt D kA (fun q => ¬ (va_A [(a, .inr (2, [.ref sa, .ref za, .int (nI cnt)])), (sa, .inl ((kA 1), (mm * 4), .inr (.inl sf))), (za, .inl ((kA 2), mm, .inl zf)), (rd, .inr (3, [.ref o, .int (nI n), .int (nI p0)]))] sz0) q) H o lim bs)) (zk_mQ (fun v H => v = none ∧ ∃ sf' zf', va_P D classes [(a, .inr (2, [.ref sa, .ref za, .int (nI cnt)])), (sa, .inl (kA 1, mm * 4, .inr (.inl sf'))), (za, .inl (kA 2, mm, .inl zf')), (rd, .inr (3, [.ref o, .int (nI n), .int (nI (rItem bs n p0).2)]))] H ∧ va_D (va_A [(a, .inr (2, [.ref sa, .ref za, .int (nI cnt)])), (sa, .inl ((kA 1), (mm * 4), .inr (.inl sf))), (za, .inl ((kA 2), mm, .inl zf)), (rd, .inr (3, [.ref o, .int (nI n), .int (nI p0)]))] sz0) [(a, .inr (2, [.ref sa, .ref za, .int (nI cnt)])), (sa, .inl (kA 1, mm * 4, .inr (.inl sf'))), (za, .inl (kA 2, mm, .inl zf')), (rd, .inr (3, [.ref o, .int (nI n), .int (nI (rItem bs n p0).2)]))] ∧ (∀ i, (i ≠ cnt → zf' i = zf i) ∧ (i = cnt → (rItem bs n p0).1 = none → zf' i = 1) ∧ (i = cnt → (rItem bs n p0).1 ≠ none → zf' i = zf i)) ∧ ∀ i x, x < 256 → zSb sf' i x = (zSb sf i x || (decide (i = cnt) && pInO (rItem bs n p0).1 x))) (va_A [(a, .inr (2, [.ref sa, .ref za, .int (nI cnt)])), (sa, .inl ((kA 1), (mm * 4), .inr (.inl sf))), (za, .inl ((kA 2), mm, .inl zf)), (rd, .inr (3, [.ref o, .int (nI n), .int (nI p0)]))] sz0)) 0 0 (va_A [(a, .inr (2, [.ref sa, .ref za, .int (nI cnt)])), (sa, .inl ((kA 1), (mm * 4), .inr (.inl sf))), (za, .inl ((kA 2), mm, .inl zf)), (rd, .inr (3, [.ref o, .int (nI n), .int (nI p0)]))] sz0) := by
  refine zk_of [.ref a, .ref rd] (by decide) (Nat.le_of_ble_eq_true rfl) ?_
  intro p e s m below meth c S hr hlk hnm hK hX hpre ls hl
  obtain ⟨hx, hb, hml, hown, ht⟩ := id S
  have hl : lv_has ls 3 [(0, .ref a), (1, .ref rd)] := hl
  obtain ⟨hsz, hP, hD0, hO⟩ := hpre
  subst hsz
  have hD := hD0.self (sz := s.heap.size)
  generalize hAe : va_A [(a, .inr (2, [.ref sa, .ref za, .int (nI cnt)])), (sa, .inl ((kA 1), (mm * 4), .inr (.inl sf))), (za, .inl ((kA 2), mm, .inl zf)), (rd, .inr (3, [.ref o, .int (nI n), .int (nI p0)]))] s.heap.size = A at hD hO ⊢
  have hA : ∀ q : Nat, s.heap.size ≤ q → A q := fun q h => by rw [← hAe]; exact Or.inr h
  have hS : va_S A s.heap s.heap [] := va_S.rf
  have hP : va_P D classes [(a, .inr (2, [.ref sa, .ref za, .int (nI cnt)])), (sa, .inl ((kA 1), (mm * 4), .inr (.inl sf))), (za, .inl ((kA 2), mm, .inl zf)), (rd, .inr (3, [.ref o, .int (nI n), .int (nI p0)]))] s.heap := hP
  obtain ⟨ro, no, fo, hzo1, hzo2, hO1, hO2, hO3⟩ := id hO
  obtain ⟨g1, g2, g3, g4, g5⟩ := id hO3
  have hb256 : ∀ i, i < bs.length → bs.getD i 0 < 256 := fun i hi => (g5 i hi).1
  have hbq := hb256 p0 (by omega)
  refine lv_aload_n hx hb d_Pattern_readItem_0 rfl (lv_at hl 1 rfl) ?_
  refine lv_iconst (v := 0) hx hb d_Pattern_readItem_1 (by decide) ?_
  refine zk_ti (z := nI 0) (rfl) ?_
  refine zk_pure (zk_runV (As := [.int (nI 0)]) (rest := []) S m_Pattern_43 (c_Reader_ahead l D kA (fun q => ¬ A q) rd o lim n p0 0 bs hn (by omega) (by omega)) rfl rfl ⟨Nat.le_of_ble_eq_true rfl, Nat.le_of_ble_eq_true rfl⟩ hK hX (zk_recv hK (hP 3 _ rfl) rfl) (⟨(hP 3 _ rfl), hO.ro hS⟩) rfl hl.1 rfl (Nat.le_of_ble_eq_true rfl) ⟨Nat.le_of_ble_eq_true rfl, Nat.le_of_ble_eq_true rfl⟩ d_Pattern_readItem_2) ?_
  refine zk_ti (z := nI (bs.getD p0 0)) (zAh_in hp2) ?_
  by_cases h42 : bs.getD p0 0 = 42
  · refine lv_lookup (off := 35) (tgt := 40) hx hb d_Pattern_readItem_5 (by decide) (by rw [h42]; decide) (by decide) ?_
    refine lv_aload_n hx hb d_Pattern_readItem_40 rfl (lv_at hl 1 rfl) ?_
    have hFc := va_free (wc := [(rd, .inr (3, [.ref o, .int (nI n), .int (nI p0)]))]) hD hS hA [3] rfl
    refine zk_mut (zk_runV (As := []) (rest := []) S m_Pattern_51 (c_Reader_skip l D kA rd o n p0 s.heap.size) rfl rfl ⟨Nat.le_of_ble_eq_true rfl, Nat.le_of_ble_eq_true rfl⟩ hK hX (zk_recv hK (hP 3 _ rfl) rfl) ⟨rfl, hP.sub (ws' := [(rd, .inr (3, [.ref o, .int (nI n), .int (nI p0)]))]) [3] rfl, (hD.sub (ws' := [(rd, .inr (3, [.ref o, .int (nI n), .int (nI p0)]))]) [3] (by decide) rfl).weaken (fun _ _ _ _ => trivial)⟩ rfl hl.1 rfl (Nat.le_of_ble_eq_true rfl) ⟨Nat.le_of_ble_eq_true rfl, Nat.le_of_ble_eq_true rfl⟩ d_Pattern_readItem_41) hS hFc hFc (fun v H locs hpost hz1 hk1 hS => ?_)
    obtain ⟨rfl, hP1, hD1⟩ := hpost
    obtain ⟨hP, hD⟩ := va_join (wr := [(a, .inr (2, [.ref sa, .ref za, .int (nI cnt)])), (sa, .inl ((kA 1), (mm * 4), .inr (.inl sf))), (za, .inl ((kA 2), mm, .inl zf))]) (w1 := [(rd, .inr (3, [.ref o, .int (nI n), .int (nI (p0 + 1))]))]) hP hD [3] [0, 1, 2] rfl rfl (by decide) (by decide) hk1 hFc hP1 hD1
    refine W.eq (g2 := F0 m 44 ls []) rfl ?_
    have hP : va_P D classes [(a, .inr (2, [.ref sa, .ref za, .int (nI cnt)])), (sa, .inl ((kA 1), (mm * 4), .inr (.inl sf))), (za, .inl ((kA 2), mm, .inl zf)), (rd, .inr (3, [.ref o, .int (nI n), .int (nI (p0 + 1))]))] H := hP
    have hD : va_D A [(a, .inr (2, [.ref sa, .ref za, .int (nI cnt)])), (sa, .inl ((kA 1), (mm * 4), .inr (.inl sf))), (za, .inl ((kA 2), mm, .inl zf)), (rd, .inr (3, [.ref o, .int (nI n), .int (nI (p0 + 1))]))] := hD
    refine lv_aload_n hx hb d_Pattern_readItem_44 rfl (lv_at hl 0 rfl) ?_
    have hFc := va_free (wc := [(a, .inr (2, [.ref sa, .ref za, .int (nI cnt)])), (za, .inl ((kA 2), mm, .inl zf))]) hD hS hA [0, 2] rfl
    refine zk_mut (zk_runV (As := []) (rest := []) S m_Pattern_54 (c_Pattern_markStar l D kA a sa za mm cnt zf hc hm H.size) rfl rfl ⟨Nat.le_of_ble_eq_true rfl, Nat.le_of_ble_eq_true rfl⟩ hK hX (zk_recv hK (hP 0 _ rfl) rfl) ⟨rfl, hP.sub (ws' := [(a, .inr (2, [.ref sa, .ref za, .int (nI cnt)])), (za, .inl ((kA 2), mm, .inl zf))]) [0, 2] rfl, (hD.sub (ws' := [(a, .inr (2, [.ref sa, .ref za, .int (nI cnt)])), (za, .inl ((kA 2), mm, .inl zf))]) [0, 2] (by decide) rfl).weaken (fun _ _ _ _ => trivial)⟩ rfl hl.1 rfl (Nat.le_of_ble_eq_true rfl) ⟨Nat.le_of_ble_eq_true rfl, Nat.le_of_ble_eq_true rfl⟩ d_Pattern_readItem_45) hS hFc hFc (fun v H locs hpost hz1 hk1 hS => ?_)
    obtain ⟨rfl, hP1, hD1⟩ := hpost
    obtain ⟨hP, hD⟩ := va_join (wr := [(sa, .inl ((kA 1), (mm * 4), .inr (.inl sf))), (rd, .inr (3, [.ref o, .int (nI n), .int (nI (p0 + 1))]))]) (w1 := [(a, .inr (2, [.ref sa, .ref za, .int (nI cnt)])), (za, .inl ((kA 2), mm, .inl (upd zf cnt 1)))]) hP hD [0, 2] [1, 3] rfl rfl (by decide) (by decide) hk1 hFc hP1 hD1
    refine W.eq (g2 := F0 m 48 ls []) rfl ?_
    have hP : va_P D classes [(sa, .inl ((kA 1), (mm * 4), .inr (.inl sf))), (rd, .inr (3, [.ref o, .int (nI n), .int (nI (p0 + 1))])), (a, .inr (2, [.ref sa, .ref za, .int (nI cnt)])), (za, .inl ((kA 2), mm, .inl (upd zf cnt 1)))] H := hP
    have hD : va_D A [(sa, .inl ((kA 1), (mm * 4), .inr (.inl sf))), (rd, .inr (3, [.ref o, .int (nI n), .int (nI (p0 + 1))])), (a, .inr (2, [.ref sa, .ref za, .int (nI cnt)])), (za, .inl ((kA 2), mm, .inl (upd zf cnt 1)))] := hD
    refine lv_goto (tgt := 89) hx hb d_Pattern_readItem_48 (by decide) ?_
    have hri : rItem bs n p0 = (none, p0 + 1) := if_pos h42
    rw [hri]
    exact zk_vret S hr hlk hS ⟨rfl, sf, (upd zf cnt 1), hP.sub (ws' := [(a, .inr (2, [.ref sa, .ref za, .int (nI cnt)])), (sa, .inl (kA 1, mm * 4, .inr (.inl sf))), (za, .inl (kA 2, mm, .inl (upd zf cnt 1))), (rd, .inr (3, [.ref o, .int (nI n), .int (nI (p0 + 1))]))]) [2, 0, 3, 1] rfl, hD.sub (ws' := [(a, .inr (2, [.ref sa, .ref za, .int (nI cnt)])), (sa, .inl (kA 1, mm * 4, .inr (.inl sf))), (za, .inl (kA 2, mm, .inl (upd zf cnt 1))), (rd, .inr (3, [.ref o, .int (nI n), .int (nI (p0 + 1))]))]) [2, 0, 3, 1] (by decide) rfl, fun i => ⟨fun z => pk_un z, fun z _ => by rw [z, pk_us], fun _ z => absurd rfl z⟩, fun i x _ => by simp [pInO]⟩ (Nat.le_refl _) (Nat.le_refl _) d_Pattern_readItem_89
  · by_cases h63 : bs.getD p0 0 = 63
    · refine lv_lookup (off := 46) (tgt := 51) hx hb d_Pattern_readItem_5 (by decide) (by rw [h63]; decide) (by decide) ?_
      refine lv_aload_n hx hb d_Pattern_readItem_51 rfl (lv_at hl 1 rfl) ?_
      have hFc := va_free (wc := [(rd, .inr (3, [.ref o, .int (nI n), .int (nI p0)]))]) hD hS hA [3] rfl
      refine zk_mut (zk_runV (As := []) (rest := []) S m_Pattern_51 (c_Reader_skip l D kA rd o n p0 s.heap.size) rfl rfl ⟨Nat.le_of_ble_eq_true rfl, Nat.le_of_ble_eq_true rfl⟩ hK hX (zk_recv hK (hP 3 _ rfl) rfl) ⟨rfl, hP.sub (ws' := [(rd, .inr (3, [.ref o, .int (nI n), .int (nI p0)]))]) [3] rfl, (hD.sub (ws' := [(rd, .inr (3, [.ref o, .int (nI n), .int (nI p0)]))]) [3] (by decide) rfl).weaken (fun _ _ _ _ => trivial)⟩ rfl hl.1 rfl (Nat.le_of_ble_eq_true rfl) ⟨Nat.le_of_ble_eq_true rfl, Nat.le_of_ble_eq_true rfl⟩ d_Pattern_readItem_52) hS hFc hFc (fun v H locs hpost hz1 hk1 hS => ?_)
      obtain ⟨rfl, hP1, hD1⟩ := hpost
      obtain ⟨hP, hD⟩ := va_join (wr := [(a, .inr (2, [.ref sa, .ref za, .int (nI cnt)])), (sa, .inl ((kA 1), (mm * 4), .inr (.inl sf))), (za, .inl ((kA 2), mm, .inl zf))]) (w1 := [(rd, .inr (3, [.ref o, .int (nI n), .int (nI (p0 + 1))]))]) hP hD [3] [0, 1, 2] rfl rfl (by decide) (by decide) hk1 hFc hP1 hD1
      refine W.eq (g2 := F0 m 55 ls []) rfl ?_
      have hP : va_P D classes [(a, .inr (2, [.ref sa, .ref za, .int (nI cnt)])), (sa, .inl ((kA 1), (mm * 4), .inr (.inl sf))), (za, .inl ((kA 2), mm, .inl zf)), (rd, .inr (3, [.ref o, .int (nI n), .int (nI (p0 + 1))]))] H := hP
      have hD : va_D A [(a, .inr (2, [.ref sa, .ref za, .int (nI cnt)])), (sa, .inl ((kA 1), (mm * 4), .inr (.inl sf))), (za, .inl ((kA 2), mm, .inl zf)), (rd, .inr (3, [.ref o, .int (nI n), .int (nI (p0 + 1))]))] := hD
      refine lv_aload_n hx hb d_Pattern_readItem_55 rfl (lv_at hl 0 rfl) ?_
      refine lv_iconst (v := 0) hx hb d_Pattern_readItem_56 (by decide) ?_
      refine zk_ti (z := nI 0) (rfl) ?_
      refine lv_sipush (v := 255) hx hb d_Pattern_readItem_57 (by decide) ?_
      refine zk_ti (z := nI 255) (rfl) ?_
      have hFc := va_free (wc := [(a, .inr (2, [.ref sa, .ref za, .int (nI cnt)])), (sa, .inl ((kA 1), (mm * 4), .inr (.inl sf)))]) hD hS hA [0, 1] rfl
      refine zk_mut (zk_runV (As := [.int (nI 0), .int (nI 255)]) (rest := []) S m_Pattern_57 (c_Pattern_allow l D kA a sa za mm cnt sf 0 255 hc hm (by decide) (by decide) H.size) rfl rfl ⟨Nat.le_of_ble_eq_true rfl, Nat.le_of_ble_eq_true rfl⟩ hK hX (zk_recv hK (hP 0 _ rfl) rfl) ⟨rfl, hP.sub (ws' := [(a, .inr (2, [.ref sa, .ref za, .int (nI cnt)])), (sa, .inl ((kA 1), (mm * 4), .inr (.inl sf)))]) [0, 1] rfl, (hD.sub (ws' := [(a, .inr (2, [.ref sa, .ref za, .int (nI cnt)])), (sa, .inl ((kA 1), (mm * 4), .inr (.inl sf)))]) [0, 1] (by decide) rfl).weaken (fun _ _ _ _ => trivial)⟩ rfl hl.1 rfl (Nat.le_of_ble_eq_true rfl) ⟨Nat.le_of_ble_eq_true rfl, Nat.le_of_ble_eq_true rfl⟩ d_Pattern_readItem_60) hS hFc hFc (fun v H locs hpost hz1 hk1 hS => ?_)
      obtain ⟨rfl, s2, hP1, hD1, hal⟩ := hpost
      obtain ⟨hP, hD⟩ := va_join (wr := [(za, .inl ((kA 2), mm, .inl zf)), (rd, .inr (3, [.ref o, .int (nI n), .int (nI (p0 + 1))]))]) (w1 := [(a, .inr (2, [.ref sa, .ref za, .int (nI cnt)])), (sa, .inl ((kA 1), (mm * 4), .inr (.inl s2)))]) hP hD [0, 1] [2, 3] rfl rfl (by decide) (by decide) hk1 hFc hP1 hD1
      refine W.eq (g2 := F0 m 63 ls []) rfl ?_
      have hP : va_P D classes [(za, .inl ((kA 2), mm, .inl zf)), (rd, .inr (3, [.ref o, .int (nI n), .int (nI (p0 + 1))])), (a, .inr (2, [.ref sa, .ref za, .int (nI cnt)])), (sa, .inl ((kA 1), (mm * 4), .inr (.inl s2)))] H := hP
      have hD : va_D A [(za, .inl ((kA 2), mm, .inl zf)), (rd, .inr (3, [.ref o, .int (nI n), .int (nI (p0 + 1))])), (a, .inr (2, [.ref sa, .ref za, .int (nI cnt)])), (sa, .inl ((kA 1), (mm * 4), .inr (.inl s2)))] := hD
      refine lv_goto (tgt := 89) hx hb d_Pattern_readItem_63 (by decide) ?_
      have hri : rItem bs n p0 = (some [(0, 255)], p0 + 1) := by unfold rItem; rw [if_neg h42, if_pos h63]
      rw [hri]
      exact zk_vret S hr hlk hS ⟨rfl, s2, zf, hP.sub (ws' := [(a, .inr (2, [.ref sa, .ref za, .int (nI cnt)])), (sa, .inl (kA 1, mm * 4, .inr (.inl s2))), (za, .inl (kA 2, mm, .inl zf)), (rd, .inr (3, [.ref o, .int (nI n), .int (nI (p0 + 1))]))]) [2, 3, 0, 1] rfl, hD.sub (ws' := [(a, .inr (2, [.ref sa, .ref za, .int (nI cnt)])), (sa, .inl (kA 1, mm * 4, .inr (.inl s2))), (za, .inl (kA 2, mm, .inl zf)), (rd, .inr (3, [.ref o, .int (nI n), .int (nI (p0 + 1))]))]) [2, 3, 0, 1] (by decide) rfl, fun i => ⟨fun _ => rfl, fun _ z => (by cases z), fun _ _ => rfl⟩, fun i x hx => by
        rw [hal i x hx]
        simp [pInO, pIn]⟩ (Nat.le_refl _) (Nat.le_refl _) d_Pattern_readItem_89
    · by_cases h91 : bs.getD p0 0 = 91
      · refine lv_lookup (off := 61) (tgt := 66) hx hb d_Pattern_readItem_5 (by decide) (by rw [h91]; decide) (by decide) ?_
        refine lv_aload_n hx hb d_Pattern_readItem_66 rfl (lv_at hl 1 rfl) ?_
        have hFc := va_free (wc := [(rd, .inr (3, [.ref o, .int (nI n), .int (nI p0)]))]) hD hS hA [3] rfl
        refine zk_mut (zk_runV (As := []) (rest := []) S m_Pattern_51 (c_Reader_skip l D kA rd o n p0 s.heap.size) rfl rfl ⟨Nat.le_of_ble_eq_true rfl, Nat.le_of_ble_eq_true rfl⟩ hK hX (zk_recv hK (hP 3 _ rfl) rfl) ⟨rfl, hP.sub (ws' := [(rd, .inr (3, [.ref o, .int (nI n), .int (nI p0)]))]) [3] rfl, (hD.sub (ws' := [(rd, .inr (3, [.ref o, .int (nI n), .int (nI p0)]))]) [3] (by decide) rfl).weaken (fun _ _ _ _ => trivial)⟩ rfl hl.1 rfl (Nat.le_of_ble_eq_true rfl) ⟨Nat.le_of_ble_eq_true rfl, Nat.le_of_ble_eq_true rfl⟩ d_Pattern_readItem_67) hS hFc hFc (fun v H locs hpost hz1 hk1 hS => ?_)
        obtain ⟨rfl, hP1, hD1⟩ := hpost
        obtain ⟨hP, hD⟩ := va_join (wr := [(a, .inr (2, [.ref sa, .ref za, .int (nI cnt)])), (sa, .inl ((kA 1), (mm * 4), .inr (.inl sf))), (za, .inl ((kA 2), mm, .inl zf))]) (w1 := [(rd, .inr (3, [.ref o, .int (nI n), .int (nI (p0 + 1))]))]) hP hD [3] [0, 1, 2] rfl rfl (by decide) (by decide) hk1 hFc hP1 hD1
        refine W.eq (g2 := F0 m 70 ls []) rfl ?_
        have hP : va_P D classes [(a, .inr (2, [.ref sa, .ref za, .int (nI cnt)])), (sa, .inl ((kA 1), (mm * 4), .inr (.inl sf))), (za, .inl ((kA 2), mm, .inl zf)), (rd, .inr (3, [.ref o, .int (nI n), .int (nI (p0 + 1))]))] H := hP
        have hD : va_D A [(a, .inr (2, [.ref sa, .ref za, .int (nI cnt)])), (sa, .inl ((kA 1), (mm * 4), .inr (.inl sf))), (za, .inl ((kA 2), mm, .inl zf)), (rd, .inr (3, [.ref o, .int (nI n), .int (nI (p0 + 1))]))] := hD
        refine lv_aload_n hx hb d_Pattern_readItem_70 rfl (lv_at hl 0 rfl) ?_
        refine lv_aload_n hx hb d_Pattern_readItem_71 rfl (lv_at hl 1 rfl) ?_
        have hFc := va_free (wc := [(a, .inr (2, [.ref sa, .ref za, .int (nI cnt)])), (sa, .inl ((kA 1), (mm * 4), .inr (.inl sf))), (za, .inl ((kA 2), mm, .inl zf)), (rd, .inr (3, [.ref o, .int (nI n), .int (nI (p0 + 1))]))]) hD hS hA [0, 1, 2, 3] rfl
        refine zk_mut (zk_runV (As := [.ref rd]) (rest := []) S m_Pattern_61 (c_Pattern_readChoice l D kA a sa za mm cnt rd o lim n (p0 + 1) sf zf bs hc hm hnm2 hn (by omega) (by omega) H.size) rfl rfl ⟨Nat.le_of_ble_eq_true rfl, Nat.le_of_ble_eq_true rfl⟩ hK hX (zk_recv hK (hP 0 _ rfl) rfl) ⟨rfl, hP.sub (ws' := [(a, .inr (2, [.ref sa, .ref za, .int (nI cnt)])), (sa, .inl ((kA 1), (mm * 4), .inr (.inl sf))), (za, .inl ((kA 2), mm, .inl zf)), (rd, .inr (3, [.ref o, .int (nI n), .int (nI (p0 + 1))]))]) [0, 1, 2, 3] rfl, (hD.sub (ws' := [(a, .inr (2, [.ref sa, .ref za, .int (nI cnt)])), (sa, .inl ((kA 1), (mm * 4), .inr (.inl sf))), (za, .inl ((kA 2), mm, .inl zf)), (rd, .inr (3, [.ref o, .int (nI n), .int (nI (p0 + 1))]))]) [0, 1, 2, 3] (by decide) rfl).weaken (fun _ _ _ _ => trivial), ((hO.ro hS).weaken (fun q hq hz => hq (hFc q hz)))⟩ rfl hl.1 rfl (Nat.le_of_ble_eq_true rfl) ⟨Nat.le_of_ble_eq_true rfl, Nat.le_of_ble_eq_true rfl⟩ d_Pattern_readItem_72) hS hFc hFc (fun v H locs hpost hz1 hk1 hS => ?_)
        obtain ⟨rfl, s2, hP1, hD1, hal⟩ := hpost
        obtain ⟨hP, hD⟩ := va_join (wr := []) (w1 := [(a, .inr (2, [.ref sa, .ref za, .int (nI cnt)])), (sa, .inl ((kA 1), (mm * 4), .inr (.inl s2))), (za, .inl ((kA 2), mm, .inl zf)), (rd, .inr (3, [.ref o, .int (nI n), .int (nI ((rSet bs n (p0 + 1)).2))]))]) hP hD [0, 1, 2, 3] [] rfl rfl (by decide) (by decide) hk1 hFc hP1 hD1
        refine W.eq (g2 := F0 m 75 ls []) rfl ?_
        have hP : va_P D classes [(a, .inr (2, [.ref sa, .ref za, .int (nI cnt)])), (sa, .inl ((kA 1), (mm * 4), .inr (.inl s2))), (za, .inl ((kA 2), mm, .inl zf)), (rd, .inr (3, [.ref o, .int (nI n), .int (nI ((rSet bs n (p0 + 1)).2))]))] H := hP
        have hD : va_D A [(a, .inr (2, [.ref sa, .ref za, .int (nI cnt)])), (sa, .inl ((kA 1), (mm * 4), .inr (.inl s2))), (za, .inl ((kA 2), mm, .inl zf)), (rd, .inr (3, [.ref o, .int (nI n), .int (nI ((rSet bs n (p0 + 1)).2))]))] := hD
        refine lv_goto (tgt := 89) hx hb d_Pattern_readItem_75 (by decide) ?_
        have hri : rItem bs n p0 = (some (rSet bs n (p0 + 1)).1, (rSet bs n (p0 + 1)).2) := by unfold rItem; rw [if_neg h42, if_neg h63, if_pos h91]
        rw [hri]
        exact zk_vret S hr hlk hS ⟨rfl, s2, zf, hP.sub (ws' := [(a, .inr (2, [.ref sa, .ref za, .int (nI cnt)])), (sa, .inl (kA 1, mm * 4, .inr (.inl s2))), (za, .inl (kA 2, mm, .inl zf)), (rd, .inr (3, [.ref o, .int (nI n), .int (nI ((rSet bs n (p0 + 1)).2))]))]) [0, 1, 2, 3] rfl, hD.sub (ws' := [(a, .inr (2, [.ref sa, .ref za, .int (nI cnt)])), (sa, .inl (kA 1, mm * 4, .inr (.inl s2))), (za, .inl (kA 2, mm, .inl zf)), (rd, .inr (3, [.ref o, .int (nI n), .int (nI ((rSet bs n (p0 + 1)).2))]))]) [0, 1, 2, 3] (by decide) rfl, fun i => ⟨fun _ => rfl, fun _ z => (by cases z), fun _ _ => rfl⟩, fun i x hx => by
          rw [hal i x hx]
          rfl⟩ (Nat.le_refl _) (Nat.le_refl _) d_Pattern_readItem_89
      · refine lv_lookup (off := 73) (tgt := 78) hx hb d_Pattern_readItem_5 (by decide) (by
          rw [lv_osw (k := 42) (fun z => h42 ((nI_eq (by omega) (by omega)).mp (show nI _ = nI 42 from z))) (by decide), lv_osw (k := 63) (fun z => h63 ((nI_eq (by omega) (by omega)).mp (show nI _ = nI 63 from z))) (by decide), lv_osw (k := 91) (fun z => h91 ((nI_eq (by omega) (by omega)).mp (show nI _ = nI 91 from z))) (by decide)]
          rfl) (by decide) ?_
        refine lv_aload_n hx hb d_Pattern_readItem_78 rfl (lv_at hl 1 rfl) ?_
        have hFc := va_free (wc := [(rd, .inr (3, [.ref o, .int (nI n), .int (nI p0)]))]) hD hS hA [3] rfl
        refine zk_mut (zk_runV (As := []) (rest := []) S m_Pattern_64 (c_Reader_nextItself l D kA rd o lim n p0 bs hn (by omega) hp2 s.heap.size) rfl rfl ⟨Nat.le_of_ble_eq_true rfl, Nat.le_of_ble_eq_true rfl⟩ hK hX (zk_recv hK (hP 3 _ rfl) rfl) ⟨rfl, hP.sub (ws' := [(rd, .inr (3, [.ref o, .int (nI n), .int (nI p0)]))]) [3] rfl, (hD.sub (ws' := [(rd, .inr (3, [.ref o, .int (nI n), .int (nI p0)]))]) [3] (by decide) rfl).weaken (fun _ _ _ _ => trivial), ((hO.ro hS).weaken (fun q hq hz => hq (hFc q hz)))⟩ rfl hl.1 rfl (Nat.le_of_ble_eq_true rfl) ⟨Nat.le_of_ble_eq_true rfl, Nat.le_of_ble_eq_true rfl⟩ d_Pattern_readItem_79) hS hFc hFc (fun v H locs hpost hz1 hk1 hS => ?_)
        obtain ⟨rfl, hP1, hD1⟩ := hpost
        obtain ⟨hP, hD⟩ := va_join (wr := [(a, .inr (2, [.ref sa, .ref za, .int (nI cnt)])), (sa, .inl ((kA 1), (mm * 4), .inr (.inl sf))), (za, .inl ((kA 2), mm, .inl zf))]) (w1 := [(rd, .inr (3, [.ref o, .int (nI n), .int (nI (rSelf bs n p0).2)]))]) hP hD [3] [0, 1, 2] rfl rfl (by decide) (by decide) hk1 hFc hP1 hD1
        refine W.eq (g2 := F0 m 82 ls [.int (nI (rSelf bs n p0).1)]) rfl ?_
        have hP : va_P D classes [(a, .inr (2, [.ref sa, .ref za, .int (nI cnt)])), (sa, .inl ((kA 1), (mm * 4), .inr (.inl sf))), (za, .inl ((kA 2), mm, .inl zf)), (rd, .inr (3, [.ref o, .int (nI n), .int (nI (rSelf bs n p0).2)]))] H := hP
        have hD : va_D A [(a, .inr (2, [.ref sa, .ref za, .int (nI cnt)])), (sa, .inl ((kA 1), (mm * 4), .inr (.inl sf))), (za, .inl ((kA 2), mm, .inl zf)), (rd, .inr (3, [.ref o, .int (nI n), .int (nI (rSelf bs n p0).2)]))] := hD
        refine lv_istore_n (lv' := [(2, .int (nI (rSelf bs n p0).1)), (0, .ref a), (1, .ref rd)]) hx hb d_Pattern_readItem_82 rfl hl (by decide) rfl (fun ls hl => ?_)
        have hlo := rSelf_lt hb256 hp2 hn
        refine lv_aload_n hx hb d_Pattern_readItem_83 rfl (lv_at hl 1 rfl) ?_
        refine lv_iload_n hx hb d_Pattern_readItem_84 rfl (lv_at hl 0 rfl) ?_
        refine lv_iload_n hx hb d_Pattern_readItem_85 rfl (lv_at hl 0 rfl) ?_
        have hFc := va_free (wc := [(a, .inr (2, [.ref sa, .ref za, .int (nI cnt)])), (sa, .inl ((kA 1), (mm * 4), .inr (.inl sf)))]) hD hS hA [0, 1] rfl
        refine zk_mut (zk_runV (As := [.int (nI (rSelf bs n p0).1), .int (nI (rSelf bs n p0).1)]) (rest := []) S m_Pattern_57 (c_Pattern_allow l D kA a sa za mm cnt sf (rSelf bs n p0).1 (rSelf bs n p0).1 hc hm hlo hlo H.size) rfl rfl ⟨Nat.le_of_ble_eq_true rfl, Nat.le_of_ble_eq_true rfl⟩ hK hX (zk_recv hK (hP 0 _ rfl) rfl) ⟨rfl, hP.sub (ws' := [(a, .inr (2, [.ref sa, .ref za, .int (nI cnt)])), (sa, .inl ((kA 1), (mm * 4), .inr (.inl sf)))]) [0, 1] rfl, (hD.sub (ws' := [(a, .inr (2, [.ref sa, .ref za, .int (nI cnt)])), (sa, .inl ((kA 1), (mm * 4), .inr (.inl sf)))]) [0, 1] (by decide) rfl).weaken (fun _ _ _ _ => trivial)⟩ rfl hl.1 rfl (Nat.le_of_ble_eq_true rfl) ⟨Nat.le_of_ble_eq_true rfl, Nat.le_of_ble_eq_true rfl⟩ d_Pattern_readItem_86) hS hFc hFc (fun v H locs hpost hz1 hk1 hS => ?_)
        obtain ⟨rfl, s2, hP1, hD1, hal⟩ := hpost
        obtain ⟨hP, hD⟩ := va_join (wr := [(za, .inl ((kA 2), mm, .inl zf)), (rd, .inr (3, [.ref o, .int (nI n), .int (nI (rSelf bs n p0).2)]))]) (w1 := [(a, .inr (2, [.ref sa, .ref za, .int (nI cnt)])), (sa, .inl ((kA 1), (mm * 4), .inr (.inl s2)))]) hP hD [0, 1] [2, 3] rfl rfl (by decide) (by decide) hk1 hFc hP1 hD1
        refine W.eq (g2 := F0 m 89 ls []) rfl ?_
        have hP : va_P D classes [(za, .inl ((kA 2), mm, .inl zf)), (rd, .inr (3, [.ref o, .int (nI n), .int (nI (rSelf bs n p0).2)])), (a, .inr (2, [.ref sa, .ref za, .int (nI cnt)])), (sa, .inl ((kA 1), (mm * 4), .inr (.inl s2)))] H := hP
        have hD : va_D A [(za, .inl ((kA 2), mm, .inl zf)), (rd, .inr (3, [.ref o, .int (nI n), .int (nI (rSelf bs n p0).2)])), (a, .inr (2, [.ref sa, .ref za, .int (nI cnt)])), (sa, .inl ((kA 1), (mm * 4), .inr (.inl s2)))] := hD
        have hri : rItem bs n p0 = (some [((rSelf bs n p0).1, (rSelf bs n p0).1)], (rSelf bs n p0).2) := by unfold rItem; rw [if_neg h42, if_neg h63, if_neg h91]
        rw [hri]
        exact zk_vret S hr hlk hS ⟨rfl, s2, zf, hP.sub (ws' := [(a, .inr (2, [.ref sa, .ref za, .int (nI cnt)])), (sa, .inl (kA 1, mm * 4, .inr (.inl s2))), (za, .inl (kA 2, mm, .inl zf)), (rd, .inr (3, [.ref o, .int (nI n), .int (nI ((rSelf bs n p0).2))]))]) [2, 3, 0, 1] rfl, hD.sub (ws' := [(a, .inr (2, [.ref sa, .ref za, .int (nI cnt)])), (sa, .inl (kA 1, mm * 4, .inr (.inl s2))), (za, .inl (kA 2, mm, .inl zf)), (rd, .inr (3, [.ref o, .int (nI n), .int (nI ((rSelf bs n p0).2))]))]) [2, 3, 0, 1] (by decide) rfl, fun i => ⟨fun _ => rfl, fun _ z => (by cases z), fun _ _ => rfl⟩, fun i x hx => by
          rw [hal i x hx]
          simp [pInO, pIn]⟩ (Nat.le_refl _) (Nat.le_refl _) d_Pattern_readItem_89
