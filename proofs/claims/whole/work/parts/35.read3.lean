theorem rSelf_lt {bs : List Nat} {n a : Nat} (hb : ∀ i, i < bs.length → bs.getD i 0 < 256) (ha : a < n) (hn : n ≤ bs.length) : (rSelf bs n a).1 < 256 := by
  unfold rSelf
  split
  · rename_i h
    exact hb (a + 1) (by omega)
  · exact hb a (by omega)
theorem pIn_snoc {S : List (Nat × Nat)} {lo hi x : Nat} : pIn (S ++ [(lo, hi)]) x = (pIn S x || (decide (lo ≤ x) && decide (x ≤ hi))) := by
  unfold pIn
  rw [List.any_append]
  simp
theorem zAh_in {bs : List Nat} {n i : Nat} (h : i < n) : zAh bs n i = nI (bs.getD i 0) := if_pos h
theorem zAh_out {bs : List Nat} {n i : Nat} (h : n ≤ i) : zAh bs n i = -1 := if_neg (Nat.not_lt.mpr h)
set_option maxHeartbeats 4000000 in
set_option maxRecDepth 100000 in
/-- Pattern.readChoice(reader) -/
theorem c_Pattern_readChoice (l : Launch) (D : va_G) (kA : Nat → ClassId) (a sa za mm cnt rd o lim n p0 : Nat) (sf : Nat → Int64) (zf : Nat → Int32) (bs : List Nat) (hc : cnt < mm) (hm : mm ≤ 1024) (hnm2 : n ≤ mm) (hn : n ≤ bs.length) (hp : 0 < p0) (hp2 : p0 ≤ n) (sz0 : Nat) : Met l y_Pattern_readChoice (Cond.code y_Pattern_readChoice b_Pattern_readChoice 5 none :: zTB) { frames := 3, cells := 0, slots := 0, locals := 63 } (zk_Pc D classes (zTY kA) [.ref a, .ref rd] (fun H => H.size = sz0 ∧ va_P D classes [(a, .inr (2, [.ref sa, .ref za, .int (nI cnt)])), (sa, .inl ((kA 1), (mm * 4), .inr (.inl sf))), (za, .inl ((kA 2), mm, .inl zf)), (rd, .inr (3, [.ref o, .int (nI n), .int (nI p0)]))] H ∧ va_D (fun _ => True) [(a, .inr (2, [.ref sa, .ref za, .int (nI cnt)])), (sa, .inl ((kA 1), (mm * 4), .inr (.inl sf))), (za, .inl ((kA 2), mm, .inl zf)), (rd, .inr (3, [.ref o, .int (nI n), .int (nI p0)]))] ∧ BsAt D kA (fun q => ¬ (va_A [(a, .inr (2, [.ref sa, .ref za, .int (nI cnt)])), (sa, .inl ((kA 1), (mm * 4), .inr (.inl sf))), (za, .inl ((kA 2), mm, .inl zf)), (rd, .inr (3, [.ref o, .int (nI n), .int (nI p0)]))] sz0) q) H o lim bs)) (zk_mQ (fun v H => v = none ∧ ∃ sf', va_P D classes [(a, .inr (2, [.ref sa, .ref za, .int (nI cnt)])), (sa, .inl (kA 1, mm * 4, .inr (.inl sf'))), (za, .inl (kA 2, mm, .inl zf)), (rd, .inr (3, [.ref o, .int (nI n), .int (nI (rSet bs n p0).2)]))] H ∧ va_D (va_A [(a, .inr (2, [.ref sa, .ref za, .int (nI cnt)])), (sa, .inl ((kA 1), (mm * 4), .inr (.inl sf))), (za, .inl ((kA 2), mm, .inl zf)), (rd, .inr (3, [.ref o, .int (nI n), .int (nI p0)]))] sz0) [(a, .inr (2, [.ref sa, .ref za, .int (nI cnt)])), (sa, .inl (kA 1, mm * 4, .inr (.inl sf'))), (za, .inl (kA 2, mm, .inl zf)), (rd, .inr (3, [.ref o, .int (nI n), .int (nI (rSet bs n p0).2)]))] ∧ ∀ i x, x < 256 → zSb sf' i x = (zSb sf i x || (decide (i = cnt) && pIn (rSet bs n p0).1 x))) (va_A [(a, .inr (2, [.ref sa, .ref za, .int (nI cnt)])), (sa, .inl ((kA 1), (mm * 4), .inr (.inl sf))), (za, .inl ((kA 2), mm, .inl zf)), (rd, .inr (3, [.ref o, .int (nI n), .int (nI p0)]))] sz0)) 0 0 (va_A [(a, .inr (2, [.ref sa, .ref za, .int (nI cnt)])), (sa, .inl ((kA 1), (mm * 4), .inr (.inl sf))), (za, .inl ((kA 2), mm, .inl zf)), (rd, .inr (3, [.ref o, .int (nI n), .int (nI p0)]))] sz0) := by
  refine zk_of [.ref a, .ref rd] (by decide) (Nat.le_of_ble_eq_true rfl) ?_
  intro p e s m below meth c S hr hlk hnm hK hX hpre ls hl
  obtain ⟨hx, hb, hml, hown, ht⟩ := id S
  have hl : lv_has ls 5 [(0, .ref a), (1, .ref rd)] := hl
  obtain ⟨hsz, hP, hD0, hO⟩ := hpre
  subst hsz
  have hD := hD0.self (sz := s.heap.size)
  generalize hAe : va_A [(a, .inr (2, [.ref sa, .ref za, .int (nI cnt)])), (sa, .inl ((kA 1), (mm * 4), .inr (.inl sf))), (za, .inl ((kA 2), mm, .inl zf)), (rd, .inr (3, [.ref o, .int (nI n), .int (nI p0)]))] s.heap.size = A at hD hO ⊢
  have hA : ∀ q : Nat, s.heap.size ≤ q → A q := fun q h => by rw [← hAe]; exact Or.inr h
  have hS : va_S A s.heap s.heap [] := va_S.rf
  have hP : va_P D classes [(a, .inr (2, [.ref sa, .ref za, .int (nI cnt)])), (sa, .inl ((kA 1), (mm * 4), .inr (.inl sf))), (za, .inl ((kA 2), mm, .inl zf)), (rd, .inr (3, [.ref o, .int (nI n), .int (nI p0)]))] s.heap := hP
  obtain ⟨ro, no, fo, hzo1, hzo2, hO1, hO2, hO3⟩ := id hO
  obtain ⟨g1, g2, g3, g4, g5⟩ := id hO3
  have hb256 : ∀ i, i < bs.length → bs.getD i 0 < 256 := fun i hi => (g5 i hi).1
  refine lv_iconst (v := 0) hx hb d_Pattern_readChoice_0 (by decide) ?_
  refine lv_istore_n (lv' := [(2, .int 0), (0, .ref a), (1, .ref rd)]) hx hb d_Pattern_readChoice_1 rfl hl (by decide) rfl (fun ls hl => ?_)
  have lp : ∀ (fu : Nat) (k q : Nat) (Sl : List (Nat × Nat)) (s1 : Nat → Int64), n + 4 - q < fu → k + (n - q) < mm → q ≤ n + 3 ∧ k < mm → (rSet bs n p0).1 = Sl ++ (rSet bs n q).1 → (rSet bs n p0).2 = (rSet bs n q).2 → (∀ i x, x < 256 → zSb s1 i x = (zSb sf i x || (decide (i = cnt) && pIn Sl x))) → ∀ (H : Heap) (locs : List Loc), va_P D classes [(a, .inr (2, [.ref sa, .ref za, .int (nI cnt)])), (sa, .inl ((kA 1), (mm * 4), .inr (.inl s1))), (za, .inl ((kA 2), mm, .inl zf)), (rd, .inr (3, [.ref o, .int (nI n), .int (nI q)]))] H → va_D A [(a, .inr (2, [.ref sa, .ref za, .int (nI cnt)])), (sa, .inl ((kA 1), (mm * 4), .inr (.inl s1))), (za, .inl ((kA 2), mm, .inl zf)), (rd, .inr (3, [.ref o, .int (nI n), .int (nI q)]))] → va_S A s.heap H locs → ∀ ls : Array Slot, lv_has ls 5 [(0, .ref a), (1, .ref rd), (2, .int (nI k))] → W p l e { frames := 3, cells := 0, slots := 0, locals := 63 } s m [.ref a, .ref rd].toArray below meth c H locs 0 0 (MQ below (zk_mQ (fun v H => v = none ∧ ∃ sf', va_P D classes [(a, .inr (2, [.ref sa, .ref za, .int (nI cnt)])), (sa, .inl (kA 1, mm * 4, .inr (.inl sf'))), (za, .inl (kA 2, mm, .inl zf)), (rd, .inr (3, [.ref o, .int (nI n), .int (nI (rSet bs n p0).2)]))] H ∧ va_D A [(a, .inr (2, [.ref sa, .ref za, .int (nI cnt)])), (sa, .inl (kA 1, mm * 4, .inr (.inl sf'))), (za, .inl (kA 2, mm, .inl zf)), (rd, .inr (3, [.ref o, .int (nI n), .int (nI (rSet bs n p0).2)]))] ∧ ∀ i x, x < 256 → zSb sf' i x = (zSb sf i x || (decide (i = cnt) && pIn (rSet bs n p0).1 x))) A) [.ref a, .ref rd].toArray s 0 0 A) (F0 m 2 ls []) := by
    intro fu
    induction fu with
    | zero => intro k q Sl s1 hfu; exact absurd hfu (Nat.not_lt_zero _)
    | succ fu ih =>
      intro k q Sl s1 hfu hk hq4 hset1 hset2 hs1 H locs hP hD hS ls hl
      refine lv_iload_n hx hb d_Pattern_readChoice_2 rfl (lv_at hl 2 rfl) ?_
      refine lv_aload_n hx hb d_Pattern_readChoice_3 rfl (lv_at hl 0 rfl) ?_
      refine zk_get (C := R_Pattern) (T := F_Pattern) (N := 3) S hK (hP 0 _ rfl) rfl i_Pattern 1 (by decide) m_Pattern_30 rfl rfl d_Pattern_readChoice_4 ?_
      refine zk_alen S hK 2 (hP 2 _ rfl) rfl (v := nI mm) rfl d_Pattern_readChoice_7 ?_
      refine lv_icmp_ge (tgt := 93) hx hb d_Pattern_readChoice_8 (by decide) (fun c8 => ?_) (fun c8 => ?_)
      · exact absurd ((nI_leI (by omega) (by omega)).mp c8) (by omega)
      · refine lv_aload_n hx hb d_Pattern_readChoice_11 rfl (lv_at hl 1 rfl) ?_
        refine lv_iconst (v := 0) hx hb d_Pattern_readChoice_12 (by decide) ?_
        refine zk_ti (z := nI 0) (rfl) ?_
        refine zk_pure (zk_runV (As := [.int (nI 0)]) (rest := []) S m_Pattern_43 (c_Reader_ahead l D kA (fun q => ¬ A q) rd o lim n q 0 bs hn (by omega) (by omega)) rfl rfl ⟨Nat.le_of_ble_eq_true rfl, Nat.le_of_ble_eq_true rfl⟩ hK hX (zk_recv hK (hP 3 _ rfl) rfl) (⟨(hP 3 _ rfl), hO.ro hS⟩) rfl hl.1 rfl (Nat.le_of_ble_eq_true rfl) ⟨Nat.le_of_ble_eq_true rfl, Nat.le_of_ble_eq_true rfl⟩ d_Pattern_readChoice_13) ?_
        refine lv_iconst (v := (-1)) hx hb d_Pattern_readChoice_16 (by decide) ?_
        refine lv_icmp_eq (tgt := 93) hx hb d_Pattern_readChoice_17 (by decide) (fun c17 => ?_) (fun c17 => ?_)
        · have hend : n ≤ q ∨ bs.getD q 0 = 93 := Or.inl (Nat.not_lt.mp fun z => zNe1 (by have := hb256 q (by omega); omega) ((zAh_in z).symm.trans c17))
          refine lv_aload_n hx hb d_Pattern_readChoice_93 rfl (lv_at hl 1 rfl) ?_
          have hFc := va_free (wc := [(rd, .inr (3, [.ref o, .int (nI n), .int (nI q)]))]) hD hS hA [3] rfl
          refine zk_mut (zk_runV (As := []) (rest := []) S m_Pattern_51 (c_Reader_skip l D kA rd o n q H.size) rfl rfl ⟨Nat.le_of_ble_eq_true rfl, Nat.le_of_ble_eq_true rfl⟩ hK hX (zk_recv hK (hP 3 _ rfl) rfl) ⟨rfl, hP.sub (ws' := [(rd, .inr (3, [.ref o, .int (nI n), .int (nI q)]))]) [3] rfl, (hD.sub (ws' := [(rd, .inr (3, [.ref o, .int (nI n), .int (nI q)]))]) [3] (by decide) rfl).weaken (fun _ _ _ _ => trivial)⟩ rfl hl.1 rfl (Nat.le_of_ble_eq_true rfl) ⟨Nat.le_of_ble_eq_true rfl, Nat.le_of_ble_eq_true rfl⟩ d_Pattern_readChoice_94) hS hFc hFc (fun v H locs hpost hz1 hk1 hS => ?_)
          obtain ⟨rfl, hP1, hD1⟩ := hpost
          obtain ⟨hP, hD⟩ := va_join (wr := [(a, .inr (2, [.ref sa, .ref za, .int (nI cnt)])), (sa, .inl ((kA 1), (mm * 4), .inr (.inl s1))), (za, .inl ((kA 2), mm, .inl zf))]) (w1 := [(rd, .inr (3, [.ref o, .int (nI n), .int (nI (q + 1))]))]) hP hD [3] [0, 1, 2] rfl rfl (by decide) (by decide) hk1 hFc hP1 hD1
          refine W.eq (g2 := F0 m 97 ls []) rfl ?_
          have hP : va_P D classes [(a, .inr (2, [.ref sa, .ref za, .int (nI cnt)])), (sa, .inl ((kA 1), (mm * 4), .inr (.inl s1))), (za, .inl ((kA 2), mm, .inl zf)), (rd, .inr (3, [.ref o, .int (nI n), .int (nI (q + 1))]))] H := hP
          have hD : va_D A [(a, .inr (2, [.ref sa, .ref za, .int (nI cnt)])), (sa, .inl ((kA 1), (mm * 4), .inr (.inl s1))), (za, .inl ((kA 2), mm, .inl zf)), (rd, .inr (3, [.ref o, .int (nI n), .int (nI (q + 1))]))] := hD
          exact zk_vret S hr hlk hS ⟨rfl, s1, hP.sub (ws' := [(a, .inr (2, [.ref sa, .ref za, .int (nI cnt)])), (sa, .inl (kA 1, mm * 4, .inr (.inl s1))), (za, .inl (kA 2, mm, .inl zf)), (rd, .inr (3, [.ref o, .int (nI n), .int (nI (rSet bs n p0).2)]))]) [0, 1, 2, 3] (by rw [hset2, rSet_end hend]; rfl), hD.sub (ws' := [(a, .inr (2, [.ref sa, .ref za, .int (nI cnt)])), (sa, .inl (kA 1, mm * 4, .inr (.inl s1))), (za, .inl (kA 2, mm, .inl zf)), (rd, .inr (3, [.ref o, .int (nI n), .int (nI (rSet bs n p0).2)]))]) [0, 1, 2, 3] (by decide) (by rw [hset2, rSet_end hend]; rfl), fun i x hx => by
            rw [hs1 i x hx, hset1, rSet_end hend, List.append_nil]⟩ (Nat.le_refl _) (Nat.le_refl _) d_Pattern_readChoice_97
        · have hqn : q < n := Nat.not_le.mp fun z => c17 (zAh_out z)
          have hbq := hb256 q (by omega)
          obtain ⟨hq1, hq2⟩ := rSelf_gt bs n q
          refine lv_aload_n hx hb d_Pattern_readChoice_20 rfl (lv_at hl 1 rfl) ?_
          refine lv_iconst (v := 0) hx hb d_Pattern_readChoice_21 (by decide) ?_
          refine zk_ti (z := nI 0) (rfl) ?_
          refine zk_pure (zk_runV (As := [.int (nI 0)]) (rest := []) S m_Pattern_43 (c_Reader_ahead l D kA (fun q => ¬ A q) rd o lim n q 0 bs hn (by omega) (by omega)) rfl rfl ⟨Nat.le_of_ble_eq_true rfl, Nat.le_of_ble_eq_true rfl⟩ hK hX (zk_recv hK (hP 3 _ rfl) rfl) (⟨(hP 3 _ rfl), hO.ro hS⟩) rfl hl.1 rfl (Nat.le_of_ble_eq_true rfl) ⟨Nat.le_of_ble_eq_true rfl, Nat.le_of_ble_eq_true rfl⟩ d_Pattern_readChoice_22) ?_
          refine zk_ti (z := nI (bs.getD q 0)) (zAh_in hqn) ?_
          refine lv_bipush (v := 93) hx hb d_Pattern_readChoice_25 (by decide) ?_
          refine lv_icmp_ne (tgt := 33) hx hb d_Pattern_readChoice_27 (by decide) (fun c27 => ?_) (fun c27 => ?_)
          · have h93 : bs.getD q 0 ≠ 93 := fun z => c27 (by rw [z]; rfl)
            have hlo := rSelf_lt hb256 hqn hn
            refine lv_aload_n hx hb d_Pattern_readChoice_33 rfl (lv_at hl 1 rfl) ?_
            have hFc := va_free (wc := [(rd, .inr (3, [.ref o, .int (nI n), .int (nI q)]))]) hD hS hA [3] rfl
            refine zk_mut (zk_runV (As := []) (rest := []) S m_Pattern_64 (c_Reader_nextItself l D kA rd o lim n q bs hn (by omega) hqn H.size) rfl rfl ⟨Nat.le_of_ble_eq_true rfl, Nat.le_of_ble_eq_true rfl⟩ hK hX (zk_recv hK (hP 3 _ rfl) rfl) ⟨rfl, hP.sub (ws' := [(rd, .inr (3, [.ref o, .int (nI n), .int (nI q)]))]) [3] rfl, (hD.sub (ws' := [(rd, .inr (3, [.ref o, .int (nI n), .int (nI q)]))]) [3] (by decide) rfl).weaken (fun _ _ _ _ => trivial), ((hO.ro hS).weaken (fun q hq hz => hq (hFc q hz)))⟩ rfl hl.1 rfl (Nat.le_of_ble_eq_true rfl) ⟨Nat.le_of_ble_eq_true rfl, Nat.le_of_ble_eq_true rfl⟩ d_Pattern_readChoice_34) hS hFc hFc (fun v H locs hpost hz1 hk1 hS => ?_)
            obtain ⟨rfl, hP1, hD1⟩ := hpost
            obtain ⟨hP, hD⟩ := va_join (wr := [(a, .inr (2, [.ref sa, .ref za, .int (nI cnt)])), (sa, .inl ((kA 1), (mm * 4), .inr (.inl s1))), (za, .inl ((kA 2), mm, .inl zf))]) (w1 := [(rd, .inr (3, [.ref o, .int (nI n), .int (nI (rSelf bs n q).2)]))]) hP hD [3] [0, 1, 2] rfl rfl (by decide) (by decide) hk1 hFc hP1 hD1
            refine W.eq (g2 := F0 m 37 ls [.int (nI (rSelf bs n q).1)]) rfl ?_
            have hP : va_P D classes [(a, .inr (2, [.ref sa, .ref za, .int (nI cnt)])), (sa, .inl ((kA 1), (mm * 4), .inr (.inl s1))), (za, .inl ((kA 2), mm, .inl zf)), (rd, .inr (3, [.ref o, .int (nI n), .int (nI (rSelf bs n q).2)]))] H := hP
            have hD : va_D A [(a, .inr (2, [.ref sa, .ref za, .int (nI cnt)])), (sa, .inl ((kA 1), (mm * 4), .inr (.inl s1))), (za, .inl ((kA 2), mm, .inl zf)), (rd, .inr (3, [.ref o, .int (nI n), .int (nI (rSelf bs n q).2)]))] := hD
            refine lv_istore_n (lv' := [(3, .int (nI (rSelf bs n q).1)), (0, .ref a), (1, .ref rd), (2, .int (nI k))]) hx hb d_Pattern_readChoice_37 rfl hl (by decide) rfl (fun ls hl => ?_)
            refine lv_iload_n hx hb d_Pattern_readChoice_38 rfl (lv_at hl 0 rfl) ?_
            refine lv_istore (lv' := [(4, .int (nI (rSelf bs n q).1)), (3, .int (nI (rSelf bs n q).1)), (0, .ref a), (1, .ref rd), (2, .int (nI k))]) hx hb d_Pattern_readChoice_39 hl (by decide) rfl (fun ls hl => ?_)
            refine lv_aload_n hx hb d_Pattern_readChoice_41 rfl (lv_at hl 3 rfl) ?_
            refine lv_iconst (v := 0) hx hb d_Pattern_readChoice_42 (by decide) ?_
            refine zk_ti (z := nI 0) (rfl) ?_
            refine zk_pure (zk_runV (As := [.int (nI 0)]) (rest := []) S m_Pattern_43 (c_Reader_ahead l D kA (fun q => ¬ A q) rd o lim n ((rSelf bs n q).2) 0 bs hn (by omega) (by omega)) rfl rfl ⟨Nat.le_of_ble_eq_true rfl, Nat.le_of_ble_eq_true rfl⟩ hK hX (zk_recv hK (hP 3 _ rfl) rfl) (⟨(hP 3 _ rfl), hO.ro hS⟩) rfl hl.1 rfl (Nat.le_of_ble_eq_true rfl) ⟨Nat.le_of_ble_eq_true rfl, Nat.le_of_ble_eq_true rfl⟩ d_Pattern_readChoice_43) ?_
            refine lv_bipush (v := 45) hx hb d_Pattern_readChoice_46 (by decide) ?_
            refine lv_icmp_ne (tgt := 80) hx hb d_Pattern_readChoice_48 (by decide) (fun c48 => ?_) (fun c48 => ?_)
            · have hstep : rStep bs n q = ((rSelf bs n q).1, (rSelf bs n q).1, (rSelf bs n q).2) := if_neg (fun z => c48 (by rw [show zAh bs n ((rSelf bs n q).2 + 0) = nI (bs.getD (rSelf bs n q).2 0) from zAh_in (by omega), z.2.1]; rfl))
              refine lv_aload_n hx hb d_Pattern_readChoice_80 rfl (lv_at hl 2 rfl) ?_
              refine lv_iload_n hx hb d_Pattern_readChoice_81 rfl (lv_at hl 1 rfl) ?_
              refine lv_iload hx hb d_Pattern_readChoice_82 (lv_at hl 0 rfl) ?_
              have hFc := va_free (wc := [(a, .inr (2, [.ref sa, .ref za, .int (nI cnt)])), (sa, .inl ((kA 1), (mm * 4), .inr (.inl s1)))]) hD hS hA [0, 1] rfl
              refine zk_mut (zk_runV (As := [.int (nI (rSelf bs n q).1), .int (nI (rSelf bs n q).1)]) (rest := []) S m_Pattern_57 (c_Pattern_allow l D kA a sa za mm cnt s1 (rSelf bs n q).1 (rSelf bs n q).1 hc hm hlo hlo H.size) rfl rfl ⟨Nat.le_of_ble_eq_true rfl, Nat.le_of_ble_eq_true rfl⟩ hK hX (zk_recv hK (hP 0 _ rfl) rfl) ⟨rfl, hP.sub (ws' := [(a, .inr (2, [.ref sa, .ref za, .int (nI cnt)])), (sa, .inl ((kA 1), (mm * 4), .inr (.inl s1)))]) [0, 1] rfl, (hD.sub (ws' := [(a, .inr (2, [.ref sa, .ref za, .int (nI cnt)])), (sa, .inl ((kA 1), (mm * 4), .inr (.inl s1)))]) [0, 1] (by decide) rfl).weaken (fun _ _ _ _ => trivial)⟩ rfl hl.1 rfl (Nat.le_of_ble_eq_true rfl) ⟨Nat.le_of_ble_eq_true rfl, Nat.le_of_ble_eq_true rfl⟩ d_Pattern_readChoice_84) hS hFc hFc (fun v H locs hpost hz1 hk1 hS => ?_)
              obtain ⟨rfl, s2, hP1, hD1, hal⟩ := hpost
              obtain ⟨hP, hD⟩ := va_join (wr := [(za, .inl ((kA 2), mm, .inl zf)), (rd, .inr (3, [.ref o, .int (nI n), .int (nI (rSelf bs n q).2)]))]) (w1 := [(a, .inr (2, [.ref sa, .ref za, .int (nI cnt)])), (sa, .inl ((kA 1), (mm * 4), .inr (.inl s2)))]) hP hD [0, 1] [2, 3] rfl rfl (by decide) (by decide) hk1 hFc hP1 hD1
              refine W.eq (g2 := F0 m 87 ls []) rfl ?_
              have hP : va_P D classes [(za, .inl ((kA 2), mm, .inl zf)), (rd, .inr (3, [.ref o, .int (nI n), .int (nI (rSelf bs n q).2)])), (a, .inr (2, [.ref sa, .ref za, .int (nI cnt)])), (sa, .inl ((kA 1), (mm * 4), .inr (.inl s2)))] H := hP
              have hD : va_D A [(za, .inl ((kA 2), mm, .inl zf)), (rd, .inr (3, [.ref o, .int (nI n), .int (nI (rSelf bs n q).2)])), (a, .inr (2, [.ref sa, .ref za, .int (nI cnt)])), (sa, .inl ((kA 1), (mm * 4), .inr (.inl s2)))] := hD
              refine lv_iinc (v := (nI (k + 1))) (lv' := [(2, .int (nI (k + 1))), (4, .int (nI (rSelf bs n q).1)), (3, .int (nI (rSelf bs n q).1)), (0, .ref a), (1, .ref rd)]) hx hb d_Pattern_readChoice_87 hl (k := 4) rfl (nI_1 k) (by decide) rfl (fun ls hl => ?_)
              refine lv_goto (tgt := 2) hx hb d_Pattern_readChoice_90 (by decide) ?_
              exact ih (k + 1) (rSelf bs n q).2 (Sl ++ [((rSelf bs n q).1, (rSelf bs n q).1)]) s2 (by have := rStep_gt bs n q; rw [hstep] at this; simp only at this; omega) (by have := rStep_gt bs n q; rw [hstep] at this; simp only at this; omega) (by have := rStep_gt bs n q; rw [hstep] at this; simp only at this; omega) (by rw [hset1, rSet_step hqn h93, hstep, List.append_assoc]; rfl) (by rw [hset2, rSet_step hqn h93, hstep]) (fun i x hx => by
                rw [hal i x hx, hs1 i x hx, pIn_snoc, Bool.or_assoc, Bool.and_or_distrib_left]) _ _ (hP.sub [2, 3, 0, 1] rfl) (hD.sub [2, 3, 0, 1] (by decide) rfl) hS ls (lv_sub hl [3, 4, 0] rfl)
            · refine lv_aload_n hx hb d_Pattern_readChoice_51 rfl (lv_at hl 3 rfl) ?_
              refine lv_iconst (v := 1) hx hb d_Pattern_readChoice_52 (by decide) ?_
              refine zk_ti (z := nI 1) (rfl) ?_
              refine zk_pure (zk_runV (As := [.int (nI 1)]) (rest := []) S m_Pattern_43 (c_Reader_ahead l D kA (fun q => ¬ A q) rd o lim n ((rSelf bs n q).2) 1 bs hn (by omega) (by omega)) rfl rfl ⟨Nat.le_of_ble_eq_true rfl, Nat.le_of_ble_eq_true rfl⟩ hK hX (zk_recv hK (hP 3 _ rfl) rfl) (⟨(hP 3 _ rfl), hO.ro hS⟩) rfl hl.1 rfl (Nat.le_of_ble_eq_true rfl) ⟨Nat.le_of_ble_eq_true rfl, Nat.le_of_ble_eq_true rfl⟩ d_Pattern_readChoice_53) ?_
              refine lv_bipush (v := 93) hx hb d_Pattern_readChoice_56 (by decide) ?_
              refine lv_icmp_eq (tgt := 80) hx hb d_Pattern_readChoice_58 (by decide) (fun c58 => ?_) (fun c58 => ?_)
              · have hstep : rStep bs n q = ((rSelf bs n q).1, (rSelf bs n q).1, (rSelf bs n q).2) := if_neg (fun z => z.2.2 (by
                  rw [zAh_in z.1] at c58
                  have := hb256 _ (show (rSelf bs n q).2 + 1 < bs.length by omega)
                  exact (nI_eq (by omega) (by omega)).mp (show nI _ = nI 93 from c58)))
                refine lv_aload_n hx hb d_Pattern_readChoice_80 rfl (lv_at hl 2 rfl) ?_
                refine lv_iload_n hx hb d_Pattern_readChoice_81 rfl (lv_at hl 1 rfl) ?_
                refine lv_iload hx hb d_Pattern_readChoice_82 (lv_at hl 0 rfl) ?_
                have hFc := va_free (wc := [(a, .inr (2, [.ref sa, .ref za, .int (nI cnt)])), (sa, .inl ((kA 1), (mm * 4), .inr (.inl s1)))]) hD hS hA [0, 1] rfl
                refine zk_mut (zk_runV (As := [.int (nI (rSelf bs n q).1), .int (nI (rSelf bs n q).1)]) (rest := []) S m_Pattern_57 (c_Pattern_allow l D kA a sa za mm cnt s1 (rSelf bs n q).1 (rSelf bs n q).1 hc hm hlo hlo H.size) rfl rfl ⟨Nat.le_of_ble_eq_true rfl, Nat.le_of_ble_eq_true rfl⟩ hK hX (zk_recv hK (hP 0 _ rfl) rfl) ⟨rfl, hP.sub (ws' := [(a, .inr (2, [.ref sa, .ref za, .int (nI cnt)])), (sa, .inl ((kA 1), (mm * 4), .inr (.inl s1)))]) [0, 1] rfl, (hD.sub (ws' := [(a, .inr (2, [.ref sa, .ref za, .int (nI cnt)])), (sa, .inl ((kA 1), (mm * 4), .inr (.inl s1)))]) [0, 1] (by decide) rfl).weaken (fun _ _ _ _ => trivial)⟩ rfl hl.1 rfl (Nat.le_of_ble_eq_true rfl) ⟨Nat.le_of_ble_eq_true rfl, Nat.le_of_ble_eq_true rfl⟩ d_Pattern_readChoice_84) hS hFc hFc (fun v H locs hpost hz1 hk1 hS => ?_)
                obtain ⟨rfl, s2, hP1, hD1, hal⟩ := hpost
                obtain ⟨hP, hD⟩ := va_join (wr := [(za, .inl ((kA 2), mm, .inl zf)), (rd, .inr (3, [.ref o, .int (nI n), .int (nI (rSelf bs n q).2)]))]) (w1 := [(a, .inr (2, [.ref sa, .ref za, .int (nI cnt)])), (sa, .inl ((kA 1), (mm * 4), .inr (.inl s2)))]) hP hD [0, 1] [2, 3] rfl rfl (by decide) (by decide) hk1 hFc hP1 hD1
                refine W.eq (g2 := F0 m 87 ls []) rfl ?_
                have hP : va_P D classes [(za, .inl ((kA 2), mm, .inl zf)), (rd, .inr (3, [.ref o, .int (nI n), .int (nI (rSelf bs n q).2)])), (a, .inr (2, [.ref sa, .ref za, .int (nI cnt)])), (sa, .inl ((kA 1), (mm * 4), .inr (.inl s2)))] H := hP
                have hD : va_D A [(za, .inl ((kA 2), mm, .inl zf)), (rd, .inr (3, [.ref o, .int (nI n), .int (nI (rSelf bs n q).2)])), (a, .inr (2, [.ref sa, .ref za, .int (nI cnt)])), (sa, .inl ((kA 1), (mm * 4), .inr (.inl s2)))] := hD
                refine lv_iinc (v := (nI (k + 1))) (lv' := [(2, .int (nI (k + 1))), (4, .int (nI (rSelf bs n q).1)), (3, .int (nI (rSelf bs n q).1)), (0, .ref a), (1, .ref rd)]) hx hb d_Pattern_readChoice_87 hl (k := 4) rfl (nI_1 k) (by decide) rfl (fun ls hl => ?_)
                refine lv_goto (tgt := 2) hx hb d_Pattern_readChoice_90 (by decide) ?_
                exact ih (k + 1) (rSelf bs n q).2 (Sl ++ [((rSelf bs n q).1, (rSelf bs n q).1)]) s2 (by have := rStep_gt bs n q; rw [hstep] at this; simp only at this; omega) (by have := rStep_gt bs n q; rw [hstep] at this; simp only at this; omega) (by have := rStep_gt bs n q; rw [hstep] at this; simp only at this; omega) (by rw [hset1, rSet_step hqn h93, hstep, List.append_assoc]; rfl) (by rw [hset2, rSet_step hqn h93, hstep]) (fun i x hx => by
                  rw [hal i x hx, hs1 i x hx, pIn_snoc, Bool.or_assoc, Bool.and_or_distrib_left]) _ _ (hP.sub [2, 3, 0, 1] rfl) (hD.sub [2, 3, 0, 1] (by decide) rfl) hS ls (lv_sub hl [3, 4, 0] rfl)
              · refine lv_aload_n hx hb d_Pattern_readChoice_61 rfl (lv_at hl 3 rfl) ?_
                refine lv_iconst (v := 1) hx hb d_Pattern_readChoice_62 (by decide) ?_
                refine zk_ti (z := nI 1) (rfl) ?_
                refine zk_pure (zk_runV (As := [.int (nI 1)]) (rest := []) S m_Pattern_43 (c_Reader_ahead l D kA (fun q => ¬ A q) rd o lim n ((rSelf bs n q).2) 1 bs hn (by omega) (by omega)) rfl rfl ⟨Nat.le_of_ble_eq_true rfl, Nat.le_of_ble_eq_true rfl⟩ hK hX (zk_recv hK (hP 3 _ rfl) rfl) (⟨(hP 3 _ rfl), hO.ro hS⟩) rfl hl.1 rfl (Nat.le_of_ble_eq_true rfl) ⟨Nat.le_of_ble_eq_true rfl, Nat.le_of_ble_eq_true rfl⟩ d_Pattern_readChoice_63) ?_
                refine lv_iconst (v := (-1)) hx hb d_Pattern_readChoice_66 (by decide) ?_
                refine lv_icmp_eq (tgt := 80) hx hb d_Pattern_readChoice_67 (by decide) (fun c67 => ?_) (fun c67 => ?_)
                · have hstep : rStep bs n q = ((rSelf bs n q).1, (rSelf bs n q).1, (rSelf bs n q).2) := if_neg (fun z => zNe1 (by have := hb256 _ (show (rSelf bs n q).2 + 1 < bs.length by omega); omega) ((zAh_in z.1).symm.trans c67))
                  refine lv_aload_n hx hb d_Pattern_readChoice_80 rfl (lv_at hl 2 rfl) ?_
                  refine lv_iload_n hx hb d_Pattern_readChoice_81 rfl (lv_at hl 1 rfl) ?_
                  refine lv_iload hx hb d_Pattern_readChoice_82 (lv_at hl 0 rfl) ?_
                  have hFc := va_free (wc := [(a, .inr (2, [.ref sa, .ref za, .int (nI cnt)])), (sa, .inl ((kA 1), (mm * 4), .inr (.inl s1)))]) hD hS hA [0, 1] rfl
                  refine zk_mut (zk_runV (As := [.int (nI (rSelf bs n q).1), .int (nI (rSelf bs n q).1)]) (rest := []) S m_Pattern_57 (c_Pattern_allow l D kA a sa za mm cnt s1 (rSelf bs n q).1 (rSelf bs n q).1 hc hm hlo hlo H.size) rfl rfl ⟨Nat.le_of_ble_eq_true rfl, Nat.le_of_ble_eq_true rfl⟩ hK hX (zk_recv hK (hP 0 _ rfl) rfl) ⟨rfl, hP.sub (ws' := [(a, .inr (2, [.ref sa, .ref za, .int (nI cnt)])), (sa, .inl ((kA 1), (mm * 4), .inr (.inl s1)))]) [0, 1] rfl, (hD.sub (ws' := [(a, .inr (2, [.ref sa, .ref za, .int (nI cnt)])), (sa, .inl ((kA 1), (mm * 4), .inr (.inl s1)))]) [0, 1] (by decide) rfl).weaken (fun _ _ _ _ => trivial)⟩ rfl hl.1 rfl (Nat.le_of_ble_eq_true rfl) ⟨Nat.le_of_ble_eq_true rfl, Nat.le_of_ble_eq_true rfl⟩ d_Pattern_readChoice_84) hS hFc hFc (fun v H locs hpost hz1 hk1 hS => ?_)
                  obtain ⟨rfl, s2, hP1, hD1, hal⟩ := hpost
                  obtain ⟨hP, hD⟩ := va_join (wr := [(za, .inl ((kA 2), mm, .inl zf)), (rd, .inr (3, [.ref o, .int (nI n), .int (nI (rSelf bs n q).2)]))]) (w1 := [(a, .inr (2, [.ref sa, .ref za, .int (nI cnt)])), (sa, .inl ((kA 1), (mm * 4), .inr (.inl s2)))]) hP hD [0, 1] [2, 3] rfl rfl (by decide) (by decide) hk1 hFc hP1 hD1
                  refine W.eq (g2 := F0 m 87 ls []) rfl ?_
                  have hP : va_P D classes [(za, .inl ((kA 2), mm, .inl zf)), (rd, .inr (3, [.ref o, .int (nI n), .int (nI (rSelf bs n q).2)])), (a, .inr (2, [.ref sa, .ref za, .int (nI cnt)])), (sa, .inl ((kA 1), (mm * 4), .inr (.inl s2)))] H := hP
                  have hD : va_D A [(za, .inl ((kA 2), mm, .inl zf)), (rd, .inr (3, [.ref o, .int (nI n), .int (nI (rSelf bs n q).2)])), (a, .inr (2, [.ref sa, .ref za, .int (nI cnt)])), (sa, .inl ((kA 1), (mm * 4), .inr (.inl s2)))] := hD
                  refine lv_iinc (v := (nI (k + 1))) (lv' := [(2, .int (nI (k + 1))), (4, .int (nI (rSelf bs n q).1)), (3, .int (nI (rSelf bs n q).1)), (0, .ref a), (1, .ref rd)]) hx hb d_Pattern_readChoice_87 hl (k := 4) rfl (nI_1 k) (by decide) rfl (fun ls hl => ?_)
                  refine lv_goto (tgt := 2) hx hb d_Pattern_readChoice_90 (by decide) ?_
                  exact ih (k + 1) (rSelf bs n q).2 (Sl ++ [((rSelf bs n q).1, (rSelf bs n q).1)]) s2 (by have := rStep_gt bs n q; rw [hstep] at this; simp only at this; omega) (by have := rStep_gt bs n q; rw [hstep] at this; simp only at this; omega) (by have := rStep_gt bs n q; rw [hstep] at this; simp only at this; omega) (by rw [hset1, rSet_step hqn h93, hstep, List.append_assoc]; rfl) (by rw [hset2, rSet_step hqn h93, hstep]) (fun i x hx => by
                    rw [hal i x hx, hs1 i x hx, pIn_snoc, Bool.or_assoc, Bool.and_or_distrib_left]) _ _ (hP.sub [2, 3, 0, 1] rfl) (hD.sub [2, 3, 0, 1] (by decide) rfl) hS ls (lv_sub hl [3, 4, 0] rfl)
                · have hin1 : (rSelf bs n q).2 + 1 < n := Nat.not_le.mp fun z => c67 (zAh_out z)
                  have hb1 := hb256 _ (show (rSelf bs n q).2 < bs.length by omega)
                  have hb2 := hb256 _ (show (rSelf bs n q).2 + 1 < bs.length by omega)
                  have hstep : rStep bs n q = ((rSelf bs n q).1, (rSelf bs n ((rSelf bs n q).2 + 1)).1, (rSelf bs n ((rSelf bs n q).2 + 1)).2) := if_pos ⟨hin1, (nI_eq (by omega) (by omega)).mp (show nI _ = nI 45 from (zAh_in (show (rSelf bs n q).2 + 0 < n by omega)).symm.trans c48), fun z => c58 (by rw [zAh_in hin1, z]; rfl)⟩
                  have hhi := rSelf_lt hb256 hin1 hn
                  obtain ⟨hq7, hq8⟩ := rSelf_gt bs n ((rSelf bs n q).2 + 1)
                  refine lv_aload_n hx hb d_Pattern_readChoice_70 rfl (lv_at hl 3 rfl) ?_
                  have hFc := va_free (wc := [(rd, .inr (3, [.ref o, .int (nI n), .int (nI (rSelf bs n q).2)]))]) hD hS hA [3] rfl
                  refine zk_mut (zk_runV (As := []) (rest := []) S m_Pattern_51 (c_Reader_skip l D kA rd o n ((rSelf bs n q).2) H.size) rfl rfl ⟨Nat.le_of_ble_eq_true rfl, Nat.le_of_ble_eq_true rfl⟩ hK hX (zk_recv hK (hP 3 _ rfl) rfl) ⟨rfl, hP.sub (ws' := [(rd, .inr (3, [.ref o, .int (nI n), .int (nI (rSelf bs n q).2)]))]) [3] rfl, (hD.sub (ws' := [(rd, .inr (3, [.ref o, .int (nI n), .int (nI (rSelf bs n q).2)]))]) [3] (by decide) rfl).weaken (fun _ _ _ _ => trivial)⟩ rfl hl.1 rfl (Nat.le_of_ble_eq_true rfl) ⟨Nat.le_of_ble_eq_true rfl, Nat.le_of_ble_eq_true rfl⟩ d_Pattern_readChoice_71) hS hFc hFc (fun v H locs hpost hz1 hk1 hS => ?_)
                  obtain ⟨rfl, hP1, hD1⟩ := hpost
                  obtain ⟨hP, hD⟩ := va_join (wr := [(a, .inr (2, [.ref sa, .ref za, .int (nI cnt)])), (sa, .inl ((kA 1), (mm * 4), .inr (.inl s1))), (za, .inl ((kA 2), mm, .inl zf))]) (w1 := [(rd, .inr (3, [.ref o, .int (nI n), .int (nI ((rSelf bs n q).2 + 1))]))]) hP hD [3] [0, 1, 2] rfl rfl (by decide) (by decide) hk1 hFc hP1 hD1
                  refine W.eq (g2 := F0 m 74 ls []) rfl ?_
                  have hP : va_P D classes [(a, .inr (2, [.ref sa, .ref za, .int (nI cnt)])), (sa, .inl ((kA 1), (mm * 4), .inr (.inl s1))), (za, .inl ((kA 2), mm, .inl zf)), (rd, .inr (3, [.ref o, .int (nI n), .int (nI ((rSelf bs n q).2 + 1))]))] H := hP
                  have hD : va_D A [(a, .inr (2, [.ref sa, .ref za, .int (nI cnt)])), (sa, .inl ((kA 1), (mm * 4), .inr (.inl s1))), (za, .inl ((kA 2), mm, .inl zf)), (rd, .inr (3, [.ref o, .int (nI n), .int (nI ((rSelf bs n q).2 + 1))]))] := hD
                  refine lv_aload_n hx hb d_Pattern_readChoice_74 rfl (lv_at hl 3 rfl) ?_
                  have hFc := va_free (wc := [(rd, .inr (3, [.ref o, .int (nI n), .int (nI ((rSelf bs n q).2 + 1))]))]) hD hS hA [3] rfl
                  refine zk_mut (zk_runV (As := []) (rest := []) S m_Pattern_64 (c_Reader_nextItself l D kA rd o lim n ((rSelf bs n q).2 + 1) bs hn (by omega) hin1 H.size) rfl rfl ⟨Nat.le_of_ble_eq_true rfl, Nat.le_of_ble_eq_true rfl⟩ hK hX (zk_recv hK (hP 3 _ rfl) rfl) ⟨rfl, hP.sub (ws' := [(rd, .inr (3, [.ref o, .int (nI n), .int (nI ((rSelf bs n q).2 + 1))]))]) [3] rfl, (hD.sub (ws' := [(rd, .inr (3, [.ref o, .int (nI n), .int (nI ((rSelf bs n q).2 + 1))]))]) [3] (by decide) rfl).weaken (fun _ _ _ _ => trivial), ((hO.ro hS).weaken (fun q hq hz => hq (hFc q hz)))⟩ rfl hl.1 rfl (Nat.le_of_ble_eq_true rfl) ⟨Nat.le_of_ble_eq_true rfl, Nat.le_of_ble_eq_true rfl⟩ d_Pattern_readChoice_75) hS hFc hFc (fun v H locs hpost hz1 hk1 hS => ?_)
                  obtain ⟨rfl, hP1, hD1⟩ := hpost
                  obtain ⟨hP, hD⟩ := va_join (wr := [(a, .inr (2, [.ref sa, .ref za, .int (nI cnt)])), (sa, .inl ((kA 1), (mm * 4), .inr (.inl s1))), (za, .inl ((kA 2), mm, .inl zf))]) (w1 := [(rd, .inr (3, [.ref o, .int (nI n), .int (nI (rSelf bs n ((rSelf bs n q).2 + 1)).2)]))]) hP hD [3] [0, 1, 2] rfl rfl (by decide) (by decide) hk1 hFc hP1 hD1
                  refine W.eq (g2 := F0 m 78 ls [.int (nI (rSelf bs n ((rSelf bs n q).2 + 1)).1)]) rfl ?_
                  have hP : va_P D classes [(a, .inr (2, [.ref sa, .ref za, .int (nI cnt)])), (sa, .inl ((kA 1), (mm * 4), .inr (.inl s1))), (za, .inl ((kA 2), mm, .inl zf)), (rd, .inr (3, [.ref o, .int (nI n), .int (nI (rSelf bs n ((rSelf bs n q).2 + 1)).2)]))] H := hP
                  have hD : va_D A [(a, .inr (2, [.ref sa, .ref za, .int (nI cnt)])), (sa, .inl ((kA 1), (mm * 4), .inr (.inl s1))), (za, .inl ((kA 2), mm, .inl zf)), (rd, .inr (3, [.ref o, .int (nI n), .int (nI (rSelf bs n ((rSelf bs n q).2 + 1)).2)]))] := hD
                  refine lv_istore (lv' := [(4, .int (nI (rSelf bs n ((rSelf bs n q).2 + 1)).1)), (3, .int (nI (rSelf bs n q).1)), (0, .ref a), (1, .ref rd), (2, .int (nI k))]) hx hb d_Pattern_readChoice_78 hl (by decide) rfl (fun ls hl => ?_)
                  refine lv_aload_n hx hb d_Pattern_readChoice_80 rfl (lv_at hl 2 rfl) ?_
                  refine lv_iload_n hx hb d_Pattern_readChoice_81 rfl (lv_at hl 1 rfl) ?_
                  refine lv_iload hx hb d_Pattern_readChoice_82 (lv_at hl 0 rfl) ?_
                  have hFc := va_free (wc := [(a, .inr (2, [.ref sa, .ref za, .int (nI cnt)])), (sa, .inl ((kA 1), (mm * 4), .inr (.inl s1)))]) hD hS hA [0, 1] rfl
                  refine zk_mut (zk_runV (As := [.int (nI (rSelf bs n q).1), .int (nI (rSelf bs n ((rSelf bs n q).2 + 1)).1)]) (rest := []) S m_Pattern_57 (c_Pattern_allow l D kA a sa za mm cnt s1 (rSelf bs n q).1 (rSelf bs n ((rSelf bs n q).2 + 1)).1 hc hm hlo hhi H.size) rfl rfl ⟨Nat.le_of_ble_eq_true rfl, Nat.le_of_ble_eq_true rfl⟩ hK hX (zk_recv hK (hP 0 _ rfl) rfl) ⟨rfl, hP.sub (ws' := [(a, .inr (2, [.ref sa, .ref za, .int (nI cnt)])), (sa, .inl ((kA 1), (mm * 4), .inr (.inl s1)))]) [0, 1] rfl, (hD.sub (ws' := [(a, .inr (2, [.ref sa, .ref za, .int (nI cnt)])), (sa, .inl ((kA 1), (mm * 4), .inr (.inl s1)))]) [0, 1] (by decide) rfl).weaken (fun _ _ _ _ => trivial)⟩ rfl hl.1 rfl (Nat.le_of_ble_eq_true rfl) ⟨Nat.le_of_ble_eq_true rfl, Nat.le_of_ble_eq_true rfl⟩ d_Pattern_readChoice_84) hS hFc hFc (fun v H locs hpost hz1 hk1 hS => ?_)
                  obtain ⟨rfl, s2, hP1, hD1, hal⟩ := hpost
                  obtain ⟨hP, hD⟩ := va_join (wr := [(za, .inl ((kA 2), mm, .inl zf)), (rd, .inr (3, [.ref o, .int (nI n), .int (nI (rSelf bs n ((rSelf bs n q).2 + 1)).2)]))]) (w1 := [(a, .inr (2, [.ref sa, .ref za, .int (nI cnt)])), (sa, .inl ((kA 1), (mm * 4), .inr (.inl s2)))]) hP hD [0, 1] [2, 3] rfl rfl (by decide) (by decide) hk1 hFc hP1 hD1
                  refine W.eq (g2 := F0 m 87 ls []) rfl ?_
                  have hP : va_P D classes [(za, .inl ((kA 2), mm, .inl zf)), (rd, .inr (3, [.ref o, .int (nI n), .int (nI (rSelf bs n ((rSelf bs n q).2 + 1)).2)])), (a, .inr (2, [.ref sa, .ref za, .int (nI cnt)])), (sa, .inl ((kA 1), (mm * 4), .inr (.inl s2)))] H := hP
                  have hD : va_D A [(za, .inl ((kA 2), mm, .inl zf)), (rd, .inr (3, [.ref o, .int (nI n), .int (nI (rSelf bs n ((rSelf bs n q).2 + 1)).2)])), (a, .inr (2, [.ref sa, .ref za, .int (nI cnt)])), (sa, .inl ((kA 1), (mm * 4), .inr (.inl s2)))] := hD
                  refine lv_iinc (v := (nI (k + 1))) (lv' := [(2, .int (nI (k + 1))), (4, .int (nI (rSelf bs n ((rSelf bs n q).2 + 1)).1)), (3, .int (nI (rSelf bs n q).1)), (0, .ref a), (1, .ref rd)]) hx hb d_Pattern_readChoice_87 hl (k := 4) rfl (nI_1 k) (by decide) rfl (fun ls hl => ?_)
                  refine lv_goto (tgt := 2) hx hb d_Pattern_readChoice_90 (by decide) ?_
                  exact ih (k + 1) (rSelf bs n ((rSelf bs n q).2 + 1)).2 (Sl ++ [((rSelf bs n q).1, (rSelf bs n ((rSelf bs n q).2 + 1)).1)]) s2 (by have := rStep_gt bs n q; rw [hstep] at this; simp only at this; omega) (by have := rStep_gt bs n q; rw [hstep] at this; simp only at this; omega) (by have := rStep_gt bs n q; rw [hstep] at this; simp only at this; omega) (by rw [hset1, rSet_step hqn h93, hstep, List.append_assoc]; rfl) (by rw [hset2, rSet_step hqn h93, hstep]) (fun i x hx => by
                    rw [hal i x hx, hs1 i x hx, pIn_snoc, Bool.or_assoc, Bool.and_or_distrib_left]) _ _ (hP.sub [2, 3, 0, 1] rfl) (hD.sub [2, 3, 0, 1] (by decide) rfl) hS ls (lv_sub hl [3, 4, 0] rfl)
          · refine lv_goto (tgt := 93) hx hb d_Pattern_readChoice_30 (by decide) ?_
            have hend : n ≤ q ∨ bs.getD q 0 = 93 := Or.inr ((nI_eq (by omega) (by omega)).mp (show nI (bs.getD q 0) = nI 93 from c27))
            refine lv_aload_n hx hb d_Pattern_readChoice_93 rfl (lv_at hl 1 rfl) ?_
            have hFc := va_free (wc := [(rd, .inr (3, [.ref o, .int (nI n), .int (nI q)]))]) hD hS hA [3] rfl
            refine zk_mut (zk_runV (As := []) (rest := []) S m_Pattern_51 (c_Reader_skip l D kA rd o n q H.size) rfl rfl ⟨Nat.le_of_ble_eq_true rfl, Nat.le_of_ble_eq_true rfl⟩ hK hX (zk_recv hK (hP 3 _ rfl) rfl) ⟨rfl, hP.sub (ws' := [(rd, .inr (3, [.ref o, .int (nI n), .int (nI q)]))]) [3] rfl, (hD.sub (ws' := [(rd, .inr (3, [.ref o, .int (nI n), .int (nI q)]))]) [3] (by decide) rfl).weaken (fun _ _ _ _ => trivial)⟩ rfl hl.1 rfl (Nat.le_of_ble_eq_true rfl) ⟨Nat.le_of_ble_eq_true rfl, Nat.le_of_ble_eq_true rfl⟩ d_Pattern_readChoice_94) hS hFc hFc (fun v H locs hpost hz1 hk1 hS => ?_)
            obtain ⟨rfl, hP1, hD1⟩ := hpost
            obtain ⟨hP, hD⟩ := va_join (wr := [(a, .inr (2, [.ref sa, .ref za, .int (nI cnt)])), (sa, .inl ((kA 1), (mm * 4), .inr (.inl s1))), (za, .inl ((kA 2), mm, .inl zf))]) (w1 := [(rd, .inr (3, [.ref o, .int (nI n), .int (nI (q + 1))]))]) hP hD [3] [0, 1, 2] rfl rfl (by decide) (by decide) hk1 hFc hP1 hD1
            refine W.eq (g2 := F0 m 97 ls []) rfl ?_
            have hP : va_P D classes [(a, .inr (2, [.ref sa, .ref za, .int (nI cnt)])), (sa, .inl ((kA 1), (mm * 4), .inr (.inl s1))), (za, .inl ((kA 2), mm, .inl zf)), (rd, .inr (3, [.ref o, .int (nI n), .int (nI (q + 1))]))] H := hP
            have hD : va_D A [(a, .inr (2, [.ref sa, .ref za, .int (nI cnt)])), (sa, .inl ((kA 1), (mm * 4), .inr (.inl s1))), (za, .inl ((kA 2), mm, .inl zf)), (rd, .inr (3, [.ref o, .int (nI n), .int (nI (q + 1))]))] := hD
            exact zk_vret S hr hlk hS ⟨rfl, s1, hP.sub (ws' := [(a, .inr (2, [.ref sa, .ref za, .int (nI cnt)])), (sa, .inl (kA 1, mm * 4, .inr (.inl s1))), (za, .inl (kA 2, mm, .inl zf)), (rd, .inr (3, [.ref o, .int (nI n), .int (nI (rSet bs n p0).2)]))]) [0, 1, 2, 3] (by rw [hset2, rSet_end hend]; rfl), hD.sub (ws' := [(a, .inr (2, [.ref sa, .ref za, .int (nI cnt)])), (sa, .inl (kA 1, mm * 4, .inr (.inl s1))), (za, .inl (kA 2, mm, .inl zf)), (rd, .inr (3, [.ref o, .int (nI n), .int (nI (rSet bs n p0).2)]))]) [0, 1, 2, 3] (by decide) (by rw [hset2, rSet_end hend]; rfl), fun i x hx => by
              rw [hs1 i x hx, hset1, rSet_end hend, List.append_nil]⟩ (Nat.le_refl _) (Nat.le_refl _) d_Pattern_readChoice_97
  exact lp (n + 5) 0 p0 [] sf (by omega) (by omega) (by omega) rfl rfl (fun i x _ => by simp [pIn]) _ _ (hP.sub [0, 1, 2, 3] rfl) (hD.sub [0, 1, 2, 3] (by decide) rfl) hS ls (lv_sub hl [1, 2, 0] rfl)
