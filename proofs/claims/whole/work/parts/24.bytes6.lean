set_option maxHeartbeats 4000000 in
set_option maxRecDepth 100000 in
/-- Bytes.copyFrom(from, 200) -/
theorem c_Bytes_copyFrom (l : Launch) (D : va_G) (kA : Nat → ClassId) (a lim fr : Nat) (bs : List Nat) (hfr : fr ≤ bs.length) (hle : bs.length - fr ≤ 200) (sz0 : Nat) : Met l y_Bytes_copyFrom (Cond.code y_Bytes_copyFrom b_Bytes_copyFrom 5 (some (.object "PeerLine$Bytes")) :: zTB) { frames := 3, cells := 2 + (zCapN 200 64 0 (bs.length - fr) - 64), slots := 67 + 3 * (zCapN 200 64 0 (bs.length - fr) - 64), locals := 83 } (zk_Pc D classes (zTY kA) [.ref a, .int (nI fr), .int (nI 200)] (fun H => H.size = sz0 ∧ va_P D classes [] H ∧ va_D (fun _ => True) [] ∧ BsAt D kA (fun q => ¬ (va_A [] sz0) q) H a lim bs)) (zk_mQ (fun v H => ∃ q, v = some (.ref q) ∧ BsPost D kA (va_A [] sz0) H q 200 (zCapN 200 64 0 (bs.length - fr)) (bs.drop fr)) (va_A [] sz0)) (2 + (zCapN 200 64 0 (bs.length - fr) - 64)) (67 + 3 * (zCapN 200 64 0 (bs.length - fr) - 64)) (va_A [] sz0) := by
  refine zk_of [.ref a, .int (nI fr), .int (nI 200)] (by decide) (Nat.le_of_ble_eq_true rfl) ?_
  intro p e s m below meth c S hr hlk hnm hK hX hpre ls hl
  obtain ⟨hx, hb, hml, hown, ht⟩ := id S
  have hl : lv_has ls 5 [(0, .ref a), (1, .int (nI fr)), (2, .int (nI 200))] := hl
  obtain ⟨hsz, hP, hD0, hO⟩ := hpre
  subst hsz
  have hD := hD0.self (sz := s.heap.size)
  generalize hAe : va_A [] s.heap.size = A at hD hO ⊢
  have hA : ∀ q : Nat, s.heap.size ≤ q → A q := fun q h => by rw [← hAe]; exact Or.inr h
  have hS : va_S A s.heap s.heap [] := va_S.rf
  have hP : va_P D classes [] s.heap := hP
  obtain ⟨ro, no, fo, hza, hzb, hO1, hO2, hO3⟩ := id hO
  obtain ⟨g1, g2, g3, g4, g5⟩ := id hO3
  obtain ⟨os, hos⟩ : ∃ os, os = bs.drop fr := ⟨_, rfl⟩
  have hol : os.length = bs.length - fr := by rw [hos, List.length_drop]
  have hog : ∀ i, os.getD i 0 = bs.getD (fr + i) 0 := fun i => by rw [hos, List.getD_eq_getElem?_getD, List.getElem?_drop, ← List.getD_eq_getElem?_getD]
  rw [← hos]
  refine va_new (ci := 0) (fs := [.int 0, .null, .int 0]) (C := R_Bytes) (T := F_Bytes) (N := 3) hx hb ht i_Bytes t_Bytes t_Bytes_ok hown (ht _ m_Bytes_16) (ht _ m_inst_Bytes) (ht _ m_ini_Bytes) hK hP hD hS hA rfl (fun j hj => by rcases (show j = 0 ∨ j = 1 ∨ j = 2 by omega) with rfl | rfl | rfl <;> rfl) (by show 0 + 1 ≤ 2 + (zCapN 200 64 0 (bs.length - fr) - 64); omega) (by show 0 + 3 ≤ 67 + 3 * (zCapN 200 64 0 (bs.length - fr) - 64); omega) d_Bytes_copyFrom_0 (fun q H hP hD hS => ?_)
  have hP : va_P D classes [(q, .inr (0, [.int 0, .null, .int 0]))] H := hP
  have hD : va_D A [(q, .inr (0, [.int 0, .null, .int 0]))] := hD
  refine lv_dup hx hb d_Bytes_copyFrom_3 rfl ?_
  refine lv_iload_n hx hb d_Bytes_copyFrom_4 rfl (lv_at hl 2 rfl) ?_
  have hFc := va_free (wc := [(q, .inr (0, [.int 0, .null, .int 0]))]) hD hS hA [0] rfl
  refine zk_mut (zk_runI (As := [.int (nI 200)]) (rest := [.ref q]) S m_Bytes_54 (c_Bytes_init l D kA q 200 (by decide) (by decide) (by unfold zOk; decide) H.size) rfl rfl ⟨Nat.le_of_ble_eq_true rfl, Nat.le_of_ble_eq_true rfl⟩ hK hX ⟨rfl, hP.sub (ws' := [(q, .inr (0, [.int 0, .null, .int 0]))]) [0] rfl, (hD.sub (ws' := [(q, .inr (0, [.int 0, .null, .int 0]))]) [0] (by decide) rfl).weaken (fun _ _ _ _ => trivial)⟩ rfl hl.1 rfl (Nat.le_of_ble_eq_true rfl) ⟨by show 0 + 1 + 1 ≤ 2 + (zCapN 200 64 0 (bs.length - fr) - 64); omega, by show 0 + 3 + 64 ≤ 67 + 3 * (zCapN 200 64 0 (bs.length - fr) - 64); omega⟩ d_Bytes_copyFrom_5) hS hFc hFc (fun v H locs hpost hz1 hk1 hS => ?_)
  obtain ⟨rfl, r0, f0, hP1, hD1, hb0⟩ := hpost
  obtain ⟨hP, hD⟩ := va_join (wr := []) (w1 := [(q, .inr (0, [.int (nI 200), .ref r0, .int (nI ([] : List Nat).length)])), (r0, .inl ((kA 0), 64, .inl f0))]) hP hD [0] [] rfl rfl (by decide) (by decide) hk1 hFc hP1 hD1
  refine W.eq (g2 := F0 m 8 ls [.ref q]) rfl ?_
  have hP : va_P D classes [(q, .inr (0, [.int (nI 200), .ref r0, .int (nI ([] : List Nat).length)])), (r0, .inl ((kA 0), 64, .inl f0))] H := hP
  have hD : va_D A [(q, .inr (0, [.int (nI 200), .ref r0, .int (nI ([] : List Nat).length)])), (r0, .inl ((kA 0), 64, .inl f0))] := hD
  refine lv_astore_n (lv' := [(3, .ref q), (0, .ref a), (1, .int (nI fr)), (2, .int (nI 200))]) hx hb d_Bytes_copyFrom_8 rfl hl (by decide) rfl (fun ls hl => ?_)
  refine lv_iconst (v := 0) hx hb d_Bytes_copyFrom_9 (by decide) ?_
  refine lv_iload_n hx hb d_Bytes_copyFrom_10 rfl (lv_at hl 2 rfl) ?_
  refine va_mmax hx hb (by rw [hml]; exact hl.1.symm) hown (ht _ m_Bytes_9) (ht _ m_max_s) (ht _ m_ini_Math) (ht _ m_max_c) (Nat.le_of_ble_eq_true rfl) (Nat.le_of_ble_eq_true rfl) (by show 0 + 1 + 1 ≤ 2 + (zCapN 200 64 0 (bs.length - fr) - 64); omega) (by show 0 + 3 + 64 ≤ 67 + 3 * (zCapN 200 64 0 (bs.length - fr) - 64); omega) d_Bytes_copyFrom_11 ?_
  refine zk_ti (z := nI fr) (by
    by_cases q0 : fr = 0
    · rw [q0]; rfl
    · exact if_pos (by rw [← nI_0]; exact nI_lt (by omega) (by omega))) ?_
  refine lv_istore (lv' := [(4, .int (nI fr)), (3, .ref q), (0, .ref a), (1, .int (nI fr)), (2, .int (nI 200))]) hx hb d_Bytes_copyFrom_14 hl (by decide) rfl (fun ls hl => ?_)
  have lp : ∀ (fu : Nat) (i r1 : Nat) (f1 : Nat → Int32), os.length - i < fu → i ≤ os.length → zBs 200 (zCapN 200 64 0 i) f1 (os.take i) → ∀ (H : Heap) (locs : List Loc), va_P D classes [(q, .inr (0, [.int (nI 200), .ref r1, .int (nI (os.take i).length)])), (r1, .inl ((kA 0), (zCapN 200 64 0 i), .inl f1))] H → va_D A [(q, .inr (0, [.int (nI 200), .ref r1, .int (nI (os.take i).length)])), (r1, .inl ((kA 0), (zCapN 200 64 0 i), .inl f1))] → va_S A s.heap H locs → ∀ ls : Array Slot, lv_has ls 5 [(0, .ref a), (3, .ref q), (4, .int (nI (fr + i)))] → W p l e { frames := 3, cells := 2 + (zCapN 200 64 0 (bs.length - fr) - 64), slots := 67 + 3 * (zCapN 200 64 0 (bs.length - fr) - 64), locals := 83 } s m [.ref a, .int (nI fr), .int (nI 200)].toArray below meth c H locs (2 + (zCapN 200 64 0 i - 64)) (67 + 3 * (zCapN 200 64 0 i - 64)) (MQ below (zk_mQ (fun v H => ∃ q, v = some (.ref q) ∧ BsPost D kA A H q 200 (zCapN 200 64 0 (bs.length - fr)) os) A) [.ref a, .int (nI fr), .int (nI 200)].toArray s (2 + (zCapN 200 64 0 (bs.length - fr) - 64)) (67 + 3 * (zCapN 200 64 0 (bs.length - fr) - 64)) A) (F0 m 16 ls []) := by
    intro fu
    induction fu with
    | zero => intro i r1 f1 hn; exact absurd hn (Nat.not_lt_zero _)
    | succ fu ih =>
      intro i r1 f1 hn hi hb1 H locs hP hD hS ls hl
      refine lv_iload hx hb d_Bytes_copyFrom_16 (lv_at hl 2 rfl) ?_
      refine lv_aload_n hx hb d_Bytes_copyFrom_18 rfl (lv_at hl 0 rfl) ?_
      refine zk_get (C := R_Bytes) (T := F_Bytes) (N := 3) S hK (zk_ro hS hO1 hza) rfl i_Bytes 2 (by decide) m_Bytes_28 rfl rfl d_Bytes_copyFrom_19 ?_
      refine lv_icmp_ge (tgt := 41) hx hb d_Bytes_copyFrom_22 (by decide) (fun c22 => ?_) (fun c22 => ?_)
      · refine lv_aload_n hx hb d_Bytes_copyFrom_41 rfl (lv_at hl 1 rfl) ?_
        have hie : i = os.length := by
          have := (nI_leI (by omega) (by omega)).mp c22
          omega
        subst hie
        rw [List.take_length] at hP hD hb1
        rw [hol] at hP hD hb1
        have hl9 : bs.length - fr = os.length := hol.symm
        exact zk_aret S hr (Or.inl ⟨_, rfl⟩) hlk hS ⟨q, rfl, r1, f1, by unfold wB; rw [hol]; exact hP, by unfold wB; rw [hol]; exact hD, hb1⟩ (by rw [hol]; exact Nat.le_refl _) (by rw [hol]; exact Nat.le_refl _) d_Bytes_copyFrom_42
      · have hlt : i < os.length := Nat.not_le.mp fun q => c22 (nI_le (by omega) (by omega))
        refine lv_aload_n hx hb d_Bytes_copyFrom_25 rfl (lv_at hl 1 rfl) ?_
        refine lv_aload_n hx hb d_Bytes_copyFrom_26 rfl (lv_at hl 0 rfl) ?_
        refine lv_iload hx hb d_Bytes_copyFrom_27 (lv_at hl 2 rfl) ?_
        refine zk_pure (zk_runV (As := [.int (nI (fr + i))]) (rest := [.ref q]) S m_Bytes_31 (c_Bytes_at l D kA (fun q => ¬ A q) a lim bs (nI (fr + i))) rfl rfl ⟨Nat.le_of_ble_eq_true rfl, Nat.le_of_ble_eq_true rfl⟩ hK hX (zk_recv hK (zk_ro hS hO1 hza) rfl) (hO.ro hS) rfl hl.1 rfl (Nat.le_of_ble_eq_true rfl) ⟨by
          show _ + 0 ≤ 2 + (zCapN 200 64 0 (bs.length - fr) - 64)
          have := zCapN_upto (lim := 200) (n := 64) (sz := 0) (by decide) (by decide) (by decide) (bs.length - fr) i (by omega) (by omega)
          omega, by
          show _ + 0 ≤ 67 + 3 * (zCapN 200 64 0 (bs.length - fr) - 64)
          have := zCapN_upto (lim := 200) (n := 64) (sz := 0) (by decide) (by decide) (by decide) (bs.length - fr) i (by omega) (by omega)
          omega⟩ d_Bytes_copyFrom_29) ?_
        refine zk_ti (z := nI (os.getD i 0)) (by rw [hog]; exact bAt_nI (by omega) (by omega)) ?_
        have hm : zCap 200 (zCapN 200 64 0 i) (os.take i).length = zCapN 200 64 0 (i + 1) := by rw [List.length_take, Nat.min_eq_left (by omega)]; show _ = zCap 200 _ (0 + i); rw [Nat.zero_add]
        obtain ⟨y1, y2, y3⟩ := zCapN_ge (lim := 200) (n := 64) (sz := 0) (by decide) (by decide) i (by omega) (by decide) (by decide)
        have y4 : (zCapN 200 64 0 i) ≤ zCapN 200 64 0 (i + 1) := zCapN_mono y1
        have y5 : zCapN 200 64 0 (i + 1) ≤ zCapN 200 64 0 (bs.length - fr) := zCapN_upto (by decide) (by decide) (by decide) _ _ (by omega) (by omega)
        have hFc := va_free (wc := [(q, .inr (0, [.int (nI 200), .ref r1, .int (nI (os.take i).length)])), (r1, .inl ((kA 0), (zCapN 200 64 0 i), .inl f1))]) hD hS hA [0, 1] rfl
        refine zk_mut (zk_runV (As := [.int (nI (os.getD i 0))]) (rest := []) S m_Bytes_47 (c_Bytes_append l D kA q r1 200 (zCapN 200 64 0 i) f1 (os.take i) (nI (os.getD i 0)) H.size) rfl rfl ⟨Nat.le_of_ble_eq_true rfl, Nat.le_of_ble_eq_true rfl⟩ hK hX (zk_recv hK (hP 0 _ rfl) rfl) ⟨rfl, hP.sub (ws' := [(q, .inr (0, [.int (nI 200), .ref r1, .int (nI (os.take i).length)])), (r1, .inl ((kA 0), (zCapN 200 64 0 i), .inl f1))]) [0, 1] rfl, (hD.sub (ws' := [(q, .inr (0, [.int (nI 200), .ref r1, .int (nI (os.take i).length)])), (r1, .inl ((kA 0), (zCapN 200 64 0 i), .inl f1))]) [0, 1] (by decide) rfl).weaken (fun _ _ _ _ => trivial), hb1⟩ rfl hl.1 rfl (Nat.le_of_ble_eq_true rfl) ⟨by
          show _ + (_ - _) ≤ 2 + (zCapN 200 64 0 (bs.length - fr) - 64)
          rw [hm]; omega, by
          show _ + 3 * (_ - _) ≤ 67 + 3 * (zCapN 200 64 0 (bs.length - fr) - 64)
          rw [hm]; omega⟩ d_Bytes_copyFrom_32) hS hFc hFc (fun v H locs hpost hz1 hk1 hS => ?_)
        obtain ⟨rfl, r2, f2, hP1, hD1, hb2⟩ := hpost
        obtain ⟨hP, hD⟩ := va_join (wr := []) (w1 := [(q, .inr (0, [.int (nI 200), .ref r2, .int (nI (zApp 200 (os.take i) (zByte (nI (os.getD i 0)))).length)])), (r2, .inl ((kA 0), (zCap 200 (zCapN 200 64 0 i) (os.take i).length), .inl f2))]) hP hD [0, 1] [] rfl rfl (by decide) (by decide) hk1 hFc hP1 hD1
        refine W.eq (g2 := F0 m 35 ls []) rfl ?_
        have hP : va_P D classes [(q, .inr (0, [.int (nI 200), .ref r2, .int (nI (zApp 200 (os.take i) (zByte (nI (os.getD i 0)))).length)])), (r2, .inl ((kA 0), (zCap 200 (zCapN 200 64 0 i) (os.take i).length), .inl f2))] H := hP
        have hD : va_D A [(q, .inr (0, [.int (nI 200), .ref r2, .int (nI (zApp 200 (os.take i) (zByte (nI (os.getD i 0)))).length)])), (r2, .inl ((kA 0), (zCap 200 (zCapN 200 64 0 i) (os.take i).length), .inl f2))] := hD
        have hap : zApp 200 (os.take i) (zByte (nI (os.getD i 0))) = os.take (i + 1) := by rw [zByte_nI (by rw [hog]; exact (g5 _ (by omega)).1), zApp_lt (by rw [List.length_take]; omega), zgetD (by omega), List.take_succ_eq_append_getElem (by omega)]
        rw [hap, hm] at hP hD hb2
        have hP : va_P D classes [(q, .inr (0, [.int (nI 200), .ref r2, .int (nI (os.take (i + 1)).length)])), (r2, .inl ((kA 0), (zCapN 200 64 0 (i + 1)), .inl f2))] H := hP
        have hD : va_D A [(q, .inr (0, [.int (nI 200), .ref r2, .int (nI (os.take (i + 1)).length)])), (r2, .inl ((kA 0), (zCapN 200 64 0 (i + 1)), .inl f2))] := hD
        refine W.widen (k := (2 + (zCapN 200 64 0 (i + 1) - 64))) (n := (67 + 3 * (zCapN 200 64 0 (i + 1) - 64))) (by rw [hm]; omega) (by rw [hm]; omega) ?_
        refine lv_iinc (v := (nI (fr + (i + 1)))) (lv' := [(4, .int (nI (fr + (i + 1)))), (0, .ref a), (3, .ref q)]) hx hb d_Bytes_copyFrom_35 hl (k := 2) rfl (nI_1 _) (by decide) rfl (fun ls hl => ?_)
        refine lv_goto (tgt := 16) hx hb d_Bytes_copyFrom_38 (by decide) ?_
        exact ih (i + 1) r2 f2 (by omega) (by omega) hb2 _ _ (hP.sub [0, 1] rfl) (hD.sub [0, 1] (by decide) rfl) hS ls (lv_sub hl [1, 2, 0] rfl)
  refine W.widen (k := (2 + (zCapN 200 64 0 0 - 64))) (n := (67 + 3 * (zCapN 200 64 0 0 - 64))) (Nat.le_refl _) (Nat.le_refl _) ?_
  exact lp (os.length + 1) 0 r0 f0 (by omega) (Nat.zero_le _) hb0 _ _ (hP.sub [0, 1] rfl) (hD.sub [0, 1] (by decide) rfl) hS ls (lv_sub hl [2, 1, 0] rfl)
