set_option maxHeartbeats 4000000 in
set_option maxRecDepth 100000 in
/-- Bytes.appendAll(other) -/
theorem c_Bytes_appendAll (l : Launch) (D : va_G) (kA : Nat → ClassId) (a r lim n : Nat) (f : Nat → Int32) (bs : List Nat) (o lo : Nat) (os : List Nat) (hroom : bs.length + os.length ≤ lim) (sz0 : Nat) : Met l y_Bytes_appendAll (Cond.code y_Bytes_appendAll b_Bytes_appendAll 3 none :: zTB) { frames := 3, cells := zCapN lim n bs.length os.length - n, slots := 3 * (zCapN lim n bs.length os.length - n), locals := 83 } (zk_Pc D classes (zTY kA) [.ref a, .ref o] (fun H => H.size = sz0 ∧ va_P D classes [(a, .inr (0, [.int (nI lim), .ref r, .int (nI bs.length)])), (r, .inl ((kA 0), n, .inl f))] H ∧ va_D (fun _ => True) [(a, .inr (0, [.int (nI lim), .ref r, .int (nI bs.length)])), (r, .inl ((kA 0), n, .inl f))] ∧ zBs lim n f bs ∧ BsAt D kA (fun q => ¬ (va_A [(a, .inr (0, [.int (nI lim), .ref r, .int (nI bs.length)])), (r, .inl ((kA 0), n, .inl f))] sz0) q) H o lo os)) (zk_mQ (fun v H => v = none ∧ BsPost D kA (va_A [(a, .inr (0, [.int (nI lim), .ref r, .int (nI bs.length)])), (r, .inl ((kA 0), n, .inl f))] sz0) H a lim (zCapN lim n bs.length os.length) (bs ++ os)) (va_A [(a, .inr (0, [.int (nI lim), .ref r, .int (nI bs.length)])), (r, .inl ((kA 0), n, .inl f))] sz0)) (zCapN lim n bs.length os.length - n) (3 * (zCapN lim n bs.length os.length - n)) (va_A [(a, .inr (0, [.int (nI lim), .ref r, .int (nI bs.length)])), (r, .inl ((kA 0), n, .inl f))] sz0) := by
  refine zk_of [.ref a, .ref o] (by decide) (Nat.le_of_ble_eq_true rfl) ?_
  intro p e s m below meth c S hr hlk hnm hK hX hpre ls hl
  obtain ⟨hx, hb, hml, hown, ht⟩ := id S
  have hl : lv_has ls 3 [(0, .ref a), (1, .ref o)] := hl
  obtain ⟨hsz, hP, hD0, hbs, hO⟩ := hpre
  subst hsz
  have hD := hD0.self (sz := s.heap.size)
  generalize hAe : va_A [(a, .inr (0, [.int (nI lim), .ref r, .int (nI bs.length)])), (r, .inl ((kA 0), n, .inl f))] s.heap.size = A at hD hO ⊢
  have hA : ∀ q : Nat, s.heap.size ≤ q → A q := fun q h => by rw [← hAe]; exact Or.inr h
  have hS : va_S A s.heap s.heap [] := va_S.rf
  have hP : va_P D classes [(a, .inr (0, [.int (nI lim), .ref r, .int (nI bs.length)])), (r, .inl ((kA 0), n, .inl f))] s.heap := hP
  obtain ⟨ro, no, fo, hz1, hz2, hO1, hO2, hO3⟩ := id hO
  obtain ⟨h1, h2, h3, h4, h5⟩ := id hbs
  obtain ⟨g1, g2, g3, g4, g5⟩ := id hO3
  refine lv_iconst (v := 0) hx hb d_Bytes_appendAll_0 (by decide) ?_
  refine lv_istore_n (lv' := [(2, .int 0), (0, .ref a), (1, .ref o)]) hx hb d_Bytes_appendAll_1 rfl hl (by decide) rfl (fun ls hl => ?_)
  have lp : ∀ (fu : Nat) (i r1 : Nat) (f1 : Nat → Int32), os.length - i < fu → i ≤ os.length → zBs lim (zCapN lim n bs.length i) f1 (bs ++ os.take i) → ∀ (H : Heap) (locs : List Loc), va_P D classes [(a, .inr (0, [.int (nI lim), .ref r1, .int (nI (bs ++ os.take i).length)])), (r1, .inl ((kA 0), (zCapN lim n bs.length i), .inl f1))] H → va_D A [(a, .inr (0, [.int (nI lim), .ref r1, .int (nI (bs ++ os.take i).length)])), (r1, .inl ((kA 0), (zCapN lim n bs.length i), .inl f1))] → va_S A s.heap H locs → ∀ ls : Array Slot, lv_has ls 3 [(0, .ref a), (1, .ref o), (2, .int (nI i))] → W p l e { frames := 3, cells := zCapN lim n bs.length os.length - n, slots := 3 * (zCapN lim n bs.length os.length - n), locals := 83 } s m [.ref a, .ref o].toArray below meth c H locs (zCapN lim n bs.length i - n) (3 * (zCapN lim n bs.length i - n)) (MQ below (zk_mQ (fun v H => v = none ∧ BsPost D kA A H a lim (zCapN lim n bs.length os.length) (bs ++ os)) A) [.ref a, .ref o].toArray s (zCapN lim n bs.length os.length - n) (3 * (zCapN lim n bs.length os.length - n)) A) (F0 m 2 ls []) := by
    intro fu
    induction fu with
    | zero => intro i r1 f1 hn; exact absurd hn (Nat.not_lt_zero _)
    | succ fu ih =>
      intro i r1 f1 hn hi hb1 H locs hP hD hS ls hl
      refine lv_iload_n hx hb d_Bytes_appendAll_2 rfl (lv_at hl 2 rfl) ?_
      refine lv_aload_n hx hb d_Bytes_appendAll_3 rfl (lv_at hl 1 rfl) ?_
      refine zk_pure (zk_runV (As := []) (rest := [.int (nI i)]) S m_Bytes_51 (c_Bytes_size l D kA (fun q => ¬ A q) o lo os) rfl rfl ⟨Nat.le_of_ble_eq_true rfl, Nat.le_of_ble_eq_true rfl⟩ hK hX (zk_recv hK (zk_ro hS hO1 hz1) rfl) (hO.ro hS) rfl hl.1 rfl (Nat.le_of_ble_eq_true rfl) ⟨by
        show _ + 0 ≤ zCapN lim n bs.length os.length - n
        have := zCapN_upto (lim := lim) h2 h1 (by omega) os.length i hi (by omega)
        omega, by
        show _ + 0 ≤ 3 * (zCapN lim n bs.length os.length - n)
        have := zCapN_upto (lim := lim) h2 h1 (by omega) os.length i hi (by omega)
        omega⟩ d_Bytes_appendAll_4) ?_
      refine lv_icmp_ge (tgt := 25) hx hb d_Bytes_appendAll_7 (by decide) (fun c7 => ?_) (fun c7 => ?_)
      · have hie : i = os.length := by
          have := (nI_leI (by omega) (by omega)).mp c7
          omega
        subst hie
        rw [List.take_length] at hP hD hb1
        exact zk_vret S hr hlk hS ⟨rfl, r1, f1, hP, hD, hb1⟩ (Nat.le_refl _) (Nat.le_refl _) d_Bytes_appendAll_25
      · have hlt : i < os.length := Nat.not_le.mp fun q => c7 (nI_le q (by omega))
        refine lv_aload_n hx hb d_Bytes_appendAll_10 rfl (lv_at hl 0 rfl) ?_
        refine lv_aload_n hx hb d_Bytes_appendAll_11 rfl (lv_at hl 1 rfl) ?_
        refine lv_iload_n hx hb d_Bytes_appendAll_12 rfl (lv_at hl 2 rfl) ?_
        refine zk_pure (zk_runV (As := [.int (nI i)]) (rest := [.ref a]) S m_Bytes_31 (c_Bytes_at l D kA (fun q => ¬ A q) o lo os (nI i)) rfl rfl ⟨Nat.le_of_ble_eq_true rfl, Nat.le_of_ble_eq_true rfl⟩ hK hX (zk_recv hK (zk_ro hS hO1 hz1) rfl) (hO.ro hS) rfl hl.1 rfl (Nat.le_of_ble_eq_true rfl) ⟨by
          show _ + 0 ≤ zCapN lim n bs.length os.length - n
          have := zCapN_upto (lim := lim) h2 h1 (by omega) os.length i hi (by omega)
          omega, by
          show _ + 0 ≤ 3 * (zCapN lim n bs.length os.length - n)
          have := zCapN_upto (lim := lim) h2 h1 (by omega) os.length i hi (by omega)
          omega⟩ d_Bytes_appendAll_13) ?_
        refine zk_ti (z := nI (os.getD i 0)) (bAt_nI (by omega) hlt) ?_
        have hm : zCap lim (zCapN lim n bs.length i) (bs ++ os.take i).length = zCapN lim n bs.length (i + 1) := by rw [zLen_take hi]; rfl
        obtain ⟨y1, y2, y3⟩ := zCapN_ge (lim := lim) h2 h1 i (by omega) h2 (by omega)
        have y4 : (zCapN lim n bs.length i) ≤ zCapN lim n bs.length (i + 1) := zCapN_mono y1
        have y5 : zCapN lim n bs.length (i + 1) ≤ zCapN lim n bs.length os.length := zCapN_upto h2 h1 (by omega) _ _ (by omega) (by omega)
        have hFc := va_free (wc := [(a, .inr (0, [.int (nI lim), .ref r1, .int (nI (bs ++ os.take i).length)])), (r1, .inl ((kA 0), (zCapN lim n bs.length i), .inl f1))]) hD hS hA [0, 1] rfl
        refine zk_mut (zk_runV (As := [.int (nI (os.getD i 0))]) (rest := []) S m_Bytes_47 (c_Bytes_append l D kA a r1 lim (zCapN lim n bs.length i) f1 (bs ++ os.take i) (nI (os.getD i 0)) H.size) rfl rfl ⟨Nat.le_of_ble_eq_true rfl, Nat.le_of_ble_eq_true rfl⟩ hK hX (zk_recv hK (hP 0 _ rfl) rfl) ⟨rfl, hP.sub (ws' := [(a, .inr (0, [.int (nI lim), .ref r1, .int (nI (bs ++ os.take i).length)])), (r1, .inl ((kA 0), (zCapN lim n bs.length i), .inl f1))]) [0, 1] rfl, (hD.sub (ws' := [(a, .inr (0, [.int (nI lim), .ref r1, .int (nI (bs ++ os.take i).length)])), (r1, .inl ((kA 0), (zCapN lim n bs.length i), .inl f1))]) [0, 1] (by decide) rfl).weaken (fun _ _ _ _ => trivial), hb1⟩ rfl hl.1 rfl (Nat.le_of_ble_eq_true rfl) ⟨by
          show _ + (_ - _) ≤ zCapN lim n bs.length os.length - n
          rw [hm]; omega, by
          show _ + 3 * (_ - _) ≤ 3 * (zCapN lim n bs.length os.length - n)
          rw [hm]; omega⟩ d_Bytes_appendAll_16) hS hFc hFc (fun v H locs hpost hz1 hk1 hS => ?_)
        obtain ⟨rfl, r2, f2, hP1, hD1, hb2⟩ := hpost
        obtain ⟨hP, hD⟩ := va_join (wr := []) (w1 := [(a, .inr (0, [.int (nI lim), .ref r2, .int (nI (zApp lim (bs ++ os.take i) (zByte (nI (os.getD i 0)))).length)])), (r2, .inl ((kA 0), (zCap lim (zCapN lim n bs.length i) (bs ++ os.take i).length), .inl f2))]) hP hD [0, 1] [] rfl rfl (by decide) (by decide) hk1 hFc hP1 hD1
        refine W.eq (g2 := F0 m 19 ls []) rfl ?_
        have hP : va_P D classes [(a, .inr (0, [.int (nI lim), .ref r2, .int (nI (zApp lim (bs ++ os.take i) (zByte (nI (os.getD i 0)))).length)])), (r2, .inl ((kA 0), (zCap lim (zCapN lim n bs.length i) (bs ++ os.take i).length), .inl f2))] H := hP
        have hD : va_D A [(a, .inr (0, [.int (nI lim), .ref r2, .int (nI (zApp lim (bs ++ os.take i) (zByte (nI (os.getD i 0)))).length)])), (r2, .inl ((kA 0), (zCap lim (zCapN lim n bs.length i) (bs ++ os.take i).length), .inl f2))] := hD
        have hap : zApp lim (bs ++ os.take i) (zByte (nI (os.getD i 0))) = bs ++ os.take (i + 1) := by rw [zByte_nI (g5 i hlt).1, zApp_lt (by rw [zLen_take hi]; omega), zTake_snoc hlt]
        rw [hap, hm] at hP hD hb2
        have hP : va_P D classes [(a, .inr (0, [.int (nI lim), .ref r2, .int (nI (bs ++ os.take (i + 1)).length)])), (r2, .inl ((kA 0), (zCapN lim n bs.length (i + 1)), .inl f2))] H := hP
        have hD : va_D A [(a, .inr (0, [.int (nI lim), .ref r2, .int (nI (bs ++ os.take (i + 1)).length)])), (r2, .inl ((kA 0), (zCapN lim n bs.length (i + 1)), .inl f2))] := hD
        refine W.widen (k := (zCapN lim n bs.length (i + 1) - n)) (n := (3 * (zCapN lim n bs.length (i + 1) - n))) (by rw [hm]; omega) (by rw [hm]; omega) ?_
        refine lv_iinc (v := (nI (i + 1))) (lv' := [(2, .int (nI (i + 1))), (0, .ref a), (1, .ref o)]) hx hb d_Bytes_appendAll_19 hl (k := 2) rfl (nI_1 i) (by decide) rfl (fun ls hl => ?_)
        refine lv_goto (tgt := 2) hx hb d_Bytes_appendAll_22 (by decide) ?_
        exact ih (i + 1) r2 f2 (by omega) (by omega) hb2 _ _ (hP.sub [0, 1] rfl) (hD.sub [0, 1] (by decide) rfl) hS ls (lv_sub hl [1, 2, 0] rfl)
  have e0 : bs ++ os.take 0 = bs := by simp
  refine W.widen (k := (zCapN lim n bs.length 0 - n)) (n := (3 * (zCapN lim n bs.length 0 - n))) (Nat.zero_le _) (Nat.zero_le _) ?_
  exact lp (os.length + 1) 0 r f (by omega) (Nat.zero_le _) (by rw [e0]; exact hbs) _ _ (by rw [e0]; exact hP.sub [0, 1] rfl) (by rw [e0]; exact hD.sub [0, 1] (by decide) rfl) hS ls (lv_sub hl [1, 2, 0] rfl)
