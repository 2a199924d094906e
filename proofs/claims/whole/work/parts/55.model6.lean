theorem zThing_3 {kd : Nat} {os : List Nat} : (zThing kd os true).length = os.length + 2 := by simp [zThing]
theorem zThing_n {kd : Nat} {os : List Nat} : (zThing kd os false).length = os.length + 1 := by simp [zThing]
theorem zTakeS {os : List Nat} {i : Nat} (h : i < os.length) : os.take (i + 1) = os.take i ++ [os.getD i 0] := by rw [zgetD h, List.take_succ_eq_append_getElem h]
theorem zKd {kd : Nat} (h : kd < 256) : (nI kd).toInt8.toInt32 = sb_b kd := by rw [zByte_b, zByte_nI h]
set_option maxHeartbeats 4000000 in
set_option maxRecDepth 100000 in
/-- PeerLineModel.tell -/
theorem c_Model_tell (l : Launch) (D : va_G) (kA : Nat → ClassId) (y mt m1 m2 m3 m4 m5 mP mA ml mw mh mb mr mf : Nat) (v1 v2 v3 v4 v5 v6 v7 : Int32) (tm : Int64) (f : Nat → Int32) (trs : List Nat) (p0 N b : Nat) (fo : Nat → Int32) (os : List Nat) (kd : Nat) (nl : Bool) (hkd : kd < 256) (hnl : nl = decide (kd = 3)) (hN : b + os.length ≤ N) (hN2 : N ≤ 65536) (hos : PatIn fo b os.length os) (sz0 : Nat) : Met l y_Model_tell (Cond.code y_Model_tell b_Model_tell 7 none :: zTB) { frames := 0, cells := 0, slots := 0, locals := 0 } (zk_Pc D classes (zTY kA) [.ref y, .int (nI kd), .ref p0, .int (nI b), .int (nI os.length)] (fun H => H.size = sz0 ∧ va_P D classes [(y, .inr (6, [.ref mt, .int v1, .int v2, .ref m1, .ref m2, .ref m3, .ref m4, .ref m5, .ref mP, .ref mA, .int v3, .int v4, .int v5, .ref ml, .int v6, .ref mw, .ref mh, .long tm, .int v7, .int (nI trs.length), .ref mb, .ref mr, .ref mf])), (mr, .inl ((kA 0), 32768, .inl f))] H ∧ va_D (fun _ => True) [(y, .inr (6, [.ref mt, .int v1, .int v2, .ref m1, .ref m2, .ref m3, .ref m4, .ref m5, .ref mP, .ref mA, .int v3, .int v4, .int v5, .ref ml, .int v6, .ref mw, .ref mh, .long tm, .int v7, .int (nI trs.length), .ref mb, .ref mr, .ref mf])), (mr, .inl ((kA 0), 32768, .inl f))] ∧ zRw 32768 f trs ∧ va_at D classes (p0, .inl (kA 0, N, .inl fo)) H ∧ ¬ (va_A [(y, .inr (6, [.ref mt, .int v1, .int v2, .ref m1, .ref m2, .ref m3, .ref m4, .ref m5, .ref mP, .ref mA, .int v3, .int v4, .int v5, .ref ml, .int v6, .ref mw, .ref mh, .long tm, .int v7, .int (nI trs.length), .ref mb, .ref mr, .ref mf])), (mr, .inl ((kA 0), 32768, .inl f))] sz0) p0)) (zk_mQ (fun v H => v = none ∧ ∃ f', va_P D classes [(y, .inr (6, [.ref mt, .int v1, .int v2, .ref m1, .ref m2, .ref m3, .ref m4, .ref m5, .ref mP, .ref mA, .int v3, .int v4, .int v5, .ref ml, .int v6, .ref mw, .ref mh, .long tm, .int v7, .int (nI (zTell trs (zThing kd os nl)).length), .ref mb, .ref mr, .ref mf])), (mr, .inl ((kA 0), 32768, .inl f'))] H ∧ va_D (va_A [(y, .inr (6, [.ref mt, .int v1, .int v2, .ref m1, .ref m2, .ref m3, .ref m4, .ref m5, .ref mP, .ref mA, .int v3, .int v4, .int v5, .ref ml, .int v6, .ref mw, .ref mh, .long tm, .int v7, .int (nI trs.length), .ref mb, .ref mr, .ref mf])), (mr, .inl ((kA 0), 32768, .inl f))] sz0) [(y, .inr (6, [.ref mt, .int v1, .int v2, .ref m1, .ref m2, .ref m3, .ref m4, .ref m5, .ref mP, .ref mA, .int v3, .int v4, .int v5, .ref ml, .int v6, .ref mw, .ref mh, .long tm, .int v7, .int (nI (zTell trs (zThing kd os nl)).length), .ref mb, .ref mr, .ref mf])), (mr, .inl ((kA 0), 32768, .inl f'))] ∧ zRw 32768 f' (zTell trs (zThing kd os nl))) (va_A [(y, .inr (6, [.ref mt, .int v1, .int v2, .ref m1, .ref m2, .ref m3, .ref m4, .ref m5, .ref mP, .ref mA, .int v3, .int v4, .int v5, .ref ml, .int v6, .ref mw, .ref mh, .long tm, .int v7, .int (nI trs.length), .ref mb, .ref mr, .ref mf])), (mr, .inl ((kA 0), 32768, .inl f))] sz0)) 0 0 (va_A [(y, .inr (6, [.ref mt, .int v1, .int v2, .ref m1, .ref m2, .ref m3, .ref m4, .ref m5, .ref mP, .ref mA, .int v3, .int v4, .int v5, .ref ml, .int v6, .ref mw, .ref mh, .long tm, .int v7, .int (nI trs.length), .ref mb, .ref mr, .ref mf])), (mr, .inl ((kA 0), 32768, .inl f))] sz0) := by
  refine zk_of [.ref y, .int (nI kd), .ref p0, .int (nI b), .int (nI os.length)] (by decide) (Nat.le_of_ble_eq_true rfl) ?_
  intro p e s m below meth c S hr hlk hnm hK hX hpre ls hl
  obtain ⟨hx, hb, hml, hown, ht⟩ := id S
  have hl : lv_has ls 7 [(0, .ref y), (1, .int (nI kd)), (2, .ref p0), (3, .int (nI b)), (4, .int (nI os.length))] := hl
  obtain ⟨hsz, hP, hD0, hr0, hp0, hpA⟩ := hpre
  subst hsz
  have hD := hD0.self (sz := s.heap.size)
  generalize hAe : va_A [(y, .inr (6, [.ref mt, .int v1, .int v2, .ref m1, .ref m2, .ref m3, .ref m4, .ref m5, .ref mP, .ref mA, .int v3, .int v4, .int v5, .ref ml, .int v6, .ref mw, .ref mh, .long tm, .int v7, .int (nI trs.length), .ref mb, .ref mr, .ref mf])), (mr, .inl ((kA 0), 32768, .inl f))] s.heap.size = A at hD hpA ⊢
  have hA : ∀ q : Nat, s.heap.size ≤ q → A q := fun q h => by rw [← hAe]; exact Or.inr h
  have hS : va_S A s.heap s.heap [] := va_S.rf
  have hP : va_P D classes [(y, .inr (6, [.ref mt, .int v1, .int v2, .ref m1, .ref m2, .ref m3, .ref m4, .ref m5, .ref mP, .ref mA, .int v3, .int v4, .int v5, .ref ml, .int v6, .ref mw, .ref mh, .long tm, .int v7, .int (nI trs.length), .ref mb, .ref mr, .ref mf])), (mr, .inl ((kA 0), 32768, .inl f))] s.heap := hP
  have htl := hr0.1
  refine lv_iload_n hx hb d_Model_tell_0 rfl (lv_at hl 1 rfl) ?_
  refine lv_iconst (v := 3) hx hb d_Model_tell_1 (by decide) ?_
  refine zk_ti (z := nI 3) (rfl) ?_
  refine lv_icmp_ne (tgt := 12) hx hb d_Model_tell_2 (by decide) (fun c2 => ?_) (fun c2 => ?_)
  · have hk3 : ¬ kd = 3 := fun z => c2 (by rw [z])
    have hnl2 : nl = false := by rw [hnl]; exact decide_eq_false hk3
    have hTl : (zThing kd os nl).length = os.length + 1 := by rw [hnl2]; exact zThing_n
    refine lv_iload hx hb d_Model_tell_12 (lv_at hl 4 rfl) ?_
    refine lv_iconst (v := 1) hx hb d_Model_tell_14 (by decide) ?_
    refine lv_iadd hx hb d_Model_tell_15 ?_
    refine zk_ti (z := nI (zThing kd os nl).length) (by rw [hTl]; exact nI_1 _) ?_
    refine lv_istore (lv' := [(5, .int (nI (zThing kd os nl).length)), (0, .ref y), (1, .int (nI kd)), (2, .ref p0), (3, .int (nI b)), (4, .int (nI os.length))]) hx hb d_Model_tell_16 hl (by decide) rfl (fun ls hl => ?_)
    refine lv_aload_n hx hb d_Model_tell_18 rfl (lv_at hl 1 rfl) ?_
    refine zk_get (C := R_Model) (T := F_Model) (N := 23) S hK (hP 0 _ rfl) rfl i_Model 19 (by decide) m_Model_119 rfl rfl d_Model_tell_19 ?_
    refine lv_iload hx hb d_Model_tell_22 (lv_at hl 0 rfl) ?_
    refine lv_iadd hx hb d_Model_tell_24 ?_
    refine zk_ti (z := nI (trs.length + (zThing kd os nl).length)) (nI_add _ _) ?_
    refine lv_ldc (v := 32768) hx hb hown (ht _ m_Model_48) d_Model_tell_25 ?_
    refine zk_ti (z := nI 32768) (rfl) ?_
    refine lv_icmp_le (tgt := 31) hx hb d_Model_tell_27 (by decide) (fun c27 => ?_) (fun c27 => ?_)
    · have hroom : trs.length + (zThing kd os nl).length ≤ 32768 := (nI_leI (by omega) (by omega)).mp c27
      refine lv_aload_n hx hb d_Model_tell_31 rfl (lv_at hl 1 rfl) ?_
      refine zk_get (C := R_Model) (T := F_Model) (N := 23) S hK (hP 0 _ rfl) rfl i_Model 21 (by decide) m_Model_49 rfl rfl d_Model_tell_32 ?_
      refine lv_aload_n hx hb d_Model_tell_35 rfl (lv_at hl 1 rfl) ?_
      refine zk_get (C := R_Model) (T := F_Model) (N := 23) S hK (hP 0 _ rfl) rfl i_Model 19 (by decide) m_Model_119 rfl rfl d_Model_tell_36 ?_
      refine lv_iload_n hx hb d_Model_tell_39 rfl (lv_at hl 2 rfl) ?_
      refine lv_i2b hx hb d_Model_tell_40 rfl ?_
      refine zk_ti (z := sb_b kd) (zKd hkd) ?_
      refine va_bast hx hb hK hP hD hS 1 0 rfl rfl (vp_in_nI (by omega) (by omega)) d_Model_tell_41 (fun H locs hP hD hS => ?_)
      rw [nI_clamp (by omega), zNar] at hP hD
      have hr1 := zRw_snoc hr0 (by omega) hkd
      obtain ⟨f1, hf1⟩ : ∃ z, z = upd f trs.length (sb_b kd) := ⟨_, rfl⟩
      rw [← hf1] at hP hD hr1
      have hP : va_P D classes [(y, .inr (6, [.ref mt, .int v1, .int v2, .ref m1, .ref m2, .ref m3, .ref m4, .ref m5, .ref mP, .ref mA, .int v3, .int v4, .int v5, .ref ml, .int v6, .ref mw, .ref mh, .long tm, .int v7, .int (nI trs.length), .ref mb, .ref mr, .ref mf])), (mr, .inl ((kA 0), 32768, .inl f1))] H := hP
      have hD : va_D A [(y, .inr (6, [.ref mt, .int v1, .int v2, .ref m1, .ref m2, .ref m3, .ref m4, .ref m5, .ref mP, .ref mA, .int v3, .int v4, .int v5, .ref ml, .int v6, .ref mw, .ref mh, .long tm, .int v7, .int (nI trs.length), .ref mb, .ref mr, .ref mf])), (mr, .inl ((kA 0), 32768, .inl f1))] := hD
      refine lv_iconst (v := 0) hx hb d_Model_tell_42 (by decide) ?_
      refine lv_istore (lv' := [(6, .int 0), (5, .int (nI (zThing kd os nl).length)), (0, .ref y), (1, .int (nI kd)), (2, .ref p0), (3, .int (nI b)), (4, .int (nI os.length))]) hx hb d_Model_tell_43 hl (by decide) rfl (fun ls hl => ?_)
      have lp : ∀ (fu : Nat) (i : Nat) (g1 : Nat → Int32), os.length - i < fu → i ≤ os.length → zRw 32768 g1 (trs ++ [kd] ++ os.take i) → ∀ (H : Heap) (locs : List Loc), va_P D classes [(y, .inr (6, [.ref mt, .int v1, .int v2, .ref m1, .ref m2, .ref m3, .ref m4, .ref m5, .ref mP, .ref mA, .int v3, .int v4, .int v5, .ref ml, .int v6, .ref mw, .ref mh, .long tm, .int v7, .int (nI trs.length), .ref mb, .ref mr, .ref mf])), (mr, .inl ((kA 0), 32768, .inl g1))] H → va_D A [(y, .inr (6, [.ref mt, .int v1, .int v2, .ref m1, .ref m2, .ref m3, .ref m4, .ref m5, .ref mP, .ref mA, .int v3, .int v4, .int v5, .ref ml, .int v6, .ref mw, .ref mh, .long tm, .int v7, .int (nI trs.length), .ref mb, .ref mr, .ref mf])), (mr, .inl ((kA 0), 32768, .inl g1))] → va_S A s.heap H locs → ∀ ls : Array Slot, lv_has ls 7 [(0, .ref y), (1, .int (nI kd)), (2, .ref p0), (3, .int (nI b)), (4, .int (nI os.length)), (5, .int (nI (zThing kd os nl).length)), (6, .int (nI i))] → W p l e { frames := 0, cells := 0, slots := 0, locals := 0 } s m [.ref y, .int (nI kd), .ref p0, .int (nI b), .int (nI os.length)].toArray below meth c H locs 0 0 (MQ below (zk_mQ (fun v H => v = none ∧ ∃ f', va_P D classes [(y, .inr (6, [.ref mt, .int v1, .int v2, .ref m1, .ref m2, .ref m3, .ref m4, .ref m5, .ref mP, .ref mA, .int v3, .int v4, .int v5, .ref ml, .int v6, .ref mw, .ref mh, .long tm, .int v7, .int (nI (zTell trs (zThing kd os nl)).length), .ref mb, .ref mr, .ref mf])), (mr, .inl ((kA 0), 32768, .inl f'))] H ∧ va_D A [(y, .inr (6, [.ref mt, .int v1, .int v2, .ref m1, .ref m2, .ref m3, .ref m4, .ref m5, .ref mP, .ref mA, .int v3, .int v4, .int v5, .ref ml, .int v6, .ref mw, .ref mh, .long tm, .int v7, .int (nI (zTell trs (zThing kd os nl)).length), .ref mb, .ref mr, .ref mf])), (mr, .inl ((kA 0), 32768, .inl f'))] ∧ zRw 32768 f' (zTell trs (zThing kd os nl))) A) [.ref y, .int (nI kd), .ref p0, .int (nI b), .int (nI os.length)].toArray s 0 0 A) (F0 m 45 ls []) := by
        intro fu
        induction fu with
        | zero => intro i g1 hfu; exact absurd hfu (Nat.not_lt_zero _)
        | succ fu ih =>
          intro i g1 hfu hi hg H locs hP hD hS ls hl
          refine lv_iload hx hb d_Model_tell_45 (lv_at hl 6 rfl) ?_
          refine lv_iload hx hb d_Model_tell_47 (lv_at hl 4 rfl) ?_
          refine lv_icmp_ge (tgt := 78) hx hb d_Model_tell_49 (by decide) (fun c49 => ?_) (fun c49 => ?_)
          · have hie : i = os.length := by
              have := (nI_leI (by omega) (by omega)).mp c49
              omega
            subst hie
            rw [List.take_length] at hg
            refine lv_iload_n hx hb d_Model_tell_78 rfl (lv_at hl 1 rfl) ?_
            refine lv_iconst (v := 3) hx hb d_Model_tell_79 (by decide) ?_
            refine zk_ti (z := nI 3) (rfl) ?_
            refine lv_icmp_ne (tgt := 99) hx hb d_Model_tell_80 (by decide) (fun c80 => ?_) (fun c80 => ?_)
            · have hall : trs ++ [kd] ++ os = trs ++ (zThing kd os nl) := by rw [hnl2]; simp [zThing]
              rw [hall] at hg
              refine lv_aload_n hx hb d_Model_tell_99 rfl (lv_at hl 0 rfl) ?_
              refine lv_dup hx hb d_Model_tell_100 rfl ?_
              refine zk_get (C := R_Model) (T := F_Model) (N := 23) S hK (hP 0 _ rfl) rfl i_Model 19 (by decide) m_Model_119 rfl rfl d_Model_tell_101 ?_
              refine lv_iload hx hb d_Model_tell_104 (lv_at hl 5 rfl) ?_
              refine lv_iadd hx hb d_Model_tell_106 ?_
              refine zk_ti (z := nI (trs.length + (zThing kd os nl).length)) (nI_add _ _) ?_
              refine va_put (D := D) (ci := 6) (v := .int (nI (trs.length + (zThing kd os nl).length))) (ty := .int) (C := R_Model) (T := F_Model) (N := 23) hx hb ht i_Model t_Model t_Model_ok n_Model hown hK hP hD hS 0 rfl rfl 19 (by decide) (ht _ m_Model_119) (fun _ h9 => h9) rfl (by decide +kernel) rfl rfl (Nat.le_of_ble_eq_true rfl) d_Model_tell_107 (fun H locs hP hD hS => ?_)
              have hP : va_P D classes [(y, .inr (6, [.ref mt, .int v1, .int v2, .ref m1, .ref m2, .ref m3, .ref m4, .ref m5, .ref mP, .ref mA, .int v3, .int v4, .int v5, .ref ml, .int v6, .ref mw, .ref mh, .long tm, .int v7, .int (nI (trs.length + (zThing kd os nl).length)), .ref mb, .ref mr, .ref mf])), (mr, .inl ((kA 0), 32768, .inl g1))] H := hP
              have hD : va_D A [(y, .inr (6, [.ref mt, .int v1, .int v2, .ref m1, .ref m2, .ref m3, .ref m4, .ref m5, .ref mP, .ref mA, .int v3, .int v4, .int v5, .ref ml, .int v6, .ref mw, .ref mh, .long tm, .int v7, .int (nI (trs.length + (zThing kd os nl).length)), .ref mb, .ref mr, .ref mf])), (mr, .inl ((kA 0), 32768, .inl g1))] := hD
              have hz : zTell trs (zThing kd os nl) = trs ++ (zThing kd os nl) := if_pos hroom
              exact zk_vret S hr hlk hS (by rw [hz, List.length_append]; exact ⟨rfl, _, hP, hD, hg⟩) (Nat.le_refl _) (Nat.le_refl _) d_Model_tell_110
            · exact absurd ((nI_eq (by omega) (by omega)).mp c80) hk3
          · have hi2 : i < os.length := Nat.not_le.mp fun z => c49 (nI_le z (by omega))
            have hoi := hos i hi2
            have hLi : (trs ++ [kd] ++ os.take i).length = trs.length + 1 + i := by simp; omega
            refine lv_aload_n hx hb d_Model_tell_52 rfl (lv_at hl 0 rfl) ?_
            refine zk_get (C := R_Model) (T := F_Model) (N := 23) S hK (hP 0 _ rfl) rfl i_Model 21 (by decide) m_Model_49 rfl rfl d_Model_tell_53 ?_
            refine lv_aload_n hx hb d_Model_tell_56 rfl (lv_at hl 0 rfl) ?_
            refine zk_get (C := R_Model) (T := F_Model) (N := 23) S hK (hP 0 _ rfl) rfl i_Model 19 (by decide) m_Model_119 rfl rfl d_Model_tell_57 ?_
            refine lv_iconst (v := 1) hx hb d_Model_tell_60 (by decide) ?_
            refine lv_iadd hx hb d_Model_tell_61 ?_
            refine zk_ti (z := nI (trs.length + 1)) (nI_1 _) ?_
            refine lv_iload hx hb d_Model_tell_62 (lv_at hl 6 rfl) ?_
            refine lv_iadd hx hb d_Model_tell_64 ?_
            refine zk_ti (z := nI (trs.length + 1 + i)) (nI_add _ _) ?_
            refine lv_aload_n hx hb d_Model_tell_65 rfl (lv_at hl 2 rfl) ?_
            refine lv_iload_n hx hb d_Model_tell_66 rfl (lv_at hl 3 rfl) ?_
            refine lv_iload hx hb d_Model_tell_67 (lv_at hl 6 rfl) ?_
            refine lv_iadd hx hb d_Model_tell_69 ?_
            refine zk_ti (z := nI (b + i)) (nI_add _ _) ?_
            refine zk_bald S hK 0 (zk_ro hS hp0 hpA) rfl (vp_in_nI (by omega) (by omega)) d_Model_tell_70 ?_
            refine zk_ti (z := sb_b (os.getD i 0)) (by rw [nI_clamp (by omega)]; exact hoi.2) ?_
            refine va_bast hx hb hK hP hD hS 1 0 rfl rfl (vp_in_nI (by omega) (by omega)) d_Model_tell_71 (fun H locs hP hD hS => ?_)
            rw [nI_clamp (by omega), zNar] at hP hD
            have hsn := zRw_snoc hg (by omega) hoi.1
            rw [hLi, List.append_assoc, ← zTakeS hi2] at hsn
            have hP : va_P D classes [(y, .inr (6, [.ref mt, .int v1, .int v2, .ref m1, .ref m2, .ref m3, .ref m4, .ref m5, .ref mP, .ref mA, .int v3, .int v4, .int v5, .ref ml, .int v6, .ref mw, .ref mh, .long tm, .int v7, .int (nI trs.length), .ref mb, .ref mr, .ref mf])), (mr, .inl ((kA 0), 32768, .inl (upd g1 (trs.length + 1 + i) (sb_b (os.getD i 0)))))] H := hP
            have hD : va_D A [(y, .inr (6, [.ref mt, .int v1, .int v2, .ref m1, .ref m2, .ref m3, .ref m4, .ref m5, .ref mP, .ref mA, .int v3, .int v4, .int v5, .ref ml, .int v6, .ref mw, .ref mh, .long tm, .int v7, .int (nI trs.length), .ref mb, .ref mr, .ref mf])), (mr, .inl ((kA 0), 32768, .inl (upd g1 (trs.length + 1 + i) (sb_b (os.getD i 0)))))] := hD
            refine lv_iinc (v := nI (i + 1)) (lv' := [(6, .int (nI (i + 1))), (0, .ref y), (1, .int (nI kd)), (2, .ref p0), (3, .int (nI b)), (4, .int (nI os.length)), (5, .int (nI (zThing kd os nl).length))]) hx hb d_Model_tell_72 hl (k := 6) rfl (nI_1 _) (by decide) rfl (fun ls hl => ?_)
            refine lv_goto (tgt := 45) hx hb d_Model_tell_75 (by decide) ?_
            exact ih (i + 1) _ (by omega) (by omega) hsn _ _ (hP.sub [0, 1] rfl) (hD.sub [0, 1] (by decide) rfl) hS ls (lv_sub hl [1, 2, 3, 4, 5, 6, 0] rfl)
      exact lp (os.length + 1) 0 f1 (by omega) (Nat.zero_le _) (by rw [List.take_zero, List.append_nil]; exact hr1) _ _ (hP.sub [0, 1] rfl) (hD.sub [0, 1] (by decide) rfl) hS ls (lv_sub hl [2, 3, 4, 5, 6, 1, 0] rfl)
    · have hz : zTell trs (zThing kd os nl) = trs := if_neg (fun z => c27 (nI_le z (by omega)))
      exact zk_vret S hr hlk hS (by rw [hz]; exact ⟨rfl, f, hP, hD, hr0⟩) (Nat.le_refl _) (Nat.le_refl _) d_Model_tell_30
  · have hk3 : kd = 3 := by
      exact (nI_eq (by omega) (by omega)).mp c2
    have hnl2 : nl = true := by rw [hnl]; exact decide_eq_true hk3
    have hTl : (zThing kd os nl).length = os.length + 2 := by rw [hnl2]; exact zThing_3
    refine lv_iload hx hb d_Model_tell_5 (lv_at hl 4 rfl) ?_
    refine lv_iconst (v := 2) hx hb d_Model_tell_7 (by decide) ?_
    refine zk_ti (z := nI 2) (rfl) ?_
    refine lv_iadd hx hb d_Model_tell_8 ?_
    refine zk_ti (z := nI (zThing kd os nl).length) (by rw [hTl]; exact nI_add _ _) ?_
    refine lv_goto (tgt := 16) hx hb d_Model_tell_9 (by decide) ?_
    refine lv_istore (lv' := [(5, .int (nI (zThing kd os nl).length)), (0, .ref y), (1, .int (nI kd)), (2, .ref p0), (3, .int (nI b)), (4, .int (nI os.length))]) hx hb d_Model_tell_16 hl (by decide) rfl (fun ls hl => ?_)
    refine lv_aload_n hx hb d_Model_tell_18 rfl (lv_at hl 1 rfl) ?_
    refine zk_get (C := R_Model) (T := F_Model) (N := 23) S hK (hP 0 _ rfl) rfl i_Model 19 (by decide) m_Model_119 rfl rfl d_Model_tell_19 ?_
    refine lv_iload hx hb d_Model_tell_22 (lv_at hl 0 rfl) ?_
    refine lv_iadd hx hb d_Model_tell_24 ?_
    refine zk_ti (z := nI (trs.length + (zThing kd os nl).length)) (nI_add _ _) ?_
    refine lv_ldc (v := 32768) hx hb hown (ht _ m_Model_48) d_Model_tell_25 ?_
    refine zk_ti (z := nI 32768) (rfl) ?_
    refine lv_icmp_le (tgt := 31) hx hb d_Model_tell_27 (by decide) (fun c27 => ?_) (fun c27 => ?_)
    · have hroom : trs.length + (zThing kd os nl).length ≤ 32768 := (nI_leI (by omega) (by omega)).mp c27
      refine lv_aload_n hx hb d_Model_tell_31 rfl (lv_at hl 1 rfl) ?_
      refine zk_get (C := R_Model) (T := F_Model) (N := 23) S hK (hP 0 _ rfl) rfl i_Model 21 (by decide) m_Model_49 rfl rfl d_Model_tell_32 ?_
      refine lv_aload_n hx hb d_Model_tell_35 rfl (lv_at hl 1 rfl) ?_
      refine zk_get (C := R_Model) (T := F_Model) (N := 23) S hK (hP 0 _ rfl) rfl i_Model 19 (by decide) m_Model_119 rfl rfl d_Model_tell_36 ?_
      refine lv_iload_n hx hb d_Model_tell_39 rfl (lv_at hl 2 rfl) ?_
      refine lv_i2b hx hb d_Model_tell_40 rfl ?_
      refine zk_ti (z := sb_b kd) (zKd hkd) ?_
      refine va_bast hx hb hK hP hD hS 1 0 rfl rfl (vp_in_nI (by omega) (by omega)) d_Model_tell_41 (fun H locs hP hD hS => ?_)
      rw [nI_clamp (by omega), zNar] at hP hD
      have hr1 := zRw_snoc hr0 (by omega) hkd
      obtain ⟨f1, hf1⟩ : ∃ z, z = upd f trs.length (sb_b kd) := ⟨_, rfl⟩
      rw [← hf1] at hP hD hr1
      have hP : va_P D classes [(y, .inr (6, [.ref mt, .int v1, .int v2, .ref m1, .ref m2, .ref m3, .ref m4, .ref m5, .ref mP, .ref mA, .int v3, .int v4, .int v5, .ref ml, .int v6, .ref mw, .ref mh, .long tm, .int v7, .int (nI trs.length), .ref mb, .ref mr, .ref mf])), (mr, .inl ((kA 0), 32768, .inl f1))] H := hP
      have hD : va_D A [(y, .inr (6, [.ref mt, .int v1, .int v2, .ref m1, .ref m2, .ref m3, .ref m4, .ref m5, .ref mP, .ref mA, .int v3, .int v4, .int v5, .ref ml, .int v6, .ref mw, .ref mh, .long tm, .int v7, .int (nI trs.length), .ref mb, .ref mr, .ref mf])), (mr, .inl ((kA 0), 32768, .inl f1))] := hD
      refine lv_iconst (v := 0) hx hb d_Model_tell_42 (by decide) ?_
      refine lv_istore (lv' := [(6, .int 0), (5, .int (nI (zThing kd os nl).length)), (0, .ref y), (1, .int (nI kd)), (2, .ref p0), (3, .int (nI b)), (4, .int (nI os.length))]) hx hb d_Model_tell_43 hl (by decide) rfl (fun ls hl => ?_)
      have lp : ∀ (fu : Nat) (i : Nat) (g1 : Nat → Int32), os.length - i < fu → i ≤ os.length → zRw 32768 g1 (trs ++ [kd] ++ os.take i) → ∀ (H : Heap) (locs : List Loc), va_P D classes [(y, .inr (6, [.ref mt, .int v1, .int v2, .ref m1, .ref m2, .ref m3, .ref m4, .ref m5, .ref mP, .ref mA, .int v3, .int v4, .int v5, .ref ml, .int v6, .ref mw, .ref mh, .long tm, .int v7, .int (nI trs.length), .ref mb, .ref mr, .ref mf])), (mr, .inl ((kA 0), 32768, .inl g1))] H → va_D A [(y, .inr (6, [.ref mt, .int v1, .int v2, .ref m1, .ref m2, .ref m3, .ref m4, .ref m5, .ref mP, .ref mA, .int v3, .int v4, .int v5, .ref ml, .int v6, .ref mw, .ref mh, .long tm, .int v7, .int (nI trs.length), .ref mb, .ref mr, .ref mf])), (mr, .inl ((kA 0), 32768, .inl g1))] → va_S A s.heap H locs → ∀ ls : Array Slot, lv_has ls 7 [(0, .ref y), (1, .int (nI kd)), (2, .ref p0), (3, .int (nI b)), (4, .int (nI os.length)), (5, .int (nI (zThing kd os nl).length)), (6, .int (nI i))] → W p l e { frames := 0, cells := 0, slots := 0, locals := 0 } s m [.ref y, .int (nI kd), .ref p0, .int (nI b), .int (nI os.length)].toArray below meth c H locs 0 0 (MQ below (zk_mQ (fun v H => v = none ∧ ∃ f', va_P D classes [(y, .inr (6, [.ref mt, .int v1, .int v2, .ref m1, .ref m2, .ref m3, .ref m4, .ref m5, .ref mP, .ref mA, .int v3, .int v4, .int v5, .ref ml, .int v6, .ref mw, .ref mh, .long tm, .int v7, .int (nI (zTell trs (zThing kd os nl)).length), .ref mb, .ref mr, .ref mf])), (mr, .inl ((kA 0), 32768, .inl f'))] H ∧ va_D A [(y, .inr (6, [.ref mt, .int v1, .int v2, .ref m1, .ref m2, .ref m3, .ref m4, .ref m5, .ref mP, .ref mA, .int v3, .int v4, .int v5, .ref ml, .int v6, .ref mw, .ref mh, .long tm, .int v7, .int (nI (zTell trs (zThing kd os nl)).length), .ref mb, .ref mr, .ref mf])), (mr, .inl ((kA 0), 32768, .inl f'))] ∧ zRw 32768 f' (zTell trs (zThing kd os nl))) A) [.ref y, .int (nI kd), .ref p0, .int (nI b), .int (nI os.length)].toArray s 0 0 A) (F0 m 45 ls []) := by
        intro fu
        induction fu with
        | zero => intro i g1 hfu; exact absurd hfu (Nat.not_lt_zero _)
        | succ fu ih =>
          intro i g1 hfu hi hg H locs hP hD hS ls hl
          refine lv_iload hx hb d_Model_tell_45 (lv_at hl 6 rfl) ?_
          refine lv_iload hx hb d_Model_tell_47 (lv_at hl 4 rfl) ?_
          refine lv_icmp_ge (tgt := 78) hx hb d_Model_tell_49 (by decide) (fun c49 => ?_) (fun c49 => ?_)
          · have hie : i = os.length := by
              have := (nI_leI (by omega) (by omega)).mp c49
              omega
            subst hie
            rw [List.take_length] at hg
            refine lv_iload_n hx hb d_Model_tell_78 rfl (lv_at hl 1 rfl) ?_
            refine lv_iconst (v := 3) hx hb d_Model_tell_79 (by decide) ?_
            refine zk_ti (z := nI 3) (rfl) ?_
            refine lv_icmp_ne (tgt := 99) hx hb d_Model_tell_80 (by decide) (fun c80 => ?_) (fun c80 => ?_)
            · exact absurd (by rw [hk3]) c80
            · refine lv_aload_n hx hb d_Model_tell_83 rfl (lv_at hl 0 rfl) ?_
              refine zk_get (C := R_Model) (T := F_Model) (N := 23) S hK (hP 0 _ rfl) rfl i_Model 21 (by decide) m_Model_49 rfl rfl d_Model_tell_84 ?_
              refine lv_aload_n hx hb d_Model_tell_87 rfl (lv_at hl 0 rfl) ?_
              refine zk_get (C := R_Model) (T := F_Model) (N := 23) S hK (hP 0 _ rfl) rfl i_Model 19 (by decide) m_Model_119 rfl rfl d_Model_tell_88 ?_
              refine lv_iconst (v := 1) hx hb d_Model_tell_91 (by decide) ?_
              refine lv_iadd hx hb d_Model_tell_92 ?_
              refine zk_ti (z := nI (trs.length + 1)) (nI_1 _) ?_
              refine lv_iload hx hb d_Model_tell_93 (lv_at hl 4 rfl) ?_
              refine lv_iadd hx hb d_Model_tell_95 ?_
              refine zk_ti (z := nI (trs.length + 1 + os.length)) (nI_add _ _) ?_
              refine lv_bipush (v := 10) hx hb d_Model_tell_96 (by decide) ?_
              refine zk_ti (z := sb_b 10) (by decide) ?_
              have hLi : (trs ++ [kd] ++ os).length = trs.length + 1 + os.length := by simp; omega
              refine va_bast hx hb hK hP hD hS 1 0 rfl rfl (vp_in_nI (by omega) (by omega)) d_Model_tell_98 (fun H locs hP hD hS => ?_)
              rw [nI_clamp (by omega), zNar] at hP hD
              have hsn := zRw_snoc hg (by omega) (show 10 < 256 by decide)
              rw [hLi] at hsn
              have hall : trs ++ [kd] ++ os ++ [10] = trs ++ (zThing kd os nl) := by rw [hnl2]; simp [zThing]
              rw [hall] at hsn
              have hP : va_P D classes [(y, .inr (6, [.ref mt, .int v1, .int v2, .ref m1, .ref m2, .ref m3, .ref m4, .ref m5, .ref mP, .ref mA, .int v3, .int v4, .int v5, .ref ml, .int v6, .ref mw, .ref mh, .long tm, .int v7, .int (nI trs.length), .ref mb, .ref mr, .ref mf])), (mr, .inl ((kA 0), 32768, .inl (upd g1 (trs.length + 1 + os.length) (sb_b 10))))] H := hP
              have hD : va_D A [(y, .inr (6, [.ref mt, .int v1, .int v2, .ref m1, .ref m2, .ref m3, .ref m4, .ref m5, .ref mP, .ref mA, .int v3, .int v4, .int v5, .ref ml, .int v6, .ref mw, .ref mh, .long tm, .int v7, .int (nI trs.length), .ref mb, .ref mr, .ref mf])), (mr, .inl ((kA 0), 32768, .inl (upd g1 (trs.length + 1 + os.length) (sb_b 10))))] := hD
              refine lv_aload_n hx hb d_Model_tell_99 rfl (lv_at hl 0 rfl) ?_
              refine lv_dup hx hb d_Model_tell_100 rfl ?_
              refine zk_get (C := R_Model) (T := F_Model) (N := 23) S hK (hP 0 _ rfl) rfl i_Model 19 (by decide) m_Model_119 rfl rfl d_Model_tell_101 ?_
              refine lv_iload hx hb d_Model_tell_104 (lv_at hl 5 rfl) ?_
              refine lv_iadd hx hb d_Model_tell_106 ?_
              refine zk_ti (z := nI (trs.length + (zThing kd os nl).length)) (nI_add _ _) ?_
              refine va_put (D := D) (ci := 6) (v := .int (nI (trs.length + (zThing kd os nl).length))) (ty := .int) (C := R_Model) (T := F_Model) (N := 23) hx hb ht i_Model t_Model t_Model_ok n_Model hown hK hP hD hS 0 rfl rfl 19 (by decide) (ht _ m_Model_119) (fun _ h9 => h9) rfl (by decide +kernel) rfl rfl (Nat.le_of_ble_eq_true rfl) d_Model_tell_107 (fun H locs hP hD hS => ?_)
              have hP : va_P D classes [(y, .inr (6, [.ref mt, .int v1, .int v2, .ref m1, .ref m2, .ref m3, .ref m4, .ref m5, .ref mP, .ref mA, .int v3, .int v4, .int v5, .ref ml, .int v6, .ref mw, .ref mh, .long tm, .int v7, .int (nI (trs.length + (zThing kd os nl).length)), .ref mb, .ref mr, .ref mf])), (mr, .inl ((kA 0), 32768, .inl (upd g1 (trs.length + 1 + os.length) (sb_b 10))))] H := hP
              have hD : va_D A [(y, .inr (6, [.ref mt, .int v1, .int v2, .ref m1, .ref m2, .ref m3, .ref m4, .ref m5, .ref mP, .ref mA, .int v3, .int v4, .int v5, .ref ml, .int v6, .ref mw, .ref mh, .long tm, .int v7, .int (nI (trs.length + (zThing kd os nl).length)), .ref mb, .ref mr, .ref mf])), (mr, .inl ((kA 0), 32768, .inl (upd g1 (trs.length + 1 + os.length) (sb_b 10))))] := hD
              have hz : zTell trs (zThing kd os nl) = trs ++ (zThing kd os nl) := if_pos hroom
              exact zk_vret S hr hlk hS (by rw [hz, List.length_append]; exact ⟨rfl, _, hP, hD, hsn⟩) (Nat.le_refl _) (Nat.le_refl _) d_Model_tell_110
          · have hi2 : i < os.length := Nat.not_le.mp fun z => c49 (nI_le z (by omega))
            have hoi := hos i hi2
            have hLi : (trs ++ [kd] ++ os.take i).length = trs.length + 1 + i := by simp; omega
            refine lv_aload_n hx hb d_Model_tell_52 rfl (lv_at hl 0 rfl) ?_
            refine zk_get (C := R_Model) (T := F_Model) (N := 23) S hK (hP 0 _ rfl) rfl i_Model 21 (by decide) m_Model_49 rfl rfl d_Model_tell_53 ?_
            refine lv_aload_n hx hb d_Model_tell_56 rfl (lv_at hl 0 rfl) ?_
            refine zk_get (C := R_Model) (T := F_Model) (N := 23) S hK (hP 0 _ rfl) rfl i_Model 19 (by decide) m_Model_119 rfl rfl d_Model_tell_57 ?_
            refine lv_iconst (v := 1) hx hb d_Model_tell_60 (by decide) ?_
            refine lv_iadd hx hb d_Model_tell_61 ?_
            refine zk_ti (z := nI (trs.length + 1)) (nI_1 _) ?_
            refine lv_iload hx hb d_Model_tell_62 (lv_at hl 6 rfl) ?_
            refine lv_iadd hx hb d_Model_tell_64 ?_
            refine zk_ti (z := nI (trs.length + 1 + i)) (nI_add _ _) ?_
            refine lv_aload_n hx hb d_Model_tell_65 rfl (lv_at hl 2 rfl) ?_
            refine lv_iload_n hx hb d_Model_tell_66 rfl (lv_at hl 3 rfl) ?_
            refine lv_iload hx hb d_Model_tell_67 (lv_at hl 6 rfl) ?_
            refine lv_iadd hx hb d_Model_tell_69 ?_
            refine zk_ti (z := nI (b + i)) (nI_add _ _) ?_
            refine zk_bald S hK 0 (zk_ro hS hp0 hpA) rfl (vp_in_nI (by omega) (by omega)) d_Model_tell_70 ?_
            refine zk_ti (z := sb_b (os.getD i 0)) (by rw [nI_clamp (by omega)]; exact hoi.2) ?_
            refine va_bast hx hb hK hP hD hS 1 0 rfl rfl (vp_in_nI (by omega) (by omega)) d_Model_tell_71 (fun H locs hP hD hS => ?_)
            rw [nI_clamp (by omega), zNar] at hP hD
            have hsn := zRw_snoc hg (by omega) hoi.1
            rw [hLi, List.append_assoc, ← zTakeS hi2] at hsn
            have hP : va_P D classes [(y, .inr (6, [.ref mt, .int v1, .int v2, .ref m1, .ref m2, .ref m3, .ref m4, .ref m5, .ref mP, .ref mA, .int v3, .int v4, .int v5, .ref ml, .int v6, .ref mw, .ref mh, .long tm, .int v7, .int (nI trs.length), .ref mb, .ref mr, .ref mf])), (mr, .inl ((kA 0), 32768, .inl (upd g1 (trs.length + 1 + i) (sb_b (os.getD i 0)))))] H := hP
            have hD : va_D A [(y, .inr (6, [.ref mt, .int v1, .int v2, .ref m1, .ref m2, .ref m3, .ref m4, .ref m5, .ref mP, .ref mA, .int v3, .int v4, .int v5, .ref ml, .int v6, .ref mw, .ref mh, .long tm, .int v7, .int (nI trs.length), .ref mb, .ref mr, .ref mf])), (mr, .inl ((kA 0), 32768, .inl (upd g1 (trs.length + 1 + i) (sb_b (os.getD i 0)))))] := hD
            refine lv_iinc (v := nI (i + 1)) (lv' := [(6, .int (nI (i + 1))), (0, .ref y), (1, .int (nI kd)), (2, .ref p0), (3, .int (nI b)), (4, .int (nI os.length)), (5, .int (nI (zThing kd os nl).length))]) hx hb d_Model_tell_72 hl (k := 6) rfl (nI_1 _) (by decide) rfl (fun ls hl => ?_)
            refine lv_goto (tgt := 45) hx hb d_Model_tell_75 (by decide) ?_
            exact ih (i + 1) _ (by omega) (by omega) hsn _ _ (hP.sub [0, 1] rfl) (hD.sub [0, 1] (by decide) rfl) hS ls (lv_sub hl [1, 2, 3, 4, 5, 6, 0] rfl)
      exact lp (os.length + 1) 0 f1 (by omega) (Nat.zero_le _) (by rw [List.take_zero, List.append_nil]; exact hr1) _ _ (hP.sub [0, 1] rfl) (hD.sub [0, 1] (by decide) rfl) hS ls (lv_sub hl [2, 3, 4, 5, 6, 1, 0] rfl)
    · have hz : zTell trs (zThing kd os nl) = trs := if_neg (fun z => c27 (nI_le z (by omega)))
      exact zk_vret S hr hlk hS (by rw [hz]; exact ⟨rfl, f, hP, hD, hr0⟩) (Nat.le_refl _) (Nat.le_refl _) d_Model_tell_30

set_option maxHeartbeats 4000000 in
set_option maxRecDepth 100000 in
/-- PeerLineModel.put -/
theorem c_Model_put (l : Launch) (D : va_G) (kA : Nat → ClassId) (y mt m1 m2 m3 m4 m5 mP mA ml mw mh mb mr mf : Nat) (v2 v3 v4 v5 v6 v7 : Int32) (tm : Int64) (f ft : Nat → Int32) (trs tps : List Nat) (sz0 : Nat) : Met l y_Model_put (Cond.code y_Model_put b_Model_put 1 none :: zTB) { frames := 1, cells := 0, slots := 0, locals := 26 } (zk_Pc D classes (zTY kA) [.ref y] (fun H => H.size = sz0 ∧ va_P D classes [(y, .inr (6, [.ref mt, .int (nI tps.length), .int v2, .ref m1, .ref m2, .ref m3, .ref m4, .ref m5, .ref mP, .ref mA, .int v3, .int v4, .int v5, .ref ml, .int v6, .ref mw, .ref mh, .long tm, .int v7, .int (nI trs.length), .ref mb, .ref mr, .ref mf])), (mr, .inl ((kA 0), 32768, .inl f)), (mt, .inl ((kA 0), 1024, .inl ft))] H ∧ va_D (fun _ => True) [(y, .inr (6, [.ref mt, .int (nI tps.length), .int v2, .ref m1, .ref m2, .ref m3, .ref m4, .ref m5, .ref mP, .ref mA, .int v3, .int v4, .int v5, .ref ml, .int v6, .ref mw, .ref mh, .long tm, .int v7, .int (nI trs.length), .ref mb, .ref mr, .ref mf])), (mr, .inl ((kA 0), 32768, .inl f)), (mt, .inl ((kA 0), 1024, .inl ft))] ∧ zRw 32768 f trs ∧ zRw 1024 ft tps)) (zk_mQ (fun v H => v = none ∧ ∃ f', va_P D classes [(y, .inr (6, [.ref mt, .int (nI ([] : List Nat).length), .int v2, .ref m1, .ref m2, .ref m3, .ref m4, .ref m5, .ref mP, .ref mA, .int v3, .int v4, .int v5, .ref ml, .int v6, .ref mw, .ref mh, .long tm, .int v7, .int (nI (zTell trs (zThing 3 tps true)).length), .ref mb, .ref mr, .ref mf])), (mr, .inl ((kA 0), 32768, .inl f')), (mt, .inl ((kA 0), 1024, .inl ft))] H ∧ va_D (va_A [(y, .inr (6, [.ref mt, .int (nI tps.length), .int v2, .ref m1, .ref m2, .ref m3, .ref m4, .ref m5, .ref mP, .ref mA, .int v3, .int v4, .int v5, .ref ml, .int v6, .ref mw, .ref mh, .long tm, .int v7, .int (nI trs.length), .ref mb, .ref mr, .ref mf])), (mr, .inl ((kA 0), 32768, .inl f)), (mt, .inl ((kA 0), 1024, .inl ft))] sz0) [(y, .inr (6, [.ref mt, .int (nI ([] : List Nat).length), .int v2, .ref m1, .ref m2, .ref m3, .ref m4, .ref m5, .ref mP, .ref mA, .int v3, .int v4, .int v5, .ref ml, .int v6, .ref mw, .ref mh, .long tm, .int v7, .int (nI (zTell trs (zThing 3 tps true)).length), .ref mb, .ref mr, .ref mf])), (mr, .inl ((kA 0), 32768, .inl f')), (mt, .inl ((kA 0), 1024, .inl ft))] ∧ zRw 32768 f' (zTell trs (zThing 3 tps true))) (va_A [(y, .inr (6, [.ref mt, .int (nI tps.length), .int v2, .ref m1, .ref m2, .ref m3, .ref m4, .ref m5, .ref mP, .ref mA, .int v3, .int v4, .int v5, .ref ml, .int v6, .ref mw, .ref mh, .long tm, .int v7, .int (nI trs.length), .ref mb, .ref mr, .ref mf])), (mr, .inl ((kA 0), 32768, .inl f)), (mt, .inl ((kA 0), 1024, .inl ft))] sz0)) 0 0 (va_A [(y, .inr (6, [.ref mt, .int (nI tps.length), .int v2, .ref m1, .ref m2, .ref m3, .ref m4, .ref m5, .ref mP, .ref mA, .int v3, .int v4, .int v5, .ref ml, .int v6, .ref mw, .ref mh, .long tm, .int v7, .int (nI trs.length), .ref mb, .ref mr, .ref mf])), (mr, .inl ((kA 0), 32768, .inl f)), (mt, .inl ((kA 0), 1024, .inl ft))] sz0) := by
  refine zk_of [.ref y] (by decide) (Nat.le_of_ble_eq_true rfl) ?_
  intro p e s m below meth c S hr hlk hnm hK hX hpre ls hl
  obtain ⟨hx, hb, hml, hown, ht⟩ := id S
  have hl : lv_has ls 1 [(0, .ref y)] := hl
  obtain ⟨hsz, hP, hD0, hr0, ht0⟩ := hpre
  subst hsz
  have hD := hD0.self (sz := s.heap.size)
  generalize hAe : va_A [(y, .inr (6, [.ref mt, .int (nI tps.length), .int v2, .ref m1, .ref m2, .ref m3, .ref m4, .ref m5, .ref mP, .ref mA, .int v3, .int v4, .int v5, .ref ml, .int v6, .ref mw, .ref mh, .long tm, .int v7, .int (nI trs.length), .ref mb, .ref mr, .ref mf])), (mr, .inl ((kA 0), 32768, .inl f)), (mt, .inl ((kA 0), 1024, .inl ft))] s.heap.size = A at hD ⊢
  have hA : ∀ q : Nat, s.heap.size ≤ q → A q := fun q h => by rw [← hAe]; exact Or.inr h
  have hS : va_S A s.heap s.heap [] := va_S.rf
  have hP : va_P D classes [(y, .inr (6, [.ref mt, .int (nI tps.length), .int v2, .ref m1, .ref m2, .ref m3, .ref m4, .ref m5, .ref mP, .ref mA, .int v3, .int v4, .int v5, .ref ml, .int v6, .ref mw, .ref mh, .long tm, .int v7, .int (nI trs.length), .ref mb, .ref mr, .ref mf])), (mr, .inl ((kA 0), 32768, .inl f)), (mt, .inl ((kA 0), 1024, .inl ft))] s.heap := hP
  have htl := ht0.1
  refine lv_aload_n hx hb d_Model_put_0 rfl (lv_at hl 0 rfl) ?_
  refine lv_iconst (v := 3) hx hb d_Model_put_1 (by decide) ?_
  refine zk_ti (z := nI 3) (rfl) ?_
  refine lv_aload_n hx hb d_Model_put_2 rfl (lv_at hl 0 rfl) ?_
  refine zk_get (C := R_Model) (T := F_Model) (N := 23) S hK (hP 0 _ rfl) rfl i_Model 0 (by decide) m_Model_7 rfl rfl d_Model_put_3 ?_
  refine lv_iconst (v := 0) hx hb d_Model_put_6 (by decide) ?_
  refine zk_ti (z := nI 0) (rfl) ?_
  refine lv_aload_n hx hb d_Model_put_7 rfl (lv_at hl 0 rfl) ?_
  refine zk_get (C := R_Model) (T := F_Model) (N := 23) S hK (hP 0 _ rfl) rfl i_Model 1 (by decide) m_Model_56 rfl rfl d_Model_put_8 ?_
  have hapa_mt := zk_apart (wc := [(y, .inr (6, [.ref mt, .int (nI tps.length), .int v2, .ref m1, .ref m2, .ref m3, .ref m4, .ref m5, .ref mP, .ref mA, .int v3, .int v4, .int v5, .ref ml, .int v6, .ref mw, .ref mh, .long tm, .int v7, .int (nI trs.length), .ref mb, .ref mr, .ref mf])), (mr, .inl ((kA 0), 32768, .inl f))]) hP hD [0, 1] rfl (k := 2) rfl (by decide)
  have hFc := va_free (wc := [(y, .inr (6, [.ref mt, .int (nI tps.length), .int v2, .ref m1, .ref m2, .ref m3, .ref m4, .ref m5, .ref mP, .ref mA, .int v3, .int v4, .int v5, .ref ml, .int v6, .ref mw, .ref mh, .long tm, .int v7, .int (nI trs.length), .ref mb, .ref mr, .ref mf])), (mr, .inl ((kA 0), 32768, .inl f))]) hD hS hA [0, 1] rfl
  refine zk_mut (zk_runV (As := [.int (nI 3), .ref mt, .int (nI 0), .int (nI tps.length)]) (rest := []) S m_Model_122 (c_Model_tell l D kA y mt m1 m2 m3 m4 m5 mP mA ml mw mh mb mr mf (nI tps.length) v2 v3 v4 v5 v6 v7 tm f trs mt 1024 0 ft tps 3 true (by decide) rfl (by omega) (by decide) ht0.pat s.heap.size) rfl rfl ⟨Nat.le_of_ble_eq_true rfl, Nat.le_of_ble_eq_true rfl⟩ hK hX (zk_recv hK (hP 0 _ rfl) rfl) ⟨rfl, hP.sub (ws' := [(y, .inr (6, [.ref mt, .int (nI tps.length), .int v2, .ref m1, .ref m2, .ref m3, .ref m4, .ref m5, .ref mP, .ref mA, .int v3, .int v4, .int v5, .ref ml, .int v6, .ref mw, .ref mh, .long tm, .int v7, .int (nI trs.length), .ref mb, .ref mr, .ref mf])), (mr, .inl ((kA 0), 32768, .inl f))]) [0, 1] rfl, (hD.sub (ws' := [(y, .inr (6, [.ref mt, .int (nI tps.length), .int v2, .ref m1, .ref m2, .ref m3, .ref m4, .ref m5, .ref mP, .ref mA, .int v3, .int v4, .int v5, .ref ml, .int v6, .ref mw, .ref mh, .long tm, .int v7, .int (nI trs.length), .ref mb, .ref mr, .ref mf])), (mr, .inl ((kA 0), 32768, .inl f))]) [0, 1] (by decide) rfl).weaken (fun _ _ _ _ => trivial), hr0, (hP 2 _ rfl), hapa_mt⟩ rfl hl.1 rfl (Nat.le_of_ble_eq_true rfl) ⟨Nat.le_of_ble_eq_true rfl, Nat.le_of_ble_eq_true rfl⟩ d_Model_put_11) hS hFc hFc (fun v H locs hpost hz1 hk1 hS => ?_)
  obtain ⟨rfl, f', hP1, hD1, hr1⟩ := hpost
  obtain ⟨hP, hD⟩ := va_join (wr := [(mt, .inl ((kA 0), 1024, .inl ft))]) (w1 := [(y, .inr (6, [.ref mt, .int (nI tps.length), .int v2, .ref m1, .ref m2, .ref m3, .ref m4, .ref m5, .ref mP, .ref mA, .int v3, .int v4, .int v5, .ref ml, .int v6, .ref mw, .ref mh, .long tm, .int v7, .int (nI (zTell trs (zThing 3 tps true)).length), .ref mb, .ref mr, .ref mf])), (mr, .inl ((kA 0), 32768, .inl f'))]) hP hD [0, 1] [2] rfl rfl (by decide) (by decide) hk1 hFc hP1 hD1
  refine W.eq (g2 := F0 m 14 ls []) rfl ?_
  have hP : va_P D classes [(mt, .inl ((kA 0), 1024, .inl ft)), (y, .inr (6, [.ref mt, .int (nI tps.length), .int v2, .ref m1, .ref m2, .ref m3, .ref m4, .ref m5, .ref mP, .ref mA, .int v3, .int v4, .int v5, .ref ml, .int v6, .ref mw, .ref mh, .long tm, .int v7, .int (nI (zTell trs (zThing 3 tps true)).length), .ref mb, .ref mr, .ref mf])), (mr, .inl ((kA 0), 32768, .inl f'))] H := hP
  have hD : va_D A [(mt, .inl ((kA 0), 1024, .inl ft)), (y, .inr (6, [.ref mt, .int (nI tps.length), .int v2, .ref m1, .ref m2, .ref m3, .ref m4, .ref m5, .ref mP, .ref mA, .int v3, .int v4, .int v5, .ref ml, .int v6, .ref mw, .ref mh, .long tm, .int v7, .int (nI (zTell trs (zThing 3 tps true)).length), .ref mb, .ref mr, .ref mf])), (mr, .inl ((kA 0), 32768, .inl f'))] := hD
  refine lv_aload_n hx hb d_Model_put_14 rfl (lv_at hl 0 rfl) ?_
  refine lv_iconst (v := 0) hx hb d_Model_put_15 (by decide) ?_
  refine zk_ti (z := nI ([] : List Nat).length) (rfl) ?_
  refine va_put (D := D) (ci := 6) (v := .int (nI ([] : List Nat).length)) (ty := .int) (C := R_Model) (T := F_Model) (N := 23) hx hb ht i_Model t_Model t_Model_ok n_Model hown hK hP hD hS 1 rfl rfl 1 (by decide) (ht _ m_Model_56) (fun _ h9 => h9) rfl (by decide +kernel) rfl rfl (Nat.le_of_ble_eq_true rfl) d_Model_put_16 (fun H locs hP hD hS => ?_)
  have hP : va_P D classes [(mt, .inl ((kA 0), 1024, .inl ft)), (y, .inr (6, [.ref mt, .int (nI ([] : List Nat).length), .int v2, .ref m1, .ref m2, .ref m3, .ref m4, .ref m5, .ref mP, .ref mA, .int v3, .int v4, .int v5, .ref ml, .int v6, .ref mw, .ref mh, .long tm, .int v7, .int (nI (zTell trs (zThing 3 tps true)).length), .ref mb, .ref mr, .ref mf])), (mr, .inl ((kA 0), 32768, .inl f'))] H := hP
  have hD : va_D A [(mt, .inl ((kA 0), 1024, .inl ft)), (y, .inr (6, [.ref mt, .int (nI ([] : List Nat).length), .int v2, .ref m1, .ref m2, .ref m3, .ref m4, .ref m5, .ref mP, .ref mA, .int v3, .int v4, .int v5, .ref ml, .int v6, .ref mw, .ref mh, .long tm, .int v7, .int (nI (zTell trs (zThing 3 tps true)).length), .ref mb, .ref mr, .ref mf])), (mr, .inl ((kA 0), 32768, .inl f'))] := hD
  exact zk_vret S hr hlk hS ⟨rfl, f', hP.sub [1, 2, 0] rfl, hD.sub [1, 2, 0] (by decide) rfl, hr1⟩ (Nat.le_refl _) (Nat.le_refl _) d_Model_put_19

set_option maxHeartbeats 4000000 in
set_option maxRecDepth 100000 in
/-- PeerLineModel.drop(n) -/
theorem c_Model_drop (l : Launch) (D : va_G) (kA : Nat → ClassId) (y mt m1 m2 m3 m4 m5 mP mA ml mw mh mb mr mf : Nat) (v1 v2 v3 v4 v5 v6 v8 : Int32) (tm : Int64) (f : Nat → Int32) (bfs : List Nat) (k : Nat) (hk : k ≤ bfs.length) (sz0 : Nat) : Met l y_Model_drop (Cond.code y_Model_drop b_Model_drop 3 none :: zTB) { frames := 0, cells := 0, slots := 0, locals := 0 } (zk_Pc D classes (zTY kA) [.ref y, .int (nI k)] (fun H => H.size = sz0 ∧ va_P D classes [(y, .inr (6, [.ref mt, .int v1, .int v2, .ref m1, .ref m2, .ref m3, .ref m4, .ref m5, .ref mP, .ref mA, .int v3, .int v4, .int v5, .ref ml, .int v6, .ref mw, .ref mh, .long tm, .int (nI bfs.length), .int v8, .ref mb, .ref mr, .ref mf])), (mb, .inl ((kA 0), 1024, .inl f))] H ∧ va_D (fun _ => True) [(y, .inr (6, [.ref mt, .int v1, .int v2, .ref m1, .ref m2, .ref m3, .ref m4, .ref m5, .ref mP, .ref mA, .int v3, .int v4, .int v5, .ref ml, .int v6, .ref mw, .ref mh, .long tm, .int (nI bfs.length), .int v8, .ref mb, .ref mr, .ref mf])), (mb, .inl ((kA 0), 1024, .inl f))] ∧ zRw 1024 f bfs)) (zk_mQ (fun v H => v = none ∧ ∃ f', va_P D classes [(y, .inr (6, [.ref mt, .int v1, .int v2, .ref m1, .ref m2, .ref m3, .ref m4, .ref m5, .ref mP, .ref mA, .int v3, .int v4, .int v5, .ref ml, .int v6, .ref mw, .ref mh, .long tm, .int (nI (bfs.drop k).length), .int v8, .ref mb, .ref mr, .ref mf])), (mb, .inl ((kA 0), 1024, .inl f'))] H ∧ va_D (va_A [(y, .inr (6, [.ref mt, .int v1, .int v2, .ref m1, .ref m2, .ref m3, .ref m4, .ref m5, .ref mP, .ref mA, .int v3, .int v4, .int v5, .ref ml, .int v6, .ref mw, .ref mh, .long tm, .int (nI bfs.length), .int v8, .ref mb, .ref mr, .ref mf])), (mb, .inl ((kA 0), 1024, .inl f))] sz0) [(y, .inr (6, [.ref mt, .int v1, .int v2, .ref m1, .ref m2, .ref m3, .ref m4, .ref m5, .ref mP, .ref mA, .int v3, .int v4, .int v5, .ref ml, .int v6, .ref mw, .ref mh, .long tm, .int (nI (bfs.drop k).length), .int v8, .ref mb, .ref mr, .ref mf])), (mb, .inl ((kA 0), 1024, .inl f'))] ∧ zRw 1024 f' (bfs.drop k)) (va_A [(y, .inr (6, [.ref mt, .int v1, .int v2, .ref m1, .ref m2, .ref m3, .ref m4, .ref m5, .ref mP, .ref mA, .int v3, .int v4, .int v5, .ref ml, .int v6, .ref mw, .ref mh, .long tm, .int (nI bfs.length), .int v8, .ref mb, .ref mr, .ref mf])), (mb, .inl ((kA 0), 1024, .inl f))] sz0)) 0 0 (va_A [(y, .inr (6, [.ref mt, .int v1, .int v2, .ref m1, .ref m2, .ref m3, .ref m4, .ref m5, .ref mP, .ref mA, .int v3, .int v4, .int v5, .ref ml, .int v6, .ref mw, .ref mh, .long tm, .int (nI bfs.length), .int v8, .ref mb, .ref mr, .ref mf])), (mb, .inl ((kA 0), 1024, .inl f))] sz0) := by
  refine zk_of [.ref y, .int (nI k)] (by decide) (Nat.le_of_ble_eq_true rfl) ?_
  intro p e s m below meth c S hr hlk hnm hK hX hpre ls hl
  obtain ⟨hx, hb, hml, hown, ht⟩ := id S
  have hl : lv_has ls 3 [(0, .ref y), (1, .int (nI k))] := hl
  obtain ⟨hsz, hP, hD0, hr0⟩ := hpre
  subst hsz
  have hD := hD0.self (sz := s.heap.size)
  generalize hAe : va_A [(y, .inr (6, [.ref mt, .int v1, .int v2, .ref m1, .ref m2, .ref m3, .ref m4, .ref m5, .ref mP, .ref mA, .int v3, .int v4, .int v5, .ref ml, .int v6, .ref mw, .ref mh, .long tm, .int (nI bfs.length), .int v8, .ref mb, .ref mr, .ref mf])), (mb, .inl ((kA 0), 1024, .inl f))] s.heap.size = A at hD ⊢
  have hA : ∀ q : Nat, s.heap.size ≤ q → A q := fun q h => by rw [← hAe]; exact Or.inr h
  have hS : va_S A s.heap s.heap [] := va_S.rf
  have hP : va_P D classes [(y, .inr (6, [.ref mt, .int v1, .int v2, .ref m1, .ref m2, .ref m3, .ref m4, .ref m5, .ref mP, .ref mA, .int v3, .int v4, .int v5, .ref ml, .int v6, .ref mw, .ref mh, .long tm, .int (nI bfs.length), .int v8, .ref mb, .ref mr, .ref mf])), (mb, .inl ((kA 0), 1024, .inl f))] s.heap := hP
  have htl := hr0.1
  refine lv_iload_n hx hb d_Model_drop_0 rfl (lv_at hl 1 rfl) ?_
  refine lv_istore_n (lv' := [(2, .int (nI k)), (0, .ref y), (1, .int (nI k))]) hx hb d_Model_drop_1 rfl hl (by decide) rfl (fun ls hl => ?_)
  have lp : ∀ (fu : Nat) (i : Nat) (g1 : Nat → Int32), bfs.length - i < fu → k ≤ i → i ≤ bfs.length → (∀ j, j < i - k → g1 j = f (k + j)) → (∀ j, i - k ≤ j → g1 j = f j) → ∀ (H : Heap) (locs : List Loc), va_P D classes [(y, .inr (6, [.ref mt, .int v1, .int v2, .ref m1, .ref m2, .ref m3, .ref m4, .ref m5, .ref mP, .ref mA, .int v3, .int v4, .int v5, .ref ml, .int v6, .ref mw, .ref mh, .long tm, .int (nI bfs.length), .int v8, .ref mb, .ref mr, .ref mf])), (mb, .inl ((kA 0), 1024, .inl g1))] H → va_D A [(y, .inr (6, [.ref mt, .int v1, .int v2, .ref m1, .ref m2, .ref m3, .ref m4, .ref m5, .ref mP, .ref mA, .int v3, .int v4, .int v5, .ref ml, .int v6, .ref mw, .ref mh, .long tm, .int (nI bfs.length), .int v8, .ref mb, .ref mr, .ref mf])), (mb, .inl ((kA 0), 1024, .inl g1))] → va_S A s.heap H locs → ∀ ls : Array Slot, lv_has ls 3 [(0, .ref y), (1, .int (nI k)), (2, .int (nI i))] → W p l e { frames := 0, cells := 0, slots := 0, locals := 0 } s m [.ref y, .int (nI k)].toArray below meth c H locs 0 0 (MQ below (zk_mQ (fun v H => v = none ∧ ∃ f', va_P D classes [(y, .inr (6, [.ref mt, .int v1, .int v2, .ref m1, .ref m2, .ref m3, .ref m4, .ref m5, .ref mP, .ref mA, .int v3, .int v4, .int v5, .ref ml, .int v6, .ref mw, .ref mh, .long tm, .int (nI (bfs.drop k).length), .int v8, .ref mb, .ref mr, .ref mf])), (mb, .inl ((kA 0), 1024, .inl f'))] H ∧ va_D A [(y, .inr (6, [.ref mt, .int v1, .int v2, .ref m1, .ref m2, .ref m3, .ref m4, .ref m5, .ref mP, .ref mA, .int v3, .int v4, .int v5, .ref ml, .int v6, .ref mw, .ref mh, .long tm, .int (nI (bfs.drop k).length), .int v8, .ref mb, .ref mr, .ref mf])), (mb, .inl ((kA 0), 1024, .inl f'))] ∧ zRw 1024 f' (bfs.drop k)) A) [.ref y, .int (nI k)].toArray s 0 0 A) (F0 m 2 ls []) := by
    intro fu
    induction fu with
    | zero => intro i g1 hfu; exact absurd hfu (Nat.not_lt_zero _)
    | succ fu ih =>
      intro i g1 hfu hki hi hlo hhi H locs hP hD hS ls hl
      refine lv_iload_n hx hb d_Model_drop_2 rfl (lv_at hl 2 rfl) ?_
      refine lv_aload_n hx hb d_Model_drop_3 rfl (lv_at hl 0 rfl) ?_
      refine zk_get (C := R_Model) (T := F_Model) (N := 23) S hK (hP 0 _ rfl) rfl i_Model 18 (by decide) m_Model_113 rfl rfl d_Model_drop_4 ?_
      refine lv_icmp_ge (tgt := 30) hx hb d_Model_drop_7 (by decide) (fun c7 => ?_) (fun c7 => ?_)
      · have hie : i = bfs.length := by
          have := (nI_leI (by omega) (by omega)).mp c7
          omega
        subst hie
        refine lv_aload_n hx hb d_Model_drop_30 rfl (lv_at hl 0 rfl) ?_
        refine lv_dup hx hb d_Model_drop_31 rfl ?_
        refine zk_get (C := R_Model) (T := F_Model) (N := 23) S hK (hP 0 _ rfl) rfl i_Model 18 (by decide) m_Model_113 rfl rfl d_Model_drop_32 ?_
        refine lv_iload_n hx hb d_Model_drop_35 rfl (lv_at hl 1 rfl) ?_
        refine lv_isub hx hb d_Model_drop_36 ?_
        refine zk_ti (z := nI (bfs.drop k).length) (by rw [List.length_drop]; exact pk_sub hk) ?_
        refine va_put (D := D) (ci := 6) (v := .int (nI (bfs.drop k).length)) (ty := .int) (C := R_Model) (T := F_Model) (N := 23) hx hb ht i_Model t_Model t_Model_ok n_Model hown hK hP hD hS 0 rfl rfl 18 (by decide) (ht _ m_Model_113) (fun _ h9 => h9) rfl (by decide +kernel) rfl rfl (Nat.le_of_ble_eq_true rfl) d_Model_drop_37 (fun H locs hP hD hS => ?_)
        have hP : va_P D classes [(y, .inr (6, [.ref mt, .int v1, .int v2, .ref m1, .ref m2, .ref m3, .ref m4, .ref m5, .ref mP, .ref mA, .int v3, .int v4, .int v5, .ref ml, .int v6, .ref mw, .ref mh, .long tm, .int (nI (bfs.drop k).length), .int v8, .ref mb, .ref mr, .ref mf])), (mb, .inl ((kA 0), 1024, .inl g1))] H := hP
        have hD : va_D A [(y, .inr (6, [.ref mt, .int v1, .int v2, .ref m1, .ref m2, .ref m3, .ref m4, .ref m5, .ref mP, .ref mA, .int v3, .int v4, .int v5, .ref ml, .int v6, .ref mw, .ref mh, .long tm, .int (nI (bfs.drop k).length), .int v8, .ref mb, .ref mr, .ref mf])), (mb, .inl ((kA 0), 1024, .inl g1))] := hD
        exact zk_vret S hr hlk hS ⟨rfl, g1, hP, hD, zRw_drop hr0 hlo⟩ (Nat.le_refl _) (Nat.le_refl _) d_Model_drop_40
      · have hi2 : i < bfs.length := Nat.not_le.mp fun z => c7 (nI_le z (by omega))
        have hbi := hr0.2 i hi2
        refine lv_aload_n hx hb d_Model_drop_10 rfl (lv_at hl 0 rfl) ?_
        refine zk_get (C := R_Model) (T := F_Model) (N := 23) S hK (hP 0 _ rfl) rfl i_Model 20 (by decide) m_Model_45 rfl rfl d_Model_drop_11 ?_
        refine lv_iload_n hx hb d_Model_drop_14 rfl (lv_at hl 2 rfl) ?_
        refine lv_iload_n hx hb d_Model_drop_15 rfl (lv_at hl 1 rfl) ?_
        refine lv_isub hx hb d_Model_drop_16 ?_
        refine zk_ti (z := nI (i - k)) (pk_sub (by omega)) ?_
        refine lv_aload_n hx hb d_Model_drop_17 rfl (lv_at hl 0 rfl) ?_
        refine zk_get (C := R_Model) (T := F_Model) (N := 23) S hK (hP 0 _ rfl) rfl i_Model 20 (by decide) m_Model_45 rfl rfl d_Model_drop_18 ?_
        refine lv_iload_n hx hb d_Model_drop_21 rfl (lv_at hl 2 rfl) ?_
        refine zk_bald S hK 0 (hP 1 _ rfl) rfl (vp_in_nI (by omega) (by omega)) d_Model_drop_22 ?_
        refine zk_ti (z := sb_b (bfs.getD i 0)) (by rw [nI_clamp (by omega), hhi i (by omega)]; exact hbi.2) ?_
        refine va_bast hx hb hK hP hD hS 1 0 rfl rfl (vp_in_nI (by omega) (by omega)) d_Model_drop_23 (fun H locs hP hD hS => ?_)
        rw [nI_clamp (by omega), zNar] at hP hD
        have hP : va_P D classes [(y, .inr (6, [.ref mt, .int v1, .int v2, .ref m1, .ref m2, .ref m3, .ref m4, .ref m5, .ref mP, .ref mA, .int v3, .int v4, .int v5, .ref ml, .int v6, .ref mw, .ref mh, .long tm, .int (nI bfs.length), .int v8, .ref mb, .ref mr, .ref mf])), (mb, .inl ((kA 0), 1024, .inl (upd g1 (i - k) (sb_b (bfs.getD i 0)))))] H := hP
        have hD : va_D A [(y, .inr (6, [.ref mt, .int v1, .int v2, .ref m1, .ref m2, .ref m3, .ref m4, .ref m5, .ref mP, .ref mA, .int v3, .int v4, .int v5, .ref ml, .int v6, .ref mw, .ref mh, .long tm, .int (nI bfs.length), .int v8, .ref mb, .ref mr, .ref mf])), (mb, .inl ((kA 0), 1024, .inl (upd g1 (i - k) (sb_b (bfs.getD i 0)))))] := hD
        refine lv_iinc (v := nI (i + 1)) (lv' := [(2, .int (nI (i + 1))), (0, .ref y), (1, .int (nI k))]) hx hb d_Model_drop_24 hl (k := 2) rfl (nI_1 _) (by decide) rfl (fun ls hl => ?_)
        refine lv_goto (tgt := 2) hx hb d_Model_drop_27 (by decide) ?_
        exact ih (i + 1) _ (by omega) (by omega) (by omega) (fun j hj => by
          by_cases e : j = i - k
          · rw [e, pk_us, show k + (i - k) = i by omega]; exact hbi.2.symm
          · rw [pk_un e]; exact hlo j (by omega)) (fun j hj => by rw [pk_un (by omega)]; exact hhi j (by omega)) _ _ (hP.sub [0, 1] rfl) (hD.sub [0, 1] (by decide) rfl) hS ls (lv_sub hl [1, 2, 0] rfl)
  exact lp (bfs.length + 1) k f (by omega) (Nat.le_refl _) hk (fun j hj => absurd hj (by omega)) (fun j _ => rfl) _ _ (hP.sub [0, 1] rfl) (hD.sub [0, 1] (by decide) rfl) hS ls (lv_sub hl [1, 2, 0] rfl)

set_option maxHeartbeats 4000000 in
set_option maxRecDepth 100000 in
/-- PeerLineModel.take(n) -/
theorem c_Model_take (l : Launch) (D : va_G) (kA : Nat → ClassId) (y mt m1 m2 m3 m4 m5 mP mA ml mw mh mb mr mf : Nat) (v1 v2 v3 v4 v5 v6 v8 : Int32) (tm : Int64) (f : Nat → Int32) (bfs : List Nat) (n1 : Int32) (sz0 : Nat) : Met l y_Model_take (Cond.code y_Model_take b_Model_take 2 (some .boolean) :: zTB) { frames := 1, cells := 0, slots := 0, locals := 22 } (zk_Pc D classes (zTY kA) [.ref y, .int n1] (fun H => H.size = sz0 ∧ va_P D classes [(y, .inr (6, [.ref mt, .int v1, .int v2, .ref m1, .ref m2, .ref m3, .ref m4, .ref m5, .ref mP, .ref mA, .int v3, .int v4, .int v5, .ref ml, .int v6, .ref mw, .ref mh, .long tm, .int (nI bfs.length), .int v8, .ref mb, .ref mr, .ref mf])), (mb, .inl ((kA 0), 1024, .inl f))] H ∧ va_D (fun _ => True) [(y, .inr (6, [.ref mt, .int v1, .int v2, .ref m1, .ref m2, .ref m3, .ref m4, .ref m5, .ref mP, .ref mA, .int v3, .int v4, .int v5, .ref ml, .int v6, .ref mw, .ref mh, .long tm, .int (nI bfs.length), .int v8, .ref mb, .ref mr, .ref mf])), (mb, .inl ((kA 0), 1024, .inl f))] ∧ zRw 1024 f bfs)) (zk_mQ (fun v H => (∃ k, n1 = nI k ∧ k ≤ bfs.length ∧ v = some (.int 1) ∧ ∃ f', va_P D classes [(y, .inr (6, [.ref mt, .int v1, .int v2, .ref m1, .ref m2, .ref m3, .ref m4, .ref m5, .ref mP, .ref mA, .int v3, .int v4, .int v5, .ref ml, .int v6, .ref mw, .ref mh, .long tm, .int (nI (bfs.drop k).length), .int v8, .ref mb, .ref mr, .ref mf])), (mb, .inl ((kA 0), 1024, .inl f'))] H ∧ va_D (va_A [(y, .inr (6, [.ref mt, .int v1, .int v2, .ref m1, .ref m2, .ref m3, .ref m4, .ref m5, .ref mP, .ref mA, .int v3, .int v4, .int v5, .ref ml, .int v6, .ref mw, .ref mh, .long tm, .int (nI bfs.length), .int v8, .ref mb, .ref mr, .ref mf])), (mb, .inl ((kA 0), 1024, .inl f))] sz0) [(y, .inr (6, [.ref mt, .int v1, .int v2, .ref m1, .ref m2, .ref m3, .ref m4, .ref m5, .ref mP, .ref mA, .int v3, .int v4, .int v5, .ref ml, .int v6, .ref mw, .ref mh, .long tm, .int (nI (bfs.drop k).length), .int v8, .ref mb, .ref mr, .ref mf])), (mb, .inl ((kA 0), 1024, .inl f'))] ∧ zRw 1024 f' (bfs.drop k)) ∨ ((∀ k, k ≤ bfs.length → n1 ≠ nI k) ∧ v = some (.int 0) ∧ va_P D classes [(y, .inr (6, [.ref mt, .int v1, .int v2, .ref m1, .ref m2, .ref m3, .ref m4, .ref m5, .ref mP, .ref mA, .int v3, .int v4, .int v5, .ref ml, .int v6, .ref mw, .ref mh, .long tm, .int (nI bfs.length), .int v8, .ref mb, .ref mr, .ref mf])), (mb, .inl ((kA 0), 1024, .inl f))] H ∧ va_D (va_A [(y, .inr (6, [.ref mt, .int v1, .int v2, .ref m1, .ref m2, .ref m3, .ref m4, .ref m5, .ref mP, .ref mA, .int v3, .int v4, .int v5, .ref ml, .int v6, .ref mw, .ref mh, .long tm, .int (nI bfs.length), .int v8, .ref mb, .ref mr, .ref mf])), (mb, .inl ((kA 0), 1024, .inl f))] sz0) [(y, .inr (6, [.ref mt, .int v1, .int v2, .ref m1, .ref m2, .ref m3, .ref m4, .ref m5, .ref mP, .ref mA, .int v3, .int v4, .int v5, .ref ml, .int v6, .ref mw, .ref mh, .long tm, .int (nI bfs.length), .int v8, .ref mb, .ref mr, .ref mf])), (mb, .inl ((kA 0), 1024, .inl f))])) (va_A [(y, .inr (6, [.ref mt, .int v1, .int v2, .ref m1, .ref m2, .ref m3, .ref m4, .ref m5, .ref mP, .ref mA, .int v3, .int v4, .int v5, .ref ml, .int v6, .ref mw, .ref mh, .long tm, .int (nI bfs.length), .int v8, .ref mb, .ref mr, .ref mf])), (mb, .inl ((kA 0), 1024, .inl f))] sz0)) 0 0 (va_A [(y, .inr (6, [.ref mt, .int v1, .int v2, .ref m1, .ref m2, .ref m3, .ref m4, .ref m5, .ref mP, .ref mA, .int v3, .int v4, .int v5, .ref ml, .int v6, .ref mw, .ref mh, .long tm, .int (nI bfs.length), .int v8, .ref mb, .ref mr, .ref mf])), (mb, .inl ((kA 0), 1024, .inl f))] sz0) := by
  refine zk_of [.ref y, .int n1] (by decide) (Nat.le_of_ble_eq_true rfl) ?_
  intro p e s m below meth c S hr hlk hnm hK hX hpre ls hl
  obtain ⟨hx, hb, hml, hown, ht⟩ := id S
  have hl : lv_has ls 2 [(0, .ref y), (1, .int n1)] := hl
  obtain ⟨hsz, hP, hD0, hr0⟩ := hpre
  subst hsz
  have hD := hD0.self (sz := s.heap.size)
  generalize hAe : va_A [(y, .inr (6, [.ref mt, .int v1, .int v2, .ref m1, .ref m2, .ref m3, .ref m4, .ref m5, .ref mP, .ref mA, .int v3, .int v4, .int v5, .ref ml, .int v6, .ref mw, .ref mh, .long tm, .int (nI bfs.length), .int v8, .ref mb, .ref mr, .ref mf])), (mb, .inl ((kA 0), 1024, .inl f))] s.heap.size = A at hD ⊢
  have hA : ∀ q : Nat, s.heap.size ≤ q → A q := fun q h => by rw [← hAe]; exact Or.inr h
  have hS : va_S A s.heap s.heap [] := va_S.rf
  have hP : va_P D classes [(y, .inr (6, [.ref mt, .int v1, .int v2, .ref m1, .ref m2, .ref m3, .ref m4, .ref m5, .ref mP, .ref mA, .int v3, .int v4, .int v5, .ref ml, .int v6, .ref mw, .ref mh, .long tm, .int (nI bfs.length), .int v8, .ref mb, .ref mr, .ref mf])), (mb, .inl ((kA 0), 1024, .inl f))] s.heap := hP
  have htl := hr0.1
  refine lv_iload_n hx hb d_Model_take_0 rfl (lv_at hl 1 rfl) ?_
  refine lv_iconst (v := 0) hx hb d_Model_take_1 (by decide) ?_
  refine lv_aload_n hx hb d_Model_take_2 rfl (lv_at hl 0 rfl) ?_
  refine zk_get (C := R_Model) (T := F_Model) (N := 23) S hK (hP 0 _ rfl) rfl i_Model 18 (by decide) m_Model_113 rfl rfl d_Model_take_3 ?_
  refine zk_pureE (zk_runS (As := [.int n1, .int 0, .int (nI bfs.length)]) (rest := []) S m_Model_64 (c_Model_in l D kA n1 0 (nI bfs.length)) rfl rfl ⟨Nat.le_of_ble_eq_true rfl, Nat.le_of_ble_eq_true rfl⟩ hK hX (trivial) rfl hl.1 rfl (Nat.le_of_ble_eq_true rfl) ⟨Nat.le_of_ble_eq_true rfl, Nat.le_of_ble_eq_true rfl⟩ d_Model_take_6) (fun v hv => ?_)
  rcases hv with ⟨hi1, hi2, rfl⟩ | ⟨hi1, rfl⟩
  · refine lv_if_ne (tgt := 14) hx hb d_Model_take_9 (by decide) (fun c9 => ?_) (fun c9 => ?_)
    · obtain ⟨k, hk31, ek⟩ := zIn_y (show bfs.length < 2 ^ 31 by omega) hi1 hi2
      refine lv_aload_n hx hb d_Model_take_14 rfl (lv_at hl 0 rfl) ?_
      refine lv_iload_n hx hb d_Model_take_15 rfl (lv_at hl 1 rfl) ?_
      refine W.eq (g2 := F0 m 16 ls [.int (nI k), .ref y]) (by rw [ek]) ?_
      have hFc := va_free (wc := [(y, .inr (6, [.ref mt, .int v1, .int v2, .ref m1, .ref m2, .ref m3, .ref m4, .ref m5, .ref mP, .ref mA, .int v3, .int v4, .int v5, .ref ml, .int v6, .ref mw, .ref mh, .long tm, .int (nI bfs.length), .int v8, .ref mb, .ref mr, .ref mf])), (mb, .inl ((kA 0), 1024, .inl f))]) hD hS hA [0, 1] rfl
      refine zk_mut (zk_runV (As := [.int (nI k)]) (rest := []) S m_Model_126 (c_Model_drop l D kA y mt m1 m2 m3 m4 m5 mP mA ml mw mh mb mr mf v1 v2 v3 v4 v5 v6 v8 tm f bfs k hk31 s.heap.size) rfl rfl ⟨Nat.le_of_ble_eq_true rfl, Nat.le_of_ble_eq_true rfl⟩ hK hX (zk_recv hK (hP 0 _ rfl) rfl) ⟨rfl, hP.sub (ws' := [(y, .inr (6, [.ref mt, .int v1, .int v2, .ref m1, .ref m2, .ref m3, .ref m4, .ref m5, .ref mP, .ref mA, .int v3, .int v4, .int v5, .ref ml, .int v6, .ref mw, .ref mh, .long tm, .int (nI bfs.length), .int v8, .ref mb, .ref mr, .ref mf])), (mb, .inl ((kA 0), 1024, .inl f))]) [0, 1] rfl, (hD.sub (ws' := [(y, .inr (6, [.ref mt, .int v1, .int v2, .ref m1, .ref m2, .ref m3, .ref m4, .ref m5, .ref mP, .ref mA, .int v3, .int v4, .int v5, .ref ml, .int v6, .ref mw, .ref mh, .long tm, .int (nI bfs.length), .int v8, .ref mb, .ref mr, .ref mf])), (mb, .inl ((kA 0), 1024, .inl f))]) [0, 1] (by decide) rfl).weaken (fun _ _ _ _ => trivial), hr0⟩ rfl hl.1 rfl (Nat.le_of_ble_eq_true rfl) ⟨Nat.le_of_ble_eq_true rfl, Nat.le_of_ble_eq_true rfl⟩ d_Model_take_16) hS hFc hFc (fun v H locs hpost hz1 hk1 hS => ?_)
      obtain ⟨rfl, f', hP1, hD1, hr1⟩ := hpost
      obtain ⟨hP, hD⟩ := va_join (wr := []) (w1 := [(y, .inr (6, [.ref mt, .int v1, .int v2, .ref m1, .ref m2, .ref m3, .ref m4, .ref m5, .ref mP, .ref mA, .int v3, .int v4, .int v5, .ref ml, .int v6, .ref mw, .ref mh, .long tm, .int (nI (bfs.drop k).length), .int v8, .ref mb, .ref mr, .ref mf])), (mb, .inl ((kA 0), 1024, .inl f'))]) hP hD [0, 1] [] rfl rfl (by decide) (by decide) hk1 hFc hP1 hD1
      refine W.eq (g2 := F0 m 19 ls []) rfl ?_
      have hP : va_P D classes [(y, .inr (6, [.ref mt, .int v1, .int v2, .ref m1, .ref m2, .ref m3, .ref m4, .ref m5, .ref mP, .ref mA, .int v3, .int v4, .int v5, .ref ml, .int v6, .ref mw, .ref mh, .long tm, .int (nI (bfs.drop k).length), .int v8, .ref mb, .ref mr, .ref mf])), (mb, .inl ((kA 0), 1024, .inl f'))] H := hP
      have hD : va_D A [(y, .inr (6, [.ref mt, .int v1, .int v2, .ref m1, .ref m2, .ref m3, .ref m4, .ref m5, .ref mP, .ref mA, .int v3, .int v4, .int v5, .ref ml, .int v6, .ref mw, .ref mh, .long tm, .int (nI (bfs.drop k).length), .int v8, .ref mb, .ref mr, .ref mf])), (mb, .inl ((kA 0), 1024, .inl f'))] := hD
      refine lv_iconst (v := 1) hx hb d_Model_take_19 (by decide) ?_
      exact zk_zret S hr (by decide) hlk hS (Or.inl ⟨k, ek, hk31, rfl, f', hP, hD, hr1⟩) (Nat.le_refl _) (Nat.le_refl _) d_Model_take_20
    · exact absurd c9 (by decide)
  · refine lv_if_ne (tgt := 14) hx hb d_Model_take_9 (by decide) (fun c9 => ?_) (fun c9 => ?_)
    · exact absurd rfl c9
    · refine lv_iconst (v := 0) hx hb d_Model_take_12 (by decide) ?_
      exact zk_zret S hr (by decide) hlk hS (Or.inr ⟨zIn_n (by omega) hi1, rfl, hP, hD⟩) (Nat.le_refl _) (Nat.le_refl _) d_Model_take_13
