/-! the reference's rows of bytes -/
def zRw (N : Nat) (f : Nat → Int32) (bs : List Nat) : Prop := bs.length ≤ N ∧ ∀ i, i < bs.length → bs.getD i 0 < 256 ∧ f i = sb_b (bs.getD i 0)
theorem zRw.pat {N : Nat} {f : Nat → Int32} {bs : List Nat} (h : zRw N f bs) : PatIn f 0 bs.length bs := fun i hi => by rw [Nat.zero_add]; exact h.2 i hi
theorem zRw_nil {N : Nat} {f : Nat → Int32} : zRw N f [] := ⟨Nat.zero_le _, fun i hi => absurd hi (Nat.not_lt_zero i)⟩
theorem zRw_snoc {N v : Nat} {f : Nat → Int32} {bs : List Nat} (h : zRw N f bs) (hr : bs.length < N) (hv : v < 256) : zRw N (upd f bs.length (sb_b v)) (bs ++ [v]) := by
  refine ⟨by rw [List.length_append]; simp; omega, fun i hi => ?_⟩
  rw [List.length_append] at hi
  simp only [List.length_cons, List.length_nil] at hi
  by_cases hc : i = bs.length
  · subst hc
    rw [pk_us, List.getD_eq_getElem?_getD, List.getElem?_append_right (Nat.le_refl _), Nat.sub_self]
    exact ⟨hv, rfl⟩
  · rw [pk_un hc, List.getD_eq_getElem?_getD, List.getElem?_append_left (by omega), ← List.getD_eq_getElem?_getD]
    exact h.2 i (by omega)
theorem zRw_take {N k : Nat} {f : Nat → Int32} {bs : List Nat} (h : zRw N f bs) : zRw N f (bs.take k) := by
  have hl : (bs.take k).length ≤ bs.length := by rw [List.length_take]; omega
  refine ⟨Nat.le_trans hl h.1, fun i hi => ?_⟩
  have e : (bs.take k).getD i 0 = bs.getD i 0 := by
    rw [List.length_take] at hi
    rw [List.getD_eq_getElem?_getD, List.getD_eq_getElem?_getD, List.getElem?_take, if_pos (by omega)]
  rw [e]
  exact h.2 i (by omega)
theorem zRw_drop {N k : Nat} {f g : Nat → Int32} {bs : List Nat} (h : zRw N f bs) (hg : ∀ i, i < bs.length - k → g i = f (k + i)) : zRw N g (bs.drop k) := by
  refine ⟨by rw [List.length_drop]; have := h.1; omega, fun i hi => ?_⟩
  rw [List.length_drop] at hi
  have e : (bs.drop k).getD i 0 = bs.getD (k + i) 0 := by
    rw [List.getD_eq_getElem?_getD, List.getD_eq_getElem?_getD, List.getElem?_drop]
  rw [e, hg i hi]
  exact h.2 (k + i) (by omega)
theorem zNar (v : Nat) : vp_nar .byte (sb_b v) = sb_b v := by
  rw [vp_nar_byte]
  unfold sb_b
  simp
theorem nI_len1 {bs : List Nat} {v : Nat} : nI bs.length + 1 = nI (bs ++ [v]).length := by rw [List.length_append]; exact nI_1 _
theorem zByte_8 (x : Int32) : zByte x = (x.toBitVec.setWidth 8).toNat := by rw [BitVec.toNat_setWidth]; rfl
theorem zSh24 (a : Int32) : zByte (a >>> ((24 : Int32) &&& 31)) = zByte ((a.toUInt32 >>> ((24 : Int32).toUInt32 &&& Int32.toUInt32 31)).toInt32) := by
  rw [zByte_8, zByte_8]
  congr 1
  show ((a.toBitVec.sshiftRight' (((24 : Int32) &&& 31).toBitVec.smod 32)).setWidth 8) = ((a.toBitVec >>> ((((24 : Int32).toUInt32 &&& Int32.toUInt32 31).toBitVec % 32))).setWidth 8)
  rw [show (((24 : Int32) &&& 31).toBitVec.smod 32) = 24#32 by decide, show (((24 : Int32).toUInt32 &&& Int32.toUInt32 31).toBitVec % 32) = 24#32 by decide]
  apply BitVec.eq_of_getLsbD_eq
  intro i hi
  rw [BitVec.getLsbD_setWidth, BitVec.getLsbD_setWidth, BitVec.sshiftRight', BitVec.getLsbD_sshiftRight, BitVec.ushiftRight_eq', BitVec.getLsbD_ushiftRight]
  simp
  rw [if_pos (by omega), decide_eq_false (show ¬ 32 ≤ i by omega)]
  simp
theorem zSh16 (a : Int32) : zByte (a >>> ((16 : Int32) &&& 31)) = zByte ((a.toUInt32 >>> ((16 : Int32).toUInt32 &&& Int32.toUInt32 31)).toInt32) := by
  rw [zByte_8, zByte_8]
  congr 1
  show ((a.toBitVec.sshiftRight' (((16 : Int32) &&& 31).toBitVec.smod 32)).setWidth 8) = ((a.toBitVec >>> ((((16 : Int32).toUInt32 &&& Int32.toUInt32 31).toBitVec % 32))).setWidth 8)
  rw [show (((16 : Int32) &&& 31).toBitVec.smod 32) = 16#32 by decide, show (((16 : Int32).toUInt32 &&& Int32.toUInt32 31).toBitVec % 32) = 16#32 by decide]
  apply BitVec.eq_of_getLsbD_eq
  intro i hi
  rw [BitVec.getLsbD_setWidth, BitVec.getLsbD_setWidth, BitVec.sshiftRight', BitVec.getLsbD_sshiftRight, BitVec.ushiftRight_eq', BitVec.getLsbD_ushiftRight]
  simp
  rw [if_pos (by omega), decide_eq_false (show ¬ 32 ≤ i by omega)]
  simp
theorem zSh8 (a : Int32) : zByte (a >>> ((8 : Int32) &&& 31)) = zByte ((a.toUInt32 >>> ((8 : Int32).toUInt32 &&& Int32.toUInt32 31)).toInt32) := by
  rw [zByte_8, zByte_8]
  congr 1
  show ((a.toBitVec.sshiftRight' (((8 : Int32) &&& 31).toBitVec.smod 32)).setWidth 8) = ((a.toBitVec >>> ((((8 : Int32).toUInt32 &&& Int32.toUInt32 31).toBitVec % 32))).setWidth 8)
  rw [show (((8 : Int32) &&& 31).toBitVec.smod 32) = 8#32 by decide, show (((8 : Int32).toUInt32 &&& Int32.toUInt32 31).toBitVec % 32) = 8#32 by decide]
  apply BitVec.eq_of_getLsbD_eq
  intro i hi
  rw [BitVec.getLsbD_setWidth, BitVec.getLsbD_setWidth, BitVec.sshiftRight', BitVec.getLsbD_sshiftRight, BitVec.ushiftRight_eq', BitVec.getLsbD_ushiftRight]
  simp
  rw [if_pos (by omega), decide_eq_false (show ¬ 32 ≤ i by omega)]
  simp
theorem zIn_y {x : Int32} {n : Nat} (hn : n < 2 ^ 31) (h1 : 0 ≤ x) (h2 : x ≤ nI n) : ∃ k, k ≤ n ∧ x = nI k := nI_of2 (nI_toInt hn) (Int32.not_lt.mpr h1) h2
theorem zIn_n {x : Int32} {n : Nat} (hn : n < 2 ^ 31) (h : ¬ (0 ≤ x ∧ x ≤ nI n)) : ∀ k, k ≤ n → x ≠ nI k := fun k hk e => h (by
  rw [e, ← nI_0]
  exact ⟨nI_le (Nat.zero_le _) (by omega), nI_le hk hn⟩)
theorem zIn_1 {x : Int32} {n : Nat} (hn : n < 2 ^ 30) (h1 : 0 ≤ x) (h2 : x ≤ nI n - 1) : ∃ k, k < n ∧ x = nI k := by
  obtain ⟨j, hj, e⟩ := nI_of (Int32.not_lt.mpr h1)
  refine ⟨j, ?_, e⟩
  have h3 := Int32.le_iff_toInt_le.mp h2
  rw [e, nI_toInt hj, show (1 : Int32) = nI 1 from rfl, pk_sub_toInt (by omega) (by omega)] at h3
  omega
theorem zIn_1n {bs : List Nat} {x : Int32} (hn : bs.length < 2 ^ 30) (h : ¬ (0 ≤ x ∧ x ≤ nI bs.length - 1)) : bAt bs x = -1 := by
  unfold bAt
  rw [if_neg]
  rintro ⟨h1, h2⟩
  refine h ⟨Int32.le_iff_toInt_le.mpr (by rw [show (0 : Int32).toInt = 0 by decide]; exact h1), Int32.le_iff_toInt_le.mpr ?_⟩
  rw [show (1 : Int32) = nI 1 from rfl, pk_sub_toInt (by omega) (by omega)]
  omega
set_option maxHeartbeats 4000000 in
set_option maxRecDepth 100000 in
/-- PeerLineModel.lay(v) -/
theorem c_Model_lay (l : Launch) (D : va_G) (kA : Nat → ClassId) (y mt m1 m2 m3 m4 m5 mP mA ml mw mh mb mr mf : Nat) (v2 v3 v4 v5 v6 v7 v8 : Int32) (tm : Int64) (f : Nat → Int32) (tps : List Nat) (a1 : Int32) (hl4 : tps.length + 4 ≤ 1024) (sz0 : Nat) : Met l y_Model_lay (Cond.code y_Model_lay b_Model_lay 3 none :: zTB) { frames := 0, cells := 0, slots := 0, locals := 0 } (zk_Pc D classes (zTY kA) [.ref y, .int a1] (fun H => H.size = sz0 ∧ va_P D classes [(y, .inr (6, [.ref mt, .int (nI tps.length), .int v2, .ref m1, .ref m2, .ref m3, .ref m4, .ref m5, .ref mP, .ref mA, .int v3, .int v4, .int v5, .ref ml, .int v6, .ref mw, .ref mh, .long tm, .int v7, .int v8, .ref mb, .ref mr, .ref mf])), (mt, .inl ((kA 0), 1024, .inl f))] H ∧ va_D (fun _ => True) [(y, .inr (6, [.ref mt, .int (nI tps.length), .int v2, .ref m1, .ref m2, .ref m3, .ref m4, .ref m5, .ref mP, .ref mA, .int v3, .int v4, .int v5, .ref ml, .int v6, .ref mw, .ref mh, .long tm, .int v7, .int v8, .ref mb, .ref mr, .ref mf])), (mt, .inl ((kA 0), 1024, .inl f))] ∧ zRw 1024 f tps)) (zk_mQ (fun v H => v = none ∧ ∃ f', va_P D classes [(y, .inr (6, [.ref mt, .int (nI (tps ++ zB4 a1).length), .int v2, .ref m1, .ref m2, .ref m3, .ref m4, .ref m5, .ref mP, .ref mA, .int v3, .int v4, .int v5, .ref ml, .int v6, .ref mw, .ref mh, .long tm, .int v7, .int v8, .ref mb, .ref mr, .ref mf])), (mt, .inl ((kA 0), 1024, .inl f'))] H ∧ va_D (va_A [(y, .inr (6, [.ref mt, .int (nI tps.length), .int v2, .ref m1, .ref m2, .ref m3, .ref m4, .ref m5, .ref mP, .ref mA, .int v3, .int v4, .int v5, .ref ml, .int v6, .ref mw, .ref mh, .long tm, .int v7, .int v8, .ref mb, .ref mr, .ref mf])), (mt, .inl ((kA 0), 1024, .inl f))] sz0) [(y, .inr (6, [.ref mt, .int (nI (tps ++ zB4 a1).length), .int v2, .ref m1, .ref m2, .ref m3, .ref m4, .ref m5, .ref mP, .ref mA, .int v3, .int v4, .int v5, .ref ml, .int v6, .ref mw, .ref mh, .long tm, .int v7, .int v8, .ref mb, .ref mr, .ref mf])), (mt, .inl ((kA 0), 1024, .inl f'))] ∧ zRw 1024 f' (tps ++ zB4 a1)) (va_A [(y, .inr (6, [.ref mt, .int (nI tps.length), .int v2, .ref m1, .ref m2, .ref m3, .ref m4, .ref m5, .ref mP, .ref mA, .int v3, .int v4, .int v5, .ref ml, .int v6, .ref mw, .ref mh, .long tm, .int v7, .int v8, .ref mb, .ref mr, .ref mf])), (mt, .inl ((kA 0), 1024, .inl f))] sz0)) 0 0 (va_A [(y, .inr (6, [.ref mt, .int (nI tps.length), .int v2, .ref m1, .ref m2, .ref m3, .ref m4, .ref m5, .ref mP, .ref mA, .int v3, .int v4, .int v5, .ref ml, .int v6, .ref mw, .ref mh, .long tm, .int v7, .int v8, .ref mb, .ref mr, .ref mf])), (mt, .inl ((kA 0), 1024, .inl f))] sz0) := by
  refine zk_of [.ref y, .int a1] (by decide) (Nat.le_of_ble_eq_true rfl) ?_
  intro p e s m below meth c S hr hlk hnm hK hX hpre ls hl
  obtain ⟨hx, hb, hml, hown, ht⟩ := id S
  have hl : lv_has ls 3 [(0, .ref y), (1, .int a1)] := hl
  obtain ⟨hsz, hP, hD0, hr0⟩ := hpre
  subst hsz
  have hD := hD0.self (sz := s.heap.size)
  generalize hAe : va_A [(y, .inr (6, [.ref mt, .int (nI tps.length), .int v2, .ref m1, .ref m2, .ref m3, .ref m4, .ref m5, .ref mP, .ref mA, .int v3, .int v4, .int v5, .ref ml, .int v6, .ref mw, .ref mh, .long tm, .int v7, .int v8, .ref mb, .ref mr, .ref mf])), (mt, .inl ((kA 0), 1024, .inl f))] s.heap.size = A at hD ⊢
  have hA : ∀ q : Nat, s.heap.size ≤ q → A q := fun q h => by rw [← hAe]; exact Or.inr h
  have hS : va_S A s.heap s.heap [] := va_S.rf
  have hP : va_P D classes [(y, .inr (6, [.ref mt, .int (nI tps.length), .int v2, .ref m1, .ref m2, .ref m3, .ref m4, .ref m5, .ref mP, .ref mA, .int v3, .int v4, .int v5, .ref ml, .int v6, .ref mw, .ref mh, .long tm, .int v7, .int v8, .ref mb, .ref mr, .ref mf])), (mt, .inl ((kA 0), 1024, .inl f))] s.heap := hP
  refine lv_bipush (v := 24) hx hb d_Model_lay_0 (by decide) ?_
  refine lv_istore_n (lv' := [(2, .int 24), (0, .ref y), (1, .int a1)]) hx hb d_Model_lay_2 rfl hl (by decide) rfl (fun ls hl => ?_)
  refine lv_iload_n hx hb d_Model_lay_3 rfl (lv_at hl 0 rfl) ?_
  refine lv_if_lt (tgt := 36) hx hb d_Model_lay_4 (by decide) (fun c4 => ?_) (fun c4 => ?_)
  · exact absurd c4 (by decide)
  · have hll0 : tps.length = tps.length + 0 := rfl
    refine lv_aload_n hx hb d_Model_lay_7 rfl (lv_at hl 1 rfl) ?_
    refine zk_get (C := R_Model) (T := F_Model) (N := 23) S hK (hP 0 _ rfl) rfl i_Model 0 (by decide) m_Model_7 rfl rfl d_Model_lay_8 ?_
    refine lv_aload_n hx hb d_Model_lay_11 rfl (lv_at hl 1 rfl) ?_
    refine zk_get (C := R_Model) (T := F_Model) (N := 23) S hK (hP 0 _ rfl) rfl i_Model 1 (by decide) m_Model_56 rfl rfl d_Model_lay_12 ?_
    refine lv_iload_n hx hb d_Model_lay_15 rfl (lv_at hl 2 rfl) ?_
    refine lv_iload_n hx hb d_Model_lay_16 rfl (lv_at hl 0 rfl) ?_
    refine lv_ishr hx hb d_Model_lay_17 ?_
    refine lv_i2b hx hb d_Model_lay_18 rfl ?_
    refine zk_ti (z := sb_b (zByte ((a1.toUInt32 >>> ((24 : Int32).toUInt32 &&& Int32.toUInt32 31)).toInt32))) (by rw [← zSh24]; exact zByte_b _) ?_
    refine va_bast hx hb hK hP hD hS 1 0 rfl rfl (vp_in_nI (by omega) (by omega)) d_Model_lay_19 (fun H locs hP hD hS => ?_)
    rw [nI_clamp (by omega), zNar] at hP hD
    have hr1 := zRw_snoc hr0 (by omega) (zByte_lt ((a1.toUInt32 >>> ((24 : Int32).toUInt32 &&& Int32.toUInt32 31)).toInt32))
    obtain ⟨f1, hf1⟩ : ∃ z, z = upd f tps.length (sb_b (zByte ((a1.toUInt32 >>> ((24 : Int32).toUInt32 &&& Int32.toUInt32 31)).toInt32))) := ⟨_, rfl⟩
    rw [← hf1] at hP hD hr1
    have hP : va_P D classes [(y, .inr (6, [.ref mt, .int (nI tps.length), .int v2, .ref m1, .ref m2, .ref m3, .ref m4, .ref m5, .ref mP, .ref mA, .int v3, .int v4, .int v5, .ref ml, .int v6, .ref mw, .ref mh, .long tm, .int v7, .int v8, .ref mb, .ref mr, .ref mf])), (mt, .inl ((kA 0), 1024, .inl f1))] H := hP
    have hD : va_D A [(y, .inr (6, [.ref mt, .int (nI tps.length), .int v2, .ref m1, .ref m2, .ref m3, .ref m4, .ref m5, .ref mP, .ref mA, .int v3, .int v4, .int v5, .ref ml, .int v6, .ref mw, .ref mh, .long tm, .int v7, .int v8, .ref mb, .ref mr, .ref mf])), (mt, .inl ((kA 0), 1024, .inl f1))] := hD
    refine lv_aload_n hx hb d_Model_lay_20 rfl (lv_at hl 1 rfl) ?_
    refine lv_dup hx hb d_Model_lay_21 rfl ?_
    refine zk_get (C := R_Model) (T := F_Model) (N := 23) S hK (hP 0 _ rfl) rfl i_Model 1 (by decide) m_Model_56 rfl rfl d_Model_lay_22 ?_
    refine lv_iconst (v := 1) hx hb d_Model_lay_25 (by decide) ?_
    refine lv_iadd hx hb d_Model_lay_26 ?_
    refine zk_ti (z := nI (tps ++ [zByte ((a1.toUInt32 >>> ((24 : Int32).toUInt32 &&& Int32.toUInt32 31)).toInt32)]).length) (nI_len1) ?_
    refine va_put (D := D) (ci := 6) (v := .int (nI (tps ++ [zByte ((a1.toUInt32 >>> ((24 : Int32).toUInt32 &&& Int32.toUInt32 31)).toInt32)]).length)) (ty := .int) (C := R_Model) (T := F_Model) (N := 23) hx hb ht i_Model t_Model t_Model_ok n_Model hown hK hP hD hS 0 rfl rfl 1 (by decide) (ht _ m_Model_56) (fun _ h9 => h9) rfl (by decide +kernel) rfl rfl (Nat.le_of_ble_eq_true rfl) d_Model_lay_27 (fun H locs hP hD hS => ?_)
    have hP : va_P D classes [(y, .inr (6, [.ref mt, .int (nI (tps ++ [zByte ((a1.toUInt32 >>> ((24 : Int32).toUInt32 &&& Int32.toUInt32 31)).toInt32)]).length), .int v2, .ref m1, .ref m2, .ref m3, .ref m4, .ref m5, .ref mP, .ref mA, .int v3, .int v4, .int v5, .ref ml, .int v6, .ref mw, .ref mh, .long tm, .int v7, .int v8, .ref mb, .ref mr, .ref mf])), (mt, .inl ((kA 0), 1024, .inl f1))] H := hP
    have hD : va_D A [(y, .inr (6, [.ref mt, .int (nI (tps ++ [zByte ((a1.toUInt32 >>> ((24 : Int32).toUInt32 &&& Int32.toUInt32 31)).toInt32)]).length), .int v2, .ref m1, .ref m2, .ref m3, .ref m4, .ref m5, .ref mP, .ref mA, .int v3, .int v4, .int v5, .ref ml, .int v6, .ref mw, .ref mh, .long tm, .int v7, .int v8, .ref mb, .ref mr, .ref mf])), (mt, .inl ((kA 0), 1024, .inl f1))] := hD
    refine lv_iinc (v := 16) (lv' := [(2, .int 16), (0, .ref y), (1, .int a1)]) hx hb d_Model_lay_30 hl (k := 0) rfl (by decide) (by decide) rfl (fun ls hl => ?_)
    refine lv_goto (tgt := 3) hx hb d_Model_lay_33 (by decide) ?_
    refine lv_iload_n hx hb d_Model_lay_3 rfl (lv_at hl 0 rfl) ?_
    refine lv_if_lt (tgt := 36) hx hb d_Model_lay_4 (by decide) (fun c4 => ?_) (fun c4 => ?_)
    · exact absurd c4 (by decide)
    · have hll1 : (tps ++ [zByte ((a1.toUInt32 >>> ((24 : Int32).toUInt32 &&& Int32.toUInt32 31)).toInt32)]).length = tps.length + 1 := by simp
      refine lv_aload_n hx hb d_Model_lay_7 rfl (lv_at hl 1 rfl) ?_
      refine zk_get (C := R_Model) (T := F_Model) (N := 23) S hK (hP 0 _ rfl) rfl i_Model 0 (by decide) m_Model_7 rfl rfl d_Model_lay_8 ?_
      refine lv_aload_n hx hb d_Model_lay_11 rfl (lv_at hl 1 rfl) ?_
      refine zk_get (C := R_Model) (T := F_Model) (N := 23) S hK (hP 0 _ rfl) rfl i_Model 1 (by decide) m_Model_56 rfl rfl d_Model_lay_12 ?_
      refine lv_iload_n hx hb d_Model_lay_15 rfl (lv_at hl 2 rfl) ?_
      refine lv_iload_n hx hb d_Model_lay_16 rfl (lv_at hl 0 rfl) ?_
      refine lv_ishr hx hb d_Model_lay_17 ?_
      refine lv_i2b hx hb d_Model_lay_18 rfl ?_
      refine zk_ti (z := sb_b (zByte ((a1.toUInt32 >>> ((16 : Int32).toUInt32 &&& Int32.toUInt32 31)).toInt32))) (by rw [← zSh16]; exact zByte_b _) ?_
      refine va_bast hx hb hK hP hD hS 1 0 rfl rfl (vp_in_nI (by omega) (by omega)) d_Model_lay_19 (fun H locs hP hD hS => ?_)
      rw [nI_clamp (by omega), zNar] at hP hD
      have hr2 := zRw_snoc hr1 (by omega) (zByte_lt ((a1.toUInt32 >>> ((16 : Int32).toUInt32 &&& Int32.toUInt32 31)).toInt32))
      obtain ⟨f2, hf2⟩ : ∃ z, z = upd f1 (tps ++ [zByte ((a1.toUInt32 >>> ((24 : Int32).toUInt32 &&& Int32.toUInt32 31)).toInt32)]).length (sb_b (zByte ((a1.toUInt32 >>> ((16 : Int32).toUInt32 &&& Int32.toUInt32 31)).toInt32))) := ⟨_, rfl⟩
      rw [← hf2] at hP hD hr2
      have hP : va_P D classes [(y, .inr (6, [.ref mt, .int (nI (tps ++ [zByte ((a1.toUInt32 >>> ((24 : Int32).toUInt32 &&& Int32.toUInt32 31)).toInt32)]).length), .int v2, .ref m1, .ref m2, .ref m3, .ref m4, .ref m5, .ref mP, .ref mA, .int v3, .int v4, .int v5, .ref ml, .int v6, .ref mw, .ref mh, .long tm, .int v7, .int v8, .ref mb, .ref mr, .ref mf])), (mt, .inl ((kA 0), 1024, .inl f2))] H := hP
      have hD : va_D A [(y, .inr (6, [.ref mt, .int (nI (tps ++ [zByte ((a1.toUInt32 >>> ((24 : Int32).toUInt32 &&& Int32.toUInt32 31)).toInt32)]).length), .int v2, .ref m1, .ref m2, .ref m3, .ref m4, .ref m5, .ref mP, .ref mA, .int v3, .int v4, .int v5, .ref ml, .int v6, .ref mw, .ref mh, .long tm, .int v7, .int v8, .ref mb, .ref mr, .ref mf])), (mt, .inl ((kA 0), 1024, .inl f2))] := hD
      refine lv_aload_n hx hb d_Model_lay_20 rfl (lv_at hl 1 rfl) ?_
      refine lv_dup hx hb d_Model_lay_21 rfl ?_
      refine zk_get (C := R_Model) (T := F_Model) (N := 23) S hK (hP 0 _ rfl) rfl i_Model 1 (by decide) m_Model_56 rfl rfl d_Model_lay_22 ?_
      refine lv_iconst (v := 1) hx hb d_Model_lay_25 (by decide) ?_
      refine lv_iadd hx hb d_Model_lay_26 ?_
      refine zk_ti (z := nI ((tps ++ [zByte ((a1.toUInt32 >>> ((24 : Int32).toUInt32 &&& Int32.toUInt32 31)).toInt32)]) ++ [zByte ((a1.toUInt32 >>> ((16 : Int32).toUInt32 &&& Int32.toUInt32 31)).toInt32)]).length) (nI_len1) ?_
      refine va_put (D := D) (ci := 6) (v := .int (nI ((tps ++ [zByte ((a1.toUInt32 >>> ((24 : Int32).toUInt32 &&& Int32.toUInt32 31)).toInt32)]) ++ [zByte ((a1.toUInt32 >>> ((16 : Int32).toUInt32 &&& Int32.toUInt32 31)).toInt32)]).length)) (ty := .int) (C := R_Model) (T := F_Model) (N := 23) hx hb ht i_Model t_Model t_Model_ok n_Model hown hK hP hD hS 0 rfl rfl 1 (by decide) (ht _ m_Model_56) (fun _ h9 => h9) rfl (by decide +kernel) rfl rfl (Nat.le_of_ble_eq_true rfl) d_Model_lay_27 (fun H locs hP hD hS => ?_)
      have hP : va_P D classes [(y, .inr (6, [.ref mt, .int (nI ((tps ++ [zByte ((a1.toUInt32 >>> ((24 : Int32).toUInt32 &&& Int32.toUInt32 31)).toInt32)]) ++ [zByte ((a1.toUInt32 >>> ((16 : Int32).toUInt32 &&& Int32.toUInt32 31)).toInt32)]).length), .int v2, .ref m1, .ref m2, .ref m3, .ref m4, .ref m5, .ref mP, .ref mA, .int v3, .int v4, .int v5, .ref ml, .int v6, .ref mw, .ref mh, .long tm, .int v7, .int v8, .ref mb, .ref mr, .ref mf])), (mt, .inl ((kA 0), 1024, .inl f2))] H := hP
      have hD : va_D A [(y, .inr (6, [.ref mt, .int (nI ((tps ++ [zByte ((a1.toUInt32 >>> ((24 : Int32).toUInt32 &&& Int32.toUInt32 31)).toInt32)]) ++ [zByte ((a1.toUInt32 >>> ((16 : Int32).toUInt32 &&& Int32.toUInt32 31)).toInt32)]).length), .int v2, .ref m1, .ref m2, .ref m3, .ref m4, .ref m5, .ref mP, .ref mA, .int v3, .int v4, .int v5, .ref ml, .int v6, .ref mw, .ref mh, .long tm, .int v7, .int v8, .ref mb, .ref mr, .ref mf])), (mt, .inl ((kA 0), 1024, .inl f2))] := hD
      refine lv_iinc (v := 8) (lv' := [(2, .int 8), (0, .ref y), (1, .int a1)]) hx hb d_Model_lay_30 hl (k := 0) rfl (by decide) (by decide) rfl (fun ls hl => ?_)
      refine lv_goto (tgt := 3) hx hb d_Model_lay_33 (by decide) ?_
      refine lv_iload_n hx hb d_Model_lay_3 rfl (lv_at hl 0 rfl) ?_
      refine lv_if_lt (tgt := 36) hx hb d_Model_lay_4 (by decide) (fun c4 => ?_) (fun c4 => ?_)
      · exact absurd c4 (by decide)
      · have hll2 : ((tps ++ [zByte ((a1.toUInt32 >>> ((24 : Int32).toUInt32 &&& Int32.toUInt32 31)).toInt32)]) ++ [zByte ((a1.toUInt32 >>> ((16 : Int32).toUInt32 &&& Int32.toUInt32 31)).toInt32)]).length = tps.length + 2 := by simp
        refine lv_aload_n hx hb d_Model_lay_7 rfl (lv_at hl 1 rfl) ?_
        refine zk_get (C := R_Model) (T := F_Model) (N := 23) S hK (hP 0 _ rfl) rfl i_Model 0 (by decide) m_Model_7 rfl rfl d_Model_lay_8 ?_
        refine lv_aload_n hx hb d_Model_lay_11 rfl (lv_at hl 1 rfl) ?_
        refine zk_get (C := R_Model) (T := F_Model) (N := 23) S hK (hP 0 _ rfl) rfl i_Model 1 (by decide) m_Model_56 rfl rfl d_Model_lay_12 ?_
        refine lv_iload_n hx hb d_Model_lay_15 rfl (lv_at hl 2 rfl) ?_
        refine lv_iload_n hx hb d_Model_lay_16 rfl (lv_at hl 0 rfl) ?_
        refine lv_ishr hx hb d_Model_lay_17 ?_
        refine lv_i2b hx hb d_Model_lay_18 rfl ?_
        refine zk_ti (z := sb_b (zByte ((a1.toUInt32 >>> ((8 : Int32).toUInt32 &&& Int32.toUInt32 31)).toInt32))) (by rw [← zSh8]; exact zByte_b _) ?_
        refine va_bast hx hb hK hP hD hS 1 0 rfl rfl (vp_in_nI (by omega) (by omega)) d_Model_lay_19 (fun H locs hP hD hS => ?_)
        rw [nI_clamp (by omega), zNar] at hP hD
        have hr3 := zRw_snoc hr2 (by omega) (zByte_lt ((a1.toUInt32 >>> ((8 : Int32).toUInt32 &&& Int32.toUInt32 31)).toInt32))
        obtain ⟨f3, hf3⟩ : ∃ z, z = upd f2 ((tps ++ [zByte ((a1.toUInt32 >>> ((24 : Int32).toUInt32 &&& Int32.toUInt32 31)).toInt32)]) ++ [zByte ((a1.toUInt32 >>> ((16 : Int32).toUInt32 &&& Int32.toUInt32 31)).toInt32)]).length (sb_b (zByte ((a1.toUInt32 >>> ((8 : Int32).toUInt32 &&& Int32.toUInt32 31)).toInt32))) := ⟨_, rfl⟩
        rw [← hf3] at hP hD hr3
        have hP : va_P D classes [(y, .inr (6, [.ref mt, .int (nI ((tps ++ [zByte ((a1.toUInt32 >>> ((24 : Int32).toUInt32 &&& Int32.toUInt32 31)).toInt32)]) ++ [zByte ((a1.toUInt32 >>> ((16 : Int32).toUInt32 &&& Int32.toUInt32 31)).toInt32)]).length), .int v2, .ref m1, .ref m2, .ref m3, .ref m4, .ref m5, .ref mP, .ref mA, .int v3, .int v4, .int v5, .ref ml, .int v6, .ref mw, .ref mh, .long tm, .int v7, .int v8, .ref mb, .ref mr, .ref mf])), (mt, .inl ((kA 0), 1024, .inl f3))] H := hP
        have hD : va_D A [(y, .inr (6, [.ref mt, .int (nI ((tps ++ [zByte ((a1.toUInt32 >>> ((24 : Int32).toUInt32 &&& Int32.toUInt32 31)).toInt32)]) ++ [zByte ((a1.toUInt32 >>> ((16 : Int32).toUInt32 &&& Int32.toUInt32 31)).toInt32)]).length), .int v2, .ref m1, .ref m2, .ref m3, .ref m4, .ref m5, .ref mP, .ref mA, .int v3, .int v4, .int v5, .ref ml, .int v6, .ref mw, .ref mh, .long tm, .int v7, .int v8, .ref mb, .ref mr, .ref mf])), (mt, .inl ((kA 0), 1024, .inl f3))] := hD
        refine lv_aload_n hx hb d_Model_lay_20 rfl (lv_at hl 1 rfl) ?_
        refine lv_dup hx hb d_Model_lay_21 rfl ?_
        refine zk_get (C := R_Model) (T := F_Model) (N := 23) S hK (hP 0 _ rfl) rfl i_Model 1 (by decide) m_Model_56 rfl rfl d_Model_lay_22 ?_
        refine lv_iconst (v := 1) hx hb d_Model_lay_25 (by decide) ?_
        refine lv_iadd hx hb d_Model_lay_26 ?_
        refine zk_ti (z := nI (((tps ++ [zByte ((a1.toUInt32 >>> ((24 : Int32).toUInt32 &&& Int32.toUInt32 31)).toInt32)]) ++ [zByte ((a1.toUInt32 >>> ((16 : Int32).toUInt32 &&& Int32.toUInt32 31)).toInt32)]) ++ [zByte ((a1.toUInt32 >>> ((8 : Int32).toUInt32 &&& Int32.toUInt32 31)).toInt32)]).length) (nI_len1) ?_
        refine va_put (D := D) (ci := 6) (v := .int (nI (((tps ++ [zByte ((a1.toUInt32 >>> ((24 : Int32).toUInt32 &&& Int32.toUInt32 31)).toInt32)]) ++ [zByte ((a1.toUInt32 >>> ((16 : Int32).toUInt32 &&& Int32.toUInt32 31)).toInt32)]) ++ [zByte ((a1.toUInt32 >>> ((8 : Int32).toUInt32 &&& Int32.toUInt32 31)).toInt32)]).length)) (ty := .int) (C := R_Model) (T := F_Model) (N := 23) hx hb ht i_Model t_Model t_Model_ok n_Model hown hK hP hD hS 0 rfl rfl 1 (by decide) (ht _ m_Model_56) (fun _ h9 => h9) rfl (by decide +kernel) rfl rfl (Nat.le_of_ble_eq_true rfl) d_Model_lay_27 (fun H locs hP hD hS => ?_)
        have hP : va_P D classes [(y, .inr (6, [.ref mt, .int (nI (((tps ++ [zByte ((a1.toUInt32 >>> ((24 : Int32).toUInt32 &&& Int32.toUInt32 31)).toInt32)]) ++ [zByte ((a1.toUInt32 >>> ((16 : Int32).toUInt32 &&& Int32.toUInt32 31)).toInt32)]) ++ [zByte ((a1.toUInt32 >>> ((8 : Int32).toUInt32 &&& Int32.toUInt32 31)).toInt32)]).length), .int v2, .ref m1, .ref m2, .ref m3, .ref m4, .ref m5, .ref mP, .ref mA, .int v3, .int v4, .int v5, .ref ml, .int v6, .ref mw, .ref mh, .long tm, .int v7, .int v8, .ref mb, .ref mr, .ref mf])), (mt, .inl ((kA 0), 1024, .inl f3))] H := hP
        have hD : va_D A [(y, .inr (6, [.ref mt, .int (nI (((tps ++ [zByte ((a1.toUInt32 >>> ((24 : Int32).toUInt32 &&& Int32.toUInt32 31)).toInt32)]) ++ [zByte ((a1.toUInt32 >>> ((16 : Int32).toUInt32 &&& Int32.toUInt32 31)).toInt32)]) ++ [zByte ((a1.toUInt32 >>> ((8 : Int32).toUInt32 &&& Int32.toUInt32 31)).toInt32)]).length), .int v2, .ref m1, .ref m2, .ref m3, .ref m4, .ref m5, .ref mP, .ref mA, .int v3, .int v4, .int v5, .ref ml, .int v6, .ref mw, .ref mh, .long tm, .int v7, .int v8, .ref mb, .ref mr, .ref mf])), (mt, .inl ((kA 0), 1024, .inl f3))] := hD
        refine lv_iinc (v := 0) (lv' := [(2, .int 0), (0, .ref y), (1, .int a1)]) hx hb d_Model_lay_30 hl (k := 0) rfl (by decide) (by decide) rfl (fun ls hl => ?_)
        refine lv_goto (tgt := 3) hx hb d_Model_lay_33 (by decide) ?_
        refine lv_iload_n hx hb d_Model_lay_3 rfl (lv_at hl 0 rfl) ?_
        refine lv_if_lt (tgt := 36) hx hb d_Model_lay_4 (by decide) (fun c4 => ?_) (fun c4 => ?_)
        · exact absurd c4 (by decide)
        · have hll3 : (((tps ++ [zByte ((a1.toUInt32 >>> ((24 : Int32).toUInt32 &&& Int32.toUInt32 31)).toInt32)]) ++ [zByte ((a1.toUInt32 >>> ((16 : Int32).toUInt32 &&& Int32.toUInt32 31)).toInt32)]) ++ [zByte ((a1.toUInt32 >>> ((8 : Int32).toUInt32 &&& Int32.toUInt32 31)).toInt32)]).length = tps.length + 3 := by simp
          refine lv_aload_n hx hb d_Model_lay_7 rfl (lv_at hl 1 rfl) ?_
          refine zk_get (C := R_Model) (T := F_Model) (N := 23) S hK (hP 0 _ rfl) rfl i_Model 0 (by decide) m_Model_7 rfl rfl d_Model_lay_8 ?_
          refine lv_aload_n hx hb d_Model_lay_11 rfl (lv_at hl 1 rfl) ?_
          refine zk_get (C := R_Model) (T := F_Model) (N := 23) S hK (hP 0 _ rfl) rfl i_Model 1 (by decide) m_Model_56 rfl rfl d_Model_lay_12 ?_
          refine lv_iload_n hx hb d_Model_lay_15 rfl (lv_at hl 2 rfl) ?_
          refine lv_iload_n hx hb d_Model_lay_16 rfl (lv_at hl 0 rfl) ?_
          refine lv_ishr hx hb d_Model_lay_17 ?_
          refine lv_i2b hx hb d_Model_lay_18 rfl ?_
          refine zk_ti (z := sb_b (zByte a1)) (by rw [sb_shr0]; exact zByte_b _) ?_
          refine va_bast hx hb hK hP hD hS 1 0 rfl rfl (vp_in_nI (by omega) (by omega)) d_Model_lay_19 (fun H locs hP hD hS => ?_)
          rw [nI_clamp (by omega), zNar] at hP hD
          have hr4 := zRw_snoc hr3 (by omega) (zByte_lt a1)
          obtain ⟨f4, hf4⟩ : ∃ z, z = upd f3 (((tps ++ [zByte ((a1.toUInt32 >>> ((24 : Int32).toUInt32 &&& Int32.toUInt32 31)).toInt32)]) ++ [zByte ((a1.toUInt32 >>> ((16 : Int32).toUInt32 &&& Int32.toUInt32 31)).toInt32)]) ++ [zByte ((a1.toUInt32 >>> ((8 : Int32).toUInt32 &&& Int32.toUInt32 31)).toInt32)]).length (sb_b (zByte a1)) := ⟨_, rfl⟩
          rw [← hf4] at hP hD hr4
          have hP : va_P D classes [(y, .inr (6, [.ref mt, .int (nI (((tps ++ [zByte ((a1.toUInt32 >>> ((24 : Int32).toUInt32 &&& Int32.toUInt32 31)).toInt32)]) ++ [zByte ((a1.toUInt32 >>> ((16 : Int32).toUInt32 &&& Int32.toUInt32 31)).toInt32)]) ++ [zByte ((a1.toUInt32 >>> ((8 : Int32).toUInt32 &&& Int32.toUInt32 31)).toInt32)]).length), .int v2, .ref m1, .ref m2, .ref m3, .ref m4, .ref m5, .ref mP, .ref mA, .int v3, .int v4, .int v5, .ref ml, .int v6, .ref mw, .ref mh, .long tm, .int v7, .int v8, .ref mb, .ref mr, .ref mf])), (mt, .inl ((kA 0), 1024, .inl f4))] H := hP
          have hD : va_D A [(y, .inr (6, [.ref mt, .int (nI (((tps ++ [zByte ((a1.toUInt32 >>> ((24 : Int32).toUInt32 &&& Int32.toUInt32 31)).toInt32)]) ++ [zByte ((a1.toUInt32 >>> ((16 : Int32).toUInt32 &&& Int32.toUInt32 31)).toInt32)]) ++ [zByte ((a1.toUInt32 >>> ((8 : Int32).toUInt32 &&& Int32.toUInt32 31)).toInt32)]).length), .int v2, .ref m1, .ref m2, .ref m3, .ref m4, .ref m5, .ref mP, .ref mA, .int v3, .int v4, .int v5, .ref ml, .int v6, .ref mw, .ref mh, .long tm, .int v7, .int v8, .ref mb, .ref mr, .ref mf])), (mt, .inl ((kA 0), 1024, .inl f4))] := hD
          refine lv_aload_n hx hb d_Model_lay_20 rfl (lv_at hl 1 rfl) ?_
          refine lv_dup hx hb d_Model_lay_21 rfl ?_
          refine zk_get (C := R_Model) (T := F_Model) (N := 23) S hK (hP 0 _ rfl) rfl i_Model 1 (by decide) m_Model_56 rfl rfl d_Model_lay_22 ?_
          refine lv_iconst (v := 1) hx hb d_Model_lay_25 (by decide) ?_
          refine lv_iadd hx hb d_Model_lay_26 ?_
          refine zk_ti (z := nI ((((tps ++ [zByte ((a1.toUInt32 >>> ((24 : Int32).toUInt32 &&& Int32.toUInt32 31)).toInt32)]) ++ [zByte ((a1.toUInt32 >>> ((16 : Int32).toUInt32 &&& Int32.toUInt32 31)).toInt32)]) ++ [zByte ((a1.toUInt32 >>> ((8 : Int32).toUInt32 &&& Int32.toUInt32 31)).toInt32)]) ++ [zByte a1]).length) (nI_len1) ?_
          refine va_put (D := D) (ci := 6) (v := .int (nI ((((tps ++ [zByte ((a1.toUInt32 >>> ((24 : Int32).toUInt32 &&& Int32.toUInt32 31)).toInt32)]) ++ [zByte ((a1.toUInt32 >>> ((16 : Int32).toUInt32 &&& Int32.toUInt32 31)).toInt32)]) ++ [zByte ((a1.toUInt32 >>> ((8 : Int32).toUInt32 &&& Int32.toUInt32 31)).toInt32)]) ++ [zByte a1]).length)) (ty := .int) (C := R_Model) (T := F_Model) (N := 23) hx hb ht i_Model t_Model t_Model_ok n_Model hown hK hP hD hS 0 rfl rfl 1 (by decide) (ht _ m_Model_56) (fun _ h9 => h9) rfl (by decide +kernel) rfl rfl (Nat.le_of_ble_eq_true rfl) d_Model_lay_27 (fun H locs hP hD hS => ?_)
          have hP : va_P D classes [(y, .inr (6, [.ref mt, .int (nI ((((tps ++ [zByte ((a1.toUInt32 >>> ((24 : Int32).toUInt32 &&& Int32.toUInt32 31)).toInt32)]) ++ [zByte ((a1.toUInt32 >>> ((16 : Int32).toUInt32 &&& Int32.toUInt32 31)).toInt32)]) ++ [zByte ((a1.toUInt32 >>> ((8 : Int32).toUInt32 &&& Int32.toUInt32 31)).toInt32)]) ++ [zByte a1]).length), .int v2, .ref m1, .ref m2, .ref m3, .ref m4, .ref m5, .ref mP, .ref mA, .int v3, .int v4, .int v5, .ref ml, .int v6, .ref mw, .ref mh, .long tm, .int v7, .int v8, .ref mb, .ref mr, .ref mf])), (mt, .inl ((kA 0), 1024, .inl f4))] H := hP
          have hD : va_D A [(y, .inr (6, [.ref mt, .int (nI ((((tps ++ [zByte ((a1.toUInt32 >>> ((24 : Int32).toUInt32 &&& Int32.toUInt32 31)).toInt32)]) ++ [zByte ((a1.toUInt32 >>> ((16 : Int32).toUInt32 &&& Int32.toUInt32 31)).toInt32)]) ++ [zByte ((a1.toUInt32 >>> ((8 : Int32).toUInt32 &&& Int32.toUInt32 31)).toInt32)]) ++ [zByte a1]).length), .int v2, .ref m1, .ref m2, .ref m3, .ref m4, .ref m5, .ref mP, .ref mA, .int v3, .int v4, .int v5, .ref ml, .int v6, .ref mw, .ref mh, .long tm, .int v7, .int v8, .ref mb, .ref mr, .ref mf])), (mt, .inl ((kA 0), 1024, .inl f4))] := hD
          refine lv_iinc (v := -8) (lv' := [(2, .int (-8)), (0, .ref y), (1, .int a1)]) hx hb d_Model_lay_30 hl (k := 0) rfl (by decide) (by decide) rfl (fun ls hl => ?_)
          refine lv_goto (tgt := 3) hx hb d_Model_lay_33 (by decide) ?_
          refine lv_iload_n hx hb d_Model_lay_3 rfl (lv_at hl 0 rfl) ?_
          refine lv_if_lt (tgt := 36) hx hb d_Model_lay_4 (by decide) (fun c4 => ?_) (fun c4 => ?_)
          · rw [zB4_app] at hP hD hr4
            exact zk_vret S hr hlk hS ⟨rfl, f4, hP, hD, hr4⟩ (Nat.le_refl _) (Nat.le_refl _) d_Model_lay_36
          · exact absurd (show (-8 : Int32) < 0 by decide) c4

set_option maxHeartbeats 4000000 in
set_option maxRecDepth 100000 in
/-- PeerLineModel.feed -/
theorem c_Model_feed (l : Launch) (D : va_G) (kA : Nat → ClassId) (y mt m1 m2 m3 m4 m5 mP mA ml mw mh mb mr mf : Nat) (v2 v3 v4 v5 v6 v7 v8 : Int32) (tm : Int64) (f : Nat → Int32) (tps : List Nat) (a1 a2 a3 a4 a5 : Int32) (sz0 : Nat) : Met l y_Model_feed (Cond.code y_Model_feed b_Model_feed 6 (some .boolean) :: zTB) { frames := 1, cells := 0, slots := 0, locals := 22 } (zk_Pc D classes (zTY kA) [.ref y, .int a1, .int a2, .int a3, .int a4, .int a5] (fun H => H.size = sz0 ∧ va_P D classes [(y, .inr (6, [.ref mt, .int (nI tps.length), .int v2, .ref m1, .ref m2, .ref m3, .ref m4, .ref m5, .ref mP, .ref mA, .int v3, .int v4, .int v5, .ref ml, .int v6, .ref mw, .ref mh, .long tm, .int v7, .int v8, .ref mb, .ref mr, .ref mf])), (mt, .inl ((kA 0), 1024, .inl f))] H ∧ va_D (fun _ => True) [(y, .inr (6, [.ref mt, .int (nI tps.length), .int v2, .ref m1, .ref m2, .ref m3, .ref m4, .ref m5, .ref mP, .ref mA, .int v3, .int v4, .int v5, .ref ml, .int v6, .ref mw, .ref mh, .long tm, .int v7, .int v8, .ref mb, .ref mr, .ref mf])), (mt, .inl ((kA 0), 1024, .inl f))] ∧ zRw 1024 f tps)) (zk_mQ (fun v H => (tps.length + 20 ≤ 1024 ∧ v = some (.int 1) ∧ ∃ f', va_P D classes [(y, .inr (6, [.ref mt, .int (nI (tps ++ (zB4 a1 ++ zB4 a2 ++ zB4 a3 ++ zB4 a4 ++ zB4 a5)).length), .int v2, .ref m1, .ref m2, .ref m3, .ref m4, .ref m5, .ref mP, .ref mA, .int v3, .int v4, .int v5, .ref ml, .int v6, .ref mw, .ref mh, .long tm, .int v7, .int v8, .ref mb, .ref mr, .ref mf])), (mt, .inl ((kA 0), 1024, .inl f'))] H ∧ va_D (va_A [(y, .inr (6, [.ref mt, .int (nI tps.length), .int v2, .ref m1, .ref m2, .ref m3, .ref m4, .ref m5, .ref mP, .ref mA, .int v3, .int v4, .int v5, .ref ml, .int v6, .ref mw, .ref mh, .long tm, .int v7, .int v8, .ref mb, .ref mr, .ref mf])), (mt, .inl ((kA 0), 1024, .inl f))] sz0) [(y, .inr (6, [.ref mt, .int (nI (tps ++ (zB4 a1 ++ zB4 a2 ++ zB4 a3 ++ zB4 a4 ++ zB4 a5)).length), .int v2, .ref m1, .ref m2, .ref m3, .ref m4, .ref m5, .ref mP, .ref mA, .int v3, .int v4, .int v5, .ref ml, .int v6, .ref mw, .ref mh, .long tm, .int v7, .int v8, .ref mb, .ref mr, .ref mf])), (mt, .inl ((kA 0), 1024, .inl f'))] ∧ zRw 1024 f' (tps ++ (zB4 a1 ++ zB4 a2 ++ zB4 a3 ++ zB4 a4 ++ zB4 a5))) ∨ (¬ tps.length + 20 ≤ 1024 ∧ v = some (.int 0) ∧ va_P D classes [(y, .inr (6, [.ref mt, .int (nI tps.length), .int v2, .ref m1, .ref m2, .ref m3, .ref m4, .ref m5, .ref mP, .ref mA, .int v3, .int v4, .int v5, .ref ml, .int v6, .ref mw, .ref mh, .long tm, .int v7, .int v8, .ref mb, .ref mr, .ref mf])), (mt, .inl ((kA 0), 1024, .inl f))] H ∧ va_D (va_A [(y, .inr (6, [.ref mt, .int (nI tps.length), .int v2, .ref m1, .ref m2, .ref m3, .ref m4, .ref m5, .ref mP, .ref mA, .int v3, .int v4, .int v5, .ref ml, .int v6, .ref mw, .ref mh, .long tm, .int v7, .int v8, .ref mb, .ref mr, .ref mf])), (mt, .inl ((kA 0), 1024, .inl f))] sz0) [(y, .inr (6, [.ref mt, .int (nI tps.length), .int v2, .ref m1, .ref m2, .ref m3, .ref m4, .ref m5, .ref mP, .ref mA, .int v3, .int v4, .int v5, .ref ml, .int v6, .ref mw, .ref mh, .long tm, .int v7, .int v8, .ref mb, .ref mr, .ref mf])), (mt, .inl ((kA 0), 1024, .inl f))])) (va_A [(y, .inr (6, [.ref mt, .int (nI tps.length), .int v2, .ref m1, .ref m2, .ref m3, .ref m4, .ref m5, .ref mP, .ref mA, .int v3, .int v4, .int v5, .ref ml, .int v6, .ref mw, .ref mh, .long tm, .int v7, .int v8, .ref mb, .ref mr, .ref mf])), (mt, .inl ((kA 0), 1024, .inl f))] sz0)) 0 0 (va_A [(y, .inr (6, [.ref mt, .int (nI tps.length), .int v2, .ref m1, .ref m2, .ref m3, .ref m4, .ref m5, .ref mP, .ref mA, .int v3, .int v4, .int v5, .ref ml, .int v6, .ref mw, .ref mh, .long tm, .int v7, .int v8, .ref mb, .ref mr, .ref mf])), (mt, .inl ((kA 0), 1024, .inl f))] sz0) := by
  refine zk_of [.ref y, .int a1, .int a2, .int a3, .int a4, .int a5] (by decide) (Nat.le_of_ble_eq_true rfl) ?_
  intro p e s m below meth c S hr hlk hnm hK hX hpre ls hl
  obtain ⟨hx, hb, hml, hown, ht⟩ := id S
  have hl : lv_has ls 6 [(0, .ref y), (1, .int a1), (2, .int a2), (3, .int a3), (4, .int a4), (5, .int a5)] := hl
  obtain ⟨hsz, hP, hD0, hr0⟩ := hpre
  subst hsz
  have hD := hD0.self (sz := s.heap.size)
  generalize hAe : va_A [(y, .inr (6, [.ref mt, .int (nI tps.length), .int v2, .ref m1, .ref m2, .ref m3, .ref m4, .ref m5, .ref mP, .ref mA, .int v3, .int v4, .int v5, .ref ml, .int v6, .ref mw, .ref mh, .long tm, .int v7, .int v8, .ref mb, .ref mr, .ref mf])), (mt, .inl ((kA 0), 1024, .inl f))] s.heap.size = A at hD ⊢
  have hA : ∀ q : Nat, s.heap.size ≤ q → A q := fun q h => by rw [← hAe]; exact Or.inr h
  have hS : va_S A s.heap s.heap [] := va_S.rf
  have hP : va_P D classes [(y, .inr (6, [.ref mt, .int (nI tps.length), .int v2, .ref m1, .ref m2, .ref m3, .ref m4, .ref m5, .ref mP, .ref mA, .int v3, .int v4, .int v5, .ref ml, .int v6, .ref mw, .ref mh, .long tm, .int v7, .int v8, .ref mb, .ref mr, .ref mf])), (mt, .inl ((kA 0), 1024, .inl f))] s.heap := hP
  have htl := hr0.1
  refine lv_aload_n hx hb d_Model_feed_0 rfl (lv_at hl 0 rfl) ?_
  refine zk_get (C := R_Model) (T := F_Model) (N := 23) S hK (hP 0 _ rfl) rfl i_Model 1 (by decide) m_Model_56 rfl rfl d_Model_feed_1 ?_
  refine lv_bipush (v := 20) hx hb d_Model_feed_4 (by decide) ?_
  refine zk_ti (z := nI 20) (rfl) ?_
  refine lv_iadd hx hb d_Model_feed_6 ?_
  refine zk_ti (z := nI (tps.length + 20)) (nI_add _ _) ?_
  refine lv_sipush (v := 1024) hx hb d_Model_feed_7 (by decide) ?_
  refine zk_ti (z := nI 1024) (rfl) ?_
  refine lv_icmp_le (tgt := 15) hx hb d_Model_feed_10 (by decide) (fun c10 => ?_) (fun c10 => ?_)
  · have hroom : tps.length + 20 ≤ 1024 := (nI_leI (by omega) (by omega)).mp c10
    refine lv_aload_n hx hb d_Model_feed_15 rfl (lv_at hl 0 rfl) ?_
    refine lv_iload_n hx hb d_Model_feed_16 rfl (lv_at hl 1 rfl) ?_
    have hFc := va_free (wc := [(y, .inr (6, [.ref mt, .int (nI tps.length), .int v2, .ref m1, .ref m2, .ref m3, .ref m4, .ref m5, .ref mP, .ref mA, .int v3, .int v4, .int v5, .ref ml, .int v6, .ref mw, .ref mh, .long tm, .int v7, .int v8, .ref mb, .ref mr, .ref mf])), (mt, .inl ((kA 0), 1024, .inl f))]) hD hS hA [0, 1] rfl
    refine zk_mut (zk_runV (As := [.int a1]) (rest := []) S m_Model_60 (c_Model_lay l D kA y mt m1 m2 m3 m4 m5 mP mA ml mw mh mb mr mf v2 v3 v4 v5 v6 v7 v8 tm f tps a1 (by omega) s.heap.size) rfl rfl ⟨Nat.le_of_ble_eq_true rfl, Nat.le_of_ble_eq_true rfl⟩ hK hX (zk_recv hK (hP 0 _ rfl) rfl) ⟨rfl, hP.sub (ws' := [(y, .inr (6, [.ref mt, .int (nI tps.length), .int v2, .ref m1, .ref m2, .ref m3, .ref m4, .ref m5, .ref mP, .ref mA, .int v3, .int v4, .int v5, .ref ml, .int v6, .ref mw, .ref mh, .long tm, .int v7, .int v8, .ref mb, .ref mr, .ref mf])), (mt, .inl ((kA 0), 1024, .inl f))]) [0, 1] rfl, (hD.sub (ws' := [(y, .inr (6, [.ref mt, .int (nI tps.length), .int v2, .ref m1, .ref m2, .ref m3, .ref m4, .ref m5, .ref mP, .ref mA, .int v3, .int v4, .int v5, .ref ml, .int v6, .ref mw, .ref mh, .long tm, .int v7, .int v8, .ref mb, .ref mr, .ref mf])), (mt, .inl ((kA 0), 1024, .inl f))]) [0, 1] (by decide) rfl).weaken (fun _ _ _ _ => trivial), hr0⟩ rfl hl.1 rfl (Nat.le_of_ble_eq_true rfl) ⟨Nat.le_of_ble_eq_true rfl, Nat.le_of_ble_eq_true rfl⟩ d_Model_feed_17) hS hFc hFc (fun v H locs hpost hz1 hk1 hS => ?_)
    obtain ⟨rfl, f1, hP1, hD1, hr1⟩ := hpost
    obtain ⟨hP, hD⟩ := va_join (wr := []) (w1 := [(y, .inr (6, [.ref mt, .int (nI (tps ++ zB4 a1).length), .int v2, .ref m1, .ref m2, .ref m3, .ref m4, .ref m5, .ref mP, .ref mA, .int v3, .int v4, .int v5, .ref ml, .int v6, .ref mw, .ref mh, .long tm, .int v7, .int v8, .ref mb, .ref mr, .ref mf])), (mt, .inl ((kA 0), 1024, .inl f1))]) hP hD [0, 1] [] rfl rfl (by decide) (by decide) hk1 hFc hP1 hD1
    refine W.eq (g2 := F0 m 20 ls []) rfl ?_
    have hP : va_P D classes [(y, .inr (6, [.ref mt, .int (nI (tps ++ zB4 a1).length), .int v2, .ref m1, .ref m2, .ref m3, .ref m4, .ref m5, .ref mP, .ref mA, .int v3, .int v4, .int v5, .ref ml, .int v6, .ref mw, .ref mh, .long tm, .int v7, .int v8, .ref mb, .ref mr, .ref mf])), (mt, .inl ((kA 0), 1024, .inl f1))] H := hP
    have hD : va_D A [(y, .inr (6, [.ref mt, .int (nI (tps ++ zB4 a1).length), .int v2, .ref m1, .ref m2, .ref m3, .ref m4, .ref m5, .ref mP, .ref mA, .int v3, .int v4, .int v5, .ref ml, .int v6, .ref mw, .ref mh, .long tm, .int v7, .int v8, .ref mb, .ref mr, .ref mf])), (mt, .inl ((kA 0), 1024, .inl f1))] := hD
    refine lv_aload_n hx hb d_Model_feed_20 rfl (lv_at hl 0 rfl) ?_
    refine lv_iload_n hx hb d_Model_feed_21 rfl (lv_at hl 2 rfl) ?_
    have hlen1 : (tps ++ zB4 a1).length = tps.length + 4 := by simp [zB4]
    have hFc := va_free (wc := [(y, .inr (6, [.ref mt, .int (nI (tps ++ zB4 a1).length), .int v2, .ref m1, .ref m2, .ref m3, .ref m4, .ref m5, .ref mP, .ref mA, .int v3, .int v4, .int v5, .ref ml, .int v6, .ref mw, .ref mh, .long tm, .int v7, .int v8, .ref mb, .ref mr, .ref mf])), (mt, .inl ((kA 0), 1024, .inl f1))]) hD hS hA [0, 1] rfl
    refine zk_mut (zk_runV (As := [.int a2]) (rest := []) S m_Model_60 (c_Model_lay l D kA y mt m1 m2 m3 m4 m5 mP mA ml mw mh mb mr mf v2 v3 v4 v5 v6 v7 v8 tm f1 (tps ++ zB4 a1) a2 (by omega) H.size) rfl rfl ⟨Nat.le_of_ble_eq_true rfl, Nat.le_of_ble_eq_true rfl⟩ hK hX (zk_recv hK (hP 0 _ rfl) rfl) ⟨rfl, hP.sub (ws' := [(y, .inr (6, [.ref mt, .int (nI (tps ++ zB4 a1).length), .int v2, .ref m1, .ref m2, .ref m3, .ref m4, .ref m5, .ref mP, .ref mA, .int v3, .int v4, .int v5, .ref ml, .int v6, .ref mw, .ref mh, .long tm, .int v7, .int v8, .ref mb, .ref mr, .ref mf])), (mt, .inl ((kA 0), 1024, .inl f1))]) [0, 1] rfl, (hD.sub (ws' := [(y, .inr (6, [.ref mt, .int (nI (tps ++ zB4 a1).length), .int v2, .ref m1, .ref m2, .ref m3, .ref m4, .ref m5, .ref mP, .ref mA, .int v3, .int v4, .int v5, .ref ml, .int v6, .ref mw, .ref mh, .long tm, .int v7, .int v8, .ref mb, .ref mr, .ref mf])), (mt, .inl ((kA 0), 1024, .inl f1))]) [0, 1] (by decide) rfl).weaken (fun _ _ _ _ => trivial), hr1⟩ rfl hl.1 rfl (Nat.le_of_ble_eq_true rfl) ⟨Nat.le_of_ble_eq_true rfl, Nat.le_of_ble_eq_true rfl⟩ d_Model_feed_22) hS hFc hFc (fun v H locs hpost hz1 hk1 hS => ?_)
    obtain ⟨rfl, f2, hP1, hD1, hr2⟩ := hpost
    obtain ⟨hP, hD⟩ := va_join (wr := []) (w1 := [(y, .inr (6, [.ref mt, .int (nI ((tps ++ zB4 a1) ++ zB4 a2).length), .int v2, .ref m1, .ref m2, .ref m3, .ref m4, .ref m5, .ref mP, .ref mA, .int v3, .int v4, .int v5, .ref ml, .int v6, .ref mw, .ref mh, .long tm, .int v7, .int v8, .ref mb, .ref mr, .ref mf])), (mt, .inl ((kA 0), 1024, .inl f2))]) hP hD [0, 1] [] rfl rfl (by decide) (by decide) hk1 hFc hP1 hD1
    refine W.eq (g2 := F0 m 25 ls []) rfl ?_
    have hP : va_P D classes [(y, .inr (6, [.ref mt, .int (nI ((tps ++ zB4 a1) ++ zB4 a2).length), .int v2, .ref m1, .ref m2, .ref m3, .ref m4, .ref m5, .ref mP, .ref mA, .int v3, .int v4, .int v5, .ref ml, .int v6, .ref mw, .ref mh, .long tm, .int v7, .int v8, .ref mb, .ref mr, .ref mf])), (mt, .inl ((kA 0), 1024, .inl f2))] H := hP
    have hD : va_D A [(y, .inr (6, [.ref mt, .int (nI ((tps ++ zB4 a1) ++ zB4 a2).length), .int v2, .ref m1, .ref m2, .ref m3, .ref m4, .ref m5, .ref mP, .ref mA, .int v3, .int v4, .int v5, .ref ml, .int v6, .ref mw, .ref mh, .long tm, .int v7, .int v8, .ref mb, .ref mr, .ref mf])), (mt, .inl ((kA 0), 1024, .inl f2))] := hD
    refine lv_aload_n hx hb d_Model_feed_25 rfl (lv_at hl 0 rfl) ?_
    refine lv_iload_n hx hb d_Model_feed_26 rfl (lv_at hl 3 rfl) ?_
    have hlen2 : ((tps ++ zB4 a1) ++ zB4 a2).length = tps.length + 8 := by simp [zB4]
    have hFc := va_free (wc := [(y, .inr (6, [.ref mt, .int (nI ((tps ++ zB4 a1) ++ zB4 a2).length), .int v2, .ref m1, .ref m2, .ref m3, .ref m4, .ref m5, .ref mP, .ref mA, .int v3, .int v4, .int v5, .ref ml, .int v6, .ref mw, .ref mh, .long tm, .int v7, .int v8, .ref mb, .ref mr, .ref mf])), (mt, .inl ((kA 0), 1024, .inl f2))]) hD hS hA [0, 1] rfl
    refine zk_mut (zk_runV (As := [.int a3]) (rest := []) S m_Model_60 (c_Model_lay l D kA y mt m1 m2 m3 m4 m5 mP mA ml mw mh mb mr mf v2 v3 v4 v5 v6 v7 v8 tm f2 ((tps ++ zB4 a1) ++ zB4 a2) a3 (by omega) H.size) rfl rfl ⟨Nat.le_of_ble_eq_true rfl, Nat.le_of_ble_eq_true rfl⟩ hK hX (zk_recv hK (hP 0 _ rfl) rfl) ⟨rfl, hP.sub (ws' := [(y, .inr (6, [.ref mt, .int (nI ((tps ++ zB4 a1) ++ zB4 a2).length), .int v2, .ref m1, .ref m2, .ref m3, .ref m4, .ref m5, .ref mP, .ref mA, .int v3, .int v4, .int v5, .ref ml, .int v6, .ref mw, .ref mh, .long tm, .int v7, .int v8, .ref mb, .ref mr, .ref mf])), (mt, .inl ((kA 0), 1024, .inl f2))]) [0, 1] rfl, (hD.sub (ws' := [(y, .inr (6, [.ref mt, .int (nI ((tps ++ zB4 a1) ++ zB4 a2).length), .int v2, .ref m1, .ref m2, .ref m3, .ref m4, .ref m5, .ref mP, .ref mA, .int v3, .int v4, .int v5, .ref ml, .int v6, .ref mw, .ref mh, .long tm, .int v7, .int v8, .ref mb, .ref mr, .ref mf])), (mt, .inl ((kA 0), 1024, .inl f2))]) [0, 1] (by decide) rfl).weaken (fun _ _ _ _ => trivial), hr2⟩ rfl hl.1 rfl (Nat.le_of_ble_eq_true rfl) ⟨Nat.le_of_ble_eq_true rfl, Nat.le_of_ble_eq_true rfl⟩ d_Model_feed_27) hS hFc hFc (fun v H locs hpost hz1 hk1 hS => ?_)
    obtain ⟨rfl, f3, hP1, hD1, hr3⟩ := hpost
    obtain ⟨hP, hD⟩ := va_join (wr := []) (w1 := [(y, .inr (6, [.ref mt, .int (nI (((tps ++ zB4 a1) ++ zB4 a2) ++ zB4 a3).length), .int v2, .ref m1, .ref m2, .ref m3, .ref m4, .ref m5, .ref mP, .ref mA, .int v3, .int v4, .int v5, .ref ml, .int v6, .ref mw, .ref mh, .long tm, .int v7, .int v8, .ref mb, .ref mr, .ref mf])), (mt, .inl ((kA 0), 1024, .inl f3))]) hP hD [0, 1] [] rfl rfl (by decide) (by decide) hk1 hFc hP1 hD1
    refine W.eq (g2 := F0 m 30 ls []) rfl ?_
    have hP : va_P D classes [(y, .inr (6, [.ref mt, .int (nI (((tps ++ zB4 a1) ++ zB4 a2) ++ zB4 a3).length), .int v2, .ref m1, .ref m2, .ref m3, .ref m4, .ref m5, .ref mP, .ref mA, .int v3, .int v4, .int v5, .ref ml, .int v6, .ref mw, .ref mh, .long tm, .int v7, .int v8, .ref mb, .ref mr, .ref mf])), (mt, .inl ((kA 0), 1024, .inl f3))] H := hP
    have hD : va_D A [(y, .inr (6, [.ref mt, .int (nI (((tps ++ zB4 a1) ++ zB4 a2) ++ zB4 a3).length), .int v2, .ref m1, .ref m2, .ref m3, .ref m4, .ref m5, .ref mP, .ref mA, .int v3, .int v4, .int v5, .ref ml, .int v6, .ref mw, .ref mh, .long tm, .int v7, .int v8, .ref mb, .ref mr, .ref mf])), (mt, .inl ((kA 0), 1024, .inl f3))] := hD
    refine lv_aload_n hx hb d_Model_feed_30 rfl (lv_at hl 0 rfl) ?_
    refine lv_iload hx hb d_Model_feed_31 (lv_at hl 4 rfl) ?_
    have hlen3 : (((tps ++ zB4 a1) ++ zB4 a2) ++ zB4 a3).length = tps.length + 12 := by simp [zB4]
    have hFc := va_free (wc := [(y, .inr (6, [.ref mt, .int (nI (((tps ++ zB4 a1) ++ zB4 a2) ++ zB4 a3).length), .int v2, .ref m1, .ref m2, .ref m3, .ref m4, .ref m5, .ref mP, .ref mA, .int v3, .int v4, .int v5, .ref ml, .int v6, .ref mw, .ref mh, .long tm, .int v7, .int v8, .ref mb, .ref mr, .ref mf])), (mt, .inl ((kA 0), 1024, .inl f3))]) hD hS hA [0, 1] rfl
    refine zk_mut (zk_runV (As := [.int a4]) (rest := []) S m_Model_60 (c_Model_lay l D kA y mt m1 m2 m3 m4 m5 mP mA ml mw mh mb mr mf v2 v3 v4 v5 v6 v7 v8 tm f3 (((tps ++ zB4 a1) ++ zB4 a2) ++ zB4 a3) a4 (by omega) H.size) rfl rfl ⟨Nat.le_of_ble_eq_true rfl, Nat.le_of_ble_eq_true rfl⟩ hK hX (zk_recv hK (hP 0 _ rfl) rfl) ⟨rfl, hP.sub (ws' := [(y, .inr (6, [.ref mt, .int (nI (((tps ++ zB4 a1) ++ zB4 a2) ++ zB4 a3).length), .int v2, .ref m1, .ref m2, .ref m3, .ref m4, .ref m5, .ref mP, .ref mA, .int v3, .int v4, .int v5, .ref ml, .int v6, .ref mw, .ref mh, .long tm, .int v7, .int v8, .ref mb, .ref mr, .ref mf])), (mt, .inl ((kA 0), 1024, .inl f3))]) [0, 1] rfl, (hD.sub (ws' := [(y, .inr (6, [.ref mt, .int (nI (((tps ++ zB4 a1) ++ zB4 a2) ++ zB4 a3).length), .int v2, .ref m1, .ref m2, .ref m3, .ref m4, .ref m5, .ref mP, .ref mA, .int v3, .int v4, .int v5, .ref ml, .int v6, .ref mw, .ref mh, .long tm, .int v7, .int v8, .ref mb, .ref mr, .ref mf])), (mt, .inl ((kA 0), 1024, .inl f3))]) [0, 1] (by decide) rfl).weaken (fun _ _ _ _ => trivial), hr3⟩ rfl hl.1 rfl (Nat.le_of_ble_eq_true rfl) ⟨Nat.le_of_ble_eq_true rfl, Nat.le_of_ble_eq_true rfl⟩ d_Model_feed_33) hS hFc hFc (fun v H locs hpost hz1 hk1 hS => ?_)
    obtain ⟨rfl, f4, hP1, hD1, hr4⟩ := hpost
    obtain ⟨hP, hD⟩ := va_join (wr := []) (w1 := [(y, .inr (6, [.ref mt, .int (nI ((((tps ++ zB4 a1) ++ zB4 a2) ++ zB4 a3) ++ zB4 a4).length), .int v2, .ref m1, .ref m2, .ref m3, .ref m4, .ref m5, .ref mP, .ref mA, .int v3, .int v4, .int v5, .ref ml, .int v6, .ref mw, .ref mh, .long tm, .int v7, .int v8, .ref mb, .ref mr, .ref mf])), (mt, .inl ((kA 0), 1024, .inl f4))]) hP hD [0, 1] [] rfl rfl (by decide) (by decide) hk1 hFc hP1 hD1
    refine W.eq (g2 := F0 m 36 ls []) rfl ?_
    have hP : va_P D classes [(y, .inr (6, [.ref mt, .int (nI ((((tps ++ zB4 a1) ++ zB4 a2) ++ zB4 a3) ++ zB4 a4).length), .int v2, .ref m1, .ref m2, .ref m3, .ref m4, .ref m5, .ref mP, .ref mA, .int v3, .int v4, .int v5, .ref ml, .int v6, .ref mw, .ref mh, .long tm, .int v7, .int v8, .ref mb, .ref mr, .ref mf])), (mt, .inl ((kA 0), 1024, .inl f4))] H := hP
    have hD : va_D A [(y, .inr (6, [.ref mt, .int (nI ((((tps ++ zB4 a1) ++ zB4 a2) ++ zB4 a3) ++ zB4 a4).length), .int v2, .ref m1, .ref m2, .ref m3, .ref m4, .ref m5, .ref mP, .ref mA, .int v3, .int v4, .int v5, .ref ml, .int v6, .ref mw, .ref mh, .long tm, .int v7, .int v8, .ref mb, .ref mr, .ref mf])), (mt, .inl ((kA 0), 1024, .inl f4))] := hD
    refine lv_aload_n hx hb d_Model_feed_36 rfl (lv_at hl 0 rfl) ?_
    refine lv_iload hx hb d_Model_feed_37 (lv_at hl 5 rfl) ?_
    have hlen4 : ((((tps ++ zB4 a1) ++ zB4 a2) ++ zB4 a3) ++ zB4 a4).length = tps.length + 16 := by simp [zB4]
    have hFc := va_free (wc := [(y, .inr (6, [.ref mt, .int (nI ((((tps ++ zB4 a1) ++ zB4 a2) ++ zB4 a3) ++ zB4 a4).length), .int v2, .ref m1, .ref m2, .ref m3, .ref m4, .ref m5, .ref mP, .ref mA, .int v3, .int v4, .int v5, .ref ml, .int v6, .ref mw, .ref mh, .long tm, .int v7, .int v8, .ref mb, .ref mr, .ref mf])), (mt, .inl ((kA 0), 1024, .inl f4))]) hD hS hA [0, 1] rfl
    refine zk_mut (zk_runV (As := [.int a5]) (rest := []) S m_Model_60 (c_Model_lay l D kA y mt m1 m2 m3 m4 m5 mP mA ml mw mh mb mr mf v2 v3 v4 v5 v6 v7 v8 tm f4 ((((tps ++ zB4 a1) ++ zB4 a2) ++ zB4 a3) ++ zB4 a4) a5 (by omega) H.size) rfl rfl ⟨Nat.le_of_ble_eq_true rfl, Nat.le_of_ble_eq_true rfl⟩ hK hX (zk_recv hK (hP 0 _ rfl) rfl) ⟨rfl, hP.sub (ws' := [(y, .inr (6, [.ref mt, .int (nI ((((tps ++ zB4 a1) ++ zB4 a2) ++ zB4 a3) ++ zB4 a4).length), .int v2, .ref m1, .ref m2, .ref m3, .ref m4, .ref m5, .ref mP, .ref mA, .int v3, .int v4, .int v5, .ref ml, .int v6, .ref mw, .ref mh, .long tm, .int v7, .int v8, .ref mb, .ref mr, .ref mf])), (mt, .inl ((kA 0), 1024, .inl f4))]) [0, 1] rfl, (hD.sub (ws' := [(y, .inr (6, [.ref mt, .int (nI ((((tps ++ zB4 a1) ++ zB4 a2) ++ zB4 a3) ++ zB4 a4).length), .int v2, .ref m1, .ref m2, .ref m3, .ref m4, .ref m5, .ref mP, .ref mA, .int v3, .int v4, .int v5, .ref ml, .int v6, .ref mw, .ref mh, .long tm, .int v7, .int v8, .ref mb, .ref mr, .ref mf])), (mt, .inl ((kA 0), 1024, .inl f4))]) [0, 1] (by decide) rfl).weaken (fun _ _ _ _ => trivial), hr4⟩ rfl hl.1 rfl (Nat.le_of_ble_eq_true rfl) ⟨Nat.le_of_ble_eq_true rfl, Nat.le_of_ble_eq_true rfl⟩ d_Model_feed_39) hS hFc hFc (fun v H locs hpost hz1 hk1 hS => ?_)
    obtain ⟨rfl, f5, hP1, hD1, hr5⟩ := hpost
    obtain ⟨hP, hD⟩ := va_join (wr := []) (w1 := [(y, .inr (6, [.ref mt, .int (nI (((((tps ++ zB4 a1) ++ zB4 a2) ++ zB4 a3) ++ zB4 a4) ++ zB4 a5).length), .int v2, .ref m1, .ref m2, .ref m3, .ref m4, .ref m5, .ref mP, .ref mA, .int v3, .int v4, .int v5, .ref ml, .int v6, .ref mw, .ref mh, .long tm, .int v7, .int v8, .ref mb, .ref mr, .ref mf])), (mt, .inl ((kA 0), 1024, .inl f5))]) hP hD [0, 1] [] rfl rfl (by decide) (by decide) hk1 hFc hP1 hD1
    refine W.eq (g2 := F0 m 42 ls []) rfl ?_
    have hP : va_P D classes [(y, .inr (6, [.ref mt, .int (nI (((((tps ++ zB4 a1) ++ zB4 a2) ++ zB4 a3) ++ zB4 a4) ++ zB4 a5).length), .int v2, .ref m1, .ref m2, .ref m3, .ref m4, .ref m5, .ref mP, .ref mA, .int v3, .int v4, .int v5, .ref ml, .int v6, .ref mw, .ref mh, .long tm, .int v7, .int v8, .ref mb, .ref mr, .ref mf])), (mt, .inl ((kA 0), 1024, .inl f5))] H := hP
    have hD : va_D A [(y, .inr (6, [.ref mt, .int (nI (((((tps ++ zB4 a1) ++ zB4 a2) ++ zB4 a3) ++ zB4 a4) ++ zB4 a5).length), .int v2, .ref m1, .ref m2, .ref m3, .ref m4, .ref m5, .ref mP, .ref mA, .int v3, .int v4, .int v5, .ref ml, .int v6, .ref mw, .ref mh, .long tm, .int v7, .int v8, .ref mb, .ref mr, .ref mf])), (mt, .inl ((kA 0), 1024, .inl f5))] := hD
    refine lv_iconst (v := 1) hx hb d_Model_feed_42 (by decide) ?_
    have hfin : (((((tps ++ zB4 a1) ++ zB4 a2) ++ zB4 a3) ++ zB4 a4) ++ zB4 a5) = (tps ++ (zB4 a1 ++ zB4 a2 ++ zB4 a3 ++ zB4 a4 ++ zB4 a5)) := by simp
    rw [hfin] at hP hD hr5
    exact zk_zret S hr (by decide) hlk hS (Or.inl ⟨hroom, rfl, f5, hP, hD, hr5⟩) (Nat.le_refl _) (Nat.le_refl _) d_Model_feed_43
  · refine lv_iconst (v := 0) hx hb d_Model_feed_13 (by decide) ?_
    exact zk_zret S hr (by decide) hlk hS (Or.inr ⟨fun z => c10 (nI_le z (by omega)), rfl, hP, hD⟩) (Nat.le_refl _) (Nat.le_refl _) d_Model_feed_14

set_option maxHeartbeats 4000000 in
set_option maxRecDepth 100000 in
/-- PeerLineModel.end(n) -/
theorem c_Model_end (l : Launch) (D : va_G) (kA : Nat → ClassId) (y mt m1 m2 m3 m4 m5 mP mA ml mw mh mb mr mf : Nat) (v2 v3 v4 v5 v6 v7 v8 : Int32) (tm : Int64) (sz : Nat) (hsz2 : sz ≤ 1024) (n1 : Int32) (sz0 : Nat) : Met l y_Model_end (Cond.code y_Model_end b_Model_end 2 (some .boolean) :: zTB) { frames := 1, cells := 0, slots := 0, locals := 22 } (zk_Pc D classes (zTY kA) [.ref y, .int n1] (fun H => H.size = sz0 ∧ va_P D classes [(y, .inr (6, [.ref mt, .int (nI sz), .int v2, .ref m1, .ref m2, .ref m3, .ref m4, .ref m5, .ref mP, .ref mA, .int v3, .int v4, .int v5, .ref ml, .int v6, .ref mw, .ref mh, .long tm, .int v7, .int v8, .ref mb, .ref mr, .ref mf]))] H ∧ va_D (fun _ => True) [(y, .inr (6, [.ref mt, .int (nI sz), .int v2, .ref m1, .ref m2, .ref m3, .ref m4, .ref m5, .ref mP, .ref mA, .int v3, .int v4, .int v5, .ref ml, .int v6, .ref mw, .ref mh, .long tm, .int v7, .int v8, .ref mb, .ref mr, .ref mf]))])) (zk_mQ (fun v H => (∃ k, n1 = nI k ∧ k ≤ sz ∧ v = some (.int 1) ∧ va_P D classes [(y, .inr (6, [.ref mt, .int (nI k), .int v2, .ref m1, .ref m2, .ref m3, .ref m4, .ref m5, .ref mP, .ref mA, .int v3, .int v4, .int v5, .ref ml, .int v6, .ref mw, .ref mh, .long tm, .int v7, .int v8, .ref mb, .ref mr, .ref mf]))] H ∧ va_D (va_A [(y, .inr (6, [.ref mt, .int (nI sz), .int v2, .ref m1, .ref m2, .ref m3, .ref m4, .ref m5, .ref mP, .ref mA, .int v3, .int v4, .int v5, .ref ml, .int v6, .ref mw, .ref mh, .long tm, .int v7, .int v8, .ref mb, .ref mr, .ref mf]))] sz0) [(y, .inr (6, [.ref mt, .int (nI k), .int v2, .ref m1, .ref m2, .ref m3, .ref m4, .ref m5, .ref mP, .ref mA, .int v3, .int v4, .int v5, .ref ml, .int v6, .ref mw, .ref mh, .long tm, .int v7, .int v8, .ref mb, .ref mr, .ref mf]))]) ∨ ((∀ k, k ≤ sz → n1 ≠ nI k) ∧ v = some (.int 0) ∧ va_P D classes [(y, .inr (6, [.ref mt, .int (nI sz), .int v2, .ref m1, .ref m2, .ref m3, .ref m4, .ref m5, .ref mP, .ref mA, .int v3, .int v4, .int v5, .ref ml, .int v6, .ref mw, .ref mh, .long tm, .int v7, .int v8, .ref mb, .ref mr, .ref mf]))] H ∧ va_D (va_A [(y, .inr (6, [.ref mt, .int (nI sz), .int v2, .ref m1, .ref m2, .ref m3, .ref m4, .ref m5, .ref mP, .ref mA, .int v3, .int v4, .int v5, .ref ml, .int v6, .ref mw, .ref mh, .long tm, .int v7, .int v8, .ref mb, .ref mr, .ref mf]))] sz0) [(y, .inr (6, [.ref mt, .int (nI sz), .int v2, .ref m1, .ref m2, .ref m3, .ref m4, .ref m5, .ref mP, .ref mA, .int v3, .int v4, .int v5, .ref ml, .int v6, .ref mw, .ref mh, .long tm, .int v7, .int v8, .ref mb, .ref mr, .ref mf]))])) (va_A [(y, .inr (6, [.ref mt, .int (nI sz), .int v2, .ref m1, .ref m2, .ref m3, .ref m4, .ref m5, .ref mP, .ref mA, .int v3, .int v4, .int v5, .ref ml, .int v6, .ref mw, .ref mh, .long tm, .int v7, .int v8, .ref mb, .ref mr, .ref mf]))] sz0)) 0 0 (va_A [(y, .inr (6, [.ref mt, .int (nI sz), .int v2, .ref m1, .ref m2, .ref m3, .ref m4, .ref m5, .ref mP, .ref mA, .int v3, .int v4, .int v5, .ref ml, .int v6, .ref mw, .ref mh, .long tm, .int v7, .int v8, .ref mb, .ref mr, .ref mf]))] sz0) := by
  refine zk_of [.ref y, .int n1] (by decide) (Nat.le_of_ble_eq_true rfl) ?_
  intro p e s m below meth c S hr hlk hnm hK hX hpre ls hl
  obtain ⟨hx, hb, hml, hown, ht⟩ := id S
  have hl : lv_has ls 2 [(0, .ref y), (1, .int n1)] := hl
  obtain ⟨hsz, hP, hD0⟩ := hpre
  subst hsz
  have hD := hD0.self (sz := s.heap.size)
  generalize hAe : va_A [(y, .inr (6, [.ref mt, .int (nI sz), .int v2, .ref m1, .ref m2, .ref m3, .ref m4, .ref m5, .ref mP, .ref mA, .int v3, .int v4, .int v5, .ref ml, .int v6, .ref mw, .ref mh, .long tm, .int v7, .int v8, .ref mb, .ref mr, .ref mf]))] s.heap.size = A at hD ⊢
  have hA : ∀ q : Nat, s.heap.size ≤ q → A q := fun q h => by rw [← hAe]; exact Or.inr h
  have hS : va_S A s.heap s.heap [] := va_S.rf
  have hP : va_P D classes [(y, .inr (6, [.ref mt, .int (nI sz), .int v2, .ref m1, .ref m2, .ref m3, .ref m4, .ref m5, .ref mP, .ref mA, .int v3, .int v4, .int v5, .ref ml, .int v6, .ref mw, .ref mh, .long tm, .int v7, .int v8, .ref mb, .ref mr, .ref mf]))] s.heap := hP
  refine lv_iload_n hx hb d_Model_end_0 rfl (lv_at hl 1 rfl) ?_
  refine lv_iconst (v := 0) hx hb d_Model_end_1 (by decide) ?_
  refine lv_aload_n hx hb d_Model_end_2 rfl (lv_at hl 0 rfl) ?_
  refine zk_get (C := R_Model) (T := F_Model) (N := 23) S hK (hP 0 _ rfl) rfl i_Model 1 (by decide) m_Model_56 rfl rfl d_Model_end_3 ?_
  refine zk_pureE (zk_runS (As := [.int n1, .int 0, .int (nI sz)]) (rest := []) S m_Model_64 (c_Model_in l D kA n1 0 (nI sz)) rfl rfl ⟨Nat.le_of_ble_eq_true rfl, Nat.le_of_ble_eq_true rfl⟩ hK hX (trivial) rfl hl.1 rfl (Nat.le_of_ble_eq_true rfl) ⟨Nat.le_of_ble_eq_true rfl, Nat.le_of_ble_eq_true rfl⟩ d_Model_end_6) (fun v hv => ?_)
  rcases hv with ⟨hi1, hi2, rfl⟩ | ⟨hi1, rfl⟩
  · refine lv_if_ne (tgt := 14) hx hb d_Model_end_9 (by decide) (fun c9 => ?_) (fun c9 => ?_)
    · obtain ⟨k, hk31, ek⟩ := zIn_y (show sz < 2 ^ 31 by omega) hi1 hi2
      refine lv_aload_n hx hb d_Model_end_14 rfl (lv_at hl 0 rfl) ?_
      refine lv_iload_n hx hb d_Model_end_15 rfl (lv_at hl 1 rfl) ?_
      refine va_put (D := D) (ci := 6) (v := .int n1) (ty := .int) (C := R_Model) (T := F_Model) (N := 23) hx hb ht i_Model t_Model t_Model_ok n_Model hown hK hP hD hS 0 rfl rfl 1 (by decide) (ht _ m_Model_56) (fun _ h9 => h9) rfl (by decide +kernel) rfl rfl (Nat.le_of_ble_eq_true rfl) d_Model_end_16 (fun H locs hP hD hS => ?_)
      have hP : va_P D classes [(y, .inr (6, [.ref mt, .int n1, .int v2, .ref m1, .ref m2, .ref m3, .ref m4, .ref m5, .ref mP, .ref mA, .int v3, .int v4, .int v5, .ref ml, .int v6, .ref mw, .ref mh, .long tm, .int v7, .int v8, .ref mb, .ref mr, .ref mf]))] H := hP
      have hD : va_D A [(y, .inr (6, [.ref mt, .int n1, .int v2, .ref m1, .ref m2, .ref m3, .ref m4, .ref m5, .ref mP, .ref mA, .int v3, .int v4, .int v5, .ref ml, .int v6, .ref mw, .ref mh, .long tm, .int v7, .int v8, .ref mb, .ref mr, .ref mf]))] := hD
      refine lv_iconst (v := 1) hx hb d_Model_end_19 (by decide) ?_
      subst ek
      exact zk_zret S hr (by decide) hlk hS (Or.inl ⟨k, rfl, hk31, rfl, hP, hD⟩) (Nat.le_refl _) (Nat.le_refl _) d_Model_end_20
    · exact absurd c9 (by decide)
  · refine lv_if_ne (tgt := 14) hx hb d_Model_end_9 (by decide) (fun c9 => ?_) (fun c9 => ?_)
    · exact absurd rfl c9
    · refine lv_iconst (v := 0) hx hb d_Model_end_12 (by decide) ?_
      exact zk_zret S hr (by decide) hlk hS (Or.inr ⟨zIn_n (by omega) hi1, rfl, hP, hD⟩) (Nat.le_refl _) (Nat.le_refl _) d_Model_end_13

set_option maxHeartbeats 4000000 in
set_option maxRecDepth 100000 in
/-- PeerLineModel.pass(n) -/
theorem c_Model_pass (l : Launch) (D : va_G) (kA : Nat → ClassId) (y mt m1 m2 m3 m4 m5 mP mA ml mw mh mb mr mf : Nat) (v1 v2 v3 v4 v5 v6 v7 v8 : Int32) (t0 : Nat) (nn : Int64) (sz0 : Nat) : Met l y_Model_pass (Cond.code y_Model_pass b_Model_pass 3 (some .long) :: zTB) { frames := 0, cells := 0, slots := 0, locals := 0 } (zk_Pc D classes (zTY kA) [.ref y, .long nn] (fun H => H.size = sz0 ∧ va_P D classes [(y, .inr (6, [.ref mt, .int v1, .int v2, .ref m1, .ref m2, .ref m3, .ref m4, .ref m5, .ref mP, .ref mA, .int v3, .int v4, .int v5, .ref ml, .int v6, .ref mw, .ref mh, .long (lN t0), .int v7, .int v8, .ref mb, .ref mr, .ref mf]))] H ∧ va_D (fun _ => True) [(y, .inr (6, [.ref mt, .int v1, .int v2, .ref m1, .ref m2, .ref m3, .ref m4, .ref m5, .ref mP, .ref mA, .int v3, .int v4, .int v5, .ref ml, .int v6, .ref mw, .ref mh, .long (lN t0), .int v7, .int v8, .ref mb, .ref mr, .ref mf]))])) (zk_mQ (fun v H => v = some (.long (lN (t0 + zClamp nn))) ∧ va_P D classes [(y, .inr (6, [.ref mt, .int v1, .int v2, .ref m1, .ref m2, .ref m3, .ref m4, .ref m5, .ref mP, .ref mA, .int v3, .int v4, .int v5, .ref ml, .int v6, .ref mw, .ref mh, .long (lN (t0 + zClamp nn)), .int v7, .int v8, .ref mb, .ref mr, .ref mf]))] H ∧ va_D (va_A [(y, .inr (6, [.ref mt, .int v1, .int v2, .ref m1, .ref m2, .ref m3, .ref m4, .ref m5, .ref mP, .ref mA, .int v3, .int v4, .int v5, .ref ml, .int v6, .ref mw, .ref mh, .long (lN t0), .int v7, .int v8, .ref mb, .ref mr, .ref mf]))] sz0) [(y, .inr (6, [.ref mt, .int v1, .int v2, .ref m1, .ref m2, .ref m3, .ref m4, .ref m5, .ref mP, .ref mA, .int v3, .int v4, .int v5, .ref ml, .int v6, .ref mw, .ref mh, .long (lN (t0 + zClamp nn)), .int v7, .int v8, .ref mb, .ref mr, .ref mf]))]) (va_A [(y, .inr (6, [.ref mt, .int v1, .int v2, .ref m1, .ref m2, .ref m3, .ref m4, .ref m5, .ref mP, .ref mA, .int v3, .int v4, .int v5, .ref ml, .int v6, .ref mw, .ref mh, .long (lN t0), .int v7, .int v8, .ref mb, .ref mr, .ref mf]))] sz0)) 0 0 (va_A [(y, .inr (6, [.ref mt, .int v1, .int v2, .ref m1, .ref m2, .ref m3, .ref m4, .ref m5, .ref mP, .ref mA, .int v3, .int v4, .int v5, .ref ml, .int v6, .ref mw, .ref mh, .long (lN t0), .int v7, .int v8, .ref mb, .ref mr, .ref mf]))] sz0) := by
  refine zk_of [.ref y, .long nn] (by decide) (Nat.le_of_ble_eq_true rfl) ?_
  intro p e s m below meth c S hr hlk hnm hK hX hpre ls hl
  obtain ⟨hx, hb, hml, hown, ht⟩ := id S
  have hl : lv_has ls 3 [(0, .ref y), (1, .long nn)] := hl
  obtain ⟨hsz, hP, hD0⟩ := hpre
  subst hsz
  have hD := hD0.self (sz := s.heap.size)
  generalize hAe : va_A [(y, .inr (6, [.ref mt, .int v1, .int v2, .ref m1, .ref m2, .ref m3, .ref m4, .ref m5, .ref mP, .ref mA, .int v3, .int v4, .int v5, .ref ml, .int v6, .ref mw, .ref mh, .long (lN t0), .int v7, .int v8, .ref mb, .ref mr, .ref mf]))] s.heap.size = A at hD ⊢
  have hA : ∀ q : Nat, s.heap.size ≤ q → A q := fun q h => by rw [← hAe]; exact Or.inr h
  have hS : va_S A s.heap s.heap [] := va_S.rf
  have hP : va_P D classes [(y, .inr (6, [.ref mt, .int v1, .int v2, .ref m1, .ref m2, .ref m3, .ref m4, .ref m5, .ref mP, .ref mA, .int v3, .int v4, .int v5, .ref ml, .int v6, .ref mw, .ref mh, .long (lN t0), .int v7, .int v8, .ref mb, .ref mr, .ref mf]))] s.heap := hP
  refine lv_aload_n hx hb d_Model_pass_0 rfl (lv_at hl 0 rfl) ?_
  refine lv_dup hx hb d_Model_pass_1 rfl ?_
  refine zk_get (C := R_Model) (T := F_Model) (N := 23) S hK (hP 0 _ rfl) rfl i_Model 17 (by decide) m_Model_105 rfl rfl d_Model_pass_2 ?_
  have jn : ∀ (z9 : Int64), z9 = lN (zClamp nn) → ∀ ls : Array Slot, lv_has ls 3 [(0, .ref y)] → W p l e { frames := 0, cells := 0, slots := 0, locals := 0 } s m [.ref y, .long nn].toArray below meth c s.heap [] 0 0 (MQ below (zk_mQ (fun v H => v = some (.long (lN (t0 + zClamp nn))) ∧ va_P D classes [(y, .inr (6, [.ref mt, .int v1, .int v2, .ref m1, .ref m2, .ref m3, .ref m4, .ref m5, .ref mP, .ref mA, .int v3, .int v4, .int v5, .ref ml, .int v6, .ref mw, .ref mh, .long (lN (t0 + zClamp nn)), .int v7, .int v8, .ref mb, .ref mr, .ref mf]))] H ∧ va_D A [(y, .inr (6, [.ref mt, .int v1, .int v2, .ref m1, .ref m2, .ref m3, .ref m4, .ref m5, .ref mP, .ref mA, .int v3, .int v4, .int v5, .ref ml, .int v6, .ref mw, .ref mh, .long (lN (t0 + zClamp nn)), .int v7, .int v8, .ref mb, .ref mr, .ref mf]))]) A) [.ref y, .long nn].toArray s 0 0 A) (F0 m 30 ls [.long z9, .long (lN t0), .ref y]) := by
    intro z9 hz9 ls hl
    refine lv_ladd hx hb d_Model_pass_30 ?_
    refine zk_tl (z := lN (t0 + zClamp nn)) (by rw [hz9]; exact lN_add _ _) ?_
    refine va_put (D := D) (ci := 6) (v := .long (lN (t0 + zClamp nn))) (ty := .long) (C := R_Model) (T := F_Model) (N := 23) hx hb ht i_Model t_Model t_Model_ok n_Model hown hK hP hD hS 0 rfl rfl 17 (by decide) (ht _ m_Model_105) (fun _ h9 => h9) rfl (by decide +kernel) rfl rfl (Nat.le_of_ble_eq_true rfl) d_Model_pass_31 (fun H locs hP hD hS => ?_)
    have hP : va_P D classes [(y, .inr (6, [.ref mt, .int v1, .int v2, .ref m1, .ref m2, .ref m3, .ref m4, .ref m5, .ref mP, .ref mA, .int v3, .int v4, .int v5, .ref ml, .int v6, .ref mw, .ref mh, .long (lN (t0 + zClamp nn)), .int v7, .int v8, .ref mb, .ref mr, .ref mf]))] H := hP
    have hD : va_D A [(y, .inr (6, [.ref mt, .int v1, .int v2, .ref m1, .ref m2, .ref m3, .ref m4, .ref m5, .ref mP, .ref mA, .int v3, .int v4, .int v5, .ref ml, .int v6, .ref mw, .ref mh, .long (lN (t0 + zClamp nn)), .int v7, .int v8, .ref mb, .ref mr, .ref mf]))] := hD
    refine lv_aload_n hx hb d_Model_pass_34 rfl (lv_at hl 0 rfl) ?_
    refine zk_get (C := R_Model) (T := F_Model) (N := 23) S hK (hP 0 _ rfl) rfl i_Model 17 (by decide) m_Model_105 rfl rfl d_Model_pass_35 ?_
    exact zk_lret S hr hlk hS ⟨rfl, hP, hD⟩ (Nat.le_refl _) (Nat.le_refl _) d_Model_pass_38
  refine lv_lload_n hx hb d_Model_pass_5 rfl (lv_at hl 1 rfl) ?_
  refine lv_lconst (v := 0) hx hb d_Model_pass_6 (by decide) ?_
  refine W.lcmp hx hb d_Model_pass_7 ?_
  refine lv_if_ge (tgt := 15) hx hb d_Model_pass_8 (by decide) (fun c8 => ?_) (fun c8 => ?_)
  · have h1 : ¬ nn < 0 := fun z => absurd ((lg_cmp_lt _ _).mpr z) (Int32.not_lt.mpr c8)
    refine lv_lload_n hx hb d_Model_pass_15 rfl (lv_at hl 1 rfl) ?_
    refine lv_ldc2 (v := 1000000) hx hb hown (ht _ m_Model_134) d_Model_pass_16 ?_
    refine W.lcmp hx hb d_Model_pass_19 ?_
    refine lv_if_le (tgt := 29) hx hb d_Model_pass_20 (by decide) (fun c20 => ?_) (fun c20 => ?_)
    · have h2 : ¬ (1000000 : Int64) < nn := fun z => absurd ((lg_cmp_le _ _).mp c20) (Int64.not_le.mpr z)
      refine lv_lload_n hx hb d_Model_pass_29 rfl (lv_at hl 1 rfl) ?_
      exact jn _ (by
        unfold zClamp
        rw [if_neg h1, if_neg h2]
        obtain ⟨k, hk, e⟩ := pk_lOf h1
        rw [e, pk_lT hk]
        rfl) ls (lv_sub hl [0] rfl)
    · have h2 : (1000000 : Int64) < nn := Int64.not_le.mp fun z => c20 ((lg_cmp_le _ _).mpr z)
      refine lv_ldc2 (v := 1000000) hx hb hown (ht _ m_Model_134) d_Model_pass_23 ?_
      refine lv_goto (tgt := 30) hx hb d_Model_pass_26 (by decide) ?_
      exact jn _ (by unfold zClamp; rw [if_neg h1, if_pos h2]; decide) ls (lv_sub hl [0] rfl)
  · have h1 : nn < 0 := (lg_cmp_lt _ _).mp (Int32.not_le.mp c8)
    refine lv_lconst (v := 0) hx hb d_Model_pass_11 (by decide) ?_
    refine lv_goto (tgt := 30) hx hb d_Model_pass_12 (by decide) ?_
    exact jn _ (by unfold zClamp; rw [if_pos h1]; rfl) ls (lv_sub hl [0] rfl)

set_option maxHeartbeats 4000000 in
set_option maxRecDepth 100000 in
/-- PeerLineModel.total(w) -/
theorem c_Model_total (l : Launch) (D : va_G) (kA : Nat → ClassId) (y mt m1 m2 m3 m4 m5 mP mA ml mw mh mb mr mf : Nat) (v1 v2 v3 v4 v5 v6 v7 v8 : Int32) (tm : Int64) (w : Int32) : Met l y_Model_total (Cond.code y_Model_total b_Model_total 2 (some .int) :: zTB) { frames := 0, cells := 0, slots := 0, locals := 0 } (zk_Pc D classes (zTY kA) [.ref y, .int w] (fun H => va_at D classes (y, .inr (6, [.ref mt, .int v1, .int v2, .ref m1, .ref m2, .ref m3, .ref m4, .ref m5, .ref mP, .ref mA, .int v3, .int v4, .int v5, .ref ml, .int v6, .ref mw, .ref mh, .long tm, .int v7, .int v8, .ref mb, .ref mr, .ref mf])) H)) (zk_pQ (some (Value.int (zTot w v4 v6 v7 v8 v2 v5)))) 0 0 zk_no := by
  refine zk_of [.ref y, .int w] (by decide) (Nat.le_of_ble_eq_true rfl) ?_
  intro p e s m below meth c S hr hlk hnm hK hX hpre ls hl
  obtain ⟨hx, hb, hml, hown, ht⟩ := id S
  have hl : lv_has ls 2 [(0, .ref y), (1, .int w)] := hl
  refine lv_iload_n hx hb d_Model_total_0 rfl (lv_at hl 1 rfl) ?_
  by_cases h0 : w = 0
  · refine lv_tableIn (off := 39) (tgt := 40) hx hb d_Model_total_1 (by rw [h0]; decide) (by rw [h0]; decide) (by rw [h0]; rfl) (by decide) ?_
    refine lv_aload_n hx hb d_Model_total_40 rfl (lv_at hl 0 rfl) ?_
    refine zk_get (C := R_Model) (T := F_Model) (N := 23) S hK hpre rfl i_Model 11 (by decide) m_Model_95 rfl rfl d_Model_total_41 ?_
    refine zk_ti (z := zTot w v4 v6 v7 v8 v2 v5) (by unfold zTot; rw [if_pos h0]) ?_
    exact zk_reti S hr hlk d_Model_total_44
  · by_cases h1 : w = 1
    · refine lv_tableIn (off := 44) (tgt := 45) hx hb d_Model_total_1 (by rw [h1]; decide) (by rw [h1]; decide) (by rw [h1]; rfl) (by decide) ?_
      refine lv_aload_n hx hb d_Model_total_45 rfl (lv_at hl 0 rfl) ?_
      refine zk_get (C := R_Model) (T := F_Model) (N := 23) S hK hpre rfl i_Model 14 (by decide) m_Model_102 rfl rfl d_Model_total_46 ?_
      refine zk_ti (z := zTot w v4 v6 v7 v8 v2 v5) (by unfold zTot; rw [if_neg h0, if_pos h1]) ?_
      exact zk_reti S hr hlk d_Model_total_49
    · by_cases h2 : w = 2
      · refine lv_tableIn (off := 49) (tgt := 50) hx hb d_Model_total_1 (by rw [h2]; decide) (by rw [h2]; decide) (by rw [h2]; rfl) (by decide) ?_
        refine lv_aload_n hx hb d_Model_total_50 rfl (lv_at hl 0 rfl) ?_
        refine zk_get (C := R_Model) (T := F_Model) (N := 23) S hK hpre rfl i_Model 18 (by decide) m_Model_113 rfl rfl d_Model_total_51 ?_
        refine zk_ti (z := zTot w v4 v6 v7 v8 v2 v5) (by unfold zTot; rw [if_neg h0, if_neg h1, if_pos h2]) ?_
        exact zk_reti S hr hlk d_Model_total_54
      · by_cases h3 : w = 3
        · refine lv_tableIn (off := 54) (tgt := 55) hx hb d_Model_total_1 (by rw [h3]; decide) (by rw [h3]; decide) (by rw [h3]; rfl) (by decide) ?_
          refine lv_aload_n hx hb d_Model_total_55 rfl (lv_at hl 0 rfl) ?_
          refine zk_get (C := R_Model) (T := F_Model) (N := 23) S hK hpre rfl i_Model 19 (by decide) m_Model_119 rfl rfl d_Model_total_56 ?_
          refine zk_ti (z := zTot w v4 v6 v7 v8 v2 v5) (by unfold zTot; rw [if_neg h0, if_neg h1, if_neg h2, if_pos h3]) ?_
          exact zk_reti S hr hlk d_Model_total_59
        · by_cases h4 : w = 4
          · refine lv_tableIn (off := 59) (tgt := 60) hx hb d_Model_total_1 (by rw [h4]; decide) (by rw [h4]; decide) (by rw [h4]; rfl) (by decide) ?_
            refine lv_aload_n hx hb d_Model_total_60 rfl (lv_at hl 0 rfl) ?_
            refine zk_get (C := R_Model) (T := F_Model) (N := 23) S hK hpre rfl i_Model 2 (by decide) m_Model_92 rfl rfl d_Model_total_61 ?_
            refine zk_ti (z := zTot w v4 v6 v7 v8 v2 v5) (by unfold zTot; rw [if_neg h0, if_neg h1, if_neg h2, if_neg h3, if_pos h4]) ?_
            exact zk_reti S hr hlk d_Model_total_64
          · by_cases h5 : w = 5
            · refine lv_tableIn (off := 64) (tgt := 65) hx hb d_Model_total_1 (by rw [h5]; decide) (by rw [h5]; decide) (by rw [h5]; rfl) (by decide) ?_
              refine lv_aload_n hx hb d_Model_total_65 rfl (lv_at hl 0 rfl) ?_
              refine zk_get (C := R_Model) (T := F_Model) (N := 23) S hK hpre rfl i_Model 12 (by decide) m_Model_86 rfl rfl d_Model_total_66 ?_
              refine zk_ti (z := zTot w v4 v6 v7 v8 v2 v5) (by unfold zTot; rw [if_neg h0, if_neg h1, if_neg h2, if_neg h3, if_neg h4, if_pos h5]) ?_
              exact zk_reti S hr hlk d_Model_total_69
            · have hout : w.toInt < 0 ∨ 5 < w.toInt := by
                have e9 : ∀ z : Int32, w ≠ z → w.toInt ≠ z.toInt := fun z hz h => hz (Int32.toInt_inj.mp h)
                have a0 := e9 0 h0
                have a1 := e9 1 h1
                have a2 := e9 2 h2
                have a3 := e9 3 h3
                have a4 := e9 4 h4
                have a5 := e9 5 h5
                rw [show (0 : Int32).toInt = 0 by decide] at a0
                rw [show (1 : Int32).toInt = 1 by decide] at a1
                rw [show (2 : Int32).toInt = 2 by decide] at a2
                rw [show (3 : Int32).toInt = 3 by decide] at a3
                rw [show (4 : Int32).toInt = 4 by decide] at a4
                rw [show (5 : Int32).toInt = 5 by decide] at a5
                omega
              refine lv_tableOut (tgt := 70) hx hb d_Model_total_1 hout (by decide) ?_
              refine lv_iconst (v := (-1)) hx hb d_Model_total_70 (by decide) ?_
              refine zk_ti (z := zTot w v4 v6 v7 v8 v2 v5) (by unfold zTot; rw [if_neg h0, if_neg h1, if_neg h2, if_neg h3, if_neg h4, if_neg h5]) ?_
              exact zk_reti S hr hlk d_Model_total_71

set_option maxHeartbeats 4000000 in
set_option maxRecDepth 100000 in
/-- PeerLineModel.bufferAt(n) -/
theorem c_Model_bufferAt (l : Launch) (D : va_G) (kA : Nat → ClassId) (y mt m1 m2 m3 m4 m5 mP mA ml mw mh mb mr mf : Nat) (v1 v2 v3 v4 v5 v6 v8 : Int32) (tm : Int64) (f : Nat → Int32) (bs : List Nat) (n1 : Int32) : Met l y_Model_bufferAt (Cond.code y_Model_bufferAt b_Model_bufferAt 2 (some .int) :: zTB) { frames := 1, cells := 0, slots := 0, locals := 22 } (zk_Pc D classes (zTY kA) [.ref y, .int n1] (fun H => va_at D classes (y, .inr (6, [.ref mt, .int v1, .int v2, .ref m1, .ref m2, .ref m3, .ref m4, .ref m5, .ref mP, .ref mA, .int v3, .int v4, .int v5, .ref ml, .int v6, .ref mw, .ref mh, .long tm, .int (nI bs.length), .int v8, .ref mb, .ref mr, .ref mf])) H ∧ va_at D classes (mb, .inl (kA 0, 1024, .inl f)) H ∧ zRw 1024 f bs)) (zk_pQ (some (Value.int (bAt bs n1)))) 0 0 zk_no := by
  refine zk_of [.ref y, .int n1] (by decide) (Nat.le_of_ble_eq_true rfl) ?_
  intro p e s m below meth c S hr hlk hnm hK hX hpre ls hl
  obtain ⟨hx, hb, hml, hown, ht⟩ := id S
  obtain ⟨hy0, ha0, hr0⟩ := hpre
  have hrl := hr0.1
  have hl : lv_has ls 2 [(0, .ref y), (1, .int n1)] := hl
  refine lv_iload_n hx hb d_Model_bufferAt_0 rfl (lv_at hl 1 rfl) ?_
  refine lv_iconst (v := 0) hx hb d_Model_bufferAt_1 (by decide) ?_
  refine lv_aload_n hx hb d_Model_bufferAt_2 rfl (lv_at hl 0 rfl) ?_
  refine zk_get (C := R_Model) (T := F_Model) (N := 23) S hK hy0 rfl i_Model 18 (by decide) m_Model_113 rfl rfl d_Model_bufferAt_3 ?_
  refine lv_iconst (v := 1) hx hb d_Model_bufferAt_6 (by decide) ?_
  refine lv_isub hx hb d_Model_bufferAt_7 ?_
  refine zk_pureE (zk_runS (As := [.int n1, .int 0, .int ((nI bs.length) - (1 : Int32))]) (rest := []) S m_Model_64 (c_Model_in l D kA n1 0 (nI bs.length - 1)) rfl rfl ⟨Nat.le_of_ble_eq_true rfl, Nat.le_of_ble_eq_true rfl⟩ hK hX (trivial) rfl hl.1 rfl (Nat.le_of_ble_eq_true rfl) ⟨Nat.le_of_ble_eq_true rfl, Nat.le_of_ble_eq_true rfl⟩ d_Model_bufferAt_8) (fun v hv => ?_)
  rcases hv with ⟨hi1, hi2, rfl⟩ | ⟨hi1, rfl⟩
  · refine lv_if_eq (tgt := 27) hx hb d_Model_bufferAt_11 (by decide) (fun c11 => ?_) (fun c11 => ?_)
    · exact absurd c11 (by decide)
    · obtain ⟨k, hk31, ek⟩ := zIn_1 (show bs.length < 2 ^ 30 by omega) hi1 hi2
      subst ek
      have hrk := hr0.2 k hk31
      refine lv_aload_n hx hb d_Model_bufferAt_14 rfl (lv_at hl 0 rfl) ?_
      refine zk_get (C := R_Model) (T := F_Model) (N := 23) S hK hy0 rfl i_Model 20 (by decide) m_Model_45 rfl rfl d_Model_bufferAt_15 ?_
      refine lv_iload_n hx hb d_Model_bufferAt_18 rfl (lv_at hl 1 rfl) ?_
      refine zk_bald S hK 0 ha0 rfl (vp_in_nI (by omega) (by omega)) d_Model_bufferAt_19 ?_
      refine zk_ti (z := sb_b (bs.getD k 0)) (by rw [nI_clamp (by omega)]; exact hrk.2) ?_
      refine lv_sipush (v := 255) hx hb d_Model_bufferAt_20 (by decide) ?_
      refine lv_iand hx hb d_Model_bufferAt_23 ?_
      refine zk_ti (z := bAt bs (nI k)) (by rw [bAt_nI (by omega) hk31]; exact (sb_byte _ hrk.1).1) ?_
      refine lv_goto (tgt := 28) hx hb d_Model_bufferAt_24 (by decide) ?_
      exact zk_reti S hr hlk d_Model_bufferAt_28
  · refine lv_if_eq (tgt := 27) hx hb d_Model_bufferAt_11 (by decide) (fun c11 => ?_) (fun c11 => ?_)
    · refine lv_iconst (v := (-1)) hx hb d_Model_bufferAt_27 (by decide) ?_
      refine zk_ti (z := bAt bs n1) ((zIn_1n (by omega) hi1).symm) ?_
      exact zk_reti S hr hlk d_Model_bufferAt_28
    · exact absurd rfl c11

set_option maxHeartbeats 4000000 in
set_option maxRecDepth 100000 in
/-- PeerLineModel.toldAt(n) -/
theorem c_Model_toldAt (l : Launch) (D : va_G) (kA : Nat → ClassId) (y mt m1 m2 m3 m4 m5 mP mA ml mw mh mb mr mf : Nat) (v1 v2 v3 v4 v5 v6 v7 : Int32) (tm : Int64) (f : Nat → Int32) (bs : List Nat) (n1 : Int32) : Met l y_Model_toldAt (Cond.code y_Model_toldAt b_Model_toldAt 2 (some .int) :: zTB) { frames := 1, cells := 0, slots := 0, locals := 22 } (zk_Pc D classes (zTY kA) [.ref y, .int n1] (fun H => va_at D classes (y, .inr (6, [.ref mt, .int v1, .int v2, .ref m1, .ref m2, .ref m3, .ref m4, .ref m5, .ref mP, .ref mA, .int v3, .int v4, .int v5, .ref ml, .int v6, .ref mw, .ref mh, .long tm, .int v7, .int (nI bs.length), .ref mb, .ref mr, .ref mf])) H ∧ va_at D classes (mr, .inl (kA 0, 32768, .inl f)) H ∧ zRw 32768 f bs)) (zk_pQ (some (Value.int (bAt bs n1)))) 0 0 zk_no := by
  refine zk_of [.ref y, .int n1] (by decide) (Nat.le_of_ble_eq_true rfl) ?_
  intro p e s m below meth c S hr hlk hnm hK hX hpre ls hl
  obtain ⟨hx, hb, hml, hown, ht⟩ := id S
  obtain ⟨hy0, ha0, hr0⟩ := hpre
  have hrl := hr0.1
  have hl : lv_has ls 2 [(0, .ref y), (1, .int n1)] := hl
  refine lv_iload_n hx hb d_Model_toldAt_0 rfl (lv_at hl 1 rfl) ?_
  refine lv_iconst (v := 0) hx hb d_Model_toldAt_1 (by decide) ?_
  refine lv_aload_n hx hb d_Model_toldAt_2 rfl (lv_at hl 0 rfl) ?_
  refine zk_get (C := R_Model) (T := F_Model) (N := 23) S hK hy0 rfl i_Model 19 (by decide) m_Model_119 rfl rfl d_Model_toldAt_3 ?_
  refine lv_iconst (v := 1) hx hb d_Model_toldAt_6 (by decide) ?_
  refine lv_isub hx hb d_Model_toldAt_7 ?_
  refine zk_pureE (zk_runS (As := [.int n1, .int 0, .int ((nI bs.length) - (1 : Int32))]) (rest := []) S m_Model_64 (c_Model_in l D kA n1 0 (nI bs.length - 1)) rfl rfl ⟨Nat.le_of_ble_eq_true rfl, Nat.le_of_ble_eq_true rfl⟩ hK hX (trivial) rfl hl.1 rfl (Nat.le_of_ble_eq_true rfl) ⟨Nat.le_of_ble_eq_true rfl, Nat.le_of_ble_eq_true rfl⟩ d_Model_toldAt_8) (fun v hv => ?_)
  rcases hv with ⟨hi1, hi2, rfl⟩ | ⟨hi1, rfl⟩
  · refine lv_if_eq (tgt := 27) hx hb d_Model_toldAt_11 (by decide) (fun c11 => ?_) (fun c11 => ?_)
    · exact absurd c11 (by decide)
    · obtain ⟨k, hk31, ek⟩ := zIn_1 (show bs.length < 2 ^ 30 by omega) hi1 hi2
      subst ek
      have hrk := hr0.2 k hk31
      refine lv_aload_n hx hb d_Model_toldAt_14 rfl (lv_at hl 0 rfl) ?_
      refine zk_get (C := R_Model) (T := F_Model) (N := 23) S hK hy0 rfl i_Model 21 (by decide) m_Model_49 rfl rfl d_Model_toldAt_15 ?_
      refine lv_iload_n hx hb d_Model_toldAt_18 rfl (lv_at hl 1 rfl) ?_
      refine zk_bald S hK 0 ha0 rfl (vp_in_nI (by omega) (by omega)) d_Model_toldAt_19 ?_
      refine zk_ti (z := sb_b (bs.getD k 0)) (by rw [nI_clamp (by omega)]; exact hrk.2) ?_
      refine lv_sipush (v := 255) hx hb d_Model_toldAt_20 (by decide) ?_
      refine lv_iand hx hb d_Model_toldAt_23 ?_
      refine zk_ti (z := bAt bs (nI k)) (by rw [bAt_nI (by omega) hk31]; exact (sb_byte _ hrk.1).1) ?_
      refine lv_goto (tgt := 28) hx hb d_Model_toldAt_24 (by decide) ?_
      exact zk_reti S hr hlk d_Model_toldAt_28
  · refine lv_if_eq (tgt := 27) hx hb d_Model_toldAt_11 (by decide) (fun c11 => ?_) (fun c11 => ?_)
    · refine lv_iconst (v := (-1)) hx hb d_Model_toldAt_27 (by decide) ?_
      refine zk_ti (z := bAt bs n1) ((zIn_1n (by omega) hi1).symm) ?_
      exact zk_reti S hr hlk d_Model_toldAt_28
    · exact absurd rfl c11
