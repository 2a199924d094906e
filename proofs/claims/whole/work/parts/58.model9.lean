theorem zSet_fits {pat ln : List Nat} : zSet (fun j => j = 0) (zT ln) (zIt (rItems pat pat.length 0)) (rItems pat pat.length 0).length ln.length ↔ zFits pat ln := by
  unfold zFits zSet
  exact ⟨fun h => by
    obtain ⟨j, h1, h2⟩ := h
    have h1 : j = 0 := h1
    subst h1
    exact h2, fun h => ⟨0, rfl, h⟩⟩
theorem MRs.ok {rs : List zRule} {g1 g2 g3 g4 g5 fP fA : Nat → Int32} (h : MRs rs g1 g2 g3 g4 g5 fP fA) : zRok rs := fun i hi => ⟨(h.2 i hi).2.1.1, (h.2 i hi).2.1.2.1, (h.2 i hi).2.1.2.2.1⟩
theorem MQr_snoc {mq : List (Nat × Nat)} {fw : Nat → Int64} {fh : Nat → Int32} (h : MQr mq fw fh) (t i : Nat) : MQr (mq ++ [(t, i)]) (vp_updL fw mq.length (lN t)) (upd fh mq.length (nI i)) := by
  intro j hj
  rw [List.length_append] at hj
  simp only [List.length_cons, List.length_nil] at hj
  by_cases e : j = mq.length
  · rw [e, pk_us, List.getD_eq_getElem?_getD, List.getElem?_append_right (Nat.le_refl _), Nat.sub_self]
    exact ⟨if_pos rfl, rfl⟩
  · rw [pk_un e, List.getD_eq_getElem?_getD, List.getElem?_append_left (by omega), ← List.getD_eq_getElem?_getD]
    exact ⟨(if_neg e).trans (h j (by omega)).1, (h j (by omega)).2⟩
set_option maxHeartbeats 4000000 in
set_option maxRecDepth 100000 in
/-- PeerLineModel.fitsLine(r) -/
theorem c_Model_fitsLine (l : Launch) (D : va_G) (kA : Nat → ClassId) (y mt m1 m2 m3 m4 m5 mP mA ml mw mh mb mr mf : Nat) (v1 v2 v3 v4 v6 v7 v8 : Int32) (tm : Int64) (g1 g2 g3 g4 g5 fP fA : Nat → Int32) (rs : List zRule) (hrs : MRs rs g1 g2 g3 g4 g5 fP fA) (fl : Nat → Int32) (lns : List Nat) (r : Nat) (hr1 : r < rs.length) (zz : Nat → Int32) (sz0 : Nat) : Met l y_Model_fitsLine (Cond.code y_Model_fitsLine b_Model_fitsLine 3 (some .boolean) :: zTB) { frames := 4, cells := 0, slots := 0, locals := 107 } (zk_Pc D classes (zTY kA) [.ref y, .int (nI r)] (fun H => H.size = sz0 ∧ va_P D classes [(mf, .inl ((kA 2), 1025, .inl zz))] H ∧ va_D (fun _ => True) [(mf, .inl ((kA 2), 1025, .inl zz))] ∧ va_at D classes (y, .inr (6, [.ref mt, .int v1, .int v2, .ref m1, .ref m2, .ref m3, .ref m4, .ref m5, .ref mP, .ref mA, .int v3, .int v4, .int (nI lns.length), .ref ml, .int v6, .ref mw, .ref mh, .long tm, .int v7, .int v8, .ref mb, .ref mr, .ref mf])) H ∧ ¬ (va_A [(mf, .inl ((kA 2), 1025, .inl zz))] sz0) y ∧ zRw 1024 fl lns ∧ va_at D classes (mP, .inl (kA 0, 12800, .inl fP)) H ∧ ¬ (va_A [(mf, .inl ((kA 2), 1025, .inl zz))] sz0) mP ∧ va_at D classes (m4, .inl (kA 3, 64, .inl g4)) H ∧ ¬ (va_A [(mf, .inl ((kA 2), 1025, .inl zz))] sz0) m4 ∧ va_at D classes (ml, .inl (kA 0, 1024, .inl fl)) H ∧ ¬ (va_A [(mf, .inl ((kA 2), 1025, .inl zz))] sz0) ml)) (zk_mQ (fun v H => ((zFits (rs.getD r zR0).2.1 lns ∧ v = some (.int 1)) ∨ (¬ zFits (rs.getD r zR0).2.1 lns ∧ v = some (.int 0))) ∧ ∃ zz', va_P D classes [(mf, .inl ((kA 2), 1025, .inl zz'))] H ∧ va_D (va_A [(mf, .inl ((kA 2), 1025, .inl zz))] sz0) [(mf, .inl ((kA 2), 1025, .inl zz'))]) (va_A [(mf, .inl ((kA 2), 1025, .inl zz))] sz0)) 0 0 (va_A [(mf, .inl ((kA 2), 1025, .inl zz))] sz0) := by
  refine zk_of [.ref y, .int (nI r)] (by decide) (Nat.le_of_ble_eq_true rfl) ?_
  intro p e s m below meth c S hr hlk hnm hK hX hpre ls hl
  obtain ⟨hx, hb, hml, hown, ht⟩ := id S
  have hl : lv_has ls 3 [(0, .ref y), (1, .int (nI r))] := hl
  obtain ⟨hsz, hP, hD0, hy0, hyA, hln, a_mP, n_mP, a_m4, n_m4, a_ml, n_ml⟩ := hpre
  subst hsz
  have hD := hD0.self (sz := s.heap.size)
  generalize hAe : va_A [(mf, .inl ((kA 2), 1025, .inl zz))] s.heap.size = A at hD hyA n_mP n_m4 n_ml ⊢
  have hA : ∀ q : Nat, s.heap.size ≤ q → A q := fun q h => by rw [← hAe]; exact Or.inr h
  have hS : va_S A s.heap s.heap [] := va_S.rf
  have hP : va_P D classes [(mf, .inl ((kA 2), 1025, .inl zz))] s.heap := hP
  have hll := hln.1
  have hrs64 := hrs.1
  obtain ⟨⟨-, -, -, he4, -⟩, ⟨-, -, -, hpl, -⟩, hpat, -⟩ := hrs.2 r hr1
  refine lv_iconst (v := 0) hx hb d_Model_fitsLine_0 (by decide) ?_
  refine lv_istore_n (lv' := [(2, .int 0), (0, .ref y), (1, .int (nI r))]) hx hb d_Model_fitsLine_1 rfl hl (by decide) rfl (fun ls hl => ?_)
  have lp : ∀ (fu : Nat) (j : Nat) (z1 : Nat → Int32), lns.length + 1 - j < fu → j ≤ lns.length + 1 → (∀ i, i < j → z1 i = if i = 0 then 1 else 0) → ∀ (H : Heap) (locs : List Loc), va_P D classes [(mf, .inl ((kA 2), 1025, .inl z1))] H → va_D A [(mf, .inl ((kA 2), 1025, .inl z1))] → va_S A s.heap H locs → ∀ ls : Array Slot, lv_has ls 3 [(0, .ref y), (1, .int (nI r)), (2, .int (nI j))] → W p l e { frames := 4, cells := 0, slots := 0, locals := 107 } s m [.ref y, .int (nI r)].toArray below meth c H locs 0 0 (MQ below (zk_mQ (fun v H => ((zFits (rs.getD r zR0).2.1 lns ∧ v = some (.int 1)) ∨ (¬ zFits (rs.getD r zR0).2.1 lns ∧ v = some (.int 0))) ∧ ∃ zz', va_P D classes [(mf, .inl ((kA 2), 1025, .inl zz'))] H ∧ va_D A [(mf, .inl ((kA 2), 1025, .inl zz'))]) A) [.ref y, .int (nI r)].toArray s 0 0 A) (F0 m 2 ls []) := by
    intro fu
    induction fu with
    | zero => intro j z1 hfu; exact absurd hfu (Nat.not_lt_zero _)
    | succ fu ih =>
      intro j z1 hfu hj hlo H locs hP hD hS ls hl
      refine lv_iload_n hx hb d_Model_fitsLine_2 rfl (lv_at hl 2 rfl) ?_
      refine lv_aload_n hx hb d_Model_fitsLine_3 rfl (lv_at hl 0 rfl) ?_
      refine zk_get (C := R_Model) (T := F_Model) (N := 23) S hK (zk_ro hS hy0 hyA) rfl i_Model 12 (by decide) m_Model_86 rfl rfl d_Model_fitsLine_4 ?_
      refine lv_icmp_gt (tgt := 31) hx hb d_Model_fitsLine_7 (by decide) (fun c7 => ?_) (fun c7 => ?_)
      · have hje : j = lns.length + 1 := by
          have := (nI_ltI (by omega) (by omega)).mp c7
          omega
        subst hje
        have hz01 : ∀ j, j ≤ lns.length → (z1 j = 0 ∨ z1 j = 1) ∧ (z1 j = 1 ↔ j = 0) := fun j hj => by
          rw [hlo j (by omega)]
          by_cases e : j = 0
          · rw [if_pos e]; exact ⟨Or.inr rfl, fun _ => e, fun _ => rfl⟩
          · rw [if_neg e]; exact ⟨Or.inl rfl, fun z => absurd z (by decide), fun z => absurd z e⟩
        refine lv_aload_n hx hb d_Model_fitsLine_31 rfl (lv_at hl 0 rfl) ?_
        refine lv_aload_n hx hb d_Model_fitsLine_32 rfl (lv_at hl 0 rfl) ?_
        refine zk_get (C := R_Model) (T := F_Model) (N := 23) S hK (zk_ro hS hy0 hyA) rfl i_Model 8 (by decide) m_Model_29 rfl rfl d_Model_fitsLine_33 ?_
        refine lv_sipush (v := 200) hx hb d_Model_fitsLine_36 (by decide) ?_
        refine zk_ti (z := nI 200) (rfl) ?_
        refine lv_iload_n hx hb d_Model_fitsLine_39 rfl (lv_at hl 1 rfl) ?_
        refine lv_imul hx hb d_Model_fitsLine_40 ?_
        refine zk_ti (z := nI (200 * r)) (pk_mul _ _) ?_
        refine lv_sipush (v := 200) hx hb d_Model_fitsLine_41 (by decide) ?_
        refine zk_ti (z := nI 200) (rfl) ?_
        refine lv_iload_n hx hb d_Model_fitsLine_44 rfl (lv_at hl 1 rfl) ?_
        refine lv_imul hx hb d_Model_fitsLine_45 ?_
        refine zk_ti (z := nI (200 * r)) (pk_mul _ _) ?_
        refine lv_aload_n hx hb d_Model_fitsLine_46 rfl (lv_at hl 0 rfl) ?_
        refine zk_get (C := R_Model) (T := F_Model) (N := 23) S hK (zk_ro hS hy0 hyA) rfl i_Model 6 (by decide) m_Model_23 rfl rfl d_Model_fitsLine_47 ?_
        refine lv_iload_n hx hb d_Model_fitsLine_50 rfl (lv_at hl 1 rfl) ?_
        refine zk_iald S hK 3 (zk_ro hS a_m4 n_m4) rfl (vp_in_nI (by omega) (by omega)) d_Model_fitsLine_51 ?_
        refine zk_ti (z := nI (rs.getD r zR0).2.1.length) (by rw [nI_clamp (by omega)]; exact he4) ?_
        refine lv_iadd hx hb d_Model_fitsLine_52 ?_
        refine zk_ti (z := nI (200 * r + (rs.getD r zR0).2.1.length)) (nI_add _ _) ?_
        refine lv_aload_n hx hb d_Model_fitsLine_53 rfl (lv_at hl 0 rfl) ?_
        refine zk_get (C := R_Model) (T := F_Model) (N := 23) S hK (zk_ro hS hy0 hyA) rfl i_Model 13 (by decide) m_Model_35 rfl rfl d_Model_fitsLine_54 ?_
        refine lv_aload_n hx hb d_Model_fitsLine_57 rfl (lv_at hl 0 rfl) ?_
        refine zk_get (C := R_Model) (T := F_Model) (N := 23) S hK (zk_ro hS hy0 hyA) rfl i_Model 12 (by decide) m_Model_86 rfl rfl d_Model_fitsLine_58 ?_
        have hFc := va_free (wc := [(mf, .inl ((kA 2), 1025, .inl z1))]) hD hS hA [0] rfl
        refine zk_mut (zk_runV (As := [.ref mP, .int (nI (200 * r)), .int (nI (200 * r + (rs.getD r zR0).2.1.length)), .ref ml, .int (nI lns.length)]) (rest := []) S m_Model_89 (c_Model_go l D kA y mt m1 m2 m3 m4 m5 mP mA ml mw mh mb mr mf v1 v2 v3 v4 (nI lns.length) v6 v7 v8 tm mP 12800 (200 * r) (rs.getD r zR0).2.1.length fP (rs.getD r zR0).2.1 (by omega) (by decide) hpat ml 1024 fl lns hll (by decide) hll hln.pat z1 (fun j => j = 0) H.size) rfl rfl ⟨Nat.le_of_ble_eq_true rfl, Nat.le_of_ble_eq_true rfl⟩ hK hX (zk_recv hK (zk_ro hS hy0 hyA) rfl) ⟨rfl, hP.sub (ws' := [(mf, .inl ((kA 2), 1025, .inl z1))]) [0] rfl, (hD.sub (ws' := [(mf, .inl ((kA 2), 1025, .inl z1))]) [0] (by decide) rfl).weaken (fun _ _ _ _ => trivial), zk_ro hS hy0 hyA, fun z => hyA (hFc _ z), zk_ro hS a_mP n_mP, fun z => n_mP (hFc _ z), zk_ro hS a_ml n_ml, fun z => n_ml (hFc _ z), hz01⟩ rfl hl.1 rfl (Nat.le_of_ble_eq_true rfl) ⟨Nat.le_of_ble_eq_true rfl, Nat.le_of_ble_eq_true rfl⟩ d_Model_fitsLine_61) hS hFc hFc (fun v H locs hpost hz1 hk1 hS => ?_)
        obtain ⟨rfl, z2, hP1, hD1, hz2⟩ := hpost
        obtain ⟨hP, hD⟩ := va_join (wr := []) (w1 := [(mf, .inl ((kA 2), 1025, .inl z2))]) hP hD [0] [] rfl rfl (by decide) (by decide) hk1 hFc hP1 hD1
        refine W.eq (g2 := F0 m 64 ls []) rfl ?_
        have hP : va_P D classes [(mf, .inl ((kA 2), 1025, .inl z2))] H := hP
        have hD : va_D A [(mf, .inl ((kA 2), 1025, .inl z2))] := hD
        refine lv_aload_n hx hb d_Model_fitsLine_64 rfl (lv_at hl 0 rfl) ?_
        refine zk_get (C := R_Model) (T := F_Model) (N := 23) S hK (zk_ro hS hy0 hyA) rfl i_Model 22 (by decide) m_Model_52 rfl rfl d_Model_fitsLine_65 ?_
        refine lv_aload_n hx hb d_Model_fitsLine_68 rfl (lv_at hl 0 rfl) ?_
        refine zk_get (C := R_Model) (T := F_Model) (N := 23) S hK (zk_ro hS hy0 hyA) rfl i_Model 12 (by decide) m_Model_86 rfl rfl d_Model_fitsLine_69 ?_
        refine zk_zald S hK 2 (hP 0 _ rfl) rfl (vp_in_nI (by omega) (by omega)) d_Model_fitsLine_72 ?_
        refine zk_ti (z := z2 lns.length) (by rw [nI_clamp (by omega)]) ?_
        rcases (hz2 lns.length (Nat.le_refl _)).1 with e9 | e9
        · refine zk_ti (z := 0) e9 ?_
          exact zk_zret S hr (by decide) hlk hS ⟨Or.inr ⟨fun z => absurd (e9.symm.trans ((hz2 _ (Nat.le_refl _)).2.mpr (zSet_fits.mpr z))) (by decide), rfl⟩, z2, hP, hD⟩ (Nat.le_refl _) (Nat.le_refl _) d_Model_fitsLine_73
        · refine zk_ti (z := 1) e9 ?_
          exact zk_zret S hr (by decide) hlk hS ⟨Or.inl ⟨zSet_fits.mp ((hz2 _ (Nat.le_refl _)).2.mp e9), rfl⟩, z2, hP, hD⟩ (Nat.le_refl _) (Nat.le_refl _) d_Model_fitsLine_73
      · have hjl : j ≤ lns.length := Nat.not_lt.mp fun z => c7 (nI_lt z (by omega))
        refine lv_aload_n hx hb d_Model_fitsLine_10 rfl (lv_at hl 0 rfl) ?_
        refine zk_get (C := R_Model) (T := F_Model) (N := 23) S hK (zk_ro hS hy0 hyA) rfl i_Model 22 (by decide) m_Model_52 rfl rfl d_Model_fitsLine_11 ?_
        refine lv_iload_n hx hb d_Model_fitsLine_14 rfl (lv_at hl 2 rfl) ?_
        refine lv_iload_n hx hb d_Model_fitsLine_15 rfl (lv_at hl 2 rfl) ?_
        refine lv_if_ne (tgt := 23) hx hb d_Model_fitsLine_16 (by decide) (fun c16 => ?_) (fun c16 => ?_)
        · refine lv_iconst (v := 0) hx hb d_Model_fitsLine_23 (by decide) ?_
          refine va_zast hx hb hK hP hD hS 0 2 rfl rfl (vp_in_nI (by omega) (by omega)) d_Model_fitsLine_24 (fun H locs hP hD hS => ?_)
          rw [nI_clamp (by omega), show vp_nar .boolean 0 = 0 from rfl] at hP hD
          have hP : va_P D classes [(mf, .inl ((kA 2), 1025, .inl (upd z1 j 0)))] H := hP
          have hD : va_D A [(mf, .inl ((kA 2), 1025, .inl (upd z1 j 0)))] := hD
          refine lv_iinc (v := nI (j + 1)) (lv' := [(2, .int (nI (j + 1))), (0, .ref y), (1, .int (nI r))]) hx hb d_Model_fitsLine_25 hl (k := 2) rfl (nI_1 _) (by decide) rfl (fun ls hl => ?_)
          refine lv_goto (tgt := 2) hx hb d_Model_fitsLine_28 (by decide) ?_
          exact ih (j + 1) _ (by omega) (by omega) (fun i hi => by
            by_cases e : i = j
            · rw [e, pk_us, if_neg (fun z => c16 (by rw [z]; rfl))]
            · rw [pk_un e]; exact hlo i (by omega)) _ _ (hP.sub [0] rfl) (hD.sub [0] (by decide) rfl) hS ls (lv_sub hl [1, 2, 0] rfl)
        · refine lv_iconst (v := 1) hx hb d_Model_fitsLine_19 (by decide) ?_
          refine lv_goto (tgt := 24) hx hb d_Model_fitsLine_20 (by decide) ?_
          refine va_zast hx hb hK hP hD hS 0 2 rfl rfl (vp_in_nI (by omega) (by omega)) d_Model_fitsLine_24 (fun H locs hP hD hS => ?_)
          rw [nI_clamp (by omega), show vp_nar .boolean 1 = 1 from rfl] at hP hD
          have hP : va_P D classes [(mf, .inl ((kA 2), 1025, .inl (upd z1 j 1)))] H := hP
          have hD : va_D A [(mf, .inl ((kA 2), 1025, .inl (upd z1 j 1)))] := hD
          refine lv_iinc (v := nI (j + 1)) (lv' := [(2, .int (nI (j + 1))), (0, .ref y), (1, .int (nI r))]) hx hb d_Model_fitsLine_25 hl (k := 2) rfl (nI_1 _) (by decide) rfl (fun ls hl => ?_)
          refine lv_goto (tgt := 2) hx hb d_Model_fitsLine_28 (by decide) ?_
          exact ih (j + 1) _ (by omega) (by omega) (fun i hi => by
            by_cases e : i = j
            · rw [e, pk_us, if_pos ((nI_eq (b := 0) (by omega) (by decide)).mp c16)]
            · rw [pk_un e]; exact hlo i (by omega)) _ _ (hP.sub [0] rfl) (hD.sub [0] (by decide) rfl) hS ls (lv_sub hl [1, 2, 0] rfl)
  exact lp (lns.length + 2) 0 zz (by omega) (by omega) (fun i hi => absurd hi (Nat.not_lt_zero i)) _ _ (hP.sub [0] rfl) (hD.sub [0] (by decide) rfl) hS ls (lv_sub hl [1, 2, 0] rfl)

set_option maxHeartbeats 4000000 in
set_option maxRecDepth 100000 in
/-- PeerLineModel.gets() -/
theorem c_Model_gets (l : Launch) (D : va_G) (kA : Nat → ClassId) (y mt m1 m2 m3 m4 m5 mP mA ml mw mh mb mr mf : Nat) (v1 v3 v7 v8 : Int32) (g1 g2 g3 g4 g5 fP fA : Nat → Int32) (rs : List zRule) (hrs : MRs rs g1 g2 g3 g4 g5 fP fA) (fl : Nat → Int32) (lns : List Nat) (st t0 : Nat) (hst : st < 2 ^ 30) (mq : List (Nat × Nat)) (hmql : mq.length ≤ 64) (fw : Nat → Int64) (fh : Nat → Int32) (zz : Nat → Int32) (sz0 : Nat) : Met l y_Model_gets (Cond.code y_Model_gets b_Model_gets 2 none :: zTB) { frames := 5, cells := 0, slots := 0, locals := 129 } (zk_Pc D classes (zTY kA) [.ref y] (fun H => H.size = sz0 ∧ va_P D classes [(y, .inr (6, [.ref mt, .int v1, .int (nI rs.length), .ref m1, .ref m2, .ref m3, .ref m4, .ref m5, .ref mP, .ref mA, .int v3, .int (nI st), .int (nI lns.length), .ref ml, .int (nI mq.length), .ref mw, .ref mh, .long (lN t0), .int v7, .int v8, .ref mb, .ref mr, .ref mf])), (mf, .inl ((kA 2), 1025, .inl zz)), (mw, .inl ((kA 1), 64, .inr (.inl fw))), (mh, .inl ((kA 3), 64, .inl fh))] H ∧ va_D (fun _ => True) [(y, .inr (6, [.ref mt, .int v1, .int (nI rs.length), .ref m1, .ref m2, .ref m3, .ref m4, .ref m5, .ref mP, .ref mA, .int v3, .int (nI st), .int (nI lns.length), .ref ml, .int (nI mq.length), .ref mw, .ref mh, .long (lN t0), .int v7, .int v8, .ref mb, .ref mr, .ref mf])), (mf, .inl ((kA 2), 1025, .inl zz)), (mw, .inl ((kA 1), 64, .inr (.inl fw))), (mh, .inl ((kA 3), 64, .inl fh))] ∧ zRw 1024 fl lns ∧ MQr mq fw fh ∧ va_at D classes (mP, .inl (kA 0, 12800, .inl fP)) H ∧ ¬ (va_A [(y, .inr (6, [.ref mt, .int v1, .int (nI rs.length), .ref m1, .ref m2, .ref m3, .ref m4, .ref m5, .ref mP, .ref mA, .int v3, .int (nI st), .int (nI lns.length), .ref ml, .int (nI mq.length), .ref mw, .ref mh, .long (lN t0), .int v7, .int v8, .ref mb, .ref mr, .ref mf])), (mf, .inl ((kA 2), 1025, .inl zz)), (mw, .inl ((kA 1), 64, .inr (.inl fw))), (mh, .inl ((kA 3), 64, .inl fh))] sz0) mP ∧ va_at D classes (m4, .inl (kA 3, 64, .inl g4)) H ∧ ¬ (va_A [(y, .inr (6, [.ref mt, .int v1, .int (nI rs.length), .ref m1, .ref m2, .ref m3, .ref m4, .ref m5, .ref mP, .ref mA, .int v3, .int (nI st), .int (nI lns.length), .ref ml, .int (nI mq.length), .ref mw, .ref mh, .long (lN t0), .int v7, .int v8, .ref mb, .ref mr, .ref mf])), (mf, .inl ((kA 2), 1025, .inl zz)), (mw, .inl ((kA 1), 64, .inr (.inl fw))), (mh, .inl ((kA 3), 64, .inl fh))] sz0) m4 ∧ va_at D classes (ml, .inl (kA 0, 1024, .inl fl)) H ∧ ¬ (va_A [(y, .inr (6, [.ref mt, .int v1, .int (nI rs.length), .ref m1, .ref m2, .ref m3, .ref m4, .ref m5, .ref mP, .ref mA, .int v3, .int (nI st), .int (nI lns.length), .ref ml, .int (nI mq.length), .ref mw, .ref mh, .long (lN t0), .int v7, .int v8, .ref mb, .ref mr, .ref mf])), (mf, .inl ((kA 2), 1025, .inl zz)), (mw, .inl ((kA 1), 64, .inr (.inl fw))), (mh, .inl ((kA 3), 64, .inl fh))] sz0) ml ∧ va_at D classes (m1, .inl (kA 3, 64, .inl g1)) H ∧ ¬ (va_A [(y, .inr (6, [.ref mt, .int v1, .int (nI rs.length), .ref m1, .ref m2, .ref m3, .ref m4, .ref m5, .ref mP, .ref mA, .int v3, .int (nI st), .int (nI lns.length), .ref ml, .int (nI mq.length), .ref mw, .ref mh, .long (lN t0), .int v7, .int v8, .ref mb, .ref mr, .ref mf])), (mf, .inl ((kA 2), 1025, .inl zz)), (mw, .inl ((kA 1), 64, .inr (.inl fw))), (mh, .inl ((kA 3), 64, .inl fh))] sz0) m1 ∧ va_at D classes (m2, .inl (kA 3, 64, .inl g2)) H ∧ ¬ (va_A [(y, .inr (6, [.ref mt, .int v1, .int (nI rs.length), .ref m1, .ref m2, .ref m3, .ref m4, .ref m5, .ref mP, .ref mA, .int v3, .int (nI st), .int (nI lns.length), .ref ml, .int (nI mq.length), .ref mw, .ref mh, .long (lN t0), .int v7, .int v8, .ref mb, .ref mr, .ref mf])), (mf, .inl ((kA 2), 1025, .inl zz)), (mw, .inl ((kA 1), 64, .inr (.inl fw))), (mh, .inl ((kA 3), 64, .inl fh))] sz0) m2 ∧ va_at D classes (m3, .inl (kA 3, 64, .inl g3)) H ∧ ¬ (va_A [(y, .inr (6, [.ref mt, .int v1, .int (nI rs.length), .ref m1, .ref m2, .ref m3, .ref m4, .ref m5, .ref mP, .ref mA, .int v3, .int (nI st), .int (nI lns.length), .ref ml, .int (nI mq.length), .ref mw, .ref mh, .long (lN t0), .int v7, .int v8, .ref mb, .ref mr, .ref mf])), (mf, .inl ((kA 2), 1025, .inl zz)), (mw, .inl ((kA 1), 64, .inr (.inl fw))), (mh, .inl ((kA 3), 64, .inl fh))] sz0) m3)) (zk_mQ (fun v H => v = none ∧ ∃ zz' fw' fh', va_P D classes [(y, .inr (6, [.ref mt, .int v1, .int (nI rs.length), .ref m1, .ref m2, .ref m3, .ref m4, .ref m5, .ref mP, .ref mA, .int v3, .int (nI (zNext rs st (zFirst rs st lns))), .int (nI ([] : List Nat).length), .ref ml, .int (nI (zPush rs t0 mq (zFirst rs st lns)).length), .ref mw, .ref mh, .long (lN t0), .int v7, .int v8, .ref mb, .ref mr, .ref mf])), (mf, .inl ((kA 2), 1025, .inl zz')), (mw, .inl ((kA 1), 64, .inr (.inl fw'))), (mh, .inl ((kA 3), 64, .inl fh'))] H ∧ va_D (va_A [(y, .inr (6, [.ref mt, .int v1, .int (nI rs.length), .ref m1, .ref m2, .ref m3, .ref m4, .ref m5, .ref mP, .ref mA, .int v3, .int (nI st), .int (nI lns.length), .ref ml, .int (nI mq.length), .ref mw, .ref mh, .long (lN t0), .int v7, .int v8, .ref mb, .ref mr, .ref mf])), (mf, .inl ((kA 2), 1025, .inl zz)), (mw, .inl ((kA 1), 64, .inr (.inl fw))), (mh, .inl ((kA 3), 64, .inl fh))] sz0) [(y, .inr (6, [.ref mt, .int v1, .int (nI rs.length), .ref m1, .ref m2, .ref m3, .ref m4, .ref m5, .ref mP, .ref mA, .int v3, .int (nI (zNext rs st (zFirst rs st lns))), .int (nI ([] : List Nat).length), .ref ml, .int (nI (zPush rs t0 mq (zFirst rs st lns)).length), .ref mw, .ref mh, .long (lN t0), .int v7, .int v8, .ref mb, .ref mr, .ref mf])), (mf, .inl ((kA 2), 1025, .inl zz')), (mw, .inl ((kA 1), 64, .inr (.inl fw'))), (mh, .inl ((kA 3), 64, .inl fh'))] ∧ MQr (zPush rs t0 mq (zFirst rs st lns)) fw' fh') (va_A [(y, .inr (6, [.ref mt, .int v1, .int (nI rs.length), .ref m1, .ref m2, .ref m3, .ref m4, .ref m5, .ref mP, .ref mA, .int v3, .int (nI st), .int (nI lns.length), .ref ml, .int (nI mq.length), .ref mw, .ref mh, .long (lN t0), .int v7, .int v8, .ref mb, .ref mr, .ref mf])), (mf, .inl ((kA 2), 1025, .inl zz)), (mw, .inl ((kA 1), 64, .inr (.inl fw))), (mh, .inl ((kA 3), 64, .inl fh))] sz0)) 0 0 (va_A [(y, .inr (6, [.ref mt, .int v1, .int (nI rs.length), .ref m1, .ref m2, .ref m3, .ref m4, .ref m5, .ref mP, .ref mA, .int v3, .int (nI st), .int (nI lns.length), .ref ml, .int (nI mq.length), .ref mw, .ref mh, .long (lN t0), .int v7, .int v8, .ref mb, .ref mr, .ref mf])), (mf, .inl ((kA 2), 1025, .inl zz)), (mw, .inl ((kA 1), 64, .inr (.inl fw))), (mh, .inl ((kA 3), 64, .inl fh))] sz0) := by
  refine zk_of [.ref y] (by decide) (Nat.le_of_ble_eq_true rfl) ?_
  intro p e s m below meth c S hr hlk hnm hK hX hpre ls hl
  obtain ⟨hx, hb, hml, hown, ht⟩ := id S
  have hl : lv_has ls 2 [(0, .ref y)] := hl
  obtain ⟨hsz, hP, hD0, hln, hmq, a_mP, n_mP, a_m4, n_m4, a_ml, n_ml, a_m1, n_m1, a_m2, n_m2, a_m3, n_m3⟩ := hpre
  subst hsz
  have hD := hD0.self (sz := s.heap.size)
  generalize hAe : va_A [(y, .inr (6, [.ref mt, .int v1, .int (nI rs.length), .ref m1, .ref m2, .ref m3, .ref m4, .ref m5, .ref mP, .ref mA, .int v3, .int (nI st), .int (nI lns.length), .ref ml, .int (nI mq.length), .ref mw, .ref mh, .long (lN t0), .int v7, .int v8, .ref mb, .ref mr, .ref mf])), (mf, .inl ((kA 2), 1025, .inl zz)), (mw, .inl ((kA 1), 64, .inr (.inl fw))), (mh, .inl ((kA 3), 64, .inl fh))] s.heap.size = A at hD n_mP n_m4 n_ml n_m1 n_m2 n_m3 ⊢
  have hA : ∀ q : Nat, s.heap.size ≤ q → A q := fun q h => by rw [← hAe]; exact Or.inr h
  have hS : va_S A s.heap s.heap [] := va_S.rf
  have hP : va_P D classes [(y, .inr (6, [.ref mt, .int v1, .int (nI rs.length), .ref m1, .ref m2, .ref m3, .ref m4, .ref m5, .ref mP, .ref mA, .int v3, .int (nI st), .int (nI lns.length), .ref ml, .int (nI mq.length), .ref mw, .ref mh, .long (lN t0), .int v7, .int v8, .ref mb, .ref mr, .ref mf])), (mf, .inl ((kA 2), 1025, .inl zz)), (mw, .inl ((kA 1), 64, .inr (.inl fw))), (mh, .inl ((kA 3), 64, .inl fh))] s.heap := hP
  have hll := hln.1
  have hrs64 := hrs.1
  refine lv_iconst (v := 0) hx hb d_Model_gets_0 (by decide) ?_
  refine lv_istore_n (lv' := [(1, .int 0), (0, .ref y)]) hx hb d_Model_gets_1 rfl hl (by decide) rfl (fun ls hl => ?_)
  have lp : ∀ (fu : Nat) (i : Nat) (z1 : Nat → Int32), rs.length - i < fu → i ≤ rs.length → (∀ j, j < i → ¬ ((rs.getD j zR0).1 = st ∧ zFits (rs.getD j zR0).2.1 lns)) → ∀ (H : Heap) (locs : List Loc), va_P D classes [(y, .inr (6, [.ref mt, .int v1, .int (nI rs.length), .ref m1, .ref m2, .ref m3, .ref m4, .ref m5, .ref mP, .ref mA, .int v3, .int (nI st), .int (nI lns.length), .ref ml, .int (nI mq.length), .ref mw, .ref mh, .long (lN t0), .int v7, .int v8, .ref mb, .ref mr, .ref mf])), (mf, .inl ((kA 2), 1025, .inl z1)), (mw, .inl ((kA 1), 64, .inr (.inl fw))), (mh, .inl ((kA 3), 64, .inl fh))] H → va_D A [(y, .inr (6, [.ref mt, .int v1, .int (nI rs.length), .ref m1, .ref m2, .ref m3, .ref m4, .ref m5, .ref mP, .ref mA, .int v3, .int (nI st), .int (nI lns.length), .ref ml, .int (nI mq.length), .ref mw, .ref mh, .long (lN t0), .int v7, .int v8, .ref mb, .ref mr, .ref mf])), (mf, .inl ((kA 2), 1025, .inl z1)), (mw, .inl ((kA 1), 64, .inr (.inl fw))), (mh, .inl ((kA 3), 64, .inl fh))] → va_S A s.heap H locs → ∀ ls : Array Slot, lv_has ls 2 [(0, .ref y), (1, .int (nI i))] → W p l e { frames := 5, cells := 0, slots := 0, locals := 129 } s m [.ref y].toArray below meth c H locs 0 0 (MQ below (zk_mQ (fun v H => v = none ∧ ∃ zz' fw' fh', va_P D classes [(y, .inr (6, [.ref mt, .int v1, .int (nI rs.length), .ref m1, .ref m2, .ref m3, .ref m4, .ref m5, .ref mP, .ref mA, .int v3, .int (nI (zNext rs st (zFirst rs st lns))), .int (nI ([] : List Nat).length), .ref ml, .int (nI (zPush rs t0 mq (zFirst rs st lns)).length), .ref mw, .ref mh, .long (lN t0), .int v7, .int v8, .ref mb, .ref mr, .ref mf])), (mf, .inl ((kA 2), 1025, .inl zz')), (mw, .inl ((kA 1), 64, .inr (.inl fw'))), (mh, .inl ((kA 3), 64, .inl fh'))] H ∧ va_D A [(y, .inr (6, [.ref mt, .int v1, .int (nI rs.length), .ref m1, .ref m2, .ref m3, .ref m4, .ref m5, .ref mP, .ref mA, .int v3, .int (nI (zNext rs st (zFirst rs st lns))), .int (nI ([] : List Nat).length), .ref ml, .int (nI (zPush rs t0 mq (zFirst rs st lns)).length), .ref mw, .ref mh, .long (lN t0), .int v7, .int v8, .ref mb, .ref mr, .ref mf])), (mf, .inl ((kA 2), 1025, .inl zz')), (mw, .inl ((kA 1), 64, .inr (.inl fw'))), (mh, .inl ((kA 3), 64, .inl fh'))] ∧ MQr (zPush rs t0 mq (zFirst rs st lns)) fw' fh') A) [.ref y].toArray s 0 0 A) (F0 m 2 ls []) := by
    intro fu
    induction fu with
    | zero => intro i z1 hfu; exact absurd hfu (Nat.not_lt_zero _)
    | succ fu ih =>
      intro i z1 hfu hi hno H locs hP hD hS ls hl
      refine lv_iload_n hx hb d_Model_gets_2 rfl (lv_at hl 1 rfl) ?_
      refine lv_aload_n hx hb d_Model_gets_3 rfl (lv_at hl 0 rfl) ?_
      refine zk_get (C := R_Model) (T := F_Model) (N := 23) S hK (hP 0 _ rfl) rfl i_Model 2 (by decide) m_Model_92 rfl rfl d_Model_gets_4 ?_
      refine lv_icmp_ge (tgt := 37) hx hb d_Model_gets_7 (by decide) (fun c7 => ?_) (fun c7 => ?_)
      · have hie : i = rs.length := by
          have := (nI_leI (by omega) (by omega)).mp c7
          omega
        have hFi : (zFirst rs st lns) = none := zFirst_none (fun j hj => hno j (by omega))
        refine lv_aload_n hx hb d_Model_gets_37 rfl (lv_at hl 0 rfl) ?_
        refine lv_iconst (v := 0) hx hb d_Model_gets_38 (by decide) ?_
        refine zk_ti (z := nI ([] : List Nat).length) (rfl) ?_
        refine va_put (D := D) (ci := 6) (v := .int (nI ([] : List Nat).length)) (ty := .int) (C := R_Model) (T := F_Model) (N := 23) hx hb ht i_Model t_Model t_Model_ok n_Model hown hK hP hD hS 0 rfl rfl 12 (by decide) (ht _ m_Model_86) (fun _ h9 => h9) rfl (by decide +kernel) rfl rfl (Nat.le_of_ble_eq_true rfl) d_Model_gets_39 (fun H locs hP hD hS => ?_)
        have hP : va_P D classes [(y, .inr (6, [.ref mt, .int v1, .int (nI rs.length), .ref m1, .ref m2, .ref m3, .ref m4, .ref m5, .ref mP, .ref mA, .int v3, .int (nI st), .int (nI ([] : List Nat).length), .ref ml, .int (nI mq.length), .ref mw, .ref mh, .long (lN t0), .int v7, .int v8, .ref mb, .ref mr, .ref mf])), (mf, .inl ((kA 2), 1025, .inl z1)), (mw, .inl ((kA 1), 64, .inr (.inl fw))), (mh, .inl ((kA 3), 64, .inl fh))] H := hP
        have hD : va_D A [(y, .inr (6, [.ref mt, .int v1, .int (nI rs.length), .ref m1, .ref m2, .ref m3, .ref m4, .ref m5, .ref mP, .ref mA, .int v3, .int (nI st), .int (nI ([] : List Nat).length), .ref ml, .int (nI mq.length), .ref mw, .ref mh, .long (lN t0), .int v7, .int v8, .ref mb, .ref mr, .ref mf])), (mf, .inl ((kA 2), 1025, .inl z1)), (mw, .inl ((kA 1), 64, .inr (.inl fw))), (mh, .inl ((kA 3), 64, .inl fh))] := hD
        refine lv_iload_n hx hb d_Model_gets_42 rfl (lv_at hl 1 rfl) ?_
        refine lv_aload_n hx hb d_Model_gets_43 rfl (lv_at hl 0 rfl) ?_
        refine zk_get (C := R_Model) (T := F_Model) (N := 23) S hK (hP 0 _ rfl) rfl i_Model 2 (by decide) m_Model_92 rfl rfl d_Model_gets_44 ?_
        refine lv_icmp_ne (tgt := 51) hx hb d_Model_gets_47 (by decide) (fun c47 => ?_) (fun c47 => ?_)
        · exact absurd (by rw [hie]) c47
        · exact zk_vret S hr hlk hS (by rw [hFi]; exact ⟨rfl, z1, fw, fh, hP.sub [0, 1, 2, 3] rfl, hD.sub [0, 1, 2, 3] (by decide) rfl, hmq⟩) (Nat.le_refl _) (Nat.le_refl _) d_Model_gets_50
      · have hi2 : i < rs.length := Nat.not_le.mp fun z => c7 (nI_le z (by omega))
        refine lv_aload_n hx hb d_Model_gets_10 rfl (lv_at hl 0 rfl) ?_
        refine zk_get (C := R_Model) (T := F_Model) (N := 23) S hK (hP 0 _ rfl) rfl i_Model 3 (by decide) m_Model_13 rfl rfl d_Model_gets_11 ?_
        refine lv_iload_n hx hb d_Model_gets_14 rfl (lv_at hl 1 rfl) ?_
        refine zk_iald S hK 3 (zk_ro hS a_m1 n_m1) rfl (vp_in_nI (by omega) (by omega)) d_Model_gets_15 ?_
        refine zk_ti (z := nI (rs.getD i zR0).1) (by rw [nI_clamp (by omega)]; exact (hrs.2 i hi2).1.1) ?_
        refine lv_aload_n hx hb d_Model_gets_16 rfl (lv_at hl 0 rfl) ?_
        refine zk_get (C := R_Model) (T := F_Model) (N := 23) S hK (hP 0 _ rfl) rfl i_Model 11 (by decide) m_Model_95 rfl rfl d_Model_gets_17 ?_
        refine lv_icmp_ne (tgt := 31) hx hb d_Model_gets_20 (by decide) (fun c20 => ?_) (fun c20 => ?_)
        · refine lv_iinc (v := nI (i + 1)) (lv' := [(1, .int (nI (i + 1))), (0, .ref y)]) hx hb d_Model_gets_31 hl (k := 1) rfl (nI_1 _) (by decide) rfl (fun ls hl => ?_)
          refine lv_goto (tgt := 2) hx hb d_Model_gets_34 (by decide) ?_
          exact ih (i + 1) z1 (by omega) (by omega) (fun j hj => by
            by_cases e : j = i
            · rw [e]; exact fun z => c20 (by rw [z.1])
            · exact hno j (by omega)) _ _ (hP.sub [0, 1, 2, 3] rfl) (hD.sub [0, 1, 2, 3] (by decide) rfl) hS ls (lv_sub hl [1, 0] rfl)
        · have hst2 : (rs.getD i zR0).1 = st := (nI_eq (by have := (hrs.2 i hi2).2.1.1; omega) (by omega)).mp c20
          refine lv_aload_n hx hb d_Model_gets_23 rfl (lv_at hl 0 rfl) ?_
          refine lv_iload_n hx hb d_Model_gets_24 rfl (lv_at hl 1 rfl) ?_
          have hapa_y := zk_apart (wc := [(mf, .inl ((kA 2), 1025, .inl z1))]) hP hD [1] rfl (k := 0) rfl (by decide)
          have hFc := va_free (wc := [(mf, .inl ((kA 2), 1025, .inl z1))]) hD hS hA [1] rfl
          refine zk_mut (zk_runV (As := [.int (nI i)]) (rest := []) S m_Model_98 (c_Model_fitsLine l D kA y mt m1 m2 m3 m4 m5 mP mA ml mw mh mb mr mf v1 (nI rs.length) v3 (nI st) (nI mq.length) v7 v8 (lN t0) g1 g2 g3 g4 g5 fP fA rs hrs fl lns i hi2 z1 H.size) rfl rfl ⟨Nat.le_of_ble_eq_true rfl, Nat.le_of_ble_eq_true rfl⟩ hK hX (zk_recv hK (hP 0 _ rfl) rfl) ⟨rfl, hP.sub (ws' := [(mf, .inl ((kA 2), 1025, .inl z1))]) [1] rfl, (hD.sub (ws' := [(mf, .inl ((kA 2), 1025, .inl z1))]) [1] (by decide) rfl).weaken (fun _ _ _ _ => trivial), (hP 0 _ rfl), hapa_y, hln, zk_ro hS a_mP n_mP, fun z => n_mP (hFc _ z), zk_ro hS a_m4 n_m4, fun z => n_m4 (hFc _ z), zk_ro hS a_ml n_ml, fun z => n_ml (hFc _ z)⟩ rfl hl.1 rfl (Nat.le_of_ble_eq_true rfl) ⟨Nat.le_of_ble_eq_true rfl, Nat.le_of_ble_eq_true rfl⟩ d_Model_gets_25) hS hFc hFc (fun v H locs hpost hz1 hk1 hS => ?_)
          obtain ⟨hfit, z2, hP1, hD1⟩ := hpost
          obtain ⟨hP, hD⟩ := va_join (wr := [(y, .inr (6, [.ref mt, .int v1, .int (nI rs.length), .ref m1, .ref m2, .ref m3, .ref m4, .ref m5, .ref mP, .ref mA, .int v3, .int (nI st), .int (nI lns.length), .ref ml, .int (nI mq.length), .ref mw, .ref mh, .long (lN t0), .int v7, .int v8, .ref mb, .ref mr, .ref mf])), (mw, .inl ((kA 1), 64, .inr (.inl fw))), (mh, .inl ((kA 3), 64, .inl fh))]) (w1 := [(mf, .inl ((kA 2), 1025, .inl z2))]) hP hD [1] [0, 2, 3] rfl rfl (by decide) (by decide) hk1 hFc hP1 hD1
          rcases hfit with ⟨hfit, rfl⟩ | ⟨hfit, rfl⟩
          · refine W.eq (g2 := F0 m 28 ls [.int 1]) rfl ?_
            have hP : va_P D classes [(y, .inr (6, [.ref mt, .int v1, .int (nI rs.length), .ref m1, .ref m2, .ref m3, .ref m4, .ref m5, .ref mP, .ref mA, .int v3, .int (nI st), .int (nI lns.length), .ref ml, .int (nI mq.length), .ref mw, .ref mh, .long (lN t0), .int v7, .int v8, .ref mb, .ref mr, .ref mf])), (mw, .inl ((kA 1), 64, .inr (.inl fw))), (mh, .inl ((kA 3), 64, .inl fh)), (mf, .inl ((kA 2), 1025, .inl z2))] H := hP
            have hD : va_D A [(y, .inr (6, [.ref mt, .int v1, .int (nI rs.length), .ref m1, .ref m2, .ref m3, .ref m4, .ref m5, .ref mP, .ref mA, .int v3, .int (nI st), .int (nI lns.length), .ref ml, .int (nI mq.length), .ref mw, .ref mh, .long (lN t0), .int v7, .int v8, .ref mb, .ref mr, .ref mf])), (mw, .inl ((kA 1), 64, .inr (.inl fw))), (mh, .inl ((kA 3), 64, .inl fh)), (mf, .inl ((kA 2), 1025, .inl z2))] := hD
            refine lv_if_ne (tgt := 37) hx hb d_Model_gets_28 (by decide) (fun c28 => ?_) (fun c28 => ?_)
            · have hFi : (zFirst rs st lns) = some i := zFirst_some hi2 ⟨hst2, hfit⟩ hno
              refine lv_aload_n hx hb d_Model_gets_37 rfl (lv_at hl 0 rfl) ?_
              refine lv_iconst (v := 0) hx hb d_Model_gets_38 (by decide) ?_
              refine zk_ti (z := nI ([] : List Nat).length) (rfl) ?_
              refine va_put (D := D) (ci := 6) (v := .int (nI ([] : List Nat).length)) (ty := .int) (C := R_Model) (T := F_Model) (N := 23) hx hb ht i_Model t_Model t_Model_ok n_Model hown hK hP hD hS 0 rfl rfl 12 (by decide) (ht _ m_Model_86) (fun _ h9 => h9) rfl (by decide +kernel) rfl rfl (Nat.le_of_ble_eq_true rfl) d_Model_gets_39 (fun H locs hP hD hS => ?_)
              have hP : va_P D classes [(y, .inr (6, [.ref mt, .int v1, .int (nI rs.length), .ref m1, .ref m2, .ref m3, .ref m4, .ref m5, .ref mP, .ref mA, .int v3, .int (nI st), .int (nI ([] : List Nat).length), .ref ml, .int (nI mq.length), .ref mw, .ref mh, .long (lN t0), .int v7, .int v8, .ref mb, .ref mr, .ref mf])), (mw, .inl ((kA 1), 64, .inr (.inl fw))), (mh, .inl ((kA 3), 64, .inl fh)), (mf, .inl ((kA 2), 1025, .inl z2))] H := hP
              have hD : va_D A [(y, .inr (6, [.ref mt, .int v1, .int (nI rs.length), .ref m1, .ref m2, .ref m3, .ref m4, .ref m5, .ref mP, .ref mA, .int v3, .int (nI st), .int (nI ([] : List Nat).length), .ref ml, .int (nI mq.length), .ref mw, .ref mh, .long (lN t0), .int v7, .int v8, .ref mb, .ref mr, .ref mf])), (mw, .inl ((kA 1), 64, .inr (.inl fw))), (mh, .inl ((kA 3), 64, .inl fh)), (mf, .inl ((kA 2), 1025, .inl z2))] := hD
              refine lv_iload_n hx hb d_Model_gets_42 rfl (lv_at hl 1 rfl) ?_
              refine lv_aload_n hx hb d_Model_gets_43 rfl (lv_at hl 0 rfl) ?_
              refine zk_get (C := R_Model) (T := F_Model) (N := 23) S hK (hP 0 _ rfl) rfl i_Model 2 (by decide) m_Model_92 rfl rfl d_Model_gets_44 ?_
              refine lv_icmp_ne (tgt := 51) hx hb d_Model_gets_47 (by decide) (fun c47 => ?_) (fun c47 => ?_)
              · refine lv_aload_n hx hb d_Model_gets_51 rfl (lv_at hl 0 rfl) ?_
                refine lv_aload_n hx hb d_Model_gets_52 rfl (lv_at hl 0 rfl) ?_
                refine zk_get (C := R_Model) (T := F_Model) (N := 23) S hK (hP 0 _ rfl) rfl i_Model 5 (by decide) m_Model_20 rfl rfl d_Model_gets_53 ?_
                refine lv_iload_n hx hb d_Model_gets_56 rfl (lv_at hl 1 rfl) ?_
                refine zk_iald S hK 3 (zk_ro hS a_m3 n_m3) rfl (vp_in_nI (by omega) (by omega)) d_Model_gets_57 ?_
                refine zk_ti (z := nI (zNext rs st (zFirst rs st lns))) (by rw [nI_clamp (by omega), hFi]; exact (hrs.2 i hi2).1.2.2.1) ?_
                refine va_put (D := D) (ci := 6) (v := .int (nI (zNext rs st (zFirst rs st lns)))) (ty := .int) (C := R_Model) (T := F_Model) (N := 23) hx hb ht i_Model t_Model t_Model_ok n_Model hown hK hP hD hS 0 rfl rfl 11 (by decide) (ht _ m_Model_95) (fun _ h9 => h9) rfl (by decide +kernel) rfl rfl (Nat.le_of_ble_eq_true rfl) d_Model_gets_58 (fun H locs hP hD hS => ?_)
                have hP : va_P D classes [(y, .inr (6, [.ref mt, .int v1, .int (nI rs.length), .ref m1, .ref m2, .ref m3, .ref m4, .ref m5, .ref mP, .ref mA, .int v3, .int (nI (zNext rs st (zFirst rs st lns))), .int (nI ([] : List Nat).length), .ref ml, .int (nI mq.length), .ref mw, .ref mh, .long (lN t0), .int v7, .int v8, .ref mb, .ref mr, .ref mf])), (mw, .inl ((kA 1), 64, .inr (.inl fw))), (mh, .inl ((kA 3), 64, .inl fh)), (mf, .inl ((kA 2), 1025, .inl z2))] H := hP
                have hD : va_D A [(y, .inr (6, [.ref mt, .int v1, .int (nI rs.length), .ref m1, .ref m2, .ref m3, .ref m4, .ref m5, .ref mP, .ref mA, .int v3, .int (nI (zNext rs st (zFirst rs st lns))), .int (nI ([] : List Nat).length), .ref ml, .int (nI mq.length), .ref mw, .ref mh, .long (lN t0), .int v7, .int v8, .ref mb, .ref mr, .ref mf])), (mw, .inl ((kA 1), 64, .inr (.inl fw))), (mh, .inl ((kA 3), 64, .inl fh)), (mf, .inl ((kA 2), 1025, .inl z2))] := hD
                refine lv_aload_n hx hb d_Model_gets_61 rfl (lv_at hl 0 rfl) ?_
                refine zk_get (C := R_Model) (T := F_Model) (N := 23) S hK (hP 0 _ rfl) rfl i_Model 14 (by decide) m_Model_102 rfl rfl d_Model_gets_62 ?_
                refine lv_bipush (v := 64) hx hb d_Model_gets_65 (by decide) ?_
                refine zk_ti (z := nI 64) (rfl) ?_
                refine lv_icmp_ge (tgt := 111) hx hb d_Model_gets_67 (by decide) (fun c67 => ?_) (fun c67 => ?_)
                · have hPu : zPush rs t0 mq (zFirst rs st lns) = mq := by
                    rw [hFi]
                    exact if_neg (fun z => absurd c67 (by exact fun z9 => absurd ((nI_leI (by omega) (by omega)).mp z9) (by omega)))
                  exact zk_vret S hr hlk hS (by rw [hPu]; exact ⟨rfl, z2, fw, fh, hP.sub [0, 3, 1, 2] rfl, hD.sub [0, 3, 1, 2] (by decide) rfl, hmq⟩) (Nat.le_refl _) (Nat.le_refl _) d_Model_gets_111
                · have hm64 : mq.length < 64 := Nat.not_le.mp fun z => c67 (nI_le z (by omega))
                  have hPu : zPush rs t0 mq (zFirst rs st lns) = mq ++ [(t0 + (rs.getD i zR0).2.2.2.1, i)] := by rw [hFi]; exact if_pos hm64
                  have hdl := (hrs.2 i hi2).2.1.2.1
                  refine lv_aload_n hx hb d_Model_gets_70 rfl (lv_at hl 0 rfl) ?_
                  refine zk_get (C := R_Model) (T := F_Model) (N := 23) S hK (hP 0 _ rfl) rfl i_Model 15 (by decide) m_Model_38 rfl rfl d_Model_gets_71 ?_
                  refine lv_aload_n hx hb d_Model_gets_74 rfl (lv_at hl 0 rfl) ?_
                  refine zk_get (C := R_Model) (T := F_Model) (N := 23) S hK (hP 0 _ rfl) rfl i_Model 14 (by decide) m_Model_102 rfl rfl d_Model_gets_75 ?_
                  refine lv_aload_n hx hb d_Model_gets_78 rfl (lv_at hl 0 rfl) ?_
                  refine zk_get (C := R_Model) (T := F_Model) (N := 23) S hK (hP 0 _ rfl) rfl i_Model 17 (by decide) m_Model_105 rfl rfl d_Model_gets_79 ?_
                  refine lv_aload_n hx hb d_Model_gets_82 rfl (lv_at hl 0 rfl) ?_
                  refine zk_get (C := R_Model) (T := F_Model) (N := 23) S hK (hP 0 _ rfl) rfl i_Model 4 (by decide) m_Model_17 rfl rfl d_Model_gets_83 ?_
                  refine lv_iload_n hx hb d_Model_gets_86 rfl (lv_at hl 1 rfl) ?_
                  refine zk_iald S hK 3 (zk_ro hS a_m2 n_m2) rfl (vp_in_nI (by omega) (by omega)) d_Model_gets_87 ?_
                  refine zk_ti (z := nI (rs.getD i zR0).2.2.2.1) (by rw [nI_clamp (by omega)]; exact (hrs.2 i hi2).1.2.1) ?_
                  refine lv_i2l hx hb d_Model_gets_88 rfl ?_
                  refine zk_tl (z := lN (rs.getD i zR0).2.2.2.1) (nI_l (by omega)) ?_
                  refine lv_ladd hx hb d_Model_gets_89 ?_
                  refine zk_tl (z := lN (t0 + (rs.getD i zR0).2.2.2.1)) (lN_add _ _) ?_
                  refine va_last hx hb hK hP hD hS 1 1 rfl rfl (vp_in_nI (by omega) (by omega)) d_Model_gets_90 (fun H locs hP hD hS => ?_)
                  rw [nI_clamp (by omega)] at hP hD
                  have hP : va_P D classes [(y, .inr (6, [.ref mt, .int v1, .int (nI rs.length), .ref m1, .ref m2, .ref m3, .ref m4, .ref m5, .ref mP, .ref mA, .int v3, .int (nI (zNext rs st (zFirst rs st lns))), .int (nI ([] : List Nat).length), .ref ml, .int (nI mq.length), .ref mw, .ref mh, .long (lN t0), .int v7, .int v8, .ref mb, .ref mr, .ref mf])), (mw, .inl ((kA 1), 64, .inr (.inl (vp_updL fw mq.length (lN (t0 + (rs.getD i zR0).2.2.2.1)))))), (mh, .inl ((kA 3), 64, .inl fh)), (mf, .inl ((kA 2), 1025, .inl z2))] H := hP
                  have hD : va_D A [(y, .inr (6, [.ref mt, .int v1, .int (nI rs.length), .ref m1, .ref m2, .ref m3, .ref m4, .ref m5, .ref mP, .ref mA, .int v3, .int (nI (zNext rs st (zFirst rs st lns))), .int (nI ([] : List Nat).length), .ref ml, .int (nI mq.length), .ref mw, .ref mh, .long (lN t0), .int v7, .int v8, .ref mb, .ref mr, .ref mf])), (mw, .inl ((kA 1), 64, .inr (.inl (vp_updL fw mq.length (lN (t0 + (rs.getD i zR0).2.2.2.1)))))), (mh, .inl ((kA 3), 64, .inl fh)), (mf, .inl ((kA 2), 1025, .inl z2))] := hD
                  refine lv_aload_n hx hb d_Model_gets_91 rfl (lv_at hl 0 rfl) ?_
                  refine zk_get (C := R_Model) (T := F_Model) (N := 23) S hK (hP 0 _ rfl) rfl i_Model 16 (by decide) m_Model_42 rfl rfl d_Model_gets_92 ?_
                  refine lv_aload_n hx hb d_Model_gets_95 rfl (lv_at hl 0 rfl) ?_
                  refine zk_get (C := R_Model) (T := F_Model) (N := 23) S hK (hP 0 _ rfl) rfl i_Model 14 (by decide) m_Model_102 rfl rfl d_Model_gets_96 ?_
                  refine lv_iload_n hx hb d_Model_gets_99 rfl (lv_at hl 1 rfl) ?_
                  refine va_iast hx hb hK hP hD hS 2 3 rfl rfl (vp_in_nI (by omega) (by omega)) d_Model_gets_100 (fun H locs hP hD hS => ?_)
                  rw [nI_clamp (by omega)] at hP hD
                  have hP : va_P D classes [(y, .inr (6, [.ref mt, .int v1, .int (nI rs.length), .ref m1, .ref m2, .ref m3, .ref m4, .ref m5, .ref mP, .ref mA, .int v3, .int (nI (zNext rs st (zFirst rs st lns))), .int (nI ([] : List Nat).length), .ref ml, .int (nI mq.length), .ref mw, .ref mh, .long (lN t0), .int v7, .int v8, .ref mb, .ref mr, .ref mf])), (mw, .inl ((kA 1), 64, .inr (.inl (vp_updL fw mq.length (lN (t0 + (rs.getD i zR0).2.2.2.1)))))), (mh, .inl ((kA 3), 64, .inl (upd fh mq.length (nI i)))), (mf, .inl ((kA 2), 1025, .inl z2))] H := hP
                  have hD : va_D A [(y, .inr (6, [.ref mt, .int v1, .int (nI rs.length), .ref m1, .ref m2, .ref m3, .ref m4, .ref m5, .ref mP, .ref mA, .int v3, .int (nI (zNext rs st (zFirst rs st lns))), .int (nI ([] : List Nat).length), .ref ml, .int (nI mq.length), .ref mw, .ref mh, .long (lN t0), .int v7, .int v8, .ref mb, .ref mr, .ref mf])), (mw, .inl ((kA 1), 64, .inr (.inl (vp_updL fw mq.length (lN (t0 + (rs.getD i zR0).2.2.2.1)))))), (mh, .inl ((kA 3), 64, .inl (upd fh mq.length (nI i)))), (mf, .inl ((kA 2), 1025, .inl z2))] := hD
                  refine lv_aload_n hx hb d_Model_gets_101 rfl (lv_at hl 0 rfl) ?_
                  refine lv_dup hx hb d_Model_gets_102 rfl ?_
                  refine zk_get (C := R_Model) (T := F_Model) (N := 23) S hK (hP 0 _ rfl) rfl i_Model 14 (by decide) m_Model_102 rfl rfl d_Model_gets_103 ?_
                  refine lv_iconst (v := 1) hx hb d_Model_gets_106 (by decide) ?_
                  refine lv_iadd hx hb d_Model_gets_107 ?_
                  refine zk_ti (z := nI (zPush rs t0 mq (zFirst rs st lns)).length) (by rw [hPu, List.length_append]; exact nI_1 _) ?_
                  refine va_put (D := D) (ci := 6) (v := .int (nI (zPush rs t0 mq (zFirst rs st lns)).length)) (ty := .int) (C := R_Model) (T := F_Model) (N := 23) hx hb ht i_Model t_Model t_Model_ok n_Model hown hK hP hD hS 0 rfl rfl 14 (by decide) (ht _ m_Model_102) (fun _ h9 => h9) rfl (by decide +kernel) rfl rfl (Nat.le_of_ble_eq_true rfl) d_Model_gets_108 (fun H locs hP hD hS => ?_)
                  have hP : va_P D classes [(y, .inr (6, [.ref mt, .int v1, .int (nI rs.length), .ref m1, .ref m2, .ref m3, .ref m4, .ref m5, .ref mP, .ref mA, .int v3, .int (nI (zNext rs st (zFirst rs st lns))), .int (nI ([] : List Nat).length), .ref ml, .int (nI (zPush rs t0 mq (zFirst rs st lns)).length), .ref mw, .ref mh, .long (lN t0), .int v7, .int v8, .ref mb, .ref mr, .ref mf])), (mw, .inl ((kA 1), 64, .inr (.inl (vp_updL fw mq.length (lN (t0 + (rs.getD i zR0).2.2.2.1)))))), (mh, .inl ((kA 3), 64, .inl (upd fh mq.length (nI i)))), (mf, .inl ((kA 2), 1025, .inl z2))] H := hP
                  have hD : va_D A [(y, .inr (6, [.ref mt, .int v1, .int (nI rs.length), .ref m1, .ref m2, .ref m3, .ref m4, .ref m5, .ref mP, .ref mA, .int v3, .int (nI (zNext rs st (zFirst rs st lns))), .int (nI ([] : List Nat).length), .ref ml, .int (nI (zPush rs t0 mq (zFirst rs st lns)).length), .ref mw, .ref mh, .long (lN t0), .int v7, .int v8, .ref mb, .ref mr, .ref mf])), (mw, .inl ((kA 1), 64, .inr (.inl (vp_updL fw mq.length (lN (t0 + (rs.getD i zR0).2.2.2.1)))))), (mh, .inl ((kA 3), 64, .inl (upd fh mq.length (nI i)))), (mf, .inl ((kA 2), 1025, .inl z2))] := hD
                  exact zk_vret S hr hlk hS ⟨rfl, z2, _, _, hP.sub [0, 3, 1, 2] rfl, hD.sub [0, 3, 1, 2] (by decide) rfl, by rw [hPu]; exact MQr_snoc hmq _ _⟩ (Nat.le_refl _) (Nat.le_refl _) d_Model_gets_111
              · exact absurd ((nI_eq (by omega) (by omega)).mp c47) (by omega)
            · exact absurd c28 (by decide)
          · refine W.eq (g2 := F0 m 28 ls [.int 0]) rfl ?_
            have hP : va_P D classes [(y, .inr (6, [.ref mt, .int v1, .int (nI rs.length), .ref m1, .ref m2, .ref m3, .ref m4, .ref m5, .ref mP, .ref mA, .int v3, .int (nI st), .int (nI lns.length), .ref ml, .int (nI mq.length), .ref mw, .ref mh, .long (lN t0), .int v7, .int v8, .ref mb, .ref mr, .ref mf])), (mw, .inl ((kA 1), 64, .inr (.inl fw))), (mh, .inl ((kA 3), 64, .inl fh)), (mf, .inl ((kA 2), 1025, .inl z2))] H := hP
            have hD : va_D A [(y, .inr (6, [.ref mt, .int v1, .int (nI rs.length), .ref m1, .ref m2, .ref m3, .ref m4, .ref m5, .ref mP, .ref mA, .int v3, .int (nI st), .int (nI lns.length), .ref ml, .int (nI mq.length), .ref mw, .ref mh, .long (lN t0), .int v7, .int v8, .ref mb, .ref mr, .ref mf])), (mw, .inl ((kA 1), 64, .inr (.inl fw))), (mh, .inl ((kA 3), 64, .inl fh)), (mf, .inl ((kA 2), 1025, .inl z2))] := hD
            refine lv_if_ne (tgt := 37) hx hb d_Model_gets_28 (by decide) (fun c28 => ?_) (fun c28 => ?_)
            · exact absurd rfl c28
            · refine lv_iinc (v := nI (i + 1)) (lv' := [(1, .int (nI (i + 1))), (0, .ref y)]) hx hb d_Model_gets_31 hl (k := 1) rfl (nI_1 _) (by decide) rfl (fun ls hl => ?_)
              refine lv_goto (tgt := 2) hx hb d_Model_gets_34 (by decide) ?_
              exact ih (i + 1) z2 (by omega) (by omega) (fun j hj => by
                by_cases e : j = i
                · rw [e]; exact fun z => hfit z.2
                · exact hno j (by omega)) _ _ (hP.sub [0, 3, 1, 2] rfl) (hD.sub [0, 3, 1, 2] (by decide) rfl) hS ls (lv_sub hl [1, 0] rfl)
  exact lp (rs.length + 1) 0 zz (by omega) (Nat.zero_le _) (fun j hj => absurd hj (Nat.not_lt_zero j)) _ _ (hP.sub [0, 1, 2, 3] rfl) (hD.sub [0, 1, 2, 3] (by decide) rfl) hS ls (lv_sub hl [1, 0] rfl)

set_option maxHeartbeats 4000000 in
set_option maxRecDepth 100000 in
/-- PeerLineModel.spawn() -/
theorem c_Model_spawn (l : Launch) (D : va_G) (kA : Nat → ClassId) (y mt m1 m2 m3 m4 m5 mP mA ml mw mh mb mr mf : Nat) (v1 v3 v4 v5 v6 v7 v8 : Int32) (g1 g2 g3 g4 g5 fP fA : Nat → Int32) (rs : List zRule) (hrs : MRs rs g1 g2 g3 g4 g5 fP fA) (fl : Nat → Int32) (t0 : Nat) (fw : Nat → Int64) (fh : Nat → Int32) (zz : Nat → Int32) (sz0 : Nat) : Met l y_Model_spawn (Cond.code y_Model_spawn b_Model_spawn 1 none :: zTB) { frames := 6, cells := 0, slots := 0, locals := 150 } (zk_Pc D classes (zTY kA) [.ref y] (fun H => H.size = sz0 ∧ va_P D classes [(y, .inr (6, [.ref mt, .int v1, .int (nI rs.length), .ref m1, .ref m2, .ref m3, .ref m4, .ref m5, .ref mP, .ref mA, .int v3, .int v4, .int v5, .ref ml, .int v6, .ref mw, .ref mh, .long (lN t0), .int v7, .int v8, .ref mb, .ref mr, .ref mf])), (mf, .inl ((kA 2), 1025, .inl zz)), (mw, .inl ((kA 1), 64, .inr (.inl fw))), (mh, .inl ((kA 3), 64, .inl fh))] H ∧ va_D (fun _ => True) [(y, .inr (6, [.ref mt, .int v1, .int (nI rs.length), .ref m1, .ref m2, .ref m3, .ref m4, .ref m5, .ref mP, .ref mA, .int v3, .int v4, .int v5, .ref ml, .int v6, .ref mw, .ref mh, .long (lN t0), .int v7, .int v8, .ref mb, .ref mr, .ref mf])), (mf, .inl ((kA 2), 1025, .inl zz)), (mw, .inl ((kA 1), 64, .inr (.inl fw))), (mh, .inl ((kA 3), 64, .inl fh))] ∧ va_at D classes (mP, .inl (kA 0, 12800, .inl fP)) H ∧ ¬ (va_A [(y, .inr (6, [.ref mt, .int v1, .int (nI rs.length), .ref m1, .ref m2, .ref m3, .ref m4, .ref m5, .ref mP, .ref mA, .int v3, .int v4, .int v5, .ref ml, .int v6, .ref mw, .ref mh, .long (lN t0), .int v7, .int v8, .ref mb, .ref mr, .ref mf])), (mf, .inl ((kA 2), 1025, .inl zz)), (mw, .inl ((kA 1), 64, .inr (.inl fw))), (mh, .inl ((kA 3), 64, .inl fh))] sz0) mP ∧ va_at D classes (m4, .inl (kA 3, 64, .inl g4)) H ∧ ¬ (va_A [(y, .inr (6, [.ref mt, .int v1, .int (nI rs.length), .ref m1, .ref m2, .ref m3, .ref m4, .ref m5, .ref mP, .ref mA, .int v3, .int v4, .int v5, .ref ml, .int v6, .ref mw, .ref mh, .long (lN t0), .int v7, .int v8, .ref mb, .ref mr, .ref mf])), (mf, .inl ((kA 2), 1025, .inl zz)), (mw, .inl ((kA 1), 64, .inr (.inl fw))), (mh, .inl ((kA 3), 64, .inl fh))] sz0) m4 ∧ va_at D classes (ml, .inl (kA 0, 1024, .inl fl)) H ∧ ¬ (va_A [(y, .inr (6, [.ref mt, .int v1, .int (nI rs.length), .ref m1, .ref m2, .ref m3, .ref m4, .ref m5, .ref mP, .ref mA, .int v3, .int v4, .int v5, .ref ml, .int v6, .ref mw, .ref mh, .long (lN t0), .int v7, .int v8, .ref mb, .ref mr, .ref mf])), (mf, .inl ((kA 2), 1025, .inl zz)), (mw, .inl ((kA 1), 64, .inr (.inl fw))), (mh, .inl ((kA 3), 64, .inl fh))] sz0) ml ∧ va_at D classes (m1, .inl (kA 3, 64, .inl g1)) H ∧ ¬ (va_A [(y, .inr (6, [.ref mt, .int v1, .int (nI rs.length), .ref m1, .ref m2, .ref m3, .ref m4, .ref m5, .ref mP, .ref mA, .int v3, .int v4, .int v5, .ref ml, .int v6, .ref mw, .ref mh, .long (lN t0), .int v7, .int v8, .ref mb, .ref mr, .ref mf])), (mf, .inl ((kA 2), 1025, .inl zz)), (mw, .inl ((kA 1), 64, .inr (.inl fw))), (mh, .inl ((kA 3), 64, .inl fh))] sz0) m1 ∧ va_at D classes (m2, .inl (kA 3, 64, .inl g2)) H ∧ ¬ (va_A [(y, .inr (6, [.ref mt, .int v1, .int (nI rs.length), .ref m1, .ref m2, .ref m3, .ref m4, .ref m5, .ref mP, .ref mA, .int v3, .int v4, .int v5, .ref ml, .int v6, .ref mw, .ref mh, .long (lN t0), .int v7, .int v8, .ref mb, .ref mr, .ref mf])), (mf, .inl ((kA 2), 1025, .inl zz)), (mw, .inl ((kA 1), 64, .inr (.inl fw))), (mh, .inl ((kA 3), 64, .inl fh))] sz0) m2 ∧ va_at D classes (m3, .inl (kA 3, 64, .inl g3)) H ∧ ¬ (va_A [(y, .inr (6, [.ref mt, .int v1, .int (nI rs.length), .ref m1, .ref m2, .ref m3, .ref m4, .ref m5, .ref mP, .ref mA, .int v3, .int v4, .int v5, .ref ml, .int v6, .ref mw, .ref mh, .long (lN t0), .int v7, .int v8, .ref mb, .ref mr, .ref mf])), (mf, .inl ((kA 2), 1025, .inl zz)), (mw, .inl ((kA 1), 64, .inr (.inl fw))), (mh, .inl ((kA 3), 64, .inl fh))] sz0) m3)) (zk_mQ (fun v H => v = none ∧ ∃ zz' fw' fh', va_P D classes [(y, .inr (6, [.ref mt, .int v1, .int (nI rs.length), .ref m1, .ref m2, .ref m3, .ref m4, .ref m5, .ref mP, .ref mA, .int 1, .int (nI (zNext rs 0 (zFirst rs 0 []))), .int (nI ([] : List Nat).length), .ref ml, .int (nI (zPush rs t0 [] (zFirst rs 0 [])).length), .ref mw, .ref mh, .long (lN t0), .int (nI ([] : List Nat).length), .int v8, .ref mb, .ref mr, .ref mf])), (mf, .inl ((kA 2), 1025, .inl zz')), (mw, .inl ((kA 1), 64, .inr (.inl fw'))), (mh, .inl ((kA 3), 64, .inl fh'))] H ∧ va_D (va_A [(y, .inr (6, [.ref mt, .int v1, .int (nI rs.length), .ref m1, .ref m2, .ref m3, .ref m4, .ref m5, .ref mP, .ref mA, .int v3, .int v4, .int v5, .ref ml, .int v6, .ref mw, .ref mh, .long (lN t0), .int v7, .int v8, .ref mb, .ref mr, .ref mf])), (mf, .inl ((kA 2), 1025, .inl zz)), (mw, .inl ((kA 1), 64, .inr (.inl fw))), (mh, .inl ((kA 3), 64, .inl fh))] sz0) [(y, .inr (6, [.ref mt, .int v1, .int (nI rs.length), .ref m1, .ref m2, .ref m3, .ref m4, .ref m5, .ref mP, .ref mA, .int 1, .int (nI (zNext rs 0 (zFirst rs 0 []))), .int (nI ([] : List Nat).length), .ref ml, .int (nI (zPush rs t0 [] (zFirst rs 0 [])).length), .ref mw, .ref mh, .long (lN t0), .int (nI ([] : List Nat).length), .int v8, .ref mb, .ref mr, .ref mf])), (mf, .inl ((kA 2), 1025, .inl zz')), (mw, .inl ((kA 1), 64, .inr (.inl fw'))), (mh, .inl ((kA 3), 64, .inl fh'))] ∧ MQr (zPush rs t0 [] (zFirst rs 0 [])) fw' fh') (va_A [(y, .inr (6, [.ref mt, .int v1, .int (nI rs.length), .ref m1, .ref m2, .ref m3, .ref m4, .ref m5, .ref mP, .ref mA, .int v3, .int v4, .int v5, .ref ml, .int v6, .ref mw, .ref mh, .long (lN t0), .int v7, .int v8, .ref mb, .ref mr, .ref mf])), (mf, .inl ((kA 2), 1025, .inl zz)), (mw, .inl ((kA 1), 64, .inr (.inl fw))), (mh, .inl ((kA 3), 64, .inl fh))] sz0)) 0 0 (va_A [(y, .inr (6, [.ref mt, .int v1, .int (nI rs.length), .ref m1, .ref m2, .ref m3, .ref m4, .ref m5, .ref mP, .ref mA, .int v3, .int v4, .int v5, .ref ml, .int v6, .ref mw, .ref mh, .long (lN t0), .int v7, .int v8, .ref mb, .ref mr, .ref mf])), (mf, .inl ((kA 2), 1025, .inl zz)), (mw, .inl ((kA 1), 64, .inr (.inl fw))), (mh, .inl ((kA 3), 64, .inl fh))] sz0) := by
  refine zk_of [.ref y] (by decide) (Nat.le_of_ble_eq_true rfl) ?_
  intro p e s m below meth c S hr hlk hnm hK hX hpre ls hl
  obtain ⟨hx, hb, hml, hown, ht⟩ := id S
  have hl : lv_has ls 1 [(0, .ref y)] := hl
  obtain ⟨hsz, hP, hD0, a_mP, n_mP, a_m4, n_m4, a_ml, n_ml, a_m1, n_m1, a_m2, n_m2, a_m3, n_m3⟩ := hpre
  subst hsz
  have hD := hD0.self (sz := s.heap.size)
  generalize hAe : va_A [(y, .inr (6, [.ref mt, .int v1, .int (nI rs.length), .ref m1, .ref m2, .ref m3, .ref m4, .ref m5, .ref mP, .ref mA, .int v3, .int v4, .int v5, .ref ml, .int v6, .ref mw, .ref mh, .long (lN t0), .int v7, .int v8, .ref mb, .ref mr, .ref mf])), (mf, .inl ((kA 2), 1025, .inl zz)), (mw, .inl ((kA 1), 64, .inr (.inl fw))), (mh, .inl ((kA 3), 64, .inl fh))] s.heap.size = A at hD n_mP n_m4 n_ml n_m1 n_m2 n_m3 ⊢
  have hA : ∀ q : Nat, s.heap.size ≤ q → A q := fun q h => by rw [← hAe]; exact Or.inr h
  have hS : va_S A s.heap s.heap [] := va_S.rf
  have hP : va_P D classes [(y, .inr (6, [.ref mt, .int v1, .int (nI rs.length), .ref m1, .ref m2, .ref m3, .ref m4, .ref m5, .ref mP, .ref mA, .int v3, .int v4, .int v5, .ref ml, .int v6, .ref mw, .ref mh, .long (lN t0), .int v7, .int v8, .ref mb, .ref mr, .ref mf])), (mf, .inl ((kA 2), 1025, .inl zz)), (mw, .inl ((kA 1), 64, .inr (.inl fw))), (mh, .inl ((kA 3), 64, .inl fh))] s.heap := hP
  refine lv_aload_n hx hb d_Model_spawn_0 rfl (lv_at hl 0 rfl) ?_
  refine lv_iconst (v := 1) hx hb d_Model_spawn_1 (by decide) ?_
  refine va_put (D := D) (ci := 6) (v := .int 1) (ty := .boolean) (C := R_Model) (T := F_Model) (N := 23) hx hb ht i_Model t_Model t_Model_ok n_Model hown hK hP hD hS 0 rfl rfl 10 (by decide) (ht _ m_Model_109) (fun _ h9 => h9) rfl (by decide +kernel) rfl rfl (Nat.le_of_ble_eq_true rfl) d_Model_spawn_2 (fun H locs hP hD hS => ?_)
  have hP : va_P D classes [(y, .inr (6, [.ref mt, .int v1, .int (nI rs.length), .ref m1, .ref m2, .ref m3, .ref m4, .ref m5, .ref mP, .ref mA, .int 1, .int v4, .int v5, .ref ml, .int v6, .ref mw, .ref mh, .long (lN t0), .int v7, .int v8, .ref mb, .ref mr, .ref mf])), (mf, .inl ((kA 2), 1025, .inl zz)), (mw, .inl ((kA 1), 64, .inr (.inl fw))), (mh, .inl ((kA 3), 64, .inl fh))] H := hP
  have hD : va_D A [(y, .inr (6, [.ref mt, .int v1, .int (nI rs.length), .ref m1, .ref m2, .ref m3, .ref m4, .ref m5, .ref mP, .ref mA, .int 1, .int v4, .int v5, .ref ml, .int v6, .ref mw, .ref mh, .long (lN t0), .int v7, .int v8, .ref mb, .ref mr, .ref mf])), (mf, .inl ((kA 2), 1025, .inl zz)), (mw, .inl ((kA 1), 64, .inr (.inl fw))), (mh, .inl ((kA 3), 64, .inl fh))] := hD
  refine lv_aload_n hx hb d_Model_spawn_5 rfl (lv_at hl 0 rfl) ?_
  refine lv_iconst (v := 0) hx hb d_Model_spawn_6 (by decide) ?_
  refine zk_ti (z := nI 0) (rfl) ?_
  refine va_put (D := D) (ci := 6) (v := .int (nI 0)) (ty := .int) (C := R_Model) (T := F_Model) (N := 23) hx hb ht i_Model t_Model t_Model_ok n_Model hown hK hP hD hS 0 rfl rfl 11 (by decide) (ht _ m_Model_95) (fun _ h9 => h9) rfl (by decide +kernel) rfl rfl (Nat.le_of_ble_eq_true rfl) d_Model_spawn_7 (fun H locs hP hD hS => ?_)
  have hP : va_P D classes [(y, .inr (6, [.ref mt, .int v1, .int (nI rs.length), .ref m1, .ref m2, .ref m3, .ref m4, .ref m5, .ref mP, .ref mA, .int 1, .int (nI 0), .int v5, .ref ml, .int v6, .ref mw, .ref mh, .long (lN t0), .int v7, .int v8, .ref mb, .ref mr, .ref mf])), (mf, .inl ((kA 2), 1025, .inl zz)), (mw, .inl ((kA 1), 64, .inr (.inl fw))), (mh, .inl ((kA 3), 64, .inl fh))] H := hP
  have hD : va_D A [(y, .inr (6, [.ref mt, .int v1, .int (nI rs.length), .ref m1, .ref m2, .ref m3, .ref m4, .ref m5, .ref mP, .ref mA, .int 1, .int (nI 0), .int v5, .ref ml, .int v6, .ref mw, .ref mh, .long (lN t0), .int v7, .int v8, .ref mb, .ref mr, .ref mf])), (mf, .inl ((kA 2), 1025, .inl zz)), (mw, .inl ((kA 1), 64, .inr (.inl fw))), (mh, .inl ((kA 3), 64, .inl fh))] := hD
  refine lv_aload_n hx hb d_Model_spawn_10 rfl (lv_at hl 0 rfl) ?_
  refine lv_iconst (v := 0) hx hb d_Model_spawn_11 (by decide) ?_
  refine zk_ti (z := nI ([] : List Nat).length) (rfl) ?_
  refine va_put (D := D) (ci := 6) (v := .int (nI ([] : List Nat).length)) (ty := .int) (C := R_Model) (T := F_Model) (N := 23) hx hb ht i_Model t_Model t_Model_ok n_Model hown hK hP hD hS 0 rfl rfl 12 (by decide) (ht _ m_Model_86) (fun _ h9 => h9) rfl (by decide +kernel) rfl rfl (Nat.le_of_ble_eq_true rfl) d_Model_spawn_12 (fun H locs hP hD hS => ?_)
  have hP : va_P D classes [(y, .inr (6, [.ref mt, .int v1, .int (nI rs.length), .ref m1, .ref m2, .ref m3, .ref m4, .ref m5, .ref mP, .ref mA, .int 1, .int (nI 0), .int (nI ([] : List Nat).length), .ref ml, .int v6, .ref mw, .ref mh, .long (lN t0), .int v7, .int v8, .ref mb, .ref mr, .ref mf])), (mf, .inl ((kA 2), 1025, .inl zz)), (mw, .inl ((kA 1), 64, .inr (.inl fw))), (mh, .inl ((kA 3), 64, .inl fh))] H := hP
  have hD : va_D A [(y, .inr (6, [.ref mt, .int v1, .int (nI rs.length), .ref m1, .ref m2, .ref m3, .ref m4, .ref m5, .ref mP, .ref mA, .int 1, .int (nI 0), .int (nI ([] : List Nat).length), .ref ml, .int v6, .ref mw, .ref mh, .long (lN t0), .int v7, .int v8, .ref mb, .ref mr, .ref mf])), (mf, .inl ((kA 2), 1025, .inl zz)), (mw, .inl ((kA 1), 64, .inr (.inl fw))), (mh, .inl ((kA 3), 64, .inl fh))] := hD
  refine lv_aload_n hx hb d_Model_spawn_15 rfl (lv_at hl 0 rfl) ?_
  refine lv_iconst (v := 0) hx hb d_Model_spawn_16 (by decide) ?_
  refine zk_ti (z := nI ([] : List (Nat × Nat)).length) (rfl) ?_
  refine va_put (D := D) (ci := 6) (v := .int (nI ([] : List (Nat × Nat)).length)) (ty := .int) (C := R_Model) (T := F_Model) (N := 23) hx hb ht i_Model t_Model t_Model_ok n_Model hown hK hP hD hS 0 rfl rfl 14 (by decide) (ht _ m_Model_102) (fun _ h9 => h9) rfl (by decide +kernel) rfl rfl (Nat.le_of_ble_eq_true rfl) d_Model_spawn_17 (fun H locs hP hD hS => ?_)
  have hP : va_P D classes [(y, .inr (6, [.ref mt, .int v1, .int (nI rs.length), .ref m1, .ref m2, .ref m3, .ref m4, .ref m5, .ref mP, .ref mA, .int 1, .int (nI 0), .int (nI ([] : List Nat).length), .ref ml, .int (nI ([] : List (Nat × Nat)).length), .ref mw, .ref mh, .long (lN t0), .int v7, .int v8, .ref mb, .ref mr, .ref mf])), (mf, .inl ((kA 2), 1025, .inl zz)), (mw, .inl ((kA 1), 64, .inr (.inl fw))), (mh, .inl ((kA 3), 64, .inl fh))] H := hP
  have hD : va_D A [(y, .inr (6, [.ref mt, .int v1, .int (nI rs.length), .ref m1, .ref m2, .ref m3, .ref m4, .ref m5, .ref mP, .ref mA, .int 1, .int (nI 0), .int (nI ([] : List Nat).length), .ref ml, .int (nI ([] : List (Nat × Nat)).length), .ref mw, .ref mh, .long (lN t0), .int v7, .int v8, .ref mb, .ref mr, .ref mf])), (mf, .inl ((kA 2), 1025, .inl zz)), (mw, .inl ((kA 1), 64, .inr (.inl fw))), (mh, .inl ((kA 3), 64, .inl fh))] := hD
  refine lv_aload_n hx hb d_Model_spawn_20 rfl (lv_at hl 0 rfl) ?_
  refine lv_iconst (v := 0) hx hb d_Model_spawn_21 (by decide) ?_
  refine zk_ti (z := nI ([] : List Nat).length) (rfl) ?_
  refine va_put (D := D) (ci := 6) (v := .int (nI ([] : List Nat).length)) (ty := .int) (C := R_Model) (T := F_Model) (N := 23) hx hb ht i_Model t_Model t_Model_ok n_Model hown hK hP hD hS 0 rfl rfl 18 (by decide) (ht _ m_Model_113) (fun _ h9 => h9) rfl (by decide +kernel) rfl rfl (Nat.le_of_ble_eq_true rfl) d_Model_spawn_22 (fun H locs hP hD hS => ?_)
  have hP : va_P D classes [(y, .inr (6, [.ref mt, .int v1, .int (nI rs.length), .ref m1, .ref m2, .ref m3, .ref m4, .ref m5, .ref mP, .ref mA, .int 1, .int (nI 0), .int (nI ([] : List Nat).length), .ref ml, .int (nI ([] : List (Nat × Nat)).length), .ref mw, .ref mh, .long (lN t0), .int (nI ([] : List Nat).length), .int v8, .ref mb, .ref mr, .ref mf])), (mf, .inl ((kA 2), 1025, .inl zz)), (mw, .inl ((kA 1), 64, .inr (.inl fw))), (mh, .inl ((kA 3), 64, .inl fh))] H := hP
  have hD : va_D A [(y, .inr (6, [.ref mt, .int v1, .int (nI rs.length), .ref m1, .ref m2, .ref m3, .ref m4, .ref m5, .ref mP, .ref mA, .int 1, .int (nI 0), .int (nI ([] : List Nat).length), .ref ml, .int (nI ([] : List (Nat × Nat)).length), .ref mw, .ref mh, .long (lN t0), .int (nI ([] : List Nat).length), .int v8, .ref mb, .ref mr, .ref mf])), (mf, .inl ((kA 2), 1025, .inl zz)), (mw, .inl ((kA 1), 64, .inr (.inl fw))), (mh, .inl ((kA 3), 64, .inl fh))] := hD
  refine lv_aload_n hx hb d_Model_spawn_25 rfl (lv_at hl 0 rfl) ?_
  have hFc := va_free (wc := [(y, .inr (6, [.ref mt, .int v1, .int (nI rs.length), .ref m1, .ref m2, .ref m3, .ref m4, .ref m5, .ref mP, .ref mA, .int 1, .int (nI 0), .int (nI ([] : List Nat).length), .ref ml, .int (nI ([] : List (Nat × Nat)).length), .ref mw, .ref mh, .long (lN t0), .int (nI ([] : List Nat).length), .int v8, .ref mb, .ref mr, .ref mf])), (mf, .inl ((kA 2), 1025, .inl zz)), (mw, .inl ((kA 1), 64, .inr (.inl fw))), (mh, .inl ((kA 3), 64, .inl fh))]) hD hS hA [0, 1, 2, 3] rfl
  refine zk_mut (zk_runV (As := []) (rest := []) S m_Model_116 (c_Model_gets l D kA y mt m1 m2 m3 m4 m5 mP mA ml mw mh mb mr mf v1 1 (nI ([] : List Nat).length) v8 g1 g2 g3 g4 g5 fP fA rs hrs fl [] 0 t0 (by decide) [] (Nat.zero_le _) fw fh zz H.size) rfl rfl ⟨Nat.le_of_ble_eq_true rfl, Nat.le_of_ble_eq_true rfl⟩ hK hX (zk_recv hK (hP 0 _ rfl) rfl) ⟨rfl, hP.sub (ws' := [(y, .inr (6, [.ref mt, .int v1, .int (nI rs.length), .ref m1, .ref m2, .ref m3, .ref m4, .ref m5, .ref mP, .ref mA, .int 1, .int (nI 0), .int (nI ([] : List Nat).length), .ref ml, .int (nI ([] : List (Nat × Nat)).length), .ref mw, .ref mh, .long (lN t0), .int (nI ([] : List Nat).length), .int v8, .ref mb, .ref mr, .ref mf])), (mf, .inl ((kA 2), 1025, .inl zz)), (mw, .inl ((kA 1), 64, .inr (.inl fw))), (mh, .inl ((kA 3), 64, .inl fh))]) [0, 1, 2, 3] rfl, (hD.sub (ws' := [(y, .inr (6, [.ref mt, .int v1, .int (nI rs.length), .ref m1, .ref m2, .ref m3, .ref m4, .ref m5, .ref mP, .ref mA, .int 1, .int (nI 0), .int (nI ([] : List Nat).length), .ref ml, .int (nI ([] : List (Nat × Nat)).length), .ref mw, .ref mh, .long (lN t0), .int (nI ([] : List Nat).length), .int v8, .ref mb, .ref mr, .ref mf])), (mf, .inl ((kA 2), 1025, .inl zz)), (mw, .inl ((kA 1), 64, .inr (.inl fw))), (mh, .inl ((kA 3), 64, .inl fh))]) [0, 1, 2, 3] (by decide) rfl).weaken (fun _ _ _ _ => trivial), zRw_nil, (fun i hi => absurd hi (Nat.not_lt_zero i)), zk_ro hS a_mP n_mP, fun z => n_mP (hFc _ z), zk_ro hS a_m4 n_m4, fun z => n_m4 (hFc _ z), zk_ro hS a_ml n_ml, fun z => n_ml (hFc _ z), zk_ro hS a_m1 n_m1, fun z => n_m1 (hFc _ z), zk_ro hS a_m2 n_m2, fun z => n_m2 (hFc _ z), zk_ro hS a_m3 n_m3, fun z => n_m3 (hFc _ z)⟩ rfl hl.1 rfl (Nat.le_of_ble_eq_true rfl) ⟨Nat.le_of_ble_eq_true rfl, Nat.le_of_ble_eq_true rfl⟩ d_Model_spawn_26) hS hFc hFc (fun v H locs hpost hz1 hk1 hS => ?_)
  obtain ⟨rfl, zz', fw', fh', hP1, hD1, hmq⟩ := hpost
  obtain ⟨hP, hD⟩ := va_join (wr := []) (w1 := [(y, .inr (6, [.ref mt, .int v1, .int (nI rs.length), .ref m1, .ref m2, .ref m3, .ref m4, .ref m5, .ref mP, .ref mA, .int 1, .int (nI (zNext rs 0 (zFirst rs 0 []))), .int (nI ([] : List Nat).length), .ref ml, .int (nI (zPush rs t0 [] (zFirst rs 0 [])).length), .ref mw, .ref mh, .long (lN t0), .int (nI ([] : List Nat).length), .int v8, .ref mb, .ref mr, .ref mf])), (mf, .inl ((kA 2), 1025, .inl zz')), (mw, .inl ((kA 1), 64, .inr (.inl fw'))), (mh, .inl ((kA 3), 64, .inl fh'))]) hP hD [0, 1, 2, 3] [] rfl rfl (by decide) (by decide) hk1 hFc hP1 hD1
  refine W.eq (g2 := F0 m 29 ls []) rfl ?_
  have hP : va_P D classes [(y, .inr (6, [.ref mt, .int v1, .int (nI rs.length), .ref m1, .ref m2, .ref m3, .ref m4, .ref m5, .ref mP, .ref mA, .int 1, .int (nI (zNext rs 0 (zFirst rs 0 []))), .int (nI ([] : List Nat).length), .ref ml, .int (nI (zPush rs t0 [] (zFirst rs 0 [])).length), .ref mw, .ref mh, .long (lN t0), .int (nI ([] : List Nat).length), .int v8, .ref mb, .ref mr, .ref mf])), (mf, .inl ((kA 2), 1025, .inl zz')), (mw, .inl ((kA 1), 64, .inr (.inl fw'))), (mh, .inl ((kA 3), 64, .inl fh'))] H := hP
  have hD : va_D A [(y, .inr (6, [.ref mt, .int v1, .int (nI rs.length), .ref m1, .ref m2, .ref m3, .ref m4, .ref m5, .ref mP, .ref mA, .int 1, .int (nI (zNext rs 0 (zFirst rs 0 []))), .int (nI ([] : List Nat).length), .ref ml, .int (nI (zPush rs t0 [] (zFirst rs 0 [])).length), .ref mw, .ref mh, .long (lN t0), .int (nI ([] : List Nat).length), .int v8, .ref mb, .ref mr, .ref mf])), (mf, .inl ((kA 2), 1025, .inl zz')), (mw, .inl ((kA 1), 64, .inr (.inl fw'))), (mh, .inl ((kA 3), 64, .inl fh'))] := hD
  exact zk_vret S hr hlk hS ⟨rfl, zz', fw', fh', hP, hD, hmq⟩ (Nat.le_refl _) (Nat.le_refl _) d_Model_spawn_29
