def rSel (bs : List Nat) (e a : Nat) : List (Nat × Nat) := if bs.getD a 0 = 63 then [(0, 255)] else if bs.getD a 0 = 91 then rOne bs e (a + 1) else if bs.getD a 0 = 92 ∧ a + 1 < e then [(bs.getD (a + 1) 0, bs.getD (a + 1) 0)] else [(bs.getD a 0, bs.getD a 0)]
theorem pIn_1 {c x : Nat} : pIn [(c, c)] x = decide (x = c) := by
  unfold pIn
  simp only [List.any_cons, List.any_nil, Bool.or_false]
  by_cases h : x = c
  · simp [h]
  · have : ¬ (c ≤ x ∧ x ≤ c) := fun z => h (by omega)
    rw [decide_eq_false h, ← Bool.decide_and, decide_eq_false this]
theorem pIn_all {x : Nat} (h : x < 256) : pIn [(0, 255)] x = true := by
  unfold pIn
  simp
  omega
set_option maxHeartbeats 4000000 in
set_option maxRecDepth 100000 in
/-- PeerLineModel.one(p, k, stop, text, size) -/
theorem c_Model_one (l : Launch) (D : va_G) (kA : Nat → ClassId) (y mt m1 m2 m3 m4 m5 mP mA ml mw mh mb mr mf : Nat) (v1 v2 v3 v4 v5 v6 v7 v8 : Int32) (tm : Int64) (p0 N b a e0 n : Nat) (f : Nat → Int32) (bs : List Nat) (ha : a < e0) (he : e0 ≤ n) (hN : b + n ≤ N) (hN2 : N ≤ 65536) (hpt : PatIn f b n bs) (tx Nt : Nat) (tf : Nat → Int32) (txs : List Nat) (hNt : txs.length ≤ Nt) (hNt2 : Nt ≤ 65536) (htl : txs.length ≤ 1024) (htx : PatIn tf 0 txs.length txs) (zz : Nat → Int32) (sz0 : Nat) : Met l y_Model_one (Cond.code y_Model_one b_Model_one 10 none :: zTB) { frames := 2, cells := 0, slots := 0, locals := 49 } (zk_Pc D classes (zTY kA) [.ref y, .ref p0, .int (nI (b + a)), .int (nI (b + e0)), .ref tx, .int (nI txs.length)] (fun H => H.size = sz0 ∧ va_P D classes [(mf, .inl ((kA 2), 1025, .inl zz))] H ∧ va_D (fun _ => True) [(mf, .inl ((kA 2), 1025, .inl zz))] ∧ va_at D classes (y, .inr (6, [.ref mt, .int v1, .int v2, .ref m1, .ref m2, .ref m3, .ref m4, .ref m5, .ref mP, .ref mA, .int v3, .int v4, .int v5, .ref ml, .int v6, .ref mw, .ref mh, .long tm, .int v7, .int v8, .ref mb, .ref mr, .ref mf])) H ∧ ¬ (va_A [(mf, .inl ((kA 2), 1025, .inl zz))] sz0) y ∧ va_at D classes (p0, .inl (kA 0, N, .inl f)) H ∧ ¬ (va_A [(mf, .inl ((kA 2), 1025, .inl zz))] sz0) p0 ∧ va_at D classes (tx, .inl (kA 0, Nt, .inl tf)) H ∧ ¬ (va_A [(mf, .inl ((kA 2), 1025, .inl zz))] sz0) tx ∧ ∀ j, j ≤ txs.length → zz j = 0 ∨ zz j = 1)) (zk_mQ (fun v H => v = none ∧ ∃ zz', va_P D classes [(mf, .inl (kA 2, 1025, .inl zz'))] H ∧ va_D (va_A [(mf, .inl ((kA 2), 1025, .inl zz))] sz0) [(mf, .inl (kA 2, 1025, .inl zz'))] ∧ (∀ j, j ≤ txs.length → zz' j = 0 ∨ zz' j = 1) ∧ zz' 0 = 0 ∧ ∀ j, j < txs.length → (zz' (j + 1) = 1 ↔ zz j = 1 ∧ pIn (rSel bs e0 a) (txs.getD j 0) = true)) (va_A [(mf, .inl ((kA 2), 1025, .inl zz))] sz0)) 0 0 (va_A [(mf, .inl ((kA 2), 1025, .inl zz))] sz0) := by
  refine zk_of [.ref y, .ref p0, .int (nI (b + a)), .int (nI (b + e0)), .ref tx, .int (nI txs.length)] (by decide) (Nat.le_of_ble_eq_true rfl) ?_
  intro p e s m below meth c S hr hlk hnm hK hX hpre ls hl
  obtain ⟨hx, hb, hml, hown, ht⟩ := id S
  have hl : lv_has ls 10 [(0, .ref y), (1, .ref p0), (2, .int (nI (b + a))), (3, .int (nI (b + e0))), (4, .ref tx), (5, .int (nI txs.length))] := hl
  obtain ⟨hsz, hP, hD0, hy0, hyA, hp0, hpA, ht0, htA, hz01⟩ := hpre
  subst hsz
  have hD := hD0.self (sz := s.heap.size)
  generalize hAe : va_A [(mf, .inl ((kA 2), 1025, .inl zz))] s.heap.size = A at hD hyA hpA htA ⊢
  have hA : ∀ q : Nat, s.heap.size ≤ q → A q := fun q h => by rw [← hAe]; exact Or.inr h
  have hS : va_S A s.heap s.heap [] := va_S.rf
  have hP : va_P D classes [(mf, .inl ((kA 2), 1025, .inl zz))] s.heap := hP
  have hpa := hpt a (by omega)
  have hE := sbE _ hpa.1
  refine lv_aload_n hx hb d_Model_one_0 rfl (lv_at hl 1 rfl) ?_
  refine lv_iload_n hx hb d_Model_one_1 rfl (lv_at hl 2 rfl) ?_
  refine zk_bald S hK 0 (zk_ro hS hp0 hpA) rfl (vp_in_nI (by omega) (by omega)) d_Model_one_2 ?_
  refine zk_ti (z := sb_b (bs.getD a 0)) (by rw [nI_clamp (by omega)]; exact hpa.2) ?_
  refine lv_istore (lv' := [(6, .int (sb_b (bs.getD a 0))), (0, .ref y), (1, .ref p0), (2, .int (nI (b + a))), (3, .int (nI (b + e0))), (4, .ref tx), (5, .int (nI txs.length))]) hx hb d_Model_one_3 hl (by decide) rfl (fun ls hl => ?_)
  refine lv_iload hx hb d_Model_one_5 (lv_at hl 6 rfl) ?_
  refine lv_istore (lv' := [(7, .int (nI txs.length)), (6, .int (sb_b (bs.getD a 0))), (0, .ref y), (1, .ref p0), (2, .int (nI (b + a))), (3, .int (nI (b + e0))), (4, .ref tx), (5, .int (nI txs.length))]) hx hb d_Model_one_7 hl (by decide) rfl (fun ls hl => ?_)
  have lp : ∀ (fu : Nat) (q : Nat) (z1 : Nat → Int32), q < fu → q ≤ txs.length → (∀ j, j ≤ q → z1 j = zz j) → (∀ j, q < j → j ≤ txs.length → (z1 j = 0 ∨ z1 j = 1) ∧ (z1 j = 1 ↔ zz (j - 1) = 1 ∧ pIn (rSel bs e0 a) (txs.getD (j - 1) 0) = true)) → ∀ (H : Heap) (locs : List Loc), va_P D classes [(mf, .inl ((kA 2), 1025, .inl z1))] H → va_D A [(mf, .inl ((kA 2), 1025, .inl z1))] → va_S A s.heap H locs → ∀ ls : Array Slot, lv_has ls 10 [(0, .ref y), (1, .ref p0), (2, .int (nI (b + a))), (3, .int (nI (b + e0))), (4, .ref tx), (5, .int (nI txs.length)), (6, .int (sb_b (bs.getD a 0))), (7, .int (nI q))] → W p l e { frames := 2, cells := 0, slots := 0, locals := 49 } s m [.ref y, .ref p0, .int (nI (b + a)), .int (nI (b + e0)), .ref tx, .int (nI txs.length)].toArray below meth c H locs 0 0 (MQ below (zk_mQ (fun v H => v = none ∧ ∃ zz', va_P D classes [(mf, .inl (kA 2, 1025, .inl zz'))] H ∧ va_D A [(mf, .inl (kA 2, 1025, .inl zz'))] ∧ (∀ j, j ≤ txs.length → zz' j = 0 ∨ zz' j = 1) ∧ zz' 0 = 0 ∧ ∀ j, j < txs.length → (zz' (j + 1) = 1 ↔ zz j = 1 ∧ pIn (rSel bs e0 a) (txs.getD j 0) = true)) A) [.ref y, .ref p0, .int (nI (b + a)), .int (nI (b + e0)), .ref tx, .int (nI txs.length)].toArray s 0 0 A) (F0 m 9 ls []) := by
    intro fu
    induction fu with
    | zero => intro q z1 hfu; exact absurd hfu (Nat.not_lt_zero _)
    | succ fu ih =>
      intro q z1 hfu hq hlo hhi H locs hP hD hS ls hl
      refine lv_iload hx hb d_Model_one_9 (lv_at hl 7 rfl) ?_
      refine lv_if_le (tgt := 141) hx hb d_Model_one_11 (by decide) (fun c11 => ?_) (fun c11 => ?_)
      · refine lv_aload_n hx hb d_Model_one_141 rfl (lv_at hl 0 rfl) ?_
        refine zk_get (C := R_Model) (T := F_Model) (N := 23) S hK (zk_ro hS hy0 hyA) rfl i_Model 22 (by decide) m_Model_52 rfl rfl d_Model_one_142 ?_
        refine lv_iconst (v := 0) hx hb d_Model_one_145 (by decide) ?_
        refine lv_iconst (v := 0) hx hb d_Model_one_146 (by decide) ?_
        refine va_zast hx hb hK hP hD hS 0 2 rfl rfl (by unfold vp_in; decide) d_Model_one_147 (fun H locs hP hD hS => ?_)
        rw [show (0 : Int32).toNatClampNeg = 0 from rfl, show vp_nar .boolean 0 = 0 from rfl] at hP hD
        have hP : va_P D classes [(mf, .inl ((kA 2), 1025, .inl (upd z1 0 0)))] H := hP
        have hD : va_D A [(mf, .inl ((kA 2), 1025, .inl (upd z1 0 0)))] := hD
        have hq0 : q = 0 := by
          by_cases z : q = 0
          · exact z
          · exact absurd c11 (nI_nle (by omega) (by omega))
        subst hq0
        exact zk_vret S hr hlk hS ⟨rfl, _, hP, hD, fun j hj => by
          by_cases e : j = 0
          · rw [e, pk_us]; exact Or.inl rfl
          · rw [pk_un e]; exact (hhi j (by omega) hj).1, pk_us, fun j hj => by
          rw [pk_un (by omega)]
          exact (hhi (j + 1) (by omega) (by omega)).2⟩ (Nat.le_refl _) (Nat.le_refl _) d_Model_one_148
      · have q0 : 0 < q := by
          by_cases z : q = 0
          · exact absurd (show nI q ≤ 0 by rw [z]; decide) c11
          · omega
        have hxx := htx (q - 1) (by omega)
        rw [Nat.zero_add] at hxx
        refine lv_aload hx hb d_Model_one_14 (lv_at hl 4 rfl) ?_
        refine lv_iload hx hb d_Model_one_16 (lv_at hl 7 rfl) ?_
        refine lv_iconst (v := 1) hx hb d_Model_one_18 (by decide) ?_
        refine lv_isub hx hb d_Model_one_19 ?_
        refine zk_ti (z := nI (q - 1)) (by rw [show (1 : Int32) = nI 1 from rfl]; exact pk_sub (by omega)) ?_
        refine zk_bald S hK 0 (zk_ro hS ht0 htA) rfl (vp_in_nI (by omega) (by omega)) d_Model_one_20 ?_
        refine zk_ti (z := sb_b (txs.getD (q - 1) 0)) (by rw [nI_clamp (by omega)]; exact hxx.2) ?_
        refine lv_sipush (v := 255) hx hb d_Model_one_21 (by decide) ?_
        refine lv_iand hx hb d_Model_one_24 ?_
        refine zk_ti (z := nI (txs.getD (q - 1) 0)) ((sb_byte _ hxx.1).1) ?_
        refine lv_istore (lv' := [(8, .int (nI (txs.getD (q - 1) 0))), (0, .ref y), (1, .ref p0), (2, .int (nI (b + a))), (3, .int (nI (b + e0))), (4, .ref tx), (5, .int (nI txs.length)), (6, .int (sb_b (bs.getD a 0))), (7, .int (nI q))]) hx hb d_Model_one_25 hl (by decide) rfl (fun ls hl => ?_)
        have jn : ∀ (isb : Bool), isb = pIn (rSel bs e0 a) (txs.getD (q - 1) 0) → ∀ ls : Array Slot, lv_has ls 10 [(0, .ref y), (1, .ref p0), (2, .int (nI (b + a))), (3, .int (nI (b + e0))), (4, .ref tx), (5, .int (nI txs.length)), (6, .int (sb_b (bs.getD a 0))), (7, .int (nI q)), (8, .int (nI (txs.getD (q - 1) 0)))] → W p l e { frames := 2, cells := 0, slots := 0, locals := 49 } s m [.ref y, .ref p0, .int (nI (b + a)), .int (nI (b + e0)), .ref tx, .int (nI txs.length)].toArray below meth c H locs 0 0 (MQ below (zk_mQ (fun v H => v = none ∧ ∃ zz', va_P D classes [(mf, .inl (kA 2, 1025, .inl zz'))] H ∧ va_D A [(mf, .inl (kA 2, 1025, .inl zz'))] ∧ (∀ j, j ≤ txs.length → zz' j = 0 ∨ zz' j = 1) ∧ zz' 0 = 0 ∧ ∀ j, j < txs.length → (zz' (j + 1) = 1 ↔ zz j = 1 ∧ pIn (rSel bs e0 a) (txs.getD j 0) = true)) A) [.ref y, .ref p0, .int (nI (b + a)), .int (nI (b + e0)), .ref tx, .int (nI txs.length)].toArray s 0 0 A) (F0 m 104 ls [.int (if isb then 1 else 0)]) := by
          intro isb hisb ls hl
          refine lv_istore (lv' := [(9, .int (if isb then 1 else 0)), (0, .ref y), (1, .ref p0), (2, .int (nI (b + a))), (3, .int (nI (b + e0))), (4, .ref tx), (5, .int (nI txs.length)), (6, .int (sb_b (bs.getD a 0))), (7, .int (nI q)), (8, .int (nI (txs.getD (q - 1) 0)))]) hx hb d_Model_one_104 hl (by decide) rfl (fun ls hl => ?_)
          refine lv_aload_n hx hb d_Model_one_106 rfl (lv_at hl 1 rfl) ?_
          refine zk_get (C := R_Model) (T := F_Model) (N := 23) S hK (zk_ro hS hy0 hyA) rfl i_Model 22 (by decide) m_Model_52 rfl rfl d_Model_one_107 ?_
          refine lv_iload hx hb d_Model_one_110 (lv_at hl 8 rfl) ?_
          refine lv_aload_n hx hb d_Model_one_112 rfl (lv_at hl 1 rfl) ?_
          refine zk_get (C := R_Model) (T := F_Model) (N := 23) S hK (zk_ro hS hy0 hyA) rfl i_Model 22 (by decide) m_Model_52 rfl rfl d_Model_one_113 ?_
          refine lv_iload hx hb d_Model_one_116 (lv_at hl 8 rfl) ?_
          refine lv_iconst (v := 1) hx hb d_Model_one_118 (by decide) ?_
          refine lv_isub hx hb d_Model_one_119 ?_
          refine zk_ti (z := nI (q - 1)) (by rw [show (1 : Int32) = nI 1 from rfl]; exact pk_sub (by omega)) ?_
          refine zk_zald S hK 2 (hP 0 _ rfl) rfl (vp_in_nI (by omega) (by omega)) d_Model_one_120 ?_
          refine zk_ti (z := zz (q - 1)) (by rw [nI_clamp (by omega)]; exact hlo (q - 1) (by omega)) ?_
          refine lv_if_eq (tgt := 133) hx hb d_Model_one_121 (by decide) (fun c121 => ?_) (fun c121 => ?_)
          · refine lv_iconst (v := 0) hx hb d_Model_one_133 (by decide) ?_
            refine va_zast hx hb hK hP hD hS 0 2 rfl rfl (vp_in_nI (by omega) (by omega)) d_Model_one_134 (fun H locs hP hD hS => ?_)
            rw [nI_clamp (by omega), show vp_nar .boolean 0 = 0 from rfl] at hP hD
            have hP : va_P D classes [(mf, .inl ((kA 2), 1025, .inl (upd z1 q 0)))] H := hP
            have hD : va_D A [(mf, .inl ((kA 2), 1025, .inl (upd z1 q 0)))] := hD
            refine lv_iinc (v := (nI (q - 1))) (lv' := [(7, .int (nI (q - 1))), (9, .int (if isb then 1 else 0)), (0, .ref y), (1, .ref p0), (2, .int (nI (b + a))), (3, .int (nI (b + e0))), (4, .ref tx), (5, .int (nI txs.length)), (6, .int (sb_b (bs.getD a 0))), (8, .int (nI (txs.getD (q - 1) 0)))]) hx hb d_Model_one_135 hl (k := 8) rfl (by rw [show Int32.ofInt (-1) = -1 from rfl]; exact sb_m1 q0) (by decide) rfl (fun ls hl => ?_)
            refine lv_goto (tgt := 9) hx hb d_Model_one_138 (by decide) ?_
            exact ih (q - 1) (upd z1 q 0) (by omega) (by omega) (fun j hj => by rw [pk_un (by omega)]; exact hlo j (by omega)) (fun j h1 h2 => by
              by_cases e : j = q
              · rw [e, pk_us]
                refine ⟨by decide, ?_⟩
                exact ⟨fun z9 => absurd z9 (by decide), fun z9 => absurd (c121.symm.trans z9.1) (by decide)⟩
              · rw [pk_un e]; exact hhi j (by omega) h2) _ _ (hP.sub [0] rfl) (hD.sub [0] (by decide) rfl) hS ls (lv_sub hl [2, 3, 4, 5, 6, 7, 8, 0] rfl)
          · refine lv_iload hx hb d_Model_one_124 (lv_at hl 0 rfl) ?_
            refine lv_if_eq (tgt := 133) hx hb d_Model_one_126 (by decide) (fun c126 => ?_) (fun c126 => ?_)
            · have hb0 : isb = false := by
                cases isb
                · rfl
                · exact absurd c126 (by decide)
              refine lv_iconst (v := 0) hx hb d_Model_one_133 (by decide) ?_
              refine va_zast hx hb hK hP hD hS 0 2 rfl rfl (vp_in_nI (by omega) (by omega)) d_Model_one_134 (fun H locs hP hD hS => ?_)
              rw [nI_clamp (by omega), show vp_nar .boolean 0 = 0 from rfl] at hP hD
              have hP : va_P D classes [(mf, .inl ((kA 2), 1025, .inl (upd z1 q 0)))] H := hP
              have hD : va_D A [(mf, .inl ((kA 2), 1025, .inl (upd z1 q 0)))] := hD
              refine lv_iinc (v := (nI (q - 1))) (lv' := [(7, .int (nI (q - 1))), (9, .int (if isb then 1 else 0)), (0, .ref y), (1, .ref p0), (2, .int (nI (b + a))), (3, .int (nI (b + e0))), (4, .ref tx), (5, .int (nI txs.length)), (6, .int (sb_b (bs.getD a 0))), (8, .int (nI (txs.getD (q - 1) 0)))]) hx hb d_Model_one_135 hl (k := 8) rfl (by rw [show Int32.ofInt (-1) = -1 from rfl]; exact sb_m1 q0) (by decide) rfl (fun ls hl => ?_)
              refine lv_goto (tgt := 9) hx hb d_Model_one_138 (by decide) ?_
              exact ih (q - 1) (upd z1 q 0) (by omega) (by omega) (fun j hj => by rw [pk_un (by omega)]; exact hlo j (by omega)) (fun j h1 h2 => by
                by_cases e : j = q
                · rw [e, pk_us]
                  refine ⟨by decide, ?_⟩
                  exact ⟨fun z9 => absurd z9 (by decide), fun z9 => absurd ((hb0.symm.trans hisb).trans z9.2) (by decide)⟩
                · rw [pk_un e]; exact hhi j (by omega) h2) _ _ (hP.sub [0] rfl) (hD.sub [0] (by decide) rfl) hS ls (lv_sub hl [2, 3, 4, 5, 6, 7, 8, 0] rfl)
            · have hb1 : isb = true := by
                cases isb
                · exact absurd rfl c126
                · rfl
              refine lv_iconst (v := 1) hx hb d_Model_one_129 (by decide) ?_
              refine lv_goto (tgt := 134) hx hb d_Model_one_130 (by decide) ?_
              refine va_zast hx hb hK hP hD hS 0 2 rfl rfl (vp_in_nI (by omega) (by omega)) d_Model_one_134 (fun H locs hP hD hS => ?_)
              rw [nI_clamp (by omega), show vp_nar .boolean 1 = 1 from rfl] at hP hD
              have hP : va_P D classes [(mf, .inl ((kA 2), 1025, .inl (upd z1 q 1)))] H := hP
              have hD : va_D A [(mf, .inl ((kA 2), 1025, .inl (upd z1 q 1)))] := hD
              refine lv_iinc (v := (nI (q - 1))) (lv' := [(7, .int (nI (q - 1))), (9, .int (if isb then 1 else 0)), (0, .ref y), (1, .ref p0), (2, .int (nI (b + a))), (3, .int (nI (b + e0))), (4, .ref tx), (5, .int (nI txs.length)), (6, .int (sb_b (bs.getD a 0))), (8, .int (nI (txs.getD (q - 1) 0)))]) hx hb d_Model_one_135 hl (k := 8) rfl (by rw [show Int32.ofInt (-1) = -1 from rfl]; exact sb_m1 q0) (by decide) rfl (fun ls hl => ?_)
              refine lv_goto (tgt := 9) hx hb d_Model_one_138 (by decide) ?_
              exact ih (q - 1) (upd z1 q 1) (by omega) (by omega) (fun j hj => by rw [pk_un (by omega)]; exact hlo j (by omega)) (fun j h1 h2 => by
                by_cases e : j = q
                · rw [e, pk_us]
                  refine ⟨by decide, ?_⟩
                  exact ⟨fun _ => ⟨(hz01 (q - 1) (by omega)).resolve_left c121, hisb.symm.trans hb1⟩, fun _ => rfl⟩
                · rw [pk_un e]; exact hhi j (by omega) h2) _ _ (hP.sub [0] rfl) (hD.sub [0] (by decide) rfl) hS ls (lv_sub hl [2, 3, 4, 5, 6, 7, 8, 0] rfl)
        refine lv_iload hx hb d_Model_one_27 (lv_at hl 7 rfl) ?_
        refine lv_bipush (v := 63) hx hb d_Model_one_29 (by decide) ?_
        refine zk_ti (z := nI 63) (rfl) ?_
        refine lv_icmp_eq (tgt := 99) hx hb d_Model_one_31 (by decide) (fun c31 => ?_) (fun c31 => ?_)
        · have h63 := hE.2.2.2.2.1.mp c31
          refine lv_iconst (v := 1) hx hb d_Model_one_99 (by decide) ?_
          refine lv_goto (tgt := 104) hx hb d_Model_one_100 (by decide) ?_
          exact jn true (by rw [show rSel bs e0 a = [(0, 255)] from if_pos h63]; exact (pIn_all hxx.1).symm) ls (lv_sub hl [1, 2, 3, 4, 5, 6, 7, 8, 0] rfl)
        · have h63 : (bs.getD a 0) ≠ 63 := fun z => c31 (hE.2.2.2.2.1.mpr z)
          refine lv_iload hx hb d_Model_one_34 (lv_at hl 7 rfl) ?_
          refine lv_bipush (v := 91) hx hb d_Model_one_36 (by decide) ?_
          refine zk_ti (z := nI 91) (rfl) ?_
          refine lv_icmp_ne (tgt := 57) hx hb d_Model_one_38 (by decide) (fun c38 => ?_) (fun c38 => ?_)
          · have h91 : (bs.getD a 0) ≠ 91 := fun z => c38 (hE.2.2.2.2.2.1.mpr z)
            refine lv_iload hx hb d_Model_one_57 (lv_at hl 7 rfl) ?_
            refine lv_bipush (v := 92) hx hb d_Model_one_59 (by decide) ?_
            refine zk_ti (z := nI 92) (rfl) ?_
            refine lv_icmp_ne (tgt := 88) hx hb d_Model_one_61 (by decide) (fun c61 => ?_) (fun c61 => ?_)
            · have hno : ¬ ((bs.getD a 0) = 92 ∧ a + 1 < e0) := fun z => c61 (hE.1.mpr z.1)
              refine lv_iload hx hb d_Model_one_88 (lv_at hl 0 rfl) ?_
              refine lv_iload hx hb d_Model_one_90 (lv_at hl 7 rfl) ?_
              refine lv_sipush (v := 255) hx hb d_Model_one_92 (by decide) ?_
              refine lv_iand hx hb d_Model_one_95 ?_
              refine zk_ti (z := nI (bs.getD a 0)) ((sb_byte _ hpa.1).1) ?_
              refine lv_icmp_ne (tgt := 103) hx hb d_Model_one_96 (by decide) (fun c96 => ?_) (fun c96 => ?_)
              · refine lv_iconst (v := 0) hx hb d_Model_one_103 (by decide) ?_
                exact jn false (by rw [show rSel bs e0 a = [((bs.getD a 0), (bs.getD a 0))] by unfold rSel; rw [if_neg h63, if_neg h91, if_neg hno], pIn_1]; exact (decide_eq_false (fun z => c96 (by rw [z]))).symm) ls (lv_sub hl [1, 2, 3, 4, 5, 6, 7, 8, 0] rfl)
              · refine lv_iconst (v := 1) hx hb d_Model_one_99 (by decide) ?_
                refine lv_goto (tgt := 104) hx hb d_Model_one_100 (by decide) ?_
                exact jn true (by rw [show rSel bs e0 a = [((bs.getD a 0), (bs.getD a 0))] by unfold rSel; rw [if_neg h63, if_neg h91, if_neg hno], pIn_1]; exact (decide_eq_true ((nI_eq (by omega) (by omega)).mp c96)).symm) ls (lv_sub hl [1, 2, 3, 4, 5, 6, 7, 8, 0] rfl)
            · have h92 := hE.1.mp c61
              refine lv_iload_n hx hb d_Model_one_64 rfl (lv_at hl 3 rfl) ?_
              refine lv_iconst (v := 1) hx hb d_Model_one_65 (by decide) ?_
              refine lv_iadd hx hb d_Model_one_66 ?_
              refine zk_ti (z := nI (b + a + 1)) (nI_1 _) ?_
              refine lv_iload_n hx hb d_Model_one_67 rfl (lv_at hl 4 rfl) ?_
              refine lv_icmp_ge (tgt := 88) hx hb d_Model_one_68 (by decide) (fun c68 => ?_) (fun c68 => ?_)
              · have hno : ¬ ((bs.getD a 0) = 92 ∧ a + 1 < e0) := fun z => absurd ((nI_leI (by omega) (by omega)).mp c68) (by omega)
                refine lv_iload hx hb d_Model_one_88 (lv_at hl 0 rfl) ?_
                refine lv_iload hx hb d_Model_one_90 (lv_at hl 7 rfl) ?_
                refine lv_sipush (v := 255) hx hb d_Model_one_92 (by decide) ?_
                refine lv_iand hx hb d_Model_one_95 ?_
                refine zk_ti (z := nI (bs.getD a 0)) ((sb_byte _ hpa.1).1) ?_
                refine lv_icmp_ne (tgt := 103) hx hb d_Model_one_96 (by decide) (fun c96 => ?_) (fun c96 => ?_)
                · refine lv_iconst (v := 0) hx hb d_Model_one_103 (by decide) ?_
                  exact jn false (by rw [show rSel bs e0 a = [((bs.getD a 0), (bs.getD a 0))] by unfold rSel; rw [if_neg h63, if_neg h91, if_neg hno], pIn_1]; exact (decide_eq_false (fun z => c96 (by rw [z]))).symm) ls (lv_sub hl [1, 2, 3, 4, 5, 6, 7, 8, 0] rfl)
                · refine lv_iconst (v := 1) hx hb d_Model_one_99 (by decide) ?_
                  refine lv_goto (tgt := 104) hx hb d_Model_one_100 (by decide) ?_
                  exact jn true (by rw [show rSel bs e0 a = [((bs.getD a 0), (bs.getD a 0))] by unfold rSel; rw [if_neg h63, if_neg h91, if_neg hno], pIn_1]; exact (decide_eq_true ((nI_eq (by omega) (by omega)).mp c96)).symm) ls (lv_sub hl [1, 2, 3, 4, 5, 6, 7, 8, 0] rfl)
              · have h1 : a + 1 < e0 := by
                  have := Nat.not_le.mp fun z => c68 (nI_le z (by omega))
                  omega
                have hpb := hpt (a + 1) (by omega)
                refine lv_iload hx hb d_Model_one_71 (lv_at hl 0 rfl) ?_
                refine lv_aload_n hx hb d_Model_one_73 rfl (lv_at hl 2 rfl) ?_
                refine lv_iload_n hx hb d_Model_one_74 rfl (lv_at hl 3 rfl) ?_
                refine lv_iconst (v := 1) hx hb d_Model_one_75 (by decide) ?_
                refine lv_iadd hx hb d_Model_one_76 ?_
                refine zk_ti (z := nI (b + (a + 1))) (nI_1 _) ?_
                refine zk_bald S hK 0 (zk_ro hS hp0 hpA) rfl (vp_in_nI (by omega) (by omega)) d_Model_one_77 ?_
                refine zk_ti (z := sb_b (bs.getD (a + 1) 0)) (by rw [nI_clamp (by omega)]; exact hpb.2) ?_
                refine lv_sipush (v := 255) hx hb d_Model_one_78 (by decide) ?_
                refine lv_iand hx hb d_Model_one_81 ?_
                refine zk_ti (z := nI (bs.getD (a + 1) 0)) ((sb_byte _ hpb.1).1) ?_
                refine lv_icmp_ne (tgt := 103) hx hb d_Model_one_82 (by decide) (fun c82 => ?_) (fun c82 => ?_)
                · refine lv_iconst (v := 0) hx hb d_Model_one_103 (by decide) ?_
                  exact jn false (by rw [show rSel bs e0 a = [((bs.getD (a + 1) 0), (bs.getD (a + 1) 0))] by unfold rSel; rw [if_neg h63, if_neg h91, if_pos ⟨h92, h1⟩], pIn_1]; exact (decide_eq_false (fun z => c82 (by rw [z]))).symm) ls (lv_sub hl [1, 2, 3, 4, 5, 6, 7, 8, 0] rfl)
                · refine lv_goto (tgt := 99) hx hb d_Model_one_85 (by decide) ?_
                  refine lv_iconst (v := 1) hx hb d_Model_one_99 (by decide) ?_
                  refine lv_goto (tgt := 104) hx hb d_Model_one_100 (by decide) ?_
                  exact jn true (by rw [show rSel bs e0 a = [((bs.getD (a + 1) 0), (bs.getD (a + 1) 0))] by unfold rSel; rw [if_neg h63, if_neg h91, if_pos ⟨h92, h1⟩], pIn_1]; exact (decide_eq_true ((nI_eq (by omega) (by omega)).mp c82)).symm) ls (lv_sub hl [1, 2, 3, 4, 5, 6, 7, 8, 0] rfl)
          · have h91 := hE.2.2.2.2.2.1.mp c38
            refine lv_aload_n hx hb d_Model_one_41 rfl (lv_at hl 2 rfl) ?_
            refine lv_iload_n hx hb d_Model_one_42 rfl (lv_at hl 3 rfl) ?_
            refine lv_iconst (v := 1) hx hb d_Model_one_43 (by decide) ?_
            refine lv_iadd hx hb d_Model_one_44 ?_
            refine zk_ti (z := nI (b + (a + 1))) (nI_1 _) ?_
            refine lv_iload_n hx hb d_Model_one_45 rfl (lv_at hl 4 rfl) ?_
            refine lv_iload hx hb d_Model_one_46 (lv_at hl 0 rfl) ?_
            refine zk_pureE (zk_runS (As := [.ref p0, .int (nI (b + (a + 1))), .int (nI (b + e0)), .int (nI (txs.getD (q - 1) 0))]) (rest := []) S m_Model_75 (c_Model_isOneOf l D kA p0 N b (a + 1) e0 n (txs.getD (q - 1) 0) f bs (by omega) he hN hN2 hpt hxx.1) rfl rfl ⟨Nat.le_of_ble_eq_true rfl, Nat.le_of_ble_eq_true rfl⟩ hK hX ((zk_ro hS hp0 hpA)) rfl hl.1 rfl (Nat.le_of_ble_eq_true rfl) ⟨Nat.le_of_ble_eq_true rfl, Nat.le_of_ble_eq_true rfl⟩ d_Model_one_48) (fun v hv => ?_)
            rcases hv with ⟨hi1, rfl⟩ | ⟨hi1, rfl⟩
            · refine lv_if_eq (tgt := 103) hx hb d_Model_one_51 (by decide) (fun c51 => ?_) (fun c51 => ?_)
              · exact absurd c51 (by decide)
              · refine lv_goto (tgt := 99) hx hb d_Model_one_54 (by decide) ?_
                refine lv_iconst (v := 1) hx hb d_Model_one_99 (by decide) ?_
                refine lv_goto (tgt := 104) hx hb d_Model_one_100 (by decide) ?_
                exact jn true (by rw [show rSel bs e0 a = rOne bs e0 (a + 1) by unfold rSel; rw [if_neg h63, if_pos h91], hi1]) ls (lv_sub hl [1, 2, 3, 4, 5, 6, 7, 8, 0] rfl)
            · refine lv_if_eq (tgt := 103) hx hb d_Model_one_51 (by decide) (fun c51 => ?_) (fun c51 => ?_)
              · refine lv_iconst (v := 0) hx hb d_Model_one_103 (by decide) ?_
                exact jn false (by rw [show rSel bs e0 a = rOne bs e0 (a + 1) by unfold rSel; rw [if_neg h63, if_pos h91], hi1]) ls (lv_sub hl [1, 2, 3, 4, 5, 6, 7, 8, 0] rfl)
              · exact absurd rfl c51
  exact lp (txs.length + 1) txs.length zz (by omega) (Nat.le_refl _) (fun j _ => rfl) (fun j h1 h2 => absurd h1 (by omega)) _ _ (hP.sub [0] rfl) (hD.sub [0] (by decide) rfl) hS ls (lv_sub hl [2, 3, 4, 5, 6, 7, 1, 0] rfl)
