theorem pIn_cons {S : List (Nat × Nat)} {lo hi x : Nat} : pIn ((lo, hi) :: S) x = ((decide (lo ≤ x) && decide (x ≤ hi)) || pIn S x) := rfl
theorem rSelf_lt2 {f : Nat → Int32} {b n e a : Nat} {bs : List Nat} (h : PatIn f b n bs) (ha : a < e) (he : e ≤ n) : (rSelf bs e a).1 < 256 := by
  unfold rSelf
  split
  · rename_i h1
    exact (h (a + 1) (by omega)).1
  · exact (h a (by omega)).1
set_option maxHeartbeats 4000000 in
set_option maxRecDepth 100000 in
/-- PeerLineModel.isOneOf(p, from, to, c) -/
theorem c_Model_isOneOf (l : Launch) (D : va_G) (kA : Nat → ClassId) (p0 N b a e0 n x : Nat) (f : Nat → Int32) (bs : List Nat) (ha : a ≤ e0) (he : e0 ≤ n) (hN : b + n ≤ N) (hN2 : N ≤ 65536) (hpt : PatIn f b n bs) (hx256 : x < 256) : Met l y_Model_isOneOf (Cond.code y_Model_isOneOf b_Model_isOneOf 8 (some .boolean) :: zTB) { frames := 1, cells := 0, slots := 0, locals := 22 } (zk_Pc D classes (zTY kA) [.ref p0, .int (nI (b + a)), .int (nI (b + e0)), .int (nI x)] (fun H => va_at D classes (p0, .inl (kA 0, N, .inl f)) H)) (zk_pE (fun v => (pIn (rOne bs e0 a) x = true ∧ v = .int 1) ∨ (pIn (rOne bs e0 a) x = false ∧ v = .int 0))) 0 0 zk_no := by
  refine zk_of [.ref p0, .int (nI (b + a)), .int (nI (b + e0)), .int (nI x)] (by decide) (Nat.le_of_ble_eq_true rfl) ?_
  intro p e s m below meth c S hr hlk hnm hK hX hpre ls hl
  obtain ⟨hx, hb, hml, hown, ht⟩ := id S
  have hl : lv_has ls 8 [(0, .ref p0), (1, .int (nI (b + a))), (2, .int (nI (b + e0))), (3, .int (nI x))] := hl
  refine lv_iconst (v := 0) hx hb d_Model_isOneOf_0 (by decide) ?_
  refine lv_istore (lv' := [(4, .int 0), (0, .ref p0), (1, .int (nI (b + a))), (2, .int (nI (b + e0))), (3, .int (nI x))]) hx hb d_Model_isOneOf_1 hl (by decide) rfl (fun ls hl => ?_)
  refine lv_iload_n hx hb d_Model_isOneOf_3 rfl (lv_at hl 2 rfl) ?_
  refine lv_istore (lv' := [(5, .int (nI (b + a))), (4, .int 0), (0, .ref p0), (1, .int (nI (b + a))), (2, .int (nI (b + e0))), (3, .int (nI x))]) hx hb d_Model_isOneOf_4 hl (by decide) rfl (fun ls hl => ?_)
  have lp : ∀ (fu : Nat) (q : Nat) (b0 : Bool), e0 - q < fu → q ≤ e0 → pIn (rOne bs e0 a) x = (b0 || pIn (rOne bs e0 q) x) → ∀ ls : Array Slot, lv_has ls 8 [(0, .ref p0), (2, .int (nI (b + e0))), (3, .int (nI x)), (4, .int (if b0 then 1 else 0)), (5, .int (nI (b + q)))] → W p l e { frames := 1, cells := 0, slots := 0, locals := 22 } s m [.ref p0, .int (nI (b + a)), .int (nI (b + e0)), .int (nI x)].toArray below meth c s.heap [] 0 0 (MQ below (zk_pE (fun v => (pIn (rOne bs e0 a) x = true ∧ v = .int 1) ∨ (pIn (rOne bs e0 a) x = false ∧ v = .int 0))) [.ref p0, .int (nI (b + a)), .int (nI (b + e0)), .int (nI x)].toArray s 0 0 zk_no) (F0 m 6 ls []) := by
    intro fu
    induction fu with
    | zero => intro q b0 hfu; exact absurd hfu (Nat.not_lt_zero _)
    | succ fu ih =>
      intro q b0 hfu hqe hinv ls hl
      refine lv_iload hx hb d_Model_isOneOf_6 (lv_at hl 4 rfl) ?_
      refine lv_iload_n hx hb d_Model_isOneOf_8 rfl (lv_at hl 1 rfl) ?_
      refine lv_icmp_ge (tgt := 99) hx hb d_Model_isOneOf_9 (by decide) (fun c9 => ?_) (fun c9 => ?_)
      · refine lv_iload hx hb d_Model_isOneOf_99 (lv_at hl 3 rfl) ?_
        exact zk_retzE S hr (by cases b0 <;> decide) hlk (by
          have hge : e0 ≤ q := by
            have := (nI_leI (by omega) (by omega)).mp c9
            omega
          rw [hinv, rOne_end hge]
          cases b0
          · exact Or.inr ⟨rfl, rfl⟩
          · exact Or.inl ⟨rfl, rfl⟩) d_Model_isOneOf_101
      · have hq : q < e0 := by
          have := Nat.not_le.mp fun z => c9 (nI_le z (by omega))
          omega
        have g0 := rSelf_gt bs e0 q
        have g1 := rSelf_le (bs := bs) hq
        have hlo := rSelf_lt2 hpt hq he
        refine lv_aload_n hx hb d_Model_isOneOf_12 rfl (lv_at hl 0 rfl) ?_
        refine lv_iload hx hb d_Model_isOneOf_13 (lv_at hl 4 rfl) ?_
        refine lv_iload_n hx hb d_Model_isOneOf_15 rfl (lv_at hl 1 rfl) ?_
        refine zk_pure (zk_runS (As := [.ref p0, .int (nI (b + q)), .int (nI (b + e0))]) (rest := []) S m_Model_68 (c_Model_itself l D kA p0 N b q e0 n f bs hq he hN hN2 hpt) rfl rfl ⟨Nat.le_of_ble_eq_true rfl, Nat.le_of_ble_eq_true rfl⟩ hK hX (hpre) rfl hl.1 rfl (Nat.le_of_ble_eq_true rfl) ⟨Nat.le_of_ble_eq_true rfl, Nat.le_of_ble_eq_true rfl⟩ d_Model_isOneOf_16) ?_
        refine lv_istore (lv' := [(6, .int (nI (rSelf bs e0 q).1)), (0, .ref p0), (2, .int (nI (b + e0))), (3, .int (nI x)), (4, .int (if b0 then 1 else 0)), (5, .int (nI (b + q)))]) hx hb d_Model_isOneOf_19 hl (by decide) rfl (fun ls hl => ?_)
        refine lv_aload_n hx hb d_Model_isOneOf_21 rfl (lv_at hl 1 rfl) ?_
        refine lv_iload hx hb d_Model_isOneOf_22 (lv_at hl 5 rfl) ?_
        refine lv_iload_n hx hb d_Model_isOneOf_24 rfl (lv_at hl 2 rfl) ?_
        refine zk_pure (zk_runS (As := [.ref p0, .int (nI (b + q)), .int (nI (b + e0))]) (rest := []) S m_Model_72 (c_Model_behind l D kA p0 N b q e0 n f bs hq he hN hN2 hpt) rfl rfl ⟨Nat.le_of_ble_eq_true rfl, Nat.le_of_ble_eq_true rfl⟩ hK hX (hpre) rfl hl.1 rfl (Nat.le_of_ble_eq_true rfl) ⟨Nat.le_of_ble_eq_true rfl, Nat.le_of_ble_eq_true rfl⟩ d_Model_isOneOf_25) ?_
        refine lv_istore (lv' := [(5, .int (nI (b + (rSelf bs e0 q).2))), (6, .int (nI (rSelf bs e0 q).1)), (0, .ref p0), (2, .int (nI (b + e0))), (3, .int (nI x)), (4, .int (if b0 then 1 else 0))]) hx hb d_Model_isOneOf_28 hl (by decide) rfl (fun ls hl => ?_)
        refine lv_iload hx hb d_Model_isOneOf_30 (lv_at hl 1 rfl) ?_
        refine lv_istore (lv' := [(7, .int (nI (rSelf bs e0 q).1)), (5, .int (nI (b + (rSelf bs e0 q).2))), (6, .int (nI (rSelf bs e0 q).1)), (0, .ref p0), (2, .int (nI (b + e0))), (3, .int (nI x)), (4, .int (if b0 then 1 else 0))]) hx hb d_Model_isOneOf_32 hl (by decide) rfl (fun ls hl => ?_)
        refine lv_iload hx hb d_Model_isOneOf_34 (lv_at hl 1 rfl) ?_
        refine lv_iconst (v := 1) hx hb d_Model_isOneOf_36 (by decide) ?_
        refine lv_iadd hx hb d_Model_isOneOf_37 ?_
        refine zk_ti (z := nI (b + (rSelf bs e0 q).2 + 1)) (nI_1 _) ?_
        refine lv_iload_n hx hb d_Model_isOneOf_38 rfl (lv_at hl 4 rfl) ?_
        refine lv_icmp_ge (tgt := 73) hx hb d_Model_isOneOf_39 (by decide) (fun c39 => ?_) (fun c39 => ?_)
        · have hno : ¬ ((rSelf bs e0 q).2 + 1 < e0 ∧ bs.getD (rSelf bs e0 q).2 0 = 45) := fun z => absurd ((nI_leI (by omega) (by omega)).mp c39) (by omega)
          cases b0
          · have hl : lv_has ls 8 [(7, .int (nI (rSelf bs e0 q).1)), (5, .int (nI (b + (rSelf bs e0 q).2))), (6, .int (nI (rSelf bs e0 q).1)), (0, .ref p0), (2, .int (nI (b + e0))), (3, .int (nI x)), (4, .int 0)] := hl
            refine lv_iload hx hb d_Model_isOneOf_73 (lv_at hl 6 rfl) ?_
            refine lv_if_ne (tgt := 89) hx hb d_Model_isOneOf_75 (by decide) (fun c75 => ?_) (fun c75 => ?_)
            · exact absurd rfl c75
            · refine lv_iload_n hx hb d_Model_isOneOf_78 rfl (lv_at hl 5 rfl) ?_
              refine lv_iload hx hb d_Model_isOneOf_79 (lv_at hl 2 rfl) ?_
              refine lv_iload hx hb d_Model_isOneOf_81 (lv_at hl 0 rfl) ?_
              refine zk_pureE (zk_runS (As := [.int (nI x), .int (nI (rSelf bs e0 q).1), .int (nI (rSelf bs e0 q).1)]) (rest := []) S m_Model_64 (c_Model_in l D kA (nI x) (nI (rSelf bs e0 q).1) (nI (rSelf bs e0 q).1)) rfl rfl ⟨Nat.le_of_ble_eq_true rfl, Nat.le_of_ble_eq_true rfl⟩ hK hX (trivial) rfl hl.1 rfl (Nat.le_of_ble_eq_true rfl) ⟨Nat.le_of_ble_eq_true rfl, Nat.le_of_ble_eq_true rfl⟩ d_Model_isOneOf_83) (fun v hv => ?_)
              rcases hv with ⟨hi1, hi2, rfl⟩ | ⟨hi1, rfl⟩
              · refine lv_if_eq (tgt := 93) hx hb d_Model_isOneOf_86 (by decide) (fun c86 => ?_) (fun c86 => ?_)
                · exact absurd c86 (by decide)
                · refine lv_iconst (v := 1) hx hb d_Model_isOneOf_89 (by decide) ?_
                  refine lv_goto (tgt := 94) hx hb d_Model_isOneOf_90 (by decide) ?_
                  refine lv_istore (lv' := [(4, .int 1), (7, .int (nI (rSelf bs e0 q).1)), (5, .int (nI (b + (rSelf bs e0 q).2))), (6, .int (nI (rSelf bs e0 q).1)), (0, .ref p0), (2, .int (nI (b + e0))), (3, .int (nI x))]) hx hb d_Model_isOneOf_94 hl (by decide) rfl (fun ls hl => ?_)
                  refine lv_goto (tgt := 6) hx hb d_Model_isOneOf_96 (by decide) ?_
                  exact ih (rSelf bs e0 q).2 true (by omega) (by omega) (by rw [hinv, rOne_single hq hno, pIn_cons, decide_eq_true (show (rSelf bs e0 q).1 ≤ x from (nI_leI (by omega) (by omega)).mp hi1), decide_eq_true (show x ≤ (rSelf bs e0 q).1 from (nI_leI (by omega) (by omega)).mp hi2)]; rfl) ls (lv_sub hl [4, 5, 6, 0, 2] rfl)
              · refine lv_if_eq (tgt := 93) hx hb d_Model_isOneOf_86 (by decide) (fun c86 => ?_) (fun c86 => ?_)
                · refine lv_iconst (v := 0) hx hb d_Model_isOneOf_93 (by decide) ?_
                  refine lv_istore (lv' := [(4, .int 0), (7, .int (nI (rSelf bs e0 q).1)), (5, .int (nI (b + (rSelf bs e0 q).2))), (6, .int (nI (rSelf bs e0 q).1)), (0, .ref p0), (2, .int (nI (b + e0))), (3, .int (nI x))]) hx hb d_Model_isOneOf_94 hl (by decide) rfl (fun ls hl => ?_)
                  refine lv_goto (tgt := 6) hx hb d_Model_isOneOf_96 (by decide) ?_
                  exact ih (rSelf bs e0 q).2 false (by omega) (by omega) (by
                    rw [hinv, rOne_single hq hno, pIn_cons]
                    have hz : (decide ((rSelf bs e0 q).1 ≤ x) && decide (x ≤ (rSelf bs e0 q).1)) = false := by
                      cases hz9 : (decide ((rSelf bs e0 q).1 ≤ x) && decide (x ≤ (rSelf bs e0 q).1)) with
                      | false => rfl
                      | true =>
                        rw [Bool.and_eq_true, decide_eq_true_eq, decide_eq_true_eq] at hz9
                        exact absurd ⟨nI_le hz9.1 (by omega), nI_le hz9.2 (by omega)⟩ hi1
                    rw [hz]
                    rfl) ls (lv_sub hl [4, 5, 6, 0, 2] rfl)
                · exact absurd rfl c86
          · have hl : lv_has ls 8 [(7, .int (nI (rSelf bs e0 q).1)), (5, .int (nI (b + (rSelf bs e0 q).2))), (6, .int (nI (rSelf bs e0 q).1)), (0, .ref p0), (2, .int (nI (b + e0))), (3, .int (nI x)), (4, .int 1)] := hl
            refine lv_iload hx hb d_Model_isOneOf_73 (lv_at hl 6 rfl) ?_
            refine lv_if_ne (tgt := 89) hx hb d_Model_isOneOf_75 (by decide) (fun c75 => ?_) (fun c75 => ?_)
            · refine lv_iconst (v := 1) hx hb d_Model_isOneOf_89 (by decide) ?_
              refine lv_goto (tgt := 94) hx hb d_Model_isOneOf_90 (by decide) ?_
              refine lv_istore (lv' := [(4, .int 1), (7, .int (nI (rSelf bs e0 q).1)), (5, .int (nI (b + (rSelf bs e0 q).2))), (6, .int (nI (rSelf bs e0 q).1)), (0, .ref p0), (2, .int (nI (b + e0))), (3, .int (nI x))]) hx hb d_Model_isOneOf_94 hl (by decide) rfl (fun ls hl => ?_)
              refine lv_goto (tgt := 6) hx hb d_Model_isOneOf_96 (by decide) ?_
              exact ih (rSelf bs e0 q).2 true (by omega) (by omega) (by rw [hinv]; rfl) ls (lv_sub hl [4, 5, 6, 0, 2] rfl)
            · exact absurd c75 (by decide)
        · have h1 : (rSelf bs e0 q).2 + 1 < e0 := by
            have := Nat.not_le.mp fun z => c39 (nI_le z (by omega))
            omega
          have hp1 := hpt (rSelf bs e0 q).2 (by omega)
          have hE := sbE _ hp1.1
          refine lv_aload_n hx hb d_Model_isOneOf_42 rfl (lv_at hl 3 rfl) ?_
          refine lv_iload hx hb d_Model_isOneOf_43 (lv_at hl 1 rfl) ?_
          refine zk_bald S hK 0 hpre rfl (vp_in_nI (by omega) (by omega)) d_Model_isOneOf_45 ?_
          refine zk_ti (z := sb_b (bs.getD (rSelf bs e0 q).2 0)) (by rw [nI_clamp (by omega)]; exact hp1.2) ?_
          refine lv_bipush (v := 45) hx hb d_Model_isOneOf_46 (by decide) ?_
          refine zk_ti (z := nI 45) (rfl) ?_
          refine lv_icmp_ne (tgt := 73) hx hb d_Model_isOneOf_48 (by decide) (fun c48 => ?_) (fun c48 => ?_)
          · have hno : ¬ ((rSelf bs e0 q).2 + 1 < e0 ∧ bs.getD (rSelf bs e0 q).2 0 = 45) := fun z => c48 (hE.2.2.1.mpr z.2)
            cases b0
            · have hl : lv_has ls 8 [(7, .int (nI (rSelf bs e0 q).1)), (5, .int (nI (b + (rSelf bs e0 q).2))), (6, .int (nI (rSelf bs e0 q).1)), (0, .ref p0), (2, .int (nI (b + e0))), (3, .int (nI x)), (4, .int 0)] := hl
              refine lv_iload hx hb d_Model_isOneOf_73 (lv_at hl 6 rfl) ?_
              refine lv_if_ne (tgt := 89) hx hb d_Model_isOneOf_75 (by decide) (fun c75 => ?_) (fun c75 => ?_)
              · exact absurd rfl c75
              · refine lv_iload_n hx hb d_Model_isOneOf_78 rfl (lv_at hl 5 rfl) ?_
                refine lv_iload hx hb d_Model_isOneOf_79 (lv_at hl 2 rfl) ?_
                refine lv_iload hx hb d_Model_isOneOf_81 (lv_at hl 0 rfl) ?_
                refine zk_pureE (zk_runS (As := [.int (nI x), .int (nI (rSelf bs e0 q).1), .int (nI (rSelf bs e0 q).1)]) (rest := []) S m_Model_64 (c_Model_in l D kA (nI x) (nI (rSelf bs e0 q).1) (nI (rSelf bs e0 q).1)) rfl rfl ⟨Nat.le_of_ble_eq_true rfl, Nat.le_of_ble_eq_true rfl⟩ hK hX (trivial) rfl hl.1 rfl (Nat.le_of_ble_eq_true rfl) ⟨Nat.le_of_ble_eq_true rfl, Nat.le_of_ble_eq_true rfl⟩ d_Model_isOneOf_83) (fun v hv => ?_)
                rcases hv with ⟨hi1, hi2, rfl⟩ | ⟨hi1, rfl⟩
                · refine lv_if_eq (tgt := 93) hx hb d_Model_isOneOf_86 (by decide) (fun c86 => ?_) (fun c86 => ?_)
                  · exact absurd c86 (by decide)
                  · refine lv_iconst (v := 1) hx hb d_Model_isOneOf_89 (by decide) ?_
                    refine lv_goto (tgt := 94) hx hb d_Model_isOneOf_90 (by decide) ?_
                    refine lv_istore (lv' := [(4, .int 1), (7, .int (nI (rSelf bs e0 q).1)), (5, .int (nI (b + (rSelf bs e0 q).2))), (6, .int (nI (rSelf bs e0 q).1)), (0, .ref p0), (2, .int (nI (b + e0))), (3, .int (nI x))]) hx hb d_Model_isOneOf_94 hl (by decide) rfl (fun ls hl => ?_)
                    refine lv_goto (tgt := 6) hx hb d_Model_isOneOf_96 (by decide) ?_
                    exact ih (rSelf bs e0 q).2 true (by omega) (by omega) (by rw [hinv, rOne_single hq hno, pIn_cons, decide_eq_true (show (rSelf bs e0 q).1 ≤ x from (nI_leI (by omega) (by omega)).mp hi1), decide_eq_true (show x ≤ (rSelf bs e0 q).1 from (nI_leI (by omega) (by omega)).mp hi2)]; rfl) ls (lv_sub hl [4, 5, 6, 0, 2] rfl)
                · refine lv_if_eq (tgt := 93) hx hb d_Model_isOneOf_86 (by decide) (fun c86 => ?_) (fun c86 => ?_)
                  · refine lv_iconst (v := 0) hx hb d_Model_isOneOf_93 (by decide) ?_
                    refine lv_istore (lv' := [(4, .int 0), (7, .int (nI (rSelf bs e0 q).1)), (5, .int (nI (b + (rSelf bs e0 q).2))), (6, .int (nI (rSelf bs e0 q).1)), (0, .ref p0), (2, .int (nI (b + e0))), (3, .int (nI x))]) hx hb d_Model_isOneOf_94 hl (by decide) rfl (fun ls hl => ?_)
                    refine lv_goto (tgt := 6) hx hb d_Model_isOneOf_96 (by decide) ?_
                    exact ih (rSelf bs e0 q).2 false (by omega) (by omega) (by
                      rw [hinv, rOne_single hq hno, pIn_cons]
                      have hz : (decide ((rSelf bs e0 q).1 ≤ x) && decide (x ≤ (rSelf bs e0 q).1)) = false := by
                        cases hz9 : (decide ((rSelf bs e0 q).1 ≤ x) && decide (x ≤ (rSelf bs e0 q).1)) with
                        | false => rfl
                        | true =>
                          rw [Bool.and_eq_true, decide_eq_true_eq, decide_eq_true_eq] at hz9
                          exact absurd ⟨nI_le hz9.1 (by omega), nI_le hz9.2 (by omega)⟩ hi1
                      rw [hz]
                      rfl) ls (lv_sub hl [4, 5, 6, 0, 2] rfl)
                  · exact absurd rfl c86
            · have hl : lv_has ls 8 [(7, .int (nI (rSelf bs e0 q).1)), (5, .int (nI (b + (rSelf bs e0 q).2))), (6, .int (nI (rSelf bs e0 q).1)), (0, .ref p0), (2, .int (nI (b + e0))), (3, .int (nI x)), (4, .int 1)] := hl
              refine lv_iload hx hb d_Model_isOneOf_73 (lv_at hl 6 rfl) ?_
              refine lv_if_ne (tgt := 89) hx hb d_Model_isOneOf_75 (by decide) (fun c75 => ?_) (fun c75 => ?_)
              · refine lv_iconst (v := 1) hx hb d_Model_isOneOf_89 (by decide) ?_
                refine lv_goto (tgt := 94) hx hb d_Model_isOneOf_90 (by decide) ?_
                refine lv_istore (lv' := [(4, .int 1), (7, .int (nI (rSelf bs e0 q).1)), (5, .int (nI (b + (rSelf bs e0 q).2))), (6, .int (nI (rSelf bs e0 q).1)), (0, .ref p0), (2, .int (nI (b + e0))), (3, .int (nI x))]) hx hb d_Model_isOneOf_94 hl (by decide) rfl (fun ls hl => ?_)
                refine lv_goto (tgt := 6) hx hb d_Model_isOneOf_96 (by decide) ?_
                exact ih (rSelf bs e0 q).2 true (by omega) (by omega) (by rw [hinv]; rfl) ls (lv_sub hl [4, 5, 6, 0, 2] rfl)
              · exact absurd c75 (by decide)
          · have hyes : (rSelf bs e0 q).2 + 1 < e0 ∧ bs.getD (rSelf bs e0 q).2 0 = 45 := ⟨h1, hE.2.2.1.mp c48⟩
            have g2 := rSelf_gt bs e0 ((rSelf bs e0 q).2 + 1)
            have g3 := rSelf_le (bs := bs) h1
            have hhi := rSelf_lt2 hpt h1 he
            refine lv_aload_n hx hb d_Model_isOneOf_51 rfl (lv_at hl 3 rfl) ?_
            refine lv_iload hx hb d_Model_isOneOf_52 (lv_at hl 1 rfl) ?_
            refine lv_iconst (v := 1) hx hb d_Model_isOneOf_54 (by decide) ?_
            refine lv_iadd hx hb d_Model_isOneOf_55 ?_
            refine zk_ti (z := nI (b + ((rSelf bs e0 q).2 + 1))) (nI_1 _) ?_
            refine lv_iload_n hx hb d_Model_isOneOf_56 rfl (lv_at hl 4 rfl) ?_
            refine zk_pure (zk_runS (As := [.ref p0, .int (nI (b + ((rSelf bs e0 q).2 + 1))), .int (nI (b + e0))]) (rest := []) S m_Model_68 (c_Model_itself l D kA p0 N b ((rSelf bs e0 q).2 + 1) e0 n f bs h1 he hN hN2 hpt) rfl rfl ⟨Nat.le_of_ble_eq_true rfl, Nat.le_of_ble_eq_true rfl⟩ hK hX (hpre) rfl hl.1 rfl (Nat.le_of_ble_eq_true rfl) ⟨Nat.le_of_ble_eq_true rfl, Nat.le_of_ble_eq_true rfl⟩ d_Model_isOneOf_57) ?_
            refine lv_istore (lv' := [(7, .int (nI (rSelf bs e0 ((rSelf bs e0 q).2 + 1)).1)), (5, .int (nI (b + (rSelf bs e0 q).2))), (6, .int (nI (rSelf bs e0 q).1)), (0, .ref p0), (2, .int (nI (b + e0))), (3, .int (nI x)), (4, .int (if b0 then 1 else 0))]) hx hb d_Model_isOneOf_60 hl (by decide) rfl (fun ls hl => ?_)
            refine lv_aload_n hx hb d_Model_isOneOf_62 rfl (lv_at hl 3 rfl) ?_
            refine lv_iload hx hb d_Model_isOneOf_63 (lv_at hl 1 rfl) ?_
            refine lv_iconst (v := 1) hx hb d_Model_isOneOf_65 (by decide) ?_
            refine lv_iadd hx hb d_Model_isOneOf_66 ?_
            refine zk_ti (z := nI (b + ((rSelf bs e0 q).2 + 1))) (nI_1 _) ?_
            refine lv_iload_n hx hb d_Model_isOneOf_67 rfl (lv_at hl 4 rfl) ?_
            refine zk_pure (zk_runS (As := [.ref p0, .int (nI (b + ((rSelf bs e0 q).2 + 1))), .int (nI (b + e0))]) (rest := []) S m_Model_72 (c_Model_behind l D kA p0 N b ((rSelf bs e0 q).2 + 1) e0 n f bs h1 he hN hN2 hpt) rfl rfl ⟨Nat.le_of_ble_eq_true rfl, Nat.le_of_ble_eq_true rfl⟩ hK hX (hpre) rfl hl.1 rfl (Nat.le_of_ble_eq_true rfl) ⟨Nat.le_of_ble_eq_true rfl, Nat.le_of_ble_eq_true rfl⟩ d_Model_isOneOf_68) ?_
            refine lv_istore (lv' := [(5, .int (nI (b + (rSelf bs e0 ((rSelf bs e0 q).2 + 1)).2))), (7, .int (nI (rSelf bs e0 ((rSelf bs e0 q).2 + 1)).1)), (6, .int (nI (rSelf bs e0 q).1)), (0, .ref p0), (2, .int (nI (b + e0))), (3, .int (nI x)), (4, .int (if b0 then 1 else 0))]) hx hb d_Model_isOneOf_71 hl (by decide) rfl (fun ls hl => ?_)
            cases b0
            · have hl : lv_has ls 8 [(5, .int (nI (b + (rSelf bs e0 ((rSelf bs e0 q).2 + 1)).2))), (7, .int (nI (rSelf bs e0 ((rSelf bs e0 q).2 + 1)).1)), (6, .int (nI (rSelf bs e0 q).1)), (0, .ref p0), (2, .int (nI (b + e0))), (3, .int (nI x)), (4, .int 0)] := hl
              refine lv_iload hx hb d_Model_isOneOf_73 (lv_at hl 6 rfl) ?_
              refine lv_if_ne (tgt := 89) hx hb d_Model_isOneOf_75 (by decide) (fun c75 => ?_) (fun c75 => ?_)
              · exact absurd rfl c75
              · refine lv_iload_n hx hb d_Model_isOneOf_78 rfl (lv_at hl 5 rfl) ?_
                refine lv_iload hx hb d_Model_isOneOf_79 (lv_at hl 2 rfl) ?_
                refine lv_iload hx hb d_Model_isOneOf_81 (lv_at hl 1 rfl) ?_
                refine zk_pureE (zk_runS (As := [.int (nI x), .int (nI (rSelf bs e0 q).1), .int (nI (rSelf bs e0 ((rSelf bs e0 q).2 + 1)).1)]) (rest := []) S m_Model_64 (c_Model_in l D kA (nI x) (nI (rSelf bs e0 q).1) (nI (rSelf bs e0 ((rSelf bs e0 q).2 + 1)).1)) rfl rfl ⟨Nat.le_of_ble_eq_true rfl, Nat.le_of_ble_eq_true rfl⟩ hK hX (trivial) rfl hl.1 rfl (Nat.le_of_ble_eq_true rfl) ⟨Nat.le_of_ble_eq_true rfl, Nat.le_of_ble_eq_true rfl⟩ d_Model_isOneOf_83) (fun v hv => ?_)
                rcases hv with ⟨hi1, hi2, rfl⟩ | ⟨hi1, rfl⟩
                · refine lv_if_eq (tgt := 93) hx hb d_Model_isOneOf_86 (by decide) (fun c86 => ?_) (fun c86 => ?_)
                  · exact absurd c86 (by decide)
                  · refine lv_iconst (v := 1) hx hb d_Model_isOneOf_89 (by decide) ?_
                    refine lv_goto (tgt := 94) hx hb d_Model_isOneOf_90 (by decide) ?_
                    refine lv_istore (lv' := [(4, .int 1), (5, .int (nI (b + (rSelf bs e0 ((rSelf bs e0 q).2 + 1)).2))), (7, .int (nI (rSelf bs e0 ((rSelf bs e0 q).2 + 1)).1)), (6, .int (nI (rSelf bs e0 q).1)), (0, .ref p0), (2, .int (nI (b + e0))), (3, .int (nI x))]) hx hb d_Model_isOneOf_94 hl (by decide) rfl (fun ls hl => ?_)
                    refine lv_goto (tgt := 6) hx hb d_Model_isOneOf_96 (by decide) ?_
                    exact ih (rSelf bs e0 ((rSelf bs e0 q).2 + 1)).2 true (by omega) (by omega) (by rw [hinv, rOne_range hq hyes, pIn_cons, decide_eq_true (show (rSelf bs e0 q).1 ≤ x from (nI_leI (by omega) (by omega)).mp hi1), decide_eq_true (show x ≤ (rSelf bs e0 ((rSelf bs e0 q).2 + 1)).1 from (nI_leI (by omega) (by omega)).mp hi2)]; rfl) ls (lv_sub hl [4, 5, 6, 0, 1] rfl)
                · refine lv_if_eq (tgt := 93) hx hb d_Model_isOneOf_86 (by decide) (fun c86 => ?_) (fun c86 => ?_)
                  · refine lv_iconst (v := 0) hx hb d_Model_isOneOf_93 (by decide) ?_
                    refine lv_istore (lv' := [(4, .int 0), (5, .int (nI (b + (rSelf bs e0 ((rSelf bs e0 q).2 + 1)).2))), (7, .int (nI (rSelf bs e0 ((rSelf bs e0 q).2 + 1)).1)), (6, .int (nI (rSelf bs e0 q).1)), (0, .ref p0), (2, .int (nI (b + e0))), (3, .int (nI x))]) hx hb d_Model_isOneOf_94 hl (by decide) rfl (fun ls hl => ?_)
                    refine lv_goto (tgt := 6) hx hb d_Model_isOneOf_96 (by decide) ?_
                    exact ih (rSelf bs e0 ((rSelf bs e0 q).2 + 1)).2 false (by omega) (by omega) (by
                      rw [hinv, rOne_range hq hyes, pIn_cons]
                      have hz : (decide ((rSelf bs e0 q).1 ≤ x) && decide (x ≤ (rSelf bs e0 ((rSelf bs e0 q).2 + 1)).1)) = false := by
                        cases hz9 : (decide ((rSelf bs e0 q).1 ≤ x) && decide (x ≤ (rSelf bs e0 ((rSelf bs e0 q).2 + 1)).1)) with
                        | false => rfl
                        | true =>
                          rw [Bool.and_eq_true, decide_eq_true_eq, decide_eq_true_eq] at hz9
                          exact absurd ⟨nI_le hz9.1 (by omega), nI_le hz9.2 (by omega)⟩ hi1
                      rw [hz]
                      rfl) ls (lv_sub hl [4, 5, 6, 0, 1] rfl)
                  · exact absurd rfl c86
            · have hl : lv_has ls 8 [(5, .int (nI (b + (rSelf bs e0 ((rSelf bs e0 q).2 + 1)).2))), (7, .int (nI (rSelf bs e0 ((rSelf bs e0 q).2 + 1)).1)), (6, .int (nI (rSelf bs e0 q).1)), (0, .ref p0), (2, .int (nI (b + e0))), (3, .int (nI x)), (4, .int 1)] := hl
              refine lv_iload hx hb d_Model_isOneOf_73 (lv_at hl 6 rfl) ?_
              refine lv_if_ne (tgt := 89) hx hb d_Model_isOneOf_75 (by decide) (fun c75 => ?_) (fun c75 => ?_)
              · refine lv_iconst (v := 1) hx hb d_Model_isOneOf_89 (by decide) ?_
                refine lv_goto (tgt := 94) hx hb d_Model_isOneOf_90 (by decide) ?_
                refine lv_istore (lv' := [(4, .int 1), (5, .int (nI (b + (rSelf bs e0 ((rSelf bs e0 q).2 + 1)).2))), (7, .int (nI (rSelf bs e0 ((rSelf bs e0 q).2 + 1)).1)), (6, .int (nI (rSelf bs e0 q).1)), (0, .ref p0), (2, .int (nI (b + e0))), (3, .int (nI x))]) hx hb d_Model_isOneOf_94 hl (by decide) rfl (fun ls hl => ?_)
                refine lv_goto (tgt := 6) hx hb d_Model_isOneOf_96 (by decide) ?_
                exact ih (rSelf bs e0 ((rSelf bs e0 q).2 + 1)).2 true (by omega) (by omega) (by rw [hinv]; rfl) ls (lv_sub hl [4, 5, 6, 0, 1] rfl)
              · exact absurd c75 (by decide)
  exact lp (e0 + 1) a false (by omega) ha rfl ls (lv_sub hl [2, 4, 5, 1, 0] rfl)
