theorem zPush_post {D : va_G} {kA : Nat → ClassId} {A : Nat → Prop} {H : Heap} {co ct ca t0 i : Nat} {ad : Nat → Nat} {mq : List (Nat × Nat)} {rs : List zRule} (h : (64 ≤ (zC ad mq).length ∧ CoPost D kA A H co ct ca (zC ad mq)) ∨ ((zC ad mq).length < 64 ∧ ∃ p, p ≤ (zC ad mq).length ∧ (∀ j, p ≤ j → j < (zC ad mq).length → t0 + (rs.getD i zR0).2.2.2.1 < ((zC ad mq).getD j (0, 0)).1) ∧ (p = 0 ∨ ((zC ad mq).getD (p - 1) (0, 0)).1 ≤ t0 + (rs.getD i zR0).2.2.2.1) ∧ CoPost D kA A H co ct ca ((zC ad mq).take p ++ (t0 + (rs.getD i zR0).2.2.2.1, ad i) :: (zC ad mq).drop p))) : CoPost D kA A H co ct ca (zC ad (zPush rs t0 mq (some i))) := by
  rcases h with ⟨hge, hcp⟩ | ⟨hlt2, p2, hp1, hp2, hp3, hcp⟩
  · rw [zC_len] at hge
    rw [show zPush rs t0 mq (some i) = mq from if_neg (by omega)]
    exact hcp
  · rw [zC_len] at hlt2
    rw [show zPush rs t0 mq (some i) = mq ++ [(t0 + (rs.getD i zR0).2.2.2.1, i)] from if_pos hlt2, ← zC_snoc hp1 hp2 hp3]
    exact hcp
set_option maxHeartbeats 4000000 in
set_option maxRecDepth 100000 in
/-- PeerLine.answerLine() -/
theorem c_Peer_answerLine (l : Launch) (D : va_G) (kA : Nat → ClassId) (x tp ln bf tr ru co ct ca : Nat) (hp : Int32) (f : Nat → Int64) (g : Nat → Option Nat) (rf : Nat → Option Nat) (rs : List zRule) (ad : Nat → Nat) (mq : List (Nat × Nat)) (st0 t0 : Nat) (hst : st0 < 2 ^ 30) (ht0 : t0 < 2 ^ 30) (hrs : rs.length ≤ 64) (lnl : Nat) (lns : List Nat) (sz0 : Nat) : Met l y_Peer_answerLine (Cond.code y_Peer_answerLine b_Peer_answerLine 3 none :: zTB) { frames := 5, cells := 0, slots := 0, locals := 126 } (zk_Pc D classes (zTY kA) [.ref x] (fun H => H.size = sz0 ∧ va_P D classes [(x, .inr (5, [.ref tp, .ref ln, .ref bf, .ref tr, .ref ru, .ref co, .int (nI rs.length), .int hp, .int (nI st0), .long (lN t0)])), (co, .inr (1, [.ref ct, .ref ca, .int (nI ((zC ad mq).length))])), (ct, .inl ((kA 1), 64, .inr (.inl f))), (ca, .inl ((kA 5), 64, .inr (.inr (.inr (.inr g)))))] H ∧ va_D (fun _ => True) [(x, .inr (5, [.ref tp, .ref ln, .ref bf, .ref tr, .ref ru, .ref co, .int (nI rs.length), .int hp, .int (nI st0), .long (lN t0)])), (co, .inr (1, [.ref ct, .ref ca, .int (nI ((zC ad mq).length))])), (ct, .inl ((kA 1), 64, .inr (.inl f))), (ca, .inl ((kA 5), 64, .inr (.inr (.inr (.inr g)))))] ∧ va_at D classes (ru, .inl (kA 4, 64, .inr (.inr (.inr (.inr rf))))) H ∧ ¬ (va_A [(x, .inr (5, [.ref tp, .ref ln, .ref bf, .ref tr, .ref ru, .ref co, .int (nI rs.length), .int hp, .int (nI st0), .long (lN t0)])), (co, .inr (1, [.ref ct, .ref ca, .int (nI ((zC ad mq).length))])), (ct, .inl ((kA 1), 64, .inr (.inl f))), (ca, .inl ((kA 5), 64, .inr (.inr (.inr (.inr g)))))] sz0) ru ∧ RsAt D kA (fun q => ¬ (va_A [(x, .inr (5, [.ref tp, .ref ln, .ref bf, .ref tr, .ref ru, .ref co, .int (nI rs.length), .int hp, .int (nI st0), .long (lN t0)])), (co, .inr (1, [.ref ct, .ref ca, .int (nI ((zC ad mq).length))])), (ct, .inl ((kA 1), 64, .inr (.inl f))), (ca, .inl ((kA 5), 64, .inr (.inr (.inr (.inr g)))))] sz0) q) H rf rs ad ∧ zQok rs mq ∧ CoRep (zC ad mq) f g ∧ BsAt D kA (fun q => ¬ (va_A [(x, .inr (5, [.ref tp, .ref ln, .ref bf, .ref tr, .ref ru, .ref co, .int (nI rs.length), .int hp, .int (nI st0), .long (lN t0)])), (co, .inr (1, [.ref ct, .ref ca, .int (nI ((zC ad mq).length))])), (ct, .inl ((kA 1), 64, .inr (.inl f))), (ca, .inl ((kA 5), 64, .inr (.inr (.inr (.inr g)))))] sz0) q) H ln lnl lns)) (zk_mQ (fun v H => v = none ∧ ∃ f' g', va_P D classes [(x, .inr (5, [.ref tp, .ref ln, .ref bf, .ref tr, .ref ru, .ref co, .int (nI rs.length), .int hp, .int (nI (zNext rs st0 (zFirst rs st0 lns))), .long (lN t0)])), (co, .inr (1, [.ref ct, .ref ca, .int (nI (zC ad (zPush rs t0 mq (zFirst rs st0 lns))).length)])), (ct, .inl (kA 1, 64, .inr (.inl f'))), (ca, .inl (kA 5, 64, .inr (.inr (.inr (.inr g')))))] H ∧ va_D (va_A [(x, .inr (5, [.ref tp, .ref ln, .ref bf, .ref tr, .ref ru, .ref co, .int (nI rs.length), .int hp, .int (nI st0), .long (lN t0)])), (co, .inr (1, [.ref ct, .ref ca, .int (nI ((zC ad mq).length))])), (ct, .inl ((kA 1), 64, .inr (.inl f))), (ca, .inl ((kA 5), 64, .inr (.inr (.inr (.inr g)))))] sz0) [(x, .inr (5, [.ref tp, .ref ln, .ref bf, .ref tr, .ref ru, .ref co, .int (nI rs.length), .int hp, .int (nI (zNext rs st0 (zFirst rs st0 lns))), .long (lN t0)])), (co, .inr (1, [.ref ct, .ref ca, .int (nI (zC ad (zPush rs t0 mq (zFirst rs st0 lns))).length)])), (ct, .inl (kA 1, 64, .inr (.inl f'))), (ca, .inl (kA 5, 64, .inr (.inr (.inr (.inr g')))))] ∧ CoRep (zC ad (zPush rs t0 mq (zFirst rs st0 lns))) f' g') (va_A [(x, .inr (5, [.ref tp, .ref ln, .ref bf, .ref tr, .ref ru, .ref co, .int (nI rs.length), .int hp, .int (nI st0), .long (lN t0)])), (co, .inr (1, [.ref ct, .ref ca, .int (nI ((zC ad mq).length))])), (ct, .inl ((kA 1), 64, .inr (.inl f))), (ca, .inl ((kA 5), 64, .inr (.inr (.inr (.inr g)))))] sz0)) 0 0 (va_A [(x, .inr (5, [.ref tp, .ref ln, .ref bf, .ref tr, .ref ru, .ref co, .int (nI rs.length), .int hp, .int (nI st0), .long (lN t0)])), (co, .inr (1, [.ref ct, .ref ca, .int (nI ((zC ad mq).length))])), (ct, .inl ((kA 1), 64, .inr (.inl f))), (ca, .inl ((kA 5), 64, .inr (.inr (.inr (.inr g)))))] sz0) := by
  refine zk_of [.ref x] (by decide) (Nat.le_of_ble_eq_true rfl) ?_
  intro p e s m below meth c S hr hlk hnm hK hX hpre ls hl
  obtain ⟨hx, hb, hml, hown, ht⟩ := id S
  have hl : lv_has ls 3 [(0, .ref x)] := hl
  obtain ⟨hsz, hP, hD0, hru, hruA, hrs0, hmq, hrep, hln⟩ := hpre
  subst hsz
  have hD := hD0.self (sz := s.heap.size)
  generalize hAe : va_A [(x, .inr (5, [.ref tp, .ref ln, .ref bf, .ref tr, .ref ru, .ref co, .int (nI rs.length), .int hp, .int (nI st0), .long (lN t0)])), (co, .inr (1, [.ref ct, .ref ca, .int (nI ((zC ad mq).length))])), (ct, .inl ((kA 1), 64, .inr (.inl f))), (ca, .inl ((kA 5), 64, .inr (.inr (.inr (.inr g)))))] s.heap.size = A at hD hruA hrs0 hln ⊢
  have hA : ∀ q : Nat, s.heap.size ≤ q → A q := fun q h => by rw [← hAe]; exact Or.inr h
  have hS : va_S A s.heap s.heap [] := va_S.rf
  have hP : va_P D classes [(x, .inr (5, [.ref tp, .ref ln, .ref bf, .ref tr, .ref ru, .ref co, .int (nI rs.length), .int hp, .int (nI st0), .long (lN t0)])), (co, .inr (1, [.ref ct, .ref ca, .int (nI ((zC ad mq).length))])), (ct, .inl ((kA 1), 64, .inr (.inl f))), (ca, .inl ((kA 5), 64, .inr (.inr (.inr (.inr g)))))] s.heap := hP
  refine lv_iconst (v := 0) hx hb d_Peer_answerLine_0 (by decide) ?_
  refine lv_istore_n (lv' := [(1, .int 0), (0, .ref x)]) hx hb d_Peer_answerLine_1 rfl hl (by decide) rfl (fun ls hl => ?_)
  have lp : ∀ (fu : Nat) (i : Nat), rs.length - i < fu → i ≤ rs.length → (∀ j, j < i → ¬ ((rs.getD j zR0).1 = st0 ∧ zFits (rs.getD j zR0).2.1 lns)) → ∀ (H : Heap) (locs : List Loc), va_P D classes [(x, .inr (5, [.ref tp, .ref ln, .ref bf, .ref tr, .ref ru, .ref co, .int (nI rs.length), .int hp, .int (nI st0), .long (lN t0)])), (co, .inr (1, [.ref ct, .ref ca, .int (nI ((zC ad mq).length))])), (ct, .inl ((kA 1), 64, .inr (.inl f))), (ca, .inl ((kA 5), 64, .inr (.inr (.inr (.inr g)))))] H → va_D A [(x, .inr (5, [.ref tp, .ref ln, .ref bf, .ref tr, .ref ru, .ref co, .int (nI rs.length), .int hp, .int (nI st0), .long (lN t0)])), (co, .inr (1, [.ref ct, .ref ca, .int (nI ((zC ad mq).length))])), (ct, .inl ((kA 1), 64, .inr (.inl f))), (ca, .inl ((kA 5), 64, .inr (.inr (.inr (.inr g)))))] → va_S A s.heap H locs → ∀ ls : Array Slot, lv_has ls 3 [(0, .ref x), (1, .int (nI i))] → W p l e { frames := 5, cells := 0, slots := 0, locals := 126 } s m [.ref x].toArray below meth c H locs 0 0 (MQ below (zk_mQ (fun v H => v = none ∧ ∃ f' g', va_P D classes [(x, .inr (5, [.ref tp, .ref ln, .ref bf, .ref tr, .ref ru, .ref co, .int (nI rs.length), .int hp, .int (nI (zNext rs st0 (zFirst rs st0 lns))), .long (lN t0)])), (co, .inr (1, [.ref ct, .ref ca, .int (nI (zC ad (zPush rs t0 mq (zFirst rs st0 lns))).length)])), (ct, .inl (kA 1, 64, .inr (.inl f'))), (ca, .inl (kA 5, 64, .inr (.inr (.inr (.inr g')))))] H ∧ va_D A [(x, .inr (5, [.ref tp, .ref ln, .ref bf, .ref tr, .ref ru, .ref co, .int (nI rs.length), .int hp, .int (nI (zNext rs st0 (zFirst rs st0 lns))), .long (lN t0)])), (co, .inr (1, [.ref ct, .ref ca, .int (nI (zC ad (zPush rs t0 mq (zFirst rs st0 lns))).length)])), (ct, .inl (kA 1, 64, .inr (.inl f'))), (ca, .inl (kA 5, 64, .inr (.inr (.inr (.inr g')))))] ∧ CoRep (zC ad (zPush rs t0 mq (zFirst rs st0 lns))) f' g') A) [.ref x].toArray s 0 0 A) (F0 m 2 ls []) := by
    intro fu
    induction fu with
    | zero => intro i hfu; exact absurd hfu (Nat.not_lt_zero _)
    | succ fu ih =>
      intro i hfu hi hno H locs hP hD hS ls hl
      refine lv_iload_n hx hb d_Peer_answerLine_2 rfl (lv_at hl 1 rfl) ?_
      refine lv_aload_n hx hb d_Peer_answerLine_3 rfl (lv_at hl 0 rfl) ?_
      refine zk_get (C := R_Peer) (T := F_Peer) (N := 10) S hK (hP 0 _ rfl) rfl i_Peer 6 (by decide) m_Peer_41 rfl rfl d_Peer_answerLine_4 ?_
      refine lv_icmp_ge (tgt := 91) hx hb d_Peer_answerLine_7 (by decide) (fun c7 => ?_) (fun c7 => ?_)
      · have hge : rs.length ≤ i := (nI_leI (by omega) (by omega)).mp c7
        have hfi : (zFirst rs st0 lns) = none := zFirst_none (fun j hj => hno j (by omega))
        rw [hfi]
        exact zk_vret S hr hlk hS ⟨rfl, f, g, hP, hD, hrep⟩ (Nat.le_refl _) (Nat.le_refl _) d_Peer_answerLine_91
      · have hlt : i < rs.length := Nat.not_le.mp fun z => c7 (nI_le z (by omega))
        obtain ⟨q, hq0, pa, ⟨hqZ, hqa⟩, hpt, hba, hb1, hb2, hb3, hb4⟩ := hrs0 i hlt
        refine lv_iload_n hx hb d_Peer_answerLine_10 rfl (lv_at hl 1 rfl) ?_
        refine lv_aload_n hx hb d_Peer_answerLine_11 rfl (lv_at hl 0 rfl) ?_
        refine zk_get (C := R_Peer) (T := F_Peer) (N := 10) S hK (hP 0 _ rfl) rfl i_Peer 4 (by decide) m_Peer_30 rfl rfl d_Peer_answerLine_12 ?_
        refine zk_alen S hK 4 (zk_ro hS hru hruA) rfl (v := nI 64) rfl d_Peer_answerLine_15 ?_
        refine lv_icmp_ge (tgt := 91) hx hb d_Peer_answerLine_16 (by decide) (fun c16 => ?_) (fun c16 => ?_)
        · exact absurd ((nI_leI (by omega) (by omega)).mp c16) (by omega)
        · refine lv_aload_n hx hb d_Peer_answerLine_19 rfl (lv_at hl 0 rfl) ?_
          refine zk_get (C := R_Peer) (T := F_Peer) (N := 10) S hK (hP 0 _ rfl) rfl i_Peer 4 (by decide) m_Peer_30 rfl rfl d_Peer_answerLine_20 ?_
          refine lv_iload_n hx hb d_Peer_answerLine_23 rfl (lv_at hl 1 rfl) ?_
          refine zk_aald S hK 4 (zk_ro hS hru hruA) rfl (vp_in_nI (by omega) (by omega)) d_Peer_answerLine_24 ?_
          refine zk_top (v' := .ref q) (by rw [nI_clamp (by omega), hq0]; rfl) ?_
          refine lv_astore_n (lv' := [(2, .ref q), (0, .ref x), (1, .int (nI i))]) hx hb d_Peer_answerLine_25 rfl hl (by decide) rfl (fun ls hl => ?_)
          refine lv_aload_n hx hb d_Peer_answerLine_26 rfl (lv_at hl 0 rfl) ?_
          refine lv_ifnull hx hb d_Peer_answerLine_27 ?_
          refine lv_aload_n hx hb d_Peer_answerLine_30 rfl (lv_at hl 0 rfl) ?_
          refine va_getN (D := D) (ci := 4) (C := R_Rule) (T := F_Rule) (N := 5) hx hb ht i_Rule hown hK (zk_P1 (zk_ro hS hqa hqZ)) 0 rfl rfl 0 (by decide) (va_Nw.use rfl hX.1.1) (fun _ h9 => h9) rfl d_Peer_answerLine_31 ?_
          refine lv_aload_n hx hb d_Peer_answerLine_34 rfl (lv_at hl 1 rfl) ?_
          refine zk_get (C := R_Peer) (T := F_Peer) (N := 10) S hK (hP 0 _ rfl) rfl i_Peer 8 (by decide) m_Peer_49 rfl rfl d_Peer_answerLine_35 ?_
          refine lv_icmp_ne (tgt := 85) hx hb d_Peer_answerLine_38 (by decide) (fun c38 => ?_) (fun c38 => ?_)
          · have hnh : ¬ ((rs.getD i zR0).1 = st0 ∧ zFits (rs.getD i zR0).2.1 lns) := fun z => c38 (by rw [z.1])
            refine lv_iinc (v := (nI (i + 1))) (lv' := [(1, .int (nI (i + 1))), (2, .ref q), (0, .ref x)]) hx hb d_Peer_answerLine_85 hl (k := 2) rfl (nI_1 i) (by decide) rfl (fun ls hl => ?_)
            refine lv_goto (tgt := 2) hx hb d_Peer_answerLine_88 (by decide) ?_
            exact ih (i + 1) (by omega) (by omega) (fun j hj => by
              by_cases z : j = i
              · rw [z]; exact hnh
              · exact hno j (by omega)) _ _ (hP.sub [0, 1, 2, 3] rfl) (hD.sub [0, 1, 2, 3] (by decide) rfl) hS ls (lv_sub hl [2, 0] rfl)
          · have hse : (rs.getD i zR0).1 = st0 := (nI_eq (by omega) (by omega)).mp c38
            refine lv_aload_n hx hb d_Peer_answerLine_41 rfl (lv_at hl 0 rfl) ?_
            refine va_getN (D := D) (ci := 4) (C := R_Rule) (T := F_Rule) (N := 5) hx hb ht i_Rule hown hK (zk_P1 (zk_ro hS hqa hqZ)) 0 rfl rfl 1 (by decide) (va_Nw.use rfl hX.1.2.1) (fun _ h9 => h9) rfl d_Peer_answerLine_42 ?_
            refine lv_aload_n hx hb d_Peer_answerLine_45 rfl (lv_at hl 1 rfl) ?_
            refine zk_get (C := R_Peer) (T := F_Peer) (N := 10) S hK (hP 0 _ rfl) rfl i_Peer 1 (by decide) m_Peer_18 rfl rfl d_Peer_answerLine_46 ?_
            refine zk_pureE (zk_runV (As := [.ref ln]) (rest := []) S m_Peer_157 (c_Pattern_fitsWhole l D kA (fun q => ¬ A q) pa (zIts (rs.getD i zR0).2.1) ln lnl lns) rfl rfl ⟨Nat.le_of_ble_eq_true rfl, Nat.le_of_ble_eq_true rfl⟩ hK hX ((by
              obtain ⟨sa, za, mm, sf, zf, ⟨ha, -, -⟩, hpa, -⟩ := hpt
              exact zk_recv hK (zk_ro hS hpa ha) rfl)) (⟨hpt.ro hS, hln.ro hS⟩) rfl hl.1 rfl (Nat.le_of_ble_eq_true rfl) ⟨Nat.le_of_ble_eq_true rfl, Nat.le_of_ble_eq_true rfl⟩ d_Peer_answerLine_49) (fun v hv => ?_)
            rcases hv with ⟨hf1, rfl⟩ | ⟨hf1, rfl⟩
            · refine lv_if_eq (tgt := 85) hx hb d_Peer_answerLine_52 (by decide) (fun c52 => ?_) (fun c52 => ?_)
              · exact absurd c52 (by decide)
              · refine lv_aload_n hx hb d_Peer_answerLine_55 rfl (lv_at hl 1 rfl) ?_
                refine lv_aload_n hx hb d_Peer_answerLine_56 rfl (lv_at hl 0 rfl) ?_
                refine va_getN (D := D) (ci := 4) (C := R_Rule) (T := F_Rule) (N := 5) hx hb ht i_Rule hown hK (zk_P1 (zk_ro hS hqa hqZ)) 0 rfl rfl 4 (by decide) (va_Nw.use rfl hX.1.2.2.1) (fun _ h9 => h9) rfl d_Peer_answerLine_57 ?_
                refine va_put (D := D) (ci := 5) (v := .int (nI (rs.getD i zR0).2.2.2.2)) (ty := .int) (C := R_Peer) (T := F_Peer) (N := 10) hx hb ht i_Peer t_Peer t_Peer_ok n_Peer hown hK hP hD hS 0 rfl rfl 8 (by decide) (ht _ m_Peer_49) (fun _ h9 => h9) rfl (by decide +kernel) rfl rfl (Nat.le_of_ble_eq_true rfl) d_Peer_answerLine_60 (fun H locs hP hD hS => ?_)
                have hP : va_P D classes [(x, .inr (5, [.ref tp, .ref ln, .ref bf, .ref tr, .ref ru, .ref co, .int (nI rs.length), .int hp, .int (nI (rs.getD i zR0).2.2.2.2), .long (lN t0)])), (co, .inr (1, [.ref ct, .ref ca, .int (nI ((zC ad mq).length))])), (ct, .inl ((kA 1), 64, .inr (.inl f))), (ca, .inl ((kA 5), 64, .inr (.inr (.inr (.inr g)))))] H := hP
                have hD : va_D A [(x, .inr (5, [.ref tp, .ref ln, .ref bf, .ref tr, .ref ru, .ref co, .int (nI rs.length), .int hp, .int (nI (rs.getD i zR0).2.2.2.2), .long (lN t0)])), (co, .inr (1, [.ref ct, .ref ca, .int (nI ((zC ad mq).length))])), (ct, .inl ((kA 1), 64, .inr (.inl f))), (ca, .inl ((kA 5), 64, .inr (.inr (.inr (.inr g)))))] := hD
                refine lv_aload_n hx hb d_Peer_answerLine_63 rfl (lv_at hl 1 rfl) ?_
                refine zk_get (C := R_Peer) (T := F_Peer) (N := 10) S hK (hP 0 _ rfl) rfl i_Peer 5 (by decide) m_Peer_37 rfl rfl d_Peer_answerLine_64 ?_
                refine lv_aload_n hx hb d_Peer_answerLine_67 rfl (lv_at hl 1 rfl) ?_
                refine zk_get (C := R_Peer) (T := F_Peer) (N := 10) S hK (hP 0 _ rfl) rfl i_Peer 9 (by decide) m_Peer_52 rfl rfl d_Peer_answerLine_68 ?_
                refine lv_aload_n hx hb d_Peer_answerLine_71 rfl (lv_at hl 0 rfl) ?_
                refine va_getN (D := D) (ci := 4) (C := R_Rule) (T := F_Rule) (N := 5) hx hb ht i_Rule hown hK (zk_P1 (zk_ro hS hqa hqZ)) 0 rfl rfl 3 (by decide) (va_Nw.use rfl hX.1.2.2.2.1) (fun _ h9 => h9) rfl d_Peer_answerLine_72 ?_
                refine lv_i2l hx hb d_Peer_answerLine_75 rfl ?_
                refine zk_tl (z := lN (rs.getD i zR0).2.2.2.1) (nI_l (by omega)) ?_
                refine lv_ladd hx hb d_Peer_answerLine_76 ?_
                refine zk_tl (z := lN (t0 + (rs.getD i zR0).2.2.2.1)) (lN_add _ _) ?_
                refine lv_aload_n hx hb d_Peer_answerLine_77 rfl (lv_at hl 0 rfl) ?_
                refine va_getN (D := D) (ci := 4) (C := R_Rule) (T := F_Rule) (N := 5) hx hb ht i_Rule hown hK (zk_P1 (zk_ro hS hqa hqZ)) 0 rfl rfl 2 (by decide) (va_Nw.use rfl hX.1.2.2.2.2) (fun _ h9 => h9) rfl d_Peer_answerLine_78 ?_
                have hfi : (zFirst rs st0 lns) = some i := zFirst_some hlt ⟨hse, hf1⟩ hno
                rw [hfi]
                have hFc := va_free (wc := [(co, .inr (1, [.ref ct, .ref ca, .int (nI ((zC ad mq).length))])), (ct, .inl ((kA 1), 64, .inr (.inl f))), (ca, .inl ((kA 5), 64, .inr (.inr (.inr (.inr g)))))]) hD hS hA [1, 2, 3] rfl
                refine zk_mut (zk_runV (As := [.long (lN (t0 + (rs.getD i zR0).2.2.2.1)), .ref (ad i)]) (rest := []) S m_Peer_170 (c_Coming_add l D kA co ct ca f g (zC ad mq) (t0 + (rs.getD i zR0).2.2.2.1) (ad i) 200 (rs.getD i zR0).2.2.1 (by omega) (by rw [zC_len]; exact hmq.1) H.size) rfl rfl ⟨Nat.le_of_ble_eq_true rfl, Nat.le_of_ble_eq_true rfl⟩ hK hX (zk_recv hK (hP 1 _ rfl) rfl) ⟨rfl, hP.sub (ws' := [(co, .inr (1, [.ref ct, .ref ca, .int (nI ((zC ad mq).length))])), (ct, .inl ((kA 1), 64, .inr (.inl f))), (ca, .inl ((kA 5), 64, .inr (.inr (.inr (.inr g)))))]) [1, 2, 3] rfl, (hD.sub (ws' := [(co, .inr (1, [.ref ct, .ref ca, .int (nI ((zC ad mq).length))])), (ct, .inl ((kA 1), 64, .inr (.inl f))), (ca, .inl ((kA 5), 64, .inr (.inr (.inr (.inr g)))))]) [1, 2, 3] (by decide) rfl).weaken (fun _ _ _ _ => trivial), hrep, hmq.co ((hrs0.ro hS).weaken (fun q hq hz => hq (hFc q hz))), (hba.ro hS).weaken (fun q hq hz => hq (hFc q hz))⟩ rfl hl.1 rfl (Nat.le_of_ble_eq_true rfl) ⟨Nat.le_of_ble_eq_true rfl, Nat.le_of_ble_eq_true rfl⟩ d_Peer_answerLine_81) hS hFc hFc (fun v H locs hpost hz1 hk1 hS => ?_)
                obtain ⟨rfl, hpost⟩ := hpost
                obtain ⟨f', g', hP1, hD1, hrep'⟩ := zPush_post hpost
                obtain ⟨hP, hD⟩ := va_join (wr := [(x, .inr (5, [.ref tp, .ref ln, .ref bf, .ref tr, .ref ru, .ref co, .int (nI rs.length), .int hp, .int (nI (rs.getD i zR0).2.2.2.2), .long (lN t0)]))]) (w1 := wC kA co ct ca (zC ad (zPush rs t0 mq (some i))).length f' g') hP hD [1, 2, 3] [0] rfl rfl (by decide) (by decide) hk1 hFc hP1 hD1
                refine W.eq (g2 := F0 m 84 ls []) rfl ?_
                exact zk_vret S hr hlk hS ⟨rfl, f', g', hP, hD, hrep'⟩ (Nat.le_refl _) (Nat.le_refl _) d_Peer_answerLine_84
            · refine lv_if_eq (tgt := 85) hx hb d_Peer_answerLine_52 (by decide) (fun c52 => ?_) (fun c52 => ?_)
              · have hnh : ¬ ((rs.getD i zR0).1 = st0 ∧ zFits (rs.getD i zR0).2.1 lns) := fun z => hf1 z.2
                refine lv_iinc (v := (nI (i + 1))) (lv' := [(1, .int (nI (i + 1))), (2, .ref q), (0, .ref x)]) hx hb d_Peer_answerLine_85 hl (k := 2) rfl (nI_1 i) (by decide) rfl (fun ls hl => ?_)
                refine lv_goto (tgt := 2) hx hb d_Peer_answerLine_88 (by decide) ?_
                exact ih (i + 1) (by omega) (by omega) (fun j hj => by
                  by_cases z : j = i
                  · rw [z]; exact hnh
                  · exact hno j (by omega)) _ _ (hP.sub [0, 1, 2, 3] rfl) (hD.sub [0, 1, 2, 3] (by decide) rfl) hS ls (lv_sub hl [2, 0] rfl)
              · exact absurd rfl c52
  exact lp (rs.length + 1) 0 (by omega) (Nat.zero_le _) (fun j hj => absurd hj (Nat.not_lt_zero j)) _ _ (hP.sub [0, 1, 2, 3] rfl) (hD.sub [0, 1, 2, 3] (by decide) rfl) hS ls (lv_sub hl [1, 0] rfl)
