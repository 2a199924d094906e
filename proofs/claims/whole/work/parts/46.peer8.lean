def zGood (s1 d1 n1 : Int32) (tps : List Nat) (cnt : Nat) : Prop := (∃ k, k ≤ 31 ∧ s1 = nI k) ∧ (∃ k, k ≤ 1000 ∧ d1 = nI k) ∧ (∃ k, k ≤ 31 ∧ n1 = nI k) ∧ (∃ z, zAt tps = some z ∧ z ≤ 200 ∧ tps.length - z - 1 ≤ 200) ∧ cnt < 64
theorem zAt_lt {bs : List Nat} {k : Nat} (h : zAt bs = some k) : k < bs.length := by
  unfold zAt at h
  rw [List.findIdx?_eq_some_iff_getElem] at h
  exact h.1
set_option maxHeartbeats 8000000 in
set_option maxRecDepth 100000 in
/-- PeerLine.rule(state, delay, next) -/
theorem c_Peer_rule (l : Launch) (D : va_G) (kA : Nat → ClassId) (x tp ln bf tr ru co : Nat) (hp st : Int32) (tm : Int64) (cnt : Nat) (rf : Nat → Option Nat) (r n : Nat) (f : Nat → Int32) (tps : List Nat) (s1 d1 n1 : Int32) (hcnt : cnt ≤ 64) (sz0 : Nat) : Met l y_Peer_rule (Cond.code y_Peer_rule b_Peer_rule 8 (some .int) :: zTB) { frames := 6, cells := 160, slots := 1600, locals := 133 } (zk_Pc D classes (zTY kA) [.ref x, .int s1, .int d1, .int n1] (fun H => H.size = sz0 ∧ va_P D classes [(x, .inr (5, [.ref tp, .ref ln, .ref bf, .ref tr, .ref ru, .ref co, .int (nI cnt), .int hp, .int st, .long tm])), (ru, .inl ((kA 4), 64, .inr (.inr (.inr (.inr rf))))), (tp, .inr (0, [.int (nI 1024), .ref r, .int (nI tps.length)])), (r, .inl ((kA 0), n, .inl f))] H ∧ va_D (fun _ => True) [(x, .inr (5, [.ref tp, .ref ln, .ref bf, .ref tr, .ref ru, .ref co, .int (nI cnt), .int hp, .int st, .long tm])), (ru, .inl ((kA 4), 64, .inr (.inr (.inr (.inr rf))))), (tp, .inr (0, [.int (nI 1024), .ref r, .int (nI tps.length)])), (r, .inl ((kA 0), n, .inl f))] ∧ zBs 1024 n f tps)) (zk_mQ (fun v H => (¬ zGood s1 d1 n1 tps cnt ∧ v = some (.int (-1)) ∧ ∃ r' f', va_P D classes [(x, .inr (5, [.ref tp, .ref ln, .ref bf, .ref tr, .ref ru, .ref co, .int (nI cnt), .int hp, .int st, .long tm])), (ru, .inl (kA 4, 64, .inr (.inr (.inr (.inr rf))))), (tp, .inr (0, [.int (nI 1024), .ref r', .int (nI ([] : List Nat).length)])), (r', .inl (kA 0, n, .inl f'))] H ∧ va_D (va_A [(x, .inr (5, [.ref tp, .ref ln, .ref bf, .ref tr, .ref ru, .ref co, .int (nI cnt), .int hp, .int st, .long tm])), (ru, .inl ((kA 4), 64, .inr (.inr (.inr (.inr rf))))), (tp, .inr (0, [.int (nI 1024), .ref r, .int (nI tps.length)])), (r, .inl ((kA 0), n, .inl f))] sz0) [(x, .inr (5, [.ref tp, .ref ln, .ref bf, .ref tr, .ref ru, .ref co, .int (nI cnt), .int hp, .int st, .long tm])), (ru, .inl (kA 4, 64, .inr (.inr (.inr (.inr rf))))), (tp, .inr (0, [.int (nI 1024), .ref r', .int (nI ([] : List Nat).length)])), (r', .inl (kA 0, n, .inl f'))] ∧ zBs 1024 n f' []) ∨ (zGood s1 d1 n1 tps cnt ∧ v = some (.int (nI cnt)) ∧ ∃ z q pa na sa za nr cap r' sf zf nf f', zAt tps = some z ∧ va_P D classes [(x, .inr (5, [.ref tp, .ref ln, .ref bf, .ref tr, .ref ru, .ref co, .int (nI (cnt + 1)), .int hp, .int st, .long tm])), (ru, .inl (kA 4, 64, .inr (.inr (.inr (.inr (va_up rf cnt (some q))))))), (tp, .inr (0, [.int (nI 1024), .ref r', .int (nI ([] : List Nat).length)])), (r', .inl (kA 0, n, .inl f')), (q, .inr (4, [.int s1, .ref pa, .ref na, .int d1, .int n1])), (pa, .inr (2, [.ref sa, .ref za, .int (nI (rItems tps z 0).length)])), (sa, .inl (kA 1, z * 4, .inr (.inl sf))), (za, .inl (kA 2, z, .inl zf)), (na, .inr (0, [.int (nI 200), .ref nr, .int (nI (tps.drop (z + 1)).length)])), (nr, .inl (kA 0, cap, .inl nf))] H ∧ va_D (va_A [(x, .inr (5, [.ref tp, .ref ln, .ref bf, .ref tr, .ref ru, .ref co, .int (nI cnt), .int hp, .int st, .long tm])), (ru, .inl ((kA 4), 64, .inr (.inr (.inr (.inr rf))))), (tp, .inr (0, [.int (nI 1024), .ref r, .int (nI tps.length)])), (r, .inl ((kA 0), n, .inl f))] sz0) [(x, .inr (5, [.ref tp, .ref ln, .ref bf, .ref tr, .ref ru, .ref co, .int (nI (cnt + 1)), .int hp, .int st, .long tm])), (ru, .inl (kA 4, 64, .inr (.inr (.inr (.inr (va_up rf cnt (some q))))))), (tp, .inr (0, [.int (nI 1024), .ref r', .int (nI ([] : List Nat).length)])), (r', .inl (kA 0, n, .inl f')), (q, .inr (4, [.int s1, .ref pa, .ref na, .int d1, .int n1])), (pa, .inr (2, [.ref sa, .ref za, .int (nI (rItems tps z 0).length)])), (sa, .inl (kA 1, z * 4, .inr (.inl sf))), (za, .inl (kA 2, z, .inl zf)), (na, .inr (0, [.int (nI 200), .ref nr, .int (nI (tps.drop (z + 1)).length)])), (nr, .inl (kA 0, cap, .inl nf))] ∧ zBs 1024 n f' [] ∧ PtRep z sf zf (rItems tps z 0) ∧ zBs 200 cap nf (tps.drop (z + 1)))) (va_A [(x, .inr (5, [.ref tp, .ref ln, .ref bf, .ref tr, .ref ru, .ref co, .int (nI cnt), .int hp, .int st, .long tm])), (ru, .inl ((kA 4), 64, .inr (.inr (.inr (.inr rf))))), (tp, .inr (0, [.int (nI 1024), .ref r, .int (nI tps.length)])), (r, .inl ((kA 0), n, .inl f))] sz0)) 160 1600 (va_A [(x, .inr (5, [.ref tp, .ref ln, .ref bf, .ref tr, .ref ru, .ref co, .int (nI cnt), .int hp, .int st, .long tm])), (ru, .inl ((kA 4), 64, .inr (.inr (.inr (.inr rf))))), (tp, .inr (0, [.int (nI 1024), .ref r, .int (nI tps.length)])), (r, .inl ((kA 0), n, .inl f))] sz0) := by
  refine zk_of [.ref x, .int s1, .int d1, .int n1] (by decide) (Nat.le_of_ble_eq_true rfl) ?_
  intro p e s m below meth c S hr hlk hnm hK hX hpre ls hl
  obtain ⟨hx, hb, hml, hown, ht⟩ := id S
  have hl : lv_has ls 8 [(0, .ref x), (1, .int s1), (2, .int d1), (3, .int n1)] := hl
  obtain ⟨hsz, hP, hD0, hbs⟩ := hpre
  subst hsz
  have hD := hD0.self (sz := s.heap.size)
  generalize hAe : va_A [(x, .inr (5, [.ref tp, .ref ln, .ref bf, .ref tr, .ref ru, .ref co, .int (nI cnt), .int hp, .int st, .long tm])), (ru, .inl ((kA 4), 64, .inr (.inr (.inr (.inr rf))))), (tp, .inr (0, [.int (nI 1024), .ref r, .int (nI tps.length)])), (r, .inl ((kA 0), n, .inl f))] s.heap.size = A at hD ⊢
  have hA : ∀ q : Nat, s.heap.size ≤ q → A q := fun q h => by rw [← hAe]; exact Or.inr h
  have hS : va_S A s.heap s.heap [] := va_S.rf
  have hP : va_P D classes [(x, .inr (5, [.ref tp, .ref ln, .ref bf, .ref tr, .ref ru, .ref co, .int (nI cnt), .int hp, .int st, .long tm])), (ru, .inl ((kA 4), 64, .inr (.inr (.inr (.inr rf))))), (tp, .inr (0, [.int (nI 1024), .ref r, .int (nI tps.length)])), (r, .inl ((kA 0), n, .inl f))] s.heap := hP
  obtain ⟨h1, h2, h3, h4, h5⟩ := id hbs
  have hzl : ∀ k, zAt tps = some k → k < tps.length := fun k hk => zAt_lt hk
  refine lv_iconst (v := (-1)) hx hb d_Peer_rule_0 (by decide) ?_
  refine lv_istore (lv' := [(4, .int (-1)), (0, .ref x), (1, .int s1), (2, .int d1), (3, .int n1)]) hx hb d_Peer_rule_1 hl (by decide) rfl (fun ls hl => ?_)
  refine lv_aload_n hx hb d_Peer_rule_3 rfl (lv_at hl 1 rfl) ?_
  refine zk_get (C := R_Peer) (T := F_Peer) (N := 10) S hK (hP 0 _ rfl) rfl i_Peer 0 (by decide) m_Peer_14 rfl rfl d_Peer_rule_4 ?_
  refine zk_pure (zk_runV (As := []) (rest := []) S m_Peer_66 (c_Bytes_firstZero l D kA (fun _ => True) tp 1024 tps) rfl rfl ⟨Nat.le_of_ble_eq_true rfl, Nat.le_of_ble_eq_true rfl⟩ hK hX (zk_recv hK (hP 2 _ rfl) rfl) (⟨r, n, f, trivial, trivial, (hP 2 _ rfl), (hP 3 _ rfl), hbs⟩) rfl hl.1 rfl (Nat.le_of_ble_eq_true rfl) ⟨Nat.le_of_ble_eq_true rfl, Nat.le_of_ble_eq_true rfl⟩ d_Peer_rule_7) ?_
  refine lv_istore (lv' := [(5, .int (zI (zAt tps))), (4, .int (-1)), (0, .ref x), (1, .int s1), (2, .int d1), (3, .int n1)]) hx hb d_Peer_rule_10 hl (by decide) rfl (fun ls hl => ?_)
  refine lv_iload_n hx hb d_Peer_rule_12 rfl (lv_at hl 3 rfl) ?_
  refine zk_pureE (zk_runS (As := [.int s1]) (rest := []) S m_Peer_70 (c_Peer_isState l D kA s1) rfl rfl ⟨Nat.le_of_ble_eq_true rfl, Nat.le_of_ble_eq_true rfl⟩ hK hX (trivial) rfl hl.1 rfl (Nat.le_of_ble_eq_true rfl) ⟨Nat.le_of_ble_eq_true rfl, Nat.le_of_ble_eq_true rfl⟩ d_Peer_rule_13) (fun v hv => ?_)
  rcases hv with ⟨ka, hka, eka, rfl⟩ | ⟨hka, rfl⟩
  · refine lv_if_eq (tgt := 41) hx hb d_Peer_rule_16 (by decide) (fun c16 => ?_) (fun c16 => ?_)
    · exact absurd c16 (by decide)
    · refine lv_iload_n hx hb d_Peer_rule_19 rfl (lv_at hl 5 rfl) ?_
      refine zk_pureE (zk_runS (As := [.int n1]) (rest := []) S m_Peer_70 (c_Peer_isState l D kA n1) rfl rfl ⟨Nat.le_of_ble_eq_true rfl, Nat.le_of_ble_eq_true rfl⟩ hK hX (trivial) rfl hl.1 rfl (Nat.le_of_ble_eq_true rfl) ⟨Nat.le_of_ble_eq_true rfl, Nat.le_of_ble_eq_true rfl⟩ d_Peer_rule_20) (fun v hv => ?_)
      rcases hv with ⟨kb, hkb, ekb, rfl⟩ | ⟨hkb, rfl⟩
      · refine lv_if_eq (tgt := 41) hx hb d_Peer_rule_23 (by decide) (fun c23 => ?_) (fun c23 => ?_)
        · exact absurd c23 (by decide)
        · refine lv_iload_n hx hb d_Peer_rule_26 rfl (lv_at hl 4 rfl) ?_
          refine lv_if_lt (tgt := 41) hx hb d_Peer_rule_27 (by decide) (fun c27 => ?_) (fun c27 => ?_)
          · refine lv_iconst (v := 0) hx hb d_Peer_rule_41 (by decide) ?_
            refine lv_istore (lv' := [(6, .int 0), (5, .int (zI (zAt tps))), (4, .int (-1)), (0, .ref x), (1, .int s1), (2, .int d1), (3, .int n1)]) hx hb d_Peer_rule_42 hl (by decide) rfl (fun ls hl => ?_)
            refine lv_iload hx hb d_Peer_rule_44 (lv_at hl 0 rfl) ?_
            refine lv_if_eq (tgt := 136) hx hb d_Peer_rule_46 (by decide) (fun c46 => ?_) (fun c46 => ?_)
            · refine lv_aload_n hx hb d_Peer_rule_136 rfl (lv_at hl 3 rfl) ?_
              refine zk_get (C := R_Peer) (T := F_Peer) (N := 10) S hK (hP 0 _ rfl) rfl i_Peer 0 (by decide) m_Peer_14 rfl rfl d_Peer_rule_137 ?_
              have hFc := va_free (wc := [(tp, .inr (0, [.int (nI 1024), .ref r, .int (nI tps.length)])), (r, .inl ((kA 0), n, .inl f))]) hD hS hA [2, 3] rfl
              refine zk_mut (zk_runV (As := []) (rest := []) S m_Peer_88 (c_Bytes_clear l D kA tp r 1024 n f tps s.heap.size) rfl rfl ⟨Nat.le_of_ble_eq_true rfl, Nat.le_of_ble_eq_true rfl⟩ hK hX (zk_recv hK (hP 2 _ rfl) rfl) ⟨rfl, hP.sub (ws' := [(tp, .inr (0, [.int (nI 1024), .ref r, .int (nI tps.length)])), (r, .inl ((kA 0), n, .inl f))]) [2, 3] rfl, (hD.sub (ws' := [(tp, .inr (0, [.int (nI 1024), .ref r, .int (nI tps.length)])), (r, .inl ((kA 0), n, .inl f))]) [2, 3] (by decide) rfl).weaken (fun _ _ _ _ => trivial), hbs⟩ rfl hl.1 rfl (Nat.le_of_ble_eq_true rfl) ⟨by
                show _ ≤ (160)
                omega, by
                show _ ≤ (1600)
                omega⟩ d_Peer_rule_140) hS hFc hFc (fun v H locs hpost hz1 hk1 hS => ?_)
              obtain ⟨rfl, r', f', hP1, hD1, hbs'⟩ := hpost
              obtain ⟨hP, hD⟩ := va_join (wr := [(x, .inr (5, [.ref tp, .ref ln, .ref bf, .ref tr, .ref ru, .ref co, .int (nI cnt), .int hp, .int st, .long tm])), (ru, .inl ((kA 4), 64, .inr (.inr (.inr (.inr rf)))))]) (w1 := [(tp, .inr (0, [.int (nI 1024), .ref r', .int (nI ([] : List Nat).length)])), (r', .inl ((kA 0), n, .inl f'))]) hP hD [2, 3] [0, 1] rfl rfl (by decide) (by decide) hk1 hFc hP1 hD1
              refine W.eq (g2 := F0 m 143 ls []) rfl ?_
              have hP : va_P D classes [(x, .inr (5, [.ref tp, .ref ln, .ref bf, .ref tr, .ref ru, .ref co, .int (nI cnt), .int hp, .int st, .long tm])), (ru, .inl ((kA 4), 64, .inr (.inr (.inr (.inr rf))))), (tp, .inr (0, [.int (nI 1024), .ref r', .int (nI ([] : List Nat).length)])), (r', .inl ((kA 0), n, .inl f'))] H := hP
              have hD : va_D A [(x, .inr (5, [.ref tp, .ref ln, .ref bf, .ref tr, .ref ru, .ref co, .int (nI cnt), .int hp, .int st, .long tm])), (ru, .inl ((kA 4), 64, .inr (.inr (.inr (.inr rf))))), (tp, .inr (0, [.int (nI 1024), .ref r', .int (nI ([] : List Nat).length)])), (r', .inl ((kA 0), n, .inl f'))] := hD
              refine lv_iload hx hb d_Peer_rule_143 (lv_at hl 2 rfl) ?_
              exact zk_iret S hr hlk hS (Or.inl ⟨fun zg => (by obtain ⟨-, ⟨k9, h9, e9⟩, -⟩ := zg; exact absurd c27 (by rw [e9]; exact nI_pos (by omega))), rfl, r', f', hP.sub [0, 1, 2, 3] rfl, hD.sub [0, 1, 2, 3] (by decide) rfl, hbs'⟩) (by omega) (by omega) d_Peer_rule_145
            · exact absurd rfl c46
          · refine lv_iload_n hx hb d_Peer_rule_30 rfl (lv_at hl 4 rfl) ?_
            refine lv_sipush (v := 1000) hx hb d_Peer_rule_31 (by decide) ?_
            refine lv_icmp_gt (tgt := 41) hx hb d_Peer_rule_34 (by decide) (fun c34 => ?_) (fun c34 => ?_)
            · refine lv_iconst (v := 0) hx hb d_Peer_rule_41 (by decide) ?_
              refine lv_istore (lv' := [(6, .int 0), (5, .int (zI (zAt tps))), (4, .int (-1)), (0, .ref x), (1, .int s1), (2, .int d1), (3, .int n1)]) hx hb d_Peer_rule_42 hl (by decide) rfl (fun ls hl => ?_)
              refine lv_iload hx hb d_Peer_rule_44 (lv_at hl 0 rfl) ?_
              refine lv_if_eq (tgt := 136) hx hb d_Peer_rule_46 (by decide) (fun c46 => ?_) (fun c46 => ?_)
              · refine lv_aload_n hx hb d_Peer_rule_136 rfl (lv_at hl 3 rfl) ?_
                refine zk_get (C := R_Peer) (T := F_Peer) (N := 10) S hK (hP 0 _ rfl) rfl i_Peer 0 (by decide) m_Peer_14 rfl rfl d_Peer_rule_137 ?_
                have hFc := va_free (wc := [(tp, .inr (0, [.int (nI 1024), .ref r, .int (nI tps.length)])), (r, .inl ((kA 0), n, .inl f))]) hD hS hA [2, 3] rfl
                refine zk_mut (zk_runV (As := []) (rest := []) S m_Peer_88 (c_Bytes_clear l D kA tp r 1024 n f tps s.heap.size) rfl rfl ⟨Nat.le_of_ble_eq_true rfl, Nat.le_of_ble_eq_true rfl⟩ hK hX (zk_recv hK (hP 2 _ rfl) rfl) ⟨rfl, hP.sub (ws' := [(tp, .inr (0, [.int (nI 1024), .ref r, .int (nI tps.length)])), (r, .inl ((kA 0), n, .inl f))]) [2, 3] rfl, (hD.sub (ws' := [(tp, .inr (0, [.int (nI 1024), .ref r, .int (nI tps.length)])), (r, .inl ((kA 0), n, .inl f))]) [2, 3] (by decide) rfl).weaken (fun _ _ _ _ => trivial), hbs⟩ rfl hl.1 rfl (Nat.le_of_ble_eq_true rfl) ⟨by
                  show _ ≤ (160)
                  omega, by
                  show _ ≤ (1600)
                  omega⟩ d_Peer_rule_140) hS hFc hFc (fun v H locs hpost hz1 hk1 hS => ?_)
                obtain ⟨rfl, r', f', hP1, hD1, hbs'⟩ := hpost
                obtain ⟨hP, hD⟩ := va_join (wr := [(x, .inr (5, [.ref tp, .ref ln, .ref bf, .ref tr, .ref ru, .ref co, .int (nI cnt), .int hp, .int st, .long tm])), (ru, .inl ((kA 4), 64, .inr (.inr (.inr (.inr rf)))))]) (w1 := [(tp, .inr (0, [.int (nI 1024), .ref r', .int (nI ([] : List Nat).length)])), (r', .inl ((kA 0), n, .inl f'))]) hP hD [2, 3] [0, 1] rfl rfl (by decide) (by decide) hk1 hFc hP1 hD1
                refine W.eq (g2 := F0 m 143 ls []) rfl ?_
                have hP : va_P D classes [(x, .inr (5, [.ref tp, .ref ln, .ref bf, .ref tr, .ref ru, .ref co, .int (nI cnt), .int hp, .int st, .long tm])), (ru, .inl ((kA 4), 64, .inr (.inr (.inr (.inr rf))))), (tp, .inr (0, [.int (nI 1024), .ref r', .int (nI ([] : List Nat).length)])), (r', .inl ((kA 0), n, .inl f'))] H := hP
                have hD : va_D A [(x, .inr (5, [.ref tp, .ref ln, .ref bf, .ref tr, .ref ru, .ref co, .int (nI cnt), .int hp, .int st, .long tm])), (ru, .inl ((kA 4), 64, .inr (.inr (.inr (.inr rf))))), (tp, .inr (0, [.int (nI 1024), .ref r', .int (nI ([] : List Nat).length)])), (r', .inl ((kA 0), n, .inl f'))] := hD
                refine lv_iload hx hb d_Peer_rule_143 (lv_at hl 2 rfl) ?_
                exact zk_iret S hr hlk hS (Or.inl ⟨fun zg => (by obtain ⟨-, ⟨k9, h9, e9⟩, -⟩ := zg; exact absurd c34 (by rw [e9]; exact nI_nlt (a := 1000) h9 (by omega))), rfl, r', f', hP.sub [0, 1, 2, 3] rfl, hD.sub [0, 1, 2, 3] (by decide) rfl, hbs'⟩) (by omega) (by omega) d_Peer_rule_145
              · exact absurd rfl c46
            · obtain ⟨kd, hkd, ekd⟩ := nI_of2 (n := 1000) (M := 1000) (by decide) c27 (Int32.not_lt.mp c34)
              refine lv_iconst (v := 1) hx hb d_Peer_rule_37 (by decide) ?_
              refine lv_goto (tgt := 42) hx hb d_Peer_rule_38 (by decide) ?_
              refine lv_istore (lv' := [(6, .int 1), (5, .int (zI (zAt tps))), (4, .int (-1)), (0, .ref x), (1, .int s1), (2, .int d1), (3, .int n1)]) hx hb d_Peer_rule_42 hl (by decide) rfl (fun ls hl => ?_)
              refine lv_iload hx hb d_Peer_rule_44 (lv_at hl 0 rfl) ?_
              refine lv_if_eq (tgt := 136) hx hb d_Peer_rule_46 (by decide) (fun c46 => ?_) (fun c46 => ?_)
              · exact absurd c46 (by decide)
              · refine lv_aload_n hx hb d_Peer_rule_49 rfl (lv_at hl 3 rfl) ?_
                refine lv_iload hx hb d_Peer_rule_50 (lv_at hl 1 rfl) ?_
                refine zk_pureE (zk_runV (As := [.int (zI (zAt tps))]) (rest := []) S m_Peer_73 (c_Peer_tapeIsRule l D kA (fun _ => True) x tp ln bf tr ru co (nI cnt) hp st tm 1024 tps (zAt tps) hzl) rfl rfl ⟨Nat.le_of_ble_eq_true rfl, Nat.le_of_ble_eq_true rfl⟩ hK hX (zk_recv hK (hP 0 _ rfl) rfl) (⟨(hP 0 _ rfl), ⟨r, n, f, trivial, trivial, (hP 2 _ rfl), (hP 3 _ rfl), hbs⟩⟩) rfl hl.1 rfl (Nat.le_of_ble_eq_true rfl) ⟨Nat.le_of_ble_eq_true rfl, Nat.le_of_ble_eq_true rfl⟩ d_Peer_rule_52) (fun v hv => ?_)
                rcases hv with ⟨z, hz0, hzr1, hzr2, rfl⟩ | ⟨hz0, rfl⟩
                · refine lv_if_eq (tgt := 136) hx hb d_Peer_rule_55 (by decide) (fun c55 => ?_) (fun c55 => ?_)
                  · exact absurd c55 (by decide)
                  · refine lv_aload_n hx hb d_Peer_rule_58 rfl (lv_at hl 3 rfl) ?_
                    refine zk_get (C := R_Peer) (T := F_Peer) (N := 10) S hK (hP 0 _ rfl) rfl i_Peer 6 (by decide) m_Peer_41 rfl rfl d_Peer_rule_59 ?_
                    refine lv_aload_n hx hb d_Peer_rule_62 rfl (lv_at hl 3 rfl) ?_
                    refine zk_get (C := R_Peer) (T := F_Peer) (N := 10) S hK (hP 0 _ rfl) rfl i_Peer 4 (by decide) m_Peer_30 rfl rfl d_Peer_rule_63 ?_
                    refine zk_alen S hK 4 (hP 1 _ rfl) rfl (v := nI 64) rfl d_Peer_rule_66 ?_
                    refine lv_icmp_ge (tgt := 136) hx hb d_Peer_rule_67 (by decide) (fun c67 => ?_) (fun c67 => ?_)
                    · refine lv_aload_n hx hb d_Peer_rule_136 rfl (lv_at hl 3 rfl) ?_
                      refine zk_get (C := R_Peer) (T := F_Peer) (N := 10) S hK (hP 0 _ rfl) rfl i_Peer 0 (by decide) m_Peer_14 rfl rfl d_Peer_rule_137 ?_
                      have hFc := va_free (wc := [(tp, .inr (0, [.int (nI 1024), .ref r, .int (nI tps.length)])), (r, .inl ((kA 0), n, .inl f))]) hD hS hA [2, 3] rfl
                      refine zk_mut (zk_runV (As := []) (rest := []) S m_Peer_88 (c_Bytes_clear l D kA tp r 1024 n f tps s.heap.size) rfl rfl ⟨Nat.le_of_ble_eq_true rfl, Nat.le_of_ble_eq_true rfl⟩ hK hX (zk_recv hK (hP 2 _ rfl) rfl) ⟨rfl, hP.sub (ws' := [(tp, .inr (0, [.int (nI 1024), .ref r, .int (nI tps.length)])), (r, .inl ((kA 0), n, .inl f))]) [2, 3] rfl, (hD.sub (ws' := [(tp, .inr (0, [.int (nI 1024), .ref r, .int (nI tps.length)])), (r, .inl ((kA 0), n, .inl f))]) [2, 3] (by decide) rfl).weaken (fun _ _ _ _ => trivial), hbs⟩ rfl hl.1 rfl (Nat.le_of_ble_eq_true rfl) ⟨by
                        show _ ≤ (160)
                        omega, by
                        show _ ≤ (1600)
                        omega⟩ d_Peer_rule_140) hS hFc hFc (fun v H locs hpost hz1 hk1 hS => ?_)
                      obtain ⟨rfl, r', f', hP1, hD1, hbs'⟩ := hpost
                      obtain ⟨hP, hD⟩ := va_join (wr := [(x, .inr (5, [.ref tp, .ref ln, .ref bf, .ref tr, .ref ru, .ref co, .int (nI cnt), .int hp, .int st, .long tm])), (ru, .inl ((kA 4), 64, .inr (.inr (.inr (.inr rf)))))]) (w1 := [(tp, .inr (0, [.int (nI 1024), .ref r', .int (nI ([] : List Nat).length)])), (r', .inl ((kA 0), n, .inl f'))]) hP hD [2, 3] [0, 1] rfl rfl (by decide) (by decide) hk1 hFc hP1 hD1
                      refine W.eq (g2 := F0 m 143 ls []) rfl ?_
                      have hP : va_P D classes [(x, .inr (5, [.ref tp, .ref ln, .ref bf, .ref tr, .ref ru, .ref co, .int (nI cnt), .int hp, .int st, .long tm])), (ru, .inl ((kA 4), 64, .inr (.inr (.inr (.inr rf))))), (tp, .inr (0, [.int (nI 1024), .ref r', .int (nI ([] : List Nat).length)])), (r', .inl ((kA 0), n, .inl f'))] H := hP
                      have hD : va_D A [(x, .inr (5, [.ref tp, .ref ln, .ref bf, .ref tr, .ref ru, .ref co, .int (nI cnt), .int hp, .int st, .long tm])), (ru, .inl ((kA 4), 64, .inr (.inr (.inr (.inr rf))))), (tp, .inr (0, [.int (nI 1024), .ref r', .int (nI ([] : List Nat).length)])), (r', .inl ((kA 0), n, .inl f'))] := hD
                      refine lv_iload hx hb d_Peer_rule_143 (lv_at hl 2 rfl) ?_
                      exact zk_iret S hr hlk hS (Or.inl ⟨fun zg => (by obtain ⟨-, -, -, -, h9⟩ := zg; exact absurd ((nI_leI (by omega) (by omega)).mp c67) (by omega)), rfl, r', f', hP.sub [0, 1, 2, 3] rfl, hD.sub [0, 1, 2, 3] (by decide) rfl, hbs'⟩) (by omega) (by omega) d_Peer_rule_145
                    · have hc64 : cnt < 64 := Nat.not_le.mp fun z9 => c67 (nI_le z9 (by omega))
                      refine va_new (ci := 2) (fs := [.null, .null, .int 0]) (C := R_Pattern) (T := F_Pattern) (N := 3) hx hb ht i_Pattern t_Pattern t_Pattern_ok hown (ht _ m_Peer_76) (ht _ m_inst_Pattern) (ht _ m_ini_Pattern) hK hP hD hS hA rfl (fun j hj => by rcases (show j = 0 ∨ j = 1 ∨ j = 2 by omega) with rfl | rfl | rfl <;> rfl) (Nat.le_of_ble_eq_true rfl) (Nat.le_of_ble_eq_true rfl) d_Peer_rule_70 (fun pa H hP hD hS => ?_)
                      have hP : va_P D classes [(x, .inr (5, [.ref tp, .ref ln, .ref bf, .ref tr, .ref ru, .ref co, .int (nI cnt), .int hp, .int st, .long tm])), (ru, .inl ((kA 4), 64, .inr (.inr (.inr (.inr rf))))), (tp, .inr (0, [.int (nI 1024), .ref r, .int (nI tps.length)])), (r, .inl ((kA 0), n, .inl f)), (pa, .inr (2, [.null, .null, .int 0]))] H := hP
                      have hD : va_D A [(x, .inr (5, [.ref tp, .ref ln, .ref bf, .ref tr, .ref ru, .ref co, .int (nI cnt), .int hp, .int st, .long tm])), (ru, .inl ((kA 4), 64, .inr (.inr (.inr (.inr rf))))), (tp, .inr (0, [.int (nI 1024), .ref r, .int (nI tps.length)])), (r, .inl ((kA 0), n, .inl f)), (pa, .inr (2, [.null, .null, .int 0]))] := hD
                      refine lv_dup hx hb d_Peer_rule_73 rfl ?_
                      refine lv_aload_n hx hb d_Peer_rule_74 rfl (lv_at hl 3 rfl) ?_
                      refine zk_get (C := R_Peer) (T := F_Peer) (N := 10) S hK (hP 0 _ rfl) rfl i_Peer 0 (by decide) m_Peer_14 rfl rfl d_Peer_rule_75 ?_
                      refine lv_iload hx hb d_Peer_rule_78 (lv_at hl 1 rfl) ?_
                      refine zk_ti (z := nI z) (by rw [hz0]; rfl) ?_
                      have hzz := hzl z hz0
                      have hcl : (zCapN 200 64 0 (tps.length - (z + 1))) ≤ 200 := (zCapN_ge (lim := 200) (n := 64) (sz := 0) (by decide) (by decide) (tps.length - (z + 1)) (by omega) (by decide) (by decide)).2.2
                      have hap_tp := zk_apart (wc := [(pa, .inr (2, [.null, .null, .int 0]))]) hP hD [4] rfl (k := 2) rfl (by decide)
                      have hap_r := zk_apart (wc := [(pa, .inr (2, [.null, .null, .int 0]))]) hP hD [4] rfl (k := 3) rfl (by decide)
                      have hFc := va_free (wc := [(pa, .inr (2, [.null, .null, .int 0]))]) hD hS hA [4] rfl
                      refine zk_mut (zk_runI (As := [.ref tp, .int (nI z)]) (rest := [.ref pa]) S m_Peer_78 (c_Pattern_init l D kA pa tp 1024 z tps (by omega) (by omega) H.size) rfl rfl ⟨Nat.le_of_ble_eq_true rfl, Nat.le_of_ble_eq_true rfl⟩ hK hX ⟨rfl, hP.sub (ws' := [(pa, .inr (2, [.null, .null, .int 0]))]) [4] rfl, (hD.sub (ws' := [(pa, .inr (2, [.null, .null, .int 0]))]) [4] (by decide) rfl).weaken (fun _ _ _ _ => trivial), r, n, f, hap_tp, hap_r, (hP 2 _ rfl), (hP 3 _ rfl), hbs⟩ rfl hl.1 rfl (Nat.le_of_ble_eq_true rfl) ⟨by
                        show _ ≤ (160)
                        omega, by
                        show _ ≤ (1600)
                        omega⟩ d_Peer_rule_80) hS hFc hFc (fun v H locs hpost hz1 hk1 hS => ?_)
                      obtain ⟨rfl, sa, za, sf, zf, hP1, hD1, hprep⟩ := hpost
                      obtain ⟨hP, hD⟩ := va_join (wr := [(x, .inr (5, [.ref tp, .ref ln, .ref bf, .ref tr, .ref ru, .ref co, .int (nI cnt), .int hp, .int st, .long tm])), (ru, .inl ((kA 4), 64, .inr (.inr (.inr (.inr rf))))), (tp, .inr (0, [.int (nI 1024), .ref r, .int (nI tps.length)])), (r, .inl ((kA 0), n, .inl f))]) (w1 := [(pa, .inr (2, [.ref sa, .ref za, .int (nI (rItems tps z 0).length)])), (sa, .inl ((kA 1), (z * 4), .inr (.inl sf))), (za, .inl ((kA 2), z, .inl zf))]) hP hD [4] [0, 1, 2, 3] rfl rfl (by decide) (by decide) hk1 hFc hP1 hD1
                      refine W.eq (g2 := F0 m 83 ls [.ref pa]) rfl ?_
                      have hP : va_P D classes [(x, .inr (5, [.ref tp, .ref ln, .ref bf, .ref tr, .ref ru, .ref co, .int (nI cnt), .int hp, .int st, .long tm])), (ru, .inl ((kA 4), 64, .inr (.inr (.inr (.inr rf))))), (tp, .inr (0, [.int (nI 1024), .ref r, .int (nI tps.length)])), (r, .inl ((kA 0), n, .inl f)), (pa, .inr (2, [.ref sa, .ref za, .int (nI (rItems tps z 0).length)])), (sa, .inl ((kA 1), (z * 4), .inr (.inl sf))), (za, .inl ((kA 2), z, .inl zf))] H := hP
                      have hD : va_D A [(x, .inr (5, [.ref tp, .ref ln, .ref bf, .ref tr, .ref ru, .ref co, .int (nI cnt), .int hp, .int st, .long tm])), (ru, .inl ((kA 4), 64, .inr (.inr (.inr (.inr rf))))), (tp, .inr (0, [.int (nI 1024), .ref r, .int (nI tps.length)])), (r, .inl ((kA 0), n, .inl f)), (pa, .inr (2, [.ref sa, .ref za, .int (nI (rItems tps z 0).length)])), (sa, .inl ((kA 1), (z * 4), .inr (.inl sf))), (za, .inl ((kA 2), z, .inl zf))] := hD
                      refine W.widen (k := 4) (n := 1006) (by omega) (by omega) ?_
                      refine lv_astore (lv' := [(7, .ref pa), (6, .int 1), (5, .int (zI (zAt tps))), (4, .int (-1)), (0, .ref x), (1, .int s1), (2, .int d1), (3, .int n1)]) hx hb d_Peer_rule_83 hl (by decide) rfl (fun ls hl => ?_)
                      refine lv_aload_n hx hb d_Peer_rule_85 rfl (lv_at hl 4 rfl) ?_
                      refine zk_get (C := R_Peer) (T := F_Peer) (N := 10) S hK (hP 0 _ rfl) rfl i_Peer 4 (by decide) m_Peer_30 rfl rfl d_Peer_rule_86 ?_
                      refine lv_aload_n hx hb d_Peer_rule_89 rfl (lv_at hl 4 rfl) ?_
                      refine zk_get (C := R_Peer) (T := F_Peer) (N := 10) S hK (hP 0 _ rfl) rfl i_Peer 6 (by decide) m_Peer_41 rfl rfl d_Peer_rule_90 ?_
                      refine va_new (ci := 4) (fs := [.int 0, .null, .null, .int 0, .int 0]) (C := R_Rule) (T := F_Rule) (N := 5) hx hb ht i_Rule t_Rule t_Rule_ok hown (ht _ m_Peer_28) (ht _ m_inst_Rule) (ht _ m_ini_Rule) hK hP hD hS hA rfl (fun j hj => by rcases (show j = 0 ∨ j = 1 ∨ j = 2 ∨ j = 3 ∨ j = 4 by omega) with rfl | rfl | rfl | rfl | rfl <;> rfl) (Nat.le_of_ble_eq_true rfl) (Nat.le_of_ble_eq_true rfl) d_Peer_rule_93 (fun q H hP hD hS => ?_)
                      have hP : va_P D classes [(x, .inr (5, [.ref tp, .ref ln, .ref bf, .ref tr, .ref ru, .ref co, .int (nI cnt), .int hp, .int st, .long tm])), (ru, .inl ((kA 4), 64, .inr (.inr (.inr (.inr rf))))), (tp, .inr (0, [.int (nI 1024), .ref r, .int (nI tps.length)])), (r, .inl ((kA 0), n, .inl f)), (pa, .inr (2, [.ref sa, .ref za, .int (nI (rItems tps z 0).length)])), (sa, .inl ((kA 1), (z * 4), .inr (.inl sf))), (za, .inl ((kA 2), z, .inl zf)), (q, .inr (4, [.int 0, .null, .null, .int 0, .int 0]))] H := hP
                      have hD : va_D A [(x, .inr (5, [.ref tp, .ref ln, .ref bf, .ref tr, .ref ru, .ref co, .int (nI cnt), .int hp, .int st, .long tm])), (ru, .inl ((kA 4), 64, .inr (.inr (.inr (.inr rf))))), (tp, .inr (0, [.int (nI 1024), .ref r, .int (nI tps.length)])), (r, .inl ((kA 0), n, .inl f)), (pa, .inr (2, [.ref sa, .ref za, .int (nI (rItems tps z 0).length)])), (sa, .inl ((kA 1), (z * 4), .inr (.inl sf))), (za, .inl ((kA 2), z, .inl zf)), (q, .inr (4, [.int 0, .null, .null, .int 0, .int 0]))] := hD
                      refine lv_dup hx hb d_Peer_rule_96 rfl ?_
                      refine lv_iload_n hx hb d_Peer_rule_97 rfl (lv_at hl 5 rfl) ?_
                      refine lv_aload hx hb d_Peer_rule_98 (lv_at hl 0 rfl) ?_
                      refine lv_aload_n hx hb d_Peer_rule_100 rfl (lv_at hl 4 rfl) ?_
                      refine zk_get (C := R_Peer) (T := F_Peer) (N := 10) S hK (hP 0 _ rfl) rfl i_Peer 0 (by decide) m_Peer_14 rfl rfl d_Peer_rule_101 ?_
                      refine lv_iload hx hb d_Peer_rule_104 (lv_at hl 2 rfl) ?_
                      refine zk_ti (z := nI z) (by rw [hz0]; rfl) ?_
                      refine lv_iconst (v := 1) hx hb d_Peer_rule_106 (by decide) ?_
                      refine lv_iadd hx hb d_Peer_rule_107 ?_
                      refine zk_ti (z := nI (z + 1)) (nI_1 z) ?_
                      refine lv_sipush (v := 200) hx hb d_Peer_rule_108 (by decide) ?_
                      refine zk_ti (z := nI 200) (rfl) ?_
                      have hap2_tp := zk_apart (wc := []) hP hD [] rfl (k := 2) rfl (by decide)
                      have hap2_r := zk_apart (wc := []) hP hD [] rfl (k := 3) rfl (by decide)
                      have hFc := va_free (wc := []) hD hS hA [] rfl
                      refine zk_mut (zk_runV (As := [.int (nI (z + 1)), .int (nI 200)]) (rest := [.ref pa, .int s1, .ref q, .ref q, .int (nI cnt), .ref ru]) S m_Peer_81 (c_Bytes_copyFrom l D kA tp 1024 (z + 1) tps (by omega) (by omega) H.size) rfl rfl ⟨Nat.le_of_ble_eq_true rfl, Nat.le_of_ble_eq_true rfl⟩ hK hX (zk_recv hK (hP 2 _ rfl) rfl) ⟨rfl, hP.sub (ws' := []) [] rfl, (hD.sub (ws' := []) [] (by decide) rfl).weaken (fun _ _ _ _ => trivial), r, n, f, hap2_tp, hap2_r, (hP 2 _ rfl), (hP 3 _ rfl), hbs⟩ rfl hl.1 rfl (Nat.le_of_ble_eq_true rfl) ⟨by
                        show _ ≤ (160)
                        omega, by
                        show _ ≤ (1600)
                        omega⟩ d_Peer_rule_111) hS hFc hFc (fun v H locs hpost hz1 hk1 hS => ?_)
                      obtain ⟨na, rfl, nr, nf, hP1, hD1, hbn⟩ := hpost
                      obtain ⟨hP, hD⟩ := va_join (wr := [(x, .inr (5, [.ref tp, .ref ln, .ref bf, .ref tr, .ref ru, .ref co, .int (nI cnt), .int hp, .int st, .long tm])), (ru, .inl ((kA 4), 64, .inr (.inr (.inr (.inr rf))))), (tp, .inr (0, [.int (nI 1024), .ref r, .int (nI tps.length)])), (r, .inl ((kA 0), n, .inl f)), (pa, .inr (2, [.ref sa, .ref za, .int (nI (rItems tps z 0).length)])), (sa, .inl ((kA 1), (z * 4), .inr (.inl sf))), (za, .inl ((kA 2), z, .inl zf)), (q, .inr (4, [.int 0, .null, .null, .int 0, .int 0]))]) (w1 := [(na, .inr (0, [.int (nI 200), .ref nr, .int (nI (tps.drop (z + 1)).length)])), (nr, .inl ((kA 0), (zCapN 200 64 0 (tps.length - (z + 1))), .inl nf))]) hP hD [] [0, 1, 2, 3, 4, 5, 6, 7] rfl rfl (by decide) (by decide) hk1 hFc hP1 hD1
                      refine W.eq (g2 := F0 m 114 ls [.ref na, .ref pa, .int s1, .ref q, .ref q, .int (nI cnt), .ref ru]) rfl ?_
                      have hP : va_P D classes [(x, .inr (5, [.ref tp, .ref ln, .ref bf, .ref tr, .ref ru, .ref co, .int (nI cnt), .int hp, .int st, .long tm])), (ru, .inl ((kA 4), 64, .inr (.inr (.inr (.inr rf))))), (tp, .inr (0, [.int (nI 1024), .ref r, .int (nI tps.length)])), (r, .inl ((kA 0), n, .inl f)), (pa, .inr (2, [.ref sa, .ref za, .int (nI (rItems tps z 0).length)])), (sa, .inl ((kA 1), (z * 4), .inr (.inl sf))), (za, .inl ((kA 2), z, .inl zf)), (q, .inr (4, [.int 0, .null, .null, .int 0, .int 0])), (na, .inr (0, [.int (nI 200), .ref nr, .int (nI (tps.drop (z + 1)).length)])), (nr, .inl ((kA 0), (zCapN 200 64 0 (tps.length - (z + 1))), .inl nf))] H := hP
                      have hD : va_D A [(x, .inr (5, [.ref tp, .ref ln, .ref bf, .ref tr, .ref ru, .ref co, .int (nI cnt), .int hp, .int st, .long tm])), (ru, .inl ((kA 4), 64, .inr (.inr (.inr (.inr rf))))), (tp, .inr (0, [.int (nI 1024), .ref r, .int (nI tps.length)])), (r, .inl ((kA 0), n, .inl f)), (pa, .inr (2, [.ref sa, .ref za, .int (nI (rItems tps z 0).length)])), (sa, .inl ((kA 1), (z * 4), .inr (.inl sf))), (za, .inl ((kA 2), z, .inl zf)), (q, .inr (4, [.int 0, .null, .null, .int 0, .int 0])), (na, .inr (0, [.int (nI 200), .ref nr, .int (nI (tps.drop (z + 1)).length)])), (nr, .inl ((kA 0), (zCapN 200 64 0 (tps.length - (z + 1))), .inl nf))] := hD
                      refine W.widen (k := 143) (n := 1600) (by omega) (by omega) ?_
                      refine lv_iload_n hx hb d_Peer_rule_114 rfl (lv_at hl 6 rfl) ?_
                      refine lv_iload_n hx hb d_Peer_rule_115 rfl (lv_at hl 7 rfl) ?_
                      have hFc := va_free (wc := [(q, .inr (4, [.int 0, .null, .null, .int 0, .int 0]))]) hD hS hA [7] rfl
                      refine zk_mut (zk_runI (As := [.int s1, .ref pa, .ref na, .int d1, .int n1]) (rest := [.ref q, .int (nI cnt), .ref ru]) S m_Peer_85 (c_Rule_init l D kA q pa na s1 d1 n1 H.size) rfl rfl ⟨Nat.le_of_ble_eq_true rfl, Nat.le_of_ble_eq_true rfl⟩ hK hX ⟨rfl, hP.sub (ws' := [(q, .inr (4, [.int 0, .null, .null, .int 0, .int 0]))]) [7] rfl, (hD.sub (ws' := [(q, .inr (4, [.int 0, .null, .null, .int 0, .int 0]))]) [7] (by decide) rfl).weaken (fun _ _ _ _ => trivial)⟩ rfl hl.1 rfl (Nat.le_of_ble_eq_true rfl) ⟨by
                        show _ ≤ (160)
                        omega, by
                        show _ ≤ (1600)
                        omega⟩ d_Peer_rule_116) hS hFc hFc (fun v H locs hpost hz1 hk1 hS => ?_)
                      obtain ⟨rfl, hP1, hD1⟩ := hpost
                      obtain ⟨hP, hD⟩ := va_join (wr := [(x, .inr (5, [.ref tp, .ref ln, .ref bf, .ref tr, .ref ru, .ref co, .int (nI cnt), .int hp, .int st, .long tm])), (ru, .inl ((kA 4), 64, .inr (.inr (.inr (.inr rf))))), (tp, .inr (0, [.int (nI 1024), .ref r, .int (nI tps.length)])), (r, .inl ((kA 0), n, .inl f)), (pa, .inr (2, [.ref sa, .ref za, .int (nI (rItems tps z 0).length)])), (sa, .inl ((kA 1), (z * 4), .inr (.inl sf))), (za, .inl ((kA 2), z, .inl zf)), (na, .inr (0, [.int (nI 200), .ref nr, .int (nI (tps.drop (z + 1)).length)])), (nr, .inl ((kA 0), (zCapN 200 64 0 (tps.length - (z + 1))), .inl nf))]) (w1 := [(q, .inr (4, [.int s1, .ref pa, .ref na, .int d1, .int n1]))]) hP hD [7] [0, 1, 2, 3, 4, 5, 6, 8, 9] rfl rfl (by decide) (by decide) hk1 hFc hP1 hD1
                      refine W.eq (g2 := F0 m 119 ls [.ref q, .int (nI cnt), .ref ru]) rfl ?_
                      have hP : va_P D classes [(x, .inr (5, [.ref tp, .ref ln, .ref bf, .ref tr, .ref ru, .ref co, .int (nI cnt), .int hp, .int st, .long tm])), (ru, .inl ((kA 4), 64, .inr (.inr (.inr (.inr rf))))), (tp, .inr (0, [.int (nI 1024), .ref r, .int (nI tps.length)])), (r, .inl ((kA 0), n, .inl f)), (pa, .inr (2, [.ref sa, .ref za, .int (nI (rItems tps z 0).length)])), (sa, .inl ((kA 1), (z * 4), .inr (.inl sf))), (za, .inl ((kA 2), z, .inl zf)), (na, .inr (0, [.int (nI 200), .ref nr, .int (nI (tps.drop (z + 1)).length)])), (nr, .inl ((kA 0), (zCapN 200 64 0 (tps.length - (z + 1))), .inl nf)), (q, .inr (4, [.int s1, .ref pa, .ref na, .int d1, .int n1]))] H := hP
                      have hD : va_D A [(x, .inr (5, [.ref tp, .ref ln, .ref bf, .ref tr, .ref ru, .ref co, .int (nI cnt), .int hp, .int st, .long tm])), (ru, .inl ((kA 4), 64, .inr (.inr (.inr (.inr rf))))), (tp, .inr (0, [.int (nI 1024), .ref r, .int (nI tps.length)])), (r, .inl ((kA 0), n, .inl f)), (pa, .inr (2, [.ref sa, .ref za, .int (nI (rItems tps z 0).length)])), (sa, .inl ((kA 1), (z * 4), .inr (.inl sf))), (za, .inl ((kA 2), z, .inl zf)), (na, .inr (0, [.int (nI 200), .ref nr, .int (nI (tps.drop (z + 1)).length)])), (nr, .inl ((kA 0), (zCapN 200 64 0 (tps.length - (z + 1))), .inl nf)), (q, .inr (4, [.int s1, .ref pa, .ref na, .int d1, .int n1]))] := hD
                      refine va_astqM hx hb hK hP hD hS 1 4 rfl rfl (zk_any (r := (R_Rule, F_Rule, 5)) (hP 9 _ rfl) rfl hK) (vp_in_nI hc64 (by decide)) d_Peer_rule_119 (fun H locs hP hD hS => ?_)
                      rw [nI_clamp (by omega)] at hP hD
                      have hP : va_P D classes [(x, .inr (5, [.ref tp, .ref ln, .ref bf, .ref tr, .ref ru, .ref co, .int (nI cnt), .int hp, .int st, .long tm])), (ru, .inl ((kA 4), 64, .inr (.inr (.inr (.inr (va_up rf cnt (some q))))))), (tp, .inr (0, [.int (nI 1024), .ref r, .int (nI tps.length)])), (r, .inl ((kA 0), n, .inl f)), (pa, .inr (2, [.ref sa, .ref za, .int (nI (rItems tps z 0).length)])), (sa, .inl ((kA 1), (z * 4), .inr (.inl sf))), (za, .inl ((kA 2), z, .inl zf)), (na, .inr (0, [.int (nI 200), .ref nr, .int (nI (tps.drop (z + 1)).length)])), (nr, .inl ((kA 0), (zCapN 200 64 0 (tps.length - (z + 1))), .inl nf)), (q, .inr (4, [.int s1, .ref pa, .ref na, .int d1, .int n1]))] H := hP
                      have hD : va_D A [(x, .inr (5, [.ref tp, .ref ln, .ref bf, .ref tr, .ref ru, .ref co, .int (nI cnt), .int hp, .int st, .long tm])), (ru, .inl ((kA 4), 64, .inr (.inr (.inr (.inr (va_up rf cnt (some q))))))), (tp, .inr (0, [.int (nI 1024), .ref r, .int (nI tps.length)])), (r, .inl ((kA 0), n, .inl f)), (pa, .inr (2, [.ref sa, .ref za, .int (nI (rItems tps z 0).length)])), (sa, .inl ((kA 1), (z * 4), .inr (.inl sf))), (za, .inl ((kA 2), z, .inl zf)), (na, .inr (0, [.int (nI 200), .ref nr, .int (nI (tps.drop (z + 1)).length)])), (nr, .inl ((kA 0), (zCapN 200 64 0 (tps.length - (z + 1))), .inl nf)), (q, .inr (4, [.int s1, .ref pa, .ref na, .int d1, .int n1]))] := hD
                      refine lv_aload_n hx hb d_Peer_rule_120 rfl (lv_at hl 4 rfl) ?_
                      refine zk_get (C := R_Peer) (T := F_Peer) (N := 10) S hK (hP 0 _ rfl) rfl i_Peer 6 (by decide) m_Peer_41 rfl rfl d_Peer_rule_121 ?_
                      refine lv_istore (lv' := [(4, .int (nI cnt)), (7, .ref pa), (6, .int 1), (5, .int (zI (zAt tps))), (0, .ref x), (1, .int s1), (2, .int d1), (3, .int n1)]) hx hb d_Peer_rule_124 hl (by decide) rfl (fun ls hl => ?_)
                      refine lv_aload_n hx hb d_Peer_rule_126 rfl (lv_at hl 4 rfl) ?_
                      refine lv_dup hx hb d_Peer_rule_127 rfl ?_
                      refine zk_get (C := R_Peer) (T := F_Peer) (N := 10) S hK (hP 0 _ rfl) rfl i_Peer 6 (by decide) m_Peer_41 rfl rfl d_Peer_rule_128 ?_
                      refine lv_iconst (v := 1) hx hb d_Peer_rule_131 (by decide) ?_
                      refine lv_iadd hx hb d_Peer_rule_132 ?_
                      refine zk_ti (z := nI (cnt + 1)) (nI_1 cnt) ?_
                      refine va_put (D := D) (ci := 5) (v := .int (nI (cnt + 1))) (ty := .int) (C := R_Peer) (T := F_Peer) (N := 10) hx hb ht i_Peer t_Peer t_Peer_ok n_Peer hown hK hP hD hS 0 rfl rfl 6 (by decide) (ht _ m_Peer_41) (fun _ h9 => h9) rfl (by decide +kernel) rfl rfl (Nat.le_of_ble_eq_true rfl) d_Peer_rule_133 (fun H locs hP hD hS => ?_)
                      have hP : va_P D classes [(x, .inr (5, [.ref tp, .ref ln, .ref bf, .ref tr, .ref ru, .ref co, .int (nI (cnt + 1)), .int hp, .int st, .long tm])), (ru, .inl ((kA 4), 64, .inr (.inr (.inr (.inr (va_up rf cnt (some q))))))), (tp, .inr (0, [.int (nI 1024), .ref r, .int (nI tps.length)])), (r, .inl ((kA 0), n, .inl f)), (pa, .inr (2, [.ref sa, .ref za, .int (nI (rItems tps z 0).length)])), (sa, .inl ((kA 1), (z * 4), .inr (.inl sf))), (za, .inl ((kA 2), z, .inl zf)), (na, .inr (0, [.int (nI 200), .ref nr, .int (nI (tps.drop (z + 1)).length)])), (nr, .inl ((kA 0), (zCapN 200 64 0 (tps.length - (z + 1))), .inl nf)), (q, .inr (4, [.int s1, .ref pa, .ref na, .int d1, .int n1]))] H := hP
                      have hD : va_D A [(x, .inr (5, [.ref tp, .ref ln, .ref bf, .ref tr, .ref ru, .ref co, .int (nI (cnt + 1)), .int hp, .int st, .long tm])), (ru, .inl ((kA 4), 64, .inr (.inr (.inr (.inr (va_up rf cnt (some q))))))), (tp, .inr (0, [.int (nI 1024), .ref r, .int (nI tps.length)])), (r, .inl ((kA 0), n, .inl f)), (pa, .inr (2, [.ref sa, .ref za, .int (nI (rItems tps z 0).length)])), (sa, .inl ((kA 1), (z * 4), .inr (.inl sf))), (za, .inl ((kA 2), z, .inl zf)), (na, .inr (0, [.int (nI 200), .ref nr, .int (nI (tps.drop (z + 1)).length)])), (nr, .inl ((kA 0), (zCapN 200 64 0 (tps.length - (z + 1))), .inl nf)), (q, .inr (4, [.int s1, .ref pa, .ref na, .int d1, .int n1]))] := hD
                      refine lv_aload_n hx hb d_Peer_rule_136 rfl (lv_at hl 4 rfl) ?_
                      refine zk_get (C := R_Peer) (T := F_Peer) (N := 10) S hK (hP 0 _ rfl) rfl i_Peer 0 (by decide) m_Peer_14 rfl rfl d_Peer_rule_137 ?_
                      have hFc := va_free (wc := [(tp, .inr (0, [.int (nI 1024), .ref r, .int (nI tps.length)])), (r, .inl ((kA 0), n, .inl f))]) hD hS hA [2, 3] rfl
                      refine zk_mut (zk_runV (As := []) (rest := []) S m_Peer_88 (c_Bytes_clear l D kA tp r 1024 n f tps H.size) rfl rfl ⟨Nat.le_of_ble_eq_true rfl, Nat.le_of_ble_eq_true rfl⟩ hK hX (zk_recv hK (hP 2 _ rfl) rfl) ⟨rfl, hP.sub (ws' := [(tp, .inr (0, [.int (nI 1024), .ref r, .int (nI tps.length)])), (r, .inl ((kA 0), n, .inl f))]) [2, 3] rfl, (hD.sub (ws' := [(tp, .inr (0, [.int (nI 1024), .ref r, .int (nI tps.length)])), (r, .inl ((kA 0), n, .inl f))]) [2, 3] (by decide) rfl).weaken (fun _ _ _ _ => trivial), hbs⟩ rfl hl.1 rfl (Nat.le_of_ble_eq_true rfl) ⟨by
                        show _ ≤ (160)
                        omega, by
                        show _ ≤ (1600)
                        omega⟩ d_Peer_rule_140) hS hFc hFc (fun v H locs hpost hz1 hk1 hS => ?_)
                      obtain ⟨rfl, r', f', hP1, hD1, hbs'⟩ := hpost
                      obtain ⟨hP, hD⟩ := va_join (wr := [(x, .inr (5, [.ref tp, .ref ln, .ref bf, .ref tr, .ref ru, .ref co, .int (nI (cnt + 1)), .int hp, .int st, .long tm])), (ru, .inl ((kA 4), 64, .inr (.inr (.inr (.inr (va_up rf cnt (some q))))))), (pa, .inr (2, [.ref sa, .ref za, .int (nI (rItems tps z 0).length)])), (sa, .inl ((kA 1), (z * 4), .inr (.inl sf))), (za, .inl ((kA 2), z, .inl zf)), (na, .inr (0, [.int (nI 200), .ref nr, .int (nI (tps.drop (z + 1)).length)])), (nr, .inl ((kA 0), (zCapN 200 64 0 (tps.length - (z + 1))), .inl nf)), (q, .inr (4, [.int s1, .ref pa, .ref na, .int d1, .int n1]))]) (w1 := [(tp, .inr (0, [.int (nI 1024), .ref r', .int (nI ([] : List Nat).length)])), (r', .inl ((kA 0), n, .inl f'))]) hP hD [2, 3] [0, 1, 4, 5, 6, 7, 8, 9] rfl rfl (by decide) (by decide) hk1 hFc hP1 hD1
                      refine W.eq (g2 := F0 m 143 ls []) rfl ?_
                      have hP : va_P D classes [(x, .inr (5, [.ref tp, .ref ln, .ref bf, .ref tr, .ref ru, .ref co, .int (nI (cnt + 1)), .int hp, .int st, .long tm])), (ru, .inl ((kA 4), 64, .inr (.inr (.inr (.inr (va_up rf cnt (some q))))))), (pa, .inr (2, [.ref sa, .ref za, .int (nI (rItems tps z 0).length)])), (sa, .inl ((kA 1), (z * 4), .inr (.inl sf))), (za, .inl ((kA 2), z, .inl zf)), (na, .inr (0, [.int (nI 200), .ref nr, .int (nI (tps.drop (z + 1)).length)])), (nr, .inl ((kA 0), (zCapN 200 64 0 (tps.length - (z + 1))), .inl nf)), (q, .inr (4, [.int s1, .ref pa, .ref na, .int d1, .int n1])), (tp, .inr (0, [.int (nI 1024), .ref r', .int (nI ([] : List Nat).length)])), (r', .inl ((kA 0), n, .inl f'))] H := hP
                      have hD : va_D A [(x, .inr (5, [.ref tp, .ref ln, .ref bf, .ref tr, .ref ru, .ref co, .int (nI (cnt + 1)), .int hp, .int st, .long tm])), (ru, .inl ((kA 4), 64, .inr (.inr (.inr (.inr (va_up rf cnt (some q))))))), (pa, .inr (2, [.ref sa, .ref za, .int (nI (rItems tps z 0).length)])), (sa, .inl ((kA 1), (z * 4), .inr (.inl sf))), (za, .inl ((kA 2), z, .inl zf)), (na, .inr (0, [.int (nI 200), .ref nr, .int (nI (tps.drop (z + 1)).length)])), (nr, .inl ((kA 0), (zCapN 200 64 0 (tps.length - (z + 1))), .inl nf)), (q, .inr (4, [.int s1, .ref pa, .ref na, .int d1, .int n1])), (tp, .inr (0, [.int (nI 1024), .ref r', .int (nI ([] : List Nat).length)])), (r', .inl ((kA 0), n, .inl f'))] := hD
                      refine lv_iload hx hb d_Peer_rule_143 (lv_at hl 0 rfl) ?_
                      exact zk_iret S hr hlk hS (Or.inr ⟨⟨⟨ka, hka, eka⟩, ⟨kd, hkd, ekd⟩, ⟨kb, hkb, ekb⟩, ⟨z, hz0, hzr1, hzr2⟩, hc64⟩, rfl, z, q, pa, na, sa, za, nr, _, r', sf, zf, nf, f', hz0, hP.sub [0, 1, 8, 9, 7, 2, 3, 4, 5, 6] rfl, hD.sub [0, 1, 8, 9, 7, 2, 3, 4, 5, 6] (by decide) rfl, hbs', hprep, hbn⟩) (by omega) (by omega) d_Peer_rule_145
                · refine lv_if_eq (tgt := 136) hx hb d_Peer_rule_55 (by decide) (fun c55 => ?_) (fun c55 => ?_)
                  · refine lv_aload_n hx hb d_Peer_rule_136 rfl (lv_at hl 3 rfl) ?_
                    refine zk_get (C := R_Peer) (T := F_Peer) (N := 10) S hK (hP 0 _ rfl) rfl i_Peer 0 (by decide) m_Peer_14 rfl rfl d_Peer_rule_137 ?_
                    have hFc := va_free (wc := [(tp, .inr (0, [.int (nI 1024), .ref r, .int (nI tps.length)])), (r, .inl ((kA 0), n, .inl f))]) hD hS hA [2, 3] rfl
                    refine zk_mut (zk_runV (As := []) (rest := []) S m_Peer_88 (c_Bytes_clear l D kA tp r 1024 n f tps s.heap.size) rfl rfl ⟨Nat.le_of_ble_eq_true rfl, Nat.le_of_ble_eq_true rfl⟩ hK hX (zk_recv hK (hP 2 _ rfl) rfl) ⟨rfl, hP.sub (ws' := [(tp, .inr (0, [.int (nI 1024), .ref r, .int (nI tps.length)])), (r, .inl ((kA 0), n, .inl f))]) [2, 3] rfl, (hD.sub (ws' := [(tp, .inr (0, [.int (nI 1024), .ref r, .int (nI tps.length)])), (r, .inl ((kA 0), n, .inl f))]) [2, 3] (by decide) rfl).weaken (fun _ _ _ _ => trivial), hbs⟩ rfl hl.1 rfl (Nat.le_of_ble_eq_true rfl) ⟨by
                      show _ ≤ (160)
                      omega, by
                      show _ ≤ (1600)
                      omega⟩ d_Peer_rule_140) hS hFc hFc (fun v H locs hpost hz1 hk1 hS => ?_)
                    obtain ⟨rfl, r', f', hP1, hD1, hbs'⟩ := hpost
                    obtain ⟨hP, hD⟩ := va_join (wr := [(x, .inr (5, [.ref tp, .ref ln, .ref bf, .ref tr, .ref ru, .ref co, .int (nI cnt), .int hp, .int st, .long tm])), (ru, .inl ((kA 4), 64, .inr (.inr (.inr (.inr rf)))))]) (w1 := [(tp, .inr (0, [.int (nI 1024), .ref r', .int (nI ([] : List Nat).length)])), (r', .inl ((kA 0), n, .inl f'))]) hP hD [2, 3] [0, 1] rfl rfl (by decide) (by decide) hk1 hFc hP1 hD1
                    refine W.eq (g2 := F0 m 143 ls []) rfl ?_
                    have hP : va_P D classes [(x, .inr (5, [.ref tp, .ref ln, .ref bf, .ref tr, .ref ru, .ref co, .int (nI cnt), .int hp, .int st, .long tm])), (ru, .inl ((kA 4), 64, .inr (.inr (.inr (.inr rf))))), (tp, .inr (0, [.int (nI 1024), .ref r', .int (nI ([] : List Nat).length)])), (r', .inl ((kA 0), n, .inl f'))] H := hP
                    have hD : va_D A [(x, .inr (5, [.ref tp, .ref ln, .ref bf, .ref tr, .ref ru, .ref co, .int (nI cnt), .int hp, .int st, .long tm])), (ru, .inl ((kA 4), 64, .inr (.inr (.inr (.inr rf))))), (tp, .inr (0, [.int (nI 1024), .ref r', .int (nI ([] : List Nat).length)])), (r', .inl ((kA 0), n, .inl f'))] := hD
                    refine lv_iload hx hb d_Peer_rule_143 (lv_at hl 2 rfl) ?_
                    exact zk_iret S hr hlk hS (Or.inl ⟨fun zg => (by obtain ⟨-, -, -, ⟨z9, e9, h9, g9⟩, -⟩ := zg; exact hz0 z9 e9 ⟨h9, g9⟩), rfl, r', f', hP.sub [0, 1, 2, 3] rfl, hD.sub [0, 1, 2, 3] (by decide) rfl, hbs'⟩) (by omega) (by omega) d_Peer_rule_145
                  · exact absurd rfl c55
      · refine lv_if_eq (tgt := 41) hx hb d_Peer_rule_23 (by decide) (fun c23 => ?_) (fun c23 => ?_)
        · refine lv_iconst (v := 0) hx hb d_Peer_rule_41 (by decide) ?_
          refine lv_istore (lv' := [(6, .int 0), (5, .int (zI (zAt tps))), (4, .int (-1)), (0, .ref x), (1, .int s1), (2, .int d1), (3, .int n1)]) hx hb d_Peer_rule_42 hl (by decide) rfl (fun ls hl => ?_)
          refine lv_iload hx hb d_Peer_rule_44 (lv_at hl 0 rfl) ?_
          refine lv_if_eq (tgt := 136) hx hb d_Peer_rule_46 (by decide) (fun c46 => ?_) (fun c46 => ?_)
          · refine lv_aload_n hx hb d_Peer_rule_136 rfl (lv_at hl 3 rfl) ?_
            refine zk_get (C := R_Peer) (T := F_Peer) (N := 10) S hK (hP 0 _ rfl) rfl i_Peer 0 (by decide) m_Peer_14 rfl rfl d_Peer_rule_137 ?_
            have hFc := va_free (wc := [(tp, .inr (0, [.int (nI 1024), .ref r, .int (nI tps.length)])), (r, .inl ((kA 0), n, .inl f))]) hD hS hA [2, 3] rfl
            refine zk_mut (zk_runV (As := []) (rest := []) S m_Peer_88 (c_Bytes_clear l D kA tp r 1024 n f tps s.heap.size) rfl rfl ⟨Nat.le_of_ble_eq_true rfl, Nat.le_of_ble_eq_true rfl⟩ hK hX (zk_recv hK (hP 2 _ rfl) rfl) ⟨rfl, hP.sub (ws' := [(tp, .inr (0, [.int (nI 1024), .ref r, .int (nI tps.length)])), (r, .inl ((kA 0), n, .inl f))]) [2, 3] rfl, (hD.sub (ws' := [(tp, .inr (0, [.int (nI 1024), .ref r, .int (nI tps.length)])), (r, .inl ((kA 0), n, .inl f))]) [2, 3] (by decide) rfl).weaken (fun _ _ _ _ => trivial), hbs⟩ rfl hl.1 rfl (Nat.le_of_ble_eq_true rfl) ⟨by
              show _ ≤ (160)
              omega, by
              show _ ≤ (1600)
              omega⟩ d_Peer_rule_140) hS hFc hFc (fun v H locs hpost hz1 hk1 hS => ?_)
            obtain ⟨rfl, r', f', hP1, hD1, hbs'⟩ := hpost
            obtain ⟨hP, hD⟩ := va_join (wr := [(x, .inr (5, [.ref tp, .ref ln, .ref bf, .ref tr, .ref ru, .ref co, .int (nI cnt), .int hp, .int st, .long tm])), (ru, .inl ((kA 4), 64, .inr (.inr (.inr (.inr rf)))))]) (w1 := [(tp, .inr (0, [.int (nI 1024), .ref r', .int (nI ([] : List Nat).length)])), (r', .inl ((kA 0), n, .inl f'))]) hP hD [2, 3] [0, 1] rfl rfl (by decide) (by decide) hk1 hFc hP1 hD1
            refine W.eq (g2 := F0 m 143 ls []) rfl ?_
            have hP : va_P D classes [(x, .inr (5, [.ref tp, .ref ln, .ref bf, .ref tr, .ref ru, .ref co, .int (nI cnt), .int hp, .int st, .long tm])), (ru, .inl ((kA 4), 64, .inr (.inr (.inr (.inr rf))))), (tp, .inr (0, [.int (nI 1024), .ref r', .int (nI ([] : List Nat).length)])), (r', .inl ((kA 0), n, .inl f'))] H := hP
            have hD : va_D A [(x, .inr (5, [.ref tp, .ref ln, .ref bf, .ref tr, .ref ru, .ref co, .int (nI cnt), .int hp, .int st, .long tm])), (ru, .inl ((kA 4), 64, .inr (.inr (.inr (.inr rf))))), (tp, .inr (0, [.int (nI 1024), .ref r', .int (nI ([] : List Nat).length)])), (r', .inl ((kA 0), n, .inl f'))] := hD
            refine lv_iload hx hb d_Peer_rule_143 (lv_at hl 2 rfl) ?_
            exact zk_iret S hr hlk hS (Or.inl ⟨fun zg => (by obtain ⟨-, -, ⟨k9, h9, e9⟩, -⟩ := zg; exact hkb k9 h9 e9), rfl, r', f', hP.sub [0, 1, 2, 3] rfl, hD.sub [0, 1, 2, 3] (by decide) rfl, hbs'⟩) (by omega) (by omega) d_Peer_rule_145
          · exact absurd rfl c46
        · exact absurd rfl c23
  · refine lv_if_eq (tgt := 41) hx hb d_Peer_rule_16 (by decide) (fun c16 => ?_) (fun c16 => ?_)
    · refine lv_iconst (v := 0) hx hb d_Peer_rule_41 (by decide) ?_
      refine lv_istore (lv' := [(6, .int 0), (5, .int (zI (zAt tps))), (4, .int (-1)), (0, .ref x), (1, .int s1), (2, .int d1), (3, .int n1)]) hx hb d_Peer_rule_42 hl (by decide) rfl (fun ls hl => ?_)
      refine lv_iload hx hb d_Peer_rule_44 (lv_at hl 0 rfl) ?_
      refine lv_if_eq (tgt := 136) hx hb d_Peer_rule_46 (by decide) (fun c46 => ?_) (fun c46 => ?_)
      · refine lv_aload_n hx hb d_Peer_rule_136 rfl (lv_at hl 3 rfl) ?_
        refine zk_get (C := R_Peer) (T := F_Peer) (N := 10) S hK (hP 0 _ rfl) rfl i_Peer 0 (by decide) m_Peer_14 rfl rfl d_Peer_rule_137 ?_
        have hFc := va_free (wc := [(tp, .inr (0, [.int (nI 1024), .ref r, .int (nI tps.length)])), (r, .inl ((kA 0), n, .inl f))]) hD hS hA [2, 3] rfl
        refine zk_mut (zk_runV (As := []) (rest := []) S m_Peer_88 (c_Bytes_clear l D kA tp r 1024 n f tps s.heap.size) rfl rfl ⟨Nat.le_of_ble_eq_true rfl, Nat.le_of_ble_eq_true rfl⟩ hK hX (zk_recv hK (hP 2 _ rfl) rfl) ⟨rfl, hP.sub (ws' := [(tp, .inr (0, [.int (nI 1024), .ref r, .int (nI tps.length)])), (r, .inl ((kA 0), n, .inl f))]) [2, 3] rfl, (hD.sub (ws' := [(tp, .inr (0, [.int (nI 1024), .ref r, .int (nI tps.length)])), (r, .inl ((kA 0), n, .inl f))]) [2, 3] (by decide) rfl).weaken (fun _ _ _ _ => trivial), hbs⟩ rfl hl.1 rfl (Nat.le_of_ble_eq_true rfl) ⟨by
          show _ ≤ (160)
          omega, by
          show _ ≤ (1600)
          omega⟩ d_Peer_rule_140) hS hFc hFc (fun v H locs hpost hz1 hk1 hS => ?_)
        obtain ⟨rfl, r', f', hP1, hD1, hbs'⟩ := hpost
        obtain ⟨hP, hD⟩ := va_join (wr := [(x, .inr (5, [.ref tp, .ref ln, .ref bf, .ref tr, .ref ru, .ref co, .int (nI cnt), .int hp, .int st, .long tm])), (ru, .inl ((kA 4), 64, .inr (.inr (.inr (.inr rf)))))]) (w1 := [(tp, .inr (0, [.int (nI 1024), .ref r', .int (nI ([] : List Nat).length)])), (r', .inl ((kA 0), n, .inl f'))]) hP hD [2, 3] [0, 1] rfl rfl (by decide) (by decide) hk1 hFc hP1 hD1
        refine W.eq (g2 := F0 m 143 ls []) rfl ?_
        have hP : va_P D classes [(x, .inr (5, [.ref tp, .ref ln, .ref bf, .ref tr, .ref ru, .ref co, .int (nI cnt), .int hp, .int st, .long tm])), (ru, .inl ((kA 4), 64, .inr (.inr (.inr (.inr rf))))), (tp, .inr (0, [.int (nI 1024), .ref r', .int (nI ([] : List Nat).length)])), (r', .inl ((kA 0), n, .inl f'))] H := hP
        have hD : va_D A [(x, .inr (5, [.ref tp, .ref ln, .ref bf, .ref tr, .ref ru, .ref co, .int (nI cnt), .int hp, .int st, .long tm])), (ru, .inl ((kA 4), 64, .inr (.inr (.inr (.inr rf))))), (tp, .inr (0, [.int (nI 1024), .ref r', .int (nI ([] : List Nat).length)])), (r', .inl ((kA 0), n, .inl f'))] := hD
        refine lv_iload hx hb d_Peer_rule_143 (lv_at hl 2 rfl) ?_
        exact zk_iret S hr hlk hS (Or.inl ⟨fun zg => (by obtain ⟨⟨k9, h9, e9⟩, -⟩ := zg; exact hka k9 h9 e9), rfl, r', f', hP.sub [0, 1, 2, 3] rfl, hD.sub [0, 1, 2, 3] (by decide) rfl, hbs'⟩) (by omega) (by omega) d_Peer_rule_145
      · exact absurd rfl c46
    · exact absurd rfl c16
