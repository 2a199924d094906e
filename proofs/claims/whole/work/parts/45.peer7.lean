theorem zk_any {D : va_G} {H : Heap} {a ci : Nat} {fs : List Value} {r : vw_C} {tys : List (ClassId × FieldType)} {s : State} (h : va_at D classes (a, .inr (ci, fs)) H) (hc : classes[ci]? = some r) (hK : va_K D classes tys s) : va_Any r.1 s H a := by
  refine va_rAny (r := r) hK (zk_P1 h) (q0 := 0) rfl hc (fun comp c0 e1 e2 => ?_)
  have e3 : comp = c0 := Option.some.inj (e1.symm.trans e2)
  rw [e3]
  exact va_asg _ _
def zTot (w st k b t r l : Int32) : Int32 := if w = 0 then st else if w = 1 then k else if w = 2 then b else if w = 3 then t else if w = 4 then r else if w = 5 then l else -1
set_option maxHeartbeats 4000000 in
set_option maxRecDepth 100000 in
/-- PeerLine.fit() -/
theorem c_Peer_fit (l : Launch) (D : va_G) (kA : Nat → ClassId) (x tp ln bf tr ru co : Nat) (rc hp st : Int32) (tm : Int64) (r n : Nat) (f : Nat → Int32) (tps : List Nat) (bl : Nat) (bfs : List Nat) (sz0 : Nat) : Met l y_Peer_fit (Cond.code y_Peer_fit b_Peer_fit 2 (some .int) :: zTB) { frames := 6, cells := 4, slots := tps.length * 4 + tps.length + 6, locals := 133 } (zk_Pc D classes (zTY kA) [.ref x] (fun H => H.size = sz0 ∧ va_P D classes [(tp, .inr (0, [.int (nI 1024), .ref r, .int (nI tps.length)])), (r, .inl ((kA 0), n, .inl f))] H ∧ va_D (fun _ => True) [(tp, .inr (0, [.int (nI 1024), .ref r, .int (nI tps.length)])), (r, .inl ((kA 0), n, .inl f))] ∧ va_at D classes (x, .inr (5, [.ref tp, .ref ln, .ref bf, .ref tr, .ref ru, .ref co, .int rc, .int hp, .int st, .long tm])) H ∧ ¬ (va_A [(tp, .inr (0, [.int (nI 1024), .ref r, .int (nI tps.length)])), (r, .inl ((kA 0), n, .inl f))] sz0) x ∧ zBs 1024 n f tps ∧ BsAt D kA (fun q => ¬ (va_A [(tp, .inr (0, [.int (nI 1024), .ref r, .int (nI tps.length)])), (r, .inl ((kA 0), n, .inl f))] sz0) q) H bf bl bfs)) (zk_mQ (fun v H => ∃ rr, v = some (.int (zI rr)) ∧ pLeast (zT bfs) (zIt (zIts tps)) (zIts tps).length 0 0 bfs.length rr ∧ BsPost D kA (va_A [(tp, .inr (0, [.int (nI 1024), .ref r, .int (nI tps.length)])), (r, .inl ((kA 0), n, .inl f))] sz0) H tp 1024 n []) (va_A [(tp, .inr (0, [.int (nI 1024), .ref r, .int (nI tps.length)])), (r, .inl ((kA 0), n, .inl f))] sz0)) 4 (tps.length * 4 + tps.length + 6) (va_A [(tp, .inr (0, [.int (nI 1024), .ref r, .int (nI tps.length)])), (r, .inl ((kA 0), n, .inl f))] sz0) := by
  refine zk_of [.ref x] (by decide) (Nat.le_of_ble_eq_true rfl) ?_
  intro p e s m below meth c S hr hlk hnm hK hX hpre ls hl
  obtain ⟨hx, hb, hml, hown, ht⟩ := id S
  have hl : lv_has ls 2 [(0, .ref x)] := hl
  obtain ⟨hsz, hP, hD0, hx0, hxA, hbs, hbf⟩ := hpre
  subst hsz
  have hD := hD0.self (sz := s.heap.size)
  generalize hAe : va_A [(tp, .inr (0, [.int (nI 1024), .ref r, .int (nI tps.length)])), (r, .inl ((kA 0), n, .inl f))] s.heap.size = A at hD hxA hbf ⊢
  have hA : ∀ q : Nat, s.heap.size ≤ q → A q := fun q h => by rw [← hAe]; exact Or.inr h
  have hS : va_S A s.heap s.heap [] := va_S.rf
  have hP : va_P D classes [(tp, .inr (0, [.int (nI 1024), .ref r, .int (nI tps.length)])), (r, .inl ((kA 0), n, .inl f))] s.heap := hP
  obtain ⟨h1, h2, h3, h4, h5⟩ := id hbs
  refine va_new (ci := 2) (fs := [.null, .null, .int 0]) (C := R_Pattern) (T := F_Pattern) (N := 3) hx hb ht i_Pattern t_Pattern t_Pattern_ok hown (ht _ m_Peer_76) (ht _ m_inst_Pattern) (ht _ m_ini_Pattern) hK hP hD hS hA rfl (fun j hj => by rcases (show j = 0 ∨ j = 1 ∨ j = 2 by omega) with rfl | rfl | rfl <;> rfl) (Nat.le_of_ble_eq_true rfl) (by show 0 + 3 ≤ tps.length * 4 + tps.length + 6; omega) d_Peer_fit_0 (fun q H hP hD hS => ?_)
  have hP : va_P D classes [(tp, .inr (0, [.int (nI 1024), .ref r, .int (nI tps.length)])), (r, .inl ((kA 0), n, .inl f)), (q, .inr (2, [.null, .null, .int 0]))] H := hP
  have hD : va_D A [(tp, .inr (0, [.int (nI 1024), .ref r, .int (nI tps.length)])), (r, .inl ((kA 0), n, .inl f)), (q, .inr (2, [.null, .null, .int 0]))] := hD
  refine lv_dup hx hb d_Peer_fit_3 rfl ?_
  refine lv_aload_n hx hb d_Peer_fit_4 rfl (lv_at hl 0 rfl) ?_
  refine zk_get (C := R_Peer) (T := F_Peer) (N := 10) S hK (zk_ro hS hx0 hxA) rfl i_Peer 0 (by decide) m_Peer_14 rfl rfl d_Peer_fit_5 ?_
  refine lv_aload_n hx hb d_Peer_fit_8 rfl (lv_at hl 0 rfl) ?_
  refine zk_get (C := R_Peer) (T := F_Peer) (N := 10) S hK (zk_ro hS hx0 hxA) rfl i_Peer 0 (by decide) m_Peer_14 rfl rfl d_Peer_fit_9 ?_
  refine zk_pure (zk_runV (As := []) (rest := [.ref tp, .ref q, .ref q]) S m_Peer_121 (c_Bytes_size l D kA (fun _ => True) tp 1024 tps) rfl rfl ⟨Nat.le_of_ble_eq_true rfl, Nat.le_of_ble_eq_true rfl⟩ hK hX (zk_recv hK (hP 0 _ rfl) rfl) (⟨r, n, f, trivial, trivial, (hP 0 _ rfl), (hP 1 _ rfl), hbs⟩) rfl hl.1 rfl (Nat.le_of_ble_eq_true rfl) ⟨by show _ ≤ 4; omega, by show _ ≤ tps.length * 4 + tps.length + 6; omega⟩ d_Peer_fit_12) ?_
  have hap_tp := zk_apart (wc := [(q, .inr (2, [.null, .null, .int 0]))]) hP hD [2] rfl (k := 0) rfl (by decide)
  have hap_r := zk_apart (wc := [(q, .inr (2, [.null, .null, .int 0]))]) hP hD [2] rfl (k := 1) rfl (by decide)
  have hFc := va_free (wc := [(q, .inr (2, [.null, .null, .int 0]))]) hD hS hA [2] rfl
  refine zk_mut (zk_runI (As := [.ref tp, .int (nI tps.length)]) (rest := [.ref q]) S m_Peer_78 (c_Pattern_init l D kA q tp 1024 tps.length tps (Nat.le_refl _) (by omega) H.size) rfl rfl ⟨Nat.le_of_ble_eq_true rfl, Nat.le_of_ble_eq_true rfl⟩ hK hX ⟨rfl, hP.sub (ws' := [(q, .inr (2, [.null, .null, .int 0]))]) [2] rfl, (hD.sub (ws' := [(q, .inr (2, [.null, .null, .int 0]))]) [2] (by decide) rfl).weaken (fun _ _ _ _ => trivial), r, n, f, hap_tp, hap_r, (hP 0 _ rfl), (hP 1 _ rfl), hbs⟩ rfl hl.1 rfl (Nat.le_of_ble_eq_true rfl) ⟨by
    show _ ≤ (4)
    omega, by
    show _ ≤ (tps.length * 4 + tps.length + 6)
    omega⟩ d_Peer_fit_15) hS hFc hFc (fun v H locs hpost hz1 hk1 hS => ?_)
  obtain ⟨rfl, sa, za, sf, zf, hP1, hD1, hprep⟩ := hpost
  obtain ⟨hP, hD⟩ := va_join (wr := [(tp, .inr (0, [.int (nI 1024), .ref r, .int (nI tps.length)])), (r, .inl ((kA 0), n, .inl f))]) (w1 := [(q, .inr (2, [.ref sa, .ref za, .int (nI (rItems tps tps.length 0).length)])), (sa, .inl ((kA 1), (tps.length * 4), .inr (.inl sf))), (za, .inl ((kA 2), tps.length, .inl zf))]) hP hD [2] [0, 1] rfl rfl (by decide) (by decide) hk1 hFc hP1 hD1
  refine W.eq (g2 := F0 m 18 ls [.ref q]) rfl ?_
  have hP : va_P D classes [(tp, .inr (0, [.int (nI 1024), .ref r, .int (nI tps.length)])), (r, .inl ((kA 0), n, .inl f)), (q, .inr (2, [.ref sa, .ref za, .int (nI (rItems tps tps.length 0).length)])), (sa, .inl ((kA 1), (tps.length * 4), .inr (.inl sf))), (za, .inl ((kA 2), tps.length, .inl zf))] H := hP
  have hD : va_D A [(tp, .inr (0, [.int (nI 1024), .ref r, .int (nI tps.length)])), (r, .inl ((kA 0), n, .inl f)), (q, .inr (2, [.ref sa, .ref za, .int (nI (rItems tps tps.length 0).length)])), (sa, .inl ((kA 1), (tps.length * 4), .inr (.inl sf))), (za, .inl ((kA 2), tps.length, .inl zf))] := hD
  refine lv_astore_n (lv' := [(1, .ref q), (0, .ref x)]) hx hb d_Peer_fit_18 rfl hl (by decide) rfl (fun ls hl => ?_)
  refine lv_aload_n hx hb d_Peer_fit_19 rfl (lv_at hl 1 rfl) ?_
  refine zk_get (C := R_Peer) (T := F_Peer) (N := 10) S hK (zk_ro hS hx0 hxA) rfl i_Peer 0 (by decide) m_Peer_14 rfl rfl d_Peer_fit_20 ?_
  have hFc := va_free (wc := [(tp, .inr (0, [.int (nI 1024), .ref r, .int (nI tps.length)])), (r, .inl ((kA 0), n, .inl f))]) hD hS hA [0, 1] rfl
  refine zk_mut (zk_runV (As := []) (rest := []) S m_Peer_88 (c_Bytes_clear l D kA tp r 1024 n f tps H.size) rfl rfl ⟨Nat.le_of_ble_eq_true rfl, Nat.le_of_ble_eq_true rfl⟩ hK hX (zk_recv hK (hP 0 _ rfl) rfl) ⟨rfl, hP.sub (ws' := [(tp, .inr (0, [.int (nI 1024), .ref r, .int (nI tps.length)])), (r, .inl ((kA 0), n, .inl f))]) [0, 1] rfl, (hD.sub (ws' := [(tp, .inr (0, [.int (nI 1024), .ref r, .int (nI tps.length)])), (r, .inl ((kA 0), n, .inl f))]) [0, 1] (by decide) rfl).weaken (fun _ _ _ _ => trivial), hbs⟩ rfl hl.1 rfl (Nat.le_of_ble_eq_true rfl) ⟨by
    show _ ≤ (4)
    omega, by
    show _ ≤ (tps.length * 4 + tps.length + 6)
    omega⟩ d_Peer_fit_23) hS hFc hFc (fun v H locs hpost hz1 hk1 hS => ?_)
  obtain ⟨rfl, r', f', hP1, hD1, hbs'⟩ := hpost
  obtain ⟨hP, hD⟩ := va_join (wr := [(q, .inr (2, [.ref sa, .ref za, .int (nI (rItems tps tps.length 0).length)])), (sa, .inl ((kA 1), (tps.length * 4), .inr (.inl sf))), (za, .inl ((kA 2), tps.length, .inl zf))]) (w1 := [(tp, .inr (0, [.int (nI 1024), .ref r', .int (nI ([] : List Nat).length)])), (r', .inl ((kA 0), n, .inl f'))]) hP hD [0, 1] [2, 3, 4] rfl rfl (by decide) (by decide) hk1 hFc hP1 hD1
  refine W.eq (g2 := F0 m 26 ls []) rfl ?_
  have hP : va_P D classes [(q, .inr (2, [.ref sa, .ref za, .int (nI (rItems tps tps.length 0).length)])), (sa, .inl ((kA 1), (tps.length * 4), .inr (.inl sf))), (za, .inl ((kA 2), tps.length, .inl zf)), (tp, .inr (0, [.int (nI 1024), .ref r', .int (nI ([] : List Nat).length)])), (r', .inl ((kA 0), n, .inl f'))] H := hP
  have hD : va_D A [(q, .inr (2, [.ref sa, .ref za, .int (nI (rItems tps tps.length 0).length)])), (sa, .inl ((kA 1), (tps.length * 4), .inr (.inl sf))), (za, .inl ((kA 2), tps.length, .inl zf)), (tp, .inr (0, [.int (nI 1024), .ref r', .int (nI ([] : List Nat).length)])), (r', .inl ((kA 0), n, .inl f'))] := hD
  refine lv_aload_n hx hb d_Peer_fit_26 rfl (lv_at hl 0 rfl) ?_
  refine lv_aload_n hx hb d_Peer_fit_27 rfl (lv_at hl 1 rfl) ?_
  refine zk_get (C := R_Peer) (T := F_Peer) (N := 10) S hK (zk_ro hS hx0 hxA) rfl i_Peer 2 (by decide) m_Peer_21 rfl rfl d_Peer_fit_28 ?_
  refine zk_pureE (zk_runV (As := [.ref bf]) (rest := []) S m_Peer_133 (c_Pattern_shortestBeginning l D kA (fun _ => True) q (rItems tps tps.length 0) bf bl bfs) rfl rfl ⟨Nat.le_of_ble_eq_true rfl, Nat.le_of_ble_eq_true rfl⟩ hK hX (zk_recv hK (hP 0 _ rfl) rfl) (⟨⟨sa, za, tps.length, sf, zf, ⟨trivial, trivial, trivial⟩, (hP 0 _ rfl), (hP 1 _ rfl), (hP 2 _ rfl), hprep⟩, (hbf.ro hS).weaken (fun _ _ => trivial)⟩) rfl hl.1 rfl (Nat.le_of_ble_eq_true rfl) ⟨by show _ ≤ 4; omega, by show _ ≤ tps.length * 4 + tps.length + 6; omega⟩ d_Peer_fit_31) (fun v hv => ?_)
  rcases hv with ⟨rr, rfl, hrr⟩
  · refine zk_top (v' := .int (zI rr)) rfl ?_
    exact zk_iret S hr hlk hS ⟨rr, rfl, hrr, r', f', hP.sub [3, 4] rfl, hD.sub [3, 4] (by decide) rfl, hbs'⟩ (by omega) (by omega) d_Peer_fit_34

set_option maxHeartbeats 4000000 in
set_option maxRecDepth 100000 in
/-- PeerLine.total(what) -/
theorem c_Peer_total (l : Launch) (D : va_G) (kA : Nat → ClassId) (Z : Nat → Prop) (x tp ln bf tr ru co : Nat) (rc hp st : Int32) (tm : Int64) (ct ca k : Nat) (l1 l2 l3 : Nat) (bfs trs lns : List Nat) (w : Int32) : Met l y_Peer_total (Cond.code y_Peer_total b_Peer_total 2 (some .int) :: zTB) { frames := 1, cells := 0, slots := 0, locals := 20 } (zk_Pc D classes (zTY kA) [.ref x, .int w] (fun H => va_at D classes (x, .inr (5, [.ref tp, .ref ln, .ref bf, .ref tr, .ref ru, .ref co, .int rc, .int hp, .int st, .long tm])) H ∧ va_at D classes (co, .inr (1, [.ref ct, .ref ca, .int (nI k)])) H ∧ BsAt D kA Z H bf l1 bfs ∧ BsAt D kA Z H tr l2 trs ∧ BsAt D kA Z H ln l3 lns)) (zk_pQ (some (Value.int (zTot w st (nI k) (nI bfs.length) (nI trs.length) rc (nI lns.length))))) 0 0 zk_no := by
  refine zk_of [.ref x, .int w] (by decide) (Nat.le_of_ble_eq_true rfl) ?_
  intro p e s m below meth c S hr hlk hnm hK hX hpre ls hl
  obtain ⟨hx, hb, hml, hown, ht⟩ := id S
  obtain ⟨hx0, hco, hbf, htr, hln⟩ := hpre
  obtain ⟨r1, n1, f1, z11, z12, hb1, -⟩ := id hbf
  obtain ⟨r2, n2, f2, z21, z22, hb2, -⟩ := id htr
  obtain ⟨r3, n3, f3, z31, z32, hb3, -⟩ := id hln
  have hl : lv_has ls 2 [(0, .ref x), (1, .int w)] := hl
  refine lv_iload_n hx hb d_Peer_total_0 rfl (lv_at hl 1 rfl) ?_
  by_cases h0 : w = 0
  · refine lv_tableIn (off := 39) (tgt := 40) hx hb d_Peer_total_1 (by rw [h0]; decide) (by rw [h0]; decide) (by rw [h0]; rfl) (by decide) ?_
    refine lv_aload_n hx hb d_Peer_total_40 rfl (lv_at hl 0 rfl) ?_
    refine zk_get (C := R_Peer) (T := F_Peer) (N := 10) S hK hx0 rfl i_Peer 8 (by decide) m_Peer_49 rfl rfl d_Peer_total_41 ?_
    refine zk_ti (z := zTot w st (nI k) (nI bfs.length) (nI trs.length) rc (nI lns.length)) (by unfold zTot; rw [if_pos h0]) ?_
    exact zk_reti S hr hlk d_Peer_total_44
  · by_cases h1 : w = 1
    · refine lv_tableIn (off := 44) (tgt := 45) hx hb d_Peer_total_1 (by rw [h1]; decide) (by rw [h1]; decide) (by rw [h1]; rfl) (by decide) ?_
      refine lv_aload_n hx hb d_Peer_total_45 rfl (lv_at hl 0 rfl) ?_
      refine zk_get (C := R_Peer) (T := F_Peer) (N := 10) S hK hx0 rfl i_Peer 5 (by decide) m_Peer_37 rfl rfl d_Peer_total_46 ?_
      refine zk_pure (zk_runV (As := []) (rest := []) S m_Peer_142 (c_Coming_size l D kA co ct ca k) rfl rfl ⟨Nat.le_of_ble_eq_true rfl, Nat.le_of_ble_eq_true rfl⟩ hK hX (zk_recv hK hco rfl) (hco) rfl hl.1 rfl (Nat.le_of_ble_eq_true rfl) ⟨Nat.le_of_ble_eq_true rfl, Nat.le_of_ble_eq_true rfl⟩ d_Peer_total_49) ?_
      refine zk_ti (z := zTot w st (nI k) (nI bfs.length) (nI trs.length) rc (nI lns.length)) (by unfold zTot; rw [if_neg h0, if_pos h1]) ?_
      exact zk_reti S hr hlk d_Peer_total_52
    · by_cases h2 : w = 2
      · refine lv_tableIn (off := 52) (tgt := 53) hx hb d_Peer_total_1 (by rw [h2]; decide) (by rw [h2]; decide) (by rw [h2]; rfl) (by decide) ?_
        refine lv_aload_n hx hb d_Peer_total_53 rfl (lv_at hl 0 rfl) ?_
        refine zk_get (C := R_Peer) (T := F_Peer) (N := 10) S hK hx0 rfl i_Peer 2 (by decide) m_Peer_21 rfl rfl d_Peer_total_54 ?_
        refine zk_pure (zk_runV (As := []) (rest := []) S m_Peer_121 (c_Bytes_size l D kA Z bf l1 bfs) rfl rfl ⟨Nat.le_of_ble_eq_true rfl, Nat.le_of_ble_eq_true rfl⟩ hK hX (zk_recv hK hb1 rfl) (hbf) rfl hl.1 rfl (Nat.le_of_ble_eq_true rfl) ⟨Nat.le_of_ble_eq_true rfl, Nat.le_of_ble_eq_true rfl⟩ d_Peer_total_57) ?_
        refine zk_ti (z := zTot w st (nI k) (nI bfs.length) (nI trs.length) rc (nI lns.length)) (by unfold zTot; rw [if_neg h0, if_neg h1, if_pos h2]) ?_
        exact zk_reti S hr hlk d_Peer_total_60
      · by_cases h3 : w = 3
        · refine lv_tableIn (off := 60) (tgt := 61) hx hb d_Peer_total_1 (by rw [h3]; decide) (by rw [h3]; decide) (by rw [h3]; rfl) (by decide) ?_
          refine lv_aload_n hx hb d_Peer_total_61 rfl (lv_at hl 0 rfl) ?_
          refine zk_get (C := R_Peer) (T := F_Peer) (N := 10) S hK hx0 rfl i_Peer 3 (by decide) m_Peer_25 rfl rfl d_Peer_total_62 ?_
          refine zk_pure (zk_runV (As := []) (rest := []) S m_Peer_121 (c_Bytes_size l D kA Z tr l2 trs) rfl rfl ⟨Nat.le_of_ble_eq_true rfl, Nat.le_of_ble_eq_true rfl⟩ hK hX (zk_recv hK hb2 rfl) (htr) rfl hl.1 rfl (Nat.le_of_ble_eq_true rfl) ⟨Nat.le_of_ble_eq_true rfl, Nat.le_of_ble_eq_true rfl⟩ d_Peer_total_65) ?_
          refine zk_ti (z := zTot w st (nI k) (nI bfs.length) (nI trs.length) rc (nI lns.length)) (by unfold zTot; rw [if_neg h0, if_neg h1, if_neg h2, if_pos h3]) ?_
          exact zk_reti S hr hlk d_Peer_total_68
        · by_cases h4 : w = 4
          · refine lv_tableIn (off := 68) (tgt := 69) hx hb d_Peer_total_1 (by rw [h4]; decide) (by rw [h4]; decide) (by rw [h4]; rfl) (by decide) ?_
            refine lv_aload_n hx hb d_Peer_total_69 rfl (lv_at hl 0 rfl) ?_
            refine zk_get (C := R_Peer) (T := F_Peer) (N := 10) S hK hx0 rfl i_Peer 6 (by decide) m_Peer_41 rfl rfl d_Peer_total_70 ?_
            refine zk_ti (z := zTot w st (nI k) (nI bfs.length) (nI trs.length) rc (nI lns.length)) (by unfold zTot; rw [if_neg h0, if_neg h1, if_neg h2, if_neg h3, if_pos h4]) ?_
            exact zk_reti S hr hlk d_Peer_total_73
          · by_cases h5 : w = 5
            · refine lv_tableIn (off := 73) (tgt := 74) hx hb d_Peer_total_1 (by rw [h5]; decide) (by rw [h5]; decide) (by rw [h5]; rfl) (by decide) ?_
              refine lv_aload_n hx hb d_Peer_total_74 rfl (lv_at hl 0 rfl) ?_
              refine zk_get (C := R_Peer) (T := F_Peer) (N := 10) S hK hx0 rfl i_Peer 1 (by decide) m_Peer_18 rfl rfl d_Peer_total_75 ?_
              refine zk_pure (zk_runV (As := []) (rest := []) S m_Peer_121 (c_Bytes_size l D kA Z ln l3 lns) rfl rfl ⟨Nat.le_of_ble_eq_true rfl, Nat.le_of_ble_eq_true rfl⟩ hK hX (zk_recv hK hb3 rfl) (hln) rfl hl.1 rfl (Nat.le_of_ble_eq_true rfl) ⟨Nat.le_of_ble_eq_true rfl, Nat.le_of_ble_eq_true rfl⟩ d_Peer_total_78) ?_
              refine zk_ti (z := zTot w st (nI k) (nI bfs.length) (nI trs.length) rc (nI lns.length)) (by unfold zTot; rw [if_neg h0, if_neg h1, if_neg h2, if_neg h3, if_neg h4, if_pos h5]) ?_
              exact zk_reti S hr hlk d_Peer_total_81
            · have hout : w.toInt < 0 ∨ 5 < w.toInt := by
                have e9 : ∀ z : Int32, w ≠ z → w.toInt ≠ z.toInt := fun z hz h => hz (Int32.toInt_inj.mp h)
                have a0 := e9 0 h0
                have a1 := e9 1 h1
                have a2 := e9 2 h2
                have a3 := e9 3 h3
                have a4 := e9 4 h4
                have a5 := e9 5 h5
                rw [show (0 : Int32).toInt = 0 by decide] at a0
                rw [show (1 : Int32).toInt = 1 by decide] at a1
                rw [show (2 : Int32).toInt = 2 by decide] at a2
                rw [show (3 : Int32).toInt = 3 by decide] at a3
                rw [show (4 : Int32).toInt = 4 by decide] at a4
                rw [show (5 : Int32).toInt = 5 by decide] at a5
                omega
              refine lv_tableOut (tgt := 82) hx hb d_Peer_total_1 hout (by decide) ?_
              refine lv_iconst (v := (-1)) hx hb d_Peer_total_82 (by decide) ?_
              refine zk_ti (z := zTot w st (nI k) (nI bfs.length) (nI trs.length) rc (nI lns.length)) (by unfold zTot; rw [if_neg h0, if_neg h1, if_neg h2, if_neg h3, if_neg h4, if_neg h5]) ?_
              exact zk_reti S hr hlk d_Peer_total_83
