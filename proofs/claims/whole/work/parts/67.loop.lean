theorem zHead {L k : Nat} (hL : L ≤ 3072) (hk : 6 * k ≤ L) : (Int32.ofNat L - 6 < nI (6 * k)) ↔ ¬ 6 * k + 6 ≤ L := by
  have e1 : (Int32.ofNat L).toInt = (L : Int) := nI_toInt (n := L) (by omega)
  have e2 : (nI (6 * k)).toInt = ((6 * k : Nat) : Int) := nI_toInt (by omega)
  have e3 : (6 : Int32).toInt = 6 := by decide
  have e4 : ((L : Int) - 6).bmod (2 ^ 32) = (L : Int) - 6 := by
    apply Int.bmod_eq_of_le <;> omega
  rw [Int32.lt_iff_toInt_lt, Int32.toInt_sub, e1, e2, e3, e4]
  omega
set_option maxHeartbeats 4000000 in
theorem zInv_up {D : va_G} {kA : Nat → ClassId} {A : Nat → Prop} {H : Heap} {x y k cc ss : Nat} (h : zInv D kA A H x y k cc ss) : zInv D kA A H x y (k + 1) cc ss := fun P9 h9 => h P9 (fun tp ln bf tr ru co ct ca rp np rl nl rb nb rt nt fp fl fb ft f g rf rs ad mq tps lns bfs trs hp st0 t0 Z mt m1 m2 m3 m4 m5 mP mA ml mw mh mb mr mf qt ql qb qr zz fh g1 g2 g3 g4 g5 fP fA fw hP hD b1 b2 b3 b4 hco hmq hRs hZ r1 r2 r3 r4 hmr hrs hhp hst ht0 hqt hcc hss => h9 tp ln bf tr ru co ct ca rp np rl nl rb nb rt nt fp fl fb ft f g rf rs ad mq tps lns bfs trs hp st0 t0 Z mt m1 m2 m3 m4 m5 mP mA ml mw mh mb mr mf qt ql qb qr zz fh g1 g2 g3 g4 g5 fP fA fw hP hD b1 b2 b3 b4 hco hmq hRs hZ r1 r2 r3 r4 hmr hrs hhp hst (by omega) (fun q hq => Nat.le_trans (hqt q hq) (by omega)) (by omega) (by omega))
set_option maxHeartbeats 8000000 in
set_option maxRecDepth 100000 in
/-- the law's loop -/
theorem law_loop {p : Program} {l : Launch} {e : Env} {s : State} {m : MethodId} {below : List Frame} {meth : Method} {c : Code} {D : va_G} {kA : Nat → ClassId} {b L : Nat} {xs : Nat → Int32} {Q : State → Prop} {A : Nat → Prop} (hL : L ≤ 3072) (S : CallFix p m c code 4 s #[Value.ref b] zTB "PeerLineLaw") (hK : va_K D classes (zTY kA) s) (hX : zk_X s) (hX1 : va_X b L xs s s.heap) (hbl : b < s.heap.size) (hbA : ¬ A b) (hA : ∀ q, s.heap.size ≤ q → A q) {x y : Nat} (hEnd : ∀ (H : Heap) (locs : List Loc) (cc ss : Nat) (ls : Array Slot), cc ≤ 200000 → ss ≤ 3500000 → va_S A s.heap H locs → W p l e room_1 s m #[Value.ref b] below meth c H locs cc ss Q (F0 m 483 ls [])) : ∀ (n k : Nat), 6 * k ≤ L → L < 6 * k + n → ∀ (H : Heap) (locs : List Loc) (cc ss : Nat), zInv D kA A H x y k cc ss → va_S A s.heap H locs → ∀ ls : Array Slot, lv_has ls 4 [(0, .ref b), (1, .ref x), (2, .ref y), (3, .int (nI (6 * k)))] → W p l e room_1 s m #[Value.ref b] below meth c H locs cc ss Q (F0 m 18 ls []) := by
  obtain ⟨hx, hb, hml, hown, ht⟩ := id S
  intro n
  induction n with
  | zero =>
    intro k h1 h2
    exact absurd h2 (by omega)
  | succ n ih =>
    intro k h1 h2 H locs cc ss hI hS ls hl
    refine lv_iload_n hx hb d_law_18 rfl (lv_at hl 3 rfl) ?_
    refine lv_aload_n hx hb d_law_19 rfl (lv_at hl 0 rfl) ?_
    refine va_slen hx hb hX1 hbl hbA hS d_law_20 ?_
    refine lv_bipush (v := 6) hx hb d_law_21 (by decide) ?_
    refine lv_isub hx hb d_law_23 ?_
    refine lv_icmp_gt (tgt := 483) hx hb d_law_24 (by decide) (fun c24 => ?_) (fun c24 => ?_)
    · refine hI _ ?_
      intro tp ln bf tr ru co ct ca rp np rl nl rb nb rt nt fp fl fb ft f g rf rs ad mq tps lns bfs trs hp st0 t0 Z mt m1 m2 m3 m4 m5 mP mA ml mw mh mb mr mf qt ql qb qr zz fh g1 g2 g3 g4 g5 fP fA fw hP hD b1 b2 b3 b4 hco hmq hRs hZ r1 r2 r3 r4 hmr hrs hhp hst ht0 hqt hcc hss
      have h9a := b1.2.1
      have h9b := b2.2.1
      have h9c := b3.2.1
      have h9d := b4.2.1
      exact hEnd _ _ _ _ _ (by omega) (by omega) hS
    · have hk : 6 * k + 6 ≤ L := Classical.byContradiction (fun h => c24 ((zHead hL h1).mpr h))
      have KK : ∀ (H : Heap) (locs : List Loc) (cc ss : Nat), zInv D kA A H x y (k + 1) cc ss → va_S A s.heap H locs → ∀ ls : Array Slot, lv_has ls 4 [(0, .ref b), (1, .ref x), (2, .ref y), (3, .int (nI (6 * k)))] → W p l e room_1 s m #[Value.ref b] below meth c H locs cc ss Q (F0 m 477 ls []) := by
        intro H locs cc ss hI hS ls hl
        refine lv_iinc (v := nI (6 * (k + 1))) (lv' := [(3, .int (nI (6 * (k + 1)))), (0, .ref b), (1, .ref x), (2, .ref y)]) hx hb d_law_477 hl (k := 3) rfl (by rw [show Int32.ofInt 6 = nI 6 by decide]; exact nI_add (6 * k) 6) (by decide) rfl (fun ls hl => ?_)
        refine lv_goto (tgt := 18) hx hb d_law_480 (by decide) ?_
        exact ih (k + 1) (by omega) (by omega) H locs cc ss hI hS ls (lv_sub hl [1, 2, 3, 0] rfl)
      refine lv_aload_n hx hb d_law_27 rfl (lv_at hl 0 rfl) ?_
      refine lv_iload_n hx hb d_law_28 rfl (lv_at hl 3 rfl) ?_
      refine va_sld hx hb hX1 hbl hbA hS (vp_in_nI (by omega) (by omega)) d_law_29 ?_
      refine lv_bipush (v := 15) hx hb d_law_30 (by decide) ?_
      refine lv_iand hx hb d_law_32 ?_
      refine lv_topi (fun w ew => ?_)
      clear ew
      by_cases h0 : w = 0
      · refine lv_tableIn (off := 67) (tgt := 100) hx hb d_law_33 (by rw [h0]; decide) (by rw [h0]; decide) (by rw [h0]; rfl) (by decide) ?_
        exact law_feed hL S hK hX hX1 hbl hbA hA hk hI hS hl KK
      by_cases h1 : w = 1
      · refine lv_tableIn (off := 130) (tgt := 163) hx hb d_law_33 (by rw [h1]; decide) (by rw [h1]; decide) (by rw [h1]; rfl) (by decide) ?_
        exact law_end hL S hK hX hX1 hbl hbA hA hk hI hS hl KK
      by_cases h2 : w = 2
      · refine lv_tableIn (off := 153) (tgt := 186) hx hb d_law_33 (by rw [h2]; decide) (by rw [h2]; decide) (by rw [h2]; rfl) (by decide) ?_
        exact law_rule hL S hK hX hX1 hbl hbA hA hk hI hS hl KK
      by_cases h3 : w = 3
      · refine lv_tableIn (off := 196) (tgt := 229) hx hb d_law_33 (by rw [h3]; decide) (by rw [h3]; decide) (by rw [h3]; rfl) (by decide) ?_
        exact law_spawn hL S hK hX hX1 hbl hbA hA hk hI hS hl KK
      by_cases h4 : w = 4
      · refine lv_tableIn (off := 207) (tgt := 240) hx hb d_law_33 (by rw [h4]; decide) (by rw [h4]; decide) (by rw [h4]; rfl) (by decide) ?_
        exact law_send hL S hK hX hX1 hbl hbA hA hk hI hS hl KK
      by_cases h5 : w = 5
      · refine lv_tableIn (off := 220) (tgt := 253) hx hb d_law_33 (by rw [h5]; decide) (by rw [h5]; decide) (by rw [h5]; rfl) (by decide) ?_
        exact law_put hL S hK hX hX1 hbl hbA hA hk hI hS hl KK
      by_cases h6 : w = 6
      · refine lv_tableIn (off := 231) (tgt := 264) hx hb d_law_33 (by rw [h6]; decide) (by rw [h6]; decide) (by rw [h6]; rfl) (by decide) ?_
        exact law_come hL S hK hX hX1 hbl hbA hA hk hI hS hl KK
      by_cases h7 : w = 7
      · refine lv_tableIn (off := 285) (tgt := 318) hx hb d_law_33 (by rw [h7]; decide) (by rw [h7]; decide) (by rw [h7]; rfl) (by decide) ?_
        exact law_fit hL S hK hX hX1 hbl hbA hA hk hI hS hl KK
      by_cases h8 : w = 8
      · refine lv_tableIn (off := 298) (tgt := 331) hx hb d_law_33 (by rw [h8]; decide) (by rw [h8]; decide) (by rw [h8]; rfl) (by decide) ?_
        exact law_take hL S hK hX hX1 hbl hbA hA hk hI hS hl KK
      by_cases h9 : w = 9
      · refine lv_tableIn (off := 321) (tgt := 354) hx hb d_law_33 (by rw [h9]; decide) (by rw [h9]; decide) (by rw [h9]; rfl) (by decide) ?_
        exact law_pass hL S hK hX hX1 hbl hbA hA hk hI hS hl KK
      by_cases h10 : w = 10
      · refine lv_tableIn (off := 375) (tgt := 408) hx hb d_law_33 (by rw [h10]; decide) (by rw [h10]; decide) (by rw [h10]; rfl) (by decide) ?_
        exact law_total hL S hK hX hX1 hbl hbA hA hk hI hS hl KK
      by_cases h11 : w = 11
      · refine lv_tableIn (off := 398) (tgt := 431) hx hb d_law_33 (by rw [h11]; decide) (by rw [h11]; decide) (by rw [h11]; rfl) (by decide) ?_
        exact law_bufferAt hL S hK hX hX1 hbl hbA hA hk hI hS hl KK
      by_cases h12 : w = 12
      · refine lv_tableIn (off := 421) (tgt := 454) hx hb d_law_33 (by rw [h12]; decide) (by rw [h12]; decide) (by rw [h12]; rfl) (by decide) ?_
        exact law_toldAt hL S hK hX hX1 hbl hbA hA hk hI hS hl KK
      have e9 : ∀ z : Int32, w ≠ z → w.toInt ≠ z.toInt := fun z hz h => hz (Int32.toInt_inj.mp h)
      have a0 := e9 0 h0
      rw [show (0 : Int32).toInt = 0 by decide] at a0
      have a1 := e9 1 h1
      rw [show (1 : Int32).toInt = 1 by decide] at a1
      have a2 := e9 2 h2
      rw [show (2 : Int32).toInt = 2 by decide] at a2
      have a3 := e9 3 h3
      rw [show (3 : Int32).toInt = 3 by decide] at a3
      have a4 := e9 4 h4
      rw [show (4 : Int32).toInt = 4 by decide] at a4
      have a5 := e9 5 h5
      rw [show (5 : Int32).toInt = 5 by decide] at a5
      have a6 := e9 6 h6
      rw [show (6 : Int32).toInt = 6 by decide] at a6
      have a7 := e9 7 h7
      rw [show (7 : Int32).toInt = 7 by decide] at a7
      have a8 := e9 8 h8
      rw [show (8 : Int32).toInt = 8 by decide] at a8
      have a9 := e9 9 h9
      rw [show (9 : Int32).toInt = 9 by decide] at a9
      have a10 := e9 10 h10
      rw [show (10 : Int32).toInt = 10 by decide] at a10
      have a11 := e9 11 h11
      rw [show (11 : Int32).toInt = 11 by decide] at a11
      have a12 := e9 12 h12
      rw [show (12 : Int32).toInt = 12 by decide] at a12
      have hout : w.toInt < 0 ∨ 12 < w.toInt := by omega
      refine lv_tableOut (tgt := 477) hx hb d_law_33 hout (by decide) ?_
      exact KK _ _ _ _ (zInv_up hI) hS ls hl
