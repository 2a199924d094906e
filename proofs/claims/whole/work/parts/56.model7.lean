/-! what is to come: the first of the least -/
def zLo (mq : List (Nat × Nat)) (k : Nat) : Prop := k < mq.length ∧ (∀ i, i < k → (mq.getD k (0, 0)).1 < (mq.getD i (0, 0)).1) ∧ ∀ i, k ≤ i → i < mq.length → (mq.getD k (0, 0)).1 ≤ (mq.getD i (0, 0)).1
theorem qIns_lt {x : Nat × Nat} {l : List (Nat × Nat)} (h : ∀ z ∈ l, x.1 < z.1) : qIns x l = x :: l := by
  cases l with
  | nil => rfl
  | cons z l =>
    have := h z List.mem_cons_self
    unfold qIns
    rw [if_neg (by omega)]
theorem qfold_cons {x : Nat × Nat} : ∀ (b l : List (Nat × Nat)), (∀ z ∈ b, x.1 ≤ z.1) → b.foldl (fun acc z => qIns z acc) (x :: l) = x :: b.foldl (fun acc z => qIns z acc) l
  | [], l, _ => rfl
  | z :: b, l, h => by
    show b.foldl _ (qIns z (x :: l)) = x :: b.foldl _ (qIns z l)
    have e : qIns z (x :: l) = x :: qIns z l := by
      show (if x.1 ≤ z.1 then x :: qIns z l else z :: x :: l) = _
      rw [if_pos (h z List.mem_cons_self)]
    rw [e]
    exact qfold_cons b _ (fun w hw => h w (List.mem_cons_of_mem _ hw))
theorem qs_app {a b : List (Nat × Nat)} : qs (a ++ b) = b.foldl (fun acc z => qIns z acc) (qs a) := by
  unfold qs
  rw [List.foldl_append]
theorem zgetQ {mq : List (Nat × Nat)} {i : Nat} (h : i < mq.length) : mq.getD i (0, 0) = mq[i] := by
  rw [List.getD_eq_getElem?_getD, List.getElem?_eq_getElem h]; rfl
theorem qs_first {mq : List (Nat × Nat)} {k : Nat} (h : zLo mq k) : qs mq = mq.getD k (0, 0) :: qs (mq.eraseIdx k) := by
  obtain ⟨h0, h1, h2⟩ := h
  have e : mq = (mq.take k ++ [mq.getD k (0, 0)]) ++ mq.drop (k + 1) := by
    rw [zgetQ h0, ← List.take_succ_eq_append_getElem h0, List.take_append_drop]
  have ea : qs (mq.take k ++ [mq.getD k (0, 0)]) = mq.getD k (0, 0) :: qs (mq.take k) := by
    rw [qs_snoc]
    refine qIns_lt (fun z hz => ?_)
    rw [qs_mem] at hz
    obtain ⟨i, hi, rfl⟩ := List.mem_iff_getElem.mp hz
    rw [List.length_take] at hi
    have := h1 i (by omega)
    rw [zgetQ (show i < mq.length by omega)] at this
    rw [List.getElem_take]
    exact this
  have eb : qs mq = (mq.drop (k + 1)).foldl (fun acc z => qIns z acc) (mq.getD k (0, 0) :: qs (mq.take k)) := by
    rw [← ea, ← qs_app, ← e]
  rw [eb, qfold_cons, ← qs_app, List.eraseIdx_eq_take_drop_succ]
  intro z hz
  obtain ⟨i, hi, rfl⟩ := List.mem_iff_getElem.mp hz
  rw [List.length_drop] at hi
  have := h2 (k + 1 + i) (by omega) (by omega)
  rw [zgetQ (show k + 1 + i < mq.length by omega)] at this
  rw [List.getElem_drop]
  exact this
theorem zLo_q {mq : List (Nat × Nat)} {k : Nat} (h : zLo mq k) : zTq mq = (mq.getD k (0, 0)).1 ∧ zIq mq = (mq.getD k (0, 0)).2 := by
  unfold zTq zIq
  rw [qs_first h]
  exact ⟨rfl, rfl⟩
theorem zC_drop {ad : Nat → Nat} {mq : List (Nat × Nat)} {k : Nat} (h : zLo mq k) : (zC ad mq).drop 1 = zC ad (mq.eraseIdx k) := by
  unfold zC
  rw [qs_first h]
  rfl
theorem zQok_erase {rs : List zRule} {mq : List (Nat × Nat)} {k : Nat} (h : zQok rs mq) : zQok rs (mq.eraseIdx k) := ⟨Nat.le_trans (List.length_eraseIdx_le _ _) h.1, fun q hq => h.2 q (List.mem_of_mem_eraseIdx hq)⟩
def MQr (mq : List (Nat × Nat)) (fw : Nat → Int64) (fh : Nat → Int32) : Prop := ∀ i, i < mq.length → fw i = lN (mq.getD i (0, 0)).1 ∧ fh i = nI (mq.getD i (0, 0)).2
/-- the rules as the reference holds them -/
def MRs (rs : List zRule) (g1 g2 g3 g4 g5 fP fA : Nat → Int32) : Prop := rs.length ≤ 64 ∧ ∀ r, r < rs.length → (g1 r = nI (rs.getD r zR0).1 ∧ g2 r = nI (rs.getD r zR0).2.2.2.1 ∧ g3 r = nI (rs.getD r zR0).2.2.2.2 ∧ g4 r = nI (rs.getD r zR0).2.1.length ∧ g5 r = nI (rs.getD r zR0).2.2.1.length) ∧ ((rs.getD r zR0).1 ≤ 31 ∧ (rs.getD r zR0).2.2.2.1 ≤ 1000 ∧ (rs.getD r zR0).2.2.2.2 ≤ 31 ∧ (rs.getD r zR0).2.1.length ≤ 200 ∧ (rs.getD r zR0).2.2.1.length ≤ 200) ∧ PatIn fP (200 * r) (rs.getD r zR0).2.1.length (rs.getD r zR0).2.1 ∧ PatIn fA (200 * r) (rs.getD r zR0).2.2.1.length (rs.getD r zR0).2.2.1
def zK (bfs os : List Nat) (i : Nat) : List Nat := (bfs ++ os.take i).drop (bfs.length + i - 1024)
theorem zK_len {bfs os : List Nat} {i : Nat} (hi : i ≤ os.length) : (zK bfs os i).length = bfs.length + i - (bfs.length + i - 1024) := by
  unfold zK
  rw [List.length_drop, List.length_append, List.length_take, Nat.min_eq_left hi]
theorem zK_full {bfs os : List Nat} {i : Nat} (hi : i < os.length) (h : 1024 ≤ bfs.length + i) : zK bfs os (i + 1) = (zK bfs os i).drop 1 ++ [os.getD i 0] := by
  unfold zK
  rw [List.drop_drop, zTakeS hi, ← List.append_assoc, List.drop_append_of_le_length (by rw [List.length_append, List.length_take, Nat.min_eq_left (by omega)]; omega), show bfs.length + (i + 1) - 1024 = bfs.length + i - 1024 + 1 by omega]
theorem zK_room {bfs os : List Nat} {i : Nat} (hi : i < os.length) (h : bfs.length + i < 1024) : zK bfs os (i + 1) = zK bfs os i ++ [os.getD i 0] := by
  unfold zK
  rw [zTakeS hi, show bfs.length + (i + 1) - 1024 = 0 by omega, show bfs.length + i - 1024 = 0 by omega, List.drop_zero, List.drop_zero, List.append_assoc]
theorem zK_0 {bfs os : List Nat} (h : bfs.length ≤ 1024) : zK bfs os 0 = bfs := by
  unfold zK
  rw [List.take_zero, List.append_nil, show bfs.length + 0 - 1024 = 0 by omega, List.drop_zero]
theorem zK_end {bfs os : List Nat} (h : os.length ≤ 1024) : zK bfs os os.length = zKeep bfs os ++ os := by
  unfold zK zKeep
  rw [List.take_length, List.drop_append_of_le_length (by omega)]
theorem zK_w {bfs os : List Nat} {i : Nat} {N : Nat} {f : Nat → Int32} (h : zRw N f (zK bfs os i)) : True := trivial
theorem zEr_get {mq : List (Nat × Nat)} {k j : Nat} : (mq.eraseIdx k).getD j (0, 0) = if j < k then mq.getD j (0, 0) else mq.getD (j + 1) (0, 0) := by
  rw [List.getD_eq_getElem?_getD, List.getElem?_eraseIdx]
  split
  · rw [List.getD_eq_getElem?_getD]
  · rw [List.getD_eq_getElem?_getD]
set_option maxHeartbeats 4000000 in
set_option maxRecDepth 100000 in
/-- PeerLineModel.keep(r) -/
theorem c_Model_keep (l : Launch) (D : va_G) (kA : Nat → ClassId) (y mt m1 m2 m3 m4 m5 mP mA ml mw mh mb mr mf : Nat) (v1 v2 v3 v4 v5 v6 v8 : Int32) (tm : Int64) (g1 g2 g3 g4 g5 fP fA : Nat → Int32) (rs : List zRule) (hrs : MRs rs g1 g2 g3 g4 g5 fP fA) (f : Nat → Int32) (bfs : List Nat) (r : Nat) (hr1 : r < rs.length) (sz0 : Nat) : Met l y_Model_keep (Cond.code y_Model_keep b_Model_keep 3 none :: zTB) { frames := 1, cells := 0, slots := 0, locals := 22 } (zk_Pc D classes (zTY kA) [.ref y, .int (nI r)] (fun H => H.size = sz0 ∧ va_P D classes [(y, .inr (6, [.ref mt, .int v1, .int v2, .ref m1, .ref m2, .ref m3, .ref m4, .ref m5, .ref mP, .ref mA, .int v3, .int v4, .int v5, .ref ml, .int v6, .ref mw, .ref mh, .long tm, .int (nI bfs.length), .int v8, .ref mb, .ref mr, .ref mf])), (mb, .inl ((kA 0), 1024, .inl f))] H ∧ va_D (fun _ => True) [(y, .inr (6, [.ref mt, .int v1, .int v2, .ref m1, .ref m2, .ref m3, .ref m4, .ref m5, .ref mP, .ref mA, .int v3, .int v4, .int v5, .ref ml, .int v6, .ref mw, .ref mh, .long tm, .int (nI bfs.length), .int v8, .ref mb, .ref mr, .ref mf])), (mb, .inl ((kA 0), 1024, .inl f))] ∧ zRw 1024 f bfs ∧ va_at D classes (m5, .inl (kA 3, 64, .inl g5)) H ∧ ¬ (va_A [(y, .inr (6, [.ref mt, .int v1, .int v2, .ref m1, .ref m2, .ref m3, .ref m4, .ref m5, .ref mP, .ref mA, .int v3, .int v4, .int v5, .ref ml, .int v6, .ref mw, .ref mh, .long tm, .int (nI bfs.length), .int v8, .ref mb, .ref mr, .ref mf])), (mb, .inl ((kA 0), 1024, .inl f))] sz0) m5 ∧ va_at D classes (mA, .inl (kA 0, 12800, .inl fA)) H ∧ ¬ (va_A [(y, .inr (6, [.ref mt, .int v1, .int v2, .ref m1, .ref m2, .ref m3, .ref m4, .ref m5, .ref mP, .ref mA, .int v3, .int v4, .int v5, .ref ml, .int v6, .ref mw, .ref mh, .long tm, .int (nI bfs.length), .int v8, .ref mb, .ref mr, .ref mf])), (mb, .inl ((kA 0), 1024, .inl f))] sz0) mA)) (zk_mQ (fun v H => v = none ∧ ∃ f', va_P D classes [(y, .inr (6, [.ref mt, .int v1, .int v2, .ref m1, .ref m2, .ref m3, .ref m4, .ref m5, .ref mP, .ref mA, .int v3, .int v4, .int v5, .ref ml, .int v6, .ref mw, .ref mh, .long tm, .int (nI (zKeep bfs (rs.getD r zR0).2.2.1 ++ (rs.getD r zR0).2.2.1).length), .int v8, .ref mb, .ref mr, .ref mf])), (mb, .inl ((kA 0), 1024, .inl f'))] H ∧ va_D (va_A [(y, .inr (6, [.ref mt, .int v1, .int v2, .ref m1, .ref m2, .ref m3, .ref m4, .ref m5, .ref mP, .ref mA, .int v3, .int v4, .int v5, .ref ml, .int v6, .ref mw, .ref mh, .long tm, .int (nI bfs.length), .int v8, .ref mb, .ref mr, .ref mf])), (mb, .inl ((kA 0), 1024, .inl f))] sz0) [(y, .inr (6, [.ref mt, .int v1, .int v2, .ref m1, .ref m2, .ref m3, .ref m4, .ref m5, .ref mP, .ref mA, .int v3, .int v4, .int v5, .ref ml, .int v6, .ref mw, .ref mh, .long tm, .int (nI (zKeep bfs (rs.getD r zR0).2.2.1 ++ (rs.getD r zR0).2.2.1).length), .int v8, .ref mb, .ref mr, .ref mf])), (mb, .inl ((kA 0), 1024, .inl f'))] ∧ zRw 1024 f' (zKeep bfs (rs.getD r zR0).2.2.1 ++ (rs.getD r zR0).2.2.1)) (va_A [(y, .inr (6, [.ref mt, .int v1, .int v2, .ref m1, .ref m2, .ref m3, .ref m4, .ref m5, .ref mP, .ref mA, .int v3, .int v4, .int v5, .ref ml, .int v6, .ref mw, .ref mh, .long tm, .int (nI bfs.length), .int v8, .ref mb, .ref mr, .ref mf])), (mb, .inl ((kA 0), 1024, .inl f))] sz0)) 0 0 (va_A [(y, .inr (6, [.ref mt, .int v1, .int v2, .ref m1, .ref m2, .ref m3, .ref m4, .ref m5, .ref mP, .ref mA, .int v3, .int v4, .int v5, .ref ml, .int v6, .ref mw, .ref mh, .long tm, .int (nI bfs.length), .int v8, .ref mb, .ref mr, .ref mf])), (mb, .inl ((kA 0), 1024, .inl f))] sz0) := by
  refine zk_of [.ref y, .int (nI r)] (by decide) (Nat.le_of_ble_eq_true rfl) ?_
  intro p e s m below meth c S hr hlk hnm hK hX hpre ls hl
  obtain ⟨hx, hb, hml, hown, ht⟩ := id S
  have hl : lv_has ls 3 [(0, .ref y), (1, .int (nI r))] := hl
  obtain ⟨hsz, hP, hD0, hr0, h50, h5A, hA0, hAA⟩ := hpre
  subst hsz
  have hD := hD0.self (sz := s.heap.size)
  generalize hAe : va_A [(y, .inr (6, [.ref mt, .int v1, .int v2, .ref m1, .ref m2, .ref m3, .ref m4, .ref m5, .ref mP, .ref mA, .int v3, .int v4, .int v5, .ref ml, .int v6, .ref mw, .ref mh, .long tm, .int (nI bfs.length), .int v8, .ref mb, .ref mr, .ref mf])), (mb, .inl ((kA 0), 1024, .inl f))] s.heap.size = A at hD h5A hAA ⊢
  have hA : ∀ q : Nat, s.heap.size ≤ q → A q := fun q h => by rw [← hAe]; exact Or.inr h
  have hS : va_S A s.heap s.heap [] := va_S.rf
  have hP : va_P D classes [(y, .inr (6, [.ref mt, .int v1, .int v2, .ref m1, .ref m2, .ref m3, .ref m4, .ref m5, .ref mP, .ref mA, .int v3, .int v4, .int v5, .ref ml, .int v6, .ref mw, .ref mh, .long tm, .int (nI bfs.length), .int v8, .ref mb, .ref mr, .ref mf])), (mb, .inl ((kA 0), 1024, .inl f))] s.heap := hP
  have htl := hr0.1
  have hrs64 := hrs.1
  obtain ⟨⟨-, -, -, -, he5⟩, ⟨-, -, -, -, hol⟩, -, hos⟩ := hrs.2 r hr1
  refine lv_iconst (v := 0) hx hb d_Model_keep_0 (by decide) ?_
  refine lv_istore_n (lv' := [(2, .int 0), (0, .ref y), (1, .int (nI r))]) hx hb d_Model_keep_1 rfl hl (by decide) rfl (fun ls hl => ?_)
  have lp : ∀ (fu : Nat) (i : Nat) (q1 : Nat → Int32), (rs.getD r zR0).2.2.1.length - i < fu → i ≤ (rs.getD r zR0).2.2.1.length → zRw 1024 q1 (zK bfs (rs.getD r zR0).2.2.1 i) → ∀ (H : Heap) (locs : List Loc), va_P D classes [(y, .inr (6, [.ref mt, .int v1, .int v2, .ref m1, .ref m2, .ref m3, .ref m4, .ref m5, .ref mP, .ref mA, .int v3, .int v4, .int v5, .ref ml, .int v6, .ref mw, .ref mh, .long tm, .int (nI (zK bfs (rs.getD r zR0).2.2.1 i).length), .int v8, .ref mb, .ref mr, .ref mf])), (mb, .inl ((kA 0), 1024, .inl q1))] H → va_D A [(y, .inr (6, [.ref mt, .int v1, .int v2, .ref m1, .ref m2, .ref m3, .ref m4, .ref m5, .ref mP, .ref mA, .int v3, .int v4, .int v5, .ref ml, .int v6, .ref mw, .ref mh, .long tm, .int (nI (zK bfs (rs.getD r zR0).2.2.1 i).length), .int v8, .ref mb, .ref mr, .ref mf])), (mb, .inl ((kA 0), 1024, .inl q1))] → va_S A s.heap H locs → ∀ ls : Array Slot, lv_has ls 3 [(0, .ref y), (1, .int (nI r)), (2, .int (nI i))] → W p l e { frames := 1, cells := 0, slots := 0, locals := 22 } s m [.ref y, .int (nI r)].toArray below meth c H locs 0 0 (MQ below (zk_mQ (fun v H => v = none ∧ ∃ f', va_P D classes [(y, .inr (6, [.ref mt, .int v1, .int v2, .ref m1, .ref m2, .ref m3, .ref m4, .ref m5, .ref mP, .ref mA, .int v3, .int v4, .int v5, .ref ml, .int v6, .ref mw, .ref mh, .long tm, .int (nI (zKeep bfs (rs.getD r zR0).2.2.1 ++ (rs.getD r zR0).2.2.1).length), .int v8, .ref mb, .ref mr, .ref mf])), (mb, .inl ((kA 0), 1024, .inl f'))] H ∧ va_D A [(y, .inr (6, [.ref mt, .int v1, .int v2, .ref m1, .ref m2, .ref m3, .ref m4, .ref m5, .ref mP, .ref mA, .int v3, .int v4, .int v5, .ref ml, .int v6, .ref mw, .ref mh, .long tm, .int (nI (zKeep bfs (rs.getD r zR0).2.2.1 ++ (rs.getD r zR0).2.2.1).length), .int v8, .ref mb, .ref mr, .ref mf])), (mb, .inl ((kA 0), 1024, .inl f'))] ∧ zRw 1024 f' (zKeep bfs (rs.getD r zR0).2.2.1 ++ (rs.getD r zR0).2.2.1)) A) [.ref y, .int (nI r)].toArray s 0 0 A) (F0 m 2 ls []) := by
    intro fu
    induction fu with
    | zero => intro i q1 hfu; exact absurd hfu (Nat.not_lt_zero _)
    | succ fu ih =>
      intro i q1 hfu hi hg H locs hP hD hS ls hl
      refine lv_iload_n hx hb d_Model_keep_2 rfl (lv_at hl 2 rfl) ?_
      refine lv_aload_n hx hb d_Model_keep_3 rfl (lv_at hl 0 rfl) ?_
      refine zk_get (C := R_Model) (T := F_Model) (N := 23) S hK (hP 0 _ rfl) rfl i_Model 7 (by decide) m_Model_26 rfl rfl d_Model_keep_4 ?_
      refine lv_iload_n hx hb d_Model_keep_7 rfl (lv_at hl 1 rfl) ?_
      refine zk_iald S hK 3 (zk_ro hS h50 h5A) rfl (vp_in_nI (by omega) (by omega)) d_Model_keep_8 ?_
      refine zk_ti (z := nI (rs.getD r zR0).2.2.1.length) (by rw [nI_clamp (by omega)]; exact he5) ?_
      refine lv_icmp_ge (tgt := 64) hx hb d_Model_keep_9 (by decide) (fun c9 => ?_) (fun c9 => ?_)
      · have hie : i = (rs.getD r zR0).2.2.1.length := by
          have := (nI_leI (by omega) (by omega)).mp c9
          omega
        subst hie
        rw [zK_end (by omega)] at hP hD hg
        exact zk_vret S hr hlk hS ⟨rfl, q1, hP, hD, hg⟩ (Nat.le_refl _) (Nat.le_refl _) d_Model_keep_64
      · have hi2 : i < (rs.getD r zR0).2.2.1.length := Nat.not_le.mp fun z => c9 (nI_le z (by omega))
        have hoi := hos i hi2
        have hKl := zK_len (bfs := bfs) (Nat.le_of_lt hi2)
        refine lv_aload_n hx hb d_Model_keep_12 rfl (lv_at hl 0 rfl) ?_
        refine zk_get (C := R_Model) (T := F_Model) (N := 23) S hK (hP 0 _ rfl) rfl i_Model 18 (by decide) m_Model_113 rfl rfl d_Model_keep_13 ?_
        refine lv_sipush (v := 1024) hx hb d_Model_keep_16 (by decide) ?_
        refine zk_ti (z := nI 1024) (rfl) ?_
        refine lv_icmp_ne (tgt := 27) hx hb d_Model_keep_19 (by decide) (fun c19 => ?_) (fun c19 => ?_)
        · have hfu2 : (zK bfs (rs.getD r zR0).2.2.1 i).length < 1024 := by
            have : (zK bfs (rs.getD r zR0).2.2.1 i).length ≠ 1024 := fun z => c19 (by rw [z])
            omega
          refine lv_aload_n hx hb d_Model_keep_27 rfl (lv_at hl 0 rfl) ?_
          refine zk_get (C := R_Model) (T := F_Model) (N := 23) S hK (hP 0 _ rfl) rfl i_Model 20 (by decide) m_Model_45 rfl rfl d_Model_keep_28 ?_
          refine lv_aload_n hx hb d_Model_keep_31 rfl (lv_at hl 0 rfl) ?_
          refine zk_get (C := R_Model) (T := F_Model) (N := 23) S hK (hP 0 _ rfl) rfl i_Model 18 (by decide) m_Model_113 rfl rfl d_Model_keep_32 ?_
          refine lv_aload_n hx hb d_Model_keep_35 rfl (lv_at hl 0 rfl) ?_
          refine zk_get (C := R_Model) (T := F_Model) (N := 23) S hK (hP 0 _ rfl) rfl i_Model 9 (by decide) m_Model_32 rfl rfl d_Model_keep_36 ?_
          refine lv_sipush (v := 200) hx hb d_Model_keep_39 (by decide) ?_
          refine zk_ti (z := nI 200) (rfl) ?_
          refine lv_iload_n hx hb d_Model_keep_42 rfl (lv_at hl 1 rfl) ?_
          refine lv_imul hx hb d_Model_keep_43 ?_
          refine zk_ti (z := nI (200 * r)) (pk_mul _ _) ?_
          refine lv_iload_n hx hb d_Model_keep_44 rfl (lv_at hl 2 rfl) ?_
          refine lv_iadd hx hb d_Model_keep_45 ?_
          refine zk_ti (z := nI (200 * r + i)) (nI_add _ _) ?_
          refine zk_bald S hK 0 (zk_ro hS hA0 hAA) rfl (vp_in_nI (by omega) (by omega)) d_Model_keep_46 ?_
          refine zk_ti (z := sb_b ((rs.getD r zR0).2.2.1.getD i 0)) (by rw [nI_clamp (by omega)]; exact hoi.2) ?_
          refine va_bast hx hb hK hP hD hS 1 0 rfl rfl (vp_in_nI (by omega) (by omega)) d_Model_keep_47 (fun H locs hP hD hS => ?_)
          rw [nI_clamp (by omega), zNar] at hP hD
          have hsn := zRw_snoc hg (by omega) hoi.1
          have hP : va_P D classes [(y, .inr (6, [.ref mt, .int v1, .int v2, .ref m1, .ref m2, .ref m3, .ref m4, .ref m5, .ref mP, .ref mA, .int v3, .int v4, .int v5, .ref ml, .int v6, .ref mw, .ref mh, .long tm, .int (nI (zK bfs (rs.getD r zR0).2.2.1 i).length), .int v8, .ref mb, .ref mr, .ref mf])), (mb, .inl ((kA 0), 1024, .inl (upd q1 (zK bfs (rs.getD r zR0).2.2.1 i).length (sb_b ((rs.getD r zR0).2.2.1.getD i 0)))))] H := hP
          have hD : va_D A [(y, .inr (6, [.ref mt, .int v1, .int v2, .ref m1, .ref m2, .ref m3, .ref m4, .ref m5, .ref mP, .ref mA, .int v3, .int v4, .int v5, .ref ml, .int v6, .ref mw, .ref mh, .long tm, .int (nI (zK bfs (rs.getD r zR0).2.2.1 i).length), .int v8, .ref mb, .ref mr, .ref mf])), (mb, .inl ((kA 0), 1024, .inl (upd q1 (zK bfs (rs.getD r zR0).2.2.1 i).length (sb_b ((rs.getD r zR0).2.2.1.getD i 0)))))] := hD
          refine lv_aload_n hx hb d_Model_keep_48 rfl (lv_at hl 0 rfl) ?_
          refine lv_dup hx hb d_Model_keep_49 rfl ?_
          refine zk_get (C := R_Model) (T := F_Model) (N := 23) S hK (hP 0 _ rfl) rfl i_Model 18 (by decide) m_Model_113 rfl rfl d_Model_keep_50 ?_
          refine lv_iconst (v := 1) hx hb d_Model_keep_53 (by decide) ?_
          refine lv_iadd hx hb d_Model_keep_54 ?_
          refine zk_ti (z := nI (zK bfs (rs.getD r zR0).2.2.1 (i + 1)).length) (by rw [zK_room hi2 (by omega)]; exact nI_len1) ?_
          refine va_put (D := D) (ci := 6) (v := .int (nI (zK bfs (rs.getD r zR0).2.2.1 (i + 1)).length)) (ty := .int) (C := R_Model) (T := F_Model) (N := 23) hx hb ht i_Model t_Model t_Model_ok n_Model hown hK hP hD hS 0 rfl rfl 18 (by decide) (ht _ m_Model_113) (fun _ h9 => h9) rfl (by decide +kernel) rfl rfl (Nat.le_of_ble_eq_true rfl) d_Model_keep_55 (fun H locs hP hD hS => ?_)
          have hP : va_P D classes [(y, .inr (6, [.ref mt, .int v1, .int v2, .ref m1, .ref m2, .ref m3, .ref m4, .ref m5, .ref mP, .ref mA, .int v3, .int v4, .int v5, .ref ml, .int v6, .ref mw, .ref mh, .long tm, .int (nI (zK bfs (rs.getD r zR0).2.2.1 (i + 1)).length), .int v8, .ref mb, .ref mr, .ref mf])), (mb, .inl ((kA 0), 1024, .inl (upd q1 (zK bfs (rs.getD r zR0).2.2.1 i).length (sb_b ((rs.getD r zR0).2.2.1.getD i 0)))))] H := hP
          have hD : va_D A [(y, .inr (6, [.ref mt, .int v1, .int v2, .ref m1, .ref m2, .ref m3, .ref m4, .ref m5, .ref mP, .ref mA, .int v3, .int v4, .int v5, .ref ml, .int v6, .ref mw, .ref mh, .long tm, .int (nI (zK bfs (rs.getD r zR0).2.2.1 (i + 1)).length), .int v8, .ref mb, .ref mr, .ref mf])), (mb, .inl ((kA 0), 1024, .inl (upd q1 (zK bfs (rs.getD r zR0).2.2.1 i).length (sb_b ((rs.getD r zR0).2.2.1.getD i 0)))))] := hD
          refine lv_iinc (v := nI (i + 1)) (lv' := [(2, .int (nI (i + 1))), (0, .ref y), (1, .int (nI r))]) hx hb d_Model_keep_58 hl (k := 2) rfl (nI_1 _) (by decide) rfl (fun ls hl => ?_)
          refine lv_goto (tgt := 2) hx hb d_Model_keep_61 (by decide) ?_
          exact ih (i + 1) _ (by omega) (by omega) (by rw [zK_room hi2 (by omega)]; exact hsn) _ _ (hP.sub [0, 1] rfl) (hD.sub [0, 1] (by decide) rfl) hS ls (lv_sub hl [1, 2, 0] rfl)
        · have hfu2 : (zK bfs (rs.getD r zR0).2.2.1 i).length = 1024 := (nI_eq (by omega) (by omega)).mp c19
          refine lv_aload_n hx hb d_Model_keep_22 rfl (lv_at hl 0 rfl) ?_
          refine lv_iconst (v := 1) hx hb d_Model_keep_23 (by decide) ?_
          refine zk_ti (z := nI 1) (rfl) ?_
          have hFc := va_free (wc := [(y, .inr (6, [.ref mt, .int v1, .int v2, .ref m1, .ref m2, .ref m3, .ref m4, .ref m5, .ref mP, .ref mA, .int v3, .int v4, .int v5, .ref ml, .int v6, .ref mw, .ref mh, .long tm, .int (nI (zK bfs (rs.getD r zR0).2.2.1 i).length), .int v8, .ref mb, .ref mr, .ref mf])), (mb, .inl ((kA 0), 1024, .inl q1))]) hD hS hA [0, 1] rfl
          refine zk_mut (zk_runV (As := [.int (nI 1)]) (rest := []) S m_Model_126 (c_Model_drop l D kA y mt m1 m2 m3 m4 m5 mP mA ml mw mh mb mr mf v1 v2 v3 v4 v5 v6 v8 tm q1 (zK bfs (rs.getD r zR0).2.2.1 i) 1 (by omega) H.size) rfl rfl ⟨Nat.le_of_ble_eq_true rfl, Nat.le_of_ble_eq_true rfl⟩ hK hX (zk_recv hK (hP 0 _ rfl) rfl) ⟨rfl, hP.sub (ws' := [(y, .inr (6, [.ref mt, .int v1, .int v2, .ref m1, .ref m2, .ref m3, .ref m4, .ref m5, .ref mP, .ref mA, .int v3, .int v4, .int v5, .ref ml, .int v6, .ref mw, .ref mh, .long tm, .int (nI (zK bfs (rs.getD r zR0).2.2.1 i).length), .int v8, .ref mb, .ref mr, .ref mf])), (mb, .inl ((kA 0), 1024, .inl q1))]) [0, 1] rfl, (hD.sub (ws' := [(y, .inr (6, [.ref mt, .int v1, .int v2, .ref m1, .ref m2, .ref m3, .ref m4, .ref m5, .ref mP, .ref mA, .int v3, .int v4, .int v5, .ref ml, .int v6, .ref mw, .ref mh, .long tm, .int (nI (zK bfs (rs.getD r zR0).2.2.1 i).length), .int v8, .ref mb, .ref mr, .ref mf])), (mb, .inl ((kA 0), 1024, .inl q1))]) [0, 1] (by decide) rfl).weaken (fun _ _ _ _ => trivial), hg⟩ rfl hl.1 rfl (Nat.le_of_ble_eq_true rfl) ⟨Nat.le_of_ble_eq_true rfl, Nat.le_of_ble_eq_true rfl⟩ d_Model_keep_24) hS hFc hFc (fun v H locs hpost hz1 hk1 hS => ?_)
          obtain ⟨rfl, q2, hP1, hD1, hg2⟩ := hpost
          obtain ⟨hP, hD⟩ := va_join (wr := []) (w1 := [(y, .inr (6, [.ref mt, .int v1, .int v2, .ref m1, .ref m2, .ref m3, .ref m4, .ref m5, .ref mP, .ref mA, .int v3, .int v4, .int v5, .ref ml, .int v6, .ref mw, .ref mh, .long tm, .int (nI ((zK bfs (rs.getD r zR0).2.2.1 i).drop 1).length), .int v8, .ref mb, .ref mr, .ref mf])), (mb, .inl ((kA 0), 1024, .inl q2))]) hP hD [0, 1] [] rfl rfl (by decide) (by decide) hk1 hFc hP1 hD1
          refine W.eq (g2 := F0 m 27 ls []) rfl ?_
          have hP : va_P D classes [(y, .inr (6, [.ref mt, .int v1, .int v2, .ref m1, .ref m2, .ref m3, .ref m4, .ref m5, .ref mP, .ref mA, .int v3, .int v4, .int v5, .ref ml, .int v6, .ref mw, .ref mh, .long tm, .int (nI ((zK bfs (rs.getD r zR0).2.2.1 i).drop 1).length), .int v8, .ref mb, .ref mr, .ref mf])), (mb, .inl ((kA 0), 1024, .inl q2))] H := hP
          have hD : va_D A [(y, .inr (6, [.ref mt, .int v1, .int v2, .ref m1, .ref m2, .ref m3, .ref m4, .ref m5, .ref mP, .ref mA, .int v3, .int v4, .int v5, .ref ml, .int v6, .ref mw, .ref mh, .long tm, .int (nI ((zK bfs (rs.getD r zR0).2.2.1 i).drop 1).length), .int v8, .ref mb, .ref mr, .ref mf])), (mb, .inl ((kA 0), 1024, .inl q2))] := hD
          have hL2 : ((zK bfs (rs.getD r zR0).2.2.1 i).drop 1).length = 1023 := by rw [List.length_drop]; omega
          refine lv_aload_n hx hb d_Model_keep_27 rfl (lv_at hl 0 rfl) ?_
          refine zk_get (C := R_Model) (T := F_Model) (N := 23) S hK (hP 0 _ rfl) rfl i_Model 20 (by decide) m_Model_45 rfl rfl d_Model_keep_28 ?_
          refine lv_aload_n hx hb d_Model_keep_31 rfl (lv_at hl 0 rfl) ?_
          refine zk_get (C := R_Model) (T := F_Model) (N := 23) S hK (hP 0 _ rfl) rfl i_Model 18 (by decide) m_Model_113 rfl rfl d_Model_keep_32 ?_
          refine lv_aload_n hx hb d_Model_keep_35 rfl (lv_at hl 0 rfl) ?_
          refine zk_get (C := R_Model) (T := F_Model) (N := 23) S hK (hP 0 _ rfl) rfl i_Model 9 (by decide) m_Model_32 rfl rfl d_Model_keep_36 ?_
          refine lv_sipush (v := 200) hx hb d_Model_keep_39 (by decide) ?_
          refine zk_ti (z := nI 200) (rfl) ?_
          refine lv_iload_n hx hb d_Model_keep_42 rfl (lv_at hl 1 rfl) ?_
          refine lv_imul hx hb d_Model_keep_43 ?_
          refine zk_ti (z := nI (200 * r)) (pk_mul _ _) ?_
          refine lv_iload_n hx hb d_Model_keep_44 rfl (lv_at hl 2 rfl) ?_
          refine lv_iadd hx hb d_Model_keep_45 ?_
          refine zk_ti (z := nI (200 * r + i)) (nI_add _ _) ?_
          refine zk_bald S hK 0 (zk_ro hS hA0 hAA) rfl (vp_in_nI (by omega) (by omega)) d_Model_keep_46 ?_
          refine zk_ti (z := sb_b ((rs.getD r zR0).2.2.1.getD i 0)) (by rw [nI_clamp (by omega)]; exact hoi.2) ?_
          refine va_bast hx hb hK hP hD hS 1 0 rfl rfl (vp_in_nI (by omega) (by omega)) d_Model_keep_47 (fun H locs hP hD hS => ?_)
          rw [nI_clamp (by omega), zNar] at hP hD
          have hsn := zRw_snoc hg2 (by omega) hoi.1
          have hP : va_P D classes [(y, .inr (6, [.ref mt, .int v1, .int v2, .ref m1, .ref m2, .ref m3, .ref m4, .ref m5, .ref mP, .ref mA, .int v3, .int v4, .int v5, .ref ml, .int v6, .ref mw, .ref mh, .long tm, .int (nI ((zK bfs (rs.getD r zR0).2.2.1 i).drop 1).length), .int v8, .ref mb, .ref mr, .ref mf])), (mb, .inl ((kA 0), 1024, .inl (upd q2 ((zK bfs (rs.getD r zR0).2.2.1 i).drop 1).length (sb_b ((rs.getD r zR0).2.2.1.getD i 0)))))] H := hP
          have hD : va_D A [(y, .inr (6, [.ref mt, .int v1, .int v2, .ref m1, .ref m2, .ref m3, .ref m4, .ref m5, .ref mP, .ref mA, .int v3, .int v4, .int v5, .ref ml, .int v6, .ref mw, .ref mh, .long tm, .int (nI ((zK bfs (rs.getD r zR0).2.2.1 i).drop 1).length), .int v8, .ref mb, .ref mr, .ref mf])), (mb, .inl ((kA 0), 1024, .inl (upd q2 ((zK bfs (rs.getD r zR0).2.2.1 i).drop 1).length (sb_b ((rs.getD r zR0).2.2.1.getD i 0)))))] := hD
          refine lv_aload_n hx hb d_Model_keep_48 rfl (lv_at hl 0 rfl) ?_
          refine lv_dup hx hb d_Model_keep_49 rfl ?_
          refine zk_get (C := R_Model) (T := F_Model) (N := 23) S hK (hP 0 _ rfl) rfl i_Model 18 (by decide) m_Model_113 rfl rfl d_Model_keep_50 ?_
          refine lv_iconst (v := 1) hx hb d_Model_keep_53 (by decide) ?_
          refine lv_iadd hx hb d_Model_keep_54 ?_
          refine zk_ti (z := nI (zK bfs (rs.getD r zR0).2.2.1 (i + 1)).length) (by rw [zK_full hi2 (by omega)]; exact nI_len1) ?_
          refine va_put (D := D) (ci := 6) (v := .int (nI (zK bfs (rs.getD r zR0).2.2.1 (i + 1)).length)) (ty := .int) (C := R_Model) (T := F_Model) (N := 23) hx hb ht i_Model t_Model t_Model_ok n_Model hown hK hP hD hS 0 rfl rfl 18 (by decide) (ht _ m_Model_113) (fun _ h9 => h9) rfl (by decide +kernel) rfl rfl (Nat.le_of_ble_eq_true rfl) d_Model_keep_55 (fun H locs hP hD hS => ?_)
          have hP : va_P D classes [(y, .inr (6, [.ref mt, .int v1, .int v2, .ref m1, .ref m2, .ref m3, .ref m4, .ref m5, .ref mP, .ref mA, .int v3, .int v4, .int v5, .ref ml, .int v6, .ref mw, .ref mh, .long tm, .int (nI (zK bfs (rs.getD r zR0).2.2.1 (i + 1)).length), .int v8, .ref mb, .ref mr, .ref mf])), (mb, .inl ((kA 0), 1024, .inl (upd q2 ((zK bfs (rs.getD r zR0).2.2.1 i).drop 1).length (sb_b ((rs.getD r zR0).2.2.1.getD i 0)))))] H := hP
          have hD : va_D A [(y, .inr (6, [.ref mt, .int v1, .int v2, .ref m1, .ref m2, .ref m3, .ref m4, .ref m5, .ref mP, .ref mA, .int v3, .int v4, .int v5, .ref ml, .int v6, .ref mw, .ref mh, .long tm, .int (nI (zK bfs (rs.getD r zR0).2.2.1 (i + 1)).length), .int v8, .ref mb, .ref mr, .ref mf])), (mb, .inl ((kA 0), 1024, .inl (upd q2 ((zK bfs (rs.getD r zR0).2.2.1 i).drop 1).length (sb_b ((rs.getD r zR0).2.2.1.getD i 0)))))] := hD
          refine lv_iinc (v := nI (i + 1)) (lv' := [(2, .int (nI (i + 1))), (0, .ref y), (1, .int (nI r))]) hx hb d_Model_keep_58 hl (k := 2) rfl (nI_1 _) (by decide) rfl (fun ls hl => ?_)
          refine lv_goto (tgt := 2) hx hb d_Model_keep_61 (by decide) ?_
          exact ih (i + 1) _ (by omega) (by omega) (by rw [zK_full hi2 (by omega)]; exact hsn) _ _ (hP.sub [0, 1] rfl) (hD.sub [0, 1] (by decide) rfl) hS ls (lv_sub hl [1, 2, 0] rfl)
  have e0 : zK bfs (rs.getD r zR0).2.2.1 0 = bfs := zK_0 htl
  rw [← e0] at hP hD
  exact lp ((rs.getD r zR0).2.2.1.length + 1) 0 f (by omega) (Nat.zero_le _) (by rw [zK_0 htl]; exact hr0) _ _ hP hD hS ls (lv_sub hl [1, 2, 0] rfl)
