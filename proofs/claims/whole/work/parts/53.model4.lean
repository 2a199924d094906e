theorem pF_snoc {t : Nat → Nat} {it : Nat → pItem} {S : List (Nat × Nat)} : ∀ (n i p e : Nat), it (i + n) = some S → (pF t it (n + 1) i p e ↔ ∃ e', e = e' + 1 ∧ pIn S (t e') = true ∧ pF t it n i p e') := by
  intro n
  induction n with
  | zero =>
    intro i p e h
    rw [pF_set (by rw [Nat.add_zero] at h; exact h)]
    constructor
    · rintro ⟨h1, h2, h3⟩
      have h3 : p + 1 = e := h3
      exact ⟨p, h3.symm, h2, rfl⟩
    · rintro ⟨e', h1, h2, h3⟩
      have h3 : p = e' := h3
      subst h3
      exact ⟨by omega, h2, h1.symm⟩
  | succ n ih =>
    intro i p e h
    have h' : it (i + 1 + n) = some S := by rw [show i + 1 + n = i + (n + 1) by omega]; exact h
    cases hi : it i with
    | none =>
      rw [pF_star hi]
      constructor
      · rintro ⟨k, h1, h2, h3⟩
        obtain ⟨e', g1, g2, g3⟩ := (ih (i + 1) k e h').mp h3
        exact ⟨e', g1, g2, (pF_star hi).mpr ⟨k, h1, pF_le _ _ _ _ g3, g3⟩⟩
      · rintro ⟨e', g1, g2, g3⟩
        obtain ⟨k, h1, h2, h3⟩ := (pF_star hi).mp g3
        exact ⟨k, h1, by omega, (ih (i + 1) k e h').mpr ⟨e', g1, g2, h3⟩⟩
    | some S' =>
      rw [pF_set hi]
      constructor
      · rintro ⟨h1, h2, h3⟩
        obtain ⟨e', g1, g2, g3⟩ := (ih (i + 1) (p + 1) e h').mp h3
        have := pF_le _ _ _ _ g3
        exact ⟨e', g1, g2, (pF_set hi).mpr ⟨by omega, h2, g3⟩⟩
      · rintro ⟨e', g1, g2, g3⟩
        obtain ⟨h1, h2, h3⟩ := (pF_set hi).mp g3
        exact ⟨by omega, h2, (ih (i + 1) (p + 1) e h').mpr ⟨e', g1, g2, h3⟩⟩
theorem zIt_mid {its rest : List pItem} {it : pItem} : zIt (its ++ it :: rest) (0 + its.length) = it := by
  show (its ++ it :: rest).getD (0 + its.length) none = it
  rw [Nat.zero_add, List.getD_eq_getElem?_getD, List.getElem?_append_right (Nat.le_refl _), Nat.sub_self]
  rfl
theorem rItem_star {bs : List Nat} {n a : Nat} (h : bs.getD a 0 = 42) : rItem bs n a = (none, a + 1) := if_pos h
theorem rItem_91 {bs : List Nat} {n a : Nat} (h : bs.getD a 0 = 91) : rItem bs n a = (some (rSel bs (rClose bs n (a + 1)) a), rClose bs n (a + 1) + 1) := by
  have h2 := rOne_rSet bs n n (a + 1) (by omega)
  unfold rItem rSel
  rw [if_neg (by omega), if_neg (by omega), if_pos h, if_neg (by omega), if_pos h, h2.1, h2.2]
theorem rItem_92 {bs : List Nat} {n a : Nat} (h : bs.getD a 0 = 92) (h1 : a + 1 < n) : rItem bs n a = (some (rSel bs (a + 2) a), a + 2) := by
  have e2 : rSelf bs n a = (bs.getD (a + 1) 0, a + 2) := if_pos ⟨h, h1⟩
  have e3 : rSel bs (a + 2) a = [(bs.getD (a + 1) 0, bs.getD (a + 1) 0)] := by
    unfold rSel
    rw [if_neg (by omega), if_neg (by omega), if_pos ⟨h, by omega⟩]
  rw [e3]
  unfold rItem
  rw [if_neg (by omega), if_neg (by omega), if_neg (by omega), e2]
theorem rItem_els {bs : List Nat} {n a : Nat} (h42 : bs.getD a 0 ≠ 42) (h91 : bs.getD a 0 ≠ 91) (h92 : ¬ (bs.getD a 0 = 92 ∧ a + 1 < n)) : rItem bs n a = (some (rSel bs (a + 1) a), a + 1) := by
  by_cases h63 : bs.getD a 0 = 63
  · have e3 : rSel bs (a + 1) a = [(0, 255)] := if_pos h63
    rw [e3]
    unfold rItem
    rw [if_neg h42, if_pos h63]
  · have e2 : rSelf bs n a = (bs.getD a 0, a + 1) := if_neg h92
    have e3 : rSel bs (a + 1) a = [(bs.getD a 0, bs.getD a 0)] := by
      unfold rSel
      rw [if_neg h63, if_neg h91, if_neg (fun z => absurd z.2 (Nat.lt_irrefl (a + 1)))]
    rw [e3]
    unfold rItem
    rw [if_neg h42, if_neg h63, if_neg h91, e2]
def zSet (P0 : Nat → Prop) (t : Nat → Nat) (it : Nat → pItem) (c j : Nat) : Prop := ∃ j0, P0 j0 ∧ pF t it c 0 j0 j
theorem zSet_star {P0 : Nat → Prop} {t : Nat → Nat} {it : Nat → pItem} {c j : Nat} (h : it (0 + c) = none) : zSet P0 t it (c + 1) j ↔ ∃ j', j' ≤ j ∧ zSet P0 t it c j' := by
  constructor
  · rintro ⟨j0, h1, h2⟩
    obtain ⟨e', h3, h4⟩ := (pF_last c 0 j0 j h).mp h2
    exact ⟨e', h3, j0, h1, h4⟩
  · rintro ⟨j', h1, j0, h2, h3⟩
    exact ⟨j0, h2, (pF_last c 0 j0 j h).mpr ⟨j', h1, h3⟩⟩
theorem zSet_set {P0 : Nat → Prop} {t : Nat → Nat} {it : Nat → pItem} {S : List (Nat × Nat)} {c j : Nat} (h : it (0 + c) = some S) : zSet P0 t it (c + 1) j ↔ ∃ j', j = j' + 1 ∧ pIn S (t j') = true ∧ zSet P0 t it c j' := by
  constructor
  · rintro ⟨j0, h1, h2⟩
    obtain ⟨e', h3, h4, h5⟩ := (pF_snoc c 0 j0 j h).mp h2
    exact ⟨e', h3, h4, j0, h1, h5⟩
  · rintro ⟨j', h1, h2, j0, h3, h4⟩
    exact ⟨j0, h3, (pF_snoc c 0 j0 j h).mpr ⟨j', h1, h2, h4⟩⟩
set_option maxHeartbeats 8000000 in
set_option maxRecDepth 100000 in
/-- PeerLineModel.go(p, from, to, text, size) -/
theorem c_Model_go (l : Launch) (D : va_G) (kA : Nat → ClassId) (y mt m1 m2 m3 m4 m5 mP mA ml mw mh mb mr mf : Nat) (v1 v2 v3 v4 v5 v6 v7 v8 : Int32) (tm : Int64) (p0 N b n : Nat) (f : Nat → Int32) (bs : List Nat) (hN : b + n ≤ N) (hN2 : N ≤ 65536) (hpt : PatIn f b n bs) (tx Nt : Nat) (tf : Nat → Int32) (txs : List Nat) (hNt : txs.length ≤ Nt) (hNt2 : Nt ≤ 65536) (htl : txs.length ≤ 1024) (htx : PatIn tf 0 txs.length txs) (zz : Nat → Int32) (P0 : Nat → Prop) (sz0 : Nat) : Met l y_Model_go (Cond.code y_Model_go b_Model_go 10 none :: zTB) { frames := 3, cells := 0, slots := 0, locals := 78 } (zk_Pc D classes (zTY kA) [.ref y, .ref p0, .int (nI b), .int (nI (b + n)), .ref tx, .int (nI txs.length)] (fun H => H.size = sz0 ∧ va_P D classes [(mf, .inl ((kA 2), 1025, .inl zz))] H ∧ va_D (fun _ => True) [(mf, .inl ((kA 2), 1025, .inl zz))] ∧ va_at D classes (y, .inr (6, [.ref mt, .int v1, .int v2, .ref m1, .ref m2, .ref m3, .ref m4, .ref m5, .ref mP, .ref mA, .int v3, .int v4, .int v5, .ref ml, .int v6, .ref mw, .ref mh, .long tm, .int v7, .int v8, .ref mb, .ref mr, .ref mf])) H ∧ ¬ (va_A [(mf, .inl ((kA 2), 1025, .inl zz))] sz0) y ∧ va_at D classes (p0, .inl (kA 0, N, .inl f)) H ∧ ¬ (va_A [(mf, .inl ((kA 2), 1025, .inl zz))] sz0) p0 ∧ va_at D classes (tx, .inl (kA 0, Nt, .inl tf)) H ∧ ¬ (va_A [(mf, .inl ((kA 2), 1025, .inl zz))] sz0) tx ∧ ∀ j, j ≤ txs.length → (zz j = 0 ∨ zz j = 1) ∧ (zz j = 1 ↔ P0 j))) (zk_mQ (fun v H => v = none ∧ ∃ zz', va_P D classes [(mf, .inl (kA 2, 1025, .inl zz'))] H ∧ va_D (va_A [(mf, .inl ((kA 2), 1025, .inl zz))] sz0) [(mf, .inl (kA 2, 1025, .inl zz'))] ∧ ∀ j, j ≤ txs.length → (zz' j = 0 ∨ zz' j = 1) ∧ (zz' j = 1 ↔ zSet P0 (zT txs) (zIt (rItems bs n 0)) (rItems bs n 0).length j)) (va_A [(mf, .inl ((kA 2), 1025, .inl zz))] sz0)) 0 0 (va_A [(mf, .inl ((kA 2), 1025, .inl zz))] sz0) := by
  refine zk_of [.ref y, .ref p0, .int (nI b), .int (nI (b + n)), .ref tx, .int (nI txs.length)] (by decide) (Nat.le_of_ble_eq_true rfl) ?_
  intro p e s m below meth c S hr hlk hnm hK hX hpre ls hl
  obtain ⟨hx, hb, hml, hown, ht⟩ := id S
  have hl : lv_has ls 10 [(0, .ref y), (1, .ref p0), (2, .int (nI b)), (3, .int (nI (b + n))), (4, .ref tx), (5, .int (nI txs.length))] := hl
  obtain ⟨hsz, hP, hD0, hy0, hyA, hp0, hpA, ht0, htA, hz01⟩ := hpre
  subst hsz
  have hD := hD0.self (sz := s.heap.size)
  generalize hAe : va_A [(mf, .inl ((kA 2), 1025, .inl zz))] s.heap.size = A at hD hyA hpA htA ⊢
  have hA : ∀ q : Nat, s.heap.size ≤ q → A q := fun q h => by rw [← hAe]; exact Or.inr h
  have hS : va_S A s.heap s.heap [] := va_S.rf
  have hP : va_P D classes [(mf, .inl ((kA 2), 1025, .inl zz))] s.heap := hP
  refine lv_iload_n hx hb d_Model_go_0 rfl (lv_at hl 2 rfl) ?_
  refine lv_istore (lv' := [(6, .int (nI b)), (0, .ref y), (1, .ref p0), (2, .int (nI b)), (3, .int (nI (b + n))), (4, .ref tx), (5, .int (nI txs.length))]) hx hb d_Model_go_1 hl (by decide) rfl (fun ls hl => ?_)
  have lp : ∀ (fu : Nat) (a : Nat) (its1 : List pItem) (z1 : Nat → Int32), n - a < fu → a ≤ n → (rItems bs n 0) = its1 ++ rItems bs n a → (∀ j, j ≤ txs.length → z1 j = 0 ∨ z1 j = 1) → (∀ j, j ≤ txs.length → (z1 j = 1 ↔ zSet P0 (zT txs) (zIt (rItems bs n 0)) its1.length j)) → ∀ (H : Heap) (locs : List Loc), va_P D classes [(mf, .inl ((kA 2), 1025, .inl z1))] H → va_D A [(mf, .inl ((kA 2), 1025, .inl z1))] → va_S A s.heap H locs → ∀ ls : Array Slot, lv_has ls 10 [(0, .ref y), (1, .ref p0), (3, .int (nI (b + n))), (4, .ref tx), (5, .int (nI txs.length)), (6, .int (nI (b + a)))] → W p l e { frames := 3, cells := 0, slots := 0, locals := 78 } s m [.ref y, .ref p0, .int (nI b), .int (nI (b + n)), .ref tx, .int (nI txs.length)].toArray below meth c H locs 0 0 (MQ below (zk_mQ (fun v H => v = none ∧ ∃ zz', va_P D classes [(mf, .inl (kA 2, 1025, .inl zz'))] H ∧ va_D A [(mf, .inl (kA 2, 1025, .inl zz'))] ∧ ∀ j, j ≤ txs.length → (zz' j = 0 ∨ zz' j = 1) ∧ (zz' j = 1 ↔ zSet P0 (zT txs) (zIt (rItems bs n 0)) (rItems bs n 0).length j)) A) [.ref y, .ref p0, .int (nI b), .int (nI (b + n)), .ref tx, .int (nI txs.length)].toArray s 0 0 A) (F0 m 3 ls []) := by
    intro fu
    induction fu with
    | zero => intro a its1 z1 hfu; exact absurd hfu (Nat.not_lt_zero _)
    | succ fu ih =>
      intro a its1 z1 hfu han0 hits h01 hPP H locs hP hD hS ls hl
      refine lv_iload hx hb d_Model_go_3 (lv_at hl 5 rfl) ?_
      refine lv_iload_n hx hb d_Model_go_5 rfl (lv_at hl 2 rfl) ?_
      refine lv_icmp_ge (tgt := 180) hx hb d_Model_go_6 (by decide) (fun c6 => ?_) (fun c6 => ?_)
      · have hge : n ≤ a := by
          have := (nI_leI (by omega) (by omega)).mp c6
          omega
        have hits2 : its1 = (rItems bs n 0) := by rw [hits, rItems_end hge, List.append_nil]
        exact zk_vret S hr hlk hS ⟨rfl, z1, hP, hD, fun j hj => ⟨h01 j hj, by rw [hPP j hj, hits2]⟩⟩ (Nat.le_refl _) (Nat.le_refl _) d_Model_go_180
      · have han : a < n := by
          have := Nat.not_le.mp fun z => c6 (nI_le z (by omega))
          omega
        have hpa := hpt a han
        have hE := sbE _ hpa.1
        refine lv_aload_n hx hb d_Model_go_9 rfl (lv_at hl 1 rfl) ?_
        refine lv_iload hx hb d_Model_go_10 (lv_at hl 5 rfl) ?_
        refine zk_bald S hK 0 (zk_ro hS hp0 hpA) rfl (vp_in_nI (by omega) (by omega)) d_Model_go_12 ?_
        refine zk_ti (z := sb_b (bs.getD a 0)) (by rw [nI_clamp (by omega)]; exact hpa.2) ?_
        refine lv_istore (lv' := [(7, .int (sb_b (bs.getD a 0))), (0, .ref y), (1, .ref p0), (3, .int (nI (b + n))), (4, .ref tx), (5, .int (nI txs.length)), (6, .int (nI (b + a)))]) hx hb d_Model_go_13 hl (by decide) rfl (fun ls hl => ?_)
        refine lv_iload hx hb d_Model_go_15 (lv_at hl 0 rfl) ?_
        refine lv_bipush (v := 42) hx hb d_Model_go_17 (by decide) ?_
        refine zk_ti (z := nI 42) (rfl) ?_
        refine lv_icmp_ne (tgt := 78) hx hb d_Model_go_19 (by decide) (fun c19 => ?_) (fun c19 => ?_)
        · have h42 : (bs.getD a 0) ≠ 42 := fun z => c19 (hE.2.2.2.1.mpr z)
          refine lv_iload hx hb d_Model_go_78 (lv_at hl 0 rfl) ?_
          refine lv_bipush (v := 91) hx hb d_Model_go_80 (by decide) ?_
          refine zk_ti (z := nI 91) (rfl) ?_
          refine lv_icmp_ne (tgt := 97) hx hb d_Model_go_82 (by decide) (fun c82 => ?_) (fun c82 => ?_)
          · have h91 : (bs.getD a 0) ≠ 91 := fun z => c82 (hE.2.2.2.2.2.1.mpr z)
            refine lv_iload_n hx hb d_Model_go_97 rfl (lv_at hl 3 rfl) ?_
            refine lv_istore (lv' := [(8, .int (nI (b + n))), (7, .int (sb_b (bs.getD a 0))), (0, .ref y), (1, .ref p0), (3, .int (nI (b + n))), (4, .ref tx), (5, .int (nI txs.length)), (6, .int (nI (b + a)))]) hx hb d_Model_go_98 hl (by decide) rfl (fun ls hl => ?_)
            refine lv_iload hx hb d_Model_go_100 (lv_at hl 1 rfl) ?_
            refine lv_bipush (v := 91) hx hb d_Model_go_102 (by decide) ?_
            refine zk_ti (z := nI 91) (rfl) ?_
            refine lv_icmp_ne (tgt := 112) hx hb d_Model_go_104 (by decide) (fun c104 => ?_) (fun c104 => ?_)
            · refine lv_iload hx hb d_Model_go_112 (lv_at hl 1 rfl) ?_
              refine lv_bipush (v := 92) hx hb d_Model_go_114 (by decide) ?_
              refine zk_ti (z := nI 92) (rfl) ?_
              refine lv_icmp_ne (tgt := 134) hx hb d_Model_go_116 (by decide) (fun c116 => ?_) (fun c116 => ?_)
              · have hno92 : ¬ ((bs.getD a 0) = 92 ∧ a + 1 < n) := fun z => c116 (hE.1.mpr z.1)
                refine lv_iload hx hb d_Model_go_134 (lv_at hl 7 rfl) ?_
                refine lv_iconst (v := 1) hx hb d_Model_go_136 (by decide) ?_
                refine lv_iadd hx hb d_Model_go_137 ?_
                refine zk_ti (z := nI (b + (a + 1))) (nI_1 _) ?_
                refine lv_istore (lv' := [(9, .int (nI (b + (a + 1)))), (8, .int (nI (b + n))), (7, .int (sb_b (bs.getD a 0))), (0, .ref y), (1, .ref p0), (3, .int (nI (b + n))), (4, .ref tx), (5, .int (nI txs.length)), (6, .int (nI (b + a)))]) hx hb d_Model_go_138 hl (by decide) rfl (fun ls hl => ?_)
                refine lv_aload_n hx hb d_Model_go_140 rfl (lv_at hl 3 rfl) ?_
                refine lv_aload_n hx hb d_Model_go_141 rfl (lv_at hl 4 rfl) ?_
                refine lv_iload hx hb d_Model_go_142 (lv_at hl 8 rfl) ?_
                refine lv_iload hx hb d_Model_go_144 (lv_at hl 0 rfl) ?_
                refine lv_aload hx hb d_Model_go_146 (lv_at hl 6 rfl) ?_
                refine lv_iload hx hb d_Model_go_148 (lv_at hl 7 rfl) ?_
                have hFc := va_free (wc := [(mf, .inl ((kA 2), 1025, .inl z1))]) hD hS hA [0] rfl
                refine zk_mut (zk_runV (As := [.ref p0, .int (nI (b + a)), .int (nI (b + (a + 1))), .ref tx, .int (nI txs.length)]) (rest := []) S m_Model_82 (c_Model_one l D kA y mt m1 m2 m3 m4 m5 mP mA ml mw mh mb mr mf v1 v2 v3 v4 v5 v6 v7 v8 tm p0 N b a (a + 1) n f bs (by omega) (by omega) hN hN2 hpt tx Nt tf txs hNt hNt2 htl htx z1 H.size) rfl rfl ⟨Nat.le_of_ble_eq_true rfl, Nat.le_of_ble_eq_true rfl⟩ hK hX (zk_recv hK (zk_ro hS hy0 hyA) rfl) ⟨rfl, hP.sub (ws' := [(mf, .inl ((kA 2), 1025, .inl z1))]) [0] rfl, (hD.sub (ws' := [(mf, .inl ((kA 2), 1025, .inl z1))]) [0] (by decide) rfl).weaken (fun _ _ _ _ => trivial), zk_ro hS hy0 hyA, fun z9 => hyA (hFc _ z9), zk_ro hS hp0 hpA, fun z9 => hpA (hFc _ z9), zk_ro hS ht0 htA, fun z9 => htA (hFc _ z9), fun j hj => h01 j hj⟩ rfl hl.1 rfl (Nat.le_of_ble_eq_true rfl) ⟨Nat.le_of_ble_eq_true rfl, Nat.le_of_ble_eq_true rfl⟩ d_Model_go_150) hS hFc hFc (fun v H locs hpost hz1 hk1 hS => ?_)
                obtain ⟨rfl, z2, hP1, hD1, hn01, hn0, hnS⟩ := hpost
                obtain ⟨hP, hD⟩ := va_join (wr := []) (w1 := [(mf, .inl ((kA 2), 1025, .inl z2))]) hP hD [0] [] rfl rfl (by decide) (by decide) hk1 hFc hP1 hD1
                refine W.eq (g2 := F0 m 153 ls []) rfl ?_
                have hP : va_P D classes [(mf, .inl ((kA 2), 1025, .inl z2))] H := hP
                have hD : va_D A [(mf, .inl ((kA 2), 1025, .inl z2))] := hD
                have hri := rItem_els h42 h91 hno92
                have hitm : zIt (rItems bs n 0) (0 + its1.length) = some (rSel bs (a + 1) a) := by rw [hits, rItems_step han, hri]; exact zIt_mid
                refine lv_iload hx hb d_Model_go_153 (lv_at hl 2 rfl) ?_
                refine lv_bipush (v := 91) hx hb d_Model_go_155 (by decide) ?_
                refine zk_ti (z := nI 91) (rfl) ?_
                refine lv_icmp_ne (tgt := 173) hx hb d_Model_go_157 (by decide) (fun c157 => ?_) (fun c157 => ?_)
                · refine lv_iload hx hb d_Model_go_173 (lv_at hl 0 rfl) ?_
                  refine lv_istore (lv' := [(6, .int (nI (b + (a + 1)))), (9, .int (nI (b + (a + 1)))), (8, .int (nI (b + n))), (7, .int (sb_b (bs.getD a 0))), (0, .ref y), (1, .ref p0), (3, .int (nI (b + n))), (4, .ref tx), (5, .int (nI txs.length))]) hx hb d_Model_go_175 hl (by decide) rfl (fun ls hl => ?_)
                  refine lv_goto (tgt := 3) hx hb d_Model_go_177 (by decide) ?_
                  exact ih (a + 1) (its1 ++ [some (rSel bs (a + 1) a)]) z2 (by omega) (by omega) (by rw [hits, rItems_step han, hri, List.append_assoc]; rfl) hn01 (fun j hj => by
                    rw [List.length_append]
                    show _ ↔ zSet P0 (zT txs) (zIt (rItems bs n 0)) (its1.length + 1) j
                    rw [zSet_set hitm]
                    cases j with
                    | zero =>
                      rw [hn0]
                      exact ⟨fun z => absurd z (by decide), fun z => by
                        obtain ⟨j', g1, -⟩ := z
                        omega⟩
                    | succ j =>
                      rw [hnS j (by omega), hPP j (by omega)]
                      exact ⟨fun z => ⟨j, rfl, z.2, z.1⟩, fun z => by
                        obtain ⟨j', g1, g2, g3⟩ := z
                        have : j' = j := by omega
                        rw [this] at g2 g3
                        exact ⟨g3, g2⟩⟩) _ _ (hP.sub [0] rfl) (hD.sub [0] (by decide) rfl) hS ls (lv_sub hl [4, 5, 6, 7, 8, 0] rfl)
                · exact absurd c157 c82
              · have h92 := hE.1.mp c116
                refine lv_iload hx hb d_Model_go_119 (lv_at hl 7 rfl) ?_
                refine lv_iconst (v := 1) hx hb d_Model_go_121 (by decide) ?_
                refine lv_iadd hx hb d_Model_go_122 ?_
                refine zk_ti (z := nI (b + a + 1)) (nI_1 _) ?_
                refine lv_iload_n hx hb d_Model_go_123 rfl (lv_at hl 4 rfl) ?_
                refine lv_icmp_ge (tgt := 134) hx hb d_Model_go_124 (by decide) (fun c124 => ?_) (fun c124 => ?_)
                · have hno92 : ¬ ((bs.getD a 0) = 92 ∧ a + 1 < n) := fun z => absurd ((nI_leI (by omega) (by omega)).mp c124) (by omega)
                  refine lv_iload hx hb d_Model_go_134 (lv_at hl 7 rfl) ?_
                  refine lv_iconst (v := 1) hx hb d_Model_go_136 (by decide) ?_
                  refine lv_iadd hx hb d_Model_go_137 ?_
                  refine zk_ti (z := nI (b + (a + 1))) (nI_1 _) ?_
                  refine lv_istore (lv' := [(9, .int (nI (b + (a + 1)))), (8, .int (nI (b + n))), (7, .int (sb_b (bs.getD a 0))), (0, .ref y), (1, .ref p0), (3, .int (nI (b + n))), (4, .ref tx), (5, .int (nI txs.length)), (6, .int (nI (b + a)))]) hx hb d_Model_go_138 hl (by decide) rfl (fun ls hl => ?_)
                  refine lv_aload_n hx hb d_Model_go_140 rfl (lv_at hl 3 rfl) ?_
                  refine lv_aload_n hx hb d_Model_go_141 rfl (lv_at hl 4 rfl) ?_
                  refine lv_iload hx hb d_Model_go_142 (lv_at hl 8 rfl) ?_
                  refine lv_iload hx hb d_Model_go_144 (lv_at hl 0 rfl) ?_
                  refine lv_aload hx hb d_Model_go_146 (lv_at hl 6 rfl) ?_
                  refine lv_iload hx hb d_Model_go_148 (lv_at hl 7 rfl) ?_
                  have hFc := va_free (wc := [(mf, .inl ((kA 2), 1025, .inl z1))]) hD hS hA [0] rfl
                  refine zk_mut (zk_runV (As := [.ref p0, .int (nI (b + a)), .int (nI (b + (a + 1))), .ref tx, .int (nI txs.length)]) (rest := []) S m_Model_82 (c_Model_one l D kA y mt m1 m2 m3 m4 m5 mP mA ml mw mh mb mr mf v1 v2 v3 v4 v5 v6 v7 v8 tm p0 N b a (a + 1) n f bs (by omega) (by omega) hN hN2 hpt tx Nt tf txs hNt hNt2 htl htx z1 H.size) rfl rfl ⟨Nat.le_of_ble_eq_true rfl, Nat.le_of_ble_eq_true rfl⟩ hK hX (zk_recv hK (zk_ro hS hy0 hyA) rfl) ⟨rfl, hP.sub (ws' := [(mf, .inl ((kA 2), 1025, .inl z1))]) [0] rfl, (hD.sub (ws' := [(mf, .inl ((kA 2), 1025, .inl z1))]) [0] (by decide) rfl).weaken (fun _ _ _ _ => trivial), zk_ro hS hy0 hyA, fun z9 => hyA (hFc _ z9), zk_ro hS hp0 hpA, fun z9 => hpA (hFc _ z9), zk_ro hS ht0 htA, fun z9 => htA (hFc _ z9), fun j hj => h01 j hj⟩ rfl hl.1 rfl (Nat.le_of_ble_eq_true rfl) ⟨Nat.le_of_ble_eq_true rfl, Nat.le_of_ble_eq_true rfl⟩ d_Model_go_150) hS hFc hFc (fun v H locs hpost hz1 hk1 hS => ?_)
                  obtain ⟨rfl, z2, hP1, hD1, hn01, hn0, hnS⟩ := hpost
                  obtain ⟨hP, hD⟩ := va_join (wr := []) (w1 := [(mf, .inl ((kA 2), 1025, .inl z2))]) hP hD [0] [] rfl rfl (by decide) (by decide) hk1 hFc hP1 hD1
                  refine W.eq (g2 := F0 m 153 ls []) rfl ?_
                  have hP : va_P D classes [(mf, .inl ((kA 2), 1025, .inl z2))] H := hP
                  have hD : va_D A [(mf, .inl ((kA 2), 1025, .inl z2))] := hD
                  have hri := rItem_els h42 h91 hno92
                  have hitm : zIt (rItems bs n 0) (0 + its1.length) = some (rSel bs (a + 1) a) := by rw [hits, rItems_step han, hri]; exact zIt_mid
                  refine lv_iload hx hb d_Model_go_153 (lv_at hl 2 rfl) ?_
                  refine lv_bipush (v := 91) hx hb d_Model_go_155 (by decide) ?_
                  refine zk_ti (z := nI 91) (rfl) ?_
                  refine lv_icmp_ne (tgt := 173) hx hb d_Model_go_157 (by decide) (fun c157 => ?_) (fun c157 => ?_)
                  · refine lv_iload hx hb d_Model_go_173 (lv_at hl 0 rfl) ?_
                    refine lv_istore (lv' := [(6, .int (nI (b + (a + 1)))), (9, .int (nI (b + (a + 1)))), (8, .int (nI (b + n))), (7, .int (sb_b (bs.getD a 0))), (0, .ref y), (1, .ref p0), (3, .int (nI (b + n))), (4, .ref tx), (5, .int (nI txs.length))]) hx hb d_Model_go_175 hl (by decide) rfl (fun ls hl => ?_)
                    refine lv_goto (tgt := 3) hx hb d_Model_go_177 (by decide) ?_
                    exact ih (a + 1) (its1 ++ [some (rSel bs (a + 1) a)]) z2 (by omega) (by omega) (by rw [hits, rItems_step han, hri, List.append_assoc]; rfl) hn01 (fun j hj => by
                      rw [List.length_append]
                      show _ ↔ zSet P0 (zT txs) (zIt (rItems bs n 0)) (its1.length + 1) j
                      rw [zSet_set hitm]
                      cases j with
                      | zero =>
                        rw [hn0]
                        exact ⟨fun z => absurd z (by decide), fun z => by
                          obtain ⟨j', g1, -⟩ := z
                          omega⟩
                      | succ j =>
                        rw [hnS j (by omega), hPP j (by omega)]
                        exact ⟨fun z => ⟨j, rfl, z.2, z.1⟩, fun z => by
                          obtain ⟨j', g1, g2, g3⟩ := z
                          have : j' = j := by omega
                          rw [this] at g2 g3
                          exact ⟨g3, g2⟩⟩) _ _ (hP.sub [0] rfl) (hD.sub [0] (by decide) rfl) hS ls (lv_sub hl [4, 5, 6, 7, 8, 0] rfl)
                  · exact absurd c157 c82
                · have h1 : a + 1 < n := by
                    have := Nat.not_le.mp fun z => c124 (nI_le z (by omega))
                    omega
                  refine lv_iload hx hb d_Model_go_127 (lv_at hl 7 rfl) ?_
                  refine lv_iconst (v := 2) hx hb d_Model_go_129 (by decide) ?_
                  refine zk_ti (z := nI 2) (rfl) ?_
                  refine lv_iadd hx hb d_Model_go_130 ?_
                  refine zk_ti (z := nI (b + (a + 2))) (nI_add (b + a) 2) ?_
                  refine lv_goto (tgt := 138) hx hb d_Model_go_131 (by decide) ?_
                  refine lv_istore (lv' := [(9, .int (nI (b + (a + 2)))), (8, .int (nI (b + n))), (7, .int (sb_b (bs.getD a 0))), (0, .ref y), (1, .ref p0), (3, .int (nI (b + n))), (4, .ref tx), (5, .int (nI txs.length)), (6, .int (nI (b + a)))]) hx hb d_Model_go_138 hl (by decide) rfl (fun ls hl => ?_)
                  refine lv_aload_n hx hb d_Model_go_140 rfl (lv_at hl 3 rfl) ?_
                  refine lv_aload_n hx hb d_Model_go_141 rfl (lv_at hl 4 rfl) ?_
                  refine lv_iload hx hb d_Model_go_142 (lv_at hl 8 rfl) ?_
                  refine lv_iload hx hb d_Model_go_144 (lv_at hl 0 rfl) ?_
                  refine lv_aload hx hb d_Model_go_146 (lv_at hl 6 rfl) ?_
                  refine lv_iload hx hb d_Model_go_148 (lv_at hl 7 rfl) ?_
                  have hFc := va_free (wc := [(mf, .inl ((kA 2), 1025, .inl z1))]) hD hS hA [0] rfl
                  refine zk_mut (zk_runV (As := [.ref p0, .int (nI (b + a)), .int (nI (b + (a + 2))), .ref tx, .int (nI txs.length)]) (rest := []) S m_Model_82 (c_Model_one l D kA y mt m1 m2 m3 m4 m5 mP mA ml mw mh mb mr mf v1 v2 v3 v4 v5 v6 v7 v8 tm p0 N b a (a + 2) n f bs (by omega) (by omega) hN hN2 hpt tx Nt tf txs hNt hNt2 htl htx z1 H.size) rfl rfl ⟨Nat.le_of_ble_eq_true rfl, Nat.le_of_ble_eq_true rfl⟩ hK hX (zk_recv hK (zk_ro hS hy0 hyA) rfl) ⟨rfl, hP.sub (ws' := [(mf, .inl ((kA 2), 1025, .inl z1))]) [0] rfl, (hD.sub (ws' := [(mf, .inl ((kA 2), 1025, .inl z1))]) [0] (by decide) rfl).weaken (fun _ _ _ _ => trivial), zk_ro hS hy0 hyA, fun z9 => hyA (hFc _ z9), zk_ro hS hp0 hpA, fun z9 => hpA (hFc _ z9), zk_ro hS ht0 htA, fun z9 => htA (hFc _ z9), fun j hj => h01 j hj⟩ rfl hl.1 rfl (Nat.le_of_ble_eq_true rfl) ⟨Nat.le_of_ble_eq_true rfl, Nat.le_of_ble_eq_true rfl⟩ d_Model_go_150) hS hFc hFc (fun v H locs hpost hz1 hk1 hS => ?_)
                  obtain ⟨rfl, z2, hP1, hD1, hn01, hn0, hnS⟩ := hpost
                  obtain ⟨hP, hD⟩ := va_join (wr := []) (w1 := [(mf, .inl ((kA 2), 1025, .inl z2))]) hP hD [0] [] rfl rfl (by decide) (by decide) hk1 hFc hP1 hD1
                  refine W.eq (g2 := F0 m 153 ls []) rfl ?_
                  have hP : va_P D classes [(mf, .inl ((kA 2), 1025, .inl z2))] H := hP
                  have hD : va_D A [(mf, .inl ((kA 2), 1025, .inl z2))] := hD
                  have hri := rItem_92 h92 h1
                  have hitm : zIt (rItems bs n 0) (0 + its1.length) = some (rSel bs (a + 2) a) := by rw [hits, rItems_step han, hri]; exact zIt_mid
                  refine lv_iload hx hb d_Model_go_153 (lv_at hl 2 rfl) ?_
                  refine lv_bipush (v := 91) hx hb d_Model_go_155 (by decide) ?_
                  refine zk_ti (z := nI 91) (rfl) ?_
                  refine lv_icmp_ne (tgt := 173) hx hb d_Model_go_157 (by decide) (fun c157 => ?_) (fun c157 => ?_)
                  · refine lv_iload hx hb d_Model_go_173 (lv_at hl 0 rfl) ?_
                    refine lv_istore (lv' := [(6, .int (nI (b + (a + 2)))), (9, .int (nI (b + (a + 2)))), (8, .int (nI (b + n))), (7, .int (sb_b (bs.getD a 0))), (0, .ref y), (1, .ref p0), (3, .int (nI (b + n))), (4, .ref tx), (5, .int (nI txs.length))]) hx hb d_Model_go_175 hl (by decide) rfl (fun ls hl => ?_)
                    refine lv_goto (tgt := 3) hx hb d_Model_go_177 (by decide) ?_
                    exact ih (a + 2) (its1 ++ [some (rSel bs (a + 2) a)]) z2 (by omega) (by omega) (by rw [hits, rItems_step han, hri, List.append_assoc]; rfl) hn01 (fun j hj => by
                      rw [List.length_append]
                      show _ ↔ zSet P0 (zT txs) (zIt (rItems bs n 0)) (its1.length + 1) j
                      rw [zSet_set hitm]
                      cases j with
                      | zero =>
                        rw [hn0]
                        exact ⟨fun z => absurd z (by decide), fun z => by
                          obtain ⟨j', g1, -⟩ := z
                          omega⟩
                      | succ j =>
                        rw [hnS j (by omega), hPP j (by omega)]
                        exact ⟨fun z => ⟨j, rfl, z.2, z.1⟩, fun z => by
                          obtain ⟨j', g1, g2, g3⟩ := z
                          have : j' = j := by omega
                          rw [this] at g2 g3
                          exact ⟨g3, g2⟩⟩) _ _ (hP.sub [0] rfl) (hD.sub [0] (by decide) rfl) hS ls (lv_sub hl [4, 5, 6, 7, 8, 0] rfl)
                  · exact absurd c157 c82
            · exact absurd c104 c82
          · have h91 := hE.2.2.2.2.2.1.mp c82
            have hcl1 := (rClose_ge bs n n (a + 1) (by omega)).1
            have hcl2 := (rClose_ge bs n n (a + 1) (by omega)).2 (by omega)
            refine lv_aload_n hx hb d_Model_go_85 rfl (lv_at hl 2 rfl) ?_
            refine lv_iload hx hb d_Model_go_86 (lv_at hl 6 rfl) ?_
            refine lv_iconst (v := 1) hx hb d_Model_go_88 (by decide) ?_
            refine lv_iadd hx hb d_Model_go_89 ?_
            refine zk_ti (z := nI (b + (a + 1))) (nI_1 _) ?_
            refine lv_iload_n hx hb d_Model_go_90 rfl (lv_at hl 3 rfl) ?_
            refine zk_pure (zk_runS (As := [.ref p0, .int (nI (b + (a + 1))), .int (nI (b + n))]) (rest := []) S m_Model_79 (c_Model_closing l D kA p0 N b (a + 1) n f bs (by omega) hN hN2 hpt) rfl rfl ⟨Nat.le_of_ble_eq_true rfl, Nat.le_of_ble_eq_true rfl⟩ hK hX ((zk_ro hS hp0 hpA)) rfl hl.1 rfl (Nat.le_of_ble_eq_true rfl) ⟨Nat.le_of_ble_eq_true rfl, Nat.le_of_ble_eq_true rfl⟩ d_Model_go_91) ?_
            refine lv_goto (tgt := 98) hx hb d_Model_go_94 (by decide) ?_
            refine lv_istore (lv' := [(8, .int (nI (b + (rClose bs n (a + 1))))), (7, .int (sb_b (bs.getD a 0))), (0, .ref y), (1, .ref p0), (3, .int (nI (b + n))), (4, .ref tx), (5, .int (nI txs.length)), (6, .int (nI (b + a)))]) hx hb d_Model_go_98 hl (by decide) rfl (fun ls hl => ?_)
            refine lv_iload hx hb d_Model_go_100 (lv_at hl 1 rfl) ?_
            refine lv_bipush (v := 91) hx hb d_Model_go_102 (by decide) ?_
            refine zk_ti (z := nI 91) (rfl) ?_
            refine lv_icmp_ne (tgt := 112) hx hb d_Model_go_104 (by decide) (fun c104 => ?_) (fun c104 => ?_)
            · exact absurd c82 c104
            · refine lv_iload hx hb d_Model_go_107 (lv_at hl 0 rfl) ?_
              refine lv_goto (tgt := 138) hx hb d_Model_go_109 (by decide) ?_
              refine lv_istore (lv' := [(9, .int (nI (b + (rClose bs n (a + 1))))), (8, .int (nI (b + (rClose bs n (a + 1))))), (7, .int (sb_b (bs.getD a 0))), (0, .ref y), (1, .ref p0), (3, .int (nI (b + n))), (4, .ref tx), (5, .int (nI txs.length)), (6, .int (nI (b + a)))]) hx hb d_Model_go_138 hl (by decide) rfl (fun ls hl => ?_)
              refine lv_aload_n hx hb d_Model_go_140 rfl (lv_at hl 3 rfl) ?_
              refine lv_aload_n hx hb d_Model_go_141 rfl (lv_at hl 4 rfl) ?_
              refine lv_iload hx hb d_Model_go_142 (lv_at hl 8 rfl) ?_
              refine lv_iload hx hb d_Model_go_144 (lv_at hl 0 rfl) ?_
              refine lv_aload hx hb d_Model_go_146 (lv_at hl 6 rfl) ?_
              refine lv_iload hx hb d_Model_go_148 (lv_at hl 7 rfl) ?_
              have hFc := va_free (wc := [(mf, .inl ((kA 2), 1025, .inl z1))]) hD hS hA [0] rfl
              refine zk_mut (zk_runV (As := [.ref p0, .int (nI (b + a)), .int (nI (b + (rClose bs n (a + 1)))), .ref tx, .int (nI txs.length)]) (rest := []) S m_Model_82 (c_Model_one l D kA y mt m1 m2 m3 m4 m5 mP mA ml mw mh mb mr mf v1 v2 v3 v4 v5 v6 v7 v8 tm p0 N b a (rClose bs n (a + 1)) n f bs (by omega) hcl2 hN hN2 hpt tx Nt tf txs hNt hNt2 htl htx z1 H.size) rfl rfl ⟨Nat.le_of_ble_eq_true rfl, Nat.le_of_ble_eq_true rfl⟩ hK hX (zk_recv hK (zk_ro hS hy0 hyA) rfl) ⟨rfl, hP.sub (ws' := [(mf, .inl ((kA 2), 1025, .inl z1))]) [0] rfl, (hD.sub (ws' := [(mf, .inl ((kA 2), 1025, .inl z1))]) [0] (by decide) rfl).weaken (fun _ _ _ _ => trivial), zk_ro hS hy0 hyA, fun z9 => hyA (hFc _ z9), zk_ro hS hp0 hpA, fun z9 => hpA (hFc _ z9), zk_ro hS ht0 htA, fun z9 => htA (hFc _ z9), fun j hj => h01 j hj⟩ rfl hl.1 rfl (Nat.le_of_ble_eq_true rfl) ⟨Nat.le_of_ble_eq_true rfl, Nat.le_of_ble_eq_true rfl⟩ d_Model_go_150) hS hFc hFc (fun v H locs hpost hz1 hk1 hS => ?_)
              obtain ⟨rfl, z2, hP1, hD1, hn01, hn0, hnS⟩ := hpost
              obtain ⟨hP, hD⟩ := va_join (wr := []) (w1 := [(mf, .inl ((kA 2), 1025, .inl z2))]) hP hD [0] [] rfl rfl (by decide) (by decide) hk1 hFc hP1 hD1
              refine W.eq (g2 := F0 m 153 ls []) rfl ?_
              have hP : va_P D classes [(mf, .inl ((kA 2), 1025, .inl z2))] H := hP
              have hD : va_D A [(mf, .inl ((kA 2), 1025, .inl z2))] := hD
              have hri := rItem_91 (n := n) h91
              have hitm : zIt (rItems bs n 0) (0 + its1.length) = some (rSel bs (rClose bs n (a + 1)) a) := by rw [hits, rItems_step han, hri]; exact zIt_mid
              refine lv_iload hx hb d_Model_go_153 (lv_at hl 2 rfl) ?_
              refine lv_bipush (v := 91) hx hb d_Model_go_155 (by decide) ?_
              refine zk_ti (z := nI 91) (rfl) ?_
              refine lv_icmp_ne (tgt := 173) hx hb d_Model_go_157 (by decide) (fun c157 => ?_) (fun c157 => ?_)
              · exact absurd c82 c157
              · refine lv_iload hx hb d_Model_go_160 (lv_at hl 1 rfl) ?_
                refine lv_iload_n hx hb d_Model_go_162 rfl (lv_at hl 5 rfl) ?_
                refine lv_icmp_ge (tgt := 173) hx hb d_Model_go_163 (by decide) (fun c163 => ?_) (fun c163 => ?_)
                · refine lv_iload hx hb d_Model_go_173 (lv_at hl 0 rfl) ?_
                  refine lv_istore (lv' := [(6, .int (nI (b + (rClose bs n (a + 1))))), (9, .int (nI (b + (rClose bs n (a + 1))))), (8, .int (nI (b + (rClose bs n (a + 1))))), (7, .int (sb_b (bs.getD a 0))), (0, .ref y), (1, .ref p0), (3, .int (nI (b + n))), (4, .ref tx), (5, .int (nI txs.length))]) hx hb d_Model_go_175 hl (by decide) rfl (fun ls hl => ?_)
                  refine lv_goto (tgt := 3) hx hb d_Model_go_177 (by decide) ?_
                  exact ih (rClose bs n (a + 1)) (its1 ++ [some (rSel bs (rClose bs n (a + 1)) a)]) z2 (by omega) (by omega) (by rw [hits, rItems_step han, hri, List.append_assoc, rItems_end (show n ≤ (rClose bs n (a + 1)) + 1 by have := (nI_leI (by omega) (by omega)).mp c163; omega), rItems_end (show n ≤ (rClose bs n (a + 1)) by have := (nI_leI (by omega) (by omega)).mp c163; omega)]; rfl) hn01 (fun j hj => by
                    rw [List.length_append]
                    show _ ↔ zSet P0 (zT txs) (zIt (rItems bs n 0)) (its1.length + 1) j
                    rw [zSet_set hitm]
                    cases j with
                    | zero =>
                      rw [hn0]
                      exact ⟨fun z => absurd z (by decide), fun z => by
                        obtain ⟨j', g1, -⟩ := z
                        omega⟩
                    | succ j =>
                      rw [hnS j (by omega), hPP j (by omega)]
                      exact ⟨fun z => ⟨j, rfl, z.2, z.1⟩, fun z => by
                        obtain ⟨j', g1, g2, g3⟩ := z
                        have : j' = j := by omega
                        rw [this] at g2 g3
                        exact ⟨g3, g2⟩⟩) _ _ (hP.sub [0] rfl) (hD.sub [0] (by decide) rfl) hS ls (lv_sub hl [4, 5, 6, 7, 8, 0] rfl)
                · refine lv_iload hx hb d_Model_go_166 (lv_at hl 1 rfl) ?_
                  refine lv_iconst (v := 1) hx hb d_Model_go_168 (by decide) ?_
                  refine lv_iadd hx hb d_Model_go_169 ?_
                  refine zk_ti (z := nI (b + ((rClose bs n (a + 1)) + 1))) (nI_1 _) ?_
                  refine lv_goto (tgt := 175) hx hb d_Model_go_170 (by decide) ?_
                  refine lv_istore (lv' := [(6, .int (nI (b + ((rClose bs n (a + 1)) + 1)))), (9, .int (nI (b + (rClose bs n (a + 1))))), (8, .int (nI (b + (rClose bs n (a + 1))))), (7, .int (sb_b (bs.getD a 0))), (0, .ref y), (1, .ref p0), (3, .int (nI (b + n))), (4, .ref tx), (5, .int (nI txs.length))]) hx hb d_Model_go_175 hl (by decide) rfl (fun ls hl => ?_)
                  refine lv_goto (tgt := 3) hx hb d_Model_go_177 (by decide) ?_
                  exact ih ((rClose bs n (a + 1)) + 1) (its1 ++ [some (rSel bs (rClose bs n (a + 1)) a)]) z2 (by omega) (by have := Nat.not_le.mp fun z9 => c163 (nI_le z9 (by omega)); omega) (by rw [hits, rItems_step han, hri, List.append_assoc]; rfl) hn01 (fun j hj => by
                    rw [List.length_append]
                    show _ ↔ zSet P0 (zT txs) (zIt (rItems bs n 0)) (its1.length + 1) j
                    rw [zSet_set hitm]
                    cases j with
                    | zero =>
                      rw [hn0]
                      exact ⟨fun z => absurd z (by decide), fun z => by
                        obtain ⟨j', g1, -⟩ := z
                        omega⟩
                    | succ j =>
                      rw [hnS j (by omega), hPP j (by omega)]
                      exact ⟨fun z => ⟨j, rfl, z.2, z.1⟩, fun z => by
                        obtain ⟨j', g1, g2, g3⟩ := z
                        have : j' = j := by omega
                        rw [this] at g2 g3
                        exact ⟨g3, g2⟩⟩) _ _ (hP.sub [0] rfl) (hD.sub [0] (by decide) rfl) hS ls (lv_sub hl [4, 5, 6, 7, 8, 0] rfl)
        · have h42 := hE.2.2.2.1.mp c19
          refine lv_iconst (v := 1) hx hb d_Model_go_22 (by decide) ?_
          refine zk_ti (z := nI 1) (rfl) ?_
          refine lv_istore (lv' := [(8, .int (nI 1)), (7, .int (sb_b (bs.getD a 0))), (0, .ref y), (1, .ref p0), (3, .int (nI (b + n))), (4, .ref tx), (5, .int (nI txs.length)), (6, .int (nI (b + a)))]) hx hb d_Model_go_23 hl (by decide) rfl (fun ls hl => ?_)
          have lp2 : ∀ (fu : Nat) (q : Nat) (z2 : Nat → Int32), txs.length + 1 - q < fu → 1 ≤ q → q ≤ txs.length + 1 → (∀ j, j < q → (z2 j = 0 ∨ z2 j = 1) ∧ (z2 j = 1 ↔ ∃ j', j' ≤ j ∧ z1 j' = 1)) → (∀ j, q ≤ j → z2 j = z1 j) → ∀ (H : Heap) (locs : List Loc), va_P D classes [(mf, .inl ((kA 2), 1025, .inl z2))] H → va_D A [(mf, .inl ((kA 2), 1025, .inl z2))] → va_S A s.heap H locs → ∀ ls : Array Slot, lv_has ls 10 [(0, .ref y), (1, .ref p0), (3, .int (nI (b + n))), (4, .ref tx), (5, .int (nI txs.length)), (6, .int (nI (b + a))), (8, .int (nI q))] → W p l e { frames := 3, cells := 0, slots := 0, locals := 78 } s m [.ref y, .ref p0, .int (nI b), .int (nI (b + n)), .ref tx, .int (nI txs.length)].toArray below meth c H locs 0 0 (MQ below (zk_mQ (fun v H => v = none ∧ ∃ zz', va_P D classes [(mf, .inl (kA 2, 1025, .inl zz'))] H ∧ va_D A [(mf, .inl (kA 2, 1025, .inl zz'))] ∧ ∀ j, j ≤ txs.length → (zz' j = 0 ∨ zz' j = 1) ∧ (zz' j = 1 ↔ zSet P0 (zT txs) (zIt (rItems bs n 0)) (rItems bs n 0).length j)) A) [.ref y, .ref p0, .int (nI b), .int (nI (b + n)), .ref tx, .int (nI txs.length)].toArray s 0 0 A) (F0 m 25 ls []) := by
            intro fu
            induction fu with
            | zero => intro q z2 hfu; exact absurd hfu (Nat.not_lt_zero _)
            | succ fu ih2 =>
              intro q z2 hfu hq1 hq2 hlo hhi H locs hP hD hS ls hl
              refine lv_iload hx hb d_Model_go_25 (lv_at hl 6 rfl) ?_
              refine lv_iload hx hb d_Model_go_27 (lv_at hl 4 rfl) ?_
              refine lv_icmp_gt (tgt := 72) hx hb d_Model_go_29 (by decide) (fun c29 => ?_) (fun c29 => ?_)
              · have hqs : txs.length < q := (nI_ltI (by omega) (by omega)).mp c29
                have hitm : zIt (rItems bs n 0) (0 + its1.length) = none := by rw [hits, rItems_step han, rItem_star h42]; exact zIt_mid
                refine lv_iinc (v := (nI (b + (a + 1)))) (lv' := [(6, .int (nI (b + (a + 1)))), (0, .ref y), (1, .ref p0), (3, .int (nI (b + n))), (4, .ref tx), (5, .int (nI txs.length)), (8, .int (nI q))]) hx hb d_Model_go_72 hl (k := 5) rfl (nI_1 _) (by decide) rfl (fun ls hl => ?_)
                refine lv_goto (tgt := 177) hx hb d_Model_go_75 (by decide) ?_
                refine lv_goto (tgt := 3) hx hb d_Model_go_177 (by decide) ?_
                exact ih (a + 1) (its1 ++ [none]) z2 (by omega) (by omega) (by rw [hits, rItems_step han, rItem_star h42, List.append_assoc]; rfl) (fun j hj => (hlo j (by omega)).1) (fun j hj => by
                  rw [(hlo j (by omega)).2, List.length_append]
                  show _ ↔ zSet P0 (zT txs) (zIt (rItems bs n 0)) (its1.length + 1) j
                  rw [zSet_star hitm]
                  exact ⟨fun z => by
                    obtain ⟨j', g1, g2⟩ := z
                    exact ⟨j', g1, (hPP j' (by omega)).mp g2⟩, fun z => by
                    obtain ⟨j', g1, g2⟩ := z
                    exact ⟨j', g1, (hPP j' (by omega)).mpr g2⟩⟩) _ _ (hP.sub [0] rfl) (hD.sub [0] (by decide) rfl) hS ls (lv_sub hl [1, 2, 3, 4, 5, 0] rfl)
              · have hql : q ≤ txs.length := Nat.not_lt.mp fun z => c29 (nI_lt z (by omega))
                refine lv_aload_n hx hb d_Model_go_32 rfl (lv_at hl 0 rfl) ?_
                refine zk_get (C := R_Model) (T := F_Model) (N := 23) S hK (zk_ro hS hy0 hyA) rfl i_Model 22 (by decide) m_Model_52 rfl rfl d_Model_go_33 ?_
                refine lv_iload hx hb d_Model_go_36 (lv_at hl 6 rfl) ?_
                refine lv_aload_n hx hb d_Model_go_38 rfl (lv_at hl 0 rfl) ?_
                refine zk_get (C := R_Model) (T := F_Model) (N := 23) S hK (zk_ro hS hy0 hyA) rfl i_Model 22 (by decide) m_Model_52 rfl rfl d_Model_go_39 ?_
                refine lv_iload hx hb d_Model_go_42 (lv_at hl 6 rfl) ?_
                refine zk_zald S hK 2 (hP 0 _ rfl) rfl (vp_in_nI (by omega) (by omega)) d_Model_go_44 ?_
                refine zk_ti (z := z1 q) (by rw [nI_clamp (by omega)]; exact hhi q (Nat.le_refl _)) ?_
                refine lv_if_ne (tgt := 60) hx hb d_Model_go_45 (by decide) (fun c45 => ?_) (fun c45 => ?_)
                · refine lv_iconst (v := 1) hx hb d_Model_go_60 (by decide) ?_
                  refine lv_goto (tgt := 65) hx hb d_Model_go_61 (by decide) ?_
                  refine va_zast hx hb hK hP hD hS 0 2 rfl rfl (vp_in_nI (by omega) (by omega)) d_Model_go_65 (fun H locs hP hD hS => ?_)
                  rw [nI_clamp (by omega), show vp_nar .boolean 1 = 1 from rfl] at hP hD
                  have hP : va_P D classes [(mf, .inl ((kA 2), 1025, .inl (upd z2 q 1)))] H := hP
                  have hD : va_D A [(mf, .inl ((kA 2), 1025, .inl (upd z2 q 1)))] := hD
                  refine lv_iinc (v := (nI (q + 1))) (lv' := [(8, .int (nI (q + 1))), (0, .ref y), (1, .ref p0), (3, .int (nI (b + n))), (4, .ref tx), (5, .int (nI txs.length)), (6, .int (nI (b + a)))]) hx hb d_Model_go_66 hl (k := 6) rfl (nI_1 q) (by decide) rfl (fun ls hl => ?_)
                  refine lv_goto (tgt := 25) hx hb d_Model_go_69 (by decide) ?_
                  exact ih2 (q + 1) (upd z2 q 1) (by omega) (by omega) (by omega) (fun j hj => by
                    by_cases e : j = q
                    · rw [e, pk_us]
                      refine ⟨by decide, ?_⟩
                      exact ⟨fun _ => ⟨q, Nat.le_refl _, (h01 q hql).resolve_left c45⟩, fun _ => rfl⟩
                    · rw [pk_un e]; exact hlo j (by omega)) (fun j hj => by rw [pk_un (by omega)]; exact hhi j (by omega)) _ _ (hP.sub [0] rfl) (hD.sub [0] (by decide) rfl) hS ls (lv_sub hl [1, 2, 3, 4, 5, 6, 0] rfl)
                · refine lv_aload_n hx hb d_Model_go_48 rfl (lv_at hl 0 rfl) ?_
                  refine zk_get (C := R_Model) (T := F_Model) (N := 23) S hK (zk_ro hS hy0 hyA) rfl i_Model 22 (by decide) m_Model_52 rfl rfl d_Model_go_49 ?_
                  refine lv_iload hx hb d_Model_go_52 (lv_at hl 6 rfl) ?_
                  refine lv_iconst (v := 1) hx hb d_Model_go_54 (by decide) ?_
                  refine lv_isub hx hb d_Model_go_55 ?_
                  refine zk_ti (z := nI (q - 1)) (by rw [show (1 : Int32) = nI 1 from rfl]; exact pk_sub (by omega)) ?_
                  refine zk_zald S hK 2 (hP 0 _ rfl) rfl (vp_in_nI (by omega) (by omega)) d_Model_go_56 ?_
                  refine zk_ti (z := z2 (q - 1)) (by rw [nI_clamp (by omega)]) ?_
                  refine lv_if_eq (tgt := 64) hx hb d_Model_go_57 (by decide) (fun c57 => ?_) (fun c57 => ?_)
                  · refine lv_iconst (v := 0) hx hb d_Model_go_64 (by decide) ?_
                    refine va_zast hx hb hK hP hD hS 0 2 rfl rfl (vp_in_nI (by omega) (by omega)) d_Model_go_65 (fun H locs hP hD hS => ?_)
                    rw [nI_clamp (by omega), show vp_nar .boolean 0 = 0 from rfl] at hP hD
                    have hP : va_P D classes [(mf, .inl ((kA 2), 1025, .inl (upd z2 q 0)))] H := hP
                    have hD : va_D A [(mf, .inl ((kA 2), 1025, .inl (upd z2 q 0)))] := hD
                    refine lv_iinc (v := (nI (q + 1))) (lv' := [(8, .int (nI (q + 1))), (0, .ref y), (1, .ref p0), (3, .int (nI (b + n))), (4, .ref tx), (5, .int (nI txs.length)), (6, .int (nI (b + a)))]) hx hb d_Model_go_66 hl (k := 6) rfl (nI_1 q) (by decide) rfl (fun ls hl => ?_)
                    refine lv_goto (tgt := 25) hx hb d_Model_go_69 (by decide) ?_
                    exact ih2 (q + 1) (upd z2 q 0) (by omega) (by omega) (by omega) (fun j hj => by
                      by_cases e : j = q
                      · rw [e, pk_us]
                        refine ⟨by decide, ?_⟩
                        exact ⟨fun z9 => absurd z9 (by decide), fun z9 => by
                          obtain ⟨j', hj1, hj2⟩ := z9
                          by_cases e2 : j' = q
                          · rw [e2] at hj2; exact absurd (c45.symm.trans hj2) (by decide)
                          · exact absurd (c57.symm.trans ((hlo (q - 1) (by omega)).2.mpr ⟨j', by omega, hj2⟩)) (by decide)⟩
                      · rw [pk_un e]; exact hlo j (by omega)) (fun j hj => by rw [pk_un (by omega)]; exact hhi j (by omega)) _ _ (hP.sub [0] rfl) (hD.sub [0] (by decide) rfl) hS ls (lv_sub hl [1, 2, 3, 4, 5, 6, 0] rfl)
                  · refine lv_iconst (v := 1) hx hb d_Model_go_60 (by decide) ?_
                    refine lv_goto (tgt := 65) hx hb d_Model_go_61 (by decide) ?_
                    refine va_zast hx hb hK hP hD hS 0 2 rfl rfl (vp_in_nI (by omega) (by omega)) d_Model_go_65 (fun H locs hP hD hS => ?_)
                    rw [nI_clamp (by omega), show vp_nar .boolean 1 = 1 from rfl] at hP hD
                    have hP : va_P D classes [(mf, .inl ((kA 2), 1025, .inl (upd z2 q 1)))] H := hP
                    have hD : va_D A [(mf, .inl ((kA 2), 1025, .inl (upd z2 q 1)))] := hD
                    refine lv_iinc (v := (nI (q + 1))) (lv' := [(8, .int (nI (q + 1))), (0, .ref y), (1, .ref p0), (3, .int (nI (b + n))), (4, .ref tx), (5, .int (nI txs.length)), (6, .int (nI (b + a)))]) hx hb d_Model_go_66 hl (k := 6) rfl (nI_1 q) (by decide) rfl (fun ls hl => ?_)
                    refine lv_goto (tgt := 25) hx hb d_Model_go_69 (by decide) ?_
                    exact ih2 (q + 1) (upd z2 q 1) (by omega) (by omega) (by omega) (fun j hj => by
                      by_cases e : j = q
                      · rw [e, pk_us]
                        refine ⟨by decide, ?_⟩
                        exact ⟨fun _ => by
                          obtain ⟨j', hj1, hj2⟩ := (hlo (q - 1) (by omega)).2.mp ((hlo (q - 1) (by omega)).1.resolve_left c57)
                          exact ⟨j', by omega, hj2⟩, fun _ => rfl⟩
                      · rw [pk_un e]; exact hlo j (by omega)) (fun j hj => by rw [pk_un (by omega)]; exact hhi j (by omega)) _ _ (hP.sub [0] rfl) (hD.sub [0] (by decide) rfl) hS ls (lv_sub hl [1, 2, 3, 4, 5, 6, 0] rfl)
          exact lp2 (txs.length + 2) 1 z1 (by omega) (Nat.le_refl _) (by omega) (fun j hj => by
            have : j = 0 := by omega
            subst this
            exact ⟨h01 0 (Nat.zero_le _), fun z => ⟨0, Nat.le_refl _, z⟩, fun z => by
              obtain ⟨j', g1, g2⟩ := z
              have : j' = 0 := by omega
              rw [this] at g2
              exact g2⟩) (fun j _ => rfl) _ _ (hP.sub [0] rfl) (hD.sub [0] (by decide) rfl) hS ls (lv_sub hl [2, 3, 4, 5, 6, 7, 0] rfl)
  exact lp (n + 1) 0 [] zz (by omega) (Nat.zero_le _) rfl (fun j hj => (hz01 j hj).1) (fun j hj => by
    rw [(hz01 j hj).2]
    exact ⟨fun z => ⟨j, z, rfl⟩, fun z => by
      obtain ⟨j0, g1, g2⟩ := z
      have g2 : j0 = j := g2
      rw [← g2]
      exact g1⟩) _ _ (hP.sub [0] rfl) (hD.sub [0] (by decide) rfl) hS ls (lv_sub hl [1, 2, 4, 5, 6, 0] rfl)
