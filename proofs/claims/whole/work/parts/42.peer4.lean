abbrev zGs : Type := List Nat × Nat × Nat × List (Nat × Nat)
/-- a byte that the peer gets: its line, the line's room, its state, what is to come -/
noncomputable def zG1 (rs : List zRule) (t0 v : Nat) (u : zGs) : zGs := if v = 10 then ([], u.2.1, zNext rs u.2.2.1 (zFirst rs u.2.2.1 u.1), zPush rs t0 u.2.2.2 (zFirst rs u.2.2.1 u.1)) else (zApp 1024 u.1 v, zCap 1024 u.2.1 u.1.length, u.2.2.1, u.2.2.2)
noncomputable def zGv (rs : List zRule) (t0 : Nat) (l : List Nat) (u : zGs) : zGs := l.foldl (fun u v => zG1 rs t0 v u) u
theorem zGv_snoc {rs : List zRule} {t0 : Nat} {tps : List Nat} {i : Nat} {u : zGs} (h : i < tps.length) : zGv rs t0 (tps.take (i + 1)) u = zG1 rs t0 (tps.getD i 0) (zGv rs t0 (tps.take i) u) := by
  unfold zGv
  rw [List.take_succ_eq_append_getElem h, List.foldl_append, zgetD h]
  rfl
theorem zGv_rest {rs : List zRule} {t0 : Nat} {tps : List Nat} {i : Nat} {u : zGs} : zGv rs t0 tps u = zGv rs t0 (tps.drop i) (zGv rs t0 (tps.take i) u) := by
  unfold zGv
  rw [← List.foldl_append, List.take_append_drop]
def zGok (u : zGs) : Prop := u.1.length ≤ u.2.1 ∧ u.2.1 ≤ 1024 ∧ 0 < u.2.1
theorem zG1_ok {rs : List zRule} {t0 v : Nat} {u : zGs} (h : zGok u) : zGok (zG1 rs t0 v u) ∧ u.2.1 ≤ (zG1 rs t0 v u).2.1 := by
  obtain ⟨h1, h2, h3⟩ := h
  unfold zG1
  by_cases hv : v = 10
  · rw [if_pos hv]
    exact ⟨⟨Nat.zero_le _, h2, h3⟩, Nat.le_refl _⟩
  · rw [if_neg hv]
    have g1 := zCap_ge (lim := 1024) h1
    have g2 := zCap_le (sz := u.1.length) h2
    refine ⟨⟨?_, g2, by show 0 < zCap 1024 u.2.1 u.1.length; omega⟩, g1⟩
    show (zApp 1024 u.1 v).length ≤ zCap 1024 u.2.1 u.1.length
    unfold zApp zCap
    split
    · rename_i h4
      rw [List.length_append]
      simp only [List.length_cons, List.length_nil]
      split
      · omega
      · rw [if_neg (by omega)]
        omega
    · split
      · omega
      · split <;> omega
theorem zGv_ok {rs : List zRule} {t0 : Nat} : ∀ (l : List Nat) (u : zGs), zGok u → zGok (zGv rs t0 l u) ∧ u.2.1 ≤ (zGv rs t0 l u).2.1
  | [], u, h => ⟨h, Nat.le_refl _⟩
  | v :: l, u, h => by
    obtain ⟨h1, h2⟩ := zG1_ok (rs := rs) (t0 := t0) (v := v) h
    obtain ⟨h3, h4⟩ := zGv_ok (rs := rs) (t0 := t0) l (zG1 rs t0 v u) h1
    exact ⟨h3, Nat.le_trans h2 h4⟩
def zRok (rs : List zRule) : Prop := ∀ i, i < rs.length → (rs.getD i zR0).1 ≤ 31 ∧ (rs.getD i zR0).2.2.2.1 ≤ 1000 ∧ (rs.getD i zR0).2.2.2.2 ≤ 31
theorem RsAt.ok {D : va_G} {kA : Nat → ClassId} {Z : Nat → Prop} {H : Heap} {rf : Nat → Option Nat} {rs : List zRule} {ad : Nat → Nat} (h : RsAt D kA Z H rf rs ad) : zRok rs := fun i hi => by
  obtain ⟨q, -, pa, -, -, -, h1, h2, h3, -⟩ := h i hi
  exact ⟨h1, h2, h3⟩
theorem zFirst_lt {rs : List zRule} {st i : Nat} {ln : List Nat} (h : zFirst rs st ln = some i) : i < rs.length := by
  unfold zFirst at h
  rw [List.findIdx?_eq_some_iff_getElem] at h
  exact h.1
theorem zQok_push {rs : List zRule} {st t0 : Nat} {ln : List Nat} {mq : List (Nat × Nat)} (hr : zRok rs) (h : zQok rs mq) (ht : t0 < 2 ^ 30) : zQok rs (zPush rs t0 mq (zFirst rs st ln)) := by
  cases hf : zFirst rs st ln with
  | none => exact h
  | some i =>
    have hi := zFirst_lt hf
    show zQok rs (if mq.length < 64 then mq ++ [(t0 + (rs.getD i zR0).2.2.2.1, i)] else mq)
    split
    · rename_i hl
      refine ⟨by rw [List.length_append]; simp; omega, fun q hq => ?_⟩
      rcases List.mem_append.mp hq with h1 | h1
      · exact h.2 q h1
      · rw [List.mem_singleton.mp h1]
        exact ⟨hi, by show t0 + (rs.getD i zR0).2.2.2.1 < 2 ^ 31; have := (hr i hi).2.1; omega⟩
    · exact h
theorem zNext_le {rs : List zRule} {st B : Nat} {ln : List Nat} (hr : zRok rs) (hB : 31 ≤ B) (h : st ≤ B) : zNext rs st (zFirst rs st ln) ≤ B := by
  cases hf : zFirst rs st ln with
  | none => exact h
  | some i =>
    have := (hr i (zFirst_lt hf)).2.2
    show (rs.getD i zR0).2.2.2.2 ≤ B
    omega
set_option maxHeartbeats 4000000 in
set_option maxRecDepth 100000 in
/-- PeerLine.giveTapeToPeer() -/
theorem c_Peer_giveTapeToPeer (l : Launch) (D : va_G) (kA : Nat → ClassId) (x tp ln bf tr ru co ct ca : Nat) (hp : Int32) (f : Nat → Int64) (g : Nat → Option Nat) (rf : Nat → Option Nat) (rs : List zRule) (ad : Nat → Nat) (mq : List (Nat × Nat)) (st0 t0 : Nat) (hst : st0 < 2 ^ 30) (ht0 : t0 < 2 ^ 30) (hrs : rs.length ≤ 64) (lr n tpl : Nat) (fl : Nat → Int32) (lns tps : List Nat) (sz0 : Nat) : Met l y_Peer_giveTapeToPeer (Cond.code y_Peer_giveTapeToPeer b_Peer_giveTapeToPeer 3 none :: zTB) { frames := 6, cells := (zGv rs t0 tps (lns, n, st0, mq)).2.1 - n, slots := 3 * ((zGv rs t0 tps (lns, n, st0, mq)).2.1 - n), locals := 148 } (zk_Pc D classes (zTY kA) [.ref x] (fun H => H.size = sz0 ∧ va_P D classes [(x, .inr (5, [.ref tp, .ref ln, .ref bf, .ref tr, .ref ru, .ref co, .int (nI rs.length), .int hp, .int (nI (lns, n, st0, mq).2.2.1), .long (lN t0)])), (co, .inr (1, [.ref ct, .ref ca, .int (nI (zC ad (lns, n, st0, mq).2.2.2).length)])), (ct, .inl ((kA 1), 64, .inr (.inl f))), (ca, .inl ((kA 5), 64, .inr (.inr (.inr (.inr g))))), (ln, .inr (0, [.int (nI 1024), .ref lr, .int (nI (lns, n, st0, mq).1.length)])), (lr, .inl ((kA 0), (lns, n, st0, mq).2.1, .inl fl))] H ∧ va_D (fun _ => True) [(x, .inr (5, [.ref tp, .ref ln, .ref bf, .ref tr, .ref ru, .ref co, .int (nI rs.length), .int hp, .int (nI (lns, n, st0, mq).2.2.1), .long (lN t0)])), (co, .inr (1, [.ref ct, .ref ca, .int (nI (zC ad (lns, n, st0, mq).2.2.2).length)])), (ct, .inl ((kA 1), 64, .inr (.inl f))), (ca, .inl ((kA 5), 64, .inr (.inr (.inr (.inr g))))), (ln, .inr (0, [.int (nI 1024), .ref lr, .int (nI (lns, n, st0, mq).1.length)])), (lr, .inl ((kA 0), (lns, n, st0, mq).2.1, .inl fl))] ∧ va_at D classes (ru, .inl (kA 4, 64, .inr (.inr (.inr (.inr rf))))) H ∧ ¬ (va_A [(x, .inr (5, [.ref tp, .ref ln, .ref bf, .ref tr, .ref ru, .ref co, .int (nI rs.length), .int hp, .int (nI (lns, n, st0, mq).2.2.1), .long (lN t0)])), (co, .inr (1, [.ref ct, .ref ca, .int (nI (zC ad (lns, n, st0, mq).2.2.2).length)])), (ct, .inl ((kA 1), 64, .inr (.inl f))), (ca, .inl ((kA 5), 64, .inr (.inr (.inr (.inr g))))), (ln, .inr (0, [.int (nI 1024), .ref lr, .int (nI (lns, n, st0, mq).1.length)])), (lr, .inl ((kA 0), (lns, n, st0, mq).2.1, .inl fl))] sz0) ru ∧ RsAt D kA (fun q => ¬ (va_A [(x, .inr (5, [.ref tp, .ref ln, .ref bf, .ref tr, .ref ru, .ref co, .int (nI rs.length), .int hp, .int (nI (lns, n, st0, mq).2.2.1), .long (lN t0)])), (co, .inr (1, [.ref ct, .ref ca, .int (nI (zC ad (lns, n, st0, mq).2.2.2).length)])), (ct, .inl ((kA 1), 64, .inr (.inl f))), (ca, .inl ((kA 5), 64, .inr (.inr (.inr (.inr g))))), (ln, .inr (0, [.int (nI 1024), .ref lr, .int (nI (lns, n, st0, mq).1.length)])), (lr, .inl ((kA 0), (lns, n, st0, mq).2.1, .inl fl))] sz0) q) H rf rs ad ∧ zQok rs mq ∧ CoRep (zC ad mq) f g ∧ zBs 1024 n fl lns ∧ BsAt D kA (fun q => ¬ (va_A [(x, .inr (5, [.ref tp, .ref ln, .ref bf, .ref tr, .ref ru, .ref co, .int (nI rs.length), .int hp, .int (nI (lns, n, st0, mq).2.2.1), .long (lN t0)])), (co, .inr (1, [.ref ct, .ref ca, .int (nI (zC ad (lns, n, st0, mq).2.2.2).length)])), (ct, .inl ((kA 1), 64, .inr (.inl f))), (ca, .inl ((kA 5), 64, .inr (.inr (.inr (.inr g))))), (ln, .inr (0, [.int (nI 1024), .ref lr, .int (nI (lns, n, st0, mq).1.length)])), (lr, .inl ((kA 0), (lns, n, st0, mq).2.1, .inl fl))] sz0) q) H tp tpl tps)) (zk_mQ (fun v H => v = none ∧ ∃ f' g' r' fl', va_P D classes [(x, .inr (5, [.ref tp, .ref ln, .ref bf, .ref tr, .ref ru, .ref co, .int (nI rs.length), .int hp, .int (nI (zGv rs t0 tps (lns, n, st0, mq)).2.2.1), .long (lN t0)])), (co, .inr (1, [.ref ct, .ref ca, .int (nI (zC ad (zGv rs t0 tps (lns, n, st0, mq)).2.2.2).length)])), (ct, .inl (kA 1, 64, .inr (.inl f'))), (ca, .inl (kA 5, 64, .inr (.inr (.inr (.inr g'))))), (ln, .inr (0, [.int (nI 1024), .ref r', .int (nI (zGv rs t0 tps (lns, n, st0, mq)).1.length)])), (r', .inl (kA 0, (zGv rs t0 tps (lns, n, st0, mq)).2.1, .inl fl'))] H ∧ va_D (va_A [(x, .inr (5, [.ref tp, .ref ln, .ref bf, .ref tr, .ref ru, .ref co, .int (nI rs.length), .int hp, .int (nI (lns, n, st0, mq).2.2.1), .long (lN t0)])), (co, .inr (1, [.ref ct, .ref ca, .int (nI (zC ad (lns, n, st0, mq).2.2.2).length)])), (ct, .inl ((kA 1), 64, .inr (.inl f))), (ca, .inl ((kA 5), 64, .inr (.inr (.inr (.inr g))))), (ln, .inr (0, [.int (nI 1024), .ref lr, .int (nI (lns, n, st0, mq).1.length)])), (lr, .inl ((kA 0), (lns, n, st0, mq).2.1, .inl fl))] sz0) [(x, .inr (5, [.ref tp, .ref ln, .ref bf, .ref tr, .ref ru, .ref co, .int (nI rs.length), .int hp, .int (nI (zGv rs t0 tps (lns, n, st0, mq)).2.2.1), .long (lN t0)])), (co, .inr (1, [.ref ct, .ref ca, .int (nI (zC ad (zGv rs t0 tps (lns, n, st0, mq)).2.2.2).length)])), (ct, .inl (kA 1, 64, .inr (.inl f'))), (ca, .inl (kA 5, 64, .inr (.inr (.inr (.inr g'))))), (ln, .inr (0, [.int (nI 1024), .ref r', .int (nI (zGv rs t0 tps (lns, n, st0, mq)).1.length)])), (r', .inl (kA 0, (zGv rs t0 tps (lns, n, st0, mq)).2.1, .inl fl'))] ∧ CoRep (zC ad (zGv rs t0 tps (lns, n, st0, mq)).2.2.2) f' g' ∧ zBs 1024 (zGv rs t0 tps (lns, n, st0, mq)).2.1 fl' (zGv rs t0 tps (lns, n, st0, mq)).1) (va_A [(x, .inr (5, [.ref tp, .ref ln, .ref bf, .ref tr, .ref ru, .ref co, .int (nI rs.length), .int hp, .int (nI (lns, n, st0, mq).2.2.1), .long (lN t0)])), (co, .inr (1, [.ref ct, .ref ca, .int (nI (zC ad (lns, n, st0, mq).2.2.2).length)])), (ct, .inl ((kA 1), 64, .inr (.inl f))), (ca, .inl ((kA 5), 64, .inr (.inr (.inr (.inr g))))), (ln, .inr (0, [.int (nI 1024), .ref lr, .int (nI (lns, n, st0, mq).1.length)])), (lr, .inl ((kA 0), (lns, n, st0, mq).2.1, .inl fl))] sz0)) ((zGv rs t0 tps (lns, n, st0, mq)).2.1 - n) (3 * ((zGv rs t0 tps (lns, n, st0, mq)).2.1 - n)) (va_A [(x, .inr (5, [.ref tp, .ref ln, .ref bf, .ref tr, .ref ru, .ref co, .int (nI rs.length), .int hp, .int (nI (lns, n, st0, mq).2.2.1), .long (lN t0)])), (co, .inr (1, [.ref ct, .ref ca, .int (nI (zC ad (lns, n, st0, mq).2.2.2).length)])), (ct, .inl ((kA 1), 64, .inr (.inl f))), (ca, .inl ((kA 5), 64, .inr (.inr (.inr (.inr g))))), (ln, .inr (0, [.int (nI 1024), .ref lr, .int (nI (lns, n, st0, mq).1.length)])), (lr, .inl ((kA 0), (lns, n, st0, mq).2.1, .inl fl))] sz0) := by
  refine zk_of [.ref x] (by decide) (Nat.le_of_ble_eq_true rfl) ?_
  intro p e s m below meth c S hr hlk hnm hK hX hpre ls hl
  obtain ⟨hx, hb, hml, hown, ht⟩ := id S
  have hl : lv_has ls 3 [(0, .ref x)] := hl
  obtain ⟨hsz, hP, hD0, hru, hruA, hrs0, hmq, hrep, hln, htp⟩ := hpre
  subst hsz
  have hD := hD0.self (sz := s.heap.size)
  generalize hAe : va_A [(x, .inr (5, [.ref tp, .ref ln, .ref bf, .ref tr, .ref ru, .ref co, .int (nI rs.length), .int hp, .int (nI (lns, n, st0, mq).2.2.1), .long (lN t0)])), (co, .inr (1, [.ref ct, .ref ca, .int (nI (zC ad (lns, n, st0, mq).2.2.2).length)])), (ct, .inl ((kA 1), 64, .inr (.inl f))), (ca, .inl ((kA 5), 64, .inr (.inr (.inr (.inr g))))), (ln, .inr (0, [.int (nI 1024), .ref lr, .int (nI (lns, n, st0, mq).1.length)])), (lr, .inl ((kA 0), (lns, n, st0, mq).2.1, .inl fl))] s.heap.size = A at hD hruA hrs0 htp ⊢
  have hA : ∀ q : Nat, s.heap.size ≤ q → A q := fun q h => by rw [← hAe]; exact Or.inr h
  have hS : va_S A s.heap s.heap [] := va_S.rf
  have hP : va_P D classes [(x, .inr (5, [.ref tp, .ref ln, .ref bf, .ref tr, .ref ru, .ref co, .int (nI rs.length), .int hp, .int (nI (lns, n, st0, mq).2.2.1), .long (lN t0)])), (co, .inr (1, [.ref ct, .ref ca, .int (nI (zC ad (lns, n, st0, mq).2.2.2).length)])), (ct, .inl ((kA 1), 64, .inr (.inl f))), (ca, .inl ((kA 5), 64, .inr (.inr (.inr (.inr g))))), (ln, .inr (0, [.int (nI 1024), .ref lr, .int (nI (lns, n, st0, mq).1.length)])), (lr, .inl ((kA 0), (lns, n, st0, mq).2.1, .inl fl))] s.heap := hP
  obtain ⟨to, tn, tf, htz1, htz2, htO1, htO2, htO3⟩ := id htp
  obtain ⟨g1, g2, g3, g4, g5⟩ := id htO3
  obtain ⟨h1, h2, h3, h4, h5⟩ := id hln
  have hrok := hrs0.ok
  have hok0 : zGok (lns, n, st0, mq) := ⟨h1, h2, by show 0 < n; omega⟩
  refine lv_iconst (v := 0) hx hb d_Peer_giveTapeToPeer_0 (by decide) ?_
  refine lv_istore_n (lv' := [(1, .int 0), (0, .ref x)]) hx hb d_Peer_giveTapeToPeer_1 rfl hl (by decide) rfl (fun ls hl => ?_)
  have lp : ∀ (fu : Nat) (i : Nat) (u : zGs) (f1 : Nat → Int64) (gg1 : Nat → Option Nat) (r1 : Nat) (fl1 : Nat → Int32), tps.length - i < fu → i ≤ tps.length → u = zGv rs t0 (tps.take i) (lns, n, st0, mq) → u.2.2.1 < 2 ^ 30 → zQok rs u.2.2.2 → CoRep (zC ad u.2.2.2) f1 gg1 → zBs 1024 u.2.1 fl1 u.1 → ∀ (H : Heap) (locs : List Loc), va_P D classes [(x, .inr (5, [.ref tp, .ref ln, .ref bf, .ref tr, .ref ru, .ref co, .int (nI rs.length), .int hp, .int (nI u.2.2.1), .long (lN t0)])), (co, .inr (1, [.ref ct, .ref ca, .int (nI (zC ad u.2.2.2).length)])), (ct, .inl ((kA 1), 64, .inr (.inl f1))), (ca, .inl ((kA 5), 64, .inr (.inr (.inr (.inr gg1))))), (ln, .inr (0, [.int (nI 1024), .ref r1, .int (nI u.1.length)])), (r1, .inl ((kA 0), u.2.1, .inl fl1))] H → va_D A [(x, .inr (5, [.ref tp, .ref ln, .ref bf, .ref tr, .ref ru, .ref co, .int (nI rs.length), .int hp, .int (nI u.2.2.1), .long (lN t0)])), (co, .inr (1, [.ref ct, .ref ca, .int (nI (zC ad u.2.2.2).length)])), (ct, .inl ((kA 1), 64, .inr (.inl f1))), (ca, .inl ((kA 5), 64, .inr (.inr (.inr (.inr gg1))))), (ln, .inr (0, [.int (nI 1024), .ref r1, .int (nI u.1.length)])), (r1, .inl ((kA 0), u.2.1, .inl fl1))] → va_S A s.heap H locs → ∀ ls : Array Slot, lv_has ls 3 [(0, .ref x), (1, .int (nI i))] → W p l e { frames := 6, cells := (zGv rs t0 tps (lns, n, st0, mq)).2.1 - n, slots := 3 * ((zGv rs t0 tps (lns, n, st0, mq)).2.1 - n), locals := 148 } s m [.ref x].toArray below meth c H locs (u.2.1 - n) (3 * (u.2.1 - n)) (MQ below (zk_mQ (fun v H => v = none ∧ ∃ f' g' r' fl', va_P D classes [(x, .inr (5, [.ref tp, .ref ln, .ref bf, .ref tr, .ref ru, .ref co, .int (nI rs.length), .int hp, .int (nI (zGv rs t0 tps (lns, n, st0, mq)).2.2.1), .long (lN t0)])), (co, .inr (1, [.ref ct, .ref ca, .int (nI (zC ad (zGv rs t0 tps (lns, n, st0, mq)).2.2.2).length)])), (ct, .inl (kA 1, 64, .inr (.inl f'))), (ca, .inl (kA 5, 64, .inr (.inr (.inr (.inr g'))))), (ln, .inr (0, [.int (nI 1024), .ref r', .int (nI (zGv rs t0 tps (lns, n, st0, mq)).1.length)])), (r', .inl (kA 0, (zGv rs t0 tps (lns, n, st0, mq)).2.1, .inl fl'))] H ∧ va_D A [(x, .inr (5, [.ref tp, .ref ln, .ref bf, .ref tr, .ref ru, .ref co, .int (nI rs.length), .int hp, .int (nI (zGv rs t0 tps (lns, n, st0, mq)).2.2.1), .long (lN t0)])), (co, .inr (1, [.ref ct, .ref ca, .int (nI (zC ad (zGv rs t0 tps (lns, n, st0, mq)).2.2.2).length)])), (ct, .inl (kA 1, 64, .inr (.inl f'))), (ca, .inl (kA 5, 64, .inr (.inr (.inr (.inr g'))))), (ln, .inr (0, [.int (nI 1024), .ref r', .int (nI (zGv rs t0 tps (lns, n, st0, mq)).1.length)])), (r', .inl (kA 0, (zGv rs t0 tps (lns, n, st0, mq)).2.1, .inl fl'))] ∧ CoRep (zC ad (zGv rs t0 tps (lns, n, st0, mq)).2.2.2) f' g' ∧ zBs 1024 (zGv rs t0 tps (lns, n, st0, mq)).2.1 fl' (zGv rs t0 tps (lns, n, st0, mq)).1) A) [.ref x].toArray s ((zGv rs t0 tps (lns, n, st0, mq)).2.1 - n) (3 * ((zGv rs t0 tps (lns, n, st0, mq)).2.1 - n)) A) (F0 m 2 ls []) := by
    intro fu
    induction fu with
    | zero => intro i u f1 gg1 r1 fl1 hfu; exact absurd hfu (Nat.not_lt_zero _)
    | succ fu ih =>
      intro i u f1 gg1 r1 fl1 hfu hi hu hst1 hmq1 hrep1 hb1 H locs hP hD hS ls hl
      have hun : n ≤ u.2.1 ∧ u.2.1 ≤ (zGv rs t0 tps (lns, n, st0, mq)).2.1 := by
        have h8 := (zGv_ok (rs := rs) (t0 := t0) (tps.take i) _ hok0).2
        have h9 := (zGv_ok (rs := rs) (t0 := t0) (tps.drop i) _ (zGv_ok (rs := rs) (t0 := t0) (tps.take i) _ hok0).1).2
        rw [← zGv_rest, ← hu] at h9
        rw [← hu] at h8
        exact ⟨h8, h9⟩
      refine lv_iload_n hx hb d_Peer_giveTapeToPeer_2 rfl (lv_at hl 1 rfl) ?_
      refine lv_aload_n hx hb d_Peer_giveTapeToPeer_3 rfl (lv_at hl 0 rfl) ?_
      refine zk_get (C := R_Peer) (T := F_Peer) (N := 10) S hK (hP 0 _ rfl) rfl i_Peer 0 (by decide) m_Peer_14 rfl rfl d_Peer_giveTapeToPeer_4 ?_
      refine zk_pure (zk_runV (As := []) (rest := [.int (nI i)]) S m_Peer_121 (c_Bytes_size l D kA (fun q => ¬ A q) tp tpl tps) rfl rfl ⟨Nat.le_of_ble_eq_true rfl, Nat.le_of_ble_eq_true rfl⟩ hK hX (zk_recv hK (zk_ro hS htO1 htz1) rfl) (htp.ro hS) rfl hl.1 rfl (Nat.le_of_ble_eq_true rfl) ⟨by
        show _ + 0 ≤ (zGv rs t0 tps (lns, n, st0, mq)).2.1 - n
        omega, by
        show _ + 0 ≤ 3 * ((zGv rs t0 tps (lns, n, st0, mq)).2.1 - n)
        omega⟩ d_Peer_giveTapeToPeer_7) ?_
      refine lv_icmp_ge (tgt := 56) hx hb d_Peer_giveTapeToPeer_10 (by decide) (fun c10 => ?_) (fun c10 => ?_)
      · have hie : i = tps.length := by
          have := (nI_leI (by omega) (by omega)).mp c10
          omega
        rw [hie, List.take_length] at hu
        rw [← hu]
        exact zk_vret S hr hlk hS ⟨rfl, f1, gg1, r1, fl1, hP.sub [0, 1, 2, 3, 4, 5] rfl, hD.sub [0, 1, 2, 3, 4, 5] (by decide) rfl, hrep1, hb1⟩ (Nat.le_refl _) (Nat.le_refl _) d_Peer_giveTapeToPeer_56
      · have hlt : i < tps.length := Nat.not_le.mp fun z => c10 (nI_le z (by omega))
        have hbv := (g5 i hlt).1
        refine lv_aload_n hx hb d_Peer_giveTapeToPeer_13 rfl (lv_at hl 0 rfl) ?_
        refine zk_get (C := R_Peer) (T := F_Peer) (N := 10) S hK (hP 0 _ rfl) rfl i_Peer 0 (by decide) m_Peer_14 rfl rfl d_Peer_giveTapeToPeer_14 ?_
        refine lv_iload_n hx hb d_Peer_giveTapeToPeer_17 rfl (lv_at hl 1 rfl) ?_
        refine zk_pure (zk_runV (As := [.int (nI i)]) (rest := []) S m_Peer_143 (c_Bytes_at l D kA (fun q => ¬ A q) tp tpl tps (nI i)) rfl rfl ⟨Nat.le_of_ble_eq_true rfl, Nat.le_of_ble_eq_true rfl⟩ hK hX (zk_recv hK (zk_ro hS htO1 htz1) rfl) (htp.ro hS) rfl hl.1 rfl (Nat.le_of_ble_eq_true rfl) ⟨by
          show _ + 0 ≤ (zGv rs t0 tps (lns, n, st0, mq)).2.1 - n
          omega, by
          show _ + 0 ≤ 3 * ((zGv rs t0 tps (lns, n, st0, mq)).2.1 - n)
          omega⟩ d_Peer_giveTapeToPeer_18) ?_
        refine zk_ti (z := nI (tps.getD i 0)) (bAt_nI (by omega) hlt) ?_
        refine lv_istore_n (lv' := [(2, .int (nI (tps.getD i 0))), (0, .ref x), (1, .int (nI i))]) hx hb d_Peer_giveTapeToPeer_21 rfl hl (by decide) rfl (fun ls hl => ?_)
        refine lv_iload_n hx hb d_Peer_giveTapeToPeer_22 rfl (lv_at hl 0 rfl) ?_
        refine lv_bipush (v := 10) hx hb d_Peer_giveTapeToPeer_23 (by decide) ?_
        refine lv_icmp_ne (tgt := 42) hx hb d_Peer_giveTapeToPeer_25 (by decide) (fun c25 => ?_) (fun c25 => ?_)
        · have hv10 : (tps.getD i 0) ≠ 10 := fun z => c25 (by rw [z]; rfl)
          refine lv_aload_n hx hb d_Peer_giveTapeToPeer_42 rfl (lv_at hl 1 rfl) ?_
          refine zk_get (C := R_Peer) (T := F_Peer) (N := 10) S hK (hP 0 _ rfl) rfl i_Peer 1 (by decide) m_Peer_18 rfl rfl d_Peer_giveTapeToPeer_43 ?_
          refine lv_iload_n hx hb d_Peer_giveTapeToPeer_46 rfl (lv_at hl 0 rfl) ?_
          have hg1 : zG1 rs t0 (tps.getD i 0) u = (zApp 1024 u.1 (tps.getD i 0), zCap 1024 u.2.1 u.1.length, u.2.2.1, u.2.2.2) := if_neg hv10
          have hmono : zCap 1024 u.2.1 u.1.length ≤ (zGv rs t0 tps (lns, n, st0, mq)).2.1 := by
            have h9 := (zGv_ok (rs := rs) (t0 := t0) (tps.drop (i + 1)) _ (zGv_ok (rs := rs) (t0 := t0) (tps.take (i + 1)) _ hok0).1).2
            rw [← zGv_rest, zGv_snoc hlt, ← hu, hg1] at h9
            exact h9
          have hge9 := zCap_ge (lim := 1024) hb1.1
          have hFc := va_free (wc := [(ln, .inr (0, [.int (nI 1024), .ref r1, .int (nI u.1.length)])), (r1, .inl ((kA 0), u.2.1, .inl fl1))]) hD hS hA [4, 5] rfl
          refine zk_mut (zk_runV (As := [.int (nI (tps.getD i 0))]) (rest := []) S m_Peer_147 (c_Bytes_append l D kA ln r1 1024 u.2.1 fl1 u.1 (nI (tps.getD i 0)) H.size) rfl rfl ⟨Nat.le_of_ble_eq_true rfl, Nat.le_of_ble_eq_true rfl⟩ hK hX (zk_recv hK (hP 4 _ rfl) rfl) ⟨rfl, hP.sub (ws' := [(ln, .inr (0, [.int (nI 1024), .ref r1, .int (nI u.1.length)])), (r1, .inl ((kA 0), u.2.1, .inl fl1))]) [4, 5] rfl, (hD.sub (ws' := [(ln, .inr (0, [.int (nI 1024), .ref r1, .int (nI u.1.length)])), (r1, .inl ((kA 0), u.2.1, .inl fl1))]) [4, 5] (by decide) rfl).weaken (fun _ _ _ _ => trivial), hb1⟩ rfl hl.1 rfl (Nat.le_of_ble_eq_true rfl) ⟨by
            show _ + (_ - _) ≤ (zGv rs t0 tps (lns, n, st0, mq)).2.1 - n
            omega, by
            show _ + 3 * (_ - _) ≤ 3 * ((zGv rs t0 tps (lns, n, st0, mq)).2.1 - n)
            omega⟩ d_Peer_giveTapeToPeer_47) hS hFc hFc (fun v H locs hpost hz1 hk1 hS => ?_)
          obtain ⟨rfl, r2, fl2, hP1, hD1, hb2⟩ := hpost
          obtain ⟨hP, hD⟩ := va_join (wr := [(x, .inr (5, [.ref tp, .ref ln, .ref bf, .ref tr, .ref ru, .ref co, .int (nI rs.length), .int hp, .int (nI u.2.2.1), .long (lN t0)])), (co, .inr (1, [.ref ct, .ref ca, .int (nI (zC ad u.2.2.2).length)])), (ct, .inl ((kA 1), 64, .inr (.inl f1))), (ca, .inl ((kA 5), 64, .inr (.inr (.inr (.inr gg1)))))]) (w1 := [(ln, .inr (0, [.int (nI 1024), .ref r2, .int (nI (zApp 1024 u.1 (zByte (nI (tps.getD i 0)))).length)])), (r2, .inl ((kA 0), (zCap 1024 u.2.1 u.1.length), .inl fl2))]) hP hD [4, 5] [0, 1, 2, 3] rfl rfl (by decide) (by decide) hk1 hFc hP1 hD1
          refine W.eq (g2 := F0 m 50 ls []) rfl ?_
          have hP : va_P D classes [(x, .inr (5, [.ref tp, .ref ln, .ref bf, .ref tr, .ref ru, .ref co, .int (nI rs.length), .int hp, .int (nI u.2.2.1), .long (lN t0)])), (co, .inr (1, [.ref ct, .ref ca, .int (nI (zC ad u.2.2.2).length)])), (ct, .inl ((kA 1), 64, .inr (.inl f1))), (ca, .inl ((kA 5), 64, .inr (.inr (.inr (.inr gg1))))), (ln, .inr (0, [.int (nI 1024), .ref r2, .int (nI (zApp 1024 u.1 (zByte (nI (tps.getD i 0)))).length)])), (r2, .inl ((kA 0), (zCap 1024 u.2.1 u.1.length), .inl fl2))] H := hP
          have hD : va_D A [(x, .inr (5, [.ref tp, .ref ln, .ref bf, .ref tr, .ref ru, .ref co, .int (nI rs.length), .int hp, .int (nI u.2.2.1), .long (lN t0)])), (co, .inr (1, [.ref ct, .ref ca, .int (nI (zC ad u.2.2.2).length)])), (ct, .inl ((kA 1), 64, .inr (.inl f1))), (ca, .inl ((kA 5), 64, .inr (.inr (.inr (.inr gg1))))), (ln, .inr (0, [.int (nI 1024), .ref r2, .int (nI (zApp 1024 u.1 (zByte (nI (tps.getD i 0)))).length)])), (r2, .inl ((kA 0), (zCap 1024 u.2.1 u.1.length), .inl fl2))] := hD
          rw [zByte_nI hbv] at hP hD hb2
          have hP : va_P D classes [(x, .inr (5, [.ref tp, .ref ln, .ref bf, .ref tr, .ref ru, .ref co, .int (nI rs.length), .int hp, .int (nI u.2.2.1), .long (lN t0)])), (co, .inr (1, [.ref ct, .ref ca, .int (nI (zC ad u.2.2.2).length)])), (ct, .inl ((kA 1), 64, .inr (.inl f1))), (ca, .inl ((kA 5), 64, .inr (.inr (.inr (.inr gg1))))), (ln, .inr (0, [.int (nI 1024), .ref r2, .int (nI (zApp 1024 u.1 (tps.getD i 0)).length)])), (r2, .inl ((kA 0), (zCap 1024 u.2.1 u.1.length), .inl fl2))] H := hP
          have hD : va_D A [(x, .inr (5, [.ref tp, .ref ln, .ref bf, .ref tr, .ref ru, .ref co, .int (nI rs.length), .int hp, .int (nI u.2.2.1), .long (lN t0)])), (co, .inr (1, [.ref ct, .ref ca, .int (nI (zC ad u.2.2.2).length)])), (ct, .inl ((kA 1), 64, .inr (.inl f1))), (ca, .inl ((kA 5), 64, .inr (.inr (.inr (.inr gg1))))), (ln, .inr (0, [.int (nI 1024), .ref r2, .int (nI (zApp 1024 u.1 (tps.getD i 0)).length)])), (r2, .inl ((kA 0), (zCap 1024 u.2.1 u.1.length), .inl fl2))] := hD
          refine W.widen (k := (zCap 1024 u.2.1 u.1.length - n)) (n := (3 * (zCap 1024 u.2.1 u.1.length - n))) (by omega) (by omega) ?_
          refine lv_iinc (v := (nI (i + 1))) (lv' := [(1, .int (nI (i + 1))), (2, .int (nI (tps.getD i 0))), (0, .ref x)]) hx hb d_Peer_giveTapeToPeer_50 hl (k := 2) rfl (nI_1 i) (by decide) rfl (fun ls hl => ?_)
          refine lv_goto (tgt := 2) hx hb d_Peer_giveTapeToPeer_53 (by decide) ?_
          exact ih (i + 1) (zApp 1024 u.1 (tps.getD i 0), zCap 1024 u.2.1 u.1.length, u.2.2.1, u.2.2.2) f1 gg1 r2 fl2 (by omega) (by omega) (by rw [zGv_snoc hlt, ← hu]; exact hg1.symm) hst1 hmq1 hrep1 hb2 _ _ (hP.sub [0, 1, 2, 3, 4, 5] rfl) (hD.sub [0, 1, 2, 3, 4, 5] (by decide) rfl) hS ls (lv_sub hl [2, 0] rfl)
        · have hv10 : (tps.getD i 0) = 10 := (nI_eq (by omega) (by omega)).mp (show nI _ = nI 10 from c25)
          refine lv_aload_n hx hb d_Peer_giveTapeToPeer_28 rfl (lv_at hl 1 rfl) ?_
          have hapl := zk_apart (wc := [(x, .inr (5, [.ref tp, .ref ln, .ref bf, .ref tr, .ref ru, .ref co, .int (nI rs.length), .int hp, .int (nI u.2.2.1), .long (lN t0)])), (co, .inr (1, [.ref ct, .ref ca, .int (nI (zC ad u.2.2.2).length)])), (ct, .inl ((kA 1), 64, .inr (.inl f1))), (ca, .inl ((kA 5), 64, .inr (.inr (.inr (.inr gg1)))))]) hP hD [0, 1, 2, 3] rfl (k := 4) rfl (by decide)
          have hapr := zk_apart (wc := [(x, .inr (5, [.ref tp, .ref ln, .ref bf, .ref tr, .ref ru, .ref co, .int (nI rs.length), .int hp, .int (nI u.2.2.1), .long (lN t0)])), (co, .inr (1, [.ref ct, .ref ca, .int (nI (zC ad u.2.2.2).length)])), (ct, .inl ((kA 1), 64, .inr (.inl f1))), (ca, .inl ((kA 5), 64, .inr (.inr (.inr (.inr gg1)))))]) hP hD [0, 1, 2, 3] rfl (k := 5) rfl (by decide)
          have hFc := va_free (wc := [(x, .inr (5, [.ref tp, .ref ln, .ref bf, .ref tr, .ref ru, .ref co, .int (nI rs.length), .int hp, .int (nI u.2.2.1), .long (lN t0)])), (co, .inr (1, [.ref ct, .ref ca, .int (nI (zC ad u.2.2.2).length)])), (ct, .inl ((kA 1), 64, .inr (.inl f1))), (ca, .inl ((kA 5), 64, .inr (.inr (.inr (.inr gg1)))))]) hD hS hA [0, 1, 2, 3] rfl
          refine zk_mut (zk_runV (As := []) (rest := []) S m_Peer_92 (c_Peer_answerLine l D kA x tp ln bf tr ru co ct ca hp f1 gg1 rf rs ad u.2.2.2 u.2.2.1 t0 (by omega) ht0 hrs 1024 u.1 H.size) rfl rfl ⟨Nat.le_of_ble_eq_true rfl, Nat.le_of_ble_eq_true rfl⟩ hK hX (zk_recv hK (hP 0 _ rfl) rfl) ⟨rfl, hP.sub (ws' := [(x, .inr (5, [.ref tp, .ref ln, .ref bf, .ref tr, .ref ru, .ref co, .int (nI rs.length), .int hp, .int (nI u.2.2.1), .long (lN t0)])), (co, .inr (1, [.ref ct, .ref ca, .int (nI (zC ad u.2.2.2).length)])), (ct, .inl ((kA 1), 64, .inr (.inl f1))), (ca, .inl ((kA 5), 64, .inr (.inr (.inr (.inr gg1)))))]) [0, 1, 2, 3] rfl, (hD.sub (ws' := [(x, .inr (5, [.ref tp, .ref ln, .ref bf, .ref tr, .ref ru, .ref co, .int (nI rs.length), .int hp, .int (nI u.2.2.1), .long (lN t0)])), (co, .inr (1, [.ref ct, .ref ca, .int (nI (zC ad u.2.2.2).length)])), (ct, .inl ((kA 1), 64, .inr (.inl f1))), (ca, .inl ((kA 5), 64, .inr (.inr (.inr (.inr gg1)))))]) [0, 1, 2, 3] (by decide) rfl).weaken (fun _ _ _ _ => trivial), zk_ro hS hru hruA, fun z => hruA (hFc _ z), (hrs0.ro hS).weaken (fun q hq hz => hq (hFc q hz)), hmq1, hrep1, r1, u.2.1, fl1, hapl, hapr, (hP 4 _ rfl), (hP 5 _ rfl), hb1⟩ rfl hl.1 rfl (Nat.le_of_ble_eq_true rfl) ⟨by
            show _ + 0 ≤ (zGv rs t0 tps (lns, n, st0, mq)).2.1 - n
            omega, by
            show _ + 0 ≤ 3 * ((zGv rs t0 tps (lns, n, st0, mq)).2.1 - n)
            omega⟩ d_Peer_giveTapeToPeer_29) hS hFc hFc (fun v H locs hpost hz1 hk1 hS => ?_)
          obtain ⟨rfl, f2, gg2, hP1, hD1, hrep2⟩ := hpost
          obtain ⟨hP, hD⟩ := va_join (wr := [(ln, .inr (0, [.int (nI 1024), .ref r1, .int (nI u.1.length)])), (r1, .inl ((kA 0), u.2.1, .inl fl1))]) (w1 := [(x, .inr (5, [.ref tp, .ref ln, .ref bf, .ref tr, .ref ru, .ref co, .int (nI rs.length), .int hp, .int (nI (zNext rs u.2.2.1 (zFirst rs u.2.2.1 u.1))), .long (lN t0)])), (co, .inr (1, [.ref ct, .ref ca, .int (nI (zC ad (zPush rs t0 u.2.2.2 (zFirst rs u.2.2.1 u.1))).length)])), (ct, .inl ((kA 1), 64, .inr (.inl f2))), (ca, .inl ((kA 5), 64, .inr (.inr (.inr (.inr gg2)))))]) hP hD [0, 1, 2, 3] [4, 5] rfl rfl (by decide) (by decide) hk1 hFc hP1 hD1
          refine W.eq (g2 := F0 m 32 ls []) rfl ?_
          have hP : va_P D classes [(ln, .inr (0, [.int (nI 1024), .ref r1, .int (nI u.1.length)])), (r1, .inl ((kA 0), u.2.1, .inl fl1)), (x, .inr (5, [.ref tp, .ref ln, .ref bf, .ref tr, .ref ru, .ref co, .int (nI rs.length), .int hp, .int (nI (zNext rs u.2.2.1 (zFirst rs u.2.2.1 u.1))), .long (lN t0)])), (co, .inr (1, [.ref ct, .ref ca, .int (nI (zC ad (zPush rs t0 u.2.2.2 (zFirst rs u.2.2.1 u.1))).length)])), (ct, .inl ((kA 1), 64, .inr (.inl f2))), (ca, .inl ((kA 5), 64, .inr (.inr (.inr (.inr gg2)))))] H := hP
          have hD : va_D A [(ln, .inr (0, [.int (nI 1024), .ref r1, .int (nI u.1.length)])), (r1, .inl ((kA 0), u.2.1, .inl fl1)), (x, .inr (5, [.ref tp, .ref ln, .ref bf, .ref tr, .ref ru, .ref co, .int (nI rs.length), .int hp, .int (nI (zNext rs u.2.2.1 (zFirst rs u.2.2.1 u.1))), .long (lN t0)])), (co, .inr (1, [.ref ct, .ref ca, .int (nI (zC ad (zPush rs t0 u.2.2.2 (zFirst rs u.2.2.1 u.1))).length)])), (ct, .inl ((kA 1), 64, .inr (.inl f2))), (ca, .inl ((kA 5), 64, .inr (.inr (.inr (.inr gg2)))))] := hD
          refine lv_aload_n hx hb d_Peer_giveTapeToPeer_32 rfl (lv_at hl 1 rfl) ?_
          refine zk_get (C := R_Peer) (T := F_Peer) (N := 10) S hK (hP 2 _ rfl) rfl i_Peer 1 (by decide) m_Peer_18 rfl rfl d_Peer_giveTapeToPeer_33 ?_
          have hFc := va_free (wc := [(ln, .inr (0, [.int (nI 1024), .ref r1, .int (nI u.1.length)])), (r1, .inl ((kA 0), u.2.1, .inl fl1))]) hD hS hA [0, 1] rfl
          refine zk_mut (zk_runV (As := []) (rest := []) S m_Peer_88 (c_Bytes_clear l D kA ln r1 1024 u.2.1 fl1 u.1 H.size) rfl rfl ⟨Nat.le_of_ble_eq_true rfl, Nat.le_of_ble_eq_true rfl⟩ hK hX (zk_recv hK (hP 0 _ rfl) rfl) ⟨rfl, hP.sub (ws' := [(ln, .inr (0, [.int (nI 1024), .ref r1, .int (nI u.1.length)])), (r1, .inl ((kA 0), u.2.1, .inl fl1))]) [0, 1] rfl, (hD.sub (ws' := [(ln, .inr (0, [.int (nI 1024), .ref r1, .int (nI u.1.length)])), (r1, .inl ((kA 0), u.2.1, .inl fl1))]) [0, 1] (by decide) rfl).weaken (fun _ _ _ _ => trivial), hb1⟩ rfl hl.1 rfl (Nat.le_of_ble_eq_true rfl) ⟨by
            show _ + 0 ≤ (zGv rs t0 tps (lns, n, st0, mq)).2.1 - n
            omega, by
            show _ + 0 ≤ 3 * ((zGv rs t0 tps (lns, n, st0, mq)).2.1 - n)
            omega⟩ d_Peer_giveTapeToPeer_36) hS hFc hFc (fun v H locs hpost hz1 hk1 hS => ?_)
          obtain ⟨rfl, r2, fl2, hP1, hD1, hb2⟩ := hpost
          obtain ⟨hP, hD⟩ := va_join (wr := [(x, .inr (5, [.ref tp, .ref ln, .ref bf, .ref tr, .ref ru, .ref co, .int (nI rs.length), .int hp, .int (nI (zNext rs u.2.2.1 (zFirst rs u.2.2.1 u.1))), .long (lN t0)])), (co, .inr (1, [.ref ct, .ref ca, .int (nI (zC ad (zPush rs t0 u.2.2.2 (zFirst rs u.2.2.1 u.1))).length)])), (ct, .inl ((kA 1), 64, .inr (.inl f2))), (ca, .inl ((kA 5), 64, .inr (.inr (.inr (.inr gg2)))))]) (w1 := [(ln, .inr (0, [.int (nI 1024), .ref r2, .int (nI ([] : List Nat).length)])), (r2, .inl ((kA 0), u.2.1, .inl fl2))]) hP hD [0, 1] [2, 3, 4, 5] rfl rfl (by decide) (by decide) hk1 hFc hP1 hD1
          refine W.eq (g2 := F0 m 39 ls []) rfl ?_
          have hP : va_P D classes [(x, .inr (5, [.ref tp, .ref ln, .ref bf, .ref tr, .ref ru, .ref co, .int (nI rs.length), .int hp, .int (nI (zNext rs u.2.2.1 (zFirst rs u.2.2.1 u.1))), .long (lN t0)])), (co, .inr (1, [.ref ct, .ref ca, .int (nI (zC ad (zPush rs t0 u.2.2.2 (zFirst rs u.2.2.1 u.1))).length)])), (ct, .inl ((kA 1), 64, .inr (.inl f2))), (ca, .inl ((kA 5), 64, .inr (.inr (.inr (.inr gg2))))), (ln, .inr (0, [.int (nI 1024), .ref r2, .int (nI ([] : List Nat).length)])), (r2, .inl ((kA 0), u.2.1, .inl fl2))] H := hP
          have hD : va_D A [(x, .inr (5, [.ref tp, .ref ln, .ref bf, .ref tr, .ref ru, .ref co, .int (nI rs.length), .int hp, .int (nI (zNext rs u.2.2.1 (zFirst rs u.2.2.1 u.1))), .long (lN t0)])), (co, .inr (1, [.ref ct, .ref ca, .int (nI (zC ad (zPush rs t0 u.2.2.2 (zFirst rs u.2.2.1 u.1))).length)])), (ct, .inl ((kA 1), 64, .inr (.inl f2))), (ca, .inl ((kA 5), 64, .inr (.inr (.inr (.inr gg2))))), (ln, .inr (0, [.int (nI 1024), .ref r2, .int (nI ([] : List Nat).length)])), (r2, .inl ((kA 0), u.2.1, .inl fl2))] := hD
          refine lv_goto (tgt := 50) hx hb d_Peer_giveTapeToPeer_39 (by decide) ?_
          refine lv_iinc (v := (nI (i + 1))) (lv' := [(1, .int (nI (i + 1))), (2, .int (nI (tps.getD i 0))), (0, .ref x)]) hx hb d_Peer_giveTapeToPeer_50 hl (k := 2) rfl (nI_1 i) (by decide) rfl (fun ls hl => ?_)
          refine lv_goto (tgt := 2) hx hb d_Peer_giveTapeToPeer_53 (by decide) ?_
          exact ih (i + 1) ([], u.2.1, zNext rs u.2.2.1 (zFirst rs u.2.2.1 u.1), zPush rs t0 u.2.2.2 (zFirst rs u.2.2.1 u.1)) f2 gg2 r2 fl2 (by omega) (by omega) (by rw [zGv_snoc hlt, ← hu]; exact (if_pos hv10).symm) (Nat.lt_of_le_of_lt (zNext_le hrok (B := 2 ^ 30 - 1) (by decide) (by omega)) (by decide)) (zQok_push hrok hmq1 ht0) hrep2 hb2 _ _ (hP.sub [0, 1, 2, 3, 4, 5] rfl) (hD.sub [0, 1, 2, 3, 4, 5] (by decide) rfl) hS ls (lv_sub hl [2, 0] rfl)
  refine W.widen (k := ((lns, n, st0, mq).2.1 - n)) (n := (3 * ((lns, n, st0, mq).2.1 - n))) (Nat.zero_le _) (Nat.zero_le _) ?_
  exact lp (tps.length + 1) 0 (lns, n, st0, mq) f g lr fl (by omega) (Nat.zero_le _) rfl hst hmq hrep hln _ _ (hP.sub [0, 1, 2, 3, 4, 5] rfl) (hD.sub [0, 1, 2, 3, 4, 5] (by decide) rfl) hS ls (lv_sub hl [1, 0] rfl)
