theorem rStep_le (bs : List Nat) (n a : Nat) (h : a < n) : (rStep bs n a).2.2 ≤ n + 1 := by
  have h1 := rSelf_gt bs n a
  have h2 := rSelf_gt bs n ((rSelf bs n a).2 + 1)
  unfold rStep
  split
  · rename_i h3
    show (rSelf bs n ((rSelf bs n a).2 + 1)).2 ≤ n + 1
    have := h3.1
    omega
  · show (rSelf bs n a).2 ≤ n + 1
    omega
theorem rSet_le (bs : List Nat) (n : Nat) : ∀ (k a : Nat), n - a ≤ k → a ≤ n + 1 → (rSet bs n a).2 ≤ n + 2 := by
  intro k
  induction k with
  | zero =>
    intro a h h2
    rw [rSet_end (Or.inl (by omega))]
    show a + 1 ≤ n + 2
    omega
  | succ k ih =>
    intro a h h2
    by_cases h1 : n ≤ a ∨ bs.getD a 0 = 93
    · rw [rSet_end h1]
      show a + 1 ≤ n + 2
      omega
    · have h3 : a < n := Nat.not_le.mp fun z => h1 (Or.inl z)
      rw [rSet_step h3 (fun z => h1 (Or.inr z))]
      have h4 := rStep_gt bs n a
      exact ih (rStep bs n a).2.2 (by omega) (rStep_le bs n a h3)
theorem rItem_le (bs : List Nat) (n a : Nat) (h : a < n) : (rItem bs n a).2 ≤ n + 2 := by
  have h1 := rSelf_gt bs n a
  have h2 := rSet_le bs n n (a + 1) (by omega) (by omega)
  unfold rItem
  split
  · show a + 1 ≤ n + 2
    omega
  · split
    · show a + 1 ≤ n + 2
      omega
    · split
      · exact h2
      · show (rSelf bs n a).2 ≤ n + 2
        omega
def PtInv (its : List pItem) (sf : Nat → Int64) (zf : Nat → Int32) : Prop := (∀ i, i < its.length → (its.getD i none = none → zf i = 1) ∧ ∀ S, its.getD i none = some S → zf i = 0 ∧ ∀ v, v < 256 → zSb sf i v = pIn S v) ∧ ∀ i, its.length ≤ i → zf i = 0 ∧ ∀ v, v < 256 → zSb sf i v = false
theorem PtInv_snoc {its : List pItem} {sf sf' : Nat → Int64} {zf zf' : Nat → Int32} {it : pItem} (h : PtInv its sf zf) (hz : ∀ i, (i ≠ its.length → zf' i = zf i) ∧ (i = its.length → it = none → zf' i = 1) ∧ (i = its.length → it ≠ none → zf' i = zf i)) (hs : ∀ i x, x < 256 → zSb sf' i x = (zSb sf i x || (decide (i = its.length) && pInO it x))) : PtInv (its ++ [it]) sf' zf' := by
  have hs1 : ∀ i x, i ≠ its.length → x < 256 → zSb sf' i x = zSb sf i x := fun i x hi hx => by rw [hs i x hx]; simp [hi]
  refine ⟨fun i hi => ?_, fun i hi => ?_⟩
  · rw [List.length_append] at hi
    simp only [List.length_cons, List.length_nil] at hi
    by_cases hc : i = its.length
    · have e : (its ++ [it]).getD i none = it := by rw [hc, List.getD_eq_getElem?_getD, List.getElem?_append_right (Nat.le_refl _), Nat.sub_self]; rfl
      rw [e]
      refine ⟨fun q => (hz i).2.1 hc q, fun S q => ⟨?_, fun v hv => ?_⟩⟩
      · rw [(hz i).2.2 hc (by rw [q]; exact fun z => by cases z)]
        exact (h.2 i (by omega)).1
      · rw [hs i v hv, (h.2 i (by omega)).2 v hv, q]
        simp [hc, pInO]
    · have e : (its ++ [it]).getD i none = its.getD i none := by rw [List.getD_eq_getElem?_getD, List.getElem?_append_left (by omega), ← List.getD_eq_getElem?_getD]
      rw [e, (hz i).1 hc]
      obtain ⟨h1, h2⟩ := h.1 i (by omega)
      exact ⟨h1, fun S q => ⟨(h2 S q).1, fun v hv => by rw [hs1 i v hc hv]; exact (h2 S q).2 v hv⟩⟩
  · rw [List.length_append] at hi
    simp only [List.length_cons, List.length_nil] at hi
    rw [(hz i).1 (by omega)]
    exact ⟨(h.2 i (by omega)).1, fun v hv => by rw [hs1 i v (by omega) hv]; exact (h.2 i (by omega)).2 v hv⟩
set_option maxHeartbeats 4000000 in
set_option maxRecDepth 100000 in
/-- Pattern(source, length) -/
theorem c_Pattern_init (l : Launch) (D : va_G) (kA : Nat → ClassId) (a o lim n : Nat) (bs : List Nat) (hn : n ≤ bs.length) (hbl : bs.length ≤ 1024) (sz0 : Nat) : Met l y_Pattern_init (Cond.code y_Pattern_init b_Pattern_init 5 none :: zTB) { frames := 5, cells := 3, slots := n * 4 + n + 3, locals := 109 } (zk_Pc D classes (zTY kA) [.ref a, .ref o, .int (nI n)] (fun H => H.size = sz0 ∧ va_P D classes [(a, .inr (2, [.null, .null, .int 0]))] H ∧ va_D (fun _ => True) [(a, .inr (2, [.null, .null, .int 0]))] ∧ BsAt D kA (fun q => ¬ (va_A [(a, .inr (2, [.null, .null, .int 0]))] sz0) q) H o lim bs)) (zk_mQ (fun v H => v = none ∧ ∃ sa za sf zf, va_P D classes [(a, .inr (2, [.ref sa, .ref za, .int (nI (rItems bs n 0).length)])), (sa, .inl (kA 1, n * 4, .inr (.inl sf))), (za, .inl (kA 2, n, .inl zf))] H ∧ va_D (va_A [(a, .inr (2, [.null, .null, .int 0]))] sz0) [(a, .inr (2, [.ref sa, .ref za, .int (nI (rItems bs n 0).length)])), (sa, .inl (kA 1, n * 4, .inr (.inl sf))), (za, .inl (kA 2, n, .inl zf))] ∧ PtRep n sf zf (rItems bs n 0)) (va_A [(a, .inr (2, [.null, .null, .int 0]))] sz0)) 3 (n * 4 + n + 3) (va_A [(a, .inr (2, [.null, .null, .int 0]))] sz0) := by
  refine zk_of [.ref a, .ref o, .int (nI n)] (by decide) (Nat.le_of_ble_eq_true rfl) ?_
  intro p e s m below meth c S hr hlk hnm hK hX hpre ls hl
  obtain ⟨hx, hb, hml, hown, ht⟩ := id S
  have hl : lv_has ls 5 [(0, .ref a), (1, .ref o), (2, .int (nI n))] := hl
  obtain ⟨hsz, hP, hD0, hO⟩ := hpre
  subst hsz
  have hD := hD0.self (sz := s.heap.size)
  generalize hAe : va_A [(a, .inr (2, [.null, .null, .int 0]))] s.heap.size = A at hD hO ⊢
  have hA : ∀ q : Nat, s.heap.size ≤ q → A q := fun q h => by rw [← hAe]; exact Or.inr h
  have hS : va_S A s.heap s.heap [] := va_S.rf
  have hP : va_P D classes [(a, .inr (2, [.null, .null, .int 0]))] s.heap := hP
  obtain ⟨ro, no, fo, hzo1, hzo2, hO1, hO2, hO3⟩ := id hO
  obtain ⟨g1, g2, g3, g4, g5⟩ := id hO3
  have hb256 : ∀ i, i < bs.length → bs.getD i 0 < 256 := fun i hi => (g5 i hi).1
  refine lv_aload_n hx hb d_Pattern_init_0 rfl (lv_at hl 0 rfl) ?_
  refine W.objInit hx hb hown (ht _ m_Pattern_3) (ht _ m_obj_i) (ht _ m_obj_c) rfl (by rw [hml]; exact hl.1) rfl d_Pattern_init_1 (Nat.le_of_ble_eq_true rfl) (Nat.le_of_ble_eq_true rfl) ?_
  refine W.eq (g2 := F0 m 4 ls []) rfl ?_
  refine lv_iconst (v := 0) hx hb d_Pattern_init_4 (by decide) ?_
  refine lv_iload_n hx hb d_Pattern_init_5 rfl (lv_at hl 2 rfl) ?_
  refine lv_aload_n hx hb d_Pattern_init_6 rfl (lv_at hl 1 rfl) ?_
  refine zk_pure (zk_runV (As := []) (rest := [.int (nI n), .int 0]) S m_Pattern_9 (c_Bytes_size l D kA (fun q => ¬ A q) o lim bs) rfl rfl ⟨Nat.le_of_ble_eq_true rfl, Nat.le_of_ble_eq_true rfl⟩ hK hX (zk_recv hK (zk_ro hS hO1 hzo1) rfl) (hO.ro hS) rfl hl.1 rfl (Nat.le_of_ble_eq_true rfl) ⟨Nat.zero_le _, Nat.zero_le _⟩ d_Pattern_init_7) ?_
  refine va_mmin hx hb (by rw [hml]; exact hl.1.symm) hown (ht _ m_Pattern_15) (ht _ m_min_s) (ht _ m_ini_Math) (ht _ m_min_c) (Nat.le_of_ble_eq_true rfl) (Nat.le_of_ble_eq_true rfl) (Nat.zero_le _) (Nat.zero_le _) d_Pattern_init_10 ?_
  refine zk_ti (z := nI n) (if_neg (nI_nlt hn (by omega))) ?_
  refine va_mmax hx hb (by rw [hml]; exact hl.1.symm) hown (ht _ m_Pattern_21) (ht _ m_max_s) (ht _ m_ini_Math) (ht _ m_max_c) (Nat.le_of_ble_eq_true rfl) (Nat.le_of_ble_eq_true rfl) (Nat.zero_le _) (Nat.zero_le _) d_Pattern_init_13 ?_
  refine zk_ti (z := nI n) (by
    by_cases q0 : n = 0
    · rw [q0]; rfl
    · exact if_pos (by rw [← nI_0]; exact nI_lt (by omega) (by omega))) ?_
  refine lv_istore_n (lv' := [(3, .int (nI n)), (0, .ref a), (1, .ref o), (2, .int (nI n))]) hx hb d_Pattern_init_16 rfl hl (by decide) rfl (fun ls hl => ?_)
  refine lv_aload_n hx hb d_Pattern_init_17 rfl (lv_at hl 1 rfl) ?_
  refine lv_iload_n hx hb d_Pattern_init_18 rfl (lv_at hl 0 rfl) ?_
  refine lv_iconst (v := 4) hx hb d_Pattern_init_19 (by decide) ?_
  refine lv_imul hx hb d_Pattern_init_20 ?_
  refine zk_ti (z := nI (n * 4)) (show nI n * nI 4 = _ from pk_mul n 4) ?_
  refine zk_newa (a0 := ((n * 4), .inr (.inl (fun _ => 0)))) (N' := (n * 4)) S m_arr_long rfl (fun _ h => by cases h) hK 1 rfl hP hD hS hA (fun _ => rfl) (nI_pos (by omega)) (nI_clamp (by omega)) (by show (n * 4) * 8 ≤ 536870912; omega) (Nat.le_of_ble_eq_true rfl) (by show 0 + n * 4 ≤ n * 4 + n + 3; omega) d_Pattern_init_21 (fun sa H hP hD hS => ?_)
  have hP : va_P D classes [(a, .inr (2, [.null, .null, .int 0])), (sa, .inl ((kA 1), (n * 4), .inr (.inl (fun _ => 0))))] H := hP
  have hD : va_D A [(a, .inr (2, [.null, .null, .int 0])), (sa, .inl ((kA 1), (n * 4), .inr (.inl (fun _ => 0))))] := hD
  refine va_putF (D := D) (ci := 2) (v := .ref sa) (ty := (.array .long)) (C := R_Pattern) (T := F_Pattern) (N := 3) hx hb ht i_Pattern t_Pattern t_Pattern_ok n_Pattern hown hK hP hD hS 0 rfl rfl 0 (by decide) (ht _ m_Pattern_26) (fun _ h9 => h9) rfl hnm rfl (by decide +kernel) rfl rfl (Nat.le_of_ble_eq_true rfl) d_Pattern_init_23 (fun H locs hP hD hS => ?_)
  have hP : va_P D classes [(a, .inr (2, [.ref sa, .null, .int 0])), (sa, .inl ((kA 1), (n * 4), .inr (.inl (fun _ => 0))))] H := hP
  have hD : va_D A [(a, .inr (2, [.ref sa, .null, .int 0])), (sa, .inl ((kA 1), (n * 4), .inr (.inl (fun _ => 0))))] := hD
  refine lv_aload_n hx hb d_Pattern_init_26 rfl (lv_at hl 1 rfl) ?_
  refine lv_iload_n hx hb d_Pattern_init_27 rfl (lv_at hl 0 rfl) ?_
  refine zk_newa (a0 := (n, .inl (fun _ => 0))) (N' := n) S m_arr_boolean rfl (fun _ h => by cases h) hK 2 rfl hP hD hS hA (fun _ => rfl) (nI_pos (by omega)) (nI_clamp (by omega)) (by show n * 1 ≤ 536870912; omega) (Nat.le_of_ble_eq_true rfl) (by show 0 + n * 4 + n ≤ n * 4 + n + 3; omega) d_Pattern_init_28 (fun za H hP hD hS => ?_)
  have hP : va_P D classes [(a, .inr (2, [.ref sa, .null, .int 0])), (sa, .inl ((kA 1), (n * 4), .inr (.inl (fun _ => 0)))), (za, .inl ((kA 2), n, .inl (fun _ => 0)))] H := hP
  have hD : va_D A [(a, .inr (2, [.ref sa, .null, .int 0])), (sa, .inl ((kA 1), (n * 4), .inr (.inl (fun _ => 0)))), (za, .inl ((kA 2), n, .inl (fun _ => 0)))] := hD
  refine va_putF (D := D) (ci := 2) (v := .ref za) (ty := (.array .boolean)) (C := R_Pattern) (T := F_Pattern) (N := 3) hx hb ht i_Pattern t_Pattern t_Pattern_ok n_Pattern hown hK hP hD hS 0 rfl rfl 1 (by decide) (ht _ m_Pattern_30) (fun _ h9 => h9) rfl hnm rfl (by decide +kernel) rfl rfl (Nat.le_of_ble_eq_true rfl) d_Pattern_init_30 (fun H locs hP hD hS => ?_)
  have hP : va_P D classes [(a, .inr (2, [.ref sa, .ref za, .int 0])), (sa, .inl ((kA 1), (n * 4), .inr (.inl (fun _ => 0)))), (za, .inl ((kA 2), n, .inl (fun _ => 0)))] H := hP
  have hD : va_D A [(a, .inr (2, [.ref sa, .ref za, .int 0])), (sa, .inl ((kA 1), (n * 4), .inr (.inl (fun _ => 0)))), (za, .inl ((kA 2), n, .inl (fun _ => 0)))] := hD
  refine va_new (ci := 3) (fs := [.null, .int 0, .int 0]) (C := R_Reader) (T := F_Reader) (N := 3) hx hb ht i_Reader t_Reader t_Reader_ok hown (ht _ m_Pattern_34) (ht _ m_inst_Reader) (ht _ m_ini_Reader) hK hP hD hS hA rfl (fun j hj => by rcases (show j = 0 ∨ j = 1 ∨ j = 2 by omega) with rfl | rfl | rfl <;> rfl) (Nat.le_of_ble_eq_true rfl) (by show 0 + n * 4 + n + 3 ≤ n * 4 + n + 3; omega) d_Pattern_init_33 (fun rd H hP hD hS => ?_)
  have hP : va_P D classes [(a, .inr (2, [.ref sa, .ref za, .int 0])), (sa, .inl ((kA 1), (n * 4), .inr (.inl (fun _ => 0)))), (za, .inl ((kA 2), n, .inl (fun _ => 0))), (rd, .inr (3, [.null, .int 0, .int 0]))] H := hP
  have hD : va_D A [(a, .inr (2, [.ref sa, .ref za, .int 0])), (sa, .inl ((kA 1), (n * 4), .inr (.inl (fun _ => 0)))), (za, .inl ((kA 2), n, .inl (fun _ => 0))), (rd, .inr (3, [.null, .int 0, .int 0]))] := hD
  refine lv_dup hx hb d_Pattern_init_36 rfl ?_
  refine lv_aload_n hx hb d_Pattern_init_37 rfl (lv_at hl 2 rfl) ?_
  refine lv_iload_n hx hb d_Pattern_init_38 rfl (lv_at hl 0 rfl) ?_
  have hFc := va_free (wc := [(rd, .inr (3, [.null, .int 0, .int 0]))]) hD hS hA [3] rfl
  refine zk_mut (zk_runI (As := [.ref o, .int (nI n)]) (rest := [.ref rd]) S m_Pattern_36 (c_Reader_init l D kA rd o n H.size) rfl rfl ⟨Nat.le_of_ble_eq_true rfl, Nat.le_of_ble_eq_true rfl⟩ hK hX ⟨rfl, hP.sub (ws' := [(rd, .inr (3, [.null, .int 0, .int 0]))]) [3] rfl, (hD.sub (ws' := [(rd, .inr (3, [.null, .int 0, .int 0]))]) [3] (by decide) rfl).weaken (fun _ _ _ _ => trivial)⟩ rfl hl.1 rfl (Nat.le_of_ble_eq_true rfl) ⟨Nat.le_of_ble_eq_true rfl, by show 0 + n * 4 + n + 3 + 0 ≤ n * 4 + n + 3; omega⟩ d_Pattern_init_39) hS hFc hFc (fun v H locs hpost hz1 hk1 hS => ?_)
  obtain ⟨rfl, hP1, hD1⟩ := hpost
  obtain ⟨hP, hD⟩ := va_join (wr := [(a, .inr (2, [.ref sa, .ref za, .int 0])), (sa, .inl ((kA 1), (n * 4), .inr (.inl (fun _ => 0)))), (za, .inl ((kA 2), n, .inl (fun _ => 0)))]) (w1 := [(rd, .inr (3, [.ref o, .int (nI n), .int (nI 0)]))]) hP hD [3] [0, 1, 2] rfl rfl (by decide) (by decide) hk1 hFc hP1 hD1
  refine W.eq (g2 := F0 m 42 ls [.ref rd]) rfl ?_
  have hP : va_P D classes [(a, .inr (2, [.ref sa, .ref za, .int 0])), (sa, .inl ((kA 1), (n * 4), .inr (.inl (fun _ => 0)))), (za, .inl ((kA 2), n, .inl (fun _ => 0))), (rd, .inr (3, [.ref o, .int (nI n), .int (nI 0)]))] H := hP
  have hD : va_D A [(a, .inr (2, [.ref sa, .ref za, .int 0])), (sa, .inl ((kA 1), (n * 4), .inr (.inl (fun _ => 0)))), (za, .inl ((kA 2), n, .inl (fun _ => 0))), (rd, .inr (3, [.ref o, .int (nI n), .int (nI 0)]))] := hD
  refine lv_astore (lv' := [(4, .ref rd), (3, .int (nI n)), (0, .ref a), (1, .ref o), (2, .int (nI n))]) hx hb d_Pattern_init_42 hl (by decide) rfl (fun ls hl => ?_)
  refine lv_aload_n hx hb d_Pattern_init_44 rfl (lv_at hl 2 rfl) ?_
  refine lv_iconst (v := 0) hx hb d_Pattern_init_45 (by decide) ?_
  refine zk_ti (z := nI 0) (rfl) ?_
  refine va_put (D := D) (ci := 2) (v := .int (nI 0)) (ty := .int) (C := R_Pattern) (T := F_Pattern) (N := 3) hx hb ht i_Pattern t_Pattern t_Pattern_ok n_Pattern hown hK hP hD hS 0 rfl rfl 2 (by decide) (ht _ m_Pattern_39) (fun _ h9 => h9) rfl (by decide +kernel) rfl rfl (Nat.le_of_ble_eq_true rfl) d_Pattern_init_46 (fun H locs hP hD hS => ?_)
  have hP : va_P D classes [(a, .inr (2, [.ref sa, .ref za, .int (nI 0)])), (sa, .inl ((kA 1), (n * 4), .inr (.inl (fun _ => 0)))), (za, .inl ((kA 2), n, .inl (fun _ => 0))), (rd, .inr (3, [.ref o, .int (nI n), .int (nI 0)]))] H := hP
  have hD : va_D A [(a, .inr (2, [.ref sa, .ref za, .int (nI 0)])), (sa, .inl ((kA 1), (n * 4), .inr (.inl (fun _ => 0)))), (za, .inl ((kA 2), n, .inl (fun _ => 0))), (rd, .inr (3, [.ref o, .int (nI n), .int (nI 0)]))] := hD
  have lp : ∀ (fu : Nat) (k q : Nat) (s1 : Nat → Int64) (z1 : Nat → Int32) (its : List pItem), n + 3 - q < fu → k ≤ q → q ≤ n + 2 → (rItems bs n 0) = its ++ rItems bs n q → its.length = k → PtInv its s1 z1 → ∀ (H : Heap) (locs : List Loc), va_P D classes [(a, .inr (2, [.ref sa, .ref za, .int (nI k)])), (sa, .inl ((kA 1), (n * 4), .inr (.inl s1))), (za, .inl ((kA 2), n, .inl z1)), (rd, .inr (3, [.ref o, .int (nI n), .int (nI q)]))] H → va_D A [(a, .inr (2, [.ref sa, .ref za, .int (nI k)])), (sa, .inl ((kA 1), (n * 4), .inr (.inl s1))), (za, .inl ((kA 2), n, .inl z1)), (rd, .inr (3, [.ref o, .int (nI n), .int (nI q)]))] → va_S A s.heap H locs → ∀ ls : Array Slot, lv_has ls 5 [(0, .ref a), (3, .int (nI n)), (4, .ref rd)] → W p l e { frames := 5, cells := 3, slots := n * 4 + n + 3, locals := 109 } s m [.ref a, .ref o, .int (nI n)].toArray below meth c H locs 3 (n * 4 + n + 3) (MQ below (zk_mQ (fun v H => v = none ∧ ∃ sa za sf zf, va_P D classes [(a, .inr (2, [.ref sa, .ref za, .int (nI (rItems bs n 0).length)])), (sa, .inl (kA 1, n * 4, .inr (.inl sf))), (za, .inl (kA 2, n, .inl zf))] H ∧ va_D A [(a, .inr (2, [.ref sa, .ref za, .int (nI (rItems bs n 0).length)])), (sa, .inl (kA 1, n * 4, .inr (.inl sf))), (za, .inl (kA 2, n, .inl zf))] ∧ PtRep n sf zf (rItems bs n 0)) A) [.ref a, .ref o, .int (nI n)].toArray s 3 (n * 4 + n + 3) A) (F0 m 49 ls []) := by
    intro fu
    induction fu with
    | zero => intro k q s1 z1 its hfu; exact absurd hfu (Nat.not_lt_zero _)
    | succ fu ih =>
      intro k q s1 z1 its hfu hkq hq hits hlen1 hinv H locs hP hD hS ls hl
      refine lv_aload_n hx hb d_Pattern_init_49 rfl (lv_at hl 0 rfl) ?_
      refine zk_get (C := R_Pattern) (T := F_Pattern) (N := 3) S hK (hP 0 _ rfl) rfl i_Pattern 2 (by decide) m_Pattern_39 rfl rfl d_Pattern_init_50 ?_
      refine lv_iload_n hx hb d_Pattern_init_53 rfl (lv_at hl 1 rfl) ?_
      refine lv_icmp_ge (tgt := 86) hx hb d_Pattern_init_54 (by decide) (fun c54 => ?_) (fun c54 => ?_)
      · have hnp : n ≤ q := by
          have := (nI_leI (by omega) (by omega)).mp c54
          omega
        rw [rItems_end hnp, List.append_nil] at hits
        have hlen : (rItems bs n 0).length = k := by rw [hits]; exact hlen1
        have hil := rItems_len bs n n 0 (by omega)
        exact zk_vret S hr hlk hS ⟨rfl, sa, za, s1, z1, by rw [hlen]; exact hP.sub [0, 1, 2] rfl, by rw [hlen]; exact hD.sub [0, 1, 2] (by decide) rfl, by omega, by omega, by rw [hits]; exact hinv.1⟩ (Nat.le_refl _) (Nat.le_refl _) d_Pattern_init_86
      · have hkn : k < n := Nat.not_le.mp fun z => c54 (nI_le z (by omega))
        refine lv_aload hx hb d_Pattern_init_57 (lv_at hl 2 rfl) ?_
        refine lv_iconst (v := 0) hx hb d_Pattern_init_59 (by decide) ?_
        refine zk_ti (z := nI 0) (rfl) ?_
        refine zk_pure (zk_runV (As := [.int (nI 0)]) (rest := []) S m_Pattern_43 (c_Reader_ahead l D kA (fun q => ¬ A q) rd o lim n q 0 bs hn (by omega) (by omega)) rfl rfl ⟨Nat.le_of_ble_eq_true rfl, Nat.le_of_ble_eq_true rfl⟩ hK hX (zk_recv hK (hP 3 _ rfl) rfl) (⟨(hP 3 _ rfl), hO.ro hS⟩) rfl hl.1 rfl (Nat.le_of_ble_eq_true rfl) ⟨Nat.le_refl _, Nat.le_refl _⟩ d_Pattern_init_60) ?_
        refine lv_iconst (v := (-1)) hx hb d_Pattern_init_63 (by decide) ?_
        refine lv_icmp_eq (tgt := 86) hx hb d_Pattern_init_64 (by decide) (fun c64 => ?_) (fun c64 => ?_)
        · have hnp : n ≤ q := Nat.not_lt.mp fun z => zNe1 (by have := hb256 q (by omega); omega) ((zAh_in z).symm.trans c64)
          rw [rItems_end hnp, List.append_nil] at hits
          have hlen : (rItems bs n 0).length = k := by rw [hits]; exact hlen1
          have hil := rItems_len bs n n 0 (by omega)
          exact zk_vret S hr hlk hS ⟨rfl, sa, za, s1, z1, by rw [hlen]; exact hP.sub [0, 1, 2] rfl, by rw [hlen]; exact hD.sub [0, 1, 2] (by decide) rfl, by omega, by omega, by rw [hits]; exact hinv.1⟩ (Nat.le_refl _) (Nat.le_refl _) d_Pattern_init_86
        · have hqn : q < n := Nat.not_le.mp fun z => c64 (zAh_out z)
          have hgt := rItem_gt bs n q
          have hle := rItem_le bs n q hqn
          refine lv_aload_n hx hb d_Pattern_init_67 rfl (lv_at hl 0 rfl) ?_
          refine lv_aload hx hb d_Pattern_init_68 (lv_at hl 2 rfl) ?_
          have hFc := va_free (wc := [(a, .inr (2, [.ref sa, .ref za, .int (nI k)])), (sa, .inl ((kA 1), (n * 4), .inr (.inl s1))), (za, .inl ((kA 2), n, .inl z1)), (rd, .inr (3, [.ref o, .int (nI n), .int (nI q)]))]) hD hS hA [0, 1, 2, 3] rfl
          refine zk_mut (zk_runV (As := [.ref rd]) (rest := []) S m_Pattern_47 (c_Pattern_readItem l D kA a sa za n k rd o lim n q s1 z1 bs hkn (by omega) (Nat.le_refl _) hn hqn H.size) rfl rfl ⟨Nat.le_of_ble_eq_true rfl, Nat.le_of_ble_eq_true rfl⟩ hK hX (zk_recv hK (hP 0 _ rfl) rfl) ⟨rfl, hP.sub (ws' := [(a, .inr (2, [.ref sa, .ref za, .int (nI k)])), (sa, .inl ((kA 1), (n * 4), .inr (.inl s1))), (za, .inl ((kA 2), n, .inl z1)), (rd, .inr (3, [.ref o, .int (nI n), .int (nI q)]))]) [0, 1, 2, 3] rfl, (hD.sub (ws' := [(a, .inr (2, [.ref sa, .ref za, .int (nI k)])), (sa, .inl ((kA 1), (n * 4), .inr (.inl s1))), (za, .inl ((kA 2), n, .inl z1)), (rd, .inr (3, [.ref o, .int (nI n), .int (nI q)]))]) [0, 1, 2, 3] (by decide) rfl).weaken (fun _ _ _ _ => trivial), ((hO.ro hS).weaken (fun q hq hz => hq (hFc q hz)))⟩ rfl hl.1 rfl (Nat.le_of_ble_eq_true rfl) ⟨Nat.le_refl _, Nat.le_refl _⟩ d_Pattern_init_70) hS hFc hFc (fun v H locs hpost hz1 hk1 hS => ?_)
          obtain ⟨rfl, s2, z2, hP1, hD1, hzz, hss⟩ := hpost
          obtain ⟨hP, hD⟩ := va_join (wr := []) (w1 := [(a, .inr (2, [.ref sa, .ref za, .int (nI k)])), (sa, .inl ((kA 1), (n * 4), .inr (.inl s2))), (za, .inl ((kA 2), n, .inl z2)), (rd, .inr (3, [.ref o, .int (nI n), .int (nI ((rItem bs n q).2))]))]) hP hD [0, 1, 2, 3] [] rfl rfl (by decide) (by decide) hk1 hFc hP1 hD1
          refine W.eq (g2 := F0 m 73 ls []) rfl ?_
          have hP : va_P D classes [(a, .inr (2, [.ref sa, .ref za, .int (nI k)])), (sa, .inl ((kA 1), (n * 4), .inr (.inl s2))), (za, .inl ((kA 2), n, .inl z2)), (rd, .inr (3, [.ref o, .int (nI n), .int (nI ((rItem bs n q).2))]))] H := hP
          have hD : va_D A [(a, .inr (2, [.ref sa, .ref za, .int (nI k)])), (sa, .inl ((kA 1), (n * 4), .inr (.inl s2))), (za, .inl ((kA 2), n, .inl z2)), (rd, .inr (3, [.ref o, .int (nI n), .int (nI ((rItem bs n q).2))]))] := hD
          refine lv_aload_n hx hb d_Pattern_init_73 rfl (lv_at hl 0 rfl) ?_
          refine lv_dup hx hb d_Pattern_init_74 rfl ?_
          refine zk_get (C := R_Pattern) (T := F_Pattern) (N := 3) S hK (hP 0 _ rfl) rfl i_Pattern 2 (by decide) m_Pattern_39 rfl rfl d_Pattern_init_75 ?_
          refine lv_iconst (v := 1) hx hb d_Pattern_init_78 (by decide) ?_
          refine lv_iadd hx hb d_Pattern_init_79 ?_
          refine zk_ti (z := nI (k + 1)) (nI_1 k) ?_
          refine va_put (D := D) (ci := 2) (v := .int (nI (k + 1))) (ty := .int) (C := R_Pattern) (T := F_Pattern) (N := 3) hx hb ht i_Pattern t_Pattern t_Pattern_ok n_Pattern hown hK hP hD hS 0 rfl rfl 2 (by decide) (ht _ m_Pattern_39) (fun _ h9 => h9) rfl (by decide +kernel) rfl rfl (Nat.le_of_ble_eq_true rfl) d_Pattern_init_80 (fun H locs hP hD hS => ?_)
          have hP : va_P D classes [(a, .inr (2, [.ref sa, .ref za, .int (nI (k + 1))])), (sa, .inl ((kA 1), (n * 4), .inr (.inl s2))), (za, .inl ((kA 2), n, .inl z2)), (rd, .inr (3, [.ref o, .int (nI n), .int (nI ((rItem bs n q).2))]))] H := hP
          have hD : va_D A [(a, .inr (2, [.ref sa, .ref za, .int (nI (k + 1))])), (sa, .inl ((kA 1), (n * 4), .inr (.inl s2))), (za, .inl ((kA 2), n, .inl z2)), (rd, .inr (3, [.ref o, .int (nI n), .int (nI ((rItem bs n q).2))]))] := hD
          refine lv_goto (tgt := 49) hx hb d_Pattern_init_83 (by decide) ?_
          exact ih (k + 1) (rItem bs n q).2 s2 z2 (its ++ [(rItem bs n q).1]) (by omega) (by omega) (by omega) (by rw [hits, rItems_step hqn, List.append_assoc]; rfl) (by rw [List.length_append]; simp [hlen1]) (PtInv_snoc hinv (by rw [hlen1]; exact hzz) (by rw [hlen1]; exact hss)) _ _ (hP.sub [0, 1, 2, 3] rfl) (hD.sub [0, 1, 2, 3] (by decide) rfl) hS ls (lv_sub hl [0, 1, 2] rfl)
  refine W.widen (k := 3) (n := (n * 4 + n + 3)) (by decide) (by omega) ?_
  exact lp (n + 4) 0 0 (fun _ => 0) (fun _ => 0) [] (by omega) (Nat.le_refl _) (by omega) rfl rfl ⟨fun i hi => absurd hi (Nat.not_lt_zero i), fun i _ => ⟨rfl, fun v _ => zSb_0⟩⟩ _ _ (hP.sub [0, 1, 2, 3] rfl) (hD.sub [0, 1, 2, 3] (by decide) rfl) hS ls (lv_sub hl [2, 1, 0] rfl)
