set_option maxHeartbeats 4000000 in
set_option maxRecDepth 100000 in
/-- Coming.add(when, answer) -/
theorem c_Coming_add (l : Launch) (D : va_G) (kA : Nat → ClassId) (a tm an : Nat) (f : Nat → Int64) (g : Nat → Option Nat) (cq : List (Nat × Nat)) (t b lb : Nat) (bb : List Nat) (htt : t < 2 ^ 31) (hl64 : cq.length ≤ 64) (sz0 : Nat) : Met l y_Coming_add (Cond.code y_Coming_add b_Coming_add 5 none :: zTB) { frames := 0, cells := 0, slots := 0, locals := 0 } (zk_Pc D classes (zTY kA) [.ref a, .long (lN t), .ref b] (fun H => H.size = sz0 ∧ va_P D classes [(a, .inr (1, [.ref tm, .ref an, .int (nI cq.length)])), (tm, .inl ((kA 1), 64, .inr (.inl f))), (an, .inl ((kA 5), 64, .inr (.inr (.inr (.inr g)))))] H ∧ va_D (fun _ => True) [(a, .inr (1, [.ref tm, .ref an, .int (nI cq.length)])), (tm, .inl ((kA 1), 64, .inr (.inl f))), (an, .inl ((kA 5), 64, .inr (.inr (.inr (.inr g)))))] ∧ CoRep cq f g ∧ CoOk D kA (fun q => ¬ (va_A [(a, .inr (1, [.ref tm, .ref an, .int (nI cq.length)])), (tm, .inl ((kA 1), 64, .inr (.inl f))), (an, .inl ((kA 5), 64, .inr (.inr (.inr (.inr g)))))] sz0) q) H cq ∧ BsAt D kA (fun q => ¬ (va_A [(a, .inr (1, [.ref tm, .ref an, .int (nI cq.length)])), (tm, .inl ((kA 1), 64, .inr (.inl f))), (an, .inl ((kA 5), 64, .inr (.inr (.inr (.inr g)))))] sz0) q) H b lb bb)) (zk_mQ (fun v H => v = none ∧ ((64 ≤ cq.length ∧ CoPost D kA (va_A [(a, .inr (1, [.ref tm, .ref an, .int (nI cq.length)])), (tm, .inl ((kA 1), 64, .inr (.inl f))), (an, .inl ((kA 5), 64, .inr (.inr (.inr (.inr g)))))] sz0) H a tm an cq) ∨ (cq.length < 64 ∧ ∃ p, p ≤ cq.length ∧ (∀ j, p ≤ j → j < cq.length → t < (cq.getD j (0, 0)).1) ∧ (p = 0 ∨ (cq.getD (p - 1) (0, 0)).1 ≤ t) ∧ CoPost D kA (va_A [(a, .inr (1, [.ref tm, .ref an, .int (nI cq.length)])), (tm, .inl ((kA 1), 64, .inr (.inl f))), (an, .inl ((kA 5), 64, .inr (.inr (.inr (.inr g)))))] sz0) H a tm an (cq.take p ++ (t, b) :: cq.drop p)))) (va_A [(a, .inr (1, [.ref tm, .ref an, .int (nI cq.length)])), (tm, .inl ((kA 1), 64, .inr (.inl f))), (an, .inl ((kA 5), 64, .inr (.inr (.inr (.inr g)))))] sz0)) 0 0 (va_A [(a, .inr (1, [.ref tm, .ref an, .int (nI cq.length)])), (tm, .inl ((kA 1), 64, .inr (.inl f))), (an, .inl ((kA 5), 64, .inr (.inr (.inr (.inr g)))))] sz0) := by
  refine zk_of [.ref a, .long (lN t), .ref b] (by decide) (Nat.le_of_ble_eq_true rfl) ?_
  intro p e s m below meth c S hr hlk hnm hK hX hpre ls hl
  obtain ⟨hx, hb, hml, hown, ht⟩ := id S
  have hl : lv_has ls 5 [(0, .ref a), (1, .long (lN t)), (3, .ref b)] := hl
  obtain ⟨hsz, hP, hD0, hrep, hok, hB⟩ := hpre
  subst hsz
  have hD := hD0.self (sz := s.heap.size)
  generalize hAe : va_A [(a, .inr (1, [.ref tm, .ref an, .int (nI cq.length)])), (tm, .inl ((kA 1), 64, .inr (.inl f))), (an, .inl ((kA 5), 64, .inr (.inr (.inr (.inr g)))))] s.heap.size = A at hD hok hB ⊢
  have hA : ∀ q : Nat, s.heap.size ≤ q → A q := fun q h => by rw [← hAe]; exact Or.inr h
  have hS : va_S A s.heap s.heap [] := va_S.rf
  have hP : va_P D classes [(a, .inr (1, [.ref tm, .ref an, .int (nI cq.length)])), (tm, .inl ((kA 1), 64, .inr (.inl f))), (an, .inl ((kA 5), 64, .inr (.inr (.inr (.inr g)))))] s.heap := hP
  refine lv_aload_n hx hb d_Coming_add_0 rfl (lv_at hl 0 rfl) ?_
  refine zk_get (C := R_Coming) (T := F_Coming) (N := 3) S hK (hP 0 _ rfl) rfl i_Coming 2 (by decide) m_Coming_21 rfl rfl d_Coming_add_1 ?_
  refine lv_bipush (v := 64) hx hb d_Coming_add_4 (by decide) ?_
  refine lv_icmp_lt (tgt := 10) hx hb d_Coming_add_6 (by decide) (fun c6 => ?_) (fun c6 => ?_)
  · have hlt : cq.length < 64 := (nI_ltI (by omega) (by omega)).mp (show nI cq.length < nI 64 from c6)
    refine lv_aload_n hx hb d_Coming_add_10 rfl (lv_at hl 0 rfl) ?_
    refine zk_get (C := R_Coming) (T := F_Coming) (N := 3) S hK (hP 0 _ rfl) rfl i_Coming 2 (by decide) m_Coming_21 rfl rfl d_Coming_add_11 ?_
    refine lv_istore (lv' := [(4, .int (nI cq.length)), (0, .ref a), (1, .long (lN t)), (3, .ref b)]) hx hb d_Coming_add_14 hl (by decide) rfl (fun ls hl => ?_)
    have lp : ∀ (fu : Nat) (q : Nat) (f1 : Nat → Int64) (g1 : Nat → Option Nat), q < fu → q ≤ cq.length → (∀ j, j < q → f1 j = f j ∧ g1 j = g j) → (∀ j, q < j → j ≤ cq.length → f1 j = f (j - 1) ∧ g1 j = g (j - 1)) → (∀ j, q ≤ j → j < cq.length → t < (cq.getD j (0, 0)).1) → ∀ (H : Heap) (locs : List Loc), va_P D classes [(a, .inr (1, [.ref tm, .ref an, .int (nI cq.length)])), (tm, .inl ((kA 1), 64, .inr (.inl f1))), (an, .inl ((kA 5), 64, .inr (.inr (.inr (.inr g1)))))] H → va_D A [(a, .inr (1, [.ref tm, .ref an, .int (nI cq.length)])), (tm, .inl ((kA 1), 64, .inr (.inl f1))), (an, .inl ((kA 5), 64, .inr (.inr (.inr (.inr g1)))))] → va_S A s.heap H locs → ∀ ls : Array Slot, lv_has ls 5 [(0, .ref a), (1, .long (lN t)), (3, .ref b), (4, .int (nI q))] → W p l e { frames := 0, cells := 0, slots := 0, locals := 0 } s m [.ref a, .long (lN t), .ref b].toArray below meth c H locs 0 0 (MQ below (zk_mQ (fun v H => v = none ∧ ((64 ≤ cq.length ∧ CoPost D kA A H a tm an cq) ∨ (cq.length < 64 ∧ ∃ p, p ≤ cq.length ∧ (∀ j, p ≤ j → j < cq.length → t < (cq.getD j (0, 0)).1) ∧ (p = 0 ∨ (cq.getD (p - 1) (0, 0)).1 ≤ t) ∧ CoPost D kA A H a tm an (cq.take p ++ (t, b) :: cq.drop p)))) A) [.ref a, .long (lN t), .ref b].toArray s 0 0 A) (F0 m 16 ls []) := by
      intro fu
      induction fu with
      | zero => intro q f1 g1 hn; exact absurd hn (Nat.not_lt_zero _)
      | succ fu ih =>
        intro q f1 g1 hn hp hlo hhi hgt H locs hP hD hS ls hl
        refine lv_iload hx hb d_Coming_add_16 (lv_at hl 3 rfl) ?_
        refine lv_if_le (tgt := 73) hx hb d_Coming_add_18 (by decide) (fun c18 => ?_) (fun c18 => ?_)
        · have q0 : q = 0 := by
            by_cases z : q = 0
            · exact z
            · exact absurd c18 (nI_nle (by omega) (by omega))
          refine lv_aload_n hx hb d_Coming_add_73 rfl (lv_at hl 0 rfl) ?_
          refine zk_get (C := R_Coming) (T := F_Coming) (N := 3) S hK (hP 0 _ rfl) rfl i_Coming 0 (by decide) m_Coming_9 rfl rfl d_Coming_add_74 ?_
          refine lv_iload hx hb d_Coming_add_77 (lv_at hl 3 rfl) ?_
          refine lv_lload_n hx hb d_Coming_add_79 rfl (lv_at hl 1 rfl) ?_
          refine va_last hx hb hK hP hD hS 1 1 rfl rfl (vp_in_nI (by omega) (by omega)) d_Coming_add_80 (fun H locs hP hD hS => ?_)
          rw [nI_clamp (by omega)] at hP hD
          have hP : va_P D classes [(a, .inr (1, [.ref tm, .ref an, .int (nI cq.length)])), (tm, .inl ((kA 1), 64, .inr (.inl (vp_updL f1 q (lN t))))), (an, .inl ((kA 5), 64, .inr (.inr (.inr (.inr g1)))))] H := hP
          have hD : va_D A [(a, .inr (1, [.ref tm, .ref an, .int (nI cq.length)])), (tm, .inl ((kA 1), 64, .inr (.inl (vp_updL f1 q (lN t))))), (an, .inl ((kA 5), 64, .inr (.inr (.inr (.inr g1)))))] := hD
          refine lv_aload_n hx hb d_Coming_add_81 rfl (lv_at hl 0 rfl) ?_
          refine zk_get (C := R_Coming) (T := F_Coming) (N := 3) S hK (hP 0 _ rfl) rfl i_Coming 1 (by decide) m_Coming_17 rfl rfl d_Coming_add_82 ?_
          refine lv_iload hx hb d_Coming_add_85 (lv_at hl 3 rfl) ?_
          refine lv_aload_n hx hb d_Coming_add_87 rfl (lv_at hl 2 rfl) ?_
          refine va_astqM hx hb hK hP hD hS 2 5 rfl rfl ((hB.ro hS).any hK) (vp_in_nI (by omega) (by omega)) d_Coming_add_88 (fun H locs hP hD hS => ?_)
          rw [nI_clamp (by omega)] at hP hD
          have hP : va_P D classes [(a, .inr (1, [.ref tm, .ref an, .int (nI cq.length)])), (tm, .inl ((kA 1), 64, .inr (.inl (vp_updL f1 q (lN t))))), (an, .inl ((kA 5), 64, .inr (.inr (.inr (.inr (va_up g1 q (some b)))))))] H := hP
          have hD : va_D A [(a, .inr (1, [.ref tm, .ref an, .int (nI cq.length)])), (tm, .inl ((kA 1), 64, .inr (.inl (vp_updL f1 q (lN t))))), (an, .inl ((kA 5), 64, .inr (.inr (.inr (.inr (va_up g1 q (some b)))))))] := hD
          refine lv_aload_n hx hb d_Coming_add_89 rfl (lv_at hl 0 rfl) ?_
          refine lv_dup hx hb d_Coming_add_90 rfl ?_
          refine zk_get (C := R_Coming) (T := F_Coming) (N := 3) S hK (hP 0 _ rfl) rfl i_Coming 2 (by decide) m_Coming_21 rfl rfl d_Coming_add_91 ?_
          refine lv_iconst (v := 1) hx hb d_Coming_add_94 (by decide) ?_
          refine lv_iadd hx hb d_Coming_add_95 ?_
          refine zk_ti (z := nI (cq.length + 1)) (nI_1 _) ?_
          refine va_put (D := D) (ci := 1) (v := .int (nI (cq.length + 1))) (ty := .int) (C := R_Coming) (T := F_Coming) (N := 3) hx hb ht i_Coming t_Coming t_Coming_ok n_Coming hown hK hP hD hS 0 rfl rfl 2 (by decide) (ht _ m_Coming_21) (fun _ h9 => h9) rfl (by decide +kernel) rfl rfl (Nat.le_of_ble_eq_true rfl) d_Coming_add_96 (fun H locs hP hD hS => ?_)
          have hP : va_P D classes [(a, .inr (1, [.ref tm, .ref an, .int (nI (cq.length + 1))])), (tm, .inl ((kA 1), 64, .inr (.inl (vp_updL f1 q (lN t))))), (an, .inl ((kA 5), 64, .inr (.inr (.inr (.inr (va_up g1 q (some b)))))))] H := hP
          have hD : va_D A [(a, .inr (1, [.ref tm, .ref an, .int (nI (cq.length + 1))])), (tm, .inl ((kA 1), 64, .inr (.inl (vp_updL f1 q (lN t))))), (an, .inl ((kA 5), 64, .inr (.inr (.inr (.inr (va_up g1 q (some b)))))))] := hD
          have hrep2 : CoRep (cq.take q ++ (t, b) :: cq.drop q) (vp_updL f1 q (lN t)) (va_up g1 q (some b)) := by
            intro i hi
            rw [zIns_len hp] at hi
            rw [zIns_get hp]
            by_cases e1 : i < q
            · rw [if_pos e1, pk_uLn (by omega), va_up_ne _ _ (by omega), (hlo i e1).1, (hlo i e1).2]; exact hrep i (by omega)
            · by_cases e2 : i = q
              · rw [if_neg e1, if_pos e2, e2, pk_uLs, va_up_self]; exact ⟨rfl, rfl⟩
              · rw [if_neg e1, if_neg e2, pk_uLn e2, va_up_ne _ _ e2, (hhi i (by omega) (by omega)).1, (hhi i (by omega) (by omega)).2]; exact hrep (i - 1) (by omega)
          exact zk_vret S hr hlk hS ⟨rfl, Or.inr ⟨hlt, q, hp, hgt, Or.inl q0, _, _, by unfold wC; rw [zIns_len hp]; exact hP, by unfold wC; rw [zIns_len hp]; exact hD, hrep2⟩⟩ (Nat.le_refl _) (Nat.le_refl _) d_Coming_add_99
        · have q0 : 0 < q := by
            by_cases z : q = 0
            · exact absurd (show nI q ≤ 0 by rw [z]; decide) c18
            · omega
          obtain ⟨hk1, lbk, bbk, hbk⟩ := hok (q - 1) (by omega)
          refine lv_aload_n hx hb d_Coming_add_21 rfl (lv_at hl 0 rfl) ?_
          refine zk_get (C := R_Coming) (T := F_Coming) (N := 3) S hK (hP 0 _ rfl) rfl i_Coming 0 (by decide) m_Coming_9 rfl rfl d_Coming_add_22 ?_
          refine lv_iload hx hb d_Coming_add_25 (lv_at hl 3 rfl) ?_
          refine lv_iconst (v := 1) hx hb d_Coming_add_27 (by decide) ?_
          refine lv_isub hx hb d_Coming_add_28 ?_
          refine zk_ti (z := nI (q - 1)) (by rw [show (1 : Int32) = nI 1 from rfl]; exact pk_sub (by omega)) ?_
          refine zk_lald S hK 1 (hP 1 _ rfl) rfl (vp_in_nI (by omega) (by omega)) d_Coming_add_29 ?_
          refine zk_tl (z := lN (cq.getD (q - 1) (0, 0)).1) (by rw [nI_clamp (by omega), (hlo (q - 1) (by omega)).1]; exact (hrep (q - 1) (by omega)).1) ?_
          refine lv_lload_n hx hb d_Coming_add_30 rfl (lv_at hl 1 rfl) ?_
          refine W.lcmp hx hb d_Coming_add_31 ?_
          refine lv_if_le (tgt := 73) hx hb d_Coming_add_32 (by decide) (fun c32 => ?_) (fun c32 => ?_)
          · have hle : (cq.getD (q - 1) (0, 0)).1 ≤ t := (lN_le (by omega) (by omega)).mp ((lg_cmp_le _ _).mp c32)
            refine lv_aload_n hx hb d_Coming_add_73 rfl (lv_at hl 0 rfl) ?_
            refine zk_get (C := R_Coming) (T := F_Coming) (N := 3) S hK (hP 0 _ rfl) rfl i_Coming 0 (by decide) m_Coming_9 rfl rfl d_Coming_add_74 ?_
            refine lv_iload hx hb d_Coming_add_77 (lv_at hl 3 rfl) ?_
            refine lv_lload_n hx hb d_Coming_add_79 rfl (lv_at hl 1 rfl) ?_
            refine va_last hx hb hK hP hD hS 1 1 rfl rfl (vp_in_nI (by omega) (by omega)) d_Coming_add_80 (fun H locs hP hD hS => ?_)
            rw [nI_clamp (by omega)] at hP hD
            have hP : va_P D classes [(a, .inr (1, [.ref tm, .ref an, .int (nI cq.length)])), (tm, .inl ((kA 1), 64, .inr (.inl (vp_updL f1 q (lN t))))), (an, .inl ((kA 5), 64, .inr (.inr (.inr (.inr g1)))))] H := hP
            have hD : va_D A [(a, .inr (1, [.ref tm, .ref an, .int (nI cq.length)])), (tm, .inl ((kA 1), 64, .inr (.inl (vp_updL f1 q (lN t))))), (an, .inl ((kA 5), 64, .inr (.inr (.inr (.inr g1)))))] := hD
            refine lv_aload_n hx hb d_Coming_add_81 rfl (lv_at hl 0 rfl) ?_
            refine zk_get (C := R_Coming) (T := F_Coming) (N := 3) S hK (hP 0 _ rfl) rfl i_Coming 1 (by decide) m_Coming_17 rfl rfl d_Coming_add_82 ?_
            refine lv_iload hx hb d_Coming_add_85 (lv_at hl 3 rfl) ?_
            refine lv_aload_n hx hb d_Coming_add_87 rfl (lv_at hl 2 rfl) ?_
            refine va_astqM hx hb hK hP hD hS 2 5 rfl rfl ((hB.ro hS).any hK) (vp_in_nI (by omega) (by omega)) d_Coming_add_88 (fun H locs hP hD hS => ?_)
            rw [nI_clamp (by omega)] at hP hD
            have hP : va_P D classes [(a, .inr (1, [.ref tm, .ref an, .int (nI cq.length)])), (tm, .inl ((kA 1), 64, .inr (.inl (vp_updL f1 q (lN t))))), (an, .inl ((kA 5), 64, .inr (.inr (.inr (.inr (va_up g1 q (some b)))))))] H := hP
            have hD : va_D A [(a, .inr (1, [.ref tm, .ref an, .int (nI cq.length)])), (tm, .inl ((kA 1), 64, .inr (.inl (vp_updL f1 q (lN t))))), (an, .inl ((kA 5), 64, .inr (.inr (.inr (.inr (va_up g1 q (some b)))))))] := hD
            refine lv_aload_n hx hb d_Coming_add_89 rfl (lv_at hl 0 rfl) ?_
            refine lv_dup hx hb d_Coming_add_90 rfl ?_
            refine zk_get (C := R_Coming) (T := F_Coming) (N := 3) S hK (hP 0 _ rfl) rfl i_Coming 2 (by decide) m_Coming_21 rfl rfl d_Coming_add_91 ?_
            refine lv_iconst (v := 1) hx hb d_Coming_add_94 (by decide) ?_
            refine lv_iadd hx hb d_Coming_add_95 ?_
            refine zk_ti (z := nI (cq.length + 1)) (nI_1 _) ?_
            refine va_put (D := D) (ci := 1) (v := .int (nI (cq.length + 1))) (ty := .int) (C := R_Coming) (T := F_Coming) (N := 3) hx hb ht i_Coming t_Coming t_Coming_ok n_Coming hown hK hP hD hS 0 rfl rfl 2 (by decide) (ht _ m_Coming_21) (fun _ h9 => h9) rfl (by decide +kernel) rfl rfl (Nat.le_of_ble_eq_true rfl) d_Coming_add_96 (fun H locs hP hD hS => ?_)
            have hP : va_P D classes [(a, .inr (1, [.ref tm, .ref an, .int (nI (cq.length + 1))])), (tm, .inl ((kA 1), 64, .inr (.inl (vp_updL f1 q (lN t))))), (an, .inl ((kA 5), 64, .inr (.inr (.inr (.inr (va_up g1 q (some b)))))))] H := hP
            have hD : va_D A [(a, .inr (1, [.ref tm, .ref an, .int (nI (cq.length + 1))])), (tm, .inl ((kA 1), 64, .inr (.inl (vp_updL f1 q (lN t))))), (an, .inl ((kA 5), 64, .inr (.inr (.inr (.inr (va_up g1 q (some b)))))))] := hD
            have hrep2 : CoRep (cq.take q ++ (t, b) :: cq.drop q) (vp_updL f1 q (lN t)) (va_up g1 q (some b)) := by
              intro i hi
              rw [zIns_len hp] at hi
              rw [zIns_get hp]
              by_cases e1 : i < q
              · rw [if_pos e1, pk_uLn (by omega), va_up_ne _ _ (by omega), (hlo i e1).1, (hlo i e1).2]; exact hrep i (by omega)
              · by_cases e2 : i = q
                · rw [if_neg e1, if_pos e2, e2, pk_uLs, va_up_self]; exact ⟨rfl, rfl⟩
                · rw [if_neg e1, if_neg e2, pk_uLn e2, va_up_ne _ _ e2, (hhi i (by omega) (by omega)).1, (hhi i (by omega) (by omega)).2]; exact hrep (i - 1) (by omega)
            exact zk_vret S hr hlk hS ⟨rfl, Or.inr ⟨hlt, q, hp, hgt, Or.inr hle, _, _, by unfold wC; rw [zIns_len hp]; exact hP, by unfold wC; rw [zIns_len hp]; exact hD, hrep2⟩⟩ (Nat.le_refl _) (Nat.le_refl _) d_Coming_add_99
          · have hgt1 : t < (cq.getD (q - 1) (0, 0)).1 := Nat.not_le.mp fun z => c32 ((lg_cmp_le _ _).mpr ((lN_le (by omega) (by omega)).mpr z))
            refine lv_aload_n hx hb d_Coming_add_35 rfl (lv_at hl 0 rfl) ?_
            refine zk_get (C := R_Coming) (T := F_Coming) (N := 3) S hK (hP 0 _ rfl) rfl i_Coming 0 (by decide) m_Coming_9 rfl rfl d_Coming_add_36 ?_
            refine lv_iload hx hb d_Coming_add_39 (lv_at hl 3 rfl) ?_
            refine lv_aload_n hx hb d_Coming_add_41 rfl (lv_at hl 0 rfl) ?_
            refine zk_get (C := R_Coming) (T := F_Coming) (N := 3) S hK (hP 0 _ rfl) rfl i_Coming 0 (by decide) m_Coming_9 rfl rfl d_Coming_add_42 ?_
            refine lv_iload hx hb d_Coming_add_45 (lv_at hl 3 rfl) ?_
            refine lv_iconst (v := 1) hx hb d_Coming_add_47 (by decide) ?_
            refine lv_isub hx hb d_Coming_add_48 ?_
            refine zk_ti (z := nI (q - 1)) (by rw [show (1 : Int32) = nI 1 from rfl]; exact pk_sub (by omega)) ?_
            refine zk_lald S hK 1 (hP 1 _ rfl) rfl (vp_in_nI (by omega) (by omega)) d_Coming_add_49 ?_
            refine zk_tl (z := lN (cq.getD (q - 1) (0, 0)).1) (by rw [nI_clamp (by omega), (hlo (q - 1) (by omega)).1]; exact (hrep (q - 1) (by omega)).1) ?_
            refine va_last hx hb hK hP hD hS 1 1 rfl rfl (vp_in_nI (by omega) (by omega)) d_Coming_add_50 (fun H locs hP hD hS => ?_)
            rw [nI_clamp (by omega)] at hP hD
            have hP : va_P D classes [(a, .inr (1, [.ref tm, .ref an, .int (nI cq.length)])), (tm, .inl ((kA 1), 64, .inr (.inl (vp_updL f1 q (lN (cq.getD (q - 1) (0, 0)).1))))), (an, .inl ((kA 5), 64, .inr (.inr (.inr (.inr g1)))))] H := hP
            have hD : va_D A [(a, .inr (1, [.ref tm, .ref an, .int (nI cq.length)])), (tm, .inl ((kA 1), 64, .inr (.inl (vp_updL f1 q (lN (cq.getD (q - 1) (0, 0)).1))))), (an, .inl ((kA 5), 64, .inr (.inr (.inr (.inr g1)))))] := hD
            refine lv_aload_n hx hb d_Coming_add_51 rfl (lv_at hl 0 rfl) ?_
            refine zk_get (C := R_Coming) (T := F_Coming) (N := 3) S hK (hP 0 _ rfl) rfl i_Coming 1 (by decide) m_Coming_17 rfl rfl d_Coming_add_52 ?_
            refine lv_iload hx hb d_Coming_add_55 (lv_at hl 3 rfl) ?_
            refine lv_aload_n hx hb d_Coming_add_57 rfl (lv_at hl 0 rfl) ?_
            refine zk_get (C := R_Coming) (T := F_Coming) (N := 3) S hK (hP 0 _ rfl) rfl i_Coming 1 (by decide) m_Coming_17 rfl rfl d_Coming_add_58 ?_
            refine lv_iload hx hb d_Coming_add_61 (lv_at hl 3 rfl) ?_
            refine lv_iconst (v := 1) hx hb d_Coming_add_63 (by decide) ?_
            refine lv_isub hx hb d_Coming_add_64 ?_
            refine zk_ti (z := nI (q - 1)) (by rw [show (1 : Int32) = nI 1 from rfl]; exact pk_sub (by omega)) ?_
            refine zk_aald S hK 5 (hP 2 _ rfl) rfl (vp_in_nI (by omega) (by omega)) d_Coming_add_65 ?_
            refine zk_top (v' := .ref ((cq.getD (q - 1) (0, 0)).2)) (by rw [nI_clamp (by omega), (hlo (q - 1) (by omega)).2, (hrep (q - 1) (by omega)).2]; rfl) ?_
            refine va_astqM hx hb hK hP hD hS 2 5 rfl rfl ((hbk.ro hS).any hK) (vp_in_nI (by omega) (by omega)) d_Coming_add_66 (fun H locs hP hD hS => ?_)
            rw [nI_clamp (by omega)] at hP hD
            have hP : va_P D classes [(a, .inr (1, [.ref tm, .ref an, .int (nI cq.length)])), (tm, .inl ((kA 1), 64, .inr (.inl (vp_updL f1 q (lN (cq.getD (q - 1) (0, 0)).1))))), (an, .inl ((kA 5), 64, .inr (.inr (.inr (.inr (va_up g1 q (some (cq.getD (q - 1) (0, 0)).2)))))))] H := hP
            have hD : va_D A [(a, .inr (1, [.ref tm, .ref an, .int (nI cq.length)])), (tm, .inl ((kA 1), 64, .inr (.inl (vp_updL f1 q (lN (cq.getD (q - 1) (0, 0)).1))))), (an, .inl ((kA 5), 64, .inr (.inr (.inr (.inr (va_up g1 q (some (cq.getD (q - 1) (0, 0)).2)))))))] := hD
            refine lv_iinc (v := (nI (q - 1))) (lv' := [(4, .int (nI (q - 1))), (0, .ref a), (1, .long (lN t)), (3, .ref b)]) hx hb d_Coming_add_67 hl (k := 3) rfl (sb_m1 q0) (by decide) rfl (fun ls hl => ?_)
            refine lv_goto (tgt := 16) hx hb d_Coming_add_70 (by decide) ?_
            exact ih (q - 1) (vp_updL f1 q (lN (cq.getD (q - 1) (0, 0)).1)) (va_up g1 q (some (cq.getD (q - 1) (0, 0)).2)) (by omega) (by omega) (fun j hj => by
              rw [pk_uLn (by omega), va_up_ne _ _ (by omega)]; exact hlo j (by omega)) (fun j hj1 hj2 => by
              by_cases e : j = q
              · rw [e, pk_uLs, va_up_self]; exact ⟨(hrep (q - 1) (by omega)).1.symm, (hrep (q - 1) (by omega)).2.symm⟩
              · rw [pk_uLn e, va_up_ne _ _ e]; exact hhi j (by omega) hj2) (fun j hj1 hj2 => by
              by_cases e : j = q - 1
              · rw [e]; exact hgt1
              · exact hgt j (by omega) hj2) _ _ (hP.sub [0, 1, 2] rfl) (hD.sub [0, 1, 2] (by decide) rfl) hS ls (lv_sub hl [1, 2, 3, 0] rfl)
    exact lp (cq.length + 1) cq.length f g (by omega) (Nat.le_refl _) (fun j _ => ⟨rfl, rfl⟩) (fun j h1 h2 => absurd h1 (by omega)) (fun j h1 h2 => absurd h1 (by omega)) _ _ (hP.sub [0, 1, 2] rfl) (hD.sub [0, 1, 2] (by decide) rfl) hS ls (lv_sub hl [1, 2, 3, 0] rfl)
  · have hge : 64 ≤ cq.length := Nat.not_lt.mp fun q => c6 (show nI cq.length < nI 64 from nI_lt q (by omega))
    exact zk_vret S hr hlk hS ⟨rfl, Or.inl ⟨hge, f, g, hP, hD, hrep⟩⟩ (Nat.le_refl _) (Nat.le_refl _) d_Coming_add_9

set_option maxHeartbeats 4000000 in
set_option maxRecDepth 100000 in
/-- Coming.dropFirst() -/
theorem c_Coming_dropFirst (l : Launch) (D : va_G) (kA : Nat → ClassId) (a tm an : Nat) (f : Nat → Int64) (g : Nat → Option Nat) (cq : List (Nat × Nat)) (h0 : 0 < cq.length) (hl64 : cq.length ≤ 64) (sz0 : Nat) : Met l y_Coming_dropFirst (Cond.code y_Coming_dropFirst b_Coming_dropFirst 2 none :: zTB) { frames := 0, cells := 0, slots := 0, locals := 0 } (zk_Pc D classes (zTY kA) [.ref a] (fun H => H.size = sz0 ∧ va_P D classes [(a, .inr (1, [.ref tm, .ref an, .int (nI cq.length)])), (tm, .inl ((kA 1), 64, .inr (.inl f))), (an, .inl ((kA 5), 64, .inr (.inr (.inr (.inr g)))))] H ∧ va_D (fun _ => True) [(a, .inr (1, [.ref tm, .ref an, .int (nI cq.length)])), (tm, .inl ((kA 1), 64, .inr (.inl f))), (an, .inl ((kA 5), 64, .inr (.inr (.inr (.inr g)))))] ∧ CoRep cq f g ∧ CoOk D kA (fun q => ¬ (va_A [(a, .inr (1, [.ref tm, .ref an, .int (nI cq.length)])), (tm, .inl ((kA 1), 64, .inr (.inl f))), (an, .inl ((kA 5), 64, .inr (.inr (.inr (.inr g)))))] sz0) q) H cq)) (zk_mQ (fun v H => v = none ∧ CoPost D kA (va_A [(a, .inr (1, [.ref tm, .ref an, .int (nI cq.length)])), (tm, .inl ((kA 1), 64, .inr (.inl f))), (an, .inl ((kA 5), 64, .inr (.inr (.inr (.inr g)))))] sz0) H a tm an (cq.drop 1)) (va_A [(a, .inr (1, [.ref tm, .ref an, .int (nI cq.length)])), (tm, .inl ((kA 1), 64, .inr (.inl f))), (an, .inl ((kA 5), 64, .inr (.inr (.inr (.inr g)))))] sz0)) 0 0 (va_A [(a, .inr (1, [.ref tm, .ref an, .int (nI cq.length)])), (tm, .inl ((kA 1), 64, .inr (.inl f))), (an, .inl ((kA 5), 64, .inr (.inr (.inr (.inr g)))))] sz0) := by
  refine zk_of [.ref a] (by decide) (Nat.le_of_ble_eq_true rfl) ?_
  intro p e s m below meth c S hr hlk hnm hK hX hpre ls hl
  obtain ⟨hx, hb, hml, hown, ht⟩ := id S
  have hl : lv_has ls 2 [(0, .ref a)] := hl
  obtain ⟨hsz, hP, hD0, hrep, hok⟩ := hpre
  subst hsz
  have hD := hD0.self (sz := s.heap.size)
  generalize hAe : va_A [(a, .inr (1, [.ref tm, .ref an, .int (nI cq.length)])), (tm, .inl ((kA 1), 64, .inr (.inl f))), (an, .inl ((kA 5), 64, .inr (.inr (.inr (.inr g)))))] s.heap.size = A at hD hok ⊢
  have hA : ∀ q : Nat, s.heap.size ≤ q → A q := fun q h => by rw [← hAe]; exact Or.inr h
  have hS : va_S A s.heap s.heap [] := va_S.rf
  have hP : va_P D classes [(a, .inr (1, [.ref tm, .ref an, .int (nI cq.length)])), (tm, .inl ((kA 1), 64, .inr (.inl f))), (an, .inl ((kA 5), 64, .inr (.inr (.inr (.inr g)))))] s.heap := hP
  refine lv_aload_n hx hb d_Coming_dropFirst_0 rfl (lv_at hl 0 rfl) ?_
  refine zk_get (C := R_Coming) (T := F_Coming) (N := 3) S hK (hP 0 _ rfl) rfl i_Coming 2 (by decide) m_Coming_21 rfl rfl d_Coming_dropFirst_1 ?_
  refine lv_if_gt (tgt := 8) hx hb d_Coming_dropFirst_4 (by decide) (fun c4 => ?_) (fun c4 => ?_)
  · refine lv_iconst (v := 1) hx hb d_Coming_dropFirst_8 (by decide) ?_
    refine lv_istore_n (lv' := [(1, .int 1), (0, .ref a)]) hx hb d_Coming_dropFirst_9 rfl hl (by decide) rfl (fun ls hl => ?_)
    have lp : ∀ (fu : Nat) (i : Nat) (f1 : Nat → Int64) (g1 : Nat → Option Nat), cq.length - i < fu → 0 < i → i ≤ cq.length → (∀ j, j + 1 < i → f1 j = f (j + 1) ∧ g1 j = g (j + 1)) → (∀ j, i ≤ j → f1 j = f j ∧ g1 j = g j) → ∀ (H : Heap) (locs : List Loc), va_P D classes [(a, .inr (1, [.ref tm, .ref an, .int (nI cq.length)])), (tm, .inl ((kA 1), 64, .inr (.inl f1))), (an, .inl ((kA 5), 64, .inr (.inr (.inr (.inr g1)))))] H → va_D A [(a, .inr (1, [.ref tm, .ref an, .int (nI cq.length)])), (tm, .inl ((kA 1), 64, .inr (.inl f1))), (an, .inl ((kA 5), 64, .inr (.inr (.inr (.inr g1)))))] → va_S A s.heap H locs → ∀ ls : Array Slot, lv_has ls 2 [(0, .ref a), (1, .int (nI i))] → W p l e { frames := 0, cells := 0, slots := 0, locals := 0 } s m [.ref a].toArray below meth c H locs 0 0 (MQ below (zk_mQ (fun v H => v = none ∧ CoPost D kA A H a tm an (cq.drop 1)) A) [.ref a].toArray s 0 0 A) (F0 m 10 ls []) := by
      intro fu
      induction fu with
      | zero => intro i f1 g1 hn; exact absurd hn (Nat.not_lt_zero _)
      | succ fu ih =>
        intro i f1 g1 hn hi0 hi hlo hhi H locs hP hD hS ls hl
        refine lv_iload_n hx hb d_Coming_dropFirst_10 rfl (lv_at hl 1 rfl) ?_
        refine lv_aload_n hx hb d_Coming_dropFirst_11 rfl (lv_at hl 0 rfl) ?_
        refine zk_get (C := R_Coming) (T := F_Coming) (N := 3) S hK (hP 0 _ rfl) rfl i_Coming 2 (by decide) m_Coming_21 rfl rfl d_Coming_dropFirst_12 ?_
        refine lv_icmp_ge (tgt := 52) hx hb d_Coming_dropFirst_15 (by decide) (fun c15 => ?_) (fun c15 => ?_)
        · refine lv_aload_n hx hb d_Coming_dropFirst_52 rfl (lv_at hl 0 rfl) ?_
          refine lv_dup hx hb d_Coming_dropFirst_53 rfl ?_
          refine zk_get (C := R_Coming) (T := F_Coming) (N := 3) S hK (hP 0 _ rfl) rfl i_Coming 2 (by decide) m_Coming_21 rfl rfl d_Coming_dropFirst_54 ?_
          refine lv_iconst (v := 1) hx hb d_Coming_dropFirst_57 (by decide) ?_
          refine lv_isub hx hb d_Coming_dropFirst_58 ?_
          refine zk_ti (z := nI (cq.length - 1)) (by rw [show (1 : Int32) = nI 1 from rfl]; exact pk_sub (by omega)) ?_
          refine va_put (D := D) (ci := 1) (v := .int (nI (cq.length - 1))) (ty := .int) (C := R_Coming) (T := F_Coming) (N := 3) hx hb ht i_Coming t_Coming t_Coming_ok n_Coming hown hK hP hD hS 0 rfl rfl 2 (by decide) (ht _ m_Coming_21) (fun _ h9 => h9) rfl (by decide +kernel) rfl rfl (Nat.le_of_ble_eq_true rfl) d_Coming_dropFirst_59 (fun H locs hP hD hS => ?_)
          have hP : va_P D classes [(a, .inr (1, [.ref tm, .ref an, .int (nI (cq.length - 1))])), (tm, .inl ((kA 1), 64, .inr (.inl f1))), (an, .inl ((kA 5), 64, .inr (.inr (.inr (.inr g1)))))] H := hP
          have hD : va_D A [(a, .inr (1, [.ref tm, .ref an, .int (nI (cq.length - 1))])), (tm, .inl ((kA 1), 64, .inr (.inl f1))), (an, .inl ((kA 5), 64, .inr (.inr (.inr (.inr g1)))))] := hD
          have hie : cq.length ≤ i := (nI_leI (by omega) (by omega)).mp c15
          have hrep2 : CoRep (cq.drop 1) f1 g1 := by
            intro j hj
            rw [List.length_drop] at hj
            rw [List.getD_eq_getElem?_getD, List.getElem?_drop, ← List.getD_eq_getElem?_getD, Nat.add_comm 1 j, (hlo j (by omega)).1, (hlo j (by omega)).2]
            exact hrep (j + 1) (by omega)
          exact zk_vret S hr hlk hS ⟨rfl, f1, g1, by unfold wC; rw [List.length_drop]; exact hP, by unfold wC; rw [List.length_drop]; exact hD, hrep2⟩ (Nat.le_refl _) (Nat.le_refl _) d_Coming_dropFirst_62
        · have hlt : i < cq.length := Nat.not_le.mp fun z => c15 (nI_le z (by omega))
          obtain ⟨hk1, lbk, bbk, hbk⟩ := hok i hlt
          refine lv_aload_n hx hb d_Coming_dropFirst_18 rfl (lv_at hl 0 rfl) ?_
          refine zk_get (C := R_Coming) (T := F_Coming) (N := 3) S hK (hP 0 _ rfl) rfl i_Coming 0 (by decide) m_Coming_9 rfl rfl d_Coming_dropFirst_19 ?_
          refine lv_iload_n hx hb d_Coming_dropFirst_22 rfl (lv_at hl 1 rfl) ?_
          refine lv_iconst (v := 1) hx hb d_Coming_dropFirst_23 (by decide) ?_
          refine lv_isub hx hb d_Coming_dropFirst_24 ?_
          refine zk_ti (z := nI (i - 1)) (by rw [show (1 : Int32) = nI 1 from rfl]; exact pk_sub (by omega)) ?_
          refine lv_aload_n hx hb d_Coming_dropFirst_25 rfl (lv_at hl 0 rfl) ?_
          refine zk_get (C := R_Coming) (T := F_Coming) (N := 3) S hK (hP 0 _ rfl) rfl i_Coming 0 (by decide) m_Coming_9 rfl rfl d_Coming_dropFirst_26 ?_
          refine lv_iload_n hx hb d_Coming_dropFirst_29 rfl (lv_at hl 1 rfl) ?_
          refine zk_lald S hK 1 (hP 1 _ rfl) rfl (vp_in_nI (by omega) (by omega)) d_Coming_dropFirst_30 ?_
          refine zk_tl (z := lN (cq.getD i (0, 0)).1) (by rw [nI_clamp (by omega), (hhi i (Nat.le_refl _)).1]; exact (hrep i hlt).1) ?_
          refine va_last hx hb hK hP hD hS 1 1 rfl rfl (vp_in_nI (by omega) (by omega)) d_Coming_dropFirst_31 (fun H locs hP hD hS => ?_)
          rw [nI_clamp (by omega)] at hP hD
          have hP : va_P D classes [(a, .inr (1, [.ref tm, .ref an, .int (nI cq.length)])), (tm, .inl ((kA 1), 64, .inr (.inl (vp_updL f1 (i - 1) (lN (cq.getD i (0, 0)).1))))), (an, .inl ((kA 5), 64, .inr (.inr (.inr (.inr g1)))))] H := hP
          have hD : va_D A [(a, .inr (1, [.ref tm, .ref an, .int (nI cq.length)])), (tm, .inl ((kA 1), 64, .inr (.inl (vp_updL f1 (i - 1) (lN (cq.getD i (0, 0)).1))))), (an, .inl ((kA 5), 64, .inr (.inr (.inr (.inr g1)))))] := hD
          refine lv_aload_n hx hb d_Coming_dropFirst_32 rfl (lv_at hl 0 rfl) ?_
          refine zk_get (C := R_Coming) (T := F_Coming) (N := 3) S hK (hP 0 _ rfl) rfl i_Coming 1 (by decide) m_Coming_17 rfl rfl d_Coming_dropFirst_33 ?_
          refine lv_iload_n hx hb d_Coming_dropFirst_36 rfl (lv_at hl 1 rfl) ?_
          refine lv_iconst (v := 1) hx hb d_Coming_dropFirst_37 (by decide) ?_
          refine lv_isub hx hb d_Coming_dropFirst_38 ?_
          refine zk_ti (z := nI (i - 1)) (by rw [show (1 : Int32) = nI 1 from rfl]; exact pk_sub (by omega)) ?_
          refine lv_aload_n hx hb d_Coming_dropFirst_39 rfl (lv_at hl 0 rfl) ?_
          refine zk_get (C := R_Coming) (T := F_Coming) (N := 3) S hK (hP 0 _ rfl) rfl i_Coming 1 (by decide) m_Coming_17 rfl rfl d_Coming_dropFirst_40 ?_
          refine lv_iload_n hx hb d_Coming_dropFirst_43 rfl (lv_at hl 1 rfl) ?_
          refine zk_aald S hK 5 (hP 2 _ rfl) rfl (vp_in_nI (by omega) (by omega)) d_Coming_dropFirst_44 ?_
          refine zk_top (v' := .ref ((cq.getD i (0, 0)).2)) (by rw [nI_clamp (by omega), (hhi i (Nat.le_refl _)).2, (hrep i hlt).2]; rfl) ?_
          refine va_astqM hx hb hK hP hD hS 2 5 rfl rfl ((hbk.ro hS).any hK) (vp_in_nI (by omega) (by omega)) d_Coming_dropFirst_45 (fun H locs hP hD hS => ?_)
          rw [nI_clamp (by omega)] at hP hD
          have hP : va_P D classes [(a, .inr (1, [.ref tm, .ref an, .int (nI cq.length)])), (tm, .inl ((kA 1), 64, .inr (.inl (vp_updL f1 (i - 1) (lN (cq.getD i (0, 0)).1))))), (an, .inl ((kA 5), 64, .inr (.inr (.inr (.inr (va_up g1 (i - 1) (some (cq.getD i (0, 0)).2)))))))] H := hP
          have hD : va_D A [(a, .inr (1, [.ref tm, .ref an, .int (nI cq.length)])), (tm, .inl ((kA 1), 64, .inr (.inl (vp_updL f1 (i - 1) (lN (cq.getD i (0, 0)).1))))), (an, .inl ((kA 5), 64, .inr (.inr (.inr (.inr (va_up g1 (i - 1) (some (cq.getD i (0, 0)).2)))))))] := hD
          refine lv_iinc (v := (nI (i + 1))) (lv' := [(1, .int (nI (i + 1))), (0, .ref a)]) hx hb d_Coming_dropFirst_46 hl (k := 1) rfl (nI_1 i) (by decide) rfl (fun ls hl => ?_)
          refine lv_goto (tgt := 10) hx hb d_Coming_dropFirst_49 (by decide) ?_
          exact ih (i + 1) (vp_updL f1 (i - 1) (lN (cq.getD i (0, 0)).1)) (va_up g1 (i - 1) (some (cq.getD i (0, 0)).2)) (by omega) (by omega) (by omega) (fun j hj => by
            by_cases e : j = i - 1
            · rw [e, pk_uLs, va_up_self, show i - 1 + 1 = i by omega]; exact ⟨(hrep i hlt).1.symm, (hrep i hlt).2.symm⟩
            · rw [pk_uLn e, va_up_ne _ _ e]; exact hlo j (by omega)) (fun j hj => by
            rw [pk_uLn (by omega), va_up_ne _ _ (by omega)]; exact hhi j (by omega)) _ _ (hP.sub [0, 1, 2] rfl) (hD.sub [0, 1, 2] (by decide) rfl) hS ls (lv_sub hl [1, 0] rfl)
    exact lp (cq.length + 1) 1 f g (by omega) (by omega) (by omega) (fun j h1 => absurd h1 (by omega)) (fun j _ => ⟨rfl, rfl⟩) _ _ (hP.sub [0, 1, 2] rfl) (hD.sub [0, 1, 2] (by decide) rfl) hS ls (lv_sub hl [1, 0] rfl)
  · exact absurd (show (0 : Int32) < nI cq.length by rw [← nI_0]; exact nI_lt h0 (by omega)) c4
