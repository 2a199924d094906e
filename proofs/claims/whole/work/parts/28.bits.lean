theorem ts_nf {x : Bool} (h : ¬ x = false) : x = true := by cases x <;> first | rfl | exact absurd rfl h
theorem ts_nt {x : Bool} (h : ¬ x = true) : x = false := by cases x <;> first | rfl | exact absurd rfl h
theorem ts_bit {w : Int64} {s : UInt64} {j : Nat} (hj : j < 64) (hs : s.toNat = j) : ((w.toUInt64 >>> s).toInt64 &&& 1) = 0 ↔ w.toBitVec.getLsbD j = false := by
  have e : (w.toUInt64 >>> s).toInt64.toBitVec = w.toBitVec >>> j := by
    apply BitVec.eq_of_toNat_eq
    show (w.toUInt64 >>> s).toNat = _
    rw [UInt64.toNat_shiftRight, hs, Nat.mod_eq_of_lt hj, BitVec.toNat_ushiftRight]
    rfl
  rw [← Int64.toBitVec_inj, Int64.toBitVec_and, e]
  show w.toBitVec >>> j &&& 1#64 = 0#64 ↔ _
  constructor
  · intro h
    have t := congrArg (fun x => x.getLsbD 0) h
    simpa using t
  · intro h
    apply BitVec.eq_of_getLsbD_eq
    intro i hi
    cases i with
    | zero => simp [h]
    | succ i => simp
theorem wb_tb (n : Nat) : (lN n).toBitVec = BitVec.ofNat 64 n := rfl
theorem wb_inj {a b : Int64} (h : a.toBitVec = b.toBitVec) : a = b := Int64.toBitVec_inj.mp h
theorem wb_tn {n : Nat} (h : n < 2 ^ 64) : (lN n).toBitVec.toNat = n := by rw [wb_tb, BitVec.toNat_ofNat, Nat.mod_eq_of_lt h]
theorem wb_of (x : Int64) : ∃ n, n < 2 ^ 64 ∧ x = lN n := ⟨x.toBitVec.toNat, x.toBitVec.isLt, wb_inj (by rw [wb_tb]; simp)⟩
theorem wb_of32 (x : Int32) : ∃ n, n < 2 ^ 32 ∧ x = nI n := ⟨x.toBitVec.toNat, x.toBitVec.isLt, Int32.toBitVec_inj.mp (by show _ = BitVec.ofNat 32 _; simp)⟩
theorem wb_c : ∀ k, k < 64 → ((nI k).toInt64 &&& 63) = lN k := by decide +kernel
theorem wb_cu : ∀ k, k < 64 → ((nI k).toInt64.toUInt64 &&& Int64.toUInt64 63) = UInt64.ofNat k := by decide +kernel
theorem wb_sm : ∀ k, k < 64 → (BitVec.ofNat 64 k).smod 64 = BitVec.ofNat 64 k := by decide +kernel
theorem wb_pw {a b : Nat} (h : a ≤ b) : 2 ^ b = 2 ^ a * 2 ^ (b - a) := by rw [← Nat.pow_add]; congr 1; omega
theorem wb_lt2 {a b : Nat} (h : a < b) : 2 ^ a < 2 ^ b := Nat.pow_lt_pow_right (by decide) h
theorem wb_mod (n : Nat) : lN n = lN (n % 2 ^ 64) := wb_inj (by rw [wb_tb, wb_tb]; apply BitVec.eq_of_toNat_eq; rw [BitVec.toNat_ofNat, BitVec.toNat_ofNat, Nat.mod_mod])
theorem wb_shr {n k : Nat} (hn : n < 2 ^ 64) (hk : k < 64) : ((lN n).toUInt64 >>> ((nI k).toInt64.toUInt64 &&& Int64.toUInt64 63)).toInt64 = lN (n / 2 ^ k) := by
  rw [wb_cu k hk]
  apply wb_inj
  apply BitVec.eq_of_toNat_eq
  show ((lN n).toUInt64 >>> UInt64.ofNat k).toNat = (BitVec.ofNat 64 _).toNat
  have h1 : (UInt64.ofNat k).toNat = k := by
    show (BitVec.ofNat 64 k).toNat = k
    rw [BitVec.toNat_ofNat, Nat.mod_eq_of_lt (by omega)]
  have h2 : (lN n).toUInt64.toNat = n := wb_tn hn
  rw [UInt64.toNat_shiftRight, h1, h2, Nat.mod_eq_of_lt hk, Nat.shiftRight_eq_div_pow, BitVec.toNat_ofNat, Nat.mod_eq_of_lt (Nat.lt_of_le_of_lt (Nat.div_le_self _ _) hn)]
theorem wb_shl (n : Nat) {k : Nat} (hk : k < 64) : lN n <<< ((nI k).toInt64 &&& 63) = lN (n * 2 ^ k) := by
  rw [wb_c k hk]
  apply wb_inj
  rw [Int64.toBitVec_shiftLeft, wb_tb, wb_tb, wb_tb, wb_sm k hk]
  apply BitVec.eq_of_toNat_eq
  rw [BitVec.shiftLeft_eq', BitVec.toNat_shiftLeft, BitVec.toNat_ofNat, BitVec.toNat_ofNat, BitVec.toNat_ofNat, Nat.mod_eq_of_lt (show k < 2 ^ 64 by omega), Nat.shiftLeft_eq, Nat.mul_mod, Nat.mod_mod, ← Nat.mul_mod]
def zBit (w : Int64) (j : Nat) : Bool := w.toBitVec.getLsbD j
theorem zBit_or {w : Int64} {j k : Nat} (hj : j < 64) (hk : k < 64) : zBit (w ||| ((1 : Int64) <<< ((nI k).toInt64 &&& 63))) j = (zBit w j || decide (j = k)) := by
  have e : (1 : Int64) <<< ((nI k).toInt64 &&& 63) = lN (2 ^ k) := by rw [show (1 : Int64) = lN 1 from rfl, wb_shl 1 hk, Nat.one_mul]
  rw [e]
  unfold zBit
  rw [Int64.toBitVec_or, BitVec.getLsbD_or, wb_tb, BitVec.getLsbD_ofNat, Nat.testBit_two_pow]
  simp [hj, eq_comm]
theorem zBit_test {w : Int64} {k : Nat} (hk : k < 64) : ((w.toUInt64 >>> ((nI k).toInt64.toUInt64 &&& Int64.toUInt64 63)).toInt64 &&& 1) = 0 ↔ zBit w k = false := ts_bit hk (by
  rw [wb_cu k hk]
  show (BitVec.ofNat 64 k).toNat = k
  rw [BitVec.toNat_ofNat, Nat.mod_eq_of_lt (by omega)])
def zSb (sf : Nat → Int64) (i v : Nat) : Bool := zBit (sf (i * 4 + v / 64)) (v % 64)
theorem zSb_0 {i v : Nat} : zSb (fun _ => 0) i v = false := by
  unfold zSb zBit
  simp
theorem zSb_upd {sf : Nat → Int64} {cnt x i v : Nat} (hx : x < 256) (hv : v < 256) : zSb (vp_updL sf (cnt * 4 + x / 64) (sf (cnt * 4 + x / 64) ||| ((1 : Int64) <<< ((nI (x % 64)).toInt64 &&& 63)))) i v = (zSb sf i v || (decide (i = cnt) && decide (v = x))) := by
  unfold zSb
  by_cases h : i * 4 + v / 64 = cnt * 4 + x / 64
  · have hi : i = cnt := by omega
    have hd : v / 64 = x / 64 := by omega
    rw [h, pk_uLs, zBit_or (Nat.mod_lt _ (by decide)) (Nat.mod_lt _ (by decide))]
    congr 1
    by_cases hvx : v = x
    · simp [hi, hvx]
    · have : ¬ v % 64 = x % 64 := by omega
      simp [hvx, this]
  · rw [pk_uLn h]
    have : ¬ (i = cnt ∧ v = x) := fun q => h (by rw [q.1, q.2])
    by_cases hi : i = cnt
    · by_cases hvx : v = x
      · exact absurd ⟨hi, hvx⟩ this
      · simp [hvx]
    · simp [hi]
/-! a pure method whose answer is told by what holds of it -/
def zk_pE (P : Value → Prop) : Array Value → State → Outcome → State → Prop := fun _ st oc t => ∃ v, oc = .returned (some v) ∧ P v ∧ t.heap = st.heap
section
variable {p : Program} {l : Launch} {e : Env} {R : Room} {s : State} {m : MethodId} {args : Array Value} {below : List Frame} {meth : Method} {c : Code} {H : Heap} {locs : List Loc} {cells slots : Nat} {Q : State → Prop}
variable {cc : ByteArray} {pc nL : Nat} {own : String} {ls : Array Slot} {rest st0 : List Value} {P : Value → Prop}
theorem zk_pureE {ar : Array Value} (hr : va_Run p l e R s m args below meth c H locs cells slots 0 0 (F0 m pc ls st0) rest (zk_pE P ar) zk_no) (kk : ∀ v, P v → W p l e R s m args below meth c H locs cells slots Q (F0 m (pc + 3) ls (v :: rest))) : W p l e R s m args below meth c H locs cells slots Q (F0 m pc ls st0) := by
  intro T hT X
  obtain ⟨v', st₀, t, T', L, h0, X', hL, e1, e2, ⟨v, hv, hp, hh⟩, st⟩ := hr T hT X
  have hL0 : L = [] := by
    cases L with
    | nil => rfl
    | cons q L => exact (hL q List.mem_cons_self).elim
  subst hL0
  cases hv
  rw [List.append_nil] at X'
  obtain ⟨t2, a1, b1⟩ := kk v hp T' (by rw [e1, hh, h0]) X'
  exact ⟨t2, st t2 a1, b1⟩
theorem zk_retiE {v : Int32} (S : CallFix p m c cc nL s args zTB own) (hr : meth.sig.returnType = some .int) (hlk : meth.locks = false) (hp : P (.int v)) (hdg : decode cc pc = .ok (.ireturn, 1)) : W p l e R s m args below meth c s.heap [] 0 0 (MQ below (zk_pE P) args s 0 0 zk_no) (F0 m pc ls [.int v]) :=
  W.iret S.1 S.2.1 hr (fun t ht _ => ⟨_, rfl, hp, ht⟩) (fun q h => by cases h) hdg
theorem zk_retzE {v : Int32} (S : CallFix p m c cc nL s args zTB own) (hr : meth.sig.returnType = some .boolean) (hv : v = 0 ∨ v = 1) (hlk : meth.locks = false) (hp : P (.int v)) (hdg : decode cc pc = .ok (.ireturn, 1)) : W p l e R s m args below meth c s.heap [] 0 0 (MQ below (zk_pE P) args s 0 0 zk_no) (F0 m pc ls [.int v]) :=
  W.zret S.1 S.2.1 hr (by rcases hv with rfl | rfl <;> decide +kernel) (fun t ht _ => ⟨_, rfl, hp, ht⟩) (fun q h => by cases h) hdg
end
/-! patterns as the class holds them -/
def PtRep (m : Nat) (sf : Nat → Int64) (zf : Nat → Int32) (its : List pItem) : Prop := its.length ≤ m ∧ m ≤ 1024 ∧ ∀ i, i < its.length → (its.getD i none = none → zf i = 1) ∧ ∀ S, its.getD i none = some S → zf i = 0 ∧ ∀ v, v < 256 → zSb sf i v = pIn S v
def PtAt (D : va_G) (kA : Nat → ClassId) (Z : Nat → Prop) (H : Heap) (a : Nat) (its : List pItem) : Prop := ∃ (sa za m : Nat) (sf : Nat → Int64) (zf : Nat → Int32), (Z a ∧ Z sa ∧ Z za) ∧ va_at D classes (a, .inr (2, [.ref sa, .ref za, .int (nI its.length)])) H ∧ va_at D classes (sa, .inl (kA 1, m * 4, .inr (.inl sf))) H ∧ va_at D classes (za, .inl (kA 2, m, .inl zf)) H ∧ PtRep m sf zf its
theorem PtAt.weaken {D : va_G} {kA : Nat → ClassId} {Z Z' : Nat → Prop} {H : Heap} {a : Nat} {its : List pItem} (h : PtAt D kA Z H a its) (hz : ∀ q, Z q → Z' q) : PtAt D kA Z' H a its := by
  obtain ⟨sa, za, m, sf, zf, ⟨h1, h2, h3⟩, h4⟩ := h
  exact ⟨sa, za, m, sf, zf, ⟨hz _ h1, hz _ h2, hz _ h3⟩, h4⟩
theorem PtAt.kept {D : va_G} {kA : Nat → ClassId} {Z : Nat → Prop} {H H1 : Heap} {a : Nat} {its : List pItem} (h : PtAt D kA Z H a its) (hk : ∀ q, Z q → q < H.size → H1[q]? = H[q]?) : PtAt D kA Z H1 a its := by
  obtain ⟨sa, za, m, sf, zf, ⟨h1, h2, h3⟩, h4, h5, h6, h7⟩ := h
  exact ⟨sa, za, m, sf, zf, ⟨h1, h2, h3⟩, h4.kept (hk _ h1 h4.lt), h5.kept (hk _ h2 h5.lt), h6.kept (hk _ h3 h6.lt), h7⟩
theorem PtAt.ro {D : va_G} {kA : Nat → ClassId} {A : Nat → Prop} {H0 H : Heap} {locs : List Loc} {a : Nat} {its : List pItem} (h : PtAt D kA (fun q => ¬ A q) H0 a its) (hS : va_S A H0 H locs) : PtAt D kA (fun q => ¬ A q) H a its := h.kept (fun q hq hlt => hS.2.1 q hlt hq)
abbrev zIt (its : List pItem) : Nat → pItem := fun i => its.getD i none
abbrev zT (bs : List Nat) : Nat → Nat := fun i => bs.getD i 0
