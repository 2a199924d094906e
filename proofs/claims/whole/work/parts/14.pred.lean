/-! Bytes: a row of bytes up to a limit -/
/-- the rooms that a row may have under its limit -/
def zOk (lim n : Nat) : Prop := (lim, n) ∈ [(200, 64), (200, 128), (200, 200), (1024, 64), (1024, 128), (1024, 256), (1024, 512), (1024, 1024), (32768, 64), (32768, 128), (32768, 256), (32768, 512), (32768, 1024), (32768, 2048), (32768, 4096), (32768, 8192), (32768, 16384), (32768, 32768)]
theorem zOk_grow {lim n : Nat} (h : zOk lim n) (hl : n < lim) : zOk lim (min lim (n + n)) ∧ min lim (n + n) ≤ 3 * (min lim (n + n) - n) ∧ n < min lim (n + n) := by
  have key : ∀ q ∈ [(200, 64), (200, 128), (200, 200), (1024, 64), (1024, 128), (1024, 256), (1024, 512), (1024, 1024), (32768, 64), (32768, 128), (32768, 256), (32768, 512), (32768, 1024), (32768, 2048), (32768, 4096), (32768, 8192), (32768, 16384), (32768, 32768)], q.2 < q.1 → ((q.1, min q.1 (q.2 + q.2)) ∈ [(200, 64), (200, 128), (200, 200), (1024, 64), (1024, 128), (1024, 256), (1024, 512), (1024, 1024), (32768, 64), (32768, 128), (32768, 256), (32768, 512), (32768, 1024), (32768, 2048), (32768, 4096), (32768, 8192), (32768, 16384), (32768, 32768)] ∧ min q.1 (q.2 + q.2) ≤ 3 * (min q.1 (q.2 + q.2) - q.2) ∧ q.2 < min q.1 (q.2 + q.2)) := by decide +kernel
  exact key (lim, n) h hl
def zBs (lim n : Nat) (f : Nat → Int32) (bs : List Nat) : Prop := bs.length ≤ n ∧ n ≤ lim ∧ 64 ≤ n ∧ (lim ≤ 32768 ∧ zOk lim n) ∧ ∀ i, i < bs.length → bs.getD i 0 < 256 ∧ f i = sb_b (bs.getD i 0)
def BsAt (D : va_G) (kA : Nat → ClassId) (Z : Nat → Prop) (H : Heap) (a lim : Nat) (bs : List Nat) : Prop := ∃ (r n : Nat) (f : Nat → Int32), Z a ∧ Z r ∧ va_at D classes (a, .inr (0, [.int (nI lim), .ref r, .int (nI bs.length)])) H ∧ va_at D classes (r, .inl (kA 0, n, .inl f)) H ∧ zBs lim n f bs
theorem BsAt.weaken {D : va_G} {kA : Nat → ClassId} {Z Z' : Nat → Prop} {H : Heap} {a lim : Nat} {bs : List Nat} (h : BsAt D kA Z H a lim bs) (hz : ∀ q, Z q → Z' q) : BsAt D kA Z' H a lim bs := by
  obtain ⟨r, n, f, h1, h2, h3⟩ := h
  exact ⟨r, n, f, hz _ h1, hz _ h2, h3⟩
theorem BsAt.kept {D : va_G} {kA : Nat → ClassId} {Z : Nat → Prop} {H H1 : Heap} {a lim : Nat} {bs : List Nat} (h : BsAt D kA Z H a lim bs) (hk : ∀ q, Z q → q < H.size → H1[q]? = H[q]?) : BsAt D kA Z H1 a lim bs := by
  obtain ⟨r, n, f, h1, h2, h3, h4, h5⟩ := h
  exact ⟨r, n, f, h1, h2, h3.kept (hk _ h1 h3.lt), h4.kept (hk _ h2 h4.lt), h5⟩
theorem BsAt.ro {D : va_G} {kA : Nat → ClassId} {A : Nat → Prop} {H0 H : Heap} {locs : List Loc} {a lim : Nat} {bs : List Nat} (h : BsAt D kA (fun q => ¬ A q) H0 a lim bs) (hS : va_S A H0 H locs) : BsAt D kA (fun q => ¬ A q) H a lim bs := h.kept (fun q hq hlt => hS.2.1 q hlt hq)
def bAt (bs : List Nat) (x : Int32) : Int32 := if 0 ≤ x.toInt ∧ x.toInt < bs.length then nI (bs.getD x.toInt.toNat 0) else -1
theorem bAt_neg {bs : List Nat} {x : Int32} (h : x < 0) : bAt bs x = -1 := by
  have h1 : x.toInt < 0 := Int32.lt_iff_toInt_lt.mp h
  unfold bAt
  rw [if_neg (by omega)]
theorem bAt_ge {bs : List Nat} {x : Int32} (hb : bs.length < 2 ^ 31) (h : nI bs.length ≤ x) : bAt bs x = -1 := by
  have h1 := Int32.le_iff_toInt_le.mp h
  rw [nI_toInt hb] at h1
  unfold bAt
  rw [if_neg (by omega)]
theorem bAt_nI {bs : List Nat} {i : Nat} (hb : bs.length < 2 ^ 31) (h : i < bs.length) : bAt bs (nI i) = nI (bs.getD i 0) := by
  unfold bAt
  rw [nI_toInt (by omega), if_pos (by omega)]
  rfl
theorem bAt_nIge {bs : List Nat} {i : Nat} (hi : i < 2 ^ 31) (h : bs.length ≤ i) : bAt bs (nI i) = -1 := by
  unfold bAt
  rw [nI_toInt hi, if_neg (by omega)]
