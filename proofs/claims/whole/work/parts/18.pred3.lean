/-- the room of a row behind one byte more -/
def zCap (lim n sz : Nat) : Nat := if sz < n then n else if lim ≤ sz then n else min lim (sz + sz)
def zApp (lim : Nat) (bs : List Nat) (v : Nat) : List Nat := if bs.length < lim then bs ++ [v] else bs
def zByte (x : Int32) : Nat := x.toBitVec.toNat % 256
theorem zByte_lt (x : Int32) : zByte x < 256 := Nat.mod_lt _ (by decide)
theorem zByte_nI {v : Nat} (h : v < 256) : zByte (nI v) = v := by
  unfold zByte
  rw [pk_tn (by omega), Nat.mod_eq_of_lt h]
theorem zByte_b (x : Int32) : x.toInt8.toInt32 = sb_b (zByte x) := by
  unfold sb_b
  refine congrArg Int8.toInt32 ?_
  refine Int8.toBitVec_inj.mp ?_
  rw [Int32.toBitVec_toInt8, Int32.toBitVec_toInt8]
  rw [BitVec.signExtend_eq_setWidth_of_le _ (by decide), BitVec.signExtend_eq_setWidth_of_le _ (by decide)]
  refine BitVec.eq_of_toNat_eq ?_
  rw [BitVec.toNat_setWidth, BitVec.toNat_setWidth, pk_tn (Nat.lt_trans (zByte_lt x) (by decide))]
  unfold zByte
  omega
theorem zCap_ge {lim n sz : Nat} (h : sz ≤ n) : n ≤ zCap lim n sz := by
  unfold zCap
  split
  · exact Nat.le_refl _
  · split
    · exact Nat.le_refl _
    · omega
theorem zCap_le {lim n sz : Nat} (h : n ≤ lim) : zCap lim n sz ≤ lim := by
  unfold zCap
  split
  · exact h
  · split
    · exact h
    · omega
