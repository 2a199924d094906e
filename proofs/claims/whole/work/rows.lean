section
-- ===== PART A: goes FIRST, ahead of the names: the tables' words, and 'selects' of the private methods out of them =====
/-- a private method of a class that the tables say can be made, by its rows of tables_1 -/
def lw_okq (q : MethodName × Nat) : Prop := (q.1.cls ≠ "java/lang/invoke/MethodHandle" ∧ q.1.cls ≠ "java/lang/invoke/VarHandle") ∧ Cond.instantiable q.1.cls q.2 ∈ tables_1 ∧ Cond.privateMethod q.1 ∈ tables_1 ∧ Cond.instanceMethod q.1 ∈ tables_1
theorem lw_p0 : lw_okq (⟨"PeerLine", "tapeIsRule", "(I)Z"⟩, 10) := ⟨⟨by decide +kernel, by decide +kernel⟩, List.mem_of_getElem? (i := 12) (by decide +kernel), List.mem_of_getElem? (i := 149) (by decide +kernel), List.mem_of_getElem? (i := 150) (by decide +kernel)⟩
theorem lw_p1 : lw_okq (⟨"PeerLine$Pattern", "readItem", "(LPeerLine$PatternReader;)V"⟩, 3) := ⟨⟨by decide +kernel, by decide +kernel⟩, List.mem_of_getElem? (i := 157) (by decide +kernel), List.mem_of_getElem? (i := 188) (by decide +kernel), List.mem_of_getElem? (i := 189) (by decide +kernel)⟩
theorem lw_p2 : lw_okq (⟨"PeerLine$Pattern", "markStar", "()V"⟩, 3) := ⟨⟨by decide +kernel, by decide +kernel⟩, List.mem_of_getElem? (i := 157) (by decide +kernel), List.mem_of_getElem? (i := 196) (by decide +kernel), List.mem_of_getElem? (i := 197) (by decide +kernel)⟩
theorem lw_p3 : lw_okq (⟨"PeerLine$Pattern", "allow", "(II)V"⟩, 3) := ⟨⟨by decide +kernel, by decide +kernel⟩, List.mem_of_getElem? (i := 157) (by decide +kernel), List.mem_of_getElem? (i := 200) (by decide +kernel), List.mem_of_getElem? (i := 201) (by decide +kernel)⟩
theorem lw_p4 : lw_okq (⟨"PeerLine$Pattern", "readChoice", "(LPeerLine$PatternReader;)V"⟩, 3) := ⟨⟨by decide +kernel, by decide +kernel⟩, List.mem_of_getElem? (i := 157) (by decide +kernel), List.mem_of_getElem? (i := 204) (by decide +kernel), List.mem_of_getElem? (i := 205) (by decide +kernel)⟩
theorem lw_p5 : lw_okq (⟨"PeerLine", "answerLine", "()V"⟩, 10) := ⟨⟨by decide +kernel, by decide +kernel⟩, List.mem_of_getElem? (i := 12) (by decide +kernel), List.mem_of_getElem? (i := 267) (by decide +kernel), List.mem_of_getElem? (i := 268) (by decide +kernel)⟩
theorem lw_p6 : lw_okq (⟨"PeerLine$Pattern", "starOrEndFrom", "(I)I"⟩, 3) := ⟨⟨by decide +kernel, by decide +kernel⟩, List.mem_of_getElem? (i := 157) (by decide +kernel), List.mem_of_getElem? (i := 275) (by decide +kernel), List.mem_of_getElem? (i := 276) (by decide +kernel)⟩
theorem lw_p7 : lw_okq (⟨"PeerLine$Pattern", "isStar", "(I)Z"⟩, 3) := ⟨⟨by decide +kernel, by decide +kernel⟩, List.mem_of_getElem? (i := 157) (by decide +kernel), List.mem_of_getElem? (i := 279) (by decide +kernel), List.mem_of_getElem? (i := 280) (by decide +kernel)⟩
theorem lw_p8 : lw_okq (⟨"PeerLine$Pattern", "standsAt", "(LPeerLine$Bytes;III)Z"⟩, 3) := ⟨⟨by decide +kernel, by decide +kernel⟩, List.mem_of_getElem? (i := 157) (by decide +kernel), List.mem_of_getElem? (i := 283) (by decide +kernel), List.mem_of_getElem? (i := 284) (by decide +kernel)⟩
theorem lw_p9 : lw_okq (⟨"PeerLine$Pattern", "behindLastStar", "()I"⟩, 3) := ⟨⟨by decide +kernel, by decide +kernel⟩, List.mem_of_getElem? (i := 157) (by decide +kernel), List.mem_of_getElem? (i := 288) (by decide +kernel), List.mem_of_getElem? (i := 289) (by decide +kernel)⟩
theorem lw_p10 : lw_okq (⟨"PeerLine$Pattern", "earliestEnd", "(LPeerLine$Bytes;IIII)I"⟩, 3) := ⟨⟨by decide +kernel, by decide +kernel⟩, List.mem_of_getElem? (i := 157) (by decide +kernel), List.mem_of_getElem? (i := 292) (by decide +kernel), List.mem_of_getElem? (i := 293) (by decide +kernel)⟩
theorem lw_p11 : lw_okq (⟨"PeerLine$Pattern", "earliestPlace", "(LPeerLine$Bytes;IIII)I"⟩, 3) := ⟨⟨by decide +kernel, by decide +kernel⟩, List.mem_of_getElem? (i := 157) (by decide +kernel), List.mem_of_getElem? (i := 296) (by decide +kernel), List.mem_of_getElem? (i := 297) (by decide +kernel)⟩
theorem lw_p12 : lw_okq (⟨"PeerLine", "tell", "(ILPeerLine$Bytes;Z)V"⟩, 10) := ⟨⟨by decide +kernel, by decide +kernel⟩, List.mem_of_getElem? (i := 12) (by decide +kernel), List.mem_of_getElem? (i := 308) (by decide +kernel), List.mem_of_getElem? (i := 309) (by decide +kernel)⟩
theorem lw_p13 : lw_okq (⟨"PeerLine", "giveTapeToPeer", "()V"⟩, 10) := ⟨⟨by decide +kernel, by decide +kernel⟩, List.mem_of_getElem? (i := 12) (by decide +kernel), List.mem_of_getElem? (i := 318) (by decide +kernel), List.mem_of_getElem? (i := 319) (by decide +kernel)⟩
theorem lw_p14 : lw_okq (⟨"PeerLineModel", "lay", "(I)V"⟩, 23) := ⟨⟨by decide +kernel, by decide +kernel⟩, List.mem_of_getElem? (i := 389) (by decide +kernel), List.mem_of_getElem? (i := 471) (by decide +kernel), List.mem_of_getElem? (i := 472) (by decide +kernel)⟩
theorem lw_p15 : lw_okq (⟨"PeerLineModel", "gets", "()V"⟩, 23) := ⟨⟨by decide +kernel, by decide +kernel⟩, List.mem_of_getElem? (i := 389) (by decide +kernel), List.mem_of_getElem? (i := 490) (by decide +kernel), List.mem_of_getElem? (i := 491) (by decide +kernel)⟩
def lw_privs_1 : List (MethodName × Nat) := [(⟨"PeerLine", "tapeIsRule", "(I)Z"⟩, 10), (⟨"PeerLine$Pattern", "readItem", "(LPeerLine$PatternReader;)V"⟩, 3), (⟨"PeerLine$Pattern", "markStar", "()V"⟩, 3), (⟨"PeerLine$Pattern", "allow", "(II)V"⟩, 3), (⟨"PeerLine$Pattern", "readChoice", "(LPeerLine$PatternReader;)V"⟩, 3), (⟨"PeerLine", "answerLine", "()V"⟩, 10), (⟨"PeerLine$Pattern", "starOrEndFrom", "(I)I"⟩, 3), (⟨"PeerLine$Pattern", "isStar", "(I)Z"⟩, 3), (⟨"PeerLine$Pattern", "standsAt", "(LPeerLine$Bytes;III)Z"⟩, 3), (⟨"PeerLine$Pattern", "behindLastStar", "()I"⟩, 3), (⟨"PeerLine$Pattern", "earliestEnd", "(LPeerLine$Bytes;IIII)I"⟩, 3), (⟨"PeerLine$Pattern", "earliestPlace", "(LPeerLine$Bytes;IIII)I"⟩, 3), (⟨"PeerLine", "tell", "(ILPeerLine$Bytes;Z)V"⟩, 10), (⟨"PeerLine", "giveTapeToPeer", "()V"⟩, 10), (⟨"PeerLineModel", "lay", "(I)V"⟩, 23), (⟨"PeerLineModel", "gets", "()V"⟩, 23)]
theorem lw_r1 : ∀ q ∈ lw_privs_1, lw_okq q := List.forall_mem_cons.mpr ⟨lw_p0, List.forall_mem_cons.mpr ⟨lw_p1, List.forall_mem_cons.mpr ⟨lw_p2, List.forall_mem_cons.mpr ⟨lw_p3, List.forall_mem_cons.mpr ⟨lw_p4, List.forall_mem_cons.mpr ⟨lw_p5, List.forall_mem_cons.mpr ⟨lw_p6, List.forall_mem_cons.mpr ⟨lw_p7, List.forall_mem_cons.mpr ⟨lw_p8, List.forall_mem_cons.mpr ⟨lw_p9, List.forall_mem_cons.mpr ⟨lw_p10, List.forall_mem_cons.mpr ⟨lw_p11, List.forall_mem_cons.mpr ⟨lw_p12, List.forall_mem_cons.mpr ⟨lw_p13, List.forall_mem_cons.mpr ⟨lw_p14, List.forall_mem_cons.mpr ⟨lw_p15, fun _ h => absurd h List.not_mem_nil⟩⟩⟩⟩⟩⟩⟩⟩⟩⟩⟩⟩⟩⟩⟩⟩
theorem lw_p16 : lw_okq (⟨"PeerLineModel", "fitsLine", "(I)Z"⟩, 23) := ⟨⟨by decide +kernel, by decide +kernel⟩, List.mem_of_getElem? (i := 389) (by decide +kernel), List.mem_of_getElem? (i := 494) (by decide +kernel), List.mem_of_getElem? (i := 495) (by decide +kernel)⟩
theorem lw_p17 : lw_okq (⟨"PeerLineModel", "go", "([BII[BI)V"⟩, 23) := ⟨⟨by decide +kernel, by decide +kernel⟩, List.mem_of_getElem? (i := 389) (by decide +kernel), List.mem_of_getElem? (i := 498) (by decide +kernel), List.mem_of_getElem? (i := 499) (by decide +kernel)⟩
theorem lw_p18 : lw_okq (⟨"PeerLineModel", "one", "([BII[BI)V"⟩, 23) := ⟨⟨by decide +kernel, by decide +kernel⟩, List.mem_of_getElem? (i := 389) (by decide +kernel), List.mem_of_getElem? (i := 508) (by decide +kernel), List.mem_of_getElem? (i := 509) (by decide +kernel)⟩
theorem lw_p19 : lw_okq (⟨"PeerLineModel", "tell", "(I[BII)V"⟩, 23) := ⟨⟨by decide +kernel, by decide +kernel⟩, List.mem_of_getElem? (i := 389) (by decide +kernel), List.mem_of_getElem? (i := 522) (by decide +kernel), List.mem_of_getElem? (i := 523) (by decide +kernel)⟩
theorem lw_p20 : lw_okq (⟨"PeerLineModel", "keep", "(I)V"⟩, 23) := ⟨⟨by decide +kernel, by decide +kernel⟩, List.mem_of_getElem? (i := 389) (by decide +kernel), List.mem_of_getElem? (i := 535) (by decide +kernel), List.mem_of_getElem? (i := 536) (by decide +kernel)⟩
theorem lw_p21 : lw_okq (⟨"PeerLineModel", "drop", "(I)V"⟩, 23) := ⟨⟨by decide +kernel, by decide +kernel⟩, List.mem_of_getElem? (i := 389) (by decide +kernel), List.mem_of_getElem? (i := 539) (by decide +kernel), List.mem_of_getElem? (i := 540) (by decide +kernel)⟩
def lw_privs_2 : List (MethodName × Nat) := [(⟨"PeerLineModel", "fitsLine", "(I)Z"⟩, 23), (⟨"PeerLineModel", "go", "([BII[BI)V"⟩, 23), (⟨"PeerLineModel", "one", "([BII[BI)V"⟩, 23), (⟨"PeerLineModel", "tell", "(I[BII)V"⟩, 23), (⟨"PeerLineModel", "keep", "(I)V"⟩, 23), (⟨"PeerLineModel", "drop", "(I)V"⟩, 23)]
theorem lw_r2 : ∀ q ∈ lw_privs_2, lw_okq q := List.forall_mem_cons.mpr ⟨lw_p16, List.forall_mem_cons.mpr ⟨lw_p17, List.forall_mem_cons.mpr ⟨lw_p18, List.forall_mem_cons.mpr ⟨lw_p19, List.forall_mem_cons.mpr ⟨lw_p20, List.forall_mem_cons.mpr ⟨lw_p21, fun _ h => absurd h List.not_mem_nil⟩⟩⟩⟩⟩⟩
def lw_privs : List (MethodName × Nat) := lw_privs_1 ++ (lw_privs_2)
def lw_tbl : List Cond := k2_sels lw_privs ++ tables_1
theorem lw_privs_ok : ∀ q ∈ lw_privs, lw_okq q := by
  show ∀ q ∈ lw_privs_1 ++ (lw_privs_2), lw_okq q
  exact List.forall_mem_append.mpr ⟨lw_r1, lw_r2⟩
/-- the words that any method may have of the tables -/
def zTB : List Cond := lw_tbl.filter goodWord
theorem zTB_of {w : Cond} (h : w ∈ lw_tbl) (hg : goodWord w = true) : w ∈ zTB := List.mem_filter.mpr ⟨h, hg⟩
end
section
def R_Bytes : String := "PeerLine$Bytes"
def F_Bytes : u_T := fun k => match k with
  | 0 => ("PeerLine$Bytes", "limit", "I", true)
  | 1 => ("PeerLine$Bytes", "row", "[B", false)
  | _ => ("PeerLine$Bytes", "size", "I", false)
def t_Bytes : Nat → FieldType := fun k => match k with
  | 0 => .int
  | 1 => (.array .byte)
  | _ => .int
abbrev w_Bytes : List Cond := u_ws R_Bytes F_Bytes 3
theorem n_Bytes : ∀ a, a < 3 → ∀ b, b < 3 → a ≠ b → (F_Bytes a).2.1 ≠ (F_Bytes b).2.1 := by decide +kernel
theorem t_Bytes_ok : ∀ k, k < 3 → parseFieldDescriptor (F_Bytes k).2.2.1 = some (t_Bytes k) := by decide +kernel
theorem i_Bytes : ∀ w ∈ w_Bytes, w ∈ zTB := by decide +kernel
abbrev b_Bytes_init : ByteArray := prog_2_method_1_code
def y_Bytes_init : MethodName := ⟨R_Bytes, "<init>", "(I)V"⟩
abbrev b_Bytes_size : ByteArray := prog_2_method_2_code
def y_Bytes_size : MethodName := ⟨R_Bytes, "size", "()I"⟩
abbrev b_Bytes_at : ByteArray := prog_2_method_3_code
def y_Bytes_at : MethodName := ⟨R_Bytes, "at", "(I)I"⟩
abbrev b_Bytes_hasRoomFor : ByteArray := prog_2_method_4_code
def y_Bytes_hasRoomFor : MethodName := ⟨R_Bytes, "hasRoomFor", "(I)Z"⟩
abbrev b_Bytes_firstZero : ByteArray := prog_2_method_5_code
def y_Bytes_firstZero : MethodName := ⟨R_Bytes, "firstZero", "()I"⟩
abbrev b_Bytes_clear : ByteArray := prog_2_method_6_code
def y_Bytes_clear : MethodName := ⟨R_Bytes, "clear", "()V"⟩
abbrev b_Bytes_keepFirst : ByteArray := prog_2_method_7_code
def y_Bytes_keepFirst : MethodName := ⟨R_Bytes, "keepFirst", "(I)Z"⟩
abbrev b_Bytes_dropFirst : ByteArray := prog_2_method_8_code
def y_Bytes_dropFirst : MethodName := ⟨R_Bytes, "dropFirst", "(I)Z"⟩
abbrev b_Bytes_append : ByteArray := prog_2_method_9_code
def y_Bytes_append : MethodName := ⟨R_Bytes, "append", "(I)V"⟩
abbrev b_Bytes_appendNumber : ByteArray := prog_2_method_10_code
def y_Bytes_appendNumber : MethodName := ⟨R_Bytes, "appendNumber", "(I)V"⟩
abbrev b_Bytes_appendAll : ByteArray := prog_2_method_11_code
def y_Bytes_appendAll : MethodName := ⟨R_Bytes, "appendAll", "(LPeerLine$Bytes;)V"⟩
abbrev b_Bytes_copyFrom : ByteArray := prog_2_method_12_code
def y_Bytes_copyFrom : MethodName := ⟨R_Bytes, "copyFrom", "(II)LPeerLine$Bytes;"⟩
def R_Coming : String := "PeerLine$Coming"
def F_Coming : u_T := fun k => match k with
  | 0 => ("PeerLine$Coming", "times", "[J", true)
  | 1 => ("PeerLine$Coming", "answers", "[LPeerLine$Bytes;", true)
  | _ => ("PeerLine$Coming", "count", "I", false)
def t_Coming : Nat → FieldType := fun k => match k with
  | 0 => (.array .long)
  | 1 => (.array (.object "PeerLine$Bytes"))
  | _ => .int
abbrev w_Coming : List Cond := u_ws R_Coming F_Coming 3
theorem n_Coming : ∀ a, a < 3 → ∀ b, b < 3 → a ≠ b → (F_Coming a).2.1 ≠ (F_Coming b).2.1 := by decide +kernel
theorem t_Coming_ok : ∀ k, k < 3 → parseFieldDescriptor (F_Coming k).2.2.1 = some (t_Coming k) := by decide +kernel
theorem i_Coming : ∀ w ∈ w_Coming, w ∈ zTB := by decide +kernel
abbrev b_Coming_init : ByteArray := prog_3_method_1_code
def y_Coming_init : MethodName := ⟨R_Coming, "<init>", "()V"⟩
abbrev b_Coming_size : ByteArray := prog_3_method_2_code
def y_Coming_size : MethodName := ⟨R_Coming, "size", "()I"⟩
abbrev b_Coming_first : ByteArray := prog_3_method_3_code
def y_Coming_first : MethodName := ⟨R_Coming, "first", "()LPeerLine$Bytes;"⟩
abbrev b_Coming_firstTime : ByteArray := prog_3_method_4_code
def y_Coming_firstTime : MethodName := ⟨R_Coming, "firstTime", "()J"⟩
abbrev b_Coming_clear : ByteArray := prog_3_method_5_code
def y_Coming_clear : MethodName := ⟨R_Coming, "clear", "()V"⟩
abbrev b_Coming_add : ByteArray := prog_3_method_6_code
def y_Coming_add : MethodName := ⟨R_Coming, "add", "(JLPeerLine$Bytes;)V"⟩
abbrev b_Coming_dropFirst : ByteArray := prog_3_method_7_code
def y_Coming_dropFirst : MethodName := ⟨R_Coming, "dropFirst", "()V"⟩
def R_Pattern : String := "PeerLine$Pattern"
def F_Pattern : u_T := fun k => match k with
  | 0 => ("PeerLine$Pattern", "sets", "[J", true)
  | 1 => ("PeerLine$Pattern", "stars", "[Z", true)
  | _ => ("PeerLine$Pattern", "count", "I", false)
def t_Pattern : Nat → FieldType := fun k => match k with
  | 0 => (.array .long)
  | 1 => (.array .boolean)
  | _ => .int
abbrev w_Pattern : List Cond := u_ws R_Pattern F_Pattern 3
theorem n_Pattern : ∀ a, a < 3 → ∀ b, b < 3 → a ≠ b → (F_Pattern a).2.1 ≠ (F_Pattern b).2.1 := by decide +kernel
theorem t_Pattern_ok : ∀ k, k < 3 → parseFieldDescriptor (F_Pattern k).2.2.1 = some (t_Pattern k) := by decide +kernel
theorem i_Pattern : ∀ w ∈ w_Pattern, w ∈ zTB := by decide +kernel
abbrev b_Pattern_init : ByteArray := prog_4_method_1_code
def y_Pattern_init : MethodName := ⟨R_Pattern, "<init>", "(LPeerLine$Bytes;I)V"⟩
abbrev b_Pattern_readItem : ByteArray := prog_4_method_2_code
def y_Pattern_readItem : MethodName := ⟨R_Pattern, "readItem", "(LPeerLine$PatternReader;)V"⟩
abbrev b_Pattern_readChoice : ByteArray := prog_4_method_3_code
def y_Pattern_readChoice : MethodName := ⟨R_Pattern, "readChoice", "(LPeerLine$PatternReader;)V"⟩
abbrev b_Pattern_markStar : ByteArray := prog_4_method_4_code
def y_Pattern_markStar : MethodName := ⟨R_Pattern, "markStar", "()V"⟩
abbrev b_Pattern_allow : ByteArray := prog_4_method_5_code
def y_Pattern_allow : MethodName := ⟨R_Pattern, "allow", "(II)V"⟩
abbrev b_Pattern_isStar : ByteArray := prog_4_method_6_code
def y_Pattern_isStar : MethodName := ⟨R_Pattern, "isStar", "(I)Z"⟩
abbrev b_Pattern_starOrEndFrom : ByteArray := prog_4_method_7_code
def y_Pattern_starOrEndFrom : MethodName := ⟨R_Pattern, "starOrEndFrom", "(I)I"⟩
abbrev b_Pattern_behindLastStar : ByteArray := prog_4_method_8_code
def y_Pattern_behindLastStar : MethodName := ⟨R_Pattern, "behindLastStar", "()I"⟩
abbrev b_Pattern_fitsWhole : ByteArray := prog_4_method_9_code
def y_Pattern_fitsWhole : MethodName := ⟨R_Pattern, "fitsWhole", "(LPeerLine$Bytes;)Z"⟩
abbrev b_Pattern_shortestBeginning : ByteArray := prog_4_method_10_code
def y_Pattern_shortestBeginning : MethodName := ⟨R_Pattern, "shortestBeginning", "(LPeerLine$Bytes;)I"⟩
abbrev b_Pattern_earliestEnd : ByteArray := prog_4_method_11_code
def y_Pattern_earliestEnd : MethodName := ⟨R_Pattern, "earliestEnd", "(LPeerLine$Bytes;IIII)I"⟩
abbrev b_Pattern_earliestPlace : ByteArray := prog_4_method_12_code
def y_Pattern_earliestPlace : MethodName := ⟨R_Pattern, "earliestPlace", "(LPeerLine$Bytes;IIII)I"⟩
abbrev b_Pattern_standsAt : ByteArray := prog_4_method_13_code
def y_Pattern_standsAt : MethodName := ⟨R_Pattern, "standsAt", "(LPeerLine$Bytes;III)Z"⟩
def R_Reader : String := "PeerLine$PatternReader"
def F_Reader : u_T := fun k => match k with
  | 0 => ("PeerLine$PatternReader", "source", "LPeerLine$Bytes;", true)
  | 1 => ("PeerLine$PatternReader", "length", "I", true)
  | _ => ("PeerLine$PatternReader", "at", "I", false)
def t_Reader : Nat → FieldType := fun k => match k with
  | 0 => .object "PeerLine$Bytes"
  | 1 => .int
  | _ => .int
abbrev w_Reader : List Cond := u_ws R_Reader F_Reader 3
theorem n_Reader : ∀ a, a < 3 → ∀ b, b < 3 → a ≠ b → (F_Reader a).2.1 ≠ (F_Reader b).2.1 := by decide +kernel
theorem t_Reader_ok : ∀ k, k < 3 → parseFieldDescriptor (F_Reader k).2.2.1 = some (t_Reader k) := by decide +kernel
theorem i_Reader : ∀ w ∈ w_Reader, w ∈ zTB := by decide +kernel
abbrev b_Reader_init : ByteArray := prog_5_method_1_code
def y_Reader_init : MethodName := ⟨R_Reader, "<init>", "(LPeerLine$Bytes;I)V"⟩
abbrev b_Reader_ahead : ByteArray := prog_5_method_2_code
def y_Reader_ahead : MethodName := ⟨R_Reader, "ahead", "(I)I"⟩
abbrev b_Reader_skip : ByteArray := prog_5_method_3_code
def y_Reader_skip : MethodName := ⟨R_Reader, "skip", "()V"⟩
abbrev b_Reader_nextItself : ByteArray := prog_5_method_4_code
def y_Reader_nextItself : MethodName := ⟨R_Reader, "nextItself", "()I"⟩
def R_Rule : String := "PeerLine$Rule"
def F_Rule : u_T := fun k => match k with
  | 0 => ("PeerLine$Rule", "state", "I", true)
  | 1 => ("PeerLine$Rule", "pattern", "LPeerLine$Pattern;", true)
  | 2 => ("PeerLine$Rule", "answer", "LPeerLine$Bytes;", true)
  | 3 => ("PeerLine$Rule", "delay", "I", true)
  | _ => ("PeerLine$Rule", "next", "I", true)
def t_Rule : Nat → FieldType := fun k => match k with
  | 0 => .int
  | 1 => .object "PeerLine$Pattern"
  | 2 => .object "PeerLine$Bytes"
  | 3 => .int
  | _ => .int
abbrev w_Rule : List Cond := u_ws R_Rule F_Rule 5
theorem n_Rule : ∀ a, a < 5 → ∀ b, b < 5 → a ≠ b → (F_Rule a).2.1 ≠ (F_Rule b).2.1 := by decide +kernel
theorem t_Rule_ok : ∀ k, k < 5 → parseFieldDescriptor (F_Rule k).2.2.1 = some (t_Rule k) := by decide +kernel
theorem i_Rule : ∀ w ∈ w_Rule, w ∈ zTB := by decide +kernel
abbrev b_Rule_init : ByteArray := prog_6_method_1_code
def y_Rule_init : MethodName := ⟨R_Rule, "<init>", "(ILPeerLine$Pattern;LPeerLine$Bytes;II)V"⟩
def R_Peer : String := "PeerLine"
def F_Peer : u_T := fun k => match k with
  | 0 => ("PeerLine", "tape", "LPeerLine$Bytes;", true)
  | 1 => ("PeerLine", "line", "LPeerLine$Bytes;", true)
  | 2 => ("PeerLine", "buffer", "LPeerLine$Bytes;", true)
  | 3 => ("PeerLine", "transcript", "LPeerLine$Bytes;", true)
  | 4 => ("PeerLine", "rules", "[LPeerLine$Rule;", true)
  | 5 => ("PeerLine", "coming", "LPeerLine$Coming;", true)
  | 6 => ("PeerLine", "ruleCount", "I", false)
  | 7 => ("PeerLine", "hasPeer", "Z", false)
  | 8 => ("PeerLine", "peerState", "I", false)
  | _ => ("PeerLine", "time", "J", false)
def t_Peer : Nat → FieldType := fun k => match k with
  | 0 => .object "PeerLine$Bytes"
  | 1 => .object "PeerLine$Bytes"
  | 2 => .object "PeerLine$Bytes"
  | 3 => .object "PeerLine$Bytes"
  | 4 => (.array (.object "PeerLine$Rule"))
  | 5 => .object "PeerLine$Coming"
  | 6 => .int
  | 7 => .boolean
  | 8 => .int
  | _ => .long
abbrev w_Peer : List Cond := u_ws R_Peer F_Peer 10
theorem n_Peer : ∀ a, a < 10 → ∀ b, b < 10 → a ≠ b → (F_Peer a).2.1 ≠ (F_Peer b).2.1 := by decide +kernel
theorem t_Peer_ok : ∀ k, k < 10 → parseFieldDescriptor (F_Peer k).2.2.1 = some (t_Peer k) := by decide +kernel
theorem i_Peer : ∀ w ∈ w_Peer, w ∈ zTB := by decide +kernel
abbrev b_Peer_init : ByteArray := prog_1_method_1_code
def y_Peer_init : MethodName := ⟨R_Peer, "<init>", "()V"⟩
abbrev b_Peer_feed : ByteArray := prog_1_method_2_code
def y_Peer_feed : MethodName := ⟨R_Peer, "feed", "(IIIII)Z"⟩
abbrev b_Peer_end : ByteArray := prog_1_method_3_code
def y_Peer_end : MethodName := ⟨R_Peer, "end", "(I)Z"⟩
abbrev b_Peer_rule : ByteArray := prog_1_method_4_code
def y_Peer_rule : MethodName := ⟨R_Peer, "rule", "(III)I"⟩
abbrev b_Peer_spawn : ByteArray := prog_1_method_5_code
def y_Peer_spawn : MethodName := ⟨R_Peer, "spawn", "()V"⟩
abbrev b_Peer_send : ByteArray := prog_1_method_6_code
def y_Peer_send : MethodName := ⟨R_Peer, "send", "()Z"⟩
abbrev b_Peer_put : ByteArray := prog_1_method_7_code
def y_Peer_put : MethodName := ⟨R_Peer, "put", "()V"⟩
abbrev b_Peer_come : ByteArray := prog_1_method_8_code
def y_Peer_come : MethodName := ⟨R_Peer, "come", "(J)J"⟩
abbrev b_Peer_fit : ByteArray := prog_1_method_9_code
def y_Peer_fit : MethodName := ⟨R_Peer, "fit", "()I"⟩
abbrev b_Peer_take : ByteArray := prog_1_method_10_code
def y_Peer_take : MethodName := ⟨R_Peer, "take", "(I)Z"⟩
abbrev b_Peer_pass : ByteArray := prog_1_method_11_code
def y_Peer_pass : MethodName := ⟨R_Peer, "pass", "(J)J"⟩
abbrev b_Peer_total : ByteArray := prog_1_method_12_code
def y_Peer_total : MethodName := ⟨R_Peer, "total", "(I)I"⟩
abbrev b_Peer_bufferAt : ByteArray := prog_1_method_13_code
def y_Peer_bufferAt : MethodName := ⟨R_Peer, "bufferAt", "(I)I"⟩
abbrev b_Peer_toldAt : ByteArray := prog_1_method_14_code
def y_Peer_toldAt : MethodName := ⟨R_Peer, "toldAt", "(I)I"⟩
abbrev b_Peer_isState : ByteArray := prog_1_method_15_code
def y_Peer_isState : MethodName := ⟨R_Peer, "isState", "(I)Z"⟩
abbrev b_Peer_tapeIsRule : ByteArray := prog_1_method_16_code
def y_Peer_tapeIsRule : MethodName := ⟨R_Peer, "tapeIsRule", "(I)Z"⟩
abbrev b_Peer_giveTapeToPeer : ByteArray := prog_1_method_17_code
def y_Peer_giveTapeToPeer : MethodName := ⟨R_Peer, "giveTapeToPeer", "()V"⟩
abbrev b_Peer_answerLine : ByteArray := prog_1_method_18_code
def y_Peer_answerLine : MethodName := ⟨R_Peer, "answerLine", "()V"⟩
abbrev b_Peer_tell : ByteArray := prog_1_method_19_code
def y_Peer_tell : MethodName := ⟨R_Peer, "tell", "(ILPeerLine$Bytes;Z)V"⟩
def R_Model : String := "PeerLineModel"
def F_Model : u_T := fun k => match k with
  | 0 => ("PeerLineModel", "tape", "[B", true)
  | 1 => ("PeerLineModel", "taped", "I", false)
  | 2 => ("PeerLineModel", "rules", "I", false)
  | 3 => ("PeerLineModel", "state", "[I", true)
  | 4 => ("PeerLineModel", "delay", "[I", true)
  | 5 => ("PeerLineModel", "next", "[I", true)
  | 6 => ("PeerLineModel", "patternSize", "[I", true)
  | 7 => ("PeerLineModel", "answerSize", "[I", true)
  | 8 => ("PeerLineModel", "patterns", "[B", true)
  | 9 => ("PeerLineModel", "answers", "[B", true)
  | 10 => ("PeerLineModel", "there", "Z", false)
  | 11 => ("PeerLineModel", "now", "I", false)
  | 12 => ("PeerLineModel", "lineSize", "I", false)
  | 13 => ("PeerLineModel", "line", "[B", true)
  | 14 => ("PeerLineModel", "coming", "I", false)
  | 15 => ("PeerLineModel", "when", "[J", true)
  | 16 => ("PeerLineModel", "which", "[I", true)
  | 17 => ("PeerLineModel", "time", "J", false)
  | 18 => ("PeerLineModel", "came", "I", false)
  | 19 => ("PeerLineModel", "told", "I", false)
  | 20 => ("PeerLineModel", "buffer", "[B", true)
  | 21 => ("PeerLineModel", "transcript", "[B", true)
  | _ => ("PeerLineModel", "fits", "[Z", true)
def t_Model : Nat → FieldType := fun k => match k with
  | 0 => (.array .byte)
  | 1 => .int
  | 2 => .int
  | 3 => (.array .int)
  | 4 => (.array .int)
  | 5 => (.array .int)
  | 6 => (.array .int)
  | 7 => (.array .int)
  | 8 => (.array .byte)
  | 9 => (.array .byte)
  | 10 => .boolean
  | 11 => .int
  | 12 => .int
  | 13 => (.array .byte)
  | 14 => .int
  | 15 => (.array .long)
  | 16 => (.array .int)
  | 17 => .long
  | 18 => .int
  | 19 => .int
  | 20 => (.array .byte)
  | 21 => (.array .byte)
  | _ => (.array .boolean)
abbrev w_Model : List Cond := u_ws R_Model F_Model 23
theorem n_Model : ∀ a, a < 23 → ∀ b, b < 23 → a ≠ b → (F_Model a).2.1 ≠ (F_Model b).2.1 := by decide +kernel
theorem t_Model_ok : ∀ k, k < 23 → parseFieldDescriptor (F_Model k).2.2.1 = some (t_Model k) := by decide +kernel
theorem i_Model : ∀ w ∈ w_Model, w ∈ zTB := by decide +kernel
abbrev b_Model_init : ByteArray := prog_8_method_1_code
def y_Model_init : MethodName := ⟨R_Model, "<init>", "()V"⟩
abbrev b_Model_in : ByteArray := prog_8_method_2_code
def y_Model_in : MethodName := ⟨R_Model, "in", "(III)Z"⟩
abbrev b_Model_lay : ByteArray := prog_8_method_3_code
def y_Model_lay : MethodName := ⟨R_Model, "lay", "(I)V"⟩
abbrev b_Model_feed : ByteArray := prog_8_method_4_code
def y_Model_feed : MethodName := ⟨R_Model, "feed", "(IIIII)Z"⟩
abbrev b_Model_end : ByteArray := prog_8_method_5_code
def y_Model_end : MethodName := ⟨R_Model, "end", "(I)Z"⟩
abbrev b_Model_isOneOf : ByteArray := prog_8_method_6_code
def y_Model_isOneOf : MethodName := ⟨R_Model, "isOneOf", "([BIII)Z"⟩
abbrev b_Model_itself : ByteArray := prog_8_method_7_code
def y_Model_itself : MethodName := ⟨R_Model, "itself", "([BII)I"⟩
abbrev b_Model_behind : ByteArray := prog_8_method_8_code
def y_Model_behind : MethodName := ⟨R_Model, "behind", "([BII)I"⟩
abbrev b_Model_closing : ByteArray := prog_8_method_9_code
def y_Model_closing : MethodName := ⟨R_Model, "closing", "([BII)I"⟩
abbrev b_Model_one : ByteArray := prog_8_method_10_code
def y_Model_one : MethodName := ⟨R_Model, "one", "([BII[BI)V"⟩
abbrev b_Model_go : ByteArray := prog_8_method_11_code
def y_Model_go : MethodName := ⟨R_Model, "go", "([BII[BI)V"⟩
abbrev b_Model_fitsLine : ByteArray := prog_8_method_12_code
def y_Model_fitsLine : MethodName := ⟨R_Model, "fitsLine", "(I)Z"⟩
abbrev b_Model_rule : ByteArray := prog_8_method_13_code
def y_Model_rule : MethodName := ⟨R_Model, "rule", "(III)I"⟩
abbrev b_Model_gets : ByteArray := prog_8_method_14_code
def y_Model_gets : MethodName := ⟨R_Model, "gets", "()V"⟩
abbrev b_Model_spawn : ByteArray := prog_8_method_15_code
def y_Model_spawn : MethodName := ⟨R_Model, "spawn", "()V"⟩
abbrev b_Model_tell : ByteArray := prog_8_method_16_code
def y_Model_tell : MethodName := ⟨R_Model, "tell", "(I[BII)V"⟩
abbrev b_Model_send : ByteArray := prog_8_method_17_code
def y_Model_send : MethodName := ⟨R_Model, "send", "()Z"⟩
abbrev b_Model_put : ByteArray := prog_8_method_18_code
def y_Model_put : MethodName := ⟨R_Model, "put", "()V"⟩
abbrev b_Model_keep : ByteArray := prog_8_method_19_code
def y_Model_keep : MethodName := ⟨R_Model, "keep", "(I)V"⟩
abbrev b_Model_drop : ByteArray := prog_8_method_20_code
def y_Model_drop : MethodName := ⟨R_Model, "drop", "(I)V"⟩
abbrev b_Model_come : ByteArray := prog_8_method_21_code
def y_Model_come : MethodName := ⟨R_Model, "come", "(J)J"⟩
abbrev b_Model_fit : ByteArray := prog_8_method_22_code
def y_Model_fit : MethodName := ⟨R_Model, "fit", "()I"⟩
abbrev b_Model_take : ByteArray := prog_8_method_23_code
def y_Model_take : MethodName := ⟨R_Model, "take", "(I)Z"⟩
abbrev b_Model_pass : ByteArray := prog_8_method_24_code
def y_Model_pass : MethodName := ⟨R_Model, "pass", "(J)J"⟩
abbrev b_Model_total : ByteArray := prog_8_method_25_code
def y_Model_total : MethodName := ⟨R_Model, "total", "(I)I"⟩
abbrev b_Model_bufferAt : ByteArray := prog_8_method_26_code
def y_Model_bufferAt : MethodName := ⟨R_Model, "bufferAt", "(I)I"⟩
abbrev b_Model_toldAt : ByteArray := prog_8_method_27_code
def y_Model_toldAt : MethodName := ⟨R_Model, "toldAt", "(I)I"⟩
def R_Arrays : String := "java/util/Arrays"
abbrev b_Arrays_copyOf : ByteArray := prog_12_method_121_code
def y_Arrays_copyOf : MethodName := ⟨R_Arrays, "copyOf", "([BI)[B"⟩
abbrev classes : List vw_C := [(R_Bytes, F_Bytes, 3), (R_Coming, F_Coming, 3), (R_Pattern, F_Pattern, 3), (R_Reader, F_Reader, 3), (R_Rule, F_Rule, 5), (R_Peer, F_Peer, 10), (R_Model, F_Model, 23)]
abbrev zTY (kA : Nat → ClassId) : List (ClassId × FieldType) := [(kA 0, .byte), (kA 1, .long), (kA 2, .boolean), (kA 3, .int), (kA 4, .object "PeerLine$Rule"), (kA 5, .object "PeerLine$Bytes")]
end
section
/-! My own small kit: every method has the words of the whole table; a start is the tables' classes and what the heap holds; a pure method leaves the heap as it was -/
theorem zk_good : ∀ w ∈ zTB, (w.onTables && w.keeps) = true ∨ ∃ ty, w = .arrayClass ty := fun _ hw => good_of_word (List.mem_filter.mp hw).2
/-- what the tables say beside: links to a nest mate's private fields, arrays of objects -/
def zk_X (U : State) : Prop := (va_Nw (.fieldLinkNest "PeerLine" 150 "PeerLine$Rule" "state" "I" "PeerLine") U ∧ va_Nw (.fieldLinkNest "PeerLine" 153 "PeerLine$Rule" "pattern" "LPeerLine$Pattern;" "PeerLine") U ∧ va_Nw (.fieldLinkNest "PeerLine" 161 "PeerLine$Rule" "next" "I" "PeerLine") U ∧ va_Nw (.fieldLinkNest "PeerLine" 164 "PeerLine$Rule" "delay" "I" "PeerLine") U ∧ va_Nw (.fieldLinkNest "PeerLine" 167 "PeerLine$Rule" "answer" "LPeerLine$Bytes;" "PeerLine") U) ∧ va_AO "PeerLine$Rule" U ∧ va_AO "PeerLine$Bytes" U
theorem zk_X.moved {s U : State} (hW : s.WarmedH U.vm) (h : zk_X s) : zk_X U := ⟨⟨va_Nw.warmF hW h.1.1, va_Nw.warmF hW h.1.2.1, va_Nw.warmF hW h.1.2.2.1, va_Nw.warmF hW h.1.2.2.2.1, va_Nw.warmF hW h.1.2.2.2.2⟩, va_AO.moved hW.alike h.2.1, va_AO.moved hW.alike h.2.2⟩
def zk_Pc (D : va_G) (cl : List vw_C) (tys : List (ClassId × FieldType)) (av : List Value) (P : Heap → Prop) : Array Value → State → Prop := va_Pc av (fun U => va_K D cl tys U ∧ zk_X U ∧ P U.heap)
def zk_pQ (v : Option Value) : Array Value → State → Outcome → State → Prop := fun _ st oc t => oc = .returned v ∧ t.heap = st.heap
def zk_no : Addr → Prop := fun _ => False
def zk_mQ (post : Option Value → Heap → Prop) (A : Nat → Prop) : Array Value → State → Outcome → State → Prop := fun _ st oc t => (∃ v, oc = .returned v ∧ post v t.heap) ∧ va_F A st t
theorem zk_blind {D : va_G} {cl : List vw_C} {tys : List (ClassId × FieldType)} {av : List Value} {P : Heap → Prop} : FrameBlind (zk_Pc D cl tys av P) := fun a U g mk h => ⟨h.1, va_K.moved (u := U) (U := U.calling g mk a) (Vm.Alike.refl U.vm) h.2.1, zk_X.moved (s := U) (U := U.calling g mk a) (State.WarmedH.refl U) h.2.2.1, h.2.2.2⟩
theorem zk_P1 {D : va_G} {cl : List vw_C} {q : Nat × va_E} {H : Heap} (h : va_at D cl q H) : va_P D cl [q] H := by
  intro k x hk
  cases k with
  | zero => cases hk; exact h
  | succ k => simp at hk
/-- what was there at the start, and isn't the method's own, is there still -/
theorem zk_ro {D : va_G} {cl : List vw_C} {q : Nat × va_E} {A : Nat → Prop} {H0 H : Heap} {locs : List Loc} (hS : va_S A H0 H locs) (h : va_at D cl q H0) (hq : ¬ A q.1) : va_at D cl q H := h.kept (hS.2.1 q.1 h.lt hq)
/-- the words of a call of an instance method -/
def zk_wV (own : String) (idx : Nat) (y : MethodName) (b : ByteArray) (mL : Nat) (ret : Option FieldType) (n : Nat) : Prop := (Cond.methodLink own idx y ∈ zTB ∧ Cond.instanceMethod y ∈ zTB ∧ Cond.selects y.cls y y ∈ zTB ∧ Cond.initialized y.cls ∈ zTB) ∧ Cond.code y b mL ret ∈ zTB ∧ y.cls ≠ "java/lang/invoke/MethodHandle" ∧ y.cls ≠ "java/lang/invoke/VarHandle" ∧ (parseMethodDescriptor y.desc).map (fun d => d.parameters.length) = some n
def zk_wS (own : String) (idx : Nat) (y : MethodName) (b : ByteArray) (mL : Nat) (ret : Option FieldType) (n : Nat) : Prop := (Cond.methodLink own idx y ∈ zTB ∧ Cond.static y ∈ zTB ∧ Cond.initialized y.cls ∈ zTB) ∧ Cond.code y b mL ret ∈ zTB ∧ y.cls ≠ "java/lang/invoke/MethodHandle" ∧ y.cls ≠ "java/lang/invoke/VarHandle" ∧ (parseMethodDescriptor y.desc).map (fun d => d.parameters.length) = some n
def zk_wI (own : String) (idx : Nat) (y : MethodName) (b : ByteArray) (mL : Nat) (n : Nat) : Prop := (Cond.methodLink own idx y ∈ zTB ∧ Cond.instanceMethod y ∈ zTB ∧ Cond.initialized y.cls ∈ zTB ∧ y.name = "<init>") ∧ Cond.code y b mL none ∈ zTB ∧ y.cls ≠ "java/lang/invoke/MethodHandle" ∧ y.cls ≠ "java/lang/invoke/VarHandle" ∧ (parseMethodDescriptor y.desc).map (fun d => d.parameters.length) = some n
theorem zk_goodIn {y : MethodName} {b : ByteArray} {mL : Nat} {ret : Option FieldType} (h : Cond.code y b mL ret ∈ zTB) : GoodIn zTB (Cond.code y b mL ret :: zTB) := by
  intro w hw
  rcases List.mem_cons.mp hw with rfl | hw
  · exact ⟨h, zk_good _ h⟩
  · exact ⟨hw, zk_good _ hw⟩
section
variable {p : Program} {l : Launch} {e : Env} {R : Room} {s : State} {m : MethodId} {args : Array Value} {below : List Frame} {meth : Method} {c : Code} {H : Heap} {locs : List Loc} {cells slots : Nat} {Q : State → Prop}
variable {cc : ByteArray} {pc nL idx : Nat} {own : String} {ls : Array Slot} {rest st0 : List Value} {D : va_G} {cl : List vw_C} {A : Nat → Prop} {a : Nat} {tys : List (ClassId × FieldType)} {ws : va_W} {H0 : Heap}
variable {y : MethodName} {b : ByteArray} {mL n mc ms : Nat} {ret : Option FieldType} {rm : Room} {Pc : Array Value → State → Prop} {P : Heap → Prop} {Qc : Array Value → State → Outcome → State → Prop} {free : Addr → Prop} {As : List Value}
theorem zk_cB (ht : ∀ w ∈ zTB, w.before args s = true) (h1 : Cond.methodLink own idx y ∈ zTB) (h4 : Cond.initialized y.cls ∈ zTB) (h5 : Cond.code y b mL ret ∈ zTB) (hd : y.cls ≠ "java/lang/invoke/MethodHandle" ∧ y.cls ≠ "java/lang/invoke/VarHandle" ∧ (parseMethodDescriptor y.desc).map (fun d => d.parameters.length) = some n) (hrc : rm.cells = mc) (hrs : rm.slots = ms) (hR : rm.frames + 1 ≤ R.frames ∧ 8 + (mL + 11) + rm.locals ≤ R.locals) : CallB R s args own idx y b mL ret (Cond.code y b mL ret :: zTB) rm mc ms n :=
  callB_of (Ts := zTB) n ht (zk_goodIn h5) rfl hrc hrs (ht _ h4) (ht _ h1) hd hR
theorem zk_of (av : List Value) (hy : plainName y.cls = true) (hn : (lg_sl av).length ≤ mL)
    (body : ∀ (p : Program) (e : Env) (s : State) (m : MethodId) (below : List Frame) (meth : Method) (c : Code), CallFix p m c cc mL s av.toArray zTB y.cls → meth.sig.returnType = ret → meth.locks = false → meth.name = y.name → va_K D cl tys s → zk_X s → P s.heap → ∀ ls : Array Slot, lv_has ls mL (lv_args 0 av) →
      W p l e rm s m av.toArray below meth c s.heap [] 0 0 (MQ below Qc av.toArray s mc ms free) (F0 m 0 ls [])) : Met l y (Cond.code y cc mL ret :: zTB) rm (zk_Pc D cl tys av P) Qc mc ms free := by
  refine Met.ofW (cc := cc) (maxL := mL) (ret := ret) hy rfl ?_
  intro p e s m args below meth c s₁ B0 hml hv
  obtain ⟨rfl, hK, hX, hP⟩ := hv
  rw [lg_entry_eq]
  exact body p e s m below meth c ⟨B0.exec, B0.bytes, hml, findClass_of_methodNamed B0.named, fun w hw => atoms_spec (ws := Cond.code y cc mL ret :: zTB) B0.pre w (List.mem_cons_of_mem _ hw)⟩ B0.returns B0.notSynchronized (name_of_methodNamed B0.named B0.method).1 hK hX hP _ (lv_entry av hn)
/-- a receiver is an object of its class -/
theorem zk_recv {ci : Nat} {q : vw_C} {fs : List Value} (hK : va_K D cl tys s) (h : va_at D cl (a, .inr (ci, fs)) H) (hc : cl[ci]? = some q) : ∃ cell : Cell, H[a]? = some cell ∧ cell.vm.isStatics = false ∧ s.vm.findClass q.1 = some cell.cls := va_recv hK (zk_P1 h) hc (q0 := 0) rfl
theorem zk_runV (S : CallFix p m c cc nL s args zTB own) (hw : zk_wV own idx y b mL ret n) (hM : Met l y (Cond.code y b mL ret :: zTB) rm (zk_Pc D cl tys (.ref a :: As) P) Qc mc ms free) (hrc : rm.cells = mc) (hrs : rm.slots = ms) (hR : rm.frames + 1 ≤ R.frames ∧ 8 + (mL + 11) + rm.locals ≤ R.locals) (hK : va_K D cl tys s) (hX : zk_X s) (hr : ∃ cell : Cell, H[a]? = some cell ∧ cell.vm.isStatics = false ∧ s.vm.findClass y.cls = some cell.cls) (hP : P H)
    (hn : As.length = n) (hsize : ls.size = nL) (hst : st0 = As.reverse ++ .ref a :: rest) (hro : (rest.map fun v => v.category).sum ≤ 8) (hf : cells + mc ≤ R.cells ∧ slots + ms ≤ R.slots) (hdg : decode cc pc = .ok (.invokevirtual idx, 3)) :
    va_Run p l e R s m args below meth c H locs cells slots mc ms (F0 m pc ls st0) rest (Qc (Value.ref a :: As).toArray) free := by
  obtain ⟨⟨h1, h2, h3, h4⟩, h5, hd⟩ := hw
  have ht := S.2.2.2.2
  exact va_runV S hM ⟨zk_cB ht h1 h4 h5 hd hrc hrs hR, ht _ h2, ht _ h3⟩ ⟨zk_blind, hr, fun U hU hW => ⟨rfl, va_K.moved hW.alike hK, zk_X.moved hW hX, by rw [hU]; exact hP⟩⟩ rfl hn hsize hst (lv_room hro) hdg hf
theorem zk_runS (S : CallFix p m c cc nL s args zTB own) (hw : zk_wS own idx y b mL ret n) (hM : Met l y (Cond.code y b mL ret :: zTB) rm (zk_Pc D cl tys As P) Qc mc ms free) (hrc : rm.cells = mc) (hrs : rm.slots = ms) (hR : rm.frames + 1 ≤ R.frames ∧ 8 + (mL + 11) + rm.locals ≤ R.locals) (hK : va_K D cl tys s) (hX : zk_X s) (hP : P H)
    (hn : As.length = n) (hsize : ls.size = nL) (hst : st0 = As.reverse ++ rest) (hro : (rest.map fun v => v.category).sum ≤ 8) (hf : cells + mc ≤ R.cells ∧ slots + ms ≤ R.slots) (hdg : decode cc pc = .ok (.invokestatic idx, 3)) :
    va_Run p l e R s m args below meth c H locs cells slots mc ms (F0 m pc ls st0) rest (Qc As.toArray) free := by
  obtain ⟨⟨h1, h2, h4⟩, h5, hd⟩ := hw
  have ht := S.2.2.2.2
  exact va_runS S hM ⟨zk_cB ht h1 h4 h5 hd hrc hrs hR, ht _ h2⟩ ⟨zk_blind, fun U hU hW => ⟨rfl, va_K.moved hW.alike hK, zk_X.moved hW hX, by rw [hU]; exact hP⟩⟩ rfl hn hsize hst (lv_room hro) hdg hf
theorem zk_runI (S : CallFix p m c cc nL s args zTB own) (hw : zk_wI own idx y b mL n) (hM : Met l y (Cond.code y b mL none :: zTB) rm (zk_Pc D cl tys (.ref a :: As) P) Qc mc ms free) (hrc : rm.cells = mc) (hrs : rm.slots = ms) (hR : rm.frames + 1 ≤ R.frames ∧ 8 + (mL + 11) + rm.locals ≤ R.locals) (hK : va_K D cl tys s) (hX : zk_X s) (hP : P H)
    (hn : As.length = n) (hsize : ls.size = nL) (hst : st0 = As.reverse ++ .ref a :: rest) (hro : (rest.map fun v => v.category).sum ≤ 8) (hf : cells + mc ≤ R.cells ∧ slots + ms ≤ R.slots) (hdg : decode cc pc = .ok (.invokespecial idx, 3)) :
    va_Run p l e R s m args below meth c H locs cells slots mc ms (F0 m pc ls st0) rest (Qc (Value.ref a :: As).toArray) free := by
  obtain ⟨⟨h1, h2, h4, h6⟩, h5, hd⟩ := hw
  have ht := S.2.2.2.2
  exact va_runI S hM ⟨zk_cB ht h1 h4 h5 hd hrc hrs hR, h6, ht _ h2⟩ ⟨zk_blind, fun U hU hW => ⟨rfl, va_K.moved hW.alike hK, zk_X.moved hW hX, by rw [hU]; exact hP⟩⟩ rfl hn hsize hst (lv_room hro) hdg hf
/-- behind a call of a pure method: the answer, all else as it was -/
theorem zk_pure {v : Value} {ar : Array Value} (hr : va_Run p l e R s m args below meth c H locs cells slots 0 0 (F0 m pc ls st0) rest (zk_pQ (some v) ar) zk_no) (kk : W p l e R s m args below meth c H locs cells slots Q (F0 m (pc + 3) ls (v :: rest))) : W p l e R s m args below meth c H locs cells slots Q (F0 m pc ls st0) := by
  intro T hT X
  obtain ⟨v', st₀, t, T', L, h0, X', hL, e1, e2, ⟨hv, hh⟩, st⟩ := hr T hT X
  have hL0 : L = [] := by
    cases L with
    | nil => rfl
    | cons q L => exact (hL q List.mem_cons_self).elim
  subst hL0
  cases hv
  rw [List.append_nil] at X'
  obtain ⟨t2, a1, b1⟩ := kk T' (by rw [e1, hh, h0]) X'
  exact ⟨t2, st t2 a1, b1⟩
/-- behind a call of a method that changes cells of A1 -/
theorem zk_mut {post : Option Value → Heap → Prop} {ar : Array Value} {A1 : Nat → Prop} (hr : va_Run p l e R s m args below meth c H locs cells slots mc ms (F0 m pc ls st0) rest (zk_mQ post A1 ar) free) (hS : va_S A H0 H locs) (hA : ∀ q, A1 q → A q) (hf : ∀ q, free q → A q)
    (kk : ∀ (v : Option Value) (H1 : Heap) (locs1 : List Loc), post v H1 → H.size ≤ H1.size → (∀ q : Nat, q < H.size → ¬ A1 q → H1[q]? = H[q]?) → va_S A H0 H1 locs1 → W p l e R s m args below meth c H1 locs1 (cells + mc) (slots + ms) Q (F0 m (pc + 3) ls (v.toList ++ rest))) : W p l e R s m args below meth c H locs cells slots Q (F0 m pc ls st0) := by
  intro T hT X
  obtain ⟨v, st₀, t, T', L, h0, X', hL, e1, e2, ⟨⟨v', hv, hb⟩, hz, hk⟩, st⟩ := hr T hT X
  cases hv
  rw [h0] at hz hk
  rw [← e1] at hz hk hb
  obtain ⟨t2, a1, b1⟩ := kk v T'.heap (locs ++ L) hb hz hk
    ⟨Nat.le_trans hS.1 hz, fun q h1 h2 => by rw [hk q (Nat.lt_of_lt_of_le h1 hS.1) (fun z => h2 (hA q z))]; exact hS.2.1 q h1 h2, fun q hq => by
      rcases List.mem_append.mp hq with h | h
      · exact hS.2.2 q h
      · exact hf _ (hL q h)⟩ T' rfl X'
  exact ⟨t2, st t2 a1, b1⟩
/-- the top of the stack under another name -/
theorem zk_ti {x z : Int32} (h : x = z) (kk : W p l e R s m args below meth c H locs cells slots Q (F0 m pc ls (.int z :: rest))) : W p l e R s m args below meth c H locs cells slots Q (F0 m pc ls (.int x :: rest)) := by
  rw [h]; exact kk
theorem zk_tl {x z : Int64} (h : x = z) (kk : W p l e R s m args below meth c H locs cells slots Q (F0 m pc ls (.long z :: rest))) : W p l e R s m args below meth c H locs cells slots Q (F0 m pc ls (.long x :: rest)) := by
  rw [h]; exact kk
/-- fields and elements, read from a cell that is known -/
theorem zk_get (S : CallFix p m c cc nL s args zTB own) (hK : va_K D cl tys s) {C ref : String} {T : u_T} {N ci : Nat} {fs : List Value} (h : va_at D cl (a, .inr (ci, fs)) H) (hc : cl[ci]? = some (C, T, N)) (hin : ∀ w ∈ u_ws C T N, w ∈ zTB) (k : Nat) (hk : k < N) (hl : Cond.fieldLink own idx ref (T k).2.1 (T k).2.2.1 ∈ zTB) (hs : (T k).1 = ref) {v : Value} (hv : fs[k]? = some v) (hdg : decode cc pc = .ok (.getfield idx, 3))
    (kk : W p l e R s m args below meth c H locs cells slots Q (F0 m (pc + 3) ls (v :: rest))) : W p l e R s m args below meth c H locs cells slots Q (F0 m pc ls (.ref a :: rest)) := by
  subst hs
  exact va_get S.1 S.2.1 S.2.2.2.2 hin S.2.2.2.1 hK (zk_P1 h) 0 rfl hc k hk (S.2.2.2.2 _ hl) (fun _ h9 => h9) hv hdg kk
theorem zk_bald (S : CallFix p m c cc nL s args zTB own) (hK : va_K D cl tys s) (t0 : Nat) {cA : ClassId} {N : Nat} {f : Nat → Int32} (h : va_at D cl (a, .inl (cA, N, .inl f)) H) (ht : tys[t0]? = some (cA, .byte)) {i : Int32} (hi : vp_in i N) (hdg : decode cc pc = .ok (.baload, 1))
    (kk : W p l e R s m args below meth c H locs cells slots Q (F0 m (pc + 1) ls (.int (f i.toNatClampNeg) :: rest))) : W p l e R s m args below meth c H locs cells slots Q (F0 m pc ls (.int i :: .ref a :: rest)) := va_bald S.1 S.2.1 hK (zk_P1 h) 0 t0 rfl ht hi hdg kk
theorem zk_zald (S : CallFix p m c cc nL s args zTB own) (hK : va_K D cl tys s) (t0 : Nat) {cA : ClassId} {N : Nat} {f : Nat → Int32} (h : va_at D cl (a, .inl (cA, N, .inl f)) H) (ht : tys[t0]? = some (cA, .boolean)) {i : Int32} (hi : vp_in i N) (hdg : decode cc pc = .ok (.baload, 1))
    (kk : W p l e R s m args below meth c H locs cells slots Q (F0 m (pc + 1) ls (.int (f i.toNatClampNeg) :: rest))) : W p l e R s m args below meth c H locs cells slots Q (F0 m pc ls (.int i :: .ref a :: rest)) := va_zald S.1 S.2.1 hK (zk_P1 h) 0 t0 rfl ht hi hdg kk
theorem zk_iald (S : CallFix p m c cc nL s args zTB own) (hK : va_K D cl tys s) (t0 : Nat) {cA : ClassId} {N : Nat} {f : Nat → Int32} (h : va_at D cl (a, .inl (cA, N, .inl f)) H) (ht : tys[t0]? = some (cA, .int)) {i : Int32} (hi : vp_in i N) (hdg : decode cc pc = .ok (.iaload, 1))
    (kk : W p l e R s m args below meth c H locs cells slots Q (F0 m (pc + 1) ls (.int (f i.toNatClampNeg) :: rest))) : W p l e R s m args below meth c H locs cells slots Q (F0 m pc ls (.int i :: .ref a :: rest)) := va_iald S.1 S.2.1 hK (zk_P1 h) 0 t0 rfl ht hi hdg kk
theorem zk_lald (S : CallFix p m c cc nL s args zTB own) (hK : va_K D cl tys s) (t0 : Nat) {cA : ClassId} {N : Nat} {f : Nat → Int64} (h : va_at D cl (a, .inl (cA, N, .inr (.inl f))) H) (ht : tys[t0]? = some (cA, .long)) {i : Int32} (hi : vp_in i N) (hdg : decode cc pc = .ok (.laload, 1))
    (kk : W p l e R s m args below meth c H locs cells slots Q (F0 m (pc + 1) ls (.long (f i.toNatClampNeg) :: rest))) : W p l e R s m args below meth c H locs cells slots Q (F0 m pc ls (.int i :: .ref a :: rest)) := va_lald S.1 S.2.1 hK (zk_P1 h) 0 t0 rfl ht hi hdg kk
theorem zk_aald (S : CallFix p m c cc nL s args zTB own) (hK : va_K D cl tys s) (t0 : Nat) {cA : ClassId} {C : String} {N : Nat} {f : Nat → Option Nat} (h : va_at D cl (a, .inl (cA, N, .inr (.inr (.inr (.inr f))))) H) (ht : tys[t0]? = some (cA, .object C)) {i : Int32} (hi : vp_in i N) (hdg : decode cc pc = .ok (.aaload, 1))
    (kk : W p l e R s m args below meth c H locs cells slots Q (F0 m (pc + 1) ls (va_rf (f i.toNatClampNeg) :: rest))) : W p l e R s m args below meth c H locs cells slots Q (F0 m pc ls (.int i :: .ref a :: rest)) := va_aldq S.1 S.2.1 hK (zk_P1 h) 0 t0 rfl ht hi hdg kk
theorem zk_alen (S : CallFix p m c cc nL s args zTB own) (hK : va_K D cl tys s) (t0 : Nat) {cA : ClassId} {x : vp_A} (h : va_at D cl (a, .inl (cA, x)) H) {ty : FieldType} (ht : tys[t0]? = some (cA, ty)) {v : Int32} (hv : Int32.ofNat x.1 = v) (hdg : decode cc pc = .ok (.arraylength, 1))
    (kk : W p l e R s m args below meth c H locs cells slots Q (F0 m (pc + 1) ls (.int v :: rest))) : W p l e R s m args below meth c H locs cells slots Q (F0 m pc ls (.ref a :: rest)) := va_alen S.1 S.2.1 hK (zk_P1 h) 0 t0 rfl ht hv hdg kk
/-- the ends of a pure method -/
theorem zk_reti {v : Int32} (S : CallFix p m c cc nL s args zTB own) (hr : meth.sig.returnType = some .int) (hlk : meth.locks = false) (hdg : decode cc pc = .ok (.ireturn, 1)) : W p l e R s m args below meth c s.heap [] 0 0 (MQ below (zk_pQ (some (.int v))) args s 0 0 zk_no) (F0 m pc ls [.int v]) :=
  W.iret S.1 S.2.1 hr (fun t ht _ => ⟨rfl, ht⟩) (fun q h => by cases h) hdg
theorem zk_retz {v : Int32} (S : CallFix p m c cc nL s args zTB own) (hr : meth.sig.returnType = some .boolean) (hv : v = 0 ∨ v = 1) (hlk : meth.locks = false) (hdg : decode cc pc = .ok (.ireturn, 1)) : W p l e R s m args below meth c s.heap [] 0 0 (MQ below (zk_pQ (some (.int v))) args s 0 0 zk_no) (F0 m pc ls [.int v]) :=
  W.zret S.1 S.2.1 hr (by rcases hv with rfl | rfl <;> decide +kernel) (fun t ht _ => ⟨rfl, ht⟩) (fun q h => by cases h) hdg
theorem zk_retl {v : Int64} (S : CallFix p m c cc nL s args zTB own) (hr : meth.sig.returnType = some .long) (hlk : meth.locks = false) (hdg : decode cc pc = .ok (.lreturn, 1)) : W p l e R s m args below meth c s.heap [] 0 0 (MQ below (zk_pQ (some (.long v))) args s 0 0 zk_no) (F0 m pc ls [.long v]) :=
  W.lret S.1 S.2.1 hr (fun t ht _ => ⟨rfl, ht⟩) (fun q h => by cases h) hdg
theorem zk_reta {v : Value} {rt : FieldType} (S : CallFix p m c cc nL s args zTB own) (hr : meth.sig.returnType = some rt) (hrt : ∃ n, rt = .object n) (hv : v = .null ∨ ∃ a, v = .ref a) (hlk : meth.locks = false) (hdg : decode cc pc = .ok (.areturn, 1)) : W p l e R s m args below meth c s.heap [] 0 0 (MQ below (zk_pQ (some v)) args s 0 0 zk_no) (F0 m pc ls [v]) :=
  W.aret S.1 S.2.1 hr (Or.inl hrt) hv (fun t ht _ => ⟨rfl, ht⟩) (fun q h => by cases h) hdg
end
end
section
theorem d_Bytes_init_0 : decode b_Bytes_init 0 = .ok (.aload_n 0, 1) := by decide +kernel
theorem d_Bytes_init_1 : decode b_Bytes_init 1 = .ok (.invokespecial 3, 3) := by decide +kernel
theorem d_Bytes_init_4 : decode b_Bytes_init 4 = .ok (.aload_n 0, 1) := by decide +kernel
theorem d_Bytes_init_5 : decode b_Bytes_init 5 = .ok (.iconst 0, 1) := by decide +kernel
theorem d_Bytes_init_6 : decode b_Bytes_init 6 = .ok (.iload_n 1, 1) := by decide +kernel
theorem d_Bytes_init_7 : decode b_Bytes_init 7 = .ok (.invokestatic 9, 3) := by decide +kernel
theorem d_Bytes_init_10 : decode b_Bytes_init 10 = .ok (.putfield 15, 3) := by decide +kernel
theorem d_Bytes_init_13 : decode b_Bytes_init 13 = .ok (.aload_n 0, 1) := by decide +kernel
theorem d_Bytes_init_14 : decode b_Bytes_init 14 = .ok (.aload_n 0, 1) := by decide +kernel
theorem d_Bytes_init_15 : decode b_Bytes_init 15 = .ok (.getfield 15, 3) := by decide +kernel
theorem d_Bytes_init_18 : decode b_Bytes_init 18 = .ok (.bipush 64, 2) := by decide +kernel
theorem d_Bytes_init_20 : decode b_Bytes_init 20 = .ok (.invokestatic 21, 3) := by decide +kernel
theorem d_Bytes_init_23 : decode b_Bytes_init 23 = .ok (.newarray .byte, 2) := by decide +kernel
theorem d_Bytes_init_25 : decode b_Bytes_init 25 = .ok (.putfield 24, 3) := by decide +kernel
theorem d_Bytes_init_28 : decode b_Bytes_init 28 = .ok (.aload_n 0, 1) := by decide +kernel
theorem d_Bytes_init_29 : decode b_Bytes_init 29 = .ok (.iconst 0, 1) := by decide +kernel
theorem d_Bytes_init_30 : decode b_Bytes_init 30 = .ok (.putfield 28, 3) := by decide +kernel
theorem d_Bytes_init_33 : decode b_Bytes_init 33 = .ok (.return_, 1) := by decide +kernel
theorem d_Bytes_size_0 : decode b_Bytes_size 0 = .ok (.aload_n 0, 1) := by decide +kernel
theorem d_Bytes_size_1 : decode b_Bytes_size 1 = .ok (.getfield 28, 3) := by decide +kernel
theorem d_Bytes_size_4 : decode b_Bytes_size 4 = .ok (.ireturn, 1) := by decide +kernel
theorem d_Bytes_at_0 : decode b_Bytes_at 0 = .ok (.iload_n 1, 1) := by decide +kernel
theorem d_Bytes_at_1 : decode b_Bytes_at 1 = .ok (.ifCond .lt 33, 3) := by decide +kernel
theorem d_Bytes_at_4 : decode b_Bytes_at 4 = .ok (.iload_n 1, 1) := by decide +kernel
theorem d_Bytes_at_5 : decode b_Bytes_at 5 = .ok (.aload_n 0, 1) := by decide +kernel
theorem d_Bytes_at_6 : decode b_Bytes_at 6 = .ok (.getfield 28, 3) := by decide +kernel
theorem d_Bytes_at_9 : decode b_Bytes_at 9 = .ok (.if_icmp .ge 25, 3) := by decide +kernel
theorem d_Bytes_at_12 : decode b_Bytes_at 12 = .ok (.iload_n 1, 1) := by decide +kernel
theorem d_Bytes_at_13 : decode b_Bytes_at 13 = .ok (.aload_n 0, 1) := by decide +kernel
theorem d_Bytes_at_14 : decode b_Bytes_at 14 = .ok (.getfield 24, 3) := by decide +kernel
theorem d_Bytes_at_17 : decode b_Bytes_at 17 = .ok (.arraylength, 1) := by decide +kernel
theorem d_Bytes_at_18 : decode b_Bytes_at 18 = .ok (.if_icmp .ge 16, 3) := by decide +kernel
theorem d_Bytes_at_21 : decode b_Bytes_at 21 = .ok (.aload_n 0, 1) := by decide +kernel
theorem d_Bytes_at_22 : decode b_Bytes_at 22 = .ok (.getfield 24, 3) := by decide +kernel
theorem d_Bytes_at_25 : decode b_Bytes_at 25 = .ok (.iload_n 1, 1) := by decide +kernel
theorem d_Bytes_at_26 : decode b_Bytes_at 26 = .ok (.baload, 1) := by decide +kernel
theorem d_Bytes_at_27 : decode b_Bytes_at 27 = .ok (.sipush 255, 3) := by decide +kernel
theorem d_Bytes_at_30 : decode b_Bytes_at 30 = .ok (.iand, 1) := by decide +kernel
theorem d_Bytes_at_31 : decode b_Bytes_at 31 = .ok (.goto 4, 3) := by decide +kernel
theorem d_Bytes_at_34 : decode b_Bytes_at 34 = .ok (.iconst (-1), 1) := by decide +kernel
theorem d_Bytes_at_35 : decode b_Bytes_at 35 = .ok (.ireturn, 1) := by decide +kernel
theorem d_Bytes_hasRoomFor_0 : decode b_Bytes_hasRoomFor 0 = .ok (.iload_n 1, 1) := by decide +kernel
theorem d_Bytes_hasRoomFor_1 : decode b_Bytes_hasRoomFor 1 = .ok (.aload_n 0, 1) := by decide +kernel
theorem d_Bytes_hasRoomFor_2 : decode b_Bytes_hasRoomFor 2 = .ok (.getfield 15, 3) := by decide +kernel
theorem d_Bytes_hasRoomFor_5 : decode b_Bytes_hasRoomFor 5 = .ok (.aload_n 0, 1) := by decide +kernel
theorem d_Bytes_hasRoomFor_6 : decode b_Bytes_hasRoomFor 6 = .ok (.getfield 28, 3) := by decide +kernel
theorem d_Bytes_hasRoomFor_9 : decode b_Bytes_hasRoomFor 9 = .ok (.isub, 1) := by decide +kernel
theorem d_Bytes_hasRoomFor_10 : decode b_Bytes_hasRoomFor 10 = .ok (.if_icmp .gt 7, 3) := by decide +kernel
theorem d_Bytes_hasRoomFor_13 : decode b_Bytes_hasRoomFor 13 = .ok (.iconst 1, 1) := by decide +kernel
theorem d_Bytes_hasRoomFor_14 : decode b_Bytes_hasRoomFor 14 = .ok (.goto 4, 3) := by decide +kernel
theorem d_Bytes_hasRoomFor_17 : decode b_Bytes_hasRoomFor 17 = .ok (.iconst 0, 1) := by decide +kernel
theorem d_Bytes_hasRoomFor_18 : decode b_Bytes_hasRoomFor 18 = .ok (.ireturn, 1) := by decide +kernel
theorem d_Bytes_firstZero_0 : decode b_Bytes_firstZero 0 = .ok (.iconst 0, 1) := by decide +kernel
theorem d_Bytes_firstZero_1 : decode b_Bytes_firstZero 1 = .ok (.istore_n 1, 1) := by decide +kernel
theorem d_Bytes_firstZero_2 : decode b_Bytes_firstZero 2 = .ok (.iload_n 1, 1) := by decide +kernel
theorem d_Bytes_firstZero_3 : decode b_Bytes_firstZero 3 = .ok (.aload_n 0, 1) := by decide +kernel
theorem d_Bytes_firstZero_4 : decode b_Bytes_firstZero 4 = .ok (.getfield 28, 3) := by decide +kernel
theorem d_Bytes_firstZero_7 : decode b_Bytes_firstZero 7 = .ok (.if_icmp .ge 19, 3) := by decide +kernel
theorem d_Bytes_firstZero_10 : decode b_Bytes_firstZero 10 = .ok (.aload_n 0, 1) := by decide +kernel
theorem d_Bytes_firstZero_11 : decode b_Bytes_firstZero 11 = .ok (.iload_n 1, 1) := by decide +kernel
theorem d_Bytes_firstZero_12 : decode b_Bytes_firstZero 12 = .ok (.invokevirtual 31, 3) := by decide +kernel
theorem d_Bytes_firstZero_15 : decode b_Bytes_firstZero 15 = .ok (.ifCond .ne 5, 3) := by decide +kernel
theorem d_Bytes_firstZero_18 : decode b_Bytes_firstZero 18 = .ok (.iload_n 1, 1) := by decide +kernel
theorem d_Bytes_firstZero_19 : decode b_Bytes_firstZero 19 = .ok (.ireturn, 1) := by decide +kernel
theorem d_Bytes_firstZero_20 : decode b_Bytes_firstZero 20 = .ok (.iinc 1 1, 3) := by decide +kernel
theorem d_Bytes_firstZero_23 : decode b_Bytes_firstZero 23 = .ok (.goto (-21), 3) := by decide +kernel
theorem d_Bytes_firstZero_26 : decode b_Bytes_firstZero 26 = .ok (.iconst (-1), 1) := by decide +kernel
theorem d_Bytes_firstZero_27 : decode b_Bytes_firstZero 27 = .ok (.ireturn, 1) := by decide +kernel
theorem d_Bytes_clear_0 : decode b_Bytes_clear 0 = .ok (.aload_n 0, 1) := by decide +kernel
theorem d_Bytes_clear_1 : decode b_Bytes_clear 1 = .ok (.iconst 0, 1) := by decide +kernel
theorem d_Bytes_clear_2 : decode b_Bytes_clear 2 = .ok (.putfield 28, 3) := by decide +kernel
theorem d_Bytes_clear_5 : decode b_Bytes_clear 5 = .ok (.return_, 1) := by decide +kernel
theorem d_Bytes_keepFirst_0 : decode b_Bytes_keepFirst 0 = .ok (.iload_n 1, 1) := by decide +kernel
theorem d_Bytes_keepFirst_1 : decode b_Bytes_keepFirst 1 = .ok (.ifCond .lt 11, 3) := by decide +kernel
theorem d_Bytes_keepFirst_4 : decode b_Bytes_keepFirst 4 = .ok (.iload_n 1, 1) := by decide +kernel
theorem d_Bytes_keepFirst_5 : decode b_Bytes_keepFirst 5 = .ok (.aload_n 0, 1) := by decide +kernel
theorem d_Bytes_keepFirst_6 : decode b_Bytes_keepFirst 6 = .ok (.getfield 28, 3) := by decide +kernel
theorem d_Bytes_keepFirst_9 : decode b_Bytes_keepFirst 9 = .ok (.if_icmp .le 5, 3) := by decide +kernel
theorem d_Bytes_keepFirst_12 : decode b_Bytes_keepFirst 12 = .ok (.iconst 0, 1) := by decide +kernel
theorem d_Bytes_keepFirst_13 : decode b_Bytes_keepFirst 13 = .ok (.ireturn, 1) := by decide +kernel
theorem d_Bytes_keepFirst_14 : decode b_Bytes_keepFirst 14 = .ok (.aload_n 0, 1) := by decide +kernel
theorem d_Bytes_keepFirst_15 : decode b_Bytes_keepFirst 15 = .ok (.iload_n 1, 1) := by decide +kernel
theorem d_Bytes_keepFirst_16 : decode b_Bytes_keepFirst 16 = .ok (.putfield 28, 3) := by decide +kernel
theorem d_Bytes_keepFirst_19 : decode b_Bytes_keepFirst 19 = .ok (.iconst 1, 1) := by decide +kernel
theorem d_Bytes_keepFirst_20 : decode b_Bytes_keepFirst 20 = .ok (.ireturn, 1) := by decide +kernel
theorem d_Bytes_dropFirst_0 : decode b_Bytes_dropFirst 0 = .ok (.iload_n 1, 1) := by decide +kernel
theorem d_Bytes_dropFirst_1 : decode b_Bytes_dropFirst 1 = .ok (.ifCond .lt 11, 3) := by decide +kernel
theorem d_Bytes_dropFirst_4 : decode b_Bytes_dropFirst 4 = .ok (.iload_n 1, 1) := by decide +kernel
theorem d_Bytes_dropFirst_5 : decode b_Bytes_dropFirst 5 = .ok (.aload_n 0, 1) := by decide +kernel
theorem d_Bytes_dropFirst_6 : decode b_Bytes_dropFirst 6 = .ok (.getfield 28, 3) := by decide +kernel
theorem d_Bytes_dropFirst_9 : decode b_Bytes_dropFirst 9 = .ok (.if_icmp .le 5, 3) := by decide +kernel
theorem d_Bytes_dropFirst_12 : decode b_Bytes_dropFirst 12 = .ok (.iconst 0, 1) := by decide +kernel
theorem d_Bytes_dropFirst_13 : decode b_Bytes_dropFirst 13 = .ok (.ireturn, 1) := by decide +kernel
theorem d_Bytes_dropFirst_14 : decode b_Bytes_dropFirst 14 = .ok (.aload_n 0, 1) := by decide +kernel
theorem d_Bytes_dropFirst_15 : decode b_Bytes_dropFirst 15 = .ok (.getfield 24, 3) := by decide +kernel
theorem d_Bytes_dropFirst_18 : decode b_Bytes_dropFirst 18 = .ok (.iload_n 1, 1) := by decide +kernel
theorem d_Bytes_dropFirst_19 : decode b_Bytes_dropFirst 19 = .ok (.aload_n 0, 1) := by decide +kernel
theorem d_Bytes_dropFirst_20 : decode b_Bytes_dropFirst 20 = .ok (.getfield 24, 3) := by decide +kernel
theorem d_Bytes_dropFirst_23 : decode b_Bytes_dropFirst 23 = .ok (.iconst 0, 1) := by decide +kernel
theorem d_Bytes_dropFirst_24 : decode b_Bytes_dropFirst 24 = .ok (.aload_n 0, 1) := by decide +kernel
theorem d_Bytes_dropFirst_25 : decode b_Bytes_dropFirst 25 = .ok (.getfield 28, 3) := by decide +kernel
theorem d_Bytes_dropFirst_28 : decode b_Bytes_dropFirst 28 = .ok (.iload_n 1, 1) := by decide +kernel
theorem d_Bytes_dropFirst_29 : decode b_Bytes_dropFirst 29 = .ok (.isub, 1) := by decide +kernel
theorem d_Bytes_dropFirst_30 : decode b_Bytes_dropFirst 30 = .ok (.invokestatic 35, 3) := by decide +kernel
theorem d_Bytes_dropFirst_33 : decode b_Bytes_dropFirst 33 = .ok (.aload_n 0, 1) := by decide +kernel
theorem d_Bytes_dropFirst_34 : decode b_Bytes_dropFirst 34 = .ok (.dup, 1) := by decide +kernel
theorem d_Bytes_dropFirst_35 : decode b_Bytes_dropFirst 35 = .ok (.getfield 28, 3) := by decide +kernel
theorem d_Bytes_dropFirst_38 : decode b_Bytes_dropFirst 38 = .ok (.iload_n 1, 1) := by decide +kernel
theorem d_Bytes_dropFirst_39 : decode b_Bytes_dropFirst 39 = .ok (.isub, 1) := by decide +kernel
theorem d_Bytes_dropFirst_40 : decode b_Bytes_dropFirst 40 = .ok (.putfield 28, 3) := by decide +kernel
theorem d_Bytes_dropFirst_43 : decode b_Bytes_dropFirst 43 = .ok (.iconst 1, 1) := by decide +kernel
theorem d_Bytes_dropFirst_44 : decode b_Bytes_dropFirst 44 = .ok (.ireturn, 1) := by decide +kernel
theorem d_Bytes_append_0 : decode b_Bytes_append 0 = .ok (.aload_n 0, 1) := by decide +kernel
theorem d_Bytes_append_1 : decode b_Bytes_append 1 = .ok (.getfield 28, 3) := by decide +kernel
theorem d_Bytes_append_4 : decode b_Bytes_append 4 = .ok (.aload_n 0, 1) := by decide +kernel
theorem d_Bytes_append_5 : decode b_Bytes_append 5 = .ok (.getfield 15, 3) := by decide +kernel
theorem d_Bytes_append_8 : decode b_Bytes_append 8 = .ok (.if_icmp .lt 4, 3) := by decide +kernel
theorem d_Bytes_append_11 : decode b_Bytes_append 11 = .ok (.return_, 1) := by decide +kernel
theorem d_Bytes_append_12 : decode b_Bytes_append 12 = .ok (.aload_n 0, 1) := by decide +kernel
theorem d_Bytes_append_13 : decode b_Bytes_append 13 = .ok (.getfield 28, 3) := by decide +kernel
theorem d_Bytes_append_16 : decode b_Bytes_append 16 = .ok (.aload_n 0, 1) := by decide +kernel
theorem d_Bytes_append_17 : decode b_Bytes_append 17 = .ok (.getfield 24, 3) := by decide +kernel
theorem d_Bytes_append_20 : decode b_Bytes_append 20 = .ok (.arraylength, 1) := by decide +kernel
theorem d_Bytes_append_21 : decode b_Bytes_append 21 = .ok (.if_icmp .lt 30, 3) := by decide +kernel
theorem d_Bytes_append_24 : decode b_Bytes_append 24 = .ok (.aload_n 0, 1) := by decide +kernel
theorem d_Bytes_append_25 : decode b_Bytes_append 25 = .ok (.aload_n 0, 1) := by decide +kernel
theorem d_Bytes_append_26 : decode b_Bytes_append 26 = .ok (.getfield 24, 3) := by decide +kernel
theorem d_Bytes_append_29 : decode b_Bytes_append 29 = .ok (.aload_n 0, 1) := by decide +kernel
theorem d_Bytes_append_30 : decode b_Bytes_append 30 = .ok (.getfield 15, 3) := by decide +kernel
theorem d_Bytes_append_33 : decode b_Bytes_append 33 = .ok (.aload_n 0, 1) := by decide +kernel
theorem d_Bytes_append_34 : decode b_Bytes_append 34 = .ok (.getfield 28, 3) := by decide +kernel
theorem d_Bytes_append_37 : decode b_Bytes_append 37 = .ok (.aload_n 0, 1) := by decide +kernel
theorem d_Bytes_append_38 : decode b_Bytes_append 38 = .ok (.getfield 28, 3) := by decide +kernel
theorem d_Bytes_append_41 : decode b_Bytes_append 41 = .ok (.iadd, 1) := by decide +kernel
theorem d_Bytes_append_42 : decode b_Bytes_append 42 = .ok (.invokestatic 21, 3) := by decide +kernel
theorem d_Bytes_append_45 : decode b_Bytes_append 45 = .ok (.invokestatic 41, 3) := by decide +kernel
theorem d_Bytes_append_48 : decode b_Bytes_append 48 = .ok (.putfield 24, 3) := by decide +kernel
theorem d_Bytes_append_51 : decode b_Bytes_append 51 = .ok (.aload_n 0, 1) := by decide +kernel
theorem d_Bytes_append_52 : decode b_Bytes_append 52 = .ok (.getfield 28, 3) := by decide +kernel
theorem d_Bytes_append_55 : decode b_Bytes_append 55 = .ok (.aload_n 0, 1) := by decide +kernel
theorem d_Bytes_append_56 : decode b_Bytes_append 56 = .ok (.getfield 24, 3) := by decide +kernel
theorem d_Bytes_append_59 : decode b_Bytes_append 59 = .ok (.arraylength, 1) := by decide +kernel
theorem d_Bytes_append_60 : decode b_Bytes_append 60 = .ok (.if_icmp .ge 24, 3) := by decide +kernel
theorem d_Bytes_append_63 : decode b_Bytes_append 63 = .ok (.aload_n 0, 1) := by decide +kernel
theorem d_Bytes_append_64 : decode b_Bytes_append 64 = .ok (.getfield 24, 3) := by decide +kernel
theorem d_Bytes_append_67 : decode b_Bytes_append 67 = .ok (.aload_n 0, 1) := by decide +kernel
theorem d_Bytes_append_68 : decode b_Bytes_append 68 = .ok (.getfield 28, 3) := by decide +kernel
theorem d_Bytes_append_71 : decode b_Bytes_append 71 = .ok (.iload_n 1, 1) := by decide +kernel
theorem d_Bytes_append_72 : decode b_Bytes_append 72 = .ok (.i2b, 1) := by decide +kernel
theorem d_Bytes_append_73 : decode b_Bytes_append 73 = .ok (.bastore, 1) := by decide +kernel
theorem d_Bytes_append_74 : decode b_Bytes_append 74 = .ok (.aload_n 0, 1) := by decide +kernel
theorem d_Bytes_append_75 : decode b_Bytes_append 75 = .ok (.dup, 1) := by decide +kernel
theorem d_Bytes_append_76 : decode b_Bytes_append 76 = .ok (.getfield 28, 3) := by decide +kernel
theorem d_Bytes_append_79 : decode b_Bytes_append 79 = .ok (.iconst 1, 1) := by decide +kernel
theorem d_Bytes_append_80 : decode b_Bytes_append 80 = .ok (.iadd, 1) := by decide +kernel
theorem d_Bytes_append_81 : decode b_Bytes_append 81 = .ok (.putfield 28, 3) := by decide +kernel
theorem d_Bytes_append_84 : decode b_Bytes_append 84 = .ok (.return_, 1) := by decide +kernel
theorem d_Bytes_appendNumber_0 : decode b_Bytes_appendNumber 0 = .ok (.aload_n 0, 1) := by decide +kernel
theorem d_Bytes_appendNumber_1 : decode b_Bytes_appendNumber 1 = .ok (.iload_n 1, 1) := by decide +kernel
theorem d_Bytes_appendNumber_2 : decode b_Bytes_appendNumber 2 = .ok (.bipush 24, 2) := by decide +kernel
theorem d_Bytes_appendNumber_4 : decode b_Bytes_appendNumber 4 = .ok (.iushr, 1) := by decide +kernel
theorem d_Bytes_appendNumber_5 : decode b_Bytes_appendNumber 5 = .ok (.invokevirtual 47, 3) := by decide +kernel
theorem d_Bytes_appendNumber_8 : decode b_Bytes_appendNumber 8 = .ok (.aload_n 0, 1) := by decide +kernel
theorem d_Bytes_appendNumber_9 : decode b_Bytes_appendNumber 9 = .ok (.iload_n 1, 1) := by decide +kernel
theorem d_Bytes_appendNumber_10 : decode b_Bytes_appendNumber 10 = .ok (.bipush 16, 2) := by decide +kernel
theorem d_Bytes_appendNumber_12 : decode b_Bytes_appendNumber 12 = .ok (.iushr, 1) := by decide +kernel
theorem d_Bytes_appendNumber_13 : decode b_Bytes_appendNumber 13 = .ok (.invokevirtual 47, 3) := by decide +kernel
theorem d_Bytes_appendNumber_16 : decode b_Bytes_appendNumber 16 = .ok (.aload_n 0, 1) := by decide +kernel
theorem d_Bytes_appendNumber_17 : decode b_Bytes_appendNumber 17 = .ok (.iload_n 1, 1) := by decide +kernel
theorem d_Bytes_appendNumber_18 : decode b_Bytes_appendNumber 18 = .ok (.bipush 8, 2) := by decide +kernel
theorem d_Bytes_appendNumber_20 : decode b_Bytes_appendNumber 20 = .ok (.iushr, 1) := by decide +kernel
theorem d_Bytes_appendNumber_21 : decode b_Bytes_appendNumber 21 = .ok (.invokevirtual 47, 3) := by decide +kernel
theorem d_Bytes_appendNumber_24 : decode b_Bytes_appendNumber 24 = .ok (.aload_n 0, 1) := by decide +kernel
theorem d_Bytes_appendNumber_25 : decode b_Bytes_appendNumber 25 = .ok (.iload_n 1, 1) := by decide +kernel
theorem d_Bytes_appendNumber_26 : decode b_Bytes_appendNumber 26 = .ok (.invokevirtual 47, 3) := by decide +kernel
theorem d_Bytes_appendNumber_29 : decode b_Bytes_appendNumber 29 = .ok (.return_, 1) := by decide +kernel
theorem d_Bytes_appendAll_0 : decode b_Bytes_appendAll 0 = .ok (.iconst 0, 1) := by decide +kernel
theorem d_Bytes_appendAll_1 : decode b_Bytes_appendAll 1 = .ok (.istore_n 2, 1) := by decide +kernel
theorem d_Bytes_appendAll_2 : decode b_Bytes_appendAll 2 = .ok (.iload_n 2, 1) := by decide +kernel
theorem d_Bytes_appendAll_3 : decode b_Bytes_appendAll 3 = .ok (.aload_n 1, 1) := by decide +kernel
theorem d_Bytes_appendAll_4 : decode b_Bytes_appendAll 4 = .ok (.invokevirtual 51, 3) := by decide +kernel
theorem d_Bytes_appendAll_7 : decode b_Bytes_appendAll 7 = .ok (.if_icmp .ge 18, 3) := by decide +kernel
theorem d_Bytes_appendAll_10 : decode b_Bytes_appendAll 10 = .ok (.aload_n 0, 1) := by decide +kernel
theorem d_Bytes_appendAll_11 : decode b_Bytes_appendAll 11 = .ok (.aload_n 1, 1) := by decide +kernel
theorem d_Bytes_appendAll_12 : decode b_Bytes_appendAll 12 = .ok (.iload_n 2, 1) := by decide +kernel
theorem d_Bytes_appendAll_13 : decode b_Bytes_appendAll 13 = .ok (.invokevirtual 31, 3) := by decide +kernel
theorem d_Bytes_appendAll_16 : decode b_Bytes_appendAll 16 = .ok (.invokevirtual 47, 3) := by decide +kernel
theorem d_Bytes_appendAll_19 : decode b_Bytes_appendAll 19 = .ok (.iinc 2 1, 3) := by decide +kernel
theorem d_Bytes_appendAll_22 : decode b_Bytes_appendAll 22 = .ok (.goto (-20), 3) := by decide +kernel
theorem d_Bytes_appendAll_25 : decode b_Bytes_appendAll 25 = .ok (.return_, 1) := by decide +kernel
theorem d_Bytes_copyFrom_0 : decode b_Bytes_copyFrom 0 = .ok (.new 16, 3) := by decide +kernel
theorem d_Bytes_copyFrom_3 : decode b_Bytes_copyFrom 3 = .ok (.dup, 1) := by decide +kernel
theorem d_Bytes_copyFrom_4 : decode b_Bytes_copyFrom 4 = .ok (.iload_n 2, 1) := by decide +kernel
theorem d_Bytes_copyFrom_5 : decode b_Bytes_copyFrom 5 = .ok (.invokespecial 54, 3) := by decide +kernel
theorem d_Bytes_copyFrom_8 : decode b_Bytes_copyFrom 8 = .ok (.astore_n 3, 1) := by decide +kernel
theorem d_Bytes_copyFrom_9 : decode b_Bytes_copyFrom 9 = .ok (.iconst 0, 1) := by decide +kernel
theorem d_Bytes_copyFrom_10 : decode b_Bytes_copyFrom 10 = .ok (.iload_n 1, 1) := by decide +kernel
theorem d_Bytes_copyFrom_11 : decode b_Bytes_copyFrom 11 = .ok (.invokestatic 9, 3) := by decide +kernel
theorem d_Bytes_copyFrom_14 : decode b_Bytes_copyFrom 14 = .ok (.istore 4, 2) := by decide +kernel
theorem d_Bytes_copyFrom_16 : decode b_Bytes_copyFrom 16 = .ok (.iload 4, 2) := by decide +kernel
theorem d_Bytes_copyFrom_18 : decode b_Bytes_copyFrom 18 = .ok (.aload_n 0, 1) := by decide +kernel
theorem d_Bytes_copyFrom_19 : decode b_Bytes_copyFrom 19 = .ok (.getfield 28, 3) := by decide +kernel
theorem d_Bytes_copyFrom_22 : decode b_Bytes_copyFrom 22 = .ok (.if_icmp .ge 19, 3) := by decide +kernel
theorem d_Bytes_copyFrom_25 : decode b_Bytes_copyFrom 25 = .ok (.aload_n 3, 1) := by decide +kernel
theorem d_Bytes_copyFrom_26 : decode b_Bytes_copyFrom 26 = .ok (.aload_n 0, 1) := by decide +kernel
theorem d_Bytes_copyFrom_27 : decode b_Bytes_copyFrom 27 = .ok (.iload 4, 2) := by decide +kernel
theorem d_Bytes_copyFrom_29 : decode b_Bytes_copyFrom 29 = .ok (.invokevirtual 31, 3) := by decide +kernel
theorem d_Bytes_copyFrom_32 : decode b_Bytes_copyFrom 32 = .ok (.invokevirtual 47, 3) := by decide +kernel
theorem d_Bytes_copyFrom_35 : decode b_Bytes_copyFrom 35 = .ok (.iinc 4 1, 3) := by decide +kernel
theorem d_Bytes_copyFrom_38 : decode b_Bytes_copyFrom 38 = .ok (.goto (-22), 3) := by decide +kernel
theorem d_Bytes_copyFrom_41 : decode b_Bytes_copyFrom 41 = .ok (.aload_n 3, 1) := by decide +kernel
theorem d_Bytes_copyFrom_42 : decode b_Bytes_copyFrom 42 = .ok (.areturn, 1) := by decide +kernel
theorem d_Coming_init_0 : decode b_Coming_init 0 = .ok (.aload_n 0, 1) := by decide +kernel
theorem d_Coming_init_1 : decode b_Coming_init 1 = .ok (.invokespecial 3, 3) := by decide +kernel
theorem d_Coming_init_4 : decode b_Coming_init 4 = .ok (.aload_n 0, 1) := by decide +kernel
theorem d_Coming_init_5 : decode b_Coming_init 5 = .ok (.bipush 64, 2) := by decide +kernel
theorem d_Coming_init_7 : decode b_Coming_init 7 = .ok (.newarray .long, 2) := by decide +kernel
theorem d_Coming_init_9 : decode b_Coming_init 9 = .ok (.putfield 9, 3) := by decide +kernel
theorem d_Coming_init_12 : decode b_Coming_init 12 = .ok (.aload_n 0, 1) := by decide +kernel
theorem d_Coming_init_13 : decode b_Coming_init 13 = .ok (.bipush 64, 2) := by decide +kernel
theorem d_Coming_init_15 : decode b_Coming_init 15 = .ok (.anewarray 15, 3) := by decide +kernel
theorem d_Coming_init_18 : decode b_Coming_init 18 = .ok (.putfield 17, 3) := by decide +kernel
theorem d_Coming_init_21 : decode b_Coming_init 21 = .ok (.aload_n 0, 1) := by decide +kernel
theorem d_Coming_init_22 : decode b_Coming_init 22 = .ok (.iconst 0, 1) := by decide +kernel
theorem d_Coming_init_23 : decode b_Coming_init 23 = .ok (.putfield 21, 3) := by decide +kernel
theorem d_Coming_init_26 : decode b_Coming_init 26 = .ok (.return_, 1) := by decide +kernel
theorem d_Coming_size_0 : decode b_Coming_size 0 = .ok (.aload_n 0, 1) := by decide +kernel
theorem d_Coming_size_1 : decode b_Coming_size 1 = .ok (.getfield 21, 3) := by decide +kernel
theorem d_Coming_size_4 : decode b_Coming_size 4 = .ok (.ireturn, 1) := by decide +kernel
theorem d_Coming_first_0 : decode b_Coming_first 0 = .ok (.aload_n 0, 1) := by decide +kernel
theorem d_Coming_first_1 : decode b_Coming_first 1 = .ok (.getfield 21, 3) := by decide +kernel
theorem d_Coming_first_4 : decode b_Coming_first 4 = .ok (.ifCond .le 12, 3) := by decide +kernel
theorem d_Coming_first_7 : decode b_Coming_first 7 = .ok (.aload_n 0, 1) := by decide +kernel
theorem d_Coming_first_8 : decode b_Coming_first 8 = .ok (.getfield 17, 3) := by decide +kernel
theorem d_Coming_first_11 : decode b_Coming_first 11 = .ok (.iconst 0, 1) := by decide +kernel
theorem d_Coming_first_12 : decode b_Coming_first 12 = .ok (.aaload, 1) := by decide +kernel
theorem d_Coming_first_13 : decode b_Coming_first 13 = .ok (.goto 4, 3) := by decide +kernel
theorem d_Coming_first_16 : decode b_Coming_first 16 = .ok (.aconst_null, 1) := by decide +kernel
theorem d_Coming_first_17 : decode b_Coming_first 17 = .ok (.areturn, 1) := by decide +kernel
theorem d_Coming_firstTime_0 : decode b_Coming_firstTime 0 = .ok (.aload_n 0, 1) := by decide +kernel
theorem d_Coming_firstTime_1 : decode b_Coming_firstTime 1 = .ok (.getfield 21, 3) := by decide +kernel
theorem d_Coming_firstTime_4 : decode b_Coming_firstTime 4 = .ok (.ifCond .le 12, 3) := by decide +kernel
theorem d_Coming_firstTime_7 : decode b_Coming_firstTime 7 = .ok (.aload_n 0, 1) := by decide +kernel
theorem d_Coming_firstTime_8 : decode b_Coming_firstTime 8 = .ok (.getfield 9, 3) := by decide +kernel
theorem d_Coming_firstTime_11 : decode b_Coming_firstTime 11 = .ok (.iconst 0, 1) := by decide +kernel
theorem d_Coming_firstTime_12 : decode b_Coming_firstTime 12 = .ok (.laload, 1) := by decide +kernel
theorem d_Coming_firstTime_13 : decode b_Coming_firstTime 13 = .ok (.goto 4, 3) := by decide +kernel
theorem d_Coming_firstTime_16 : decode b_Coming_firstTime 16 = .ok (.lconst 0, 1) := by decide +kernel
theorem d_Coming_firstTime_17 : decode b_Coming_firstTime 17 = .ok (.lreturn, 1) := by decide +kernel
theorem d_Coming_clear_0 : decode b_Coming_clear 0 = .ok (.aload_n 0, 1) := by decide +kernel
theorem d_Coming_clear_1 : decode b_Coming_clear 1 = .ok (.iconst 0, 1) := by decide +kernel
theorem d_Coming_clear_2 : decode b_Coming_clear 2 = .ok (.putfield 21, 3) := by decide +kernel
theorem d_Coming_clear_5 : decode b_Coming_clear 5 = .ok (.return_, 1) := by decide +kernel
theorem d_Coming_add_0 : decode b_Coming_add 0 = .ok (.aload_n 0, 1) := by decide +kernel
theorem d_Coming_add_1 : decode b_Coming_add 1 = .ok (.getfield 21, 3) := by decide +kernel
theorem d_Coming_add_4 : decode b_Coming_add 4 = .ok (.bipush 64, 2) := by decide +kernel
theorem d_Coming_add_6 : decode b_Coming_add 6 = .ok (.if_icmp .lt 4, 3) := by decide +kernel
theorem d_Coming_add_9 : decode b_Coming_add 9 = .ok (.return_, 1) := by decide +kernel
theorem d_Coming_add_10 : decode b_Coming_add 10 = .ok (.aload_n 0, 1) := by decide +kernel
theorem d_Coming_add_11 : decode b_Coming_add 11 = .ok (.getfield 21, 3) := by decide +kernel
theorem d_Coming_add_14 : decode b_Coming_add 14 = .ok (.istore 4, 2) := by decide +kernel
theorem d_Coming_add_16 : decode b_Coming_add 16 = .ok (.iload 4, 2) := by decide +kernel
theorem d_Coming_add_18 : decode b_Coming_add 18 = .ok (.ifCond .le 55, 3) := by decide +kernel
theorem d_Coming_add_21 : decode b_Coming_add 21 = .ok (.aload_n 0, 1) := by decide +kernel
theorem d_Coming_add_22 : decode b_Coming_add 22 = .ok (.getfield 9, 3) := by decide +kernel
theorem d_Coming_add_25 : decode b_Coming_add 25 = .ok (.iload 4, 2) := by decide +kernel
theorem d_Coming_add_27 : decode b_Coming_add 27 = .ok (.iconst 1, 1) := by decide +kernel
theorem d_Coming_add_28 : decode b_Coming_add 28 = .ok (.isub, 1) := by decide +kernel
theorem d_Coming_add_29 : decode b_Coming_add 29 = .ok (.laload, 1) := by decide +kernel
theorem d_Coming_add_30 : decode b_Coming_add 30 = .ok (.lload_n 1, 1) := by decide +kernel
theorem d_Coming_add_31 : decode b_Coming_add 31 = .ok (.lcmp, 1) := by decide +kernel
theorem d_Coming_add_32 : decode b_Coming_add 32 = .ok (.ifCond .le 41, 3) := by decide +kernel
theorem d_Coming_add_35 : decode b_Coming_add 35 = .ok (.aload_n 0, 1) := by decide +kernel
theorem d_Coming_add_36 : decode b_Coming_add 36 = .ok (.getfield 9, 3) := by decide +kernel
theorem d_Coming_add_39 : decode b_Coming_add 39 = .ok (.iload 4, 2) := by decide +kernel
theorem d_Coming_add_41 : decode b_Coming_add 41 = .ok (.aload_n 0, 1) := by decide +kernel
theorem d_Coming_add_42 : decode b_Coming_add 42 = .ok (.getfield 9, 3) := by decide +kernel
theorem d_Coming_add_45 : decode b_Coming_add 45 = .ok (.iload 4, 2) := by decide +kernel
theorem d_Coming_add_47 : decode b_Coming_add 47 = .ok (.iconst 1, 1) := by decide +kernel
theorem d_Coming_add_48 : decode b_Coming_add 48 = .ok (.isub, 1) := by decide +kernel
theorem d_Coming_add_49 : decode b_Coming_add 49 = .ok (.laload, 1) := by decide +kernel
theorem d_Coming_add_50 : decode b_Coming_add 50 = .ok (.lastore, 1) := by decide +kernel
theorem d_Coming_add_51 : decode b_Coming_add 51 = .ok (.aload_n 0, 1) := by decide +kernel
theorem d_Coming_add_52 : decode b_Coming_add 52 = .ok (.getfield 17, 3) := by decide +kernel
theorem d_Coming_add_55 : decode b_Coming_add 55 = .ok (.iload 4, 2) := by decide +kernel
theorem d_Coming_add_57 : decode b_Coming_add 57 = .ok (.aload_n 0, 1) := by decide +kernel
theorem d_Coming_add_58 : decode b_Coming_add 58 = .ok (.getfield 17, 3) := by decide +kernel
theorem d_Coming_add_61 : decode b_Coming_add 61 = .ok (.iload 4, 2) := by decide +kernel
theorem d_Coming_add_63 : decode b_Coming_add 63 = .ok (.iconst 1, 1) := by decide +kernel
theorem d_Coming_add_64 : decode b_Coming_add 64 = .ok (.isub, 1) := by decide +kernel
theorem d_Coming_add_65 : decode b_Coming_add 65 = .ok (.aaload, 1) := by decide +kernel
theorem d_Coming_add_66 : decode b_Coming_add 66 = .ok (.aastore, 1) := by decide +kernel
theorem d_Coming_add_67 : decode b_Coming_add 67 = .ok (.iinc 4 (-1), 3) := by decide +kernel
theorem d_Coming_add_70 : decode b_Coming_add 70 = .ok (.goto (-54), 3) := by decide +kernel
theorem d_Coming_add_73 : decode b_Coming_add 73 = .ok (.aload_n 0, 1) := by decide +kernel
theorem d_Coming_add_74 : decode b_Coming_add 74 = .ok (.getfield 9, 3) := by decide +kernel
theorem d_Coming_add_77 : decode b_Coming_add 77 = .ok (.iload 4, 2) := by decide +kernel
theorem d_Coming_add_79 : decode b_Coming_add 79 = .ok (.lload_n 1, 1) := by decide +kernel
theorem d_Coming_add_80 : decode b_Coming_add 80 = .ok (.lastore, 1) := by decide +kernel
theorem d_Coming_add_81 : decode b_Coming_add 81 = .ok (.aload_n 0, 1) := by decide +kernel
theorem d_Coming_add_82 : decode b_Coming_add 82 = .ok (.getfield 17, 3) := by decide +kernel
theorem d_Coming_add_85 : decode b_Coming_add 85 = .ok (.iload 4, 2) := by decide +kernel
theorem d_Coming_add_87 : decode b_Coming_add 87 = .ok (.aload_n 3, 1) := by decide +kernel
theorem d_Coming_add_88 : decode b_Coming_add 88 = .ok (.aastore, 1) := by decide +kernel
theorem d_Coming_add_89 : decode b_Coming_add 89 = .ok (.aload_n 0, 1) := by decide +kernel
theorem d_Coming_add_90 : decode b_Coming_add 90 = .ok (.dup, 1) := by decide +kernel
theorem d_Coming_add_91 : decode b_Coming_add 91 = .ok (.getfield 21, 3) := by decide +kernel
theorem d_Coming_add_94 : decode b_Coming_add 94 = .ok (.iconst 1, 1) := by decide +kernel
theorem d_Coming_add_95 : decode b_Coming_add 95 = .ok (.iadd, 1) := by decide +kernel
theorem d_Coming_add_96 : decode b_Coming_add 96 = .ok (.putfield 21, 3) := by decide +kernel
theorem d_Coming_add_99 : decode b_Coming_add 99 = .ok (.return_, 1) := by decide +kernel
theorem d_Coming_dropFirst_0 : decode b_Coming_dropFirst 0 = .ok (.aload_n 0, 1) := by decide +kernel
theorem d_Coming_dropFirst_1 : decode b_Coming_dropFirst 1 = .ok (.getfield 21, 3) := by decide +kernel
theorem d_Coming_dropFirst_4 : decode b_Coming_dropFirst 4 = .ok (.ifCond .gt 4, 3) := by decide +kernel
theorem d_Coming_dropFirst_7 : decode b_Coming_dropFirst 7 = .ok (.return_, 1) := by decide +kernel
theorem d_Coming_dropFirst_8 : decode b_Coming_dropFirst 8 = .ok (.iconst 1, 1) := by decide +kernel
theorem d_Coming_dropFirst_9 : decode b_Coming_dropFirst 9 = .ok (.istore_n 1, 1) := by decide +kernel
theorem d_Coming_dropFirst_10 : decode b_Coming_dropFirst 10 = .ok (.iload_n 1, 1) := by decide +kernel
theorem d_Coming_dropFirst_11 : decode b_Coming_dropFirst 11 = .ok (.aload_n 0, 1) := by decide +kernel
theorem d_Coming_dropFirst_12 : decode b_Coming_dropFirst 12 = .ok (.getfield 21, 3) := by decide +kernel
theorem d_Coming_dropFirst_15 : decode b_Coming_dropFirst 15 = .ok (.if_icmp .ge 37, 3) := by decide +kernel
theorem d_Coming_dropFirst_18 : decode b_Coming_dropFirst 18 = .ok (.aload_n 0, 1) := by decide +kernel
theorem d_Coming_dropFirst_19 : decode b_Coming_dropFirst 19 = .ok (.getfield 9, 3) := by decide +kernel
theorem d_Coming_dropFirst_22 : decode b_Coming_dropFirst 22 = .ok (.iload_n 1, 1) := by decide +kernel
theorem d_Coming_dropFirst_23 : decode b_Coming_dropFirst 23 = .ok (.iconst 1, 1) := by decide +kernel
theorem d_Coming_dropFirst_24 : decode b_Coming_dropFirst 24 = .ok (.isub, 1) := by decide +kernel
theorem d_Coming_dropFirst_25 : decode b_Coming_dropFirst 25 = .ok (.aload_n 0, 1) := by decide +kernel
theorem d_Coming_dropFirst_26 : decode b_Coming_dropFirst 26 = .ok (.getfield 9, 3) := by decide +kernel
theorem d_Coming_dropFirst_29 : decode b_Coming_dropFirst 29 = .ok (.iload_n 1, 1) := by decide +kernel
theorem d_Coming_dropFirst_30 : decode b_Coming_dropFirst 30 = .ok (.laload, 1) := by decide +kernel
theorem d_Coming_dropFirst_31 : decode b_Coming_dropFirst 31 = .ok (.lastore, 1) := by decide +kernel
theorem d_Coming_dropFirst_32 : decode b_Coming_dropFirst 32 = .ok (.aload_n 0, 1) := by decide +kernel
theorem d_Coming_dropFirst_33 : decode b_Coming_dropFirst 33 = .ok (.getfield 17, 3) := by decide +kernel
theorem d_Coming_dropFirst_36 : decode b_Coming_dropFirst 36 = .ok (.iload_n 1, 1) := by decide +kernel
theorem d_Coming_dropFirst_37 : decode b_Coming_dropFirst 37 = .ok (.iconst 1, 1) := by decide +kernel
theorem d_Coming_dropFirst_38 : decode b_Coming_dropFirst 38 = .ok (.isub, 1) := by decide +kernel
theorem d_Coming_dropFirst_39 : decode b_Coming_dropFirst 39 = .ok (.aload_n 0, 1) := by decide +kernel
theorem d_Coming_dropFirst_40 : decode b_Coming_dropFirst 40 = .ok (.getfield 17, 3) := by decide +kernel
theorem d_Coming_dropFirst_43 : decode b_Coming_dropFirst 43 = .ok (.iload_n 1, 1) := by decide +kernel
theorem d_Coming_dropFirst_44 : decode b_Coming_dropFirst 44 = .ok (.aaload, 1) := by decide +kernel
theorem d_Coming_dropFirst_45 : decode b_Coming_dropFirst 45 = .ok (.aastore, 1) := by decide +kernel
theorem d_Coming_dropFirst_46 : decode b_Coming_dropFirst 46 = .ok (.iinc 1 1, 3) := by decide +kernel
theorem d_Coming_dropFirst_49 : decode b_Coming_dropFirst 49 = .ok (.goto (-39), 3) := by decide +kernel
theorem d_Coming_dropFirst_52 : decode b_Coming_dropFirst 52 = .ok (.aload_n 0, 1) := by decide +kernel
theorem d_Coming_dropFirst_53 : decode b_Coming_dropFirst 53 = .ok (.dup, 1) := by decide +kernel
theorem d_Coming_dropFirst_54 : decode b_Coming_dropFirst 54 = .ok (.getfield 21, 3) := by decide +kernel
theorem d_Coming_dropFirst_57 : decode b_Coming_dropFirst 57 = .ok (.iconst 1, 1) := by decide +kernel
theorem d_Coming_dropFirst_58 : decode b_Coming_dropFirst 58 = .ok (.isub, 1) := by decide +kernel
theorem d_Coming_dropFirst_59 : decode b_Coming_dropFirst 59 = .ok (.putfield 21, 3) := by decide +kernel
theorem d_Coming_dropFirst_62 : decode b_Coming_dropFirst 62 = .ok (.return_, 1) := by decide +kernel
theorem d_Reader_init_0 : decode b_Reader_init 0 = .ok (.aload_n 0, 1) := by decide +kernel
theorem d_Reader_init_1 : decode b_Reader_init 1 = .ok (.invokespecial 3, 3) := by decide +kernel
theorem d_Reader_init_4 : decode b_Reader_init 4 = .ok (.aload_n 0, 1) := by decide +kernel
theorem d_Reader_init_5 : decode b_Reader_init 5 = .ok (.aload_n 1, 1) := by decide +kernel
theorem d_Reader_init_6 : decode b_Reader_init 6 = .ok (.putfield 9, 3) := by decide +kernel
theorem d_Reader_init_9 : decode b_Reader_init 9 = .ok (.aload_n 0, 1) := by decide +kernel
theorem d_Reader_init_10 : decode b_Reader_init 10 = .ok (.iload_n 2, 1) := by decide +kernel
theorem d_Reader_init_11 : decode b_Reader_init 11 = .ok (.putfield 15, 3) := by decide +kernel
theorem d_Reader_init_14 : decode b_Reader_init 14 = .ok (.aload_n 0, 1) := by decide +kernel
theorem d_Reader_init_15 : decode b_Reader_init 15 = .ok (.iconst 0, 1) := by decide +kernel
theorem d_Reader_init_16 : decode b_Reader_init 16 = .ok (.putfield 19, 3) := by decide +kernel
theorem d_Reader_init_19 : decode b_Reader_init 19 = .ok (.return_, 1) := by decide +kernel
theorem d_Reader_ahead_0 : decode b_Reader_ahead 0 = .ok (.aload_n 0, 1) := by decide +kernel
theorem d_Reader_ahead_1 : decode b_Reader_ahead 1 = .ok (.getfield 19, 3) := by decide +kernel
theorem d_Reader_ahead_4 : decode b_Reader_ahead 4 = .ok (.iload_n 1, 1) := by decide +kernel
theorem d_Reader_ahead_5 : decode b_Reader_ahead 5 = .ok (.iadd, 1) := by decide +kernel
theorem d_Reader_ahead_6 : decode b_Reader_ahead 6 = .ok (.aload_n 0, 1) := by decide +kernel
theorem d_Reader_ahead_7 : decode b_Reader_ahead 7 = .ok (.getfield 15, 3) := by decide +kernel
theorem d_Reader_ahead_10 : decode b_Reader_ahead 10 = .ok (.if_icmp .ge 19, 3) := by decide +kernel
theorem d_Reader_ahead_13 : decode b_Reader_ahead 13 = .ok (.aload_n 0, 1) := by decide +kernel
theorem d_Reader_ahead_14 : decode b_Reader_ahead 14 = .ok (.getfield 9, 3) := by decide +kernel
theorem d_Reader_ahead_17 : decode b_Reader_ahead 17 = .ok (.aload_n 0, 1) := by decide +kernel
theorem d_Reader_ahead_18 : decode b_Reader_ahead 18 = .ok (.getfield 19, 3) := by decide +kernel
theorem d_Reader_ahead_21 : decode b_Reader_ahead 21 = .ok (.iload_n 1, 1) := by decide +kernel
theorem d_Reader_ahead_22 : decode b_Reader_ahead 22 = .ok (.iadd, 1) := by decide +kernel
theorem d_Reader_ahead_23 : decode b_Reader_ahead 23 = .ok (.invokevirtual 22, 3) := by decide +kernel
theorem d_Reader_ahead_26 : decode b_Reader_ahead 26 = .ok (.goto 4, 3) := by decide +kernel
theorem d_Reader_ahead_29 : decode b_Reader_ahead 29 = .ok (.iconst (-1), 1) := by decide +kernel
theorem d_Reader_ahead_30 : decode b_Reader_ahead 30 = .ok (.ireturn, 1) := by decide +kernel
theorem d_Reader_skip_0 : decode b_Reader_skip 0 = .ok (.aload_n 0, 1) := by decide +kernel
theorem d_Reader_skip_1 : decode b_Reader_skip 1 = .ok (.dup, 1) := by decide +kernel
theorem d_Reader_skip_2 : decode b_Reader_skip 2 = .ok (.getfield 19, 3) := by decide +kernel
theorem d_Reader_skip_5 : decode b_Reader_skip 5 = .ok (.iconst 1, 1) := by decide +kernel
theorem d_Reader_skip_6 : decode b_Reader_skip 6 = .ok (.iadd, 1) := by decide +kernel
theorem d_Reader_skip_7 : decode b_Reader_skip 7 = .ok (.putfield 19, 3) := by decide +kernel
theorem d_Reader_skip_10 : decode b_Reader_skip 10 = .ok (.return_, 1) := by decide +kernel
theorem d_Reader_nextItself_0 : decode b_Reader_nextItself 0 = .ok (.aload_n 0, 1) := by decide +kernel
theorem d_Reader_nextItself_1 : decode b_Reader_nextItself 1 = .ok (.iconst 0, 1) := by decide +kernel
theorem d_Reader_nextItself_2 : decode b_Reader_nextItself 2 = .ok (.invokevirtual 27, 3) := by decide +kernel
theorem d_Reader_nextItself_5 : decode b_Reader_nextItself 5 = .ok (.bipush 92, 2) := by decide +kernel
theorem d_Reader_nextItself_7 : decode b_Reader_nextItself 7 = .ok (.if_icmp .ne 22, 3) := by decide +kernel
theorem d_Reader_nextItself_10 : decode b_Reader_nextItself 10 = .ok (.aload_n 0, 1) := by decide +kernel
theorem d_Reader_nextItself_11 : decode b_Reader_nextItself 11 = .ok (.iconst 1, 1) := by decide +kernel
theorem d_Reader_nextItself_12 : decode b_Reader_nextItself 12 = .ok (.invokevirtual 27, 3) := by decide +kernel
theorem d_Reader_nextItself_15 : decode b_Reader_nextItself 15 = .ok (.iconst (-1), 1) := by decide +kernel
theorem d_Reader_nextItself_16 : decode b_Reader_nextItself 16 = .ok (.if_icmp .eq 13, 3) := by decide +kernel
theorem d_Reader_nextItself_19 : decode b_Reader_nextItself 19 = .ok (.aload_n 0, 1) := by decide +kernel
theorem d_Reader_nextItself_20 : decode b_Reader_nextItself 20 = .ok (.dup, 1) := by decide +kernel
theorem d_Reader_nextItself_21 : decode b_Reader_nextItself 21 = .ok (.getfield 19, 3) := by decide +kernel
theorem d_Reader_nextItself_24 : decode b_Reader_nextItself 24 = .ok (.iconst 1, 1) := by decide +kernel
theorem d_Reader_nextItself_25 : decode b_Reader_nextItself 25 = .ok (.iadd, 1) := by decide +kernel
theorem d_Reader_nextItself_26 : decode b_Reader_nextItself 26 = .ok (.putfield 19, 3) := by decide +kernel
theorem d_Reader_nextItself_29 : decode b_Reader_nextItself 29 = .ok (.aload_n 0, 1) := by decide +kernel
theorem d_Reader_nextItself_30 : decode b_Reader_nextItself 30 = .ok (.iconst 0, 1) := by decide +kernel
theorem d_Reader_nextItself_31 : decode b_Reader_nextItself 31 = .ok (.invokevirtual 27, 3) := by decide +kernel
theorem d_Reader_nextItself_34 : decode b_Reader_nextItself 34 = .ok (.istore_n 1, 1) := by decide +kernel
theorem d_Reader_nextItself_35 : decode b_Reader_nextItself 35 = .ok (.aload_n 0, 1) := by decide +kernel
theorem d_Reader_nextItself_36 : decode b_Reader_nextItself 36 = .ok (.dup, 1) := by decide +kernel
theorem d_Reader_nextItself_37 : decode b_Reader_nextItself 37 = .ok (.getfield 19, 3) := by decide +kernel
theorem d_Reader_nextItself_40 : decode b_Reader_nextItself 40 = .ok (.iconst 1, 1) := by decide +kernel
theorem d_Reader_nextItself_41 : decode b_Reader_nextItself 41 = .ok (.iadd, 1) := by decide +kernel
theorem d_Reader_nextItself_42 : decode b_Reader_nextItself 42 = .ok (.putfield 19, 3) := by decide +kernel
theorem d_Reader_nextItself_45 : decode b_Reader_nextItself 45 = .ok (.iload_n 1, 1) := by decide +kernel
theorem d_Reader_nextItself_46 : decode b_Reader_nextItself 46 = .ok (.ireturn, 1) := by decide +kernel
theorem d_Rule_init_0 : decode b_Rule_init 0 = .ok (.aload_n 0, 1) := by decide +kernel
theorem d_Rule_init_1 : decode b_Rule_init 1 = .ok (.invokespecial 1, 3) := by decide +kernel
theorem d_Rule_init_4 : decode b_Rule_init 4 = .ok (.aload_n 0, 1) := by decide +kernel
theorem d_Rule_init_5 : decode b_Rule_init 5 = .ok (.iload_n 1, 1) := by decide +kernel
theorem d_Rule_init_6 : decode b_Rule_init 6 = .ok (.putfield 7, 3) := by decide +kernel
theorem d_Rule_init_9 : decode b_Rule_init 9 = .ok (.aload_n 0, 1) := by decide +kernel
theorem d_Rule_init_10 : decode b_Rule_init 10 = .ok (.aload_n 2, 1) := by decide +kernel
theorem d_Rule_init_11 : decode b_Rule_init 11 = .ok (.putfield 13, 3) := by decide +kernel
theorem d_Rule_init_14 : decode b_Rule_init 14 = .ok (.aload_n 0, 1) := by decide +kernel
theorem d_Rule_init_15 : decode b_Rule_init 15 = .ok (.aload_n 3, 1) := by decide +kernel
theorem d_Rule_init_16 : decode b_Rule_init 16 = .ok (.putfield 17, 3) := by decide +kernel
theorem d_Rule_init_19 : decode b_Rule_init 19 = .ok (.aload_n 0, 1) := by decide +kernel
theorem d_Rule_init_20 : decode b_Rule_init 20 = .ok (.iload 4, 2) := by decide +kernel
theorem d_Rule_init_22 : decode b_Rule_init 22 = .ok (.putfield 21, 3) := by decide +kernel
theorem d_Rule_init_25 : decode b_Rule_init 25 = .ok (.aload_n 0, 1) := by decide +kernel
theorem d_Rule_init_26 : decode b_Rule_init 26 = .ok (.iload 5, 2) := by decide +kernel
theorem d_Rule_init_28 : decode b_Rule_init 28 = .ok (.putfield 24, 3) := by decide +kernel
theorem d_Rule_init_31 : decode b_Rule_init 31 = .ok (.return_, 1) := by decide +kernel
theorem d_Arrays_copyOf_0 : decode b_Arrays_copyOf 0 = .ok (.iload_n 1, 1) := by decide +kernel
theorem d_Arrays_copyOf_1 : decode b_Arrays_copyOf 1 = .ok (.aload_n 0, 1) := by decide +kernel
theorem d_Arrays_copyOf_2 : decode b_Arrays_copyOf 2 = .ok (.arraylength, 1) := by decide +kernel
theorem d_Arrays_copyOf_3 : decode b_Arrays_copyOf 3 = .ok (.if_icmp .ne 11, 3) := by decide +kernel
theorem d_Arrays_copyOf_6 : decode b_Arrays_copyOf 6 = .ok (.aload_n 0, 1) := by decide +kernel
theorem d_Arrays_copyOf_7 : decode b_Arrays_copyOf 7 = .ok (.invokevirtual 310, 3) := by decide +kernel
theorem d_Arrays_copyOf_10 : decode b_Arrays_copyOf 10 = .ok (.checkcast 311, 3) := by decide +kernel
theorem d_Arrays_copyOf_13 : decode b_Arrays_copyOf 13 = .ok (.areturn, 1) := by decide +kernel
theorem d_Arrays_copyOf_14 : decode b_Arrays_copyOf 14 = .ok (.iload_n 1, 1) := by decide +kernel
theorem d_Arrays_copyOf_15 : decode b_Arrays_copyOf 15 = .ok (.newarray .byte, 2) := by decide +kernel
theorem d_Arrays_copyOf_17 : decode b_Arrays_copyOf 17 = .ok (.astore_n 2, 1) := by decide +kernel
theorem d_Arrays_copyOf_18 : decode b_Arrays_copyOf 18 = .ok (.aload_n 0, 1) := by decide +kernel
theorem d_Arrays_copyOf_19 : decode b_Arrays_copyOf 19 = .ok (.iconst 0, 1) := by decide +kernel
theorem d_Arrays_copyOf_20 : decode b_Arrays_copyOf 20 = .ok (.aload_n 2, 1) := by decide +kernel
theorem d_Arrays_copyOf_21 : decode b_Arrays_copyOf 21 = .ok (.iconst 0, 1) := by decide +kernel
theorem d_Arrays_copyOf_22 : decode b_Arrays_copyOf 22 = .ok (.aload_n 0, 1) := by decide +kernel
theorem d_Arrays_copyOf_23 : decode b_Arrays_copyOf 23 = .ok (.arraylength, 1) := by decide +kernel
theorem d_Arrays_copyOf_24 : decode b_Arrays_copyOf 24 = .ok (.iload_n 1, 1) := by decide +kernel
theorem d_Arrays_copyOf_25 : decode b_Arrays_copyOf 25 = .ok (.invokestatic 304, 3) := by decide +kernel
theorem d_Arrays_copyOf_28 : decode b_Arrays_copyOf 28 = .ok (.invokestatic 150, 3) := by decide +kernel
theorem d_Arrays_copyOf_31 : decode b_Arrays_copyOf 31 = .ok (.aload_n 2, 1) := by decide +kernel
theorem d_Arrays_copyOf_32 : decode b_Arrays_copyOf 32 = .ok (.areturn, 1) := by decide +kernel
end
section
theorem d_Pattern_init_0 : decode b_Pattern_init 0 = .ok (.aload_n 0, 1) := by decide +kernel
theorem d_Pattern_init_1 : decode b_Pattern_init 1 = .ok (.invokespecial 3, 3) := by decide +kernel
theorem d_Pattern_init_4 : decode b_Pattern_init 4 = .ok (.iconst 0, 1) := by decide +kernel
theorem d_Pattern_init_5 : decode b_Pattern_init 5 = .ok (.iload_n 2, 1) := by decide +kernel
theorem d_Pattern_init_6 : decode b_Pattern_init 6 = .ok (.aload_n 1, 1) := by decide +kernel
theorem d_Pattern_init_7 : decode b_Pattern_init 7 = .ok (.invokevirtual 9, 3) := by decide +kernel
theorem d_Pattern_init_10 : decode b_Pattern_init 10 = .ok (.invokestatic 15, 3) := by decide +kernel
theorem d_Pattern_init_13 : decode b_Pattern_init 13 = .ok (.invokestatic 21, 3) := by decide +kernel
theorem d_Pattern_init_16 : decode b_Pattern_init 16 = .ok (.istore_n 3, 1) := by decide +kernel
theorem d_Pattern_init_17 : decode b_Pattern_init 17 = .ok (.aload_n 0, 1) := by decide +kernel
theorem d_Pattern_init_18 : decode b_Pattern_init 18 = .ok (.iload_n 3, 1) := by decide +kernel
theorem d_Pattern_init_19 : decode b_Pattern_init 19 = .ok (.iconst 4, 1) := by decide +kernel
theorem d_Pattern_init_20 : decode b_Pattern_init 20 = .ok (.imul, 1) := by decide +kernel
theorem d_Pattern_init_21 : decode b_Pattern_init 21 = .ok (.newarray .long, 2) := by decide +kernel
theorem d_Pattern_init_23 : decode b_Pattern_init 23 = .ok (.putfield 26, 3) := by decide +kernel
theorem d_Pattern_init_26 : decode b_Pattern_init 26 = .ok (.aload_n 0, 1) := by decide +kernel
theorem d_Pattern_init_27 : decode b_Pattern_init 27 = .ok (.iload_n 3, 1) := by decide +kernel
theorem d_Pattern_init_28 : decode b_Pattern_init 28 = .ok (.newarray .boolean, 2) := by decide +kernel
theorem d_Pattern_init_30 : decode b_Pattern_init 30 = .ok (.putfield 30, 3) := by decide +kernel
theorem d_Pattern_init_33 : decode b_Pattern_init 33 = .ok (.new 34, 3) := by decide +kernel
theorem d_Pattern_init_36 : decode b_Pattern_init 36 = .ok (.dup, 1) := by decide +kernel
theorem d_Pattern_init_37 : decode b_Pattern_init 37 = .ok (.aload_n 1, 1) := by decide +kernel
theorem d_Pattern_init_38 : decode b_Pattern_init 38 = .ok (.iload_n 3, 1) := by decide +kernel
theorem d_Pattern_init_39 : decode b_Pattern_init 39 = .ok (.invokespecial 36, 3) := by decide +kernel
theorem d_Pattern_init_42 : decode b_Pattern_init 42 = .ok (.astore 4, 2) := by decide +kernel
theorem d_Pattern_init_44 : decode b_Pattern_init 44 = .ok (.aload_n 0, 1) := by decide +kernel
theorem d_Pattern_init_45 : decode b_Pattern_init 45 = .ok (.iconst 0, 1) := by decide +kernel
theorem d_Pattern_init_46 : decode b_Pattern_init 46 = .ok (.putfield 39, 3) := by decide +kernel
theorem d_Pattern_init_49 : decode b_Pattern_init 49 = .ok (.aload_n 0, 1) := by decide +kernel
theorem d_Pattern_init_50 : decode b_Pattern_init 50 = .ok (.getfield 39, 3) := by decide +kernel
theorem d_Pattern_init_53 : decode b_Pattern_init 53 = .ok (.iload_n 3, 1) := by decide +kernel
theorem d_Pattern_init_54 : decode b_Pattern_init 54 = .ok (.if_icmp .ge 32, 3) := by decide +kernel
theorem d_Pattern_init_57 : decode b_Pattern_init 57 = .ok (.aload 4, 2) := by decide +kernel
theorem d_Pattern_init_59 : decode b_Pattern_init 59 = .ok (.iconst 0, 1) := by decide +kernel
theorem d_Pattern_init_60 : decode b_Pattern_init 60 = .ok (.invokevirtual 43, 3) := by decide +kernel
theorem d_Pattern_init_63 : decode b_Pattern_init 63 = .ok (.iconst (-1), 1) := by decide +kernel
theorem d_Pattern_init_64 : decode b_Pattern_init 64 = .ok (.if_icmp .eq 22, 3) := by decide +kernel
theorem d_Pattern_init_67 : decode b_Pattern_init 67 = .ok (.aload_n 0, 1) := by decide +kernel
theorem d_Pattern_init_68 : decode b_Pattern_init 68 = .ok (.aload 4, 2) := by decide +kernel
theorem d_Pattern_init_70 : decode b_Pattern_init 70 = .ok (.invokevirtual 47, 3) := by decide +kernel
theorem d_Pattern_init_73 : decode b_Pattern_init 73 = .ok (.aload_n 0, 1) := by decide +kernel
theorem d_Pattern_init_74 : decode b_Pattern_init 74 = .ok (.dup, 1) := by decide +kernel
theorem d_Pattern_init_75 : decode b_Pattern_init 75 = .ok (.getfield 39, 3) := by decide +kernel
theorem d_Pattern_init_78 : decode b_Pattern_init 78 = .ok (.iconst 1, 1) := by decide +kernel
theorem d_Pattern_init_79 : decode b_Pattern_init 79 = .ok (.iadd, 1) := by decide +kernel
theorem d_Pattern_init_80 : decode b_Pattern_init 80 = .ok (.putfield 39, 3) := by decide +kernel
theorem d_Pattern_init_83 : decode b_Pattern_init 83 = .ok (.goto (-34), 3) := by decide +kernel
theorem d_Pattern_init_86 : decode b_Pattern_init 86 = .ok (.return_, 1) := by decide +kernel
theorem d_Pattern_readItem_0 : decode b_Pattern_readItem 0 = .ok (.aload_n 1, 1) := by decide +kernel
theorem d_Pattern_readItem_1 : decode b_Pattern_readItem 1 = .ok (.iconst 0, 1) := by decide +kernel
theorem d_Pattern_readItem_2 : decode b_Pattern_readItem 2 = .ok (.invokevirtual 43, 3) := by decide +kernel
theorem d_Pattern_readItem_5 : decode b_Pattern_readItem 5 = .ok (.lookupswitch 73 #[(42, 35), (63, 46), (91, 61)], 35) := by decide +kernel
theorem d_Pattern_readItem_40 : decode b_Pattern_readItem 40 = .ok (.aload_n 1, 1) := by decide +kernel
theorem d_Pattern_readItem_41 : decode b_Pattern_readItem 41 = .ok (.invokevirtual 51, 3) := by decide +kernel
theorem d_Pattern_readItem_44 : decode b_Pattern_readItem 44 = .ok (.aload_n 0, 1) := by decide +kernel
theorem d_Pattern_readItem_45 : decode b_Pattern_readItem 45 = .ok (.invokevirtual 54, 3) := by decide +kernel
theorem d_Pattern_readItem_48 : decode b_Pattern_readItem 48 = .ok (.goto 41, 3) := by decide +kernel
theorem d_Pattern_readItem_51 : decode b_Pattern_readItem 51 = .ok (.aload_n 1, 1) := by decide +kernel
theorem d_Pattern_readItem_52 : decode b_Pattern_readItem 52 = .ok (.invokevirtual 51, 3) := by decide +kernel
theorem d_Pattern_readItem_55 : decode b_Pattern_readItem 55 = .ok (.aload_n 0, 1) := by decide +kernel
theorem d_Pattern_readItem_56 : decode b_Pattern_readItem 56 = .ok (.iconst 0, 1) := by decide +kernel
theorem d_Pattern_readItem_57 : decode b_Pattern_readItem 57 = .ok (.sipush 255, 3) := by decide +kernel
theorem d_Pattern_readItem_60 : decode b_Pattern_readItem 60 = .ok (.invokevirtual 57, 3) := by decide +kernel
theorem d_Pattern_readItem_63 : decode b_Pattern_readItem 63 = .ok (.goto 26, 3) := by decide +kernel
theorem d_Pattern_readItem_66 : decode b_Pattern_readItem 66 = .ok (.aload_n 1, 1) := by decide +kernel
theorem d_Pattern_readItem_67 : decode b_Pattern_readItem 67 = .ok (.invokevirtual 51, 3) := by decide +kernel
theorem d_Pattern_readItem_70 : decode b_Pattern_readItem 70 = .ok (.aload_n 0, 1) := by decide +kernel
theorem d_Pattern_readItem_71 : decode b_Pattern_readItem 71 = .ok (.aload_n 1, 1) := by decide +kernel
theorem d_Pattern_readItem_72 : decode b_Pattern_readItem 72 = .ok (.invokevirtual 61, 3) := by decide +kernel
theorem d_Pattern_readItem_75 : decode b_Pattern_readItem 75 = .ok (.goto 14, 3) := by decide +kernel
theorem d_Pattern_readItem_78 : decode b_Pattern_readItem 78 = .ok (.aload_n 1, 1) := by decide +kernel
theorem d_Pattern_readItem_79 : decode b_Pattern_readItem 79 = .ok (.invokevirtual 64, 3) := by decide +kernel
theorem d_Pattern_readItem_82 : decode b_Pattern_readItem 82 = .ok (.istore_n 2, 1) := by decide +kernel
theorem d_Pattern_readItem_83 : decode b_Pattern_readItem 83 = .ok (.aload_n 0, 1) := by decide +kernel
theorem d_Pattern_readItem_84 : decode b_Pattern_readItem 84 = .ok (.iload_n 2, 1) := by decide +kernel
theorem d_Pattern_readItem_85 : decode b_Pattern_readItem 85 = .ok (.iload_n 2, 1) := by decide +kernel
theorem d_Pattern_readItem_86 : decode b_Pattern_readItem 86 = .ok (.invokevirtual 57, 3) := by decide +kernel
theorem d_Pattern_readItem_89 : decode b_Pattern_readItem 89 = .ok (.return_, 1) := by decide +kernel
theorem d_Pattern_readChoice_0 : decode b_Pattern_readChoice 0 = .ok (.iconst 0, 1) := by decide +kernel
theorem d_Pattern_readChoice_1 : decode b_Pattern_readChoice 1 = .ok (.istore_n 2, 1) := by decide +kernel
theorem d_Pattern_readChoice_2 : decode b_Pattern_readChoice 2 = .ok (.iload_n 2, 1) := by decide +kernel
theorem d_Pattern_readChoice_3 : decode b_Pattern_readChoice 3 = .ok (.aload_n 0, 1) := by decide +kernel
theorem d_Pattern_readChoice_4 : decode b_Pattern_readChoice 4 = .ok (.getfield 30, 3) := by decide +kernel
theorem d_Pattern_readChoice_7 : decode b_Pattern_readChoice 7 = .ok (.arraylength, 1) := by decide +kernel
theorem d_Pattern_readChoice_8 : decode b_Pattern_readChoice 8 = .ok (.if_icmp .ge 85, 3) := by decide +kernel
theorem d_Pattern_readChoice_11 : decode b_Pattern_readChoice 11 = .ok (.aload_n 1, 1) := by decide +kernel
theorem d_Pattern_readChoice_12 : decode b_Pattern_readChoice 12 = .ok (.iconst 0, 1) := by decide +kernel
theorem d_Pattern_readChoice_13 : decode b_Pattern_readChoice 13 = .ok (.invokevirtual 43, 3) := by decide +kernel
theorem d_Pattern_readChoice_16 : decode b_Pattern_readChoice 16 = .ok (.iconst (-1), 1) := by decide +kernel
theorem d_Pattern_readChoice_17 : decode b_Pattern_readChoice 17 = .ok (.if_icmp .eq 76, 3) := by decide +kernel
theorem d_Pattern_readChoice_20 : decode b_Pattern_readChoice 20 = .ok (.aload_n 1, 1) := by decide +kernel
theorem d_Pattern_readChoice_21 : decode b_Pattern_readChoice 21 = .ok (.iconst 0, 1) := by decide +kernel
theorem d_Pattern_readChoice_22 : decode b_Pattern_readChoice 22 = .ok (.invokevirtual 43, 3) := by decide +kernel
theorem d_Pattern_readChoice_25 : decode b_Pattern_readChoice 25 = .ok (.bipush 93, 2) := by decide +kernel
theorem d_Pattern_readChoice_27 : decode b_Pattern_readChoice 27 = .ok (.if_icmp .ne 6, 3) := by decide +kernel
theorem d_Pattern_readChoice_30 : decode b_Pattern_readChoice 30 = .ok (.goto 63, 3) := by decide +kernel
theorem d_Pattern_readChoice_33 : decode b_Pattern_readChoice 33 = .ok (.aload_n 1, 1) := by decide +kernel
theorem d_Pattern_readChoice_34 : decode b_Pattern_readChoice 34 = .ok (.invokevirtual 64, 3) := by decide +kernel
theorem d_Pattern_readChoice_37 : decode b_Pattern_readChoice 37 = .ok (.istore_n 3, 1) := by decide +kernel
theorem d_Pattern_readChoice_38 : decode b_Pattern_readChoice 38 = .ok (.iload_n 3, 1) := by decide +kernel
theorem d_Pattern_readChoice_39 : decode b_Pattern_readChoice 39 = .ok (.istore 4, 2) := by decide +kernel
theorem d_Pattern_readChoice_41 : decode b_Pattern_readChoice 41 = .ok (.aload_n 1, 1) := by decide +kernel
theorem d_Pattern_readChoice_42 : decode b_Pattern_readChoice 42 = .ok (.iconst 0, 1) := by decide +kernel
theorem d_Pattern_readChoice_43 : decode b_Pattern_readChoice 43 = .ok (.invokevirtual 43, 3) := by decide +kernel
theorem d_Pattern_readChoice_46 : decode b_Pattern_readChoice 46 = .ok (.bipush 45, 2) := by decide +kernel
theorem d_Pattern_readChoice_48 : decode b_Pattern_readChoice 48 = .ok (.if_icmp .ne 32, 3) := by decide +kernel
theorem d_Pattern_readChoice_51 : decode b_Pattern_readChoice 51 = .ok (.aload_n 1, 1) := by decide +kernel
theorem d_Pattern_readChoice_52 : decode b_Pattern_readChoice 52 = .ok (.iconst 1, 1) := by decide +kernel
theorem d_Pattern_readChoice_53 : decode b_Pattern_readChoice 53 = .ok (.invokevirtual 43, 3) := by decide +kernel
theorem d_Pattern_readChoice_56 : decode b_Pattern_readChoice 56 = .ok (.bipush 93, 2) := by decide +kernel
theorem d_Pattern_readChoice_58 : decode b_Pattern_readChoice 58 = .ok (.if_icmp .eq 22, 3) := by decide +kernel
theorem d_Pattern_readChoice_61 : decode b_Pattern_readChoice 61 = .ok (.aload_n 1, 1) := by decide +kernel
theorem d_Pattern_readChoice_62 : decode b_Pattern_readChoice 62 = .ok (.iconst 1, 1) := by decide +kernel
theorem d_Pattern_readChoice_63 : decode b_Pattern_readChoice 63 = .ok (.invokevirtual 43, 3) := by decide +kernel
theorem d_Pattern_readChoice_66 : decode b_Pattern_readChoice 66 = .ok (.iconst (-1), 1) := by decide +kernel
theorem d_Pattern_readChoice_67 : decode b_Pattern_readChoice 67 = .ok (.if_icmp .eq 13, 3) := by decide +kernel
theorem d_Pattern_readChoice_70 : decode b_Pattern_readChoice 70 = .ok (.aload_n 1, 1) := by decide +kernel
theorem d_Pattern_readChoice_71 : decode b_Pattern_readChoice 71 = .ok (.invokevirtual 51, 3) := by decide +kernel
theorem d_Pattern_readChoice_74 : decode b_Pattern_readChoice 74 = .ok (.aload_n 1, 1) := by decide +kernel
theorem d_Pattern_readChoice_75 : decode b_Pattern_readChoice 75 = .ok (.invokevirtual 64, 3) := by decide +kernel
theorem d_Pattern_readChoice_78 : decode b_Pattern_readChoice 78 = .ok (.istore 4, 2) := by decide +kernel
theorem d_Pattern_readChoice_80 : decode b_Pattern_readChoice 80 = .ok (.aload_n 0, 1) := by decide +kernel
theorem d_Pattern_readChoice_81 : decode b_Pattern_readChoice 81 = .ok (.iload_n 3, 1) := by decide +kernel
theorem d_Pattern_readChoice_82 : decode b_Pattern_readChoice 82 = .ok (.iload 4, 2) := by decide +kernel
theorem d_Pattern_readChoice_84 : decode b_Pattern_readChoice 84 = .ok (.invokevirtual 57, 3) := by decide +kernel
theorem d_Pattern_readChoice_87 : decode b_Pattern_readChoice 87 = .ok (.iinc 2 1, 3) := by decide +kernel
theorem d_Pattern_readChoice_90 : decode b_Pattern_readChoice 90 = .ok (.goto (-88), 3) := by decide +kernel
theorem d_Pattern_readChoice_93 : decode b_Pattern_readChoice 93 = .ok (.aload_n 1, 1) := by decide +kernel
theorem d_Pattern_readChoice_94 : decode b_Pattern_readChoice 94 = .ok (.invokevirtual 51, 3) := by decide +kernel
theorem d_Pattern_readChoice_97 : decode b_Pattern_readChoice 97 = .ok (.return_, 1) := by decide +kernel
theorem d_Pattern_markStar_0 : decode b_Pattern_markStar 0 = .ok (.aload_n 0, 1) := by decide +kernel
theorem d_Pattern_markStar_1 : decode b_Pattern_markStar 1 = .ok (.getfield 39, 3) := by decide +kernel
theorem d_Pattern_markStar_4 : decode b_Pattern_markStar 4 = .ok (.ifCond .lt 25, 3) := by decide +kernel
theorem d_Pattern_markStar_7 : decode b_Pattern_markStar 7 = .ok (.aload_n 0, 1) := by decide +kernel
theorem d_Pattern_markStar_8 : decode b_Pattern_markStar 8 = .ok (.getfield 39, 3) := by decide +kernel
theorem d_Pattern_markStar_11 : decode b_Pattern_markStar 11 = .ok (.aload_n 0, 1) := by decide +kernel
theorem d_Pattern_markStar_12 : decode b_Pattern_markStar 12 = .ok (.getfield 30, 3) := by decide +kernel
theorem d_Pattern_markStar_15 : decode b_Pattern_markStar 15 = .ok (.arraylength, 1) := by decide +kernel
theorem d_Pattern_markStar_16 : decode b_Pattern_markStar 16 = .ok (.if_icmp .ge 13, 3) := by decide +kernel
theorem d_Pattern_markStar_19 : decode b_Pattern_markStar 19 = .ok (.aload_n 0, 1) := by decide +kernel
theorem d_Pattern_markStar_20 : decode b_Pattern_markStar 20 = .ok (.getfield 30, 3) := by decide +kernel
theorem d_Pattern_markStar_23 : decode b_Pattern_markStar 23 = .ok (.aload_n 0, 1) := by decide +kernel
theorem d_Pattern_markStar_24 : decode b_Pattern_markStar 24 = .ok (.getfield 39, 3) := by decide +kernel
theorem d_Pattern_markStar_27 : decode b_Pattern_markStar 27 = .ok (.iconst 1, 1) := by decide +kernel
theorem d_Pattern_markStar_28 : decode b_Pattern_markStar 28 = .ok (.bastore, 1) := by decide +kernel
theorem d_Pattern_markStar_29 : decode b_Pattern_markStar 29 = .ok (.return_, 1) := by decide +kernel
theorem d_Pattern_allow_0 : decode b_Pattern_allow 0 = .ok (.iconst 0, 1) := by decide +kernel
theorem d_Pattern_allow_1 : decode b_Pattern_allow 1 = .ok (.iload_n 1, 1) := by decide +kernel
theorem d_Pattern_allow_2 : decode b_Pattern_allow 2 = .ok (.invokestatic 21, 3) := by decide +kernel
theorem d_Pattern_allow_5 : decode b_Pattern_allow 5 = .ok (.istore_n 3, 1) := by decide +kernel
theorem d_Pattern_allow_6 : decode b_Pattern_allow 6 = .ok (.iload_n 3, 1) := by decide +kernel
theorem d_Pattern_allow_7 : decode b_Pattern_allow 7 = .ok (.iload_n 2, 1) := by decide +kernel
theorem d_Pattern_allow_8 : decode b_Pattern_allow 8 = .ok (.if_icmp .gt 55, 3) := by decide +kernel
theorem d_Pattern_allow_11 : decode b_Pattern_allow 11 = .ok (.iload_n 3, 1) := by decide +kernel
theorem d_Pattern_allow_12 : decode b_Pattern_allow 12 = .ok (.sipush 255, 3) := by decide +kernel
theorem d_Pattern_allow_15 : decode b_Pattern_allow 15 = .ok (.if_icmp .gt 48, 3) := by decide +kernel
theorem d_Pattern_allow_18 : decode b_Pattern_allow 18 = .ok (.aload_n 0, 1) := by decide +kernel
theorem d_Pattern_allow_19 : decode b_Pattern_allow 19 = .ok (.getfield 39, 3) := by decide +kernel
theorem d_Pattern_allow_22 : decode b_Pattern_allow 22 = .ok (.iconst 4, 1) := by decide +kernel
theorem d_Pattern_allow_23 : decode b_Pattern_allow 23 = .ok (.imul, 1) := by decide +kernel
theorem d_Pattern_allow_24 : decode b_Pattern_allow 24 = .ok (.iload_n 3, 1) := by decide +kernel
theorem d_Pattern_allow_25 : decode b_Pattern_allow 25 = .ok (.bipush 6, 2) := by decide +kernel
theorem d_Pattern_allow_27 : decode b_Pattern_allow 27 = .ok (.ishr, 1) := by decide +kernel
theorem d_Pattern_allow_28 : decode b_Pattern_allow 28 = .ok (.iadd, 1) := by decide +kernel
theorem d_Pattern_allow_29 : decode b_Pattern_allow 29 = .ok (.istore 4, 2) := by decide +kernel
theorem d_Pattern_allow_31 : decode b_Pattern_allow 31 = .ok (.iload 4, 2) := by decide +kernel
theorem d_Pattern_allow_33 : decode b_Pattern_allow 33 = .ok (.aload_n 0, 1) := by decide +kernel
theorem d_Pattern_allow_34 : decode b_Pattern_allow 34 = .ok (.getfield 26, 3) := by decide +kernel
theorem d_Pattern_allow_37 : decode b_Pattern_allow 37 = .ok (.arraylength, 1) := by decide +kernel
theorem d_Pattern_allow_38 : decode b_Pattern_allow 38 = .ok (.if_icmp .ge 19, 3) := by decide +kernel
theorem d_Pattern_allow_41 : decode b_Pattern_allow 41 = .ok (.aload_n 0, 1) := by decide +kernel
theorem d_Pattern_allow_42 : decode b_Pattern_allow 42 = .ok (.getfield 26, 3) := by decide +kernel
theorem d_Pattern_allow_45 : decode b_Pattern_allow 45 = .ok (.iload 4, 2) := by decide +kernel
theorem d_Pattern_allow_47 : decode b_Pattern_allow 47 = .ok (.dup2, 1) := by decide +kernel
theorem d_Pattern_allow_48 : decode b_Pattern_allow 48 = .ok (.laload, 1) := by decide +kernel
theorem d_Pattern_allow_49 : decode b_Pattern_allow 49 = .ok (.lconst 1, 1) := by decide +kernel
theorem d_Pattern_allow_50 : decode b_Pattern_allow 50 = .ok (.iload_n 3, 1) := by decide +kernel
theorem d_Pattern_allow_51 : decode b_Pattern_allow 51 = .ok (.bipush 63, 2) := by decide +kernel
theorem d_Pattern_allow_53 : decode b_Pattern_allow 53 = .ok (.iand, 1) := by decide +kernel
theorem d_Pattern_allow_54 : decode b_Pattern_allow 54 = .ok (.lshl, 1) := by decide +kernel
theorem d_Pattern_allow_55 : decode b_Pattern_allow 55 = .ok (.lor, 1) := by decide +kernel
theorem d_Pattern_allow_56 : decode b_Pattern_allow 56 = .ok (.lastore, 1) := by decide +kernel
theorem d_Pattern_allow_57 : decode b_Pattern_allow 57 = .ok (.iinc 3 1, 3) := by decide +kernel
theorem d_Pattern_allow_60 : decode b_Pattern_allow 60 = .ok (.goto (-54), 3) := by decide +kernel
theorem d_Pattern_allow_63 : decode b_Pattern_allow 63 = .ok (.return_, 1) := by decide +kernel
theorem d_Pattern_isStar_0 : decode b_Pattern_isStar 0 = .ok (.iload_n 1, 1) := by decide +kernel
theorem d_Pattern_isStar_1 : decode b_Pattern_isStar 1 = .ok (.ifCond .lt 25, 3) := by decide +kernel
theorem d_Pattern_isStar_4 : decode b_Pattern_isStar 4 = .ok (.iload_n 1, 1) := by decide +kernel
theorem d_Pattern_isStar_5 : decode b_Pattern_isStar 5 = .ok (.aload_n 0, 1) := by decide +kernel
theorem d_Pattern_isStar_6 : decode b_Pattern_isStar 6 = .ok (.getfield 30, 3) := by decide +kernel
theorem d_Pattern_isStar_9 : decode b_Pattern_isStar 9 = .ok (.arraylength, 1) := by decide +kernel
theorem d_Pattern_isStar_10 : decode b_Pattern_isStar 10 = .ok (.if_icmp .ge 16, 3) := by decide +kernel
theorem d_Pattern_isStar_13 : decode b_Pattern_isStar 13 = .ok (.aload_n 0, 1) := by decide +kernel
theorem d_Pattern_isStar_14 : decode b_Pattern_isStar 14 = .ok (.getfield 30, 3) := by decide +kernel
theorem d_Pattern_isStar_17 : decode b_Pattern_isStar 17 = .ok (.iload_n 1, 1) := by decide +kernel
theorem d_Pattern_isStar_18 : decode b_Pattern_isStar 18 = .ok (.baload, 1) := by decide +kernel
theorem d_Pattern_isStar_19 : decode b_Pattern_isStar 19 = .ok (.ifCond .eq 7, 3) := by decide +kernel
theorem d_Pattern_isStar_22 : decode b_Pattern_isStar 22 = .ok (.iconst 1, 1) := by decide +kernel
theorem d_Pattern_isStar_23 : decode b_Pattern_isStar 23 = .ok (.goto 4, 3) := by decide +kernel
theorem d_Pattern_isStar_26 : decode b_Pattern_isStar 26 = .ok (.iconst 0, 1) := by decide +kernel
theorem d_Pattern_isStar_27 : decode b_Pattern_isStar 27 = .ok (.ireturn, 1) := by decide +kernel
theorem d_Pattern_starOrEndFrom_0 : decode b_Pattern_starOrEndFrom 0 = .ok (.iload_n 1, 1) := by decide +kernel
theorem d_Pattern_starOrEndFrom_1 : decode b_Pattern_starOrEndFrom 1 = .ok (.istore_n 2, 1) := by decide +kernel
theorem d_Pattern_starOrEndFrom_2 : decode b_Pattern_starOrEndFrom 2 = .ok (.iload_n 2, 1) := by decide +kernel
theorem d_Pattern_starOrEndFrom_3 : decode b_Pattern_starOrEndFrom 3 = .ok (.aload_n 0, 1) := by decide +kernel
theorem d_Pattern_starOrEndFrom_4 : decode b_Pattern_starOrEndFrom 4 = .ok (.getfield 39, 3) := by decide +kernel
theorem d_Pattern_starOrEndFrom_7 : decode b_Pattern_starOrEndFrom 7 = .ok (.if_icmp .ge 17, 3) := by decide +kernel
theorem d_Pattern_starOrEndFrom_10 : decode b_Pattern_starOrEndFrom 10 = .ok (.aload_n 0, 1) := by decide +kernel
theorem d_Pattern_starOrEndFrom_11 : decode b_Pattern_starOrEndFrom 11 = .ok (.iload_n 2, 1) := by decide +kernel
theorem d_Pattern_starOrEndFrom_12 : decode b_Pattern_starOrEndFrom 12 = .ok (.invokevirtual 67, 3) := by decide +kernel
theorem d_Pattern_starOrEndFrom_15 : decode b_Pattern_starOrEndFrom 15 = .ok (.ifCond .ne 9, 3) := by decide +kernel
theorem d_Pattern_starOrEndFrom_18 : decode b_Pattern_starOrEndFrom 18 = .ok (.iinc 2 1, 3) := by decide +kernel
theorem d_Pattern_starOrEndFrom_21 : decode b_Pattern_starOrEndFrom 21 = .ok (.goto (-19), 3) := by decide +kernel
theorem d_Pattern_starOrEndFrom_24 : decode b_Pattern_starOrEndFrom 24 = .ok (.iload_n 2, 1) := by decide +kernel
theorem d_Pattern_starOrEndFrom_25 : decode b_Pattern_starOrEndFrom 25 = .ok (.ireturn, 1) := by decide +kernel
theorem d_Pattern_behindLastStar_0 : decode b_Pattern_behindLastStar 0 = .ok (.aload_n 0, 1) := by decide +kernel
theorem d_Pattern_behindLastStar_1 : decode b_Pattern_behindLastStar 1 = .ok (.getfield 39, 3) := by decide +kernel
theorem d_Pattern_behindLastStar_4 : decode b_Pattern_behindLastStar 4 = .ok (.istore_n 1, 1) := by decide +kernel
theorem d_Pattern_behindLastStar_5 : decode b_Pattern_behindLastStar 5 = .ok (.iload_n 1, 1) := by decide +kernel
theorem d_Pattern_behindLastStar_6 : decode b_Pattern_behindLastStar 6 = .ok (.ifCond .le 19, 3) := by decide +kernel
theorem d_Pattern_behindLastStar_9 : decode b_Pattern_behindLastStar 9 = .ok (.aload_n 0, 1) := by decide +kernel
theorem d_Pattern_behindLastStar_10 : decode b_Pattern_behindLastStar 10 = .ok (.iload_n 1, 1) := by decide +kernel
theorem d_Pattern_behindLastStar_11 : decode b_Pattern_behindLastStar 11 = .ok (.iconst 1, 1) := by decide +kernel
theorem d_Pattern_behindLastStar_12 : decode b_Pattern_behindLastStar 12 = .ok (.isub, 1) := by decide +kernel
theorem d_Pattern_behindLastStar_13 : decode b_Pattern_behindLastStar 13 = .ok (.invokevirtual 67, 3) := by decide +kernel
theorem d_Pattern_behindLastStar_16 : decode b_Pattern_behindLastStar 16 = .ok (.ifCond .ne 9, 3) := by decide +kernel
theorem d_Pattern_behindLastStar_19 : decode b_Pattern_behindLastStar 19 = .ok (.iinc 1 (-1), 3) := by decide +kernel
theorem d_Pattern_behindLastStar_22 : decode b_Pattern_behindLastStar 22 = .ok (.goto (-17), 3) := by decide +kernel
theorem d_Pattern_behindLastStar_25 : decode b_Pattern_behindLastStar 25 = .ok (.iload_n 1, 1) := by decide +kernel
theorem d_Pattern_behindLastStar_26 : decode b_Pattern_behindLastStar 26 = .ok (.ireturn, 1) := by decide +kernel
theorem d_Pattern_fitsWhole_0 : decode b_Pattern_fitsWhole 0 = .ok (.aload_n 0, 1) := by decide +kernel
theorem d_Pattern_fitsWhole_1 : decode b_Pattern_fitsWhole 1 = .ok (.iconst 0, 1) := by decide +kernel
theorem d_Pattern_fitsWhole_2 : decode b_Pattern_fitsWhole 2 = .ok (.invokevirtual 71, 3) := by decide +kernel
theorem d_Pattern_fitsWhole_5 : decode b_Pattern_fitsWhole 5 = .ok (.istore_n 2, 1) := by decide +kernel
theorem d_Pattern_fitsWhole_6 : decode b_Pattern_fitsWhole 6 = .ok (.iload_n 2, 1) := by decide +kernel
theorem d_Pattern_fitsWhole_7 : decode b_Pattern_fitsWhole 7 = .ok (.aload_n 0, 1) := by decide +kernel
theorem d_Pattern_fitsWhole_8 : decode b_Pattern_fitsWhole 8 = .ok (.getfield 39, 3) := by decide +kernel
theorem d_Pattern_fitsWhole_11 : decode b_Pattern_fitsWhole 11 = .ok (.if_icmp .ne 34, 3) := by decide +kernel
theorem d_Pattern_fitsWhole_14 : decode b_Pattern_fitsWhole 14 = .ok (.aload_n 1, 1) := by decide +kernel
theorem d_Pattern_fitsWhole_15 : decode b_Pattern_fitsWhole 15 = .ok (.invokevirtual 9, 3) := by decide +kernel
theorem d_Pattern_fitsWhole_18 : decode b_Pattern_fitsWhole 18 = .ok (.aload_n 0, 1) := by decide +kernel
theorem d_Pattern_fitsWhole_19 : decode b_Pattern_fitsWhole 19 = .ok (.getfield 39, 3) := by decide +kernel
theorem d_Pattern_fitsWhole_22 : decode b_Pattern_fitsWhole 22 = .ok (.if_icmp .ne 21, 3) := by decide +kernel
theorem d_Pattern_fitsWhole_25 : decode b_Pattern_fitsWhole 25 = .ok (.aload_n 0, 1) := by decide +kernel
theorem d_Pattern_fitsWhole_26 : decode b_Pattern_fitsWhole 26 = .ok (.aload_n 1, 1) := by decide +kernel
theorem d_Pattern_fitsWhole_27 : decode b_Pattern_fitsWhole 27 = .ok (.iconst 0, 1) := by decide +kernel
theorem d_Pattern_fitsWhole_28 : decode b_Pattern_fitsWhole 28 = .ok (.iconst 0, 1) := by decide +kernel
theorem d_Pattern_fitsWhole_29 : decode b_Pattern_fitsWhole 29 = .ok (.aload_n 0, 1) := by decide +kernel
theorem d_Pattern_fitsWhole_30 : decode b_Pattern_fitsWhole 30 = .ok (.getfield 39, 3) := by decide +kernel
theorem d_Pattern_fitsWhole_33 : decode b_Pattern_fitsWhole 33 = .ok (.invokevirtual 74, 3) := by decide +kernel
theorem d_Pattern_fitsWhole_36 : decode b_Pattern_fitsWhole 36 = .ok (.ifCond .eq 7, 3) := by decide +kernel
theorem d_Pattern_fitsWhole_39 : decode b_Pattern_fitsWhole 39 = .ok (.iconst 1, 1) := by decide +kernel
theorem d_Pattern_fitsWhole_40 : decode b_Pattern_fitsWhole 40 = .ok (.goto 4, 3) := by decide +kernel
theorem d_Pattern_fitsWhole_43 : decode b_Pattern_fitsWhole 43 = .ok (.iconst 0, 1) := by decide +kernel
theorem d_Pattern_fitsWhole_44 : decode b_Pattern_fitsWhole 44 = .ok (.ireturn, 1) := by decide +kernel
theorem d_Pattern_fitsWhole_45 : decode b_Pattern_fitsWhole 45 = .ok (.aload_n 0, 1) := by decide +kernel
theorem d_Pattern_fitsWhole_46 : decode b_Pattern_fitsWhole 46 = .ok (.invokevirtual 78, 3) := by decide +kernel
theorem d_Pattern_fitsWhole_49 : decode b_Pattern_fitsWhole 49 = .ok (.istore_n 3, 1) := by decide +kernel
theorem d_Pattern_fitsWhole_50 : decode b_Pattern_fitsWhole 50 = .ok (.aload_n 1, 1) := by decide +kernel
theorem d_Pattern_fitsWhole_51 : decode b_Pattern_fitsWhole 51 = .ok (.invokevirtual 9, 3) := by decide +kernel
theorem d_Pattern_fitsWhole_54 : decode b_Pattern_fitsWhole 54 = .ok (.aload_n 0, 1) := by decide +kernel
theorem d_Pattern_fitsWhole_55 : decode b_Pattern_fitsWhole 55 = .ok (.getfield 39, 3) := by decide +kernel
theorem d_Pattern_fitsWhole_58 : decode b_Pattern_fitsWhole 58 = .ok (.iload_n 3, 1) := by decide +kernel
theorem d_Pattern_fitsWhole_59 : decode b_Pattern_fitsWhole 59 = .ok (.isub, 1) := by decide +kernel
theorem d_Pattern_fitsWhole_60 : decode b_Pattern_fitsWhole 60 = .ok (.isub, 1) := by decide +kernel
theorem d_Pattern_fitsWhole_61 : decode b_Pattern_fitsWhole 61 = .ok (.istore 4, 2) := by decide +kernel
theorem d_Pattern_fitsWhole_63 : decode b_Pattern_fitsWhole 63 = .ok (.iload_n 2, 1) := by decide +kernel
theorem d_Pattern_fitsWhole_64 : decode b_Pattern_fitsWhole 64 = .ok (.iload 4, 2) := by decide +kernel
theorem d_Pattern_fitsWhole_66 : decode b_Pattern_fitsWhole 66 = .ok (.if_icmp .gt 47, 3) := by decide +kernel
theorem d_Pattern_fitsWhole_69 : decode b_Pattern_fitsWhole 69 = .ok (.aload_n 0, 1) := by decide +kernel
theorem d_Pattern_fitsWhole_70 : decode b_Pattern_fitsWhole 70 = .ok (.aload_n 1, 1) := by decide +kernel
theorem d_Pattern_fitsWhole_71 : decode b_Pattern_fitsWhole 71 = .ok (.iconst 0, 1) := by decide +kernel
theorem d_Pattern_fitsWhole_72 : decode b_Pattern_fitsWhole 72 = .ok (.iconst 0, 1) := by decide +kernel
theorem d_Pattern_fitsWhole_73 : decode b_Pattern_fitsWhole 73 = .ok (.iload_n 2, 1) := by decide +kernel
theorem d_Pattern_fitsWhole_74 : decode b_Pattern_fitsWhole 74 = .ok (.invokevirtual 74, 3) := by decide +kernel
theorem d_Pattern_fitsWhole_77 : decode b_Pattern_fitsWhole 77 = .ok (.ifCond .eq 36, 3) := by decide +kernel
theorem d_Pattern_fitsWhole_80 : decode b_Pattern_fitsWhole 80 = .ok (.aload_n 0, 1) := by decide +kernel
theorem d_Pattern_fitsWhole_81 : decode b_Pattern_fitsWhole 81 = .ok (.aload_n 1, 1) := by decide +kernel
theorem d_Pattern_fitsWhole_82 : decode b_Pattern_fitsWhole 82 = .ok (.iload 4, 2) := by decide +kernel
theorem d_Pattern_fitsWhole_84 : decode b_Pattern_fitsWhole 84 = .ok (.iload_n 3, 1) := by decide +kernel
theorem d_Pattern_fitsWhole_85 : decode b_Pattern_fitsWhole 85 = .ok (.aload_n 0, 1) := by decide +kernel
theorem d_Pattern_fitsWhole_86 : decode b_Pattern_fitsWhole 86 = .ok (.getfield 39, 3) := by decide +kernel
theorem d_Pattern_fitsWhole_89 : decode b_Pattern_fitsWhole 89 = .ok (.invokevirtual 74, 3) := by decide +kernel
theorem d_Pattern_fitsWhole_92 : decode b_Pattern_fitsWhole 92 = .ok (.ifCond .eq 21, 3) := by decide +kernel
theorem d_Pattern_fitsWhole_95 : decode b_Pattern_fitsWhole 95 = .ok (.aload_n 0, 1) := by decide +kernel
theorem d_Pattern_fitsWhole_96 : decode b_Pattern_fitsWhole 96 = .ok (.aload_n 1, 1) := by decide +kernel
theorem d_Pattern_fitsWhole_97 : decode b_Pattern_fitsWhole 97 = .ok (.iload_n 2, 1) := by decide +kernel
theorem d_Pattern_fitsWhole_98 : decode b_Pattern_fitsWhole 98 = .ok (.iload 4, 2) := by decide +kernel
theorem d_Pattern_fitsWhole_100 : decode b_Pattern_fitsWhole 100 = .ok (.iload_n 2, 1) := by decide +kernel
theorem d_Pattern_fitsWhole_101 : decode b_Pattern_fitsWhole 101 = .ok (.iload_n 3, 1) := by decide +kernel
theorem d_Pattern_fitsWhole_102 : decode b_Pattern_fitsWhole 102 = .ok (.invokevirtual 81, 3) := by decide +kernel
theorem d_Pattern_fitsWhole_105 : decode b_Pattern_fitsWhole 105 = .ok (.iconst (-1), 1) := by decide +kernel
theorem d_Pattern_fitsWhole_106 : decode b_Pattern_fitsWhole 106 = .ok (.if_icmp .eq 7, 3) := by decide +kernel
theorem d_Pattern_fitsWhole_109 : decode b_Pattern_fitsWhole 109 = .ok (.iconst 1, 1) := by decide +kernel
theorem d_Pattern_fitsWhole_110 : decode b_Pattern_fitsWhole 110 = .ok (.goto 4, 3) := by decide +kernel
theorem d_Pattern_fitsWhole_113 : decode b_Pattern_fitsWhole 113 = .ok (.iconst 0, 1) := by decide +kernel
theorem d_Pattern_fitsWhole_114 : decode b_Pattern_fitsWhole 114 = .ok (.ireturn, 1) := by decide +kernel
theorem d_Pattern_shortestBeginning_0 : decode b_Pattern_shortestBeginning 0 = .ok (.aload_n 0, 1) := by decide +kernel
theorem d_Pattern_shortestBeginning_1 : decode b_Pattern_shortestBeginning 1 = .ok (.aload_n 1, 1) := by decide +kernel
theorem d_Pattern_shortestBeginning_2 : decode b_Pattern_shortestBeginning 2 = .ok (.iconst 0, 1) := by decide +kernel
theorem d_Pattern_shortestBeginning_3 : decode b_Pattern_shortestBeginning 3 = .ok (.aload_n 1, 1) := by decide +kernel
theorem d_Pattern_shortestBeginning_4 : decode b_Pattern_shortestBeginning 4 = .ok (.invokevirtual 9, 3) := by decide +kernel
theorem d_Pattern_shortestBeginning_7 : decode b_Pattern_shortestBeginning 7 = .ok (.iconst 0, 1) := by decide +kernel
theorem d_Pattern_shortestBeginning_8 : decode b_Pattern_shortestBeginning 8 = .ok (.aload_n 0, 1) := by decide +kernel
theorem d_Pattern_shortestBeginning_9 : decode b_Pattern_shortestBeginning 9 = .ok (.getfield 39, 3) := by decide +kernel
theorem d_Pattern_shortestBeginning_12 : decode b_Pattern_shortestBeginning 12 = .ok (.invokevirtual 81, 3) := by decide +kernel
theorem d_Pattern_shortestBeginning_15 : decode b_Pattern_shortestBeginning 15 = .ok (.ireturn, 1) := by decide +kernel
theorem d_Pattern_earliestEnd_0 : decode b_Pattern_earliestEnd 0 = .ok (.iload_n 2, 1) := by decide +kernel
theorem d_Pattern_earliestEnd_1 : decode b_Pattern_earliestEnd 1 = .ok (.istore 6, 2) := by decide +kernel
theorem d_Pattern_earliestEnd_3 : decode b_Pattern_earliestEnd 3 = .ok (.iload 4, 2) := by decide +kernel
theorem d_Pattern_earliestEnd_5 : decode b_Pattern_earliestEnd 5 = .ok (.istore 7, 2) := by decide +kernel
theorem d_Pattern_earliestEnd_7 : decode b_Pattern_earliestEnd 7 = .ok (.iload 7, 2) := by decide +kernel
theorem d_Pattern_earliestEnd_9 : decode b_Pattern_earliestEnd 9 = .ok (.iload 5, 2) := by decide +kernel
theorem d_Pattern_earliestEnd_11 : decode b_Pattern_earliestEnd 11 = .ok (.if_icmp .ge 62, 3) := by decide +kernel
theorem d_Pattern_earliestEnd_14 : decode b_Pattern_earliestEnd 14 = .ok (.iload 5, 2) := by decide +kernel
theorem d_Pattern_earliestEnd_16 : decode b_Pattern_earliestEnd 16 = .ok (.aload_n 0, 1) := by decide +kernel
theorem d_Pattern_earliestEnd_17 : decode b_Pattern_earliestEnd 17 = .ok (.iload 7, 2) := by decide +kernel
theorem d_Pattern_earliestEnd_19 : decode b_Pattern_earliestEnd 19 = .ok (.invokevirtual 71, 3) := by decide +kernel
theorem d_Pattern_earliestEnd_22 : decode b_Pattern_earliestEnd 22 = .ok (.invokestatic 15, 3) := by decide +kernel
theorem d_Pattern_earliestEnd_25 : decode b_Pattern_earliestEnd 25 = .ok (.istore 8, 2) := by decide +kernel
theorem d_Pattern_earliestEnd_27 : decode b_Pattern_earliestEnd 27 = .ok (.aload_n 0, 1) := by decide +kernel
theorem d_Pattern_earliestEnd_28 : decode b_Pattern_earliestEnd 28 = .ok (.aload_n 1, 1) := by decide +kernel
theorem d_Pattern_earliestEnd_29 : decode b_Pattern_earliestEnd 29 = .ok (.iload 6, 2) := by decide +kernel
theorem d_Pattern_earliestEnd_31 : decode b_Pattern_earliestEnd 31 = .ok (.iload_n 3, 1) := by decide +kernel
theorem d_Pattern_earliestEnd_32 : decode b_Pattern_earliestEnd 32 = .ok (.iload 7, 2) := by decide +kernel
theorem d_Pattern_earliestEnd_34 : decode b_Pattern_earliestEnd 34 = .ok (.iload 8, 2) := by decide +kernel
theorem d_Pattern_earliestEnd_36 : decode b_Pattern_earliestEnd 36 = .ok (.invokevirtual 85, 3) := by decide +kernel
theorem d_Pattern_earliestEnd_39 : decode b_Pattern_earliestEnd 39 = .ok (.istore 6, 2) := by decide +kernel
theorem d_Pattern_earliestEnd_41 : decode b_Pattern_earliestEnd 41 = .ok (.iload 6, 2) := by decide +kernel
theorem d_Pattern_earliestEnd_43 : decode b_Pattern_earliestEnd 43 = .ok (.iconst (-1), 1) := by decide +kernel
theorem d_Pattern_earliestEnd_44 : decode b_Pattern_earliestEnd 44 = .ok (.if_icmp .ne 5, 3) := by decide +kernel
theorem d_Pattern_earliestEnd_47 : decode b_Pattern_earliestEnd 47 = .ok (.iconst (-1), 1) := by decide +kernel
theorem d_Pattern_earliestEnd_48 : decode b_Pattern_earliestEnd 48 = .ok (.ireturn, 1) := by decide +kernel
theorem d_Pattern_earliestEnd_49 : decode b_Pattern_earliestEnd 49 = .ok (.iload 6, 2) := by decide +kernel
theorem d_Pattern_earliestEnd_51 : decode b_Pattern_earliestEnd 51 = .ok (.iload 8, 2) := by decide +kernel
theorem d_Pattern_earliestEnd_53 : decode b_Pattern_earliestEnd 53 = .ok (.iload 7, 2) := by decide +kernel
theorem d_Pattern_earliestEnd_55 : decode b_Pattern_earliestEnd 55 = .ok (.isub, 1) := by decide +kernel
theorem d_Pattern_earliestEnd_56 : decode b_Pattern_earliestEnd 56 = .ok (.iadd, 1) := by decide +kernel
theorem d_Pattern_earliestEnd_57 : decode b_Pattern_earliestEnd 57 = .ok (.istore 6, 2) := by decide +kernel
theorem d_Pattern_earliestEnd_59 : decode b_Pattern_earliestEnd 59 = .ok (.iload 7, 2) := by decide +kernel
theorem d_Pattern_earliestEnd_61 : decode b_Pattern_earliestEnd 61 = .ok (.iload 8, 2) := by decide +kernel
theorem d_Pattern_earliestEnd_63 : decode b_Pattern_earliestEnd 63 = .ok (.invokestatic 21, 3) := by decide +kernel
theorem d_Pattern_earliestEnd_66 : decode b_Pattern_earliestEnd 66 = .ok (.iconst 1, 1) := by decide +kernel
theorem d_Pattern_earliestEnd_67 : decode b_Pattern_earliestEnd 67 = .ok (.iadd, 1) := by decide +kernel
theorem d_Pattern_earliestEnd_68 : decode b_Pattern_earliestEnd 68 = .ok (.istore 7, 2) := by decide +kernel
theorem d_Pattern_earliestEnd_70 : decode b_Pattern_earliestEnd 70 = .ok (.goto (-63), 3) := by decide +kernel
theorem d_Pattern_earliestEnd_73 : decode b_Pattern_earliestEnd 73 = .ok (.iload 6, 2) := by decide +kernel
theorem d_Pattern_earliestEnd_75 : decode b_Pattern_earliestEnd 75 = .ok (.ireturn, 1) := by decide +kernel
theorem d_Pattern_earliestPlace_0 : decode b_Pattern_earliestPlace 0 = .ok (.iload_n 2, 1) := by decide +kernel
theorem d_Pattern_earliestPlace_1 : decode b_Pattern_earliestPlace 1 = .ok (.istore 6, 2) := by decide +kernel
theorem d_Pattern_earliestPlace_3 : decode b_Pattern_earliestPlace 3 = .ok (.iload 6, 2) := by decide +kernel
theorem d_Pattern_earliestPlace_5 : decode b_Pattern_earliestPlace 5 = .ok (.iload_n 3, 1) := by decide +kernel
theorem d_Pattern_earliestPlace_6 : decode b_Pattern_earliestPlace 6 = .ok (.iload 5, 2) := by decide +kernel
theorem d_Pattern_earliestPlace_8 : decode b_Pattern_earliestPlace 8 = .ok (.iload 4, 2) := by decide +kernel
theorem d_Pattern_earliestPlace_10 : decode b_Pattern_earliestPlace 10 = .ok (.isub, 1) := by decide +kernel
theorem d_Pattern_earliestPlace_11 : decode b_Pattern_earliestPlace 11 = .ok (.isub, 1) := by decide +kernel
theorem d_Pattern_earliestPlace_12 : decode b_Pattern_earliestPlace 12 = .ok (.if_icmp .gt 26, 3) := by decide +kernel
theorem d_Pattern_earliestPlace_15 : decode b_Pattern_earliestPlace 15 = .ok (.aload_n 0, 1) := by decide +kernel
theorem d_Pattern_earliestPlace_16 : decode b_Pattern_earliestPlace 16 = .ok (.aload_n 1, 1) := by decide +kernel
theorem d_Pattern_earliestPlace_17 : decode b_Pattern_earliestPlace 17 = .ok (.iload 6, 2) := by decide +kernel
theorem d_Pattern_earliestPlace_19 : decode b_Pattern_earliestPlace 19 = .ok (.iload 4, 2) := by decide +kernel
theorem d_Pattern_earliestPlace_21 : decode b_Pattern_earliestPlace 21 = .ok (.iload 5, 2) := by decide +kernel
theorem d_Pattern_earliestPlace_23 : decode b_Pattern_earliestPlace 23 = .ok (.invokevirtual 74, 3) := by decide +kernel
theorem d_Pattern_earliestPlace_26 : decode b_Pattern_earliestPlace 26 = .ok (.ifCond .eq 6, 3) := by decide +kernel
theorem d_Pattern_earliestPlace_29 : decode b_Pattern_earliestPlace 29 = .ok (.iload 6, 2) := by decide +kernel
theorem d_Pattern_earliestPlace_31 : decode b_Pattern_earliestPlace 31 = .ok (.ireturn, 1) := by decide +kernel
theorem d_Pattern_earliestPlace_32 : decode b_Pattern_earliestPlace 32 = .ok (.iinc 6 1, 3) := by decide +kernel
theorem d_Pattern_earliestPlace_35 : decode b_Pattern_earliestPlace 35 = .ok (.goto (-32), 3) := by decide +kernel
theorem d_Pattern_earliestPlace_38 : decode b_Pattern_earliestPlace 38 = .ok (.iconst (-1), 1) := by decide +kernel
theorem d_Pattern_earliestPlace_39 : decode b_Pattern_earliestPlace 39 = .ok (.ireturn, 1) := by decide +kernel
theorem d_Pattern_standsAt_0 : decode b_Pattern_standsAt 0 = .ok (.iload_n 3, 1) := by decide +kernel
theorem d_Pattern_standsAt_1 : decode b_Pattern_standsAt 1 = .ok (.istore 5, 2) := by decide +kernel
theorem d_Pattern_standsAt_3 : decode b_Pattern_standsAt 3 = .ok (.iload 5, 2) := by decide +kernel
theorem d_Pattern_standsAt_5 : decode b_Pattern_standsAt 5 = .ok (.iload 4, 2) := by decide +kernel
theorem d_Pattern_standsAt_7 : decode b_Pattern_standsAt 7 = .ok (.if_icmp .ge 76, 3) := by decide +kernel
theorem d_Pattern_standsAt_10 : decode b_Pattern_standsAt 10 = .ok (.aload_n 1, 1) := by decide +kernel
theorem d_Pattern_standsAt_11 : decode b_Pattern_standsAt 11 = .ok (.iload_n 2, 1) := by decide +kernel
theorem d_Pattern_standsAt_12 : decode b_Pattern_standsAt 12 = .ok (.iload 5, 2) := by decide +kernel
theorem d_Pattern_standsAt_14 : decode b_Pattern_standsAt 14 = .ok (.iadd, 1) := by decide +kernel
theorem d_Pattern_standsAt_15 : decode b_Pattern_standsAt 15 = .ok (.iload_n 3, 1) := by decide +kernel
theorem d_Pattern_standsAt_16 : decode b_Pattern_standsAt 16 = .ok (.isub, 1) := by decide +kernel
theorem d_Pattern_standsAt_17 : decode b_Pattern_standsAt 17 = .ok (.invokevirtual 88, 3) := by decide +kernel
theorem d_Pattern_standsAt_20 : decode b_Pattern_standsAt 20 = .ok (.istore 6, 2) := by decide +kernel
theorem d_Pattern_standsAt_22 : decode b_Pattern_standsAt 22 = .ok (.iload 5, 2) := by decide +kernel
theorem d_Pattern_standsAt_24 : decode b_Pattern_standsAt 24 = .ok (.iconst 4, 1) := by decide +kernel
theorem d_Pattern_standsAt_25 : decode b_Pattern_standsAt 25 = .ok (.imul, 1) := by decide +kernel
theorem d_Pattern_standsAt_26 : decode b_Pattern_standsAt 26 = .ok (.iload 6, 2) := by decide +kernel
theorem d_Pattern_standsAt_28 : decode b_Pattern_standsAt 28 = .ok (.bipush 6, 2) := by decide +kernel
theorem d_Pattern_standsAt_30 : decode b_Pattern_standsAt 30 = .ok (.ishr, 1) := by decide +kernel
theorem d_Pattern_standsAt_31 : decode b_Pattern_standsAt 31 = .ok (.iadd, 1) := by decide +kernel
theorem d_Pattern_standsAt_32 : decode b_Pattern_standsAt 32 = .ok (.istore 7, 2) := by decide +kernel
theorem d_Pattern_standsAt_34 : decode b_Pattern_standsAt 34 = .ok (.iload 6, 2) := by decide +kernel
theorem d_Pattern_standsAt_36 : decode b_Pattern_standsAt 36 = .ok (.iconst (-1), 1) := by decide +kernel
theorem d_Pattern_standsAt_37 : decode b_Pattern_standsAt 37 = .ok (.if_icmp .eq 38, 3) := by decide +kernel
theorem d_Pattern_standsAt_40 : decode b_Pattern_standsAt 40 = .ok (.iload 7, 2) := by decide +kernel
theorem d_Pattern_standsAt_42 : decode b_Pattern_standsAt 42 = .ok (.ifCond .lt 33, 3) := by decide +kernel
theorem d_Pattern_standsAt_45 : decode b_Pattern_standsAt 45 = .ok (.iload 7, 2) := by decide +kernel
theorem d_Pattern_standsAt_47 : decode b_Pattern_standsAt 47 = .ok (.aload_n 0, 1) := by decide +kernel
theorem d_Pattern_standsAt_48 : decode b_Pattern_standsAt 48 = .ok (.getfield 26, 3) := by decide +kernel
theorem d_Pattern_standsAt_51 : decode b_Pattern_standsAt 51 = .ok (.arraylength, 1) := by decide +kernel
theorem d_Pattern_standsAt_52 : decode b_Pattern_standsAt 52 = .ok (.if_icmp .ge 23, 3) := by decide +kernel
theorem d_Pattern_standsAt_55 : decode b_Pattern_standsAt 55 = .ok (.aload_n 0, 1) := by decide +kernel
theorem d_Pattern_standsAt_56 : decode b_Pattern_standsAt 56 = .ok (.getfield 26, 3) := by decide +kernel
theorem d_Pattern_standsAt_59 : decode b_Pattern_standsAt 59 = .ok (.iload 7, 2) := by decide +kernel
theorem d_Pattern_standsAt_61 : decode b_Pattern_standsAt 61 = .ok (.laload, 1) := by decide +kernel
theorem d_Pattern_standsAt_62 : decode b_Pattern_standsAt 62 = .ok (.iload 6, 2) := by decide +kernel
theorem d_Pattern_standsAt_64 : decode b_Pattern_standsAt 64 = .ok (.bipush 63, 2) := by decide +kernel
theorem d_Pattern_standsAt_66 : decode b_Pattern_standsAt 66 = .ok (.iand, 1) := by decide +kernel
theorem d_Pattern_standsAt_67 : decode b_Pattern_standsAt 67 = .ok (.lushr, 1) := by decide +kernel
theorem d_Pattern_standsAt_68 : decode b_Pattern_standsAt 68 = .ok (.lconst 1, 1) := by decide +kernel
theorem d_Pattern_standsAt_69 : decode b_Pattern_standsAt 69 = .ok (.land, 1) := by decide +kernel
theorem d_Pattern_standsAt_70 : decode b_Pattern_standsAt 70 = .ok (.lconst 0, 1) := by decide +kernel
theorem d_Pattern_standsAt_71 : decode b_Pattern_standsAt 71 = .ok (.lcmp, 1) := by decide +kernel
theorem d_Pattern_standsAt_72 : decode b_Pattern_standsAt 72 = .ok (.ifCond .ne 5, 3) := by decide +kernel
theorem d_Pattern_standsAt_75 : decode b_Pattern_standsAt 75 = .ok (.iconst 0, 1) := by decide +kernel
theorem d_Pattern_standsAt_76 : decode b_Pattern_standsAt 76 = .ok (.ireturn, 1) := by decide +kernel
theorem d_Pattern_standsAt_77 : decode b_Pattern_standsAt 77 = .ok (.iinc 5 1, 3) := by decide +kernel
theorem d_Pattern_standsAt_80 : decode b_Pattern_standsAt 80 = .ok (.goto (-77), 3) := by decide +kernel
theorem d_Pattern_standsAt_83 : decode b_Pattern_standsAt 83 = .ok (.iconst 1, 1) := by decide +kernel
theorem d_Pattern_standsAt_84 : decode b_Pattern_standsAt 84 = .ok (.ireturn, 1) := by decide +kernel
end
section
theorem d_Peer_init_0 : decode b_Peer_init 0 = .ok (.aload_n 0, 1) := by decide +kernel
theorem d_Peer_init_1 : decode b_Peer_init 1 = .ok (.invokespecial 1, 3) := by decide +kernel
theorem d_Peer_init_4 : decode b_Peer_init 4 = .ok (.aload_n 0, 1) := by decide +kernel
theorem d_Peer_init_5 : decode b_Peer_init 5 = .ok (.new 7, 3) := by decide +kernel
theorem d_Peer_init_8 : decode b_Peer_init 8 = .ok (.dup, 1) := by decide +kernel
theorem d_Peer_init_9 : decode b_Peer_init 9 = .ok (.sipush 1024, 3) := by decide +kernel
theorem d_Peer_init_12 : decode b_Peer_init 12 = .ok (.invokespecial 11, 3) := by decide +kernel
theorem d_Peer_init_15 : decode b_Peer_init 15 = .ok (.putfield 14, 3) := by decide +kernel
theorem d_Peer_init_18 : decode b_Peer_init 18 = .ok (.aload_n 0, 1) := by decide +kernel
theorem d_Peer_init_19 : decode b_Peer_init 19 = .ok (.new 7, 3) := by decide +kernel
theorem d_Peer_init_22 : decode b_Peer_init 22 = .ok (.dup, 1) := by decide +kernel
theorem d_Peer_init_23 : decode b_Peer_init 23 = .ok (.sipush 1024, 3) := by decide +kernel
theorem d_Peer_init_26 : decode b_Peer_init 26 = .ok (.invokespecial 11, 3) := by decide +kernel
theorem d_Peer_init_29 : decode b_Peer_init 29 = .ok (.putfield 18, 3) := by decide +kernel
theorem d_Peer_init_32 : decode b_Peer_init 32 = .ok (.aload_n 0, 1) := by decide +kernel
theorem d_Peer_init_33 : decode b_Peer_init 33 = .ok (.new 7, 3) := by decide +kernel
theorem d_Peer_init_36 : decode b_Peer_init 36 = .ok (.dup, 1) := by decide +kernel
theorem d_Peer_init_37 : decode b_Peer_init 37 = .ok (.sipush 1024, 3) := by decide +kernel
theorem d_Peer_init_40 : decode b_Peer_init 40 = .ok (.invokespecial 11, 3) := by decide +kernel
theorem d_Peer_init_43 : decode b_Peer_init 43 = .ok (.putfield 21, 3) := by decide +kernel
theorem d_Peer_init_46 : decode b_Peer_init 46 = .ok (.aload_n 0, 1) := by decide +kernel
theorem d_Peer_init_47 : decode b_Peer_init 47 = .ok (.new 7, 3) := by decide +kernel
theorem d_Peer_init_50 : decode b_Peer_init 50 = .ok (.dup, 1) := by decide +kernel
theorem d_Peer_init_51 : decode b_Peer_init 51 = .ok (.ldc 24, 2) := by decide +kernel
theorem d_Peer_init_53 : decode b_Peer_init 53 = .ok (.invokespecial 11, 3) := by decide +kernel
theorem d_Peer_init_56 : decode b_Peer_init 56 = .ok (.putfield 25, 3) := by decide +kernel
theorem d_Peer_init_59 : decode b_Peer_init 59 = .ok (.aload_n 0, 1) := by decide +kernel
theorem d_Peer_init_60 : decode b_Peer_init 60 = .ok (.bipush 64, 2) := by decide +kernel
theorem d_Peer_init_62 : decode b_Peer_init 62 = .ok (.anewarray 28, 3) := by decide +kernel
theorem d_Peer_init_65 : decode b_Peer_init 65 = .ok (.putfield 30, 3) := by decide +kernel
theorem d_Peer_init_68 : decode b_Peer_init 68 = .ok (.aload_n 0, 1) := by decide +kernel
theorem d_Peer_init_69 : decode b_Peer_init 69 = .ok (.new 34, 3) := by decide +kernel
theorem d_Peer_init_72 : decode b_Peer_init 72 = .ok (.dup, 1) := by decide +kernel
theorem d_Peer_init_73 : decode b_Peer_init 73 = .ok (.invokespecial 36, 3) := by decide +kernel
theorem d_Peer_init_76 : decode b_Peer_init 76 = .ok (.putfield 37, 3) := by decide +kernel
theorem d_Peer_init_79 : decode b_Peer_init 79 = .ok (.aload_n 0, 1) := by decide +kernel
theorem d_Peer_init_80 : decode b_Peer_init 80 = .ok (.iconst 0, 1) := by decide +kernel
theorem d_Peer_init_81 : decode b_Peer_init 81 = .ok (.putfield 41, 3) := by decide +kernel
theorem d_Peer_init_84 : decode b_Peer_init 84 = .ok (.aload_n 0, 1) := by decide +kernel
theorem d_Peer_init_85 : decode b_Peer_init 85 = .ok (.iconst 0, 1) := by decide +kernel
theorem d_Peer_init_86 : decode b_Peer_init 86 = .ok (.putfield 45, 3) := by decide +kernel
theorem d_Peer_init_89 : decode b_Peer_init 89 = .ok (.aload_n 0, 1) := by decide +kernel
theorem d_Peer_init_90 : decode b_Peer_init 90 = .ok (.iconst 0, 1) := by decide +kernel
theorem d_Peer_init_91 : decode b_Peer_init 91 = .ok (.putfield 49, 3) := by decide +kernel
theorem d_Peer_init_94 : decode b_Peer_init 94 = .ok (.aload_n 0, 1) := by decide +kernel
theorem d_Peer_init_95 : decode b_Peer_init 95 = .ok (.lconst 0, 1) := by decide +kernel
theorem d_Peer_init_96 : decode b_Peer_init 96 = .ok (.putfield 52, 3) := by decide +kernel
theorem d_Peer_init_99 : decode b_Peer_init 99 = .ok (.return_, 1) := by decide +kernel
theorem d_Peer_feed_0 : decode b_Peer_feed 0 = .ok (.aload_n 0, 1) := by decide +kernel
theorem d_Peer_feed_1 : decode b_Peer_feed 1 = .ok (.getfield 14, 3) := by decide +kernel
theorem d_Peer_feed_4 : decode b_Peer_feed 4 = .ok (.bipush 20, 2) := by decide +kernel
theorem d_Peer_feed_6 : decode b_Peer_feed 6 = .ok (.invokevirtual 56, 3) := by decide +kernel
theorem d_Peer_feed_9 : decode b_Peer_feed 9 = .ok (.ifCond .ne 5, 3) := by decide +kernel
theorem d_Peer_feed_12 : decode b_Peer_feed 12 = .ok (.iconst 0, 1) := by decide +kernel
theorem d_Peer_feed_13 : decode b_Peer_feed 13 = .ok (.ireturn, 1) := by decide +kernel
theorem d_Peer_feed_14 : decode b_Peer_feed 14 = .ok (.aload_n 0, 1) := by decide +kernel
theorem d_Peer_feed_15 : decode b_Peer_feed 15 = .ok (.getfield 14, 3) := by decide +kernel
theorem d_Peer_feed_18 : decode b_Peer_feed 18 = .ok (.iload_n 1, 1) := by decide +kernel
theorem d_Peer_feed_19 : decode b_Peer_feed 19 = .ok (.invokevirtual 60, 3) := by decide +kernel
theorem d_Peer_feed_22 : decode b_Peer_feed 22 = .ok (.aload_n 0, 1) := by decide +kernel
theorem d_Peer_feed_23 : decode b_Peer_feed 23 = .ok (.getfield 14, 3) := by decide +kernel
theorem d_Peer_feed_26 : decode b_Peer_feed 26 = .ok (.iload_n 2, 1) := by decide +kernel
theorem d_Peer_feed_27 : decode b_Peer_feed 27 = .ok (.invokevirtual 60, 3) := by decide +kernel
theorem d_Peer_feed_30 : decode b_Peer_feed 30 = .ok (.aload_n 0, 1) := by decide +kernel
theorem d_Peer_feed_31 : decode b_Peer_feed 31 = .ok (.getfield 14, 3) := by decide +kernel
theorem d_Peer_feed_34 : decode b_Peer_feed 34 = .ok (.iload_n 3, 1) := by decide +kernel
theorem d_Peer_feed_35 : decode b_Peer_feed 35 = .ok (.invokevirtual 60, 3) := by decide +kernel
theorem d_Peer_feed_38 : decode b_Peer_feed 38 = .ok (.aload_n 0, 1) := by decide +kernel
theorem d_Peer_feed_39 : decode b_Peer_feed 39 = .ok (.getfield 14, 3) := by decide +kernel
theorem d_Peer_feed_42 : decode b_Peer_feed 42 = .ok (.iload 4, 2) := by decide +kernel
theorem d_Peer_feed_44 : decode b_Peer_feed 44 = .ok (.invokevirtual 60, 3) := by decide +kernel
theorem d_Peer_feed_47 : decode b_Peer_feed 47 = .ok (.aload_n 0, 1) := by decide +kernel
theorem d_Peer_feed_48 : decode b_Peer_feed 48 = .ok (.getfield 14, 3) := by decide +kernel
theorem d_Peer_feed_51 : decode b_Peer_feed 51 = .ok (.iload 5, 2) := by decide +kernel
theorem d_Peer_feed_53 : decode b_Peer_feed 53 = .ok (.invokevirtual 60, 3) := by decide +kernel
theorem d_Peer_feed_56 : decode b_Peer_feed 56 = .ok (.iconst 1, 1) := by decide +kernel
theorem d_Peer_feed_57 : decode b_Peer_feed 57 = .ok (.ireturn, 1) := by decide +kernel
theorem d_Peer_end_0 : decode b_Peer_end 0 = .ok (.aload_n 0, 1) := by decide +kernel
theorem d_Peer_end_1 : decode b_Peer_end 1 = .ok (.getfield 14, 3) := by decide +kernel
theorem d_Peer_end_4 : decode b_Peer_end 4 = .ok (.iload_n 1, 1) := by decide +kernel
theorem d_Peer_end_5 : decode b_Peer_end 5 = .ok (.invokevirtual 63, 3) := by decide +kernel
theorem d_Peer_end_8 : decode b_Peer_end 8 = .ok (.ireturn, 1) := by decide +kernel
theorem d_Peer_rule_0 : decode b_Peer_rule 0 = .ok (.iconst (-1), 1) := by decide +kernel
theorem d_Peer_rule_1 : decode b_Peer_rule 1 = .ok (.istore 4, 2) := by decide +kernel
theorem d_Peer_rule_3 : decode b_Peer_rule 3 = .ok (.aload_n 0, 1) := by decide +kernel
theorem d_Peer_rule_4 : decode b_Peer_rule 4 = .ok (.getfield 14, 3) := by decide +kernel
theorem d_Peer_rule_7 : decode b_Peer_rule 7 = .ok (.invokevirtual 66, 3) := by decide +kernel
theorem d_Peer_rule_10 : decode b_Peer_rule 10 = .ok (.istore 5, 2) := by decide +kernel
theorem d_Peer_rule_12 : decode b_Peer_rule 12 = .ok (.iload_n 1, 1) := by decide +kernel
theorem d_Peer_rule_13 : decode b_Peer_rule 13 = .ok (.invokestatic 70, 3) := by decide +kernel
theorem d_Peer_rule_16 : decode b_Peer_rule 16 = .ok (.ifCond .eq 25, 3) := by decide +kernel
theorem d_Peer_rule_19 : decode b_Peer_rule 19 = .ok (.iload_n 3, 1) := by decide +kernel
theorem d_Peer_rule_20 : decode b_Peer_rule 20 = .ok (.invokestatic 70, 3) := by decide +kernel
theorem d_Peer_rule_23 : decode b_Peer_rule 23 = .ok (.ifCond .eq 18, 3) := by decide +kernel
theorem d_Peer_rule_26 : decode b_Peer_rule 26 = .ok (.iload_n 2, 1) := by decide +kernel
theorem d_Peer_rule_27 : decode b_Peer_rule 27 = .ok (.ifCond .lt 14, 3) := by decide +kernel
theorem d_Peer_rule_30 : decode b_Peer_rule 30 = .ok (.iload_n 2, 1) := by decide +kernel
theorem d_Peer_rule_31 : decode b_Peer_rule 31 = .ok (.sipush 1000, 3) := by decide +kernel
theorem d_Peer_rule_34 : decode b_Peer_rule 34 = .ok (.if_icmp .gt 7, 3) := by decide +kernel
theorem d_Peer_rule_37 : decode b_Peer_rule 37 = .ok (.iconst 1, 1) := by decide +kernel
theorem d_Peer_rule_38 : decode b_Peer_rule 38 = .ok (.goto 4, 3) := by decide +kernel
theorem d_Peer_rule_41 : decode b_Peer_rule 41 = .ok (.iconst 0, 1) := by decide +kernel
theorem d_Peer_rule_42 : decode b_Peer_rule 42 = .ok (.istore 6, 2) := by decide +kernel
theorem d_Peer_rule_44 : decode b_Peer_rule 44 = .ok (.iload 6, 2) := by decide +kernel
theorem d_Peer_rule_46 : decode b_Peer_rule 46 = .ok (.ifCond .eq 90, 3) := by decide +kernel
theorem d_Peer_rule_49 : decode b_Peer_rule 49 = .ok (.aload_n 0, 1) := by decide +kernel
theorem d_Peer_rule_50 : decode b_Peer_rule 50 = .ok (.iload 5, 2) := by decide +kernel
theorem d_Peer_rule_52 : decode b_Peer_rule 52 = .ok (.invokevirtual 73, 3) := by decide +kernel
theorem d_Peer_rule_55 : decode b_Peer_rule 55 = .ok (.ifCond .eq 81, 3) := by decide +kernel
theorem d_Peer_rule_58 : decode b_Peer_rule 58 = .ok (.aload_n 0, 1) := by decide +kernel
theorem d_Peer_rule_59 : decode b_Peer_rule 59 = .ok (.getfield 41, 3) := by decide +kernel
theorem d_Peer_rule_62 : decode b_Peer_rule 62 = .ok (.aload_n 0, 1) := by decide +kernel
theorem d_Peer_rule_63 : decode b_Peer_rule 63 = .ok (.getfield 30, 3) := by decide +kernel
theorem d_Peer_rule_66 : decode b_Peer_rule 66 = .ok (.arraylength, 1) := by decide +kernel
theorem d_Peer_rule_67 : decode b_Peer_rule 67 = .ok (.if_icmp .ge 69, 3) := by decide +kernel
theorem d_Peer_rule_70 : decode b_Peer_rule 70 = .ok (.new 76, 3) := by decide +kernel
theorem d_Peer_rule_73 : decode b_Peer_rule 73 = .ok (.dup, 1) := by decide +kernel
theorem d_Peer_rule_74 : decode b_Peer_rule 74 = .ok (.aload_n 0, 1) := by decide +kernel
theorem d_Peer_rule_75 : decode b_Peer_rule 75 = .ok (.getfield 14, 3) := by decide +kernel
theorem d_Peer_rule_78 : decode b_Peer_rule 78 = .ok (.iload 5, 2) := by decide +kernel
theorem d_Peer_rule_80 : decode b_Peer_rule 80 = .ok (.invokespecial 78, 3) := by decide +kernel
theorem d_Peer_rule_83 : decode b_Peer_rule 83 = .ok (.astore 7, 2) := by decide +kernel
theorem d_Peer_rule_85 : decode b_Peer_rule 85 = .ok (.aload_n 0, 1) := by decide +kernel
theorem d_Peer_rule_86 : decode b_Peer_rule 86 = .ok (.getfield 30, 3) := by decide +kernel
theorem d_Peer_rule_89 : decode b_Peer_rule 89 = .ok (.aload_n 0, 1) := by decide +kernel
theorem d_Peer_rule_90 : decode b_Peer_rule 90 = .ok (.getfield 41, 3) := by decide +kernel
theorem d_Peer_rule_93 : decode b_Peer_rule 93 = .ok (.new 28, 3) := by decide +kernel
theorem d_Peer_rule_96 : decode b_Peer_rule 96 = .ok (.dup, 1) := by decide +kernel
theorem d_Peer_rule_97 : decode b_Peer_rule 97 = .ok (.iload_n 1, 1) := by decide +kernel
theorem d_Peer_rule_98 : decode b_Peer_rule 98 = .ok (.aload 7, 2) := by decide +kernel
theorem d_Peer_rule_100 : decode b_Peer_rule 100 = .ok (.aload_n 0, 1) := by decide +kernel
theorem d_Peer_rule_101 : decode b_Peer_rule 101 = .ok (.getfield 14, 3) := by decide +kernel
theorem d_Peer_rule_104 : decode b_Peer_rule 104 = .ok (.iload 5, 2) := by decide +kernel
theorem d_Peer_rule_106 : decode b_Peer_rule 106 = .ok (.iconst 1, 1) := by decide +kernel
theorem d_Peer_rule_107 : decode b_Peer_rule 107 = .ok (.iadd, 1) := by decide +kernel
theorem d_Peer_rule_108 : decode b_Peer_rule 108 = .ok (.sipush 200, 3) := by decide +kernel
theorem d_Peer_rule_111 : decode b_Peer_rule 111 = .ok (.invokevirtual 81, 3) := by decide +kernel
theorem d_Peer_rule_114 : decode b_Peer_rule 114 = .ok (.iload_n 2, 1) := by decide +kernel
theorem d_Peer_rule_115 : decode b_Peer_rule 115 = .ok (.iload_n 3, 1) := by decide +kernel
theorem d_Peer_rule_116 : decode b_Peer_rule 116 = .ok (.invokespecial 85, 3) := by decide +kernel
theorem d_Peer_rule_119 : decode b_Peer_rule 119 = .ok (.aastore, 1) := by decide +kernel
theorem d_Peer_rule_120 : decode b_Peer_rule 120 = .ok (.aload_n 0, 1) := by decide +kernel
theorem d_Peer_rule_121 : decode b_Peer_rule 121 = .ok (.getfield 41, 3) := by decide +kernel
theorem d_Peer_rule_124 : decode b_Peer_rule 124 = .ok (.istore 4, 2) := by decide +kernel
theorem d_Peer_rule_126 : decode b_Peer_rule 126 = .ok (.aload_n 0, 1) := by decide +kernel
theorem d_Peer_rule_127 : decode b_Peer_rule 127 = .ok (.dup, 1) := by decide +kernel
theorem d_Peer_rule_128 : decode b_Peer_rule 128 = .ok (.getfield 41, 3) := by decide +kernel
theorem d_Peer_rule_131 : decode b_Peer_rule 131 = .ok (.iconst 1, 1) := by decide +kernel
theorem d_Peer_rule_132 : decode b_Peer_rule 132 = .ok (.iadd, 1) := by decide +kernel
theorem d_Peer_rule_133 : decode b_Peer_rule 133 = .ok (.putfield 41, 3) := by decide +kernel
theorem d_Peer_rule_136 : decode b_Peer_rule 136 = .ok (.aload_n 0, 1) := by decide +kernel
theorem d_Peer_rule_137 : decode b_Peer_rule 137 = .ok (.getfield 14, 3) := by decide +kernel
theorem d_Peer_rule_140 : decode b_Peer_rule 140 = .ok (.invokevirtual 88, 3) := by decide +kernel
theorem d_Peer_rule_143 : decode b_Peer_rule 143 = .ok (.iload 4, 2) := by decide +kernel
theorem d_Peer_rule_145 : decode b_Peer_rule 145 = .ok (.ireturn, 1) := by decide +kernel
theorem d_Peer_spawn_0 : decode b_Peer_spawn 0 = .ok (.aload_n 0, 1) := by decide +kernel
theorem d_Peer_spawn_1 : decode b_Peer_spawn 1 = .ok (.iconst 1, 1) := by decide +kernel
theorem d_Peer_spawn_2 : decode b_Peer_spawn 2 = .ok (.putfield 45, 3) := by decide +kernel
theorem d_Peer_spawn_5 : decode b_Peer_spawn 5 = .ok (.aload_n 0, 1) := by decide +kernel
theorem d_Peer_spawn_6 : decode b_Peer_spawn 6 = .ok (.iconst 0, 1) := by decide +kernel
theorem d_Peer_spawn_7 : decode b_Peer_spawn 7 = .ok (.putfield 49, 3) := by decide +kernel
theorem d_Peer_spawn_10 : decode b_Peer_spawn 10 = .ok (.aload_n 0, 1) := by decide +kernel
theorem d_Peer_spawn_11 : decode b_Peer_spawn 11 = .ok (.getfield 18, 3) := by decide +kernel
theorem d_Peer_spawn_14 : decode b_Peer_spawn 14 = .ok (.invokevirtual 88, 3) := by decide +kernel
theorem d_Peer_spawn_17 : decode b_Peer_spawn 17 = .ok (.aload_n 0, 1) := by decide +kernel
theorem d_Peer_spawn_18 : decode b_Peer_spawn 18 = .ok (.getfield 37, 3) := by decide +kernel
theorem d_Peer_spawn_21 : decode b_Peer_spawn 21 = .ok (.invokevirtual 91, 3) := by decide +kernel
theorem d_Peer_spawn_24 : decode b_Peer_spawn 24 = .ok (.aload_n 0, 1) := by decide +kernel
theorem d_Peer_spawn_25 : decode b_Peer_spawn 25 = .ok (.getfield 21, 3) := by decide +kernel
theorem d_Peer_spawn_28 : decode b_Peer_spawn 28 = .ok (.invokevirtual 88, 3) := by decide +kernel
theorem d_Peer_spawn_31 : decode b_Peer_spawn 31 = .ok (.aload_n 0, 1) := by decide +kernel
theorem d_Peer_spawn_32 : decode b_Peer_spawn 32 = .ok (.invokevirtual 92, 3) := by decide +kernel
theorem d_Peer_spawn_35 : decode b_Peer_spawn 35 = .ok (.return_, 1) := by decide +kernel
theorem d_Peer_send_0 : decode b_Peer_send 0 = .ok (.aload_n 0, 1) := by decide +kernel
theorem d_Peer_send_1 : decode b_Peer_send 1 = .ok (.getfield 45, 3) := by decide +kernel
theorem d_Peer_send_4 : decode b_Peer_send 4 = .ok (.ifCond .eq 17, 3) := by decide +kernel
theorem d_Peer_send_7 : decode b_Peer_send 7 = .ok (.aload_n 0, 1) := by decide +kernel
theorem d_Peer_send_8 : decode b_Peer_send 8 = .ok (.iconst 1, 1) := by decide +kernel
theorem d_Peer_send_9 : decode b_Peer_send 9 = .ok (.aload_n 0, 1) := by decide +kernel
theorem d_Peer_send_10 : decode b_Peer_send 10 = .ok (.getfield 14, 3) := by decide +kernel
theorem d_Peer_send_13 : decode b_Peer_send 13 = .ok (.iconst 0, 1) := by decide +kernel
theorem d_Peer_send_14 : decode b_Peer_send 14 = .ok (.invokevirtual 95, 3) := by decide +kernel
theorem d_Peer_send_17 : decode b_Peer_send 17 = .ok (.aload_n 0, 1) := by decide +kernel
theorem d_Peer_send_18 : decode b_Peer_send 18 = .ok (.invokevirtual 99, 3) := by decide +kernel
theorem d_Peer_send_21 : decode b_Peer_send 21 = .ok (.aload_n 0, 1) := by decide +kernel
theorem d_Peer_send_22 : decode b_Peer_send 22 = .ok (.getfield 14, 3) := by decide +kernel
theorem d_Peer_send_25 : decode b_Peer_send 25 = .ok (.invokevirtual 88, 3) := by decide +kernel
theorem d_Peer_send_28 : decode b_Peer_send 28 = .ok (.aload_n 0, 1) := by decide +kernel
theorem d_Peer_send_29 : decode b_Peer_send 29 = .ok (.getfield 45, 3) := by decide +kernel
theorem d_Peer_send_32 : decode b_Peer_send 32 = .ok (.ireturn, 1) := by decide +kernel
theorem d_Peer_put_0 : decode b_Peer_put 0 = .ok (.aload_n 0, 1) := by decide +kernel
theorem d_Peer_put_1 : decode b_Peer_put 1 = .ok (.iconst 3, 1) := by decide +kernel
theorem d_Peer_put_2 : decode b_Peer_put 2 = .ok (.aload_n 0, 1) := by decide +kernel
theorem d_Peer_put_3 : decode b_Peer_put 3 = .ok (.getfield 14, 3) := by decide +kernel
theorem d_Peer_put_6 : decode b_Peer_put 6 = .ok (.iconst 1, 1) := by decide +kernel
theorem d_Peer_put_7 : decode b_Peer_put 7 = .ok (.invokevirtual 95, 3) := by decide +kernel
theorem d_Peer_put_10 : decode b_Peer_put 10 = .ok (.aload_n 0, 1) := by decide +kernel
theorem d_Peer_put_11 : decode b_Peer_put 11 = .ok (.getfield 14, 3) := by decide +kernel
theorem d_Peer_put_14 : decode b_Peer_put 14 = .ok (.invokevirtual 88, 3) := by decide +kernel
theorem d_Peer_put_17 : decode b_Peer_put 17 = .ok (.return_, 1) := by decide +kernel
theorem d_Peer_come_0 : decode b_Peer_come 0 = .ok (.aload_n 0, 1) := by decide +kernel
theorem d_Peer_come_1 : decode b_Peer_come 1 = .ok (.getfield 37, 3) := by decide +kernel
theorem d_Peer_come_4 : decode b_Peer_come 4 = .ok (.invokevirtual 102, 3) := by decide +kernel
theorem d_Peer_come_7 : decode b_Peer_come 7 = .ok (.astore_n 3, 1) := by decide +kernel
theorem d_Peer_come_8 : decode b_Peer_come 8 = .ok (.aload_n 3, 1) := by decide +kernel
theorem d_Peer_come_9 : decode b_Peer_come 9 = .ok (.ifnull 15, 3) := by decide +kernel
theorem d_Peer_come_12 : decode b_Peer_come 12 = .ok (.aload_n 0, 1) := by decide +kernel
theorem d_Peer_come_13 : decode b_Peer_come 13 = .ok (.getfield 37, 3) := by decide +kernel
theorem d_Peer_come_16 : decode b_Peer_come 16 = .ok (.invokevirtual 106, 3) := by decide +kernel
theorem d_Peer_come_19 : decode b_Peer_come 19 = .ok (.lload_n 1, 1) := by decide +kernel
theorem d_Peer_come_20 : decode b_Peer_come 20 = .ok (.lcmp, 1) := by decide +kernel
theorem d_Peer_come_21 : decode b_Peer_come 21 = .ok (.ifCond .le 7, 3) := by decide +kernel
theorem d_Peer_come_24 : decode b_Peer_come 24 = .ok (.ldc2_w 110, 3) := by decide +kernel
theorem d_Peer_come_27 : decode b_Peer_come 27 = .ok (.lreturn, 1) := by decide +kernel
theorem d_Peer_come_28 : decode b_Peer_come 28 = .ok (.aload_n 0, 1) := by decide +kernel
theorem d_Peer_come_29 : decode b_Peer_come 29 = .ok (.aload_n 0, 1) := by decide +kernel
theorem d_Peer_come_30 : decode b_Peer_come 30 = .ok (.getfield 52, 3) := by decide +kernel
theorem d_Peer_come_33 : decode b_Peer_come 33 = .ok (.aload_n 0, 1) := by decide +kernel
theorem d_Peer_come_34 : decode b_Peer_come 34 = .ok (.getfield 37, 3) := by decide +kernel
theorem d_Peer_come_37 : decode b_Peer_come 37 = .ok (.invokevirtual 106, 3) := by decide +kernel
theorem d_Peer_come_40 : decode b_Peer_come 40 = .ok (.invokestatic 112, 3) := by decide +kernel
theorem d_Peer_come_43 : decode b_Peer_come 43 = .ok (.putfield 52, 3) := by decide +kernel
theorem d_Peer_come_46 : decode b_Peer_come 46 = .ok (.aload_n 0, 1) := by decide +kernel
theorem d_Peer_come_47 : decode b_Peer_come 47 = .ok (.getfield 37, 3) := by decide +kernel
theorem d_Peer_come_50 : decode b_Peer_come 50 = .ok (.invokevirtual 118, 3) := by decide +kernel
theorem d_Peer_come_53 : decode b_Peer_come 53 = .ok (.aload_n 0, 1) := by decide +kernel
theorem d_Peer_come_54 : decode b_Peer_come 54 = .ok (.iconst 2, 1) := by decide +kernel
theorem d_Peer_come_55 : decode b_Peer_come 55 = .ok (.aload_n 3, 1) := by decide +kernel
theorem d_Peer_come_56 : decode b_Peer_come 56 = .ok (.iconst 0, 1) := by decide +kernel
theorem d_Peer_come_57 : decode b_Peer_come 57 = .ok (.invokevirtual 95, 3) := by decide +kernel
theorem d_Peer_come_60 : decode b_Peer_come 60 = .ok (.aload_n 0, 1) := by decide +kernel
theorem d_Peer_come_61 : decode b_Peer_come 61 = .ok (.getfield 21, 3) := by decide +kernel
theorem d_Peer_come_64 : decode b_Peer_come 64 = .ok (.iconst 0, 1) := by decide +kernel
theorem d_Peer_come_65 : decode b_Peer_come 65 = .ok (.aload_n 0, 1) := by decide +kernel
theorem d_Peer_come_66 : decode b_Peer_come 66 = .ok (.getfield 21, 3) := by decide +kernel
theorem d_Peer_come_69 : decode b_Peer_come 69 = .ok (.invokevirtual 121, 3) := by decide +kernel
theorem d_Peer_come_72 : decode b_Peer_come 72 = .ok (.aload_n 3, 1) := by decide +kernel
theorem d_Peer_come_73 : decode b_Peer_come 73 = .ok (.invokevirtual 121, 3) := by decide +kernel
theorem d_Peer_come_76 : decode b_Peer_come 76 = .ok (.iadd, 1) := by decide +kernel
theorem d_Peer_come_77 : decode b_Peer_come 77 = .ok (.sipush 1024, 3) := by decide +kernel
theorem d_Peer_come_80 : decode b_Peer_come 80 = .ok (.isub, 1) := by decide +kernel
theorem d_Peer_come_81 : decode b_Peer_come 81 = .ok (.invokestatic 124, 3) := by decide +kernel
theorem d_Peer_come_84 : decode b_Peer_come 84 = .ok (.invokevirtual 127, 3) := by decide +kernel
theorem d_Peer_come_87 : decode b_Peer_come 87 = .ok (.pop, 1) := by decide +kernel
theorem d_Peer_come_88 : decode b_Peer_come 88 = .ok (.aload_n 0, 1) := by decide +kernel
theorem d_Peer_come_89 : decode b_Peer_come 89 = .ok (.getfield 21, 3) := by decide +kernel
theorem d_Peer_come_92 : decode b_Peer_come 92 = .ok (.aload_n 3, 1) := by decide +kernel
theorem d_Peer_come_93 : decode b_Peer_come 93 = .ok (.invokevirtual 129, 3) := by decide +kernel
theorem d_Peer_come_96 : decode b_Peer_come 96 = .ok (.aload_n 0, 1) := by decide +kernel
theorem d_Peer_come_97 : decode b_Peer_come 97 = .ok (.getfield 52, 3) := by decide +kernel
theorem d_Peer_come_100 : decode b_Peer_come 100 = .ok (.lreturn, 1) := by decide +kernel
theorem d_Peer_fit_0 : decode b_Peer_fit 0 = .ok (.new 76, 3) := by decide +kernel
theorem d_Peer_fit_3 : decode b_Peer_fit 3 = .ok (.dup, 1) := by decide +kernel
theorem d_Peer_fit_4 : decode b_Peer_fit 4 = .ok (.aload_n 0, 1) := by decide +kernel
theorem d_Peer_fit_5 : decode b_Peer_fit 5 = .ok (.getfield 14, 3) := by decide +kernel
theorem d_Peer_fit_8 : decode b_Peer_fit 8 = .ok (.aload_n 0, 1) := by decide +kernel
theorem d_Peer_fit_9 : decode b_Peer_fit 9 = .ok (.getfield 14, 3) := by decide +kernel
theorem d_Peer_fit_12 : decode b_Peer_fit 12 = .ok (.invokevirtual 121, 3) := by decide +kernel
theorem d_Peer_fit_15 : decode b_Peer_fit 15 = .ok (.invokespecial 78, 3) := by decide +kernel
theorem d_Peer_fit_18 : decode b_Peer_fit 18 = .ok (.astore_n 1, 1) := by decide +kernel
theorem d_Peer_fit_19 : decode b_Peer_fit 19 = .ok (.aload_n 0, 1) := by decide +kernel
theorem d_Peer_fit_20 : decode b_Peer_fit 20 = .ok (.getfield 14, 3) := by decide +kernel
theorem d_Peer_fit_23 : decode b_Peer_fit 23 = .ok (.invokevirtual 88, 3) := by decide +kernel
theorem d_Peer_fit_26 : decode b_Peer_fit 26 = .ok (.aload_n 1, 1) := by decide +kernel
theorem d_Peer_fit_27 : decode b_Peer_fit 27 = .ok (.aload_n 0, 1) := by decide +kernel
theorem d_Peer_fit_28 : decode b_Peer_fit 28 = .ok (.getfield 21, 3) := by decide +kernel
theorem d_Peer_fit_31 : decode b_Peer_fit 31 = .ok (.invokevirtual 133, 3) := by decide +kernel
theorem d_Peer_fit_34 : decode b_Peer_fit 34 = .ok (.ireturn, 1) := by decide +kernel
theorem d_Peer_take_0 : decode b_Peer_take 0 = .ok (.aload_n 0, 1) := by decide +kernel
theorem d_Peer_take_1 : decode b_Peer_take 1 = .ok (.getfield 21, 3) := by decide +kernel
theorem d_Peer_take_4 : decode b_Peer_take 4 = .ok (.iload_n 1, 1) := by decide +kernel
theorem d_Peer_take_5 : decode b_Peer_take 5 = .ok (.invokevirtual 127, 3) := by decide +kernel
theorem d_Peer_take_8 : decode b_Peer_take 8 = .ok (.ireturn, 1) := by decide +kernel
theorem d_Peer_pass_0 : decode b_Peer_pass 0 = .ok (.aload_n 0, 1) := by decide +kernel
theorem d_Peer_pass_1 : decode b_Peer_pass 1 = .ok (.dup, 1) := by decide +kernel
theorem d_Peer_pass_2 : decode b_Peer_pass 2 = .ok (.getfield 52, 3) := by decide +kernel
theorem d_Peer_pass_5 : decode b_Peer_pass 5 = .ok (.lconst 0, 1) := by decide +kernel
theorem d_Peer_pass_6 : decode b_Peer_pass 6 = .ok (.lload_n 1, 1) := by decide +kernel
theorem d_Peer_pass_7 : decode b_Peer_pass 7 = .ok (.ldc2_w 137, 3) := by decide +kernel
theorem d_Peer_pass_10 : decode b_Peer_pass 10 = .ok (.invokestatic 139, 3) := by decide +kernel
theorem d_Peer_pass_13 : decode b_Peer_pass 13 = .ok (.invokestatic 112, 3) := by decide +kernel
theorem d_Peer_pass_16 : decode b_Peer_pass 16 = .ok (.ladd, 1) := by decide +kernel
theorem d_Peer_pass_17 : decode b_Peer_pass 17 = .ok (.putfield 52, 3) := by decide +kernel
theorem d_Peer_pass_20 : decode b_Peer_pass 20 = .ok (.aload_n 0, 1) := by decide +kernel
theorem d_Peer_pass_21 : decode b_Peer_pass 21 = .ok (.getfield 52, 3) := by decide +kernel
theorem d_Peer_pass_24 : decode b_Peer_pass 24 = .ok (.lreturn, 1) := by decide +kernel
theorem d_Peer_total_0 : decode b_Peer_total 0 = .ok (.iload_n 1, 1) := by decide +kernel
theorem d_Peer_total_1 : decode b_Peer_total 1 = .ok (.tableswitch 81 0 5 #[39, 44, 52, 60, 68, 73], 39) := by decide +kernel
theorem d_Peer_total_40 : decode b_Peer_total 40 = .ok (.aload_n 0, 1) := by decide +kernel
theorem d_Peer_total_41 : decode b_Peer_total 41 = .ok (.getfield 49, 3) := by decide +kernel
theorem d_Peer_total_44 : decode b_Peer_total 44 = .ok (.ireturn, 1) := by decide +kernel
theorem d_Peer_total_45 : decode b_Peer_total 45 = .ok (.aload_n 0, 1) := by decide +kernel
theorem d_Peer_total_46 : decode b_Peer_total 46 = .ok (.getfield 37, 3) := by decide +kernel
theorem d_Peer_total_49 : decode b_Peer_total 49 = .ok (.invokevirtual 142, 3) := by decide +kernel
theorem d_Peer_total_52 : decode b_Peer_total 52 = .ok (.ireturn, 1) := by decide +kernel
theorem d_Peer_total_53 : decode b_Peer_total 53 = .ok (.aload_n 0, 1) := by decide +kernel
theorem d_Peer_total_54 : decode b_Peer_total 54 = .ok (.getfield 21, 3) := by decide +kernel
theorem d_Peer_total_57 : decode b_Peer_total 57 = .ok (.invokevirtual 121, 3) := by decide +kernel
theorem d_Peer_total_60 : decode b_Peer_total 60 = .ok (.ireturn, 1) := by decide +kernel
theorem d_Peer_total_61 : decode b_Peer_total 61 = .ok (.aload_n 0, 1) := by decide +kernel
theorem d_Peer_total_62 : decode b_Peer_total 62 = .ok (.getfield 25, 3) := by decide +kernel
theorem d_Peer_total_65 : decode b_Peer_total 65 = .ok (.invokevirtual 121, 3) := by decide +kernel
theorem d_Peer_total_68 : decode b_Peer_total 68 = .ok (.ireturn, 1) := by decide +kernel
theorem d_Peer_total_69 : decode b_Peer_total 69 = .ok (.aload_n 0, 1) := by decide +kernel
theorem d_Peer_total_70 : decode b_Peer_total 70 = .ok (.getfield 41, 3) := by decide +kernel
theorem d_Peer_total_73 : decode b_Peer_total 73 = .ok (.ireturn, 1) := by decide +kernel
theorem d_Peer_total_74 : decode b_Peer_total 74 = .ok (.aload_n 0, 1) := by decide +kernel
theorem d_Peer_total_75 : decode b_Peer_total 75 = .ok (.getfield 18, 3) := by decide +kernel
theorem d_Peer_total_78 : decode b_Peer_total 78 = .ok (.invokevirtual 121, 3) := by decide +kernel
theorem d_Peer_total_81 : decode b_Peer_total 81 = .ok (.ireturn, 1) := by decide +kernel
theorem d_Peer_total_82 : decode b_Peer_total 82 = .ok (.iconst (-1), 1) := by decide +kernel
theorem d_Peer_total_83 : decode b_Peer_total 83 = .ok (.ireturn, 1) := by decide +kernel
theorem d_Peer_bufferAt_0 : decode b_Peer_bufferAt 0 = .ok (.aload_n 0, 1) := by decide +kernel
theorem d_Peer_bufferAt_1 : decode b_Peer_bufferAt 1 = .ok (.getfield 21, 3) := by decide +kernel
theorem d_Peer_bufferAt_4 : decode b_Peer_bufferAt 4 = .ok (.iload_n 1, 1) := by decide +kernel
theorem d_Peer_bufferAt_5 : decode b_Peer_bufferAt 5 = .ok (.invokevirtual 143, 3) := by decide +kernel
theorem d_Peer_bufferAt_8 : decode b_Peer_bufferAt 8 = .ok (.ireturn, 1) := by decide +kernel
theorem d_Peer_toldAt_0 : decode b_Peer_toldAt 0 = .ok (.aload_n 0, 1) := by decide +kernel
theorem d_Peer_toldAt_1 : decode b_Peer_toldAt 1 = .ok (.getfield 25, 3) := by decide +kernel
theorem d_Peer_toldAt_4 : decode b_Peer_toldAt 4 = .ok (.iload_n 1, 1) := by decide +kernel
theorem d_Peer_toldAt_5 : decode b_Peer_toldAt 5 = .ok (.invokevirtual 143, 3) := by decide +kernel
theorem d_Peer_toldAt_8 : decode b_Peer_toldAt 8 = .ok (.ireturn, 1) := by decide +kernel
theorem d_Peer_isState_0 : decode b_Peer_isState 0 = .ok (.iload_n 0, 1) := by decide +kernel
theorem d_Peer_isState_1 : decode b_Peer_isState 1 = .ok (.ifCond .lt 13, 3) := by decide +kernel
theorem d_Peer_isState_4 : decode b_Peer_isState 4 = .ok (.iload_n 0, 1) := by decide +kernel
theorem d_Peer_isState_5 : decode b_Peer_isState 5 = .ok (.bipush 31, 2) := by decide +kernel
theorem d_Peer_isState_7 : decode b_Peer_isState 7 = .ok (.if_icmp .gt 7, 3) := by decide +kernel
theorem d_Peer_isState_10 : decode b_Peer_isState 10 = .ok (.iconst 1, 1) := by decide +kernel
theorem d_Peer_isState_11 : decode b_Peer_isState 11 = .ok (.goto 4, 3) := by decide +kernel
theorem d_Peer_isState_14 : decode b_Peer_isState 14 = .ok (.iconst 0, 1) := by decide +kernel
theorem d_Peer_isState_15 : decode b_Peer_isState 15 = .ok (.ireturn, 1) := by decide +kernel
theorem d_Peer_tapeIsRule_0 : decode b_Peer_tapeIsRule 0 = .ok (.iload_n 1, 1) := by decide +kernel
theorem d_Peer_tapeIsRule_1 : decode b_Peer_tapeIsRule 1 = .ok (.ifCond .lt 31, 3) := by decide +kernel
theorem d_Peer_tapeIsRule_4 : decode b_Peer_tapeIsRule 4 = .ok (.iload_n 1, 1) := by decide +kernel
theorem d_Peer_tapeIsRule_5 : decode b_Peer_tapeIsRule 5 = .ok (.sipush 200, 3) := by decide +kernel
theorem d_Peer_tapeIsRule_8 : decode b_Peer_tapeIsRule 8 = .ok (.if_icmp .gt 24, 3) := by decide +kernel
theorem d_Peer_tapeIsRule_11 : decode b_Peer_tapeIsRule 11 = .ok (.aload_n 0, 1) := by decide +kernel
theorem d_Peer_tapeIsRule_12 : decode b_Peer_tapeIsRule 12 = .ok (.getfield 14, 3) := by decide +kernel
theorem d_Peer_tapeIsRule_15 : decode b_Peer_tapeIsRule 15 = .ok (.invokevirtual 121, 3) := by decide +kernel
theorem d_Peer_tapeIsRule_18 : decode b_Peer_tapeIsRule 18 = .ok (.iload_n 1, 1) := by decide +kernel
theorem d_Peer_tapeIsRule_19 : decode b_Peer_tapeIsRule 19 = .ok (.isub, 1) := by decide +kernel
theorem d_Peer_tapeIsRule_20 : decode b_Peer_tapeIsRule 20 = .ok (.iconst 1, 1) := by decide +kernel
theorem d_Peer_tapeIsRule_21 : decode b_Peer_tapeIsRule 21 = .ok (.isub, 1) := by decide +kernel
theorem d_Peer_tapeIsRule_22 : decode b_Peer_tapeIsRule 22 = .ok (.sipush 200, 3) := by decide +kernel
theorem d_Peer_tapeIsRule_25 : decode b_Peer_tapeIsRule 25 = .ok (.if_icmp .gt 7, 3) := by decide +kernel
theorem d_Peer_tapeIsRule_28 : decode b_Peer_tapeIsRule 28 = .ok (.iconst 1, 1) := by decide +kernel
theorem d_Peer_tapeIsRule_29 : decode b_Peer_tapeIsRule 29 = .ok (.goto 4, 3) := by decide +kernel
theorem d_Peer_tapeIsRule_32 : decode b_Peer_tapeIsRule 32 = .ok (.iconst 0, 1) := by decide +kernel
theorem d_Peer_tapeIsRule_33 : decode b_Peer_tapeIsRule 33 = .ok (.ireturn, 1) := by decide +kernel
theorem d_Peer_giveTapeToPeer_0 : decode b_Peer_giveTapeToPeer 0 = .ok (.iconst 0, 1) := by decide +kernel
theorem d_Peer_giveTapeToPeer_1 : decode b_Peer_giveTapeToPeer 1 = .ok (.istore_n 1, 1) := by decide +kernel
theorem d_Peer_giveTapeToPeer_2 : decode b_Peer_giveTapeToPeer 2 = .ok (.iload_n 1, 1) := by decide +kernel
theorem d_Peer_giveTapeToPeer_3 : decode b_Peer_giveTapeToPeer 3 = .ok (.aload_n 0, 1) := by decide +kernel
theorem d_Peer_giveTapeToPeer_4 : decode b_Peer_giveTapeToPeer 4 = .ok (.getfield 14, 3) := by decide +kernel
theorem d_Peer_giveTapeToPeer_7 : decode b_Peer_giveTapeToPeer 7 = .ok (.invokevirtual 121, 3) := by decide +kernel
theorem d_Peer_giveTapeToPeer_10 : decode b_Peer_giveTapeToPeer 10 = .ok (.if_icmp .ge 46, 3) := by decide +kernel
theorem d_Peer_giveTapeToPeer_13 : decode b_Peer_giveTapeToPeer 13 = .ok (.aload_n 0, 1) := by decide +kernel
theorem d_Peer_giveTapeToPeer_14 : decode b_Peer_giveTapeToPeer 14 = .ok (.getfield 14, 3) := by decide +kernel
theorem d_Peer_giveTapeToPeer_17 : decode b_Peer_giveTapeToPeer 17 = .ok (.iload_n 1, 1) := by decide +kernel
theorem d_Peer_giveTapeToPeer_18 : decode b_Peer_giveTapeToPeer 18 = .ok (.invokevirtual 143, 3) := by decide +kernel
theorem d_Peer_giveTapeToPeer_21 : decode b_Peer_giveTapeToPeer 21 = .ok (.istore_n 2, 1) := by decide +kernel
theorem d_Peer_giveTapeToPeer_22 : decode b_Peer_giveTapeToPeer 22 = .ok (.iload_n 2, 1) := by decide +kernel
theorem d_Peer_giveTapeToPeer_23 : decode b_Peer_giveTapeToPeer 23 = .ok (.bipush 10, 2) := by decide +kernel
theorem d_Peer_giveTapeToPeer_25 : decode b_Peer_giveTapeToPeer 25 = .ok (.if_icmp .ne 17, 3) := by decide +kernel
theorem d_Peer_giveTapeToPeer_28 : decode b_Peer_giveTapeToPeer 28 = .ok (.aload_n 0, 1) := by decide +kernel
theorem d_Peer_giveTapeToPeer_29 : decode b_Peer_giveTapeToPeer 29 = .ok (.invokevirtual 92, 3) := by decide +kernel
theorem d_Peer_giveTapeToPeer_32 : decode b_Peer_giveTapeToPeer 32 = .ok (.aload_n 0, 1) := by decide +kernel
theorem d_Peer_giveTapeToPeer_33 : decode b_Peer_giveTapeToPeer 33 = .ok (.getfield 18, 3) := by decide +kernel
theorem d_Peer_giveTapeToPeer_36 : decode b_Peer_giveTapeToPeer 36 = .ok (.invokevirtual 88, 3) := by decide +kernel
theorem d_Peer_giveTapeToPeer_39 : decode b_Peer_giveTapeToPeer 39 = .ok (.goto 11, 3) := by decide +kernel
theorem d_Peer_giveTapeToPeer_42 : decode b_Peer_giveTapeToPeer 42 = .ok (.aload_n 0, 1) := by decide +kernel
theorem d_Peer_giveTapeToPeer_43 : decode b_Peer_giveTapeToPeer 43 = .ok (.getfield 18, 3) := by decide +kernel
theorem d_Peer_giveTapeToPeer_46 : decode b_Peer_giveTapeToPeer 46 = .ok (.iload_n 2, 1) := by decide +kernel
theorem d_Peer_giveTapeToPeer_47 : decode b_Peer_giveTapeToPeer 47 = .ok (.invokevirtual 147, 3) := by decide +kernel
theorem d_Peer_giveTapeToPeer_50 : decode b_Peer_giveTapeToPeer 50 = .ok (.iinc 1 1, 3) := by decide +kernel
theorem d_Peer_giveTapeToPeer_53 : decode b_Peer_giveTapeToPeer 53 = .ok (.goto (-51), 3) := by decide +kernel
theorem d_Peer_giveTapeToPeer_56 : decode b_Peer_giveTapeToPeer 56 = .ok (.return_, 1) := by decide +kernel
theorem d_Peer_answerLine_0 : decode b_Peer_answerLine 0 = .ok (.iconst 0, 1) := by decide +kernel
theorem d_Peer_answerLine_1 : decode b_Peer_answerLine 1 = .ok (.istore_n 1, 1) := by decide +kernel
theorem d_Peer_answerLine_2 : decode b_Peer_answerLine 2 = .ok (.iload_n 1, 1) := by decide +kernel
theorem d_Peer_answerLine_3 : decode b_Peer_answerLine 3 = .ok (.aload_n 0, 1) := by decide +kernel
theorem d_Peer_answerLine_4 : decode b_Peer_answerLine 4 = .ok (.getfield 41, 3) := by decide +kernel
theorem d_Peer_answerLine_7 : decode b_Peer_answerLine 7 = .ok (.if_icmp .ge 84, 3) := by decide +kernel
theorem d_Peer_answerLine_10 : decode b_Peer_answerLine 10 = .ok (.iload_n 1, 1) := by decide +kernel
theorem d_Peer_answerLine_11 : decode b_Peer_answerLine 11 = .ok (.aload_n 0, 1) := by decide +kernel
theorem d_Peer_answerLine_12 : decode b_Peer_answerLine 12 = .ok (.getfield 30, 3) := by decide +kernel
theorem d_Peer_answerLine_15 : decode b_Peer_answerLine 15 = .ok (.arraylength, 1) := by decide +kernel
theorem d_Peer_answerLine_16 : decode b_Peer_answerLine 16 = .ok (.if_icmp .ge 75, 3) := by decide +kernel
theorem d_Peer_answerLine_19 : decode b_Peer_answerLine 19 = .ok (.aload_n 0, 1) := by decide +kernel
theorem d_Peer_answerLine_20 : decode b_Peer_answerLine 20 = .ok (.getfield 30, 3) := by decide +kernel
theorem d_Peer_answerLine_23 : decode b_Peer_answerLine 23 = .ok (.iload_n 1, 1) := by decide +kernel
theorem d_Peer_answerLine_24 : decode b_Peer_answerLine 24 = .ok (.aaload, 1) := by decide +kernel
theorem d_Peer_answerLine_25 : decode b_Peer_answerLine 25 = .ok (.astore_n 2, 1) := by decide +kernel
theorem d_Peer_answerLine_26 : decode b_Peer_answerLine 26 = .ok (.aload_n 2, 1) := by decide +kernel
theorem d_Peer_answerLine_27 : decode b_Peer_answerLine 27 = .ok (.ifnull 58, 3) := by decide +kernel
theorem d_Peer_answerLine_30 : decode b_Peer_answerLine 30 = .ok (.aload_n 2, 1) := by decide +kernel
theorem d_Peer_answerLine_31 : decode b_Peer_answerLine 31 = .ok (.getfield 150, 3) := by decide +kernel
theorem d_Peer_answerLine_34 : decode b_Peer_answerLine 34 = .ok (.aload_n 0, 1) := by decide +kernel
theorem d_Peer_answerLine_35 : decode b_Peer_answerLine 35 = .ok (.getfield 49, 3) := by decide +kernel
theorem d_Peer_answerLine_38 : decode b_Peer_answerLine 38 = .ok (.if_icmp .ne 47, 3) := by decide +kernel
theorem d_Peer_answerLine_41 : decode b_Peer_answerLine 41 = .ok (.aload_n 2, 1) := by decide +kernel
theorem d_Peer_answerLine_42 : decode b_Peer_answerLine 42 = .ok (.getfield 153, 3) := by decide +kernel
theorem d_Peer_answerLine_45 : decode b_Peer_answerLine 45 = .ok (.aload_n 0, 1) := by decide +kernel
theorem d_Peer_answerLine_46 : decode b_Peer_answerLine 46 = .ok (.getfield 18, 3) := by decide +kernel
theorem d_Peer_answerLine_49 : decode b_Peer_answerLine 49 = .ok (.invokevirtual 157, 3) := by decide +kernel
theorem d_Peer_answerLine_52 : decode b_Peer_answerLine 52 = .ok (.ifCond .eq 33, 3) := by decide +kernel
theorem d_Peer_answerLine_55 : decode b_Peer_answerLine 55 = .ok (.aload_n 0, 1) := by decide +kernel
theorem d_Peer_answerLine_56 : decode b_Peer_answerLine 56 = .ok (.aload_n 2, 1) := by decide +kernel
theorem d_Peer_answerLine_57 : decode b_Peer_answerLine 57 = .ok (.getfield 161, 3) := by decide +kernel
theorem d_Peer_answerLine_60 : decode b_Peer_answerLine 60 = .ok (.putfield 49, 3) := by decide +kernel
theorem d_Peer_answerLine_63 : decode b_Peer_answerLine 63 = .ok (.aload_n 0, 1) := by decide +kernel
theorem d_Peer_answerLine_64 : decode b_Peer_answerLine 64 = .ok (.getfield 37, 3) := by decide +kernel
theorem d_Peer_answerLine_67 : decode b_Peer_answerLine 67 = .ok (.aload_n 0, 1) := by decide +kernel
theorem d_Peer_answerLine_68 : decode b_Peer_answerLine 68 = .ok (.getfield 52, 3) := by decide +kernel
theorem d_Peer_answerLine_71 : decode b_Peer_answerLine 71 = .ok (.aload_n 2, 1) := by decide +kernel
theorem d_Peer_answerLine_72 : decode b_Peer_answerLine 72 = .ok (.getfield 164, 3) := by decide +kernel
theorem d_Peer_answerLine_75 : decode b_Peer_answerLine 75 = .ok (.i2l, 1) := by decide +kernel
theorem d_Peer_answerLine_76 : decode b_Peer_answerLine 76 = .ok (.ladd, 1) := by decide +kernel
theorem d_Peer_answerLine_77 : decode b_Peer_answerLine 77 = .ok (.aload_n 2, 1) := by decide +kernel
theorem d_Peer_answerLine_78 : decode b_Peer_answerLine 78 = .ok (.getfield 167, 3) := by decide +kernel
theorem d_Peer_answerLine_81 : decode b_Peer_answerLine 81 = .ok (.invokevirtual 170, 3) := by decide +kernel
theorem d_Peer_answerLine_84 : decode b_Peer_answerLine 84 = .ok (.return_, 1) := by decide +kernel
theorem d_Peer_answerLine_85 : decode b_Peer_answerLine 85 = .ok (.iinc 1 1, 3) := by decide +kernel
theorem d_Peer_answerLine_88 : decode b_Peer_answerLine 88 = .ok (.goto (-86), 3) := by decide +kernel
theorem d_Peer_answerLine_91 : decode b_Peer_answerLine 91 = .ok (.return_, 1) := by decide +kernel
theorem d_Peer_tell_0 : decode b_Peer_tell 0 = .ok (.iconst 1, 1) := by decide +kernel
theorem d_Peer_tell_1 : decode b_Peer_tell 1 = .ok (.aload_n 2, 1) := by decide +kernel
theorem d_Peer_tell_2 : decode b_Peer_tell 2 = .ok (.invokevirtual 121, 3) := by decide +kernel
theorem d_Peer_tell_5 : decode b_Peer_tell 5 = .ok (.iadd, 1) := by decide +kernel
theorem d_Peer_tell_6 : decode b_Peer_tell 6 = .ok (.iload_n 3, 1) := by decide +kernel
theorem d_Peer_tell_7 : decode b_Peer_tell 7 = .ok (.ifCond .eq 7, 3) := by decide +kernel
theorem d_Peer_tell_10 : decode b_Peer_tell 10 = .ok (.iconst 1, 1) := by decide +kernel
theorem d_Peer_tell_11 : decode b_Peer_tell 11 = .ok (.goto 4, 3) := by decide +kernel
theorem d_Peer_tell_14 : decode b_Peer_tell 14 = .ok (.iconst 0, 1) := by decide +kernel
theorem d_Peer_tell_15 : decode b_Peer_tell 15 = .ok (.iadd, 1) := by decide +kernel
theorem d_Peer_tell_16 : decode b_Peer_tell 16 = .ok (.istore 4, 2) := by decide +kernel
theorem d_Peer_tell_18 : decode b_Peer_tell 18 = .ok (.aload_n 0, 1) := by decide +kernel
theorem d_Peer_tell_19 : decode b_Peer_tell 19 = .ok (.getfield 25, 3) := by decide +kernel
theorem d_Peer_tell_22 : decode b_Peer_tell 22 = .ok (.iload 4, 2) := by decide +kernel
theorem d_Peer_tell_24 : decode b_Peer_tell 24 = .ok (.invokevirtual 56, 3) := by decide +kernel
theorem d_Peer_tell_27 : decode b_Peer_tell 27 = .ok (.ifCond .ne 4, 3) := by decide +kernel
theorem d_Peer_tell_30 : decode b_Peer_tell 30 = .ok (.return_, 1) := by decide +kernel
theorem d_Peer_tell_31 : decode b_Peer_tell 31 = .ok (.aload_n 0, 1) := by decide +kernel
theorem d_Peer_tell_32 : decode b_Peer_tell 32 = .ok (.getfield 25, 3) := by decide +kernel
theorem d_Peer_tell_35 : decode b_Peer_tell 35 = .ok (.iload_n 1, 1) := by decide +kernel
theorem d_Peer_tell_36 : decode b_Peer_tell 36 = .ok (.invokevirtual 147, 3) := by decide +kernel
theorem d_Peer_tell_39 : decode b_Peer_tell 39 = .ok (.aload_n 0, 1) := by decide +kernel
theorem d_Peer_tell_40 : decode b_Peer_tell 40 = .ok (.getfield 25, 3) := by decide +kernel
theorem d_Peer_tell_43 : decode b_Peer_tell 43 = .ok (.aload_n 2, 1) := by decide +kernel
theorem d_Peer_tell_44 : decode b_Peer_tell 44 = .ok (.invokevirtual 129, 3) := by decide +kernel
theorem d_Peer_tell_47 : decode b_Peer_tell 47 = .ok (.iload_n 3, 1) := by decide +kernel
theorem d_Peer_tell_48 : decode b_Peer_tell 48 = .ok (.ifCond .eq 12, 3) := by decide +kernel
theorem d_Peer_tell_51 : decode b_Peer_tell 51 = .ok (.aload_n 0, 1) := by decide +kernel
theorem d_Peer_tell_52 : decode b_Peer_tell 52 = .ok (.getfield 25, 3) := by decide +kernel
theorem d_Peer_tell_55 : decode b_Peer_tell 55 = .ok (.bipush 10, 2) := by decide +kernel
theorem d_Peer_tell_57 : decode b_Peer_tell 57 = .ok (.invokevirtual 147, 3) := by decide +kernel
theorem d_Peer_tell_60 : decode b_Peer_tell 60 = .ok (.return_, 1) := by decide +kernel
end
section
theorem d_Model_init_0 : decode b_Model_init 0 = .ok (.aload_n 0, 1) := by decide +kernel
theorem d_Model_init_1 : decode b_Model_init 1 = .ok (.invokespecial 1, 3) := by decide +kernel
theorem d_Model_init_4 : decode b_Model_init 4 = .ok (.aload_n 0, 1) := by decide +kernel
theorem d_Model_init_5 : decode b_Model_init 5 = .ok (.sipush 1024, 3) := by decide +kernel
theorem d_Model_init_8 : decode b_Model_init 8 = .ok (.newarray .byte, 2) := by decide +kernel
theorem d_Model_init_10 : decode b_Model_init 10 = .ok (.putfield 7, 3) := by decide +kernel
theorem d_Model_init_13 : decode b_Model_init 13 = .ok (.aload_n 0, 1) := by decide +kernel
theorem d_Model_init_14 : decode b_Model_init 14 = .ok (.bipush 64, 2) := by decide +kernel
theorem d_Model_init_16 : decode b_Model_init 16 = .ok (.newarray .int, 2) := by decide +kernel
theorem d_Model_init_18 : decode b_Model_init 18 = .ok (.putfield 13, 3) := by decide +kernel
theorem d_Model_init_21 : decode b_Model_init 21 = .ok (.aload_n 0, 1) := by decide +kernel
theorem d_Model_init_22 : decode b_Model_init 22 = .ok (.bipush 64, 2) := by decide +kernel
theorem d_Model_init_24 : decode b_Model_init 24 = .ok (.newarray .int, 2) := by decide +kernel
theorem d_Model_init_26 : decode b_Model_init 26 = .ok (.putfield 17, 3) := by decide +kernel
theorem d_Model_init_29 : decode b_Model_init 29 = .ok (.aload_n 0, 1) := by decide +kernel
theorem d_Model_init_30 : decode b_Model_init 30 = .ok (.bipush 64, 2) := by decide +kernel
theorem d_Model_init_32 : decode b_Model_init 32 = .ok (.newarray .int, 2) := by decide +kernel
theorem d_Model_init_34 : decode b_Model_init 34 = .ok (.putfield 20, 3) := by decide +kernel
theorem d_Model_init_37 : decode b_Model_init 37 = .ok (.aload_n 0, 1) := by decide +kernel
theorem d_Model_init_38 : decode b_Model_init 38 = .ok (.bipush 64, 2) := by decide +kernel
theorem d_Model_init_40 : decode b_Model_init 40 = .ok (.newarray .int, 2) := by decide +kernel
theorem d_Model_init_42 : decode b_Model_init 42 = .ok (.putfield 23, 3) := by decide +kernel
theorem d_Model_init_45 : decode b_Model_init 45 = .ok (.aload_n 0, 1) := by decide +kernel
theorem d_Model_init_46 : decode b_Model_init 46 = .ok (.bipush 64, 2) := by decide +kernel
theorem d_Model_init_48 : decode b_Model_init 48 = .ok (.newarray .int, 2) := by decide +kernel
theorem d_Model_init_50 : decode b_Model_init 50 = .ok (.putfield 26, 3) := by decide +kernel
theorem d_Model_init_53 : decode b_Model_init 53 = .ok (.aload_n 0, 1) := by decide +kernel
theorem d_Model_init_54 : decode b_Model_init 54 = .ok (.sipush 12800, 3) := by decide +kernel
theorem d_Model_init_57 : decode b_Model_init 57 = .ok (.newarray .byte, 2) := by decide +kernel
theorem d_Model_init_59 : decode b_Model_init 59 = .ok (.putfield 29, 3) := by decide +kernel
theorem d_Model_init_62 : decode b_Model_init 62 = .ok (.aload_n 0, 1) := by decide +kernel
theorem d_Model_init_63 : decode b_Model_init 63 = .ok (.sipush 12800, 3) := by decide +kernel
theorem d_Model_init_66 : decode b_Model_init 66 = .ok (.newarray .byte, 2) := by decide +kernel
theorem d_Model_init_68 : decode b_Model_init 68 = .ok (.putfield 32, 3) := by decide +kernel
theorem d_Model_init_71 : decode b_Model_init 71 = .ok (.aload_n 0, 1) := by decide +kernel
theorem d_Model_init_72 : decode b_Model_init 72 = .ok (.sipush 1024, 3) := by decide +kernel
theorem d_Model_init_75 : decode b_Model_init 75 = .ok (.newarray .byte, 2) := by decide +kernel
theorem d_Model_init_77 : decode b_Model_init 77 = .ok (.putfield 35, 3) := by decide +kernel
theorem d_Model_init_80 : decode b_Model_init 80 = .ok (.aload_n 0, 1) := by decide +kernel
theorem d_Model_init_81 : decode b_Model_init 81 = .ok (.bipush 64, 2) := by decide +kernel
theorem d_Model_init_83 : decode b_Model_init 83 = .ok (.newarray .long, 2) := by decide +kernel
theorem d_Model_init_85 : decode b_Model_init 85 = .ok (.putfield 38, 3) := by decide +kernel
theorem d_Model_init_88 : decode b_Model_init 88 = .ok (.aload_n 0, 1) := by decide +kernel
theorem d_Model_init_89 : decode b_Model_init 89 = .ok (.bipush 64, 2) := by decide +kernel
theorem d_Model_init_91 : decode b_Model_init 91 = .ok (.newarray .int, 2) := by decide +kernel
theorem d_Model_init_93 : decode b_Model_init 93 = .ok (.putfield 42, 3) := by decide +kernel
theorem d_Model_init_96 : decode b_Model_init 96 = .ok (.aload_n 0, 1) := by decide +kernel
theorem d_Model_init_97 : decode b_Model_init 97 = .ok (.sipush 1024, 3) := by decide +kernel
theorem d_Model_init_100 : decode b_Model_init 100 = .ok (.newarray .byte, 2) := by decide +kernel
theorem d_Model_init_102 : decode b_Model_init 102 = .ok (.putfield 45, 3) := by decide +kernel
theorem d_Model_init_105 : decode b_Model_init 105 = .ok (.aload_n 0, 1) := by decide +kernel
theorem d_Model_init_106 : decode b_Model_init 106 = .ok (.ldc 48, 2) := by decide +kernel
theorem d_Model_init_108 : decode b_Model_init 108 = .ok (.newarray .byte, 2) := by decide +kernel
theorem d_Model_init_110 : decode b_Model_init 110 = .ok (.putfield 49, 3) := by decide +kernel
theorem d_Model_init_113 : decode b_Model_init 113 = .ok (.aload_n 0, 1) := by decide +kernel
theorem d_Model_init_114 : decode b_Model_init 114 = .ok (.sipush 1025, 3) := by decide +kernel
theorem d_Model_init_117 : decode b_Model_init 117 = .ok (.newarray .boolean, 2) := by decide +kernel
theorem d_Model_init_119 : decode b_Model_init 119 = .ok (.putfield 52, 3) := by decide +kernel
theorem d_Model_init_122 : decode b_Model_init 122 = .ok (.return_, 1) := by decide +kernel
theorem d_Model_in_0 : decode b_Model_in 0 = .ok (.iload_n 0, 1) := by decide +kernel
theorem d_Model_in_1 : decode b_Model_in 1 = .ok (.iload_n 1, 1) := by decide +kernel
theorem d_Model_in_2 : decode b_Model_in 2 = .ok (.if_icmp .lt 12, 3) := by decide +kernel
theorem d_Model_in_5 : decode b_Model_in 5 = .ok (.iload_n 0, 1) := by decide +kernel
theorem d_Model_in_6 : decode b_Model_in 6 = .ok (.iload_n 2, 1) := by decide +kernel
theorem d_Model_in_7 : decode b_Model_in 7 = .ok (.if_icmp .gt 7, 3) := by decide +kernel
theorem d_Model_in_10 : decode b_Model_in 10 = .ok (.iconst 1, 1) := by decide +kernel
theorem d_Model_in_11 : decode b_Model_in 11 = .ok (.goto 4, 3) := by decide +kernel
theorem d_Model_in_14 : decode b_Model_in 14 = .ok (.iconst 0, 1) := by decide +kernel
theorem d_Model_in_15 : decode b_Model_in 15 = .ok (.ireturn, 1) := by decide +kernel
theorem d_Model_lay_0 : decode b_Model_lay 0 = .ok (.bipush 24, 2) := by decide +kernel
theorem d_Model_lay_2 : decode b_Model_lay 2 = .ok (.istore_n 2, 1) := by decide +kernel
theorem d_Model_lay_3 : decode b_Model_lay 3 = .ok (.iload_n 2, 1) := by decide +kernel
theorem d_Model_lay_4 : decode b_Model_lay 4 = .ok (.ifCond .lt 32, 3) := by decide +kernel
theorem d_Model_lay_7 : decode b_Model_lay 7 = .ok (.aload_n 0, 1) := by decide +kernel
theorem d_Model_lay_8 : decode b_Model_lay 8 = .ok (.getfield 7, 3) := by decide +kernel
theorem d_Model_lay_11 : decode b_Model_lay 11 = .ok (.aload_n 0, 1) := by decide +kernel
theorem d_Model_lay_12 : decode b_Model_lay 12 = .ok (.getfield 56, 3) := by decide +kernel
theorem d_Model_lay_15 : decode b_Model_lay 15 = .ok (.iload_n 1, 1) := by decide +kernel
theorem d_Model_lay_16 : decode b_Model_lay 16 = .ok (.iload_n 2, 1) := by decide +kernel
theorem d_Model_lay_17 : decode b_Model_lay 17 = .ok (.ishr, 1) := by decide +kernel
theorem d_Model_lay_18 : decode b_Model_lay 18 = .ok (.i2b, 1) := by decide +kernel
theorem d_Model_lay_19 : decode b_Model_lay 19 = .ok (.bastore, 1) := by decide +kernel
theorem d_Model_lay_20 : decode b_Model_lay 20 = .ok (.aload_n 0, 1) := by decide +kernel
theorem d_Model_lay_21 : decode b_Model_lay 21 = .ok (.dup, 1) := by decide +kernel
theorem d_Model_lay_22 : decode b_Model_lay 22 = .ok (.getfield 56, 3) := by decide +kernel
theorem d_Model_lay_25 : decode b_Model_lay 25 = .ok (.iconst 1, 1) := by decide +kernel
theorem d_Model_lay_26 : decode b_Model_lay 26 = .ok (.iadd, 1) := by decide +kernel
theorem d_Model_lay_27 : decode b_Model_lay 27 = .ok (.putfield 56, 3) := by decide +kernel
theorem d_Model_lay_30 : decode b_Model_lay 30 = .ok (.iinc 2 (-8), 3) := by decide +kernel
theorem d_Model_lay_33 : decode b_Model_lay 33 = .ok (.goto (-30), 3) := by decide +kernel
theorem d_Model_lay_36 : decode b_Model_lay 36 = .ok (.return_, 1) := by decide +kernel
theorem d_Model_feed_0 : decode b_Model_feed 0 = .ok (.aload_n 0, 1) := by decide +kernel
theorem d_Model_feed_1 : decode b_Model_feed 1 = .ok (.getfield 56, 3) := by decide +kernel
theorem d_Model_feed_4 : decode b_Model_feed 4 = .ok (.bipush 20, 2) := by decide +kernel
theorem d_Model_feed_6 : decode b_Model_feed 6 = .ok (.iadd, 1) := by decide +kernel
theorem d_Model_feed_7 : decode b_Model_feed 7 = .ok (.sipush 1024, 3) := by decide +kernel
theorem d_Model_feed_10 : decode b_Model_feed 10 = .ok (.if_icmp .le 5, 3) := by decide +kernel
theorem d_Model_feed_13 : decode b_Model_feed 13 = .ok (.iconst 0, 1) := by decide +kernel
theorem d_Model_feed_14 : decode b_Model_feed 14 = .ok (.ireturn, 1) := by decide +kernel
theorem d_Model_feed_15 : decode b_Model_feed 15 = .ok (.aload_n 0, 1) := by decide +kernel
theorem d_Model_feed_16 : decode b_Model_feed 16 = .ok (.iload_n 1, 1) := by decide +kernel
theorem d_Model_feed_17 : decode b_Model_feed 17 = .ok (.invokevirtual 60, 3) := by decide +kernel
theorem d_Model_feed_20 : decode b_Model_feed 20 = .ok (.aload_n 0, 1) := by decide +kernel
theorem d_Model_feed_21 : decode b_Model_feed 21 = .ok (.iload_n 2, 1) := by decide +kernel
theorem d_Model_feed_22 : decode b_Model_feed 22 = .ok (.invokevirtual 60, 3) := by decide +kernel
theorem d_Model_feed_25 : decode b_Model_feed 25 = .ok (.aload_n 0, 1) := by decide +kernel
theorem d_Model_feed_26 : decode b_Model_feed 26 = .ok (.iload_n 3, 1) := by decide +kernel
theorem d_Model_feed_27 : decode b_Model_feed 27 = .ok (.invokevirtual 60, 3) := by decide +kernel
theorem d_Model_feed_30 : decode b_Model_feed 30 = .ok (.aload_n 0, 1) := by decide +kernel
theorem d_Model_feed_31 : decode b_Model_feed 31 = .ok (.iload 4, 2) := by decide +kernel
theorem d_Model_feed_33 : decode b_Model_feed 33 = .ok (.invokevirtual 60, 3) := by decide +kernel
theorem d_Model_feed_36 : decode b_Model_feed 36 = .ok (.aload_n 0, 1) := by decide +kernel
theorem d_Model_feed_37 : decode b_Model_feed 37 = .ok (.iload 5, 2) := by decide +kernel
theorem d_Model_feed_39 : decode b_Model_feed 39 = .ok (.invokevirtual 60, 3) := by decide +kernel
theorem d_Model_feed_42 : decode b_Model_feed 42 = .ok (.iconst 1, 1) := by decide +kernel
theorem d_Model_feed_43 : decode b_Model_feed 43 = .ok (.ireturn, 1) := by decide +kernel
theorem d_Model_end_0 : decode b_Model_end 0 = .ok (.iload_n 1, 1) := by decide +kernel
theorem d_Model_end_1 : decode b_Model_end 1 = .ok (.iconst 0, 1) := by decide +kernel
theorem d_Model_end_2 : decode b_Model_end 2 = .ok (.aload_n 0, 1) := by decide +kernel
theorem d_Model_end_3 : decode b_Model_end 3 = .ok (.getfield 56, 3) := by decide +kernel
theorem d_Model_end_6 : decode b_Model_end 6 = .ok (.invokestatic 64, 3) := by decide +kernel
theorem d_Model_end_9 : decode b_Model_end 9 = .ok (.ifCond .ne 5, 3) := by decide +kernel
theorem d_Model_end_12 : decode b_Model_end 12 = .ok (.iconst 0, 1) := by decide +kernel
theorem d_Model_end_13 : decode b_Model_end 13 = .ok (.ireturn, 1) := by decide +kernel
theorem d_Model_end_14 : decode b_Model_end 14 = .ok (.aload_n 0, 1) := by decide +kernel
theorem d_Model_end_15 : decode b_Model_end 15 = .ok (.iload_n 1, 1) := by decide +kernel
theorem d_Model_end_16 : decode b_Model_end 16 = .ok (.putfield 56, 3) := by decide +kernel
theorem d_Model_end_19 : decode b_Model_end 19 = .ok (.iconst 1, 1) := by decide +kernel
theorem d_Model_end_20 : decode b_Model_end 20 = .ok (.ireturn, 1) := by decide +kernel
theorem d_Model_isOneOf_0 : decode b_Model_isOneOf 0 = .ok (.iconst 0, 1) := by decide +kernel
theorem d_Model_isOneOf_1 : decode b_Model_isOneOf 1 = .ok (.istore 4, 2) := by decide +kernel
theorem d_Model_isOneOf_3 : decode b_Model_isOneOf 3 = .ok (.iload_n 1, 1) := by decide +kernel
theorem d_Model_isOneOf_4 : decode b_Model_isOneOf 4 = .ok (.istore 5, 2) := by decide +kernel
theorem d_Model_isOneOf_6 : decode b_Model_isOneOf 6 = .ok (.iload 5, 2) := by decide +kernel
theorem d_Model_isOneOf_8 : decode b_Model_isOneOf 8 = .ok (.iload_n 2, 1) := by decide +kernel
theorem d_Model_isOneOf_9 : decode b_Model_isOneOf 9 = .ok (.if_icmp .ge 90, 3) := by decide +kernel
theorem d_Model_isOneOf_12 : decode b_Model_isOneOf 12 = .ok (.aload_n 0, 1) := by decide +kernel
theorem d_Model_isOneOf_13 : decode b_Model_isOneOf 13 = .ok (.iload 5, 2) := by decide +kernel
theorem d_Model_isOneOf_15 : decode b_Model_isOneOf 15 = .ok (.iload_n 2, 1) := by decide +kernel
theorem d_Model_isOneOf_16 : decode b_Model_isOneOf 16 = .ok (.invokestatic 68, 3) := by decide +kernel
theorem d_Model_isOneOf_19 : decode b_Model_isOneOf 19 = .ok (.istore 6, 2) := by decide +kernel
theorem d_Model_isOneOf_21 : decode b_Model_isOneOf 21 = .ok (.aload_n 0, 1) := by decide +kernel
theorem d_Model_isOneOf_22 : decode b_Model_isOneOf 22 = .ok (.iload 5, 2) := by decide +kernel
theorem d_Model_isOneOf_24 : decode b_Model_isOneOf 24 = .ok (.iload_n 2, 1) := by decide +kernel
theorem d_Model_isOneOf_25 : decode b_Model_isOneOf 25 = .ok (.invokestatic 72, 3) := by decide +kernel
theorem d_Model_isOneOf_28 : decode b_Model_isOneOf 28 = .ok (.istore 5, 2) := by decide +kernel
theorem d_Model_isOneOf_30 : decode b_Model_isOneOf 30 = .ok (.iload 6, 2) := by decide +kernel
theorem d_Model_isOneOf_32 : decode b_Model_isOneOf 32 = .ok (.istore 7, 2) := by decide +kernel
theorem d_Model_isOneOf_34 : decode b_Model_isOneOf 34 = .ok (.iload 5, 2) := by decide +kernel
theorem d_Model_isOneOf_36 : decode b_Model_isOneOf 36 = .ok (.iconst 1, 1) := by decide +kernel
theorem d_Model_isOneOf_37 : decode b_Model_isOneOf 37 = .ok (.iadd, 1) := by decide +kernel
theorem d_Model_isOneOf_38 : decode b_Model_isOneOf 38 = .ok (.iload_n 2, 1) := by decide +kernel
theorem d_Model_isOneOf_39 : decode b_Model_isOneOf 39 = .ok (.if_icmp .ge 34, 3) := by decide +kernel
theorem d_Model_isOneOf_42 : decode b_Model_isOneOf 42 = .ok (.aload_n 0, 1) := by decide +kernel
theorem d_Model_isOneOf_43 : decode b_Model_isOneOf 43 = .ok (.iload 5, 2) := by decide +kernel
theorem d_Model_isOneOf_45 : decode b_Model_isOneOf 45 = .ok (.baload, 1) := by decide +kernel
theorem d_Model_isOneOf_46 : decode b_Model_isOneOf 46 = .ok (.bipush 45, 2) := by decide +kernel
theorem d_Model_isOneOf_48 : decode b_Model_isOneOf 48 = .ok (.if_icmp .ne 25, 3) := by decide +kernel
theorem d_Model_isOneOf_51 : decode b_Model_isOneOf 51 = .ok (.aload_n 0, 1) := by decide +kernel
theorem d_Model_isOneOf_52 : decode b_Model_isOneOf 52 = .ok (.iload 5, 2) := by decide +kernel
theorem d_Model_isOneOf_54 : decode b_Model_isOneOf 54 = .ok (.iconst 1, 1) := by decide +kernel
theorem d_Model_isOneOf_55 : decode b_Model_isOneOf 55 = .ok (.iadd, 1) := by decide +kernel
theorem d_Model_isOneOf_56 : decode b_Model_isOneOf 56 = .ok (.iload_n 2, 1) := by decide +kernel
theorem d_Model_isOneOf_57 : decode b_Model_isOneOf 57 = .ok (.invokestatic 68, 3) := by decide +kernel
theorem d_Model_isOneOf_60 : decode b_Model_isOneOf 60 = .ok (.istore 7, 2) := by decide +kernel
theorem d_Model_isOneOf_62 : decode b_Model_isOneOf 62 = .ok (.aload_n 0, 1) := by decide +kernel
theorem d_Model_isOneOf_63 : decode b_Model_isOneOf 63 = .ok (.iload 5, 2) := by decide +kernel
theorem d_Model_isOneOf_65 : decode b_Model_isOneOf 65 = .ok (.iconst 1, 1) := by decide +kernel
theorem d_Model_isOneOf_66 : decode b_Model_isOneOf 66 = .ok (.iadd, 1) := by decide +kernel
theorem d_Model_isOneOf_67 : decode b_Model_isOneOf 67 = .ok (.iload_n 2, 1) := by decide +kernel
theorem d_Model_isOneOf_68 : decode b_Model_isOneOf 68 = .ok (.invokestatic 72, 3) := by decide +kernel
theorem d_Model_isOneOf_71 : decode b_Model_isOneOf 71 = .ok (.istore 5, 2) := by decide +kernel
theorem d_Model_isOneOf_73 : decode b_Model_isOneOf 73 = .ok (.iload 4, 2) := by decide +kernel
theorem d_Model_isOneOf_75 : decode b_Model_isOneOf 75 = .ok (.ifCond .ne 14, 3) := by decide +kernel
theorem d_Model_isOneOf_78 : decode b_Model_isOneOf 78 = .ok (.iload_n 3, 1) := by decide +kernel
theorem d_Model_isOneOf_79 : decode b_Model_isOneOf 79 = .ok (.iload 6, 2) := by decide +kernel
theorem d_Model_isOneOf_81 : decode b_Model_isOneOf 81 = .ok (.iload 7, 2) := by decide +kernel
theorem d_Model_isOneOf_83 : decode b_Model_isOneOf 83 = .ok (.invokestatic 64, 3) := by decide +kernel
theorem d_Model_isOneOf_86 : decode b_Model_isOneOf 86 = .ok (.ifCond .eq 7, 3) := by decide +kernel
theorem d_Model_isOneOf_89 : decode b_Model_isOneOf 89 = .ok (.iconst 1, 1) := by decide +kernel
theorem d_Model_isOneOf_90 : decode b_Model_isOneOf 90 = .ok (.goto 4, 3) := by decide +kernel
theorem d_Model_isOneOf_93 : decode b_Model_isOneOf 93 = .ok (.iconst 0, 1) := by decide +kernel
theorem d_Model_isOneOf_94 : decode b_Model_isOneOf 94 = .ok (.istore 4, 2) := by decide +kernel
theorem d_Model_isOneOf_96 : decode b_Model_isOneOf 96 = .ok (.goto (-90), 3) := by decide +kernel
theorem d_Model_isOneOf_99 : decode b_Model_isOneOf 99 = .ok (.iload 4, 2) := by decide +kernel
theorem d_Model_isOneOf_101 : decode b_Model_isOneOf 101 = .ok (.ireturn, 1) := by decide +kernel
theorem d_Model_itself_0 : decode b_Model_itself 0 = .ok (.aload_n 0, 1) := by decide +kernel
theorem d_Model_itself_1 : decode b_Model_itself 1 = .ok (.iload_n 1, 1) := by decide +kernel
theorem d_Model_itself_2 : decode b_Model_itself 2 = .ok (.baload, 1) := by decide +kernel
theorem d_Model_itself_3 : decode b_Model_itself 3 = .ok (.bipush 92, 2) := by decide +kernel
theorem d_Model_itself_5 : decode b_Model_itself 5 = .ok (.if_icmp .ne 22, 3) := by decide +kernel
theorem d_Model_itself_8 : decode b_Model_itself 8 = .ok (.iload_n 1, 1) := by decide +kernel
theorem d_Model_itself_9 : decode b_Model_itself 9 = .ok (.iconst 1, 1) := by decide +kernel
theorem d_Model_itself_10 : decode b_Model_itself 10 = .ok (.iadd, 1) := by decide +kernel
theorem d_Model_itself_11 : decode b_Model_itself 11 = .ok (.iload_n 2, 1) := by decide +kernel
theorem d_Model_itself_12 : decode b_Model_itself 12 = .ok (.if_icmp .ge 15, 3) := by decide +kernel
theorem d_Model_itself_15 : decode b_Model_itself 15 = .ok (.aload_n 0, 1) := by decide +kernel
theorem d_Model_itself_16 : decode b_Model_itself 16 = .ok (.iload_n 1, 1) := by decide +kernel
theorem d_Model_itself_17 : decode b_Model_itself 17 = .ok (.iconst 1, 1) := by decide +kernel
theorem d_Model_itself_18 : decode b_Model_itself 18 = .ok (.iadd, 1) := by decide +kernel
theorem d_Model_itself_19 : decode b_Model_itself 19 = .ok (.baload, 1) := by decide +kernel
theorem d_Model_itself_20 : decode b_Model_itself 20 = .ok (.sipush 255, 3) := by decide +kernel
theorem d_Model_itself_23 : decode b_Model_itself 23 = .ok (.iand, 1) := by decide +kernel
theorem d_Model_itself_24 : decode b_Model_itself 24 = .ok (.goto 10, 3) := by decide +kernel
theorem d_Model_itself_27 : decode b_Model_itself 27 = .ok (.aload_n 0, 1) := by decide +kernel
theorem d_Model_itself_28 : decode b_Model_itself 28 = .ok (.iload_n 1, 1) := by decide +kernel
theorem d_Model_itself_29 : decode b_Model_itself 29 = .ok (.baload, 1) := by decide +kernel
theorem d_Model_itself_30 : decode b_Model_itself 30 = .ok (.sipush 255, 3) := by decide +kernel
theorem d_Model_itself_33 : decode b_Model_itself 33 = .ok (.iand, 1) := by decide +kernel
theorem d_Model_itself_34 : decode b_Model_itself 34 = .ok (.ireturn, 1) := by decide +kernel
theorem d_Model_behind_0 : decode b_Model_behind 0 = .ok (.aload_n 0, 1) := by decide +kernel
theorem d_Model_behind_1 : decode b_Model_behind 1 = .ok (.iload_n 1, 1) := by decide +kernel
theorem d_Model_behind_2 : decode b_Model_behind 2 = .ok (.baload, 1) := by decide +kernel
theorem d_Model_behind_3 : decode b_Model_behind 3 = .ok (.bipush 92, 2) := by decide +kernel
theorem d_Model_behind_5 : decode b_Model_behind 5 = .ok (.if_icmp .ne 16, 3) := by decide +kernel
theorem d_Model_behind_8 : decode b_Model_behind 8 = .ok (.iload_n 1, 1) := by decide +kernel
theorem d_Model_behind_9 : decode b_Model_behind 9 = .ok (.iconst 1, 1) := by decide +kernel
theorem d_Model_behind_10 : decode b_Model_behind 10 = .ok (.iadd, 1) := by decide +kernel
theorem d_Model_behind_11 : decode b_Model_behind 11 = .ok (.iload_n 2, 1) := by decide +kernel
theorem d_Model_behind_12 : decode b_Model_behind 12 = .ok (.if_icmp .ge 9, 3) := by decide +kernel
theorem d_Model_behind_15 : decode b_Model_behind 15 = .ok (.iload_n 1, 1) := by decide +kernel
theorem d_Model_behind_16 : decode b_Model_behind 16 = .ok (.iconst 2, 1) := by decide +kernel
theorem d_Model_behind_17 : decode b_Model_behind 17 = .ok (.iadd, 1) := by decide +kernel
theorem d_Model_behind_18 : decode b_Model_behind 18 = .ok (.goto 6, 3) := by decide +kernel
theorem d_Model_behind_21 : decode b_Model_behind 21 = .ok (.iload_n 1, 1) := by decide +kernel
theorem d_Model_behind_22 : decode b_Model_behind 22 = .ok (.iconst 1, 1) := by decide +kernel
theorem d_Model_behind_23 : decode b_Model_behind 23 = .ok (.iadd, 1) := by decide +kernel
theorem d_Model_behind_24 : decode b_Model_behind 24 = .ok (.ireturn, 1) := by decide +kernel
theorem d_Model_closing_0 : decode b_Model_closing 0 = .ok (.iload_n 1, 1) := by decide +kernel
theorem d_Model_closing_1 : decode b_Model_closing 1 = .ok (.istore_n 3, 1) := by decide +kernel
theorem d_Model_closing_2 : decode b_Model_closing 2 = .ok (.iload_n 3, 1) := by decide +kernel
theorem d_Model_closing_3 : decode b_Model_closing 3 = .ok (.iload_n 2, 1) := by decide +kernel
theorem d_Model_closing_4 : decode b_Model_closing 4 = .ok (.if_icmp .ge 21, 3) := by decide +kernel
theorem d_Model_closing_7 : decode b_Model_closing 7 = .ok (.aload_n 0, 1) := by decide +kernel
theorem d_Model_closing_8 : decode b_Model_closing 8 = .ok (.iload_n 3, 1) := by decide +kernel
theorem d_Model_closing_9 : decode b_Model_closing 9 = .ok (.baload, 1) := by decide +kernel
theorem d_Model_closing_10 : decode b_Model_closing 10 = .ok (.bipush 93, 2) := by decide +kernel
theorem d_Model_closing_12 : decode b_Model_closing 12 = .ok (.if_icmp .eq 13, 3) := by decide +kernel
theorem d_Model_closing_15 : decode b_Model_closing 15 = .ok (.aload_n 0, 1) := by decide +kernel
theorem d_Model_closing_16 : decode b_Model_closing 16 = .ok (.iload_n 3, 1) := by decide +kernel
theorem d_Model_closing_17 : decode b_Model_closing 17 = .ok (.iload_n 2, 1) := by decide +kernel
theorem d_Model_closing_18 : decode b_Model_closing 18 = .ok (.invokestatic 72, 3) := by decide +kernel
theorem d_Model_closing_21 : decode b_Model_closing 21 = .ok (.istore_n 3, 1) := by decide +kernel
theorem d_Model_closing_22 : decode b_Model_closing 22 = .ok (.goto (-20), 3) := by decide +kernel
theorem d_Model_closing_25 : decode b_Model_closing 25 = .ok (.iload_n 3, 1) := by decide +kernel
theorem d_Model_closing_26 : decode b_Model_closing 26 = .ok (.ireturn, 1) := by decide +kernel
theorem d_Model_one_0 : decode b_Model_one 0 = .ok (.aload_n 1, 1) := by decide +kernel
theorem d_Model_one_1 : decode b_Model_one 1 = .ok (.iload_n 2, 1) := by decide +kernel
theorem d_Model_one_2 : decode b_Model_one 2 = .ok (.baload, 1) := by decide +kernel
theorem d_Model_one_3 : decode b_Model_one 3 = .ok (.istore 6, 2) := by decide +kernel
theorem d_Model_one_5 : decode b_Model_one 5 = .ok (.iload 5, 2) := by decide +kernel
theorem d_Model_one_7 : decode b_Model_one 7 = .ok (.istore 7, 2) := by decide +kernel
theorem d_Model_one_9 : decode b_Model_one 9 = .ok (.iload 7, 2) := by decide +kernel
theorem d_Model_one_11 : decode b_Model_one 11 = .ok (.ifCond .le 130, 3) := by decide +kernel
theorem d_Model_one_14 : decode b_Model_one 14 = .ok (.aload 4, 2) := by decide +kernel
theorem d_Model_one_16 : decode b_Model_one 16 = .ok (.iload 7, 2) := by decide +kernel
theorem d_Model_one_18 : decode b_Model_one 18 = .ok (.iconst 1, 1) := by decide +kernel
theorem d_Model_one_19 : decode b_Model_one 19 = .ok (.isub, 1) := by decide +kernel
theorem d_Model_one_20 : decode b_Model_one 20 = .ok (.baload, 1) := by decide +kernel
theorem d_Model_one_21 : decode b_Model_one 21 = .ok (.sipush 255, 3) := by decide +kernel
theorem d_Model_one_24 : decode b_Model_one 24 = .ok (.iand, 1) := by decide +kernel
theorem d_Model_one_25 : decode b_Model_one 25 = .ok (.istore 8, 2) := by decide +kernel
theorem d_Model_one_27 : decode b_Model_one 27 = .ok (.iload 6, 2) := by decide +kernel
theorem d_Model_one_29 : decode b_Model_one 29 = .ok (.bipush 63, 2) := by decide +kernel
theorem d_Model_one_31 : decode b_Model_one 31 = .ok (.if_icmp .eq 68, 3) := by decide +kernel
theorem d_Model_one_34 : decode b_Model_one 34 = .ok (.iload 6, 2) := by decide +kernel
theorem d_Model_one_36 : decode b_Model_one 36 = .ok (.bipush 91, 2) := by decide +kernel
theorem d_Model_one_38 : decode b_Model_one 38 = .ok (.if_icmp .ne 19, 3) := by decide +kernel
theorem d_Model_one_41 : decode b_Model_one 41 = .ok (.aload_n 1, 1) := by decide +kernel
theorem d_Model_one_42 : decode b_Model_one 42 = .ok (.iload_n 2, 1) := by decide +kernel
theorem d_Model_one_43 : decode b_Model_one 43 = .ok (.iconst 1, 1) := by decide +kernel
theorem d_Model_one_44 : decode b_Model_one 44 = .ok (.iadd, 1) := by decide +kernel
theorem d_Model_one_45 : decode b_Model_one 45 = .ok (.iload_n 3, 1) := by decide +kernel
theorem d_Model_one_46 : decode b_Model_one 46 = .ok (.iload 8, 2) := by decide +kernel
theorem d_Model_one_48 : decode b_Model_one 48 = .ok (.invokestatic 75, 3) := by decide +kernel
theorem d_Model_one_51 : decode b_Model_one 51 = .ok (.ifCond .eq 52, 3) := by decide +kernel
theorem d_Model_one_54 : decode b_Model_one 54 = .ok (.goto 45, 3) := by decide +kernel
theorem d_Model_one_57 : decode b_Model_one 57 = .ok (.iload 6, 2) := by decide +kernel
theorem d_Model_one_59 : decode b_Model_one 59 = .ok (.bipush 92, 2) := by decide +kernel
theorem d_Model_one_61 : decode b_Model_one 61 = .ok (.if_icmp .ne 27, 3) := by decide +kernel
theorem d_Model_one_64 : decode b_Model_one 64 = .ok (.iload_n 2, 1) := by decide +kernel
theorem d_Model_one_65 : decode b_Model_one 65 = .ok (.iconst 1, 1) := by decide +kernel
theorem d_Model_one_66 : decode b_Model_one 66 = .ok (.iadd, 1) := by decide +kernel
theorem d_Model_one_67 : decode b_Model_one 67 = .ok (.iload_n 3, 1) := by decide +kernel
theorem d_Model_one_68 : decode b_Model_one 68 = .ok (.if_icmp .ge 20, 3) := by decide +kernel
theorem d_Model_one_71 : decode b_Model_one 71 = .ok (.iload 8, 2) := by decide +kernel
theorem d_Model_one_73 : decode b_Model_one 73 = .ok (.aload_n 1, 1) := by decide +kernel
theorem d_Model_one_74 : decode b_Model_one 74 = .ok (.iload_n 2, 1) := by decide +kernel
theorem d_Model_one_75 : decode b_Model_one 75 = .ok (.iconst 1, 1) := by decide +kernel
theorem d_Model_one_76 : decode b_Model_one 76 = .ok (.iadd, 1) := by decide +kernel
theorem d_Model_one_77 : decode b_Model_one 77 = .ok (.baload, 1) := by decide +kernel
theorem d_Model_one_78 : decode b_Model_one 78 = .ok (.sipush 255, 3) := by decide +kernel
theorem d_Model_one_81 : decode b_Model_one 81 = .ok (.iand, 1) := by decide +kernel
theorem d_Model_one_82 : decode b_Model_one 82 = .ok (.if_icmp .ne 21, 3) := by decide +kernel
theorem d_Model_one_85 : decode b_Model_one 85 = .ok (.goto 14, 3) := by decide +kernel
theorem d_Model_one_88 : decode b_Model_one 88 = .ok (.iload 8, 2) := by decide +kernel
theorem d_Model_one_90 : decode b_Model_one 90 = .ok (.iload 6, 2) := by decide +kernel
theorem d_Model_one_92 : decode b_Model_one 92 = .ok (.sipush 255, 3) := by decide +kernel
theorem d_Model_one_95 : decode b_Model_one 95 = .ok (.iand, 1) := by decide +kernel
theorem d_Model_one_96 : decode b_Model_one 96 = .ok (.if_icmp .ne 7, 3) := by decide +kernel
theorem d_Model_one_99 : decode b_Model_one 99 = .ok (.iconst 1, 1) := by decide +kernel
theorem d_Model_one_100 : decode b_Model_one 100 = .ok (.goto 4, 3) := by decide +kernel
theorem d_Model_one_103 : decode b_Model_one 103 = .ok (.iconst 0, 1) := by decide +kernel
theorem d_Model_one_104 : decode b_Model_one 104 = .ok (.istore 9, 2) := by decide +kernel
theorem d_Model_one_106 : decode b_Model_one 106 = .ok (.aload_n 0, 1) := by decide +kernel
theorem d_Model_one_107 : decode b_Model_one 107 = .ok (.getfield 52, 3) := by decide +kernel
theorem d_Model_one_110 : decode b_Model_one 110 = .ok (.iload 7, 2) := by decide +kernel
theorem d_Model_one_112 : decode b_Model_one 112 = .ok (.aload_n 0, 1) := by decide +kernel
theorem d_Model_one_113 : decode b_Model_one 113 = .ok (.getfield 52, 3) := by decide +kernel
theorem d_Model_one_116 : decode b_Model_one 116 = .ok (.iload 7, 2) := by decide +kernel
theorem d_Model_one_118 : decode b_Model_one 118 = .ok (.iconst 1, 1) := by decide +kernel
theorem d_Model_one_119 : decode b_Model_one 119 = .ok (.isub, 1) := by decide +kernel
theorem d_Model_one_120 : decode b_Model_one 120 = .ok (.baload, 1) := by decide +kernel
theorem d_Model_one_121 : decode b_Model_one 121 = .ok (.ifCond .eq 12, 3) := by decide +kernel
theorem d_Model_one_124 : decode b_Model_one 124 = .ok (.iload 9, 2) := by decide +kernel
theorem d_Model_one_126 : decode b_Model_one 126 = .ok (.ifCond .eq 7, 3) := by decide +kernel
theorem d_Model_one_129 : decode b_Model_one 129 = .ok (.iconst 1, 1) := by decide +kernel
theorem d_Model_one_130 : decode b_Model_one 130 = .ok (.goto 4, 3) := by decide +kernel
theorem d_Model_one_133 : decode b_Model_one 133 = .ok (.iconst 0, 1) := by decide +kernel
theorem d_Model_one_134 : decode b_Model_one 134 = .ok (.bastore, 1) := by decide +kernel
theorem d_Model_one_135 : decode b_Model_one 135 = .ok (.iinc 7 (-1), 3) := by decide +kernel
theorem d_Model_one_138 : decode b_Model_one 138 = .ok (.goto (-129), 3) := by decide +kernel
theorem d_Model_one_141 : decode b_Model_one 141 = .ok (.aload_n 0, 1) := by decide +kernel
theorem d_Model_one_142 : decode b_Model_one 142 = .ok (.getfield 52, 3) := by decide +kernel
theorem d_Model_one_145 : decode b_Model_one 145 = .ok (.iconst 0, 1) := by decide +kernel
theorem d_Model_one_146 : decode b_Model_one 146 = .ok (.iconst 0, 1) := by decide +kernel
theorem d_Model_one_147 : decode b_Model_one 147 = .ok (.bastore, 1) := by decide +kernel
theorem d_Model_one_148 : decode b_Model_one 148 = .ok (.return_, 1) := by decide +kernel
theorem d_Model_go_0 : decode b_Model_go 0 = .ok (.iload_n 2, 1) := by decide +kernel
theorem d_Model_go_1 : decode b_Model_go 1 = .ok (.istore 6, 2) := by decide +kernel
theorem d_Model_go_3 : decode b_Model_go 3 = .ok (.iload 6, 2) := by decide +kernel
theorem d_Model_go_5 : decode b_Model_go 5 = .ok (.iload_n 3, 1) := by decide +kernel
theorem d_Model_go_6 : decode b_Model_go 6 = .ok (.if_icmp .ge 174, 3) := by decide +kernel
theorem d_Model_go_9 : decode b_Model_go 9 = .ok (.aload_n 1, 1) := by decide +kernel
theorem d_Model_go_10 : decode b_Model_go 10 = .ok (.iload 6, 2) := by decide +kernel
theorem d_Model_go_12 : decode b_Model_go 12 = .ok (.baload, 1) := by decide +kernel
theorem d_Model_go_13 : decode b_Model_go 13 = .ok (.istore 7, 2) := by decide +kernel
theorem d_Model_go_15 : decode b_Model_go 15 = .ok (.iload 7, 2) := by decide +kernel
theorem d_Model_go_17 : decode b_Model_go 17 = .ok (.bipush 42, 2) := by decide +kernel
theorem d_Model_go_19 : decode b_Model_go 19 = .ok (.if_icmp .ne 59, 3) := by decide +kernel
theorem d_Model_go_22 : decode b_Model_go 22 = .ok (.iconst 1, 1) := by decide +kernel
theorem d_Model_go_23 : decode b_Model_go 23 = .ok (.istore 8, 2) := by decide +kernel
theorem d_Model_go_25 : decode b_Model_go 25 = .ok (.iload 8, 2) := by decide +kernel
theorem d_Model_go_27 : decode b_Model_go 27 = .ok (.iload 5, 2) := by decide +kernel
theorem d_Model_go_29 : decode b_Model_go 29 = .ok (.if_icmp .gt 43, 3) := by decide +kernel
theorem d_Model_go_32 : decode b_Model_go 32 = .ok (.aload_n 0, 1) := by decide +kernel
theorem d_Model_go_33 : decode b_Model_go 33 = .ok (.getfield 52, 3) := by decide +kernel
theorem d_Model_go_36 : decode b_Model_go 36 = .ok (.iload 8, 2) := by decide +kernel
theorem d_Model_go_38 : decode b_Model_go 38 = .ok (.aload_n 0, 1) := by decide +kernel
theorem d_Model_go_39 : decode b_Model_go 39 = .ok (.getfield 52, 3) := by decide +kernel
theorem d_Model_go_42 : decode b_Model_go 42 = .ok (.iload 8, 2) := by decide +kernel
theorem d_Model_go_44 : decode b_Model_go 44 = .ok (.baload, 1) := by decide +kernel
theorem d_Model_go_45 : decode b_Model_go 45 = .ok (.ifCond .ne 15, 3) := by decide +kernel
theorem d_Model_go_48 : decode b_Model_go 48 = .ok (.aload_n 0, 1) := by decide +kernel
theorem d_Model_go_49 : decode b_Model_go 49 = .ok (.getfield 52, 3) := by decide +kernel
theorem d_Model_go_52 : decode b_Model_go 52 = .ok (.iload 8, 2) := by decide +kernel
theorem d_Model_go_54 : decode b_Model_go 54 = .ok (.iconst 1, 1) := by decide +kernel
theorem d_Model_go_55 : decode b_Model_go 55 = .ok (.isub, 1) := by decide +kernel
theorem d_Model_go_56 : decode b_Model_go 56 = .ok (.baload, 1) := by decide +kernel
theorem d_Model_go_57 : decode b_Model_go 57 = .ok (.ifCond .eq 7, 3) := by decide +kernel
theorem d_Model_go_60 : decode b_Model_go 60 = .ok (.iconst 1, 1) := by decide +kernel
theorem d_Model_go_61 : decode b_Model_go 61 = .ok (.goto 4, 3) := by decide +kernel
theorem d_Model_go_64 : decode b_Model_go 64 = .ok (.iconst 0, 1) := by decide +kernel
theorem d_Model_go_65 : decode b_Model_go 65 = .ok (.bastore, 1) := by decide +kernel
theorem d_Model_go_66 : decode b_Model_go 66 = .ok (.iinc 8 1, 3) := by decide +kernel
theorem d_Model_go_69 : decode b_Model_go 69 = .ok (.goto (-44), 3) := by decide +kernel
theorem d_Model_go_72 : decode b_Model_go 72 = .ok (.iinc 6 1, 3) := by decide +kernel
theorem d_Model_go_75 : decode b_Model_go 75 = .ok (.goto 102, 3) := by decide +kernel
theorem d_Model_go_78 : decode b_Model_go 78 = .ok (.iload 7, 2) := by decide +kernel
theorem d_Model_go_80 : decode b_Model_go 80 = .ok (.bipush 91, 2) := by decide +kernel
theorem d_Model_go_82 : decode b_Model_go 82 = .ok (.if_icmp .ne 15, 3) := by decide +kernel
theorem d_Model_go_85 : decode b_Model_go 85 = .ok (.aload_n 1, 1) := by decide +kernel
theorem d_Model_go_86 : decode b_Model_go 86 = .ok (.iload 6, 2) := by decide +kernel
theorem d_Model_go_88 : decode b_Model_go 88 = .ok (.iconst 1, 1) := by decide +kernel
theorem d_Model_go_89 : decode b_Model_go 89 = .ok (.iadd, 1) := by decide +kernel
theorem d_Model_go_90 : decode b_Model_go 90 = .ok (.iload_n 3, 1) := by decide +kernel
theorem d_Model_go_91 : decode b_Model_go 91 = .ok (.invokestatic 79, 3) := by decide +kernel
theorem d_Model_go_94 : decode b_Model_go 94 = .ok (.goto 4, 3) := by decide +kernel
theorem d_Model_go_97 : decode b_Model_go 97 = .ok (.iload_n 3, 1) := by decide +kernel
theorem d_Model_go_98 : decode b_Model_go 98 = .ok (.istore 8, 2) := by decide +kernel
theorem d_Model_go_100 : decode b_Model_go 100 = .ok (.iload 7, 2) := by decide +kernel
theorem d_Model_go_102 : decode b_Model_go 102 = .ok (.bipush 91, 2) := by decide +kernel
theorem d_Model_go_104 : decode b_Model_go 104 = .ok (.if_icmp .ne 8, 3) := by decide +kernel
theorem d_Model_go_107 : decode b_Model_go 107 = .ok (.iload 8, 2) := by decide +kernel
theorem d_Model_go_109 : decode b_Model_go 109 = .ok (.goto 29, 3) := by decide +kernel
theorem d_Model_go_112 : decode b_Model_go 112 = .ok (.iload 7, 2) := by decide +kernel
theorem d_Model_go_114 : decode b_Model_go 114 = .ok (.bipush 92, 2) := by decide +kernel
theorem d_Model_go_116 : decode b_Model_go 116 = .ok (.if_icmp .ne 18, 3) := by decide +kernel
theorem d_Model_go_119 : decode b_Model_go 119 = .ok (.iload 6, 2) := by decide +kernel
theorem d_Model_go_121 : decode b_Model_go 121 = .ok (.iconst 1, 1) := by decide +kernel
theorem d_Model_go_122 : decode b_Model_go 122 = .ok (.iadd, 1) := by decide +kernel
theorem d_Model_go_123 : decode b_Model_go 123 = .ok (.iload_n 3, 1) := by decide +kernel
theorem d_Model_go_124 : decode b_Model_go 124 = .ok (.if_icmp .ge 10, 3) := by decide +kernel
theorem d_Model_go_127 : decode b_Model_go 127 = .ok (.iload 6, 2) := by decide +kernel
theorem d_Model_go_129 : decode b_Model_go 129 = .ok (.iconst 2, 1) := by decide +kernel
theorem d_Model_go_130 : decode b_Model_go 130 = .ok (.iadd, 1) := by decide +kernel
theorem d_Model_go_131 : decode b_Model_go 131 = .ok (.goto 7, 3) := by decide +kernel
theorem d_Model_go_134 : decode b_Model_go 134 = .ok (.iload 6, 2) := by decide +kernel
theorem d_Model_go_136 : decode b_Model_go 136 = .ok (.iconst 1, 1) := by decide +kernel
theorem d_Model_go_137 : decode b_Model_go 137 = .ok (.iadd, 1) := by decide +kernel
theorem d_Model_go_138 : decode b_Model_go 138 = .ok (.istore 9, 2) := by decide +kernel
theorem d_Model_go_140 : decode b_Model_go 140 = .ok (.aload_n 0, 1) := by decide +kernel
theorem d_Model_go_141 : decode b_Model_go 141 = .ok (.aload_n 1, 1) := by decide +kernel
theorem d_Model_go_142 : decode b_Model_go 142 = .ok (.iload 6, 2) := by decide +kernel
theorem d_Model_go_144 : decode b_Model_go 144 = .ok (.iload 9, 2) := by decide +kernel
theorem d_Model_go_146 : decode b_Model_go 146 = .ok (.aload 4, 2) := by decide +kernel
theorem d_Model_go_148 : decode b_Model_go 148 = .ok (.iload 5, 2) := by decide +kernel
theorem d_Model_go_150 : decode b_Model_go 150 = .ok (.invokevirtual 82, 3) := by decide +kernel
theorem d_Model_go_153 : decode b_Model_go 153 = .ok (.iload 7, 2) := by decide +kernel
theorem d_Model_go_155 : decode b_Model_go 155 = .ok (.bipush 91, 2) := by decide +kernel
theorem d_Model_go_157 : decode b_Model_go 157 = .ok (.if_icmp .ne 16, 3) := by decide +kernel
theorem d_Model_go_160 : decode b_Model_go 160 = .ok (.iload 8, 2) := by decide +kernel
theorem d_Model_go_162 : decode b_Model_go 162 = .ok (.iload_n 3, 1) := by decide +kernel
theorem d_Model_go_163 : decode b_Model_go 163 = .ok (.if_icmp .ge 10, 3) := by decide +kernel
theorem d_Model_go_166 : decode b_Model_go 166 = .ok (.iload 8, 2) := by decide +kernel
theorem d_Model_go_168 : decode b_Model_go 168 = .ok (.iconst 1, 1) := by decide +kernel
theorem d_Model_go_169 : decode b_Model_go 169 = .ok (.iadd, 1) := by decide +kernel
theorem d_Model_go_170 : decode b_Model_go 170 = .ok (.goto 5, 3) := by decide +kernel
theorem d_Model_go_173 : decode b_Model_go 173 = .ok (.iload 9, 2) := by decide +kernel
theorem d_Model_go_175 : decode b_Model_go 175 = .ok (.istore 6, 2) := by decide +kernel
theorem d_Model_go_177 : decode b_Model_go 177 = .ok (.goto (-174), 3) := by decide +kernel
theorem d_Model_go_180 : decode b_Model_go 180 = .ok (.return_, 1) := by decide +kernel
theorem d_Model_fitsLine_0 : decode b_Model_fitsLine 0 = .ok (.iconst 0, 1) := by decide +kernel
theorem d_Model_fitsLine_1 : decode b_Model_fitsLine 1 = .ok (.istore_n 2, 1) := by decide +kernel
theorem d_Model_fitsLine_2 : decode b_Model_fitsLine 2 = .ok (.iload_n 2, 1) := by decide +kernel
theorem d_Model_fitsLine_3 : decode b_Model_fitsLine 3 = .ok (.aload_n 0, 1) := by decide +kernel
theorem d_Model_fitsLine_4 : decode b_Model_fitsLine 4 = .ok (.getfield 86, 3) := by decide +kernel
theorem d_Model_fitsLine_7 : decode b_Model_fitsLine 7 = .ok (.if_icmp .gt 24, 3) := by decide +kernel
theorem d_Model_fitsLine_10 : decode b_Model_fitsLine 10 = .ok (.aload_n 0, 1) := by decide +kernel
theorem d_Model_fitsLine_11 : decode b_Model_fitsLine 11 = .ok (.getfield 52, 3) := by decide +kernel
theorem d_Model_fitsLine_14 : decode b_Model_fitsLine 14 = .ok (.iload_n 2, 1) := by decide +kernel
theorem d_Model_fitsLine_15 : decode b_Model_fitsLine 15 = .ok (.iload_n 2, 1) := by decide +kernel
theorem d_Model_fitsLine_16 : decode b_Model_fitsLine 16 = .ok (.ifCond .ne 7, 3) := by decide +kernel
theorem d_Model_fitsLine_19 : decode b_Model_fitsLine 19 = .ok (.iconst 1, 1) := by decide +kernel
theorem d_Model_fitsLine_20 : decode b_Model_fitsLine 20 = .ok (.goto 4, 3) := by decide +kernel
theorem d_Model_fitsLine_23 : decode b_Model_fitsLine 23 = .ok (.iconst 0, 1) := by decide +kernel
theorem d_Model_fitsLine_24 : decode b_Model_fitsLine 24 = .ok (.bastore, 1) := by decide +kernel
theorem d_Model_fitsLine_25 : decode b_Model_fitsLine 25 = .ok (.iinc 2 1, 3) := by decide +kernel
theorem d_Model_fitsLine_28 : decode b_Model_fitsLine 28 = .ok (.goto (-26), 3) := by decide +kernel
theorem d_Model_fitsLine_31 : decode b_Model_fitsLine 31 = .ok (.aload_n 0, 1) := by decide +kernel
theorem d_Model_fitsLine_32 : decode b_Model_fitsLine 32 = .ok (.aload_n 0, 1) := by decide +kernel
theorem d_Model_fitsLine_33 : decode b_Model_fitsLine 33 = .ok (.getfield 29, 3) := by decide +kernel
theorem d_Model_fitsLine_36 : decode b_Model_fitsLine 36 = .ok (.sipush 200, 3) := by decide +kernel
theorem d_Model_fitsLine_39 : decode b_Model_fitsLine 39 = .ok (.iload_n 1, 1) := by decide +kernel
theorem d_Model_fitsLine_40 : decode b_Model_fitsLine 40 = .ok (.imul, 1) := by decide +kernel
theorem d_Model_fitsLine_41 : decode b_Model_fitsLine 41 = .ok (.sipush 200, 3) := by decide +kernel
theorem d_Model_fitsLine_44 : decode b_Model_fitsLine 44 = .ok (.iload_n 1, 1) := by decide +kernel
theorem d_Model_fitsLine_45 : decode b_Model_fitsLine 45 = .ok (.imul, 1) := by decide +kernel
theorem d_Model_fitsLine_46 : decode b_Model_fitsLine 46 = .ok (.aload_n 0, 1) := by decide +kernel
theorem d_Model_fitsLine_47 : decode b_Model_fitsLine 47 = .ok (.getfield 23, 3) := by decide +kernel
theorem d_Model_fitsLine_50 : decode b_Model_fitsLine 50 = .ok (.iload_n 1, 1) := by decide +kernel
theorem d_Model_fitsLine_51 : decode b_Model_fitsLine 51 = .ok (.iaload, 1) := by decide +kernel
theorem d_Model_fitsLine_52 : decode b_Model_fitsLine 52 = .ok (.iadd, 1) := by decide +kernel
theorem d_Model_fitsLine_53 : decode b_Model_fitsLine 53 = .ok (.aload_n 0, 1) := by decide +kernel
theorem d_Model_fitsLine_54 : decode b_Model_fitsLine 54 = .ok (.getfield 35, 3) := by decide +kernel
theorem d_Model_fitsLine_57 : decode b_Model_fitsLine 57 = .ok (.aload_n 0, 1) := by decide +kernel
theorem d_Model_fitsLine_58 : decode b_Model_fitsLine 58 = .ok (.getfield 86, 3) := by decide +kernel
theorem d_Model_fitsLine_61 : decode b_Model_fitsLine 61 = .ok (.invokevirtual 89, 3) := by decide +kernel
theorem d_Model_fitsLine_64 : decode b_Model_fitsLine 64 = .ok (.aload_n 0, 1) := by decide +kernel
theorem d_Model_fitsLine_65 : decode b_Model_fitsLine 65 = .ok (.getfield 52, 3) := by decide +kernel
theorem d_Model_fitsLine_68 : decode b_Model_fitsLine 68 = .ok (.aload_n 0, 1) := by decide +kernel
theorem d_Model_fitsLine_69 : decode b_Model_fitsLine 69 = .ok (.getfield 86, 3) := by decide +kernel
theorem d_Model_fitsLine_72 : decode b_Model_fitsLine 72 = .ok (.baload, 1) := by decide +kernel
theorem d_Model_fitsLine_73 : decode b_Model_fitsLine 73 = .ok (.ireturn, 1) := by decide +kernel
theorem d_Model_rule_0 : decode b_Model_rule 0 = .ok (.aload_n 0, 1) := by decide +kernel
theorem d_Model_rule_1 : decode b_Model_rule 1 = .ok (.getfield 56, 3) := by decide +kernel
theorem d_Model_rule_4 : decode b_Model_rule 4 = .ok (.istore 4, 2) := by decide +kernel
theorem d_Model_rule_6 : decode b_Model_rule 6 = .ok (.aload_n 0, 1) := by decide +kernel
theorem d_Model_rule_7 : decode b_Model_rule 7 = .ok (.iconst 0, 1) := by decide +kernel
theorem d_Model_rule_8 : decode b_Model_rule 8 = .ok (.putfield 56, 3) := by decide +kernel
theorem d_Model_rule_11 : decode b_Model_rule 11 = .ok (.iconst 0, 1) := by decide +kernel
theorem d_Model_rule_12 : decode b_Model_rule 12 = .ok (.istore 5, 2) := by decide +kernel
theorem d_Model_rule_14 : decode b_Model_rule 14 = .ok (.iload 5, 2) := by decide +kernel
theorem d_Model_rule_16 : decode b_Model_rule 16 = .ok (.iload 4, 2) := by decide +kernel
theorem d_Model_rule_18 : decode b_Model_rule 18 = .ok (.if_icmp .ge 19, 3) := by decide +kernel
theorem d_Model_rule_21 : decode b_Model_rule 21 = .ok (.aload_n 0, 1) := by decide +kernel
theorem d_Model_rule_22 : decode b_Model_rule 22 = .ok (.getfield 7, 3) := by decide +kernel
theorem d_Model_rule_25 : decode b_Model_rule 25 = .ok (.iload 5, 2) := by decide +kernel
theorem d_Model_rule_27 : decode b_Model_rule 27 = .ok (.baload, 1) := by decide +kernel
theorem d_Model_rule_28 : decode b_Model_rule 28 = .ok (.ifCond .eq 9, 3) := by decide +kernel
theorem d_Model_rule_31 : decode b_Model_rule 31 = .ok (.iinc 5 1, 3) := by decide +kernel
theorem d_Model_rule_34 : decode b_Model_rule 34 = .ok (.goto (-20), 3) := by decide +kernel
theorem d_Model_rule_37 : decode b_Model_rule 37 = .ok (.iload 4, 2) := by decide +kernel
theorem d_Model_rule_39 : decode b_Model_rule 39 = .ok (.iload 5, 2) := by decide +kernel
theorem d_Model_rule_41 : decode b_Model_rule 41 = .ok (.isub, 1) := by decide +kernel
theorem d_Model_rule_42 : decode b_Model_rule 42 = .ok (.iconst 1, 1) := by decide +kernel
theorem d_Model_rule_43 : decode b_Model_rule 43 = .ok (.isub, 1) := by decide +kernel
theorem d_Model_rule_44 : decode b_Model_rule 44 = .ok (.istore 6, 2) := by decide +kernel
theorem d_Model_rule_46 : decode b_Model_rule 46 = .ok (.iload 5, 2) := by decide +kernel
theorem d_Model_rule_48 : decode b_Model_rule 48 = .ok (.iload 4, 2) := by decide +kernel
theorem d_Model_rule_50 : decode b_Model_rule 50 = .ok (.if_icmp .eq 59, 3) := by decide +kernel
theorem d_Model_rule_53 : decode b_Model_rule 53 = .ok (.iload 5, 2) := by decide +kernel
theorem d_Model_rule_55 : decode b_Model_rule 55 = .ok (.sipush 200, 3) := by decide +kernel
theorem d_Model_rule_58 : decode b_Model_rule 58 = .ok (.if_icmp .gt 51, 3) := by decide +kernel
theorem d_Model_rule_61 : decode b_Model_rule 61 = .ok (.iload 6, 2) := by decide +kernel
theorem d_Model_rule_63 : decode b_Model_rule 63 = .ok (.sipush 200, 3) := by decide +kernel
theorem d_Model_rule_66 : decode b_Model_rule 66 = .ok (.if_icmp .gt 43, 3) := by decide +kernel
theorem d_Model_rule_69 : decode b_Model_rule 69 = .ok (.iload_n 1, 1) := by decide +kernel
theorem d_Model_rule_70 : decode b_Model_rule 70 = .ok (.iconst 0, 1) := by decide +kernel
theorem d_Model_rule_71 : decode b_Model_rule 71 = .ok (.bipush 31, 2) := by decide +kernel
theorem d_Model_rule_73 : decode b_Model_rule 73 = .ok (.invokestatic 64, 3) := by decide +kernel
theorem d_Model_rule_76 : decode b_Model_rule 76 = .ok (.ifCond .eq 33, 3) := by decide +kernel
theorem d_Model_rule_79 : decode b_Model_rule 79 = .ok (.iload_n 2, 1) := by decide +kernel
theorem d_Model_rule_80 : decode b_Model_rule 80 = .ok (.iconst 0, 1) := by decide +kernel
theorem d_Model_rule_81 : decode b_Model_rule 81 = .ok (.sipush 1000, 3) := by decide +kernel
theorem d_Model_rule_84 : decode b_Model_rule 84 = .ok (.invokestatic 64, 3) := by decide +kernel
theorem d_Model_rule_87 : decode b_Model_rule 87 = .ok (.ifCond .eq 22, 3) := by decide +kernel
theorem d_Model_rule_90 : decode b_Model_rule 90 = .ok (.iload_n 3, 1) := by decide +kernel
theorem d_Model_rule_91 : decode b_Model_rule 91 = .ok (.iconst 0, 1) := by decide +kernel
theorem d_Model_rule_92 : decode b_Model_rule 92 = .ok (.bipush 31, 2) := by decide +kernel
theorem d_Model_rule_94 : decode b_Model_rule 94 = .ok (.invokestatic 64, 3) := by decide +kernel
theorem d_Model_rule_97 : decode b_Model_rule 97 = .ok (.ifCond .eq 12, 3) := by decide +kernel
theorem d_Model_rule_100 : decode b_Model_rule 100 = .ok (.aload_n 0, 1) := by decide +kernel
theorem d_Model_rule_101 : decode b_Model_rule 101 = .ok (.getfield 92, 3) := by decide +kernel
theorem d_Model_rule_104 : decode b_Model_rule 104 = .ok (.bipush 64, 2) := by decide +kernel
theorem d_Model_rule_106 : decode b_Model_rule 106 = .ok (.if_icmp .ne 5, 3) := by decide +kernel
theorem d_Model_rule_109 : decode b_Model_rule 109 = .ok (.iconst (-1), 1) := by decide +kernel
theorem d_Model_rule_110 : decode b_Model_rule 110 = .ok (.ireturn, 1) := by decide +kernel
theorem d_Model_rule_111 : decode b_Model_rule 111 = .ok (.aload_n 0, 1) := by decide +kernel
theorem d_Model_rule_112 : decode b_Model_rule 112 = .ok (.getfield 13, 3) := by decide +kernel
theorem d_Model_rule_115 : decode b_Model_rule 115 = .ok (.aload_n 0, 1) := by decide +kernel
theorem d_Model_rule_116 : decode b_Model_rule 116 = .ok (.getfield 92, 3) := by decide +kernel
theorem d_Model_rule_119 : decode b_Model_rule 119 = .ok (.iload_n 1, 1) := by decide +kernel
theorem d_Model_rule_120 : decode b_Model_rule 120 = .ok (.iastore, 1) := by decide +kernel
theorem d_Model_rule_121 : decode b_Model_rule 121 = .ok (.aload_n 0, 1) := by decide +kernel
theorem d_Model_rule_122 : decode b_Model_rule 122 = .ok (.getfield 17, 3) := by decide +kernel
theorem d_Model_rule_125 : decode b_Model_rule 125 = .ok (.aload_n 0, 1) := by decide +kernel
theorem d_Model_rule_126 : decode b_Model_rule 126 = .ok (.getfield 92, 3) := by decide +kernel
theorem d_Model_rule_129 : decode b_Model_rule 129 = .ok (.iload_n 2, 1) := by decide +kernel
theorem d_Model_rule_130 : decode b_Model_rule 130 = .ok (.iastore, 1) := by decide +kernel
theorem d_Model_rule_131 : decode b_Model_rule 131 = .ok (.aload_n 0, 1) := by decide +kernel
theorem d_Model_rule_132 : decode b_Model_rule 132 = .ok (.getfield 20, 3) := by decide +kernel
theorem d_Model_rule_135 : decode b_Model_rule 135 = .ok (.aload_n 0, 1) := by decide +kernel
theorem d_Model_rule_136 : decode b_Model_rule 136 = .ok (.getfield 92, 3) := by decide +kernel
theorem d_Model_rule_139 : decode b_Model_rule 139 = .ok (.iload_n 3, 1) := by decide +kernel
theorem d_Model_rule_140 : decode b_Model_rule 140 = .ok (.iastore, 1) := by decide +kernel
theorem d_Model_rule_141 : decode b_Model_rule 141 = .ok (.aload_n 0, 1) := by decide +kernel
theorem d_Model_rule_142 : decode b_Model_rule 142 = .ok (.getfield 23, 3) := by decide +kernel
theorem d_Model_rule_145 : decode b_Model_rule 145 = .ok (.aload_n 0, 1) := by decide +kernel
theorem d_Model_rule_146 : decode b_Model_rule 146 = .ok (.getfield 92, 3) := by decide +kernel
theorem d_Model_rule_149 : decode b_Model_rule 149 = .ok (.iload 5, 2) := by decide +kernel
theorem d_Model_rule_151 : decode b_Model_rule 151 = .ok (.iastore, 1) := by decide +kernel
theorem d_Model_rule_152 : decode b_Model_rule 152 = .ok (.aload_n 0, 1) := by decide +kernel
theorem d_Model_rule_153 : decode b_Model_rule 153 = .ok (.getfield 26, 3) := by decide +kernel
theorem d_Model_rule_156 : decode b_Model_rule 156 = .ok (.aload_n 0, 1) := by decide +kernel
theorem d_Model_rule_157 : decode b_Model_rule 157 = .ok (.getfield 92, 3) := by decide +kernel
theorem d_Model_rule_160 : decode b_Model_rule 160 = .ok (.iload 6, 2) := by decide +kernel
theorem d_Model_rule_162 : decode b_Model_rule 162 = .ok (.iastore, 1) := by decide +kernel
theorem d_Model_rule_163 : decode b_Model_rule 163 = .ok (.iconst 0, 1) := by decide +kernel
theorem d_Model_rule_164 : decode b_Model_rule 164 = .ok (.istore 7, 2) := by decide +kernel
theorem d_Model_rule_166 : decode b_Model_rule 166 = .ok (.iload 7, 2) := by decide +kernel
theorem d_Model_rule_168 : decode b_Model_rule 168 = .ok (.iload 5, 2) := by decide +kernel
theorem d_Model_rule_170 : decode b_Model_rule 170 = .ok (.if_icmp .ge 32, 3) := by decide +kernel
theorem d_Model_rule_173 : decode b_Model_rule 173 = .ok (.aload_n 0, 1) := by decide +kernel
theorem d_Model_rule_174 : decode b_Model_rule 174 = .ok (.getfield 29, 3) := by decide +kernel
theorem d_Model_rule_177 : decode b_Model_rule 177 = .ok (.sipush 200, 3) := by decide +kernel
theorem d_Model_rule_180 : decode b_Model_rule 180 = .ok (.aload_n 0, 1) := by decide +kernel
theorem d_Model_rule_181 : decode b_Model_rule 181 = .ok (.getfield 92, 3) := by decide +kernel
theorem d_Model_rule_184 : decode b_Model_rule 184 = .ok (.imul, 1) := by decide +kernel
theorem d_Model_rule_185 : decode b_Model_rule 185 = .ok (.iload 7, 2) := by decide +kernel
theorem d_Model_rule_187 : decode b_Model_rule 187 = .ok (.iadd, 1) := by decide +kernel
theorem d_Model_rule_188 : decode b_Model_rule 188 = .ok (.aload_n 0, 1) := by decide +kernel
theorem d_Model_rule_189 : decode b_Model_rule 189 = .ok (.getfield 7, 3) := by decide +kernel
theorem d_Model_rule_192 : decode b_Model_rule 192 = .ok (.iload 7, 2) := by decide +kernel
theorem d_Model_rule_194 : decode b_Model_rule 194 = .ok (.baload, 1) := by decide +kernel
theorem d_Model_rule_195 : decode b_Model_rule 195 = .ok (.bastore, 1) := by decide +kernel
end
section
theorem d_Model_rule_196 : decode b_Model_rule 196 = .ok (.iinc 7 1, 3) := by decide +kernel
theorem d_Model_rule_199 : decode b_Model_rule 199 = .ok (.goto (-33), 3) := by decide +kernel
theorem d_Model_rule_202 : decode b_Model_rule 202 = .ok (.iconst 0, 1) := by decide +kernel
theorem d_Model_rule_203 : decode b_Model_rule 203 = .ok (.istore 7, 2) := by decide +kernel
theorem d_Model_rule_205 : decode b_Model_rule 205 = .ok (.iload 7, 2) := by decide +kernel
theorem d_Model_rule_207 : decode b_Model_rule 207 = .ok (.iload 6, 2) := by decide +kernel
theorem d_Model_rule_209 : decode b_Model_rule 209 = .ok (.if_icmp .ge 37, 3) := by decide +kernel
theorem d_Model_rule_212 : decode b_Model_rule 212 = .ok (.aload_n 0, 1) := by decide +kernel
theorem d_Model_rule_213 : decode b_Model_rule 213 = .ok (.getfield 32, 3) := by decide +kernel
theorem d_Model_rule_216 : decode b_Model_rule 216 = .ok (.sipush 200, 3) := by decide +kernel
theorem d_Model_rule_219 : decode b_Model_rule 219 = .ok (.aload_n 0, 1) := by decide +kernel
theorem d_Model_rule_220 : decode b_Model_rule 220 = .ok (.getfield 92, 3) := by decide +kernel
theorem d_Model_rule_223 : decode b_Model_rule 223 = .ok (.imul, 1) := by decide +kernel
theorem d_Model_rule_224 : decode b_Model_rule 224 = .ok (.iload 7, 2) := by decide +kernel
theorem d_Model_rule_226 : decode b_Model_rule 226 = .ok (.iadd, 1) := by decide +kernel
theorem d_Model_rule_227 : decode b_Model_rule 227 = .ok (.aload_n 0, 1) := by decide +kernel
theorem d_Model_rule_228 : decode b_Model_rule 228 = .ok (.getfield 7, 3) := by decide +kernel
theorem d_Model_rule_231 : decode b_Model_rule 231 = .ok (.iload 5, 2) := by decide +kernel
theorem d_Model_rule_233 : decode b_Model_rule 233 = .ok (.iconst 1, 1) := by decide +kernel
theorem d_Model_rule_234 : decode b_Model_rule 234 = .ok (.iadd, 1) := by decide +kernel
theorem d_Model_rule_235 : decode b_Model_rule 235 = .ok (.iload 7, 2) := by decide +kernel
theorem d_Model_rule_237 : decode b_Model_rule 237 = .ok (.iadd, 1) := by decide +kernel
theorem d_Model_rule_238 : decode b_Model_rule 238 = .ok (.baload, 1) := by decide +kernel
theorem d_Model_rule_239 : decode b_Model_rule 239 = .ok (.bastore, 1) := by decide +kernel
theorem d_Model_rule_240 : decode b_Model_rule 240 = .ok (.iinc 7 1, 3) := by decide +kernel
theorem d_Model_rule_243 : decode b_Model_rule 243 = .ok (.goto (-38), 3) := by decide +kernel
theorem d_Model_rule_246 : decode b_Model_rule 246 = .ok (.aload_n 0, 1) := by decide +kernel
theorem d_Model_rule_247 : decode b_Model_rule 247 = .ok (.dup, 1) := by decide +kernel
theorem d_Model_rule_248 : decode b_Model_rule 248 = .ok (.getfield 92, 3) := by decide +kernel
theorem d_Model_rule_251 : decode b_Model_rule 251 = .ok (.iconst 1, 1) := by decide +kernel
theorem d_Model_rule_252 : decode b_Model_rule 252 = .ok (.iadd, 1) := by decide +kernel
theorem d_Model_rule_253 : decode b_Model_rule 253 = .ok (.putfield 92, 3) := by decide +kernel
theorem d_Model_rule_256 : decode b_Model_rule 256 = .ok (.aload_n 0, 1) := by decide +kernel
theorem d_Model_rule_257 : decode b_Model_rule 257 = .ok (.getfield 92, 3) := by decide +kernel
theorem d_Model_rule_260 : decode b_Model_rule 260 = .ok (.iconst 1, 1) := by decide +kernel
theorem d_Model_rule_261 : decode b_Model_rule 261 = .ok (.isub, 1) := by decide +kernel
theorem d_Model_rule_262 : decode b_Model_rule 262 = .ok (.ireturn, 1) := by decide +kernel
theorem d_Model_gets_0 : decode b_Model_gets 0 = .ok (.iconst 0, 1) := by decide +kernel
theorem d_Model_gets_1 : decode b_Model_gets 1 = .ok (.istore_n 1, 1) := by decide +kernel
theorem d_Model_gets_2 : decode b_Model_gets 2 = .ok (.iload_n 1, 1) := by decide +kernel
theorem d_Model_gets_3 : decode b_Model_gets 3 = .ok (.aload_n 0, 1) := by decide +kernel
theorem d_Model_gets_4 : decode b_Model_gets 4 = .ok (.getfield 92, 3) := by decide +kernel
theorem d_Model_gets_7 : decode b_Model_gets 7 = .ok (.if_icmp .ge 30, 3) := by decide +kernel
theorem d_Model_gets_10 : decode b_Model_gets 10 = .ok (.aload_n 0, 1) := by decide +kernel
theorem d_Model_gets_11 : decode b_Model_gets 11 = .ok (.getfield 13, 3) := by decide +kernel
theorem d_Model_gets_14 : decode b_Model_gets 14 = .ok (.iload_n 1, 1) := by decide +kernel
theorem d_Model_gets_15 : decode b_Model_gets 15 = .ok (.iaload, 1) := by decide +kernel
theorem d_Model_gets_16 : decode b_Model_gets 16 = .ok (.aload_n 0, 1) := by decide +kernel
theorem d_Model_gets_17 : decode b_Model_gets 17 = .ok (.getfield 95, 3) := by decide +kernel
theorem d_Model_gets_20 : decode b_Model_gets 20 = .ok (.if_icmp .ne 11, 3) := by decide +kernel
theorem d_Model_gets_23 : decode b_Model_gets 23 = .ok (.aload_n 0, 1) := by decide +kernel
theorem d_Model_gets_24 : decode b_Model_gets 24 = .ok (.iload_n 1, 1) := by decide +kernel
theorem d_Model_gets_25 : decode b_Model_gets 25 = .ok (.invokevirtual 98, 3) := by decide +kernel
theorem d_Model_gets_28 : decode b_Model_gets 28 = .ok (.ifCond .ne 9, 3) := by decide +kernel
theorem d_Model_gets_31 : decode b_Model_gets 31 = .ok (.iinc 1 1, 3) := by decide +kernel
theorem d_Model_gets_34 : decode b_Model_gets 34 = .ok (.goto (-32), 3) := by decide +kernel
theorem d_Model_gets_37 : decode b_Model_gets 37 = .ok (.aload_n 0, 1) := by decide +kernel
theorem d_Model_gets_38 : decode b_Model_gets 38 = .ok (.iconst 0, 1) := by decide +kernel
theorem d_Model_gets_39 : decode b_Model_gets 39 = .ok (.putfield 86, 3) := by decide +kernel
theorem d_Model_gets_42 : decode b_Model_gets 42 = .ok (.iload_n 1, 1) := by decide +kernel
theorem d_Model_gets_43 : decode b_Model_gets 43 = .ok (.aload_n 0, 1) := by decide +kernel
theorem d_Model_gets_44 : decode b_Model_gets 44 = .ok (.getfield 92, 3) := by decide +kernel
theorem d_Model_gets_47 : decode b_Model_gets 47 = .ok (.if_icmp .ne 4, 3) := by decide +kernel
theorem d_Model_gets_50 : decode b_Model_gets 50 = .ok (.return_, 1) := by decide +kernel
theorem d_Model_gets_51 : decode b_Model_gets 51 = .ok (.aload_n 0, 1) := by decide +kernel
theorem d_Model_gets_52 : decode b_Model_gets 52 = .ok (.aload_n 0, 1) := by decide +kernel
theorem d_Model_gets_53 : decode b_Model_gets 53 = .ok (.getfield 20, 3) := by decide +kernel
theorem d_Model_gets_56 : decode b_Model_gets 56 = .ok (.iload_n 1, 1) := by decide +kernel
theorem d_Model_gets_57 : decode b_Model_gets 57 = .ok (.iaload, 1) := by decide +kernel
theorem d_Model_gets_58 : decode b_Model_gets 58 = .ok (.putfield 95, 3) := by decide +kernel
theorem d_Model_gets_61 : decode b_Model_gets 61 = .ok (.aload_n 0, 1) := by decide +kernel
theorem d_Model_gets_62 : decode b_Model_gets 62 = .ok (.getfield 102, 3) := by decide +kernel
theorem d_Model_gets_65 : decode b_Model_gets 65 = .ok (.bipush 64, 2) := by decide +kernel
theorem d_Model_gets_67 : decode b_Model_gets 67 = .ok (.if_icmp .ge 44, 3) := by decide +kernel
theorem d_Model_gets_70 : decode b_Model_gets 70 = .ok (.aload_n 0, 1) := by decide +kernel
theorem d_Model_gets_71 : decode b_Model_gets 71 = .ok (.getfield 38, 3) := by decide +kernel
theorem d_Model_gets_74 : decode b_Model_gets 74 = .ok (.aload_n 0, 1) := by decide +kernel
theorem d_Model_gets_75 : decode b_Model_gets 75 = .ok (.getfield 102, 3) := by decide +kernel
theorem d_Model_gets_78 : decode b_Model_gets 78 = .ok (.aload_n 0, 1) := by decide +kernel
theorem d_Model_gets_79 : decode b_Model_gets 79 = .ok (.getfield 105, 3) := by decide +kernel
theorem d_Model_gets_82 : decode b_Model_gets 82 = .ok (.aload_n 0, 1) := by decide +kernel
theorem d_Model_gets_83 : decode b_Model_gets 83 = .ok (.getfield 17, 3) := by decide +kernel
theorem d_Model_gets_86 : decode b_Model_gets 86 = .ok (.iload_n 1, 1) := by decide +kernel
theorem d_Model_gets_87 : decode b_Model_gets 87 = .ok (.iaload, 1) := by decide +kernel
theorem d_Model_gets_88 : decode b_Model_gets 88 = .ok (.i2l, 1) := by decide +kernel
theorem d_Model_gets_89 : decode b_Model_gets 89 = .ok (.ladd, 1) := by decide +kernel
theorem d_Model_gets_90 : decode b_Model_gets 90 = .ok (.lastore, 1) := by decide +kernel
theorem d_Model_gets_91 : decode b_Model_gets 91 = .ok (.aload_n 0, 1) := by decide +kernel
theorem d_Model_gets_92 : decode b_Model_gets 92 = .ok (.getfield 42, 3) := by decide +kernel
theorem d_Model_gets_95 : decode b_Model_gets 95 = .ok (.aload_n 0, 1) := by decide +kernel
theorem d_Model_gets_96 : decode b_Model_gets 96 = .ok (.getfield 102, 3) := by decide +kernel
theorem d_Model_gets_99 : decode b_Model_gets 99 = .ok (.iload_n 1, 1) := by decide +kernel
theorem d_Model_gets_100 : decode b_Model_gets 100 = .ok (.iastore, 1) := by decide +kernel
theorem d_Model_gets_101 : decode b_Model_gets 101 = .ok (.aload_n 0, 1) := by decide +kernel
theorem d_Model_gets_102 : decode b_Model_gets 102 = .ok (.dup, 1) := by decide +kernel
theorem d_Model_gets_103 : decode b_Model_gets 103 = .ok (.getfield 102, 3) := by decide +kernel
theorem d_Model_gets_106 : decode b_Model_gets 106 = .ok (.iconst 1, 1) := by decide +kernel
theorem d_Model_gets_107 : decode b_Model_gets 107 = .ok (.iadd, 1) := by decide +kernel
theorem d_Model_gets_108 : decode b_Model_gets 108 = .ok (.putfield 102, 3) := by decide +kernel
theorem d_Model_gets_111 : decode b_Model_gets 111 = .ok (.return_, 1) := by decide +kernel
theorem d_Model_spawn_0 : decode b_Model_spawn 0 = .ok (.aload_n 0, 1) := by decide +kernel
theorem d_Model_spawn_1 : decode b_Model_spawn 1 = .ok (.iconst 1, 1) := by decide +kernel
theorem d_Model_spawn_2 : decode b_Model_spawn 2 = .ok (.putfield 109, 3) := by decide +kernel
theorem d_Model_spawn_5 : decode b_Model_spawn 5 = .ok (.aload_n 0, 1) := by decide +kernel
theorem d_Model_spawn_6 : decode b_Model_spawn 6 = .ok (.iconst 0, 1) := by decide +kernel
theorem d_Model_spawn_7 : decode b_Model_spawn 7 = .ok (.putfield 95, 3) := by decide +kernel
theorem d_Model_spawn_10 : decode b_Model_spawn 10 = .ok (.aload_n 0, 1) := by decide +kernel
theorem d_Model_spawn_11 : decode b_Model_spawn 11 = .ok (.iconst 0, 1) := by decide +kernel
theorem d_Model_spawn_12 : decode b_Model_spawn 12 = .ok (.putfield 86, 3) := by decide +kernel
theorem d_Model_spawn_15 : decode b_Model_spawn 15 = .ok (.aload_n 0, 1) := by decide +kernel
theorem d_Model_spawn_16 : decode b_Model_spawn 16 = .ok (.iconst 0, 1) := by decide +kernel
theorem d_Model_spawn_17 : decode b_Model_spawn 17 = .ok (.putfield 102, 3) := by decide +kernel
theorem d_Model_spawn_20 : decode b_Model_spawn 20 = .ok (.aload_n 0, 1) := by decide +kernel
theorem d_Model_spawn_21 : decode b_Model_spawn 21 = .ok (.iconst 0, 1) := by decide +kernel
theorem d_Model_spawn_22 : decode b_Model_spawn 22 = .ok (.putfield 113, 3) := by decide +kernel
theorem d_Model_spawn_25 : decode b_Model_spawn 25 = .ok (.aload_n 0, 1) := by decide +kernel
theorem d_Model_spawn_26 : decode b_Model_spawn 26 = .ok (.invokevirtual 116, 3) := by decide +kernel
theorem d_Model_spawn_29 : decode b_Model_spawn 29 = .ok (.return_, 1) := by decide +kernel
theorem d_Model_tell_0 : decode b_Model_tell 0 = .ok (.iload_n 1, 1) := by decide +kernel
theorem d_Model_tell_1 : decode b_Model_tell 1 = .ok (.iconst 3, 1) := by decide +kernel
theorem d_Model_tell_2 : decode b_Model_tell 2 = .ok (.if_icmp .ne 10, 3) := by decide +kernel
theorem d_Model_tell_5 : decode b_Model_tell 5 = .ok (.iload 4, 2) := by decide +kernel
theorem d_Model_tell_7 : decode b_Model_tell 7 = .ok (.iconst 2, 1) := by decide +kernel
theorem d_Model_tell_8 : decode b_Model_tell 8 = .ok (.iadd, 1) := by decide +kernel
theorem d_Model_tell_9 : decode b_Model_tell 9 = .ok (.goto 7, 3) := by decide +kernel
theorem d_Model_tell_12 : decode b_Model_tell 12 = .ok (.iload 4, 2) := by decide +kernel
theorem d_Model_tell_14 : decode b_Model_tell 14 = .ok (.iconst 1, 1) := by decide +kernel
theorem d_Model_tell_15 : decode b_Model_tell 15 = .ok (.iadd, 1) := by decide +kernel
theorem d_Model_tell_16 : decode b_Model_tell 16 = .ok (.istore 5, 2) := by decide +kernel
theorem d_Model_tell_18 : decode b_Model_tell 18 = .ok (.aload_n 0, 1) := by decide +kernel
theorem d_Model_tell_19 : decode b_Model_tell 19 = .ok (.getfield 119, 3) := by decide +kernel
theorem d_Model_tell_22 : decode b_Model_tell 22 = .ok (.iload 5, 2) := by decide +kernel
theorem d_Model_tell_24 : decode b_Model_tell 24 = .ok (.iadd, 1) := by decide +kernel
theorem d_Model_tell_25 : decode b_Model_tell 25 = .ok (.ldc 48, 2) := by decide +kernel
theorem d_Model_tell_27 : decode b_Model_tell 27 = .ok (.if_icmp .le 4, 3) := by decide +kernel
theorem d_Model_tell_30 : decode b_Model_tell 30 = .ok (.return_, 1) := by decide +kernel
theorem d_Model_tell_31 : decode b_Model_tell 31 = .ok (.aload_n 0, 1) := by decide +kernel
theorem d_Model_tell_32 : decode b_Model_tell 32 = .ok (.getfield 49, 3) := by decide +kernel
theorem d_Model_tell_35 : decode b_Model_tell 35 = .ok (.aload_n 0, 1) := by decide +kernel
theorem d_Model_tell_36 : decode b_Model_tell 36 = .ok (.getfield 119, 3) := by decide +kernel
theorem d_Model_tell_39 : decode b_Model_tell 39 = .ok (.iload_n 1, 1) := by decide +kernel
theorem d_Model_tell_40 : decode b_Model_tell 40 = .ok (.i2b, 1) := by decide +kernel
theorem d_Model_tell_41 : decode b_Model_tell 41 = .ok (.bastore, 1) := by decide +kernel
theorem d_Model_tell_42 : decode b_Model_tell 42 = .ok (.iconst 0, 1) := by decide +kernel
theorem d_Model_tell_43 : decode b_Model_tell 43 = .ok (.istore 6, 2) := by decide +kernel
theorem d_Model_tell_45 : decode b_Model_tell 45 = .ok (.iload 6, 2) := by decide +kernel
theorem d_Model_tell_47 : decode b_Model_tell 47 = .ok (.iload 4, 2) := by decide +kernel
theorem d_Model_tell_49 : decode b_Model_tell 49 = .ok (.if_icmp .ge 29, 3) := by decide +kernel
theorem d_Model_tell_52 : decode b_Model_tell 52 = .ok (.aload_n 0, 1) := by decide +kernel
theorem d_Model_tell_53 : decode b_Model_tell 53 = .ok (.getfield 49, 3) := by decide +kernel
theorem d_Model_tell_56 : decode b_Model_tell 56 = .ok (.aload_n 0, 1) := by decide +kernel
theorem d_Model_tell_57 : decode b_Model_tell 57 = .ok (.getfield 119, 3) := by decide +kernel
theorem d_Model_tell_60 : decode b_Model_tell 60 = .ok (.iconst 1, 1) := by decide +kernel
theorem d_Model_tell_61 : decode b_Model_tell 61 = .ok (.iadd, 1) := by decide +kernel
theorem d_Model_tell_62 : decode b_Model_tell 62 = .ok (.iload 6, 2) := by decide +kernel
theorem d_Model_tell_64 : decode b_Model_tell 64 = .ok (.iadd, 1) := by decide +kernel
theorem d_Model_tell_65 : decode b_Model_tell 65 = .ok (.aload_n 2, 1) := by decide +kernel
theorem d_Model_tell_66 : decode b_Model_tell 66 = .ok (.iload_n 3, 1) := by decide +kernel
theorem d_Model_tell_67 : decode b_Model_tell 67 = .ok (.iload 6, 2) := by decide +kernel
theorem d_Model_tell_69 : decode b_Model_tell 69 = .ok (.iadd, 1) := by decide +kernel
theorem d_Model_tell_70 : decode b_Model_tell 70 = .ok (.baload, 1) := by decide +kernel
theorem d_Model_tell_71 : decode b_Model_tell 71 = .ok (.bastore, 1) := by decide +kernel
theorem d_Model_tell_72 : decode b_Model_tell 72 = .ok (.iinc 6 1, 3) := by decide +kernel
theorem d_Model_tell_75 : decode b_Model_tell 75 = .ok (.goto (-30), 3) := by decide +kernel
theorem d_Model_tell_78 : decode b_Model_tell 78 = .ok (.iload_n 1, 1) := by decide +kernel
theorem d_Model_tell_79 : decode b_Model_tell 79 = .ok (.iconst 3, 1) := by decide +kernel
theorem d_Model_tell_80 : decode b_Model_tell 80 = .ok (.if_icmp .ne 19, 3) := by decide +kernel
theorem d_Model_tell_83 : decode b_Model_tell 83 = .ok (.aload_n 0, 1) := by decide +kernel
theorem d_Model_tell_84 : decode b_Model_tell 84 = .ok (.getfield 49, 3) := by decide +kernel
theorem d_Model_tell_87 : decode b_Model_tell 87 = .ok (.aload_n 0, 1) := by decide +kernel
theorem d_Model_tell_88 : decode b_Model_tell 88 = .ok (.getfield 119, 3) := by decide +kernel
theorem d_Model_tell_91 : decode b_Model_tell 91 = .ok (.iconst 1, 1) := by decide +kernel
theorem d_Model_tell_92 : decode b_Model_tell 92 = .ok (.iadd, 1) := by decide +kernel
theorem d_Model_tell_93 : decode b_Model_tell 93 = .ok (.iload 4, 2) := by decide +kernel
theorem d_Model_tell_95 : decode b_Model_tell 95 = .ok (.iadd, 1) := by decide +kernel
theorem d_Model_tell_96 : decode b_Model_tell 96 = .ok (.bipush 10, 2) := by decide +kernel
theorem d_Model_tell_98 : decode b_Model_tell 98 = .ok (.bastore, 1) := by decide +kernel
theorem d_Model_tell_99 : decode b_Model_tell 99 = .ok (.aload_n 0, 1) := by decide +kernel
theorem d_Model_tell_100 : decode b_Model_tell 100 = .ok (.dup, 1) := by decide +kernel
theorem d_Model_tell_101 : decode b_Model_tell 101 = .ok (.getfield 119, 3) := by decide +kernel
theorem d_Model_tell_104 : decode b_Model_tell 104 = .ok (.iload 5, 2) := by decide +kernel
theorem d_Model_tell_106 : decode b_Model_tell 106 = .ok (.iadd, 1) := by decide +kernel
theorem d_Model_tell_107 : decode b_Model_tell 107 = .ok (.putfield 119, 3) := by decide +kernel
theorem d_Model_tell_110 : decode b_Model_tell 110 = .ok (.return_, 1) := by decide +kernel
theorem d_Model_send_0 : decode b_Model_send 0 = .ok (.aload_n 0, 1) := by decide +kernel
theorem d_Model_send_1 : decode b_Model_send 1 = .ok (.getfield 56, 3) := by decide +kernel
theorem d_Model_send_4 : decode b_Model_send 4 = .ok (.istore_n 1, 1) := by decide +kernel
theorem d_Model_send_5 : decode b_Model_send 5 = .ok (.aload_n 0, 1) := by decide +kernel
theorem d_Model_send_6 : decode b_Model_send 6 = .ok (.iconst 0, 1) := by decide +kernel
theorem d_Model_send_7 : decode b_Model_send 7 = .ok (.putfield 56, 3) := by decide +kernel
theorem d_Model_send_10 : decode b_Model_send 10 = .ok (.aload_n 0, 1) := by decide +kernel
theorem d_Model_send_11 : decode b_Model_send 11 = .ok (.getfield 109, 3) := by decide +kernel
theorem d_Model_send_14 : decode b_Model_send 14 = .ok (.ifCond .ne 5, 3) := by decide +kernel
theorem d_Model_send_17 : decode b_Model_send 17 = .ok (.iconst 0, 1) := by decide +kernel
theorem d_Model_send_18 : decode b_Model_send 18 = .ok (.ireturn, 1) := by decide +kernel
theorem d_Model_send_19 : decode b_Model_send 19 = .ok (.aload_n 0, 1) := by decide +kernel
theorem d_Model_send_20 : decode b_Model_send 20 = .ok (.iconst 1, 1) := by decide +kernel
theorem d_Model_send_21 : decode b_Model_send 21 = .ok (.aload_n 0, 1) := by decide +kernel
theorem d_Model_send_22 : decode b_Model_send 22 = .ok (.getfield 7, 3) := by decide +kernel
theorem d_Model_send_25 : decode b_Model_send 25 = .ok (.iconst 0, 1) := by decide +kernel
theorem d_Model_send_26 : decode b_Model_send 26 = .ok (.iload_n 1, 1) := by decide +kernel
theorem d_Model_send_27 : decode b_Model_send 27 = .ok (.invokevirtual 122, 3) := by decide +kernel
theorem d_Model_send_30 : decode b_Model_send 30 = .ok (.iconst 0, 1) := by decide +kernel
theorem d_Model_send_31 : decode b_Model_send 31 = .ok (.istore_n 2, 1) := by decide +kernel
theorem d_Model_send_32 : decode b_Model_send 32 = .ok (.iload_n 2, 1) := by decide +kernel
theorem d_Model_send_33 : decode b_Model_send 33 = .ok (.iload_n 1, 1) := by decide +kernel
theorem d_Model_send_34 : decode b_Model_send 34 = .ok (.if_icmp .ge 62, 3) := by decide +kernel
theorem d_Model_send_37 : decode b_Model_send 37 = .ok (.aload_n 0, 1) := by decide +kernel
theorem d_Model_send_38 : decode b_Model_send 38 = .ok (.getfield 7, 3) := by decide +kernel
theorem d_Model_send_41 : decode b_Model_send 41 = .ok (.iload_n 2, 1) := by decide +kernel
theorem d_Model_send_42 : decode b_Model_send 42 = .ok (.baload, 1) := by decide +kernel
theorem d_Model_send_43 : decode b_Model_send 43 = .ok (.bipush 10, 2) := by decide +kernel
theorem d_Model_send_45 : decode b_Model_send 45 = .ok (.if_icmp .ne 10, 3) := by decide +kernel
theorem d_Model_send_48 : decode b_Model_send 48 = .ok (.aload_n 0, 1) := by decide +kernel
theorem d_Model_send_49 : decode b_Model_send 49 = .ok (.invokevirtual 116, 3) := by decide +kernel
theorem d_Model_send_52 : decode b_Model_send 52 = .ok (.goto 38, 3) := by decide +kernel
theorem d_Model_send_55 : decode b_Model_send 55 = .ok (.aload_n 0, 1) := by decide +kernel
theorem d_Model_send_56 : decode b_Model_send 56 = .ok (.getfield 86, 3) := by decide +kernel
theorem d_Model_send_59 : decode b_Model_send 59 = .ok (.sipush 1024, 3) := by decide +kernel
theorem d_Model_send_62 : decode b_Model_send 62 = .ok (.if_icmp .ge 28, 3) := by decide +kernel
theorem d_Model_send_65 : decode b_Model_send 65 = .ok (.aload_n 0, 1) := by decide +kernel
theorem d_Model_send_66 : decode b_Model_send 66 = .ok (.getfield 35, 3) := by decide +kernel
theorem d_Model_send_69 : decode b_Model_send 69 = .ok (.aload_n 0, 1) := by decide +kernel
theorem d_Model_send_70 : decode b_Model_send 70 = .ok (.getfield 86, 3) := by decide +kernel
theorem d_Model_send_73 : decode b_Model_send 73 = .ok (.aload_n 0, 1) := by decide +kernel
theorem d_Model_send_74 : decode b_Model_send 74 = .ok (.getfield 7, 3) := by decide +kernel
theorem d_Model_send_77 : decode b_Model_send 77 = .ok (.iload_n 2, 1) := by decide +kernel
theorem d_Model_send_78 : decode b_Model_send 78 = .ok (.baload, 1) := by decide +kernel
theorem d_Model_send_79 : decode b_Model_send 79 = .ok (.bastore, 1) := by decide +kernel
theorem d_Model_send_80 : decode b_Model_send 80 = .ok (.aload_n 0, 1) := by decide +kernel
theorem d_Model_send_81 : decode b_Model_send 81 = .ok (.dup, 1) := by decide +kernel
theorem d_Model_send_82 : decode b_Model_send 82 = .ok (.getfield 86, 3) := by decide +kernel
theorem d_Model_send_85 : decode b_Model_send 85 = .ok (.iconst 1, 1) := by decide +kernel
theorem d_Model_send_86 : decode b_Model_send 86 = .ok (.iadd, 1) := by decide +kernel
theorem d_Model_send_87 : decode b_Model_send 87 = .ok (.putfield 86, 3) := by decide +kernel
theorem d_Model_send_90 : decode b_Model_send 90 = .ok (.iinc 2 1, 3) := by decide +kernel
theorem d_Model_send_93 : decode b_Model_send 93 = .ok (.goto (-61), 3) := by decide +kernel
theorem d_Model_send_96 : decode b_Model_send 96 = .ok (.iconst 1, 1) := by decide +kernel
theorem d_Model_send_97 : decode b_Model_send 97 = .ok (.ireturn, 1) := by decide +kernel
theorem d_Model_put_0 : decode b_Model_put 0 = .ok (.aload_n 0, 1) := by decide +kernel
theorem d_Model_put_1 : decode b_Model_put 1 = .ok (.iconst 3, 1) := by decide +kernel
theorem d_Model_put_2 : decode b_Model_put 2 = .ok (.aload_n 0, 1) := by decide +kernel
theorem d_Model_put_3 : decode b_Model_put 3 = .ok (.getfield 7, 3) := by decide +kernel
theorem d_Model_put_6 : decode b_Model_put 6 = .ok (.iconst 0, 1) := by decide +kernel
theorem d_Model_put_7 : decode b_Model_put 7 = .ok (.aload_n 0, 1) := by decide +kernel
theorem d_Model_put_8 : decode b_Model_put 8 = .ok (.getfield 56, 3) := by decide +kernel
theorem d_Model_put_11 : decode b_Model_put 11 = .ok (.invokevirtual 122, 3) := by decide +kernel
theorem d_Model_put_14 : decode b_Model_put 14 = .ok (.aload_n 0, 1) := by decide +kernel
theorem d_Model_put_15 : decode b_Model_put 15 = .ok (.iconst 0, 1) := by decide +kernel
theorem d_Model_put_16 : decode b_Model_put 16 = .ok (.putfield 56, 3) := by decide +kernel
theorem d_Model_put_19 : decode b_Model_put 19 = .ok (.return_, 1) := by decide +kernel
theorem d_Model_keep_0 : decode b_Model_keep 0 = .ok (.iconst 0, 1) := by decide +kernel
theorem d_Model_keep_1 : decode b_Model_keep 1 = .ok (.istore_n 2, 1) := by decide +kernel
theorem d_Model_keep_2 : decode b_Model_keep 2 = .ok (.iload_n 2, 1) := by decide +kernel
theorem d_Model_keep_3 : decode b_Model_keep 3 = .ok (.aload_n 0, 1) := by decide +kernel
theorem d_Model_keep_4 : decode b_Model_keep 4 = .ok (.getfield 26, 3) := by decide +kernel
theorem d_Model_keep_7 : decode b_Model_keep 7 = .ok (.iload_n 1, 1) := by decide +kernel
theorem d_Model_keep_8 : decode b_Model_keep 8 = .ok (.iaload, 1) := by decide +kernel
theorem d_Model_keep_9 : decode b_Model_keep 9 = .ok (.if_icmp .ge 55, 3) := by decide +kernel
theorem d_Model_keep_12 : decode b_Model_keep 12 = .ok (.aload_n 0, 1) := by decide +kernel
theorem d_Model_keep_13 : decode b_Model_keep 13 = .ok (.getfield 113, 3) := by decide +kernel
theorem d_Model_keep_16 : decode b_Model_keep 16 = .ok (.sipush 1024, 3) := by decide +kernel
theorem d_Model_keep_19 : decode b_Model_keep 19 = .ok (.if_icmp .ne 8, 3) := by decide +kernel
theorem d_Model_keep_22 : decode b_Model_keep 22 = .ok (.aload_n 0, 1) := by decide +kernel
theorem d_Model_keep_23 : decode b_Model_keep 23 = .ok (.iconst 1, 1) := by decide +kernel
theorem d_Model_keep_24 : decode b_Model_keep 24 = .ok (.invokevirtual 126, 3) := by decide +kernel
theorem d_Model_keep_27 : decode b_Model_keep 27 = .ok (.aload_n 0, 1) := by decide +kernel
theorem d_Model_keep_28 : decode b_Model_keep 28 = .ok (.getfield 45, 3) := by decide +kernel
theorem d_Model_keep_31 : decode b_Model_keep 31 = .ok (.aload_n 0, 1) := by decide +kernel
theorem d_Model_keep_32 : decode b_Model_keep 32 = .ok (.getfield 113, 3) := by decide +kernel
theorem d_Model_keep_35 : decode b_Model_keep 35 = .ok (.aload_n 0, 1) := by decide +kernel
theorem d_Model_keep_36 : decode b_Model_keep 36 = .ok (.getfield 32, 3) := by decide +kernel
theorem d_Model_keep_39 : decode b_Model_keep 39 = .ok (.sipush 200, 3) := by decide +kernel
theorem d_Model_keep_42 : decode b_Model_keep 42 = .ok (.iload_n 1, 1) := by decide +kernel
theorem d_Model_keep_43 : decode b_Model_keep 43 = .ok (.imul, 1) := by decide +kernel
theorem d_Model_keep_44 : decode b_Model_keep 44 = .ok (.iload_n 2, 1) := by decide +kernel
theorem d_Model_keep_45 : decode b_Model_keep 45 = .ok (.iadd, 1) := by decide +kernel
theorem d_Model_keep_46 : decode b_Model_keep 46 = .ok (.baload, 1) := by decide +kernel
theorem d_Model_keep_47 : decode b_Model_keep 47 = .ok (.bastore, 1) := by decide +kernel
theorem d_Model_keep_48 : decode b_Model_keep 48 = .ok (.aload_n 0, 1) := by decide +kernel
theorem d_Model_keep_49 : decode b_Model_keep 49 = .ok (.dup, 1) := by decide +kernel
theorem d_Model_keep_50 : decode b_Model_keep 50 = .ok (.getfield 113, 3) := by decide +kernel
theorem d_Model_keep_53 : decode b_Model_keep 53 = .ok (.iconst 1, 1) := by decide +kernel
theorem d_Model_keep_54 : decode b_Model_keep 54 = .ok (.iadd, 1) := by decide +kernel
theorem d_Model_keep_55 : decode b_Model_keep 55 = .ok (.putfield 113, 3) := by decide +kernel
theorem d_Model_keep_58 : decode b_Model_keep 58 = .ok (.iinc 2 1, 3) := by decide +kernel
theorem d_Model_keep_61 : decode b_Model_keep 61 = .ok (.goto (-59), 3) := by decide +kernel
theorem d_Model_keep_64 : decode b_Model_keep 64 = .ok (.return_, 1) := by decide +kernel
theorem d_Model_drop_0 : decode b_Model_drop 0 = .ok (.iload_n 1, 1) := by decide +kernel
theorem d_Model_drop_1 : decode b_Model_drop 1 = .ok (.istore_n 2, 1) := by decide +kernel
theorem d_Model_drop_2 : decode b_Model_drop 2 = .ok (.iload_n 2, 1) := by decide +kernel
theorem d_Model_drop_3 : decode b_Model_drop 3 = .ok (.aload_n 0, 1) := by decide +kernel
theorem d_Model_drop_4 : decode b_Model_drop 4 = .ok (.getfield 113, 3) := by decide +kernel
theorem d_Model_drop_7 : decode b_Model_drop 7 = .ok (.if_icmp .ge 23, 3) := by decide +kernel
theorem d_Model_drop_10 : decode b_Model_drop 10 = .ok (.aload_n 0, 1) := by decide +kernel
theorem d_Model_drop_11 : decode b_Model_drop 11 = .ok (.getfield 45, 3) := by decide +kernel
theorem d_Model_drop_14 : decode b_Model_drop 14 = .ok (.iload_n 2, 1) := by decide +kernel
theorem d_Model_drop_15 : decode b_Model_drop 15 = .ok (.iload_n 1, 1) := by decide +kernel
theorem d_Model_drop_16 : decode b_Model_drop 16 = .ok (.isub, 1) := by decide +kernel
theorem d_Model_drop_17 : decode b_Model_drop 17 = .ok (.aload_n 0, 1) := by decide +kernel
theorem d_Model_drop_18 : decode b_Model_drop 18 = .ok (.getfield 45, 3) := by decide +kernel
theorem d_Model_drop_21 : decode b_Model_drop 21 = .ok (.iload_n 2, 1) := by decide +kernel
theorem d_Model_drop_22 : decode b_Model_drop 22 = .ok (.baload, 1) := by decide +kernel
theorem d_Model_drop_23 : decode b_Model_drop 23 = .ok (.bastore, 1) := by decide +kernel
theorem d_Model_drop_24 : decode b_Model_drop 24 = .ok (.iinc 2 1, 3) := by decide +kernel
theorem d_Model_drop_27 : decode b_Model_drop 27 = .ok (.goto (-25), 3) := by decide +kernel
theorem d_Model_drop_30 : decode b_Model_drop 30 = .ok (.aload_n 0, 1) := by decide +kernel
theorem d_Model_drop_31 : decode b_Model_drop 31 = .ok (.dup, 1) := by decide +kernel
theorem d_Model_drop_32 : decode b_Model_drop 32 = .ok (.getfield 113, 3) := by decide +kernel
theorem d_Model_drop_35 : decode b_Model_drop 35 = .ok (.iload_n 1, 1) := by decide +kernel
theorem d_Model_drop_36 : decode b_Model_drop 36 = .ok (.isub, 1) := by decide +kernel
theorem d_Model_drop_37 : decode b_Model_drop 37 = .ok (.putfield 113, 3) := by decide +kernel
theorem d_Model_drop_40 : decode b_Model_drop 40 = .ok (.return_, 1) := by decide +kernel
theorem d_Model_come_0 : decode b_Model_come 0 = .ok (.iconst 0, 1) := by decide +kernel
theorem d_Model_come_1 : decode b_Model_come 1 = .ok (.istore_n 3, 1) := by decide +kernel
theorem d_Model_come_2 : decode b_Model_come 2 = .ok (.iconst 1, 1) := by decide +kernel
theorem d_Model_come_3 : decode b_Model_come 3 = .ok (.istore 4, 2) := by decide +kernel
theorem d_Model_come_5 : decode b_Model_come 5 = .ok (.iload 4, 2) := by decide +kernel
theorem d_Model_come_7 : decode b_Model_come 7 = .ok (.aload_n 0, 1) := by decide +kernel
theorem d_Model_come_8 : decode b_Model_come 8 = .ok (.getfield 102, 3) := by decide +kernel
theorem d_Model_come_11 : decode b_Model_come 11 = .ok (.if_icmp .ge 33, 3) := by decide +kernel
theorem d_Model_come_14 : decode b_Model_come 14 = .ok (.aload_n 0, 1) := by decide +kernel
theorem d_Model_come_15 : decode b_Model_come 15 = .ok (.getfield 38, 3) := by decide +kernel
theorem d_Model_come_18 : decode b_Model_come 18 = .ok (.iload 4, 2) := by decide +kernel
theorem d_Model_come_20 : decode b_Model_come 20 = .ok (.laload, 1) := by decide +kernel
theorem d_Model_come_21 : decode b_Model_come 21 = .ok (.aload_n 0, 1) := by decide +kernel
theorem d_Model_come_22 : decode b_Model_come 22 = .ok (.getfield 38, 3) := by decide +kernel
theorem d_Model_come_25 : decode b_Model_come 25 = .ok (.iload_n 3, 1) := by decide +kernel
theorem d_Model_come_26 : decode b_Model_come 26 = .ok (.laload, 1) := by decide +kernel
theorem d_Model_come_27 : decode b_Model_come 27 = .ok (.lcmp, 1) := by decide +kernel
theorem d_Model_come_28 : decode b_Model_come 28 = .ok (.ifCond .ge 8, 3) := by decide +kernel
theorem d_Model_come_31 : decode b_Model_come 31 = .ok (.iload 4, 2) := by decide +kernel
theorem d_Model_come_33 : decode b_Model_come 33 = .ok (.goto 4, 3) := by decide +kernel
theorem d_Model_come_36 : decode b_Model_come 36 = .ok (.iload_n 3, 1) := by decide +kernel
theorem d_Model_come_37 : decode b_Model_come 37 = .ok (.istore_n 3, 1) := by decide +kernel
theorem d_Model_come_38 : decode b_Model_come 38 = .ok (.iinc 4 1, 3) := by decide +kernel
theorem d_Model_come_41 : decode b_Model_come 41 = .ok (.goto (-36), 3) := by decide +kernel
theorem d_Model_come_44 : decode b_Model_come 44 = .ok (.aload_n 0, 1) := by decide +kernel
theorem d_Model_come_45 : decode b_Model_come 45 = .ok (.getfield 102, 3) := by decide +kernel
theorem d_Model_come_48 : decode b_Model_come 48 = .ok (.ifCond .eq 14, 3) := by decide +kernel
theorem d_Model_come_51 : decode b_Model_come 51 = .ok (.aload_n 0, 1) := by decide +kernel
theorem d_Model_come_52 : decode b_Model_come 52 = .ok (.getfield 38, 3) := by decide +kernel
theorem d_Model_come_55 : decode b_Model_come 55 = .ok (.iload_n 3, 1) := by decide +kernel
theorem d_Model_come_56 : decode b_Model_come 56 = .ok (.laload, 1) := by decide +kernel
theorem d_Model_come_57 : decode b_Model_come 57 = .ok (.lload_n 1, 1) := by decide +kernel
theorem d_Model_come_58 : decode b_Model_come 58 = .ok (.lcmp, 1) := by decide +kernel
theorem d_Model_come_59 : decode b_Model_come 59 = .ok (.ifCond .le 7, 3) := by decide +kernel
theorem d_Model_come_62 : decode b_Model_come 62 = .ok (.ldc2_w 129, 3) := by decide +kernel
theorem d_Model_come_65 : decode b_Model_come 65 = .ok (.lreturn, 1) := by decide +kernel
theorem d_Model_come_66 : decode b_Model_come 66 = .ok (.aload_n 0, 1) := by decide +kernel
theorem d_Model_come_67 : decode b_Model_come 67 = .ok (.getfield 42, 3) := by decide +kernel
theorem d_Model_come_70 : decode b_Model_come 70 = .ok (.iload_n 3, 1) := by decide +kernel
theorem d_Model_come_71 : decode b_Model_come 71 = .ok (.iaload, 1) := by decide +kernel
theorem d_Model_come_72 : decode b_Model_come 72 = .ok (.istore 4, 2) := by decide +kernel
theorem d_Model_come_74 : decode b_Model_come 74 = .ok (.aload_n 0, 1) := by decide +kernel
theorem d_Model_come_75 : decode b_Model_come 75 = .ok (.aload_n 0, 1) := by decide +kernel
theorem d_Model_come_76 : decode b_Model_come 76 = .ok (.getfield 38, 3) := by decide +kernel
theorem d_Model_come_79 : decode b_Model_come 79 = .ok (.iload_n 3, 1) := by decide +kernel
theorem d_Model_come_80 : decode b_Model_come 80 = .ok (.laload, 1) := by decide +kernel
theorem d_Model_come_81 : decode b_Model_come 81 = .ok (.aload_n 0, 1) := by decide +kernel
theorem d_Model_come_82 : decode b_Model_come 82 = .ok (.getfield 105, 3) := by decide +kernel
theorem d_Model_come_85 : decode b_Model_come 85 = .ok (.lcmp, 1) := by decide +kernel
theorem d_Model_come_86 : decode b_Model_come 86 = .ok (.ifCond .le 12, 3) := by decide +kernel
theorem d_Model_come_89 : decode b_Model_come 89 = .ok (.aload_n 0, 1) := by decide +kernel
theorem d_Model_come_90 : decode b_Model_come 90 = .ok (.getfield 38, 3) := by decide +kernel
theorem d_Model_come_93 : decode b_Model_come 93 = .ok (.iload_n 3, 1) := by decide +kernel
theorem d_Model_come_94 : decode b_Model_come 94 = .ok (.laload, 1) := by decide +kernel
theorem d_Model_come_95 : decode b_Model_come 95 = .ok (.goto 7, 3) := by decide +kernel
theorem d_Model_come_98 : decode b_Model_come 98 = .ok (.aload_n 0, 1) := by decide +kernel
theorem d_Model_come_99 : decode b_Model_come 99 = .ok (.getfield 105, 3) := by decide +kernel
theorem d_Model_come_102 : decode b_Model_come 102 = .ok (.putfield 105, 3) := by decide +kernel
theorem d_Model_come_105 : decode b_Model_come 105 = .ok (.iload_n 3, 1) := by decide +kernel
theorem d_Model_come_106 : decode b_Model_come 106 = .ok (.iconst 1, 1) := by decide +kernel
theorem d_Model_come_107 : decode b_Model_come 107 = .ok (.iadd, 1) := by decide +kernel
theorem d_Model_come_108 : decode b_Model_come 108 = .ok (.istore 5, 2) := by decide +kernel
theorem d_Model_come_110 : decode b_Model_come 110 = .ok (.iload 5, 2) := by decide +kernel
theorem d_Model_come_112 : decode b_Model_come 112 = .ok (.aload_n 0, 1) := by decide +kernel
theorem d_Model_come_113 : decode b_Model_come 113 = .ok (.getfield 102, 3) := by decide +kernel
theorem d_Model_come_116 : decode b_Model_come 116 = .ok (.if_icmp .ge 41, 3) := by decide +kernel
theorem d_Model_come_119 : decode b_Model_come 119 = .ok (.aload_n 0, 1) := by decide +kernel
theorem d_Model_come_120 : decode b_Model_come 120 = .ok (.getfield 38, 3) := by decide +kernel
theorem d_Model_come_123 : decode b_Model_come 123 = .ok (.iload 5, 2) := by decide +kernel
theorem d_Model_come_125 : decode b_Model_come 125 = .ok (.iconst 1, 1) := by decide +kernel
theorem d_Model_come_126 : decode b_Model_come 126 = .ok (.isub, 1) := by decide +kernel
theorem d_Model_come_127 : decode b_Model_come 127 = .ok (.aload_n 0, 1) := by decide +kernel
theorem d_Model_come_128 : decode b_Model_come 128 = .ok (.getfield 38, 3) := by decide +kernel
theorem d_Model_come_131 : decode b_Model_come 131 = .ok (.iload 5, 2) := by decide +kernel
theorem d_Model_come_133 : decode b_Model_come 133 = .ok (.laload, 1) := by decide +kernel
theorem d_Model_come_134 : decode b_Model_come 134 = .ok (.lastore, 1) := by decide +kernel
theorem d_Model_come_135 : decode b_Model_come 135 = .ok (.aload_n 0, 1) := by decide +kernel
theorem d_Model_come_136 : decode b_Model_come 136 = .ok (.getfield 42, 3) := by decide +kernel
theorem d_Model_come_139 : decode b_Model_come 139 = .ok (.iload 5, 2) := by decide +kernel
theorem d_Model_come_141 : decode b_Model_come 141 = .ok (.iconst 1, 1) := by decide +kernel
theorem d_Model_come_142 : decode b_Model_come 142 = .ok (.isub, 1) := by decide +kernel
theorem d_Model_come_143 : decode b_Model_come 143 = .ok (.aload_n 0, 1) := by decide +kernel
theorem d_Model_come_144 : decode b_Model_come 144 = .ok (.getfield 42, 3) := by decide +kernel
theorem d_Model_come_147 : decode b_Model_come 147 = .ok (.iload 5, 2) := by decide +kernel
theorem d_Model_come_149 : decode b_Model_come 149 = .ok (.iaload, 1) := by decide +kernel
theorem d_Model_come_150 : decode b_Model_come 150 = .ok (.iastore, 1) := by decide +kernel
theorem d_Model_come_151 : decode b_Model_come 151 = .ok (.iinc 5 1, 3) := by decide +kernel
theorem d_Model_come_154 : decode b_Model_come 154 = .ok (.goto (-44), 3) := by decide +kernel
theorem d_Model_come_157 : decode b_Model_come 157 = .ok (.aload_n 0, 1) := by decide +kernel
theorem d_Model_come_158 : decode b_Model_come 158 = .ok (.dup, 1) := by decide +kernel
theorem d_Model_come_159 : decode b_Model_come 159 = .ok (.getfield 102, 3) := by decide +kernel
theorem d_Model_come_162 : decode b_Model_come 162 = .ok (.iconst 1, 1) := by decide +kernel
theorem d_Model_come_163 : decode b_Model_come 163 = .ok (.isub, 1) := by decide +kernel
theorem d_Model_come_164 : decode b_Model_come 164 = .ok (.putfield 102, 3) := by decide +kernel
theorem d_Model_come_167 : decode b_Model_come 167 = .ok (.aload_n 0, 1) := by decide +kernel
theorem d_Model_come_168 : decode b_Model_come 168 = .ok (.iconst 2, 1) := by decide +kernel
theorem d_Model_come_169 : decode b_Model_come 169 = .ok (.aload_n 0, 1) := by decide +kernel
theorem d_Model_come_170 : decode b_Model_come 170 = .ok (.getfield 32, 3) := by decide +kernel
theorem d_Model_come_173 : decode b_Model_come 173 = .ok (.sipush 200, 3) := by decide +kernel
theorem d_Model_come_176 : decode b_Model_come 176 = .ok (.iload 4, 2) := by decide +kernel
theorem d_Model_come_178 : decode b_Model_come 178 = .ok (.imul, 1) := by decide +kernel
theorem d_Model_come_179 : decode b_Model_come 179 = .ok (.aload_n 0, 1) := by decide +kernel
theorem d_Model_come_180 : decode b_Model_come 180 = .ok (.getfield 26, 3) := by decide +kernel
theorem d_Model_come_183 : decode b_Model_come 183 = .ok (.iload 4, 2) := by decide +kernel
theorem d_Model_come_185 : decode b_Model_come 185 = .ok (.iaload, 1) := by decide +kernel
theorem d_Model_come_186 : decode b_Model_come 186 = .ok (.invokevirtual 122, 3) := by decide +kernel
theorem d_Model_come_189 : decode b_Model_come 189 = .ok (.aload_n 0, 1) := by decide +kernel
theorem d_Model_come_190 : decode b_Model_come 190 = .ok (.iload 4, 2) := by decide +kernel
theorem d_Model_come_192 : decode b_Model_come 192 = .ok (.invokevirtual 131, 3) := by decide +kernel
theorem d_Model_come_195 : decode b_Model_come 195 = .ok (.aload_n 0, 1) := by decide +kernel
theorem d_Model_come_196 : decode b_Model_come 196 = .ok (.getfield 105, 3) := by decide +kernel
theorem d_Model_come_199 : decode b_Model_come 199 = .ok (.lreturn, 1) := by decide +kernel
theorem d_Model_fit_0 : decode b_Model_fit 0 = .ok (.aload_n 0, 1) := by decide +kernel
theorem d_Model_fit_1 : decode b_Model_fit 1 = .ok (.getfield 56, 3) := by decide +kernel
theorem d_Model_fit_4 : decode b_Model_fit 4 = .ok (.istore_n 1, 1) := by decide +kernel
theorem d_Model_fit_5 : decode b_Model_fit 5 = .ok (.aload_n 0, 1) := by decide +kernel
theorem d_Model_fit_6 : decode b_Model_fit 6 = .ok (.iconst 0, 1) := by decide +kernel
theorem d_Model_fit_7 : decode b_Model_fit 7 = .ok (.putfield 56, 3) := by decide +kernel
theorem d_Model_fit_10 : decode b_Model_fit 10 = .ok (.iconst 0, 1) := by decide +kernel
theorem d_Model_fit_11 : decode b_Model_fit 11 = .ok (.istore_n 2, 1) := by decide +kernel
theorem d_Model_fit_12 : decode b_Model_fit 12 = .ok (.iload_n 2, 1) := by decide +kernel
theorem d_Model_fit_13 : decode b_Model_fit 13 = .ok (.aload_n 0, 1) := by decide +kernel
theorem d_Model_fit_14 : decode b_Model_fit 14 = .ok (.getfield 113, 3) := by decide +kernel
theorem d_Model_fit_17 : decode b_Model_fit 17 = .ok (.if_icmp .gt 16, 3) := by decide +kernel
theorem d_Model_fit_20 : decode b_Model_fit 20 = .ok (.aload_n 0, 1) := by decide +kernel
theorem d_Model_fit_21 : decode b_Model_fit 21 = .ok (.getfield 52, 3) := by decide +kernel
theorem d_Model_fit_24 : decode b_Model_fit 24 = .ok (.iload_n 2, 1) := by decide +kernel
theorem d_Model_fit_25 : decode b_Model_fit 25 = .ok (.iconst 1, 1) := by decide +kernel
theorem d_Model_fit_26 : decode b_Model_fit 26 = .ok (.bastore, 1) := by decide +kernel
theorem d_Model_fit_27 : decode b_Model_fit 27 = .ok (.iinc 2 1, 3) := by decide +kernel
theorem d_Model_fit_30 : decode b_Model_fit 30 = .ok (.goto (-18), 3) := by decide +kernel
theorem d_Model_fit_33 : decode b_Model_fit 33 = .ok (.aload_n 0, 1) := by decide +kernel
theorem d_Model_fit_34 : decode b_Model_fit 34 = .ok (.aload_n 0, 1) := by decide +kernel
theorem d_Model_fit_35 : decode b_Model_fit 35 = .ok (.getfield 7, 3) := by decide +kernel
theorem d_Model_fit_38 : decode b_Model_fit 38 = .ok (.iconst 0, 1) := by decide +kernel
theorem d_Model_fit_39 : decode b_Model_fit 39 = .ok (.iload_n 1, 1) := by decide +kernel
theorem d_Model_fit_40 : decode b_Model_fit 40 = .ok (.aload_n 0, 1) := by decide +kernel
theorem d_Model_fit_41 : decode b_Model_fit 41 = .ok (.getfield 45, 3) := by decide +kernel
theorem d_Model_fit_44 : decode b_Model_fit 44 = .ok (.aload_n 0, 1) := by decide +kernel
theorem d_Model_fit_45 : decode b_Model_fit 45 = .ok (.getfield 113, 3) := by decide +kernel
theorem d_Model_fit_48 : decode b_Model_fit 48 = .ok (.invokevirtual 89, 3) := by decide +kernel
theorem d_Model_fit_51 : decode b_Model_fit 51 = .ok (.iconst 0, 1) := by decide +kernel
theorem d_Model_fit_52 : decode b_Model_fit 52 = .ok (.istore_n 2, 1) := by decide +kernel
theorem d_Model_fit_53 : decode b_Model_fit 53 = .ok (.iload_n 2, 1) := by decide +kernel
theorem d_Model_fit_54 : decode b_Model_fit 54 = .ok (.aload_n 0, 1) := by decide +kernel
theorem d_Model_fit_55 : decode b_Model_fit 55 = .ok (.getfield 113, 3) := by decide +kernel
theorem d_Model_fit_58 : decode b_Model_fit 58 = .ok (.if_icmp .gt 18, 3) := by decide +kernel
theorem d_Model_fit_61 : decode b_Model_fit 61 = .ok (.aload_n 0, 1) := by decide +kernel
theorem d_Model_fit_62 : decode b_Model_fit 62 = .ok (.getfield 52, 3) := by decide +kernel
theorem d_Model_fit_65 : decode b_Model_fit 65 = .ok (.iload_n 2, 1) := by decide +kernel
theorem d_Model_fit_66 : decode b_Model_fit 66 = .ok (.baload, 1) := by decide +kernel
theorem d_Model_fit_67 : decode b_Model_fit 67 = .ok (.ifCond .ne 9, 3) := by decide +kernel
theorem d_Model_fit_70 : decode b_Model_fit 70 = .ok (.iinc 2 1, 3) := by decide +kernel
theorem d_Model_fit_73 : decode b_Model_fit 73 = .ok (.goto (-20), 3) := by decide +kernel
theorem d_Model_fit_76 : decode b_Model_fit 76 = .ok (.iload_n 2, 1) := by decide +kernel
theorem d_Model_fit_77 : decode b_Model_fit 77 = .ok (.aload_n 0, 1) := by decide +kernel
theorem d_Model_fit_78 : decode b_Model_fit 78 = .ok (.getfield 113, 3) := by decide +kernel
theorem d_Model_fit_81 : decode b_Model_fit 81 = .ok (.if_icmp .gt 7, 3) := by decide +kernel
theorem d_Model_fit_84 : decode b_Model_fit 84 = .ok (.iload_n 2, 1) := by decide +kernel
theorem d_Model_fit_85 : decode b_Model_fit 85 = .ok (.goto 4, 3) := by decide +kernel
theorem d_Model_fit_88 : decode b_Model_fit 88 = .ok (.iconst (-1), 1) := by decide +kernel
theorem d_Model_fit_89 : decode b_Model_fit 89 = .ok (.ireturn, 1) := by decide +kernel
theorem d_Model_take_0 : decode b_Model_take 0 = .ok (.iload_n 1, 1) := by decide +kernel
theorem d_Model_take_1 : decode b_Model_take 1 = .ok (.iconst 0, 1) := by decide +kernel
theorem d_Model_take_2 : decode b_Model_take 2 = .ok (.aload_n 0, 1) := by decide +kernel
theorem d_Model_take_3 : decode b_Model_take 3 = .ok (.getfield 113, 3) := by decide +kernel
theorem d_Model_take_6 : decode b_Model_take 6 = .ok (.invokestatic 64, 3) := by decide +kernel
theorem d_Model_take_9 : decode b_Model_take 9 = .ok (.ifCond .ne 5, 3) := by decide +kernel
theorem d_Model_take_12 : decode b_Model_take 12 = .ok (.iconst 0, 1) := by decide +kernel
theorem d_Model_take_13 : decode b_Model_take 13 = .ok (.ireturn, 1) := by decide +kernel
theorem d_Model_take_14 : decode b_Model_take 14 = .ok (.aload_n 0, 1) := by decide +kernel
theorem d_Model_take_15 : decode b_Model_take 15 = .ok (.iload_n 1, 1) := by decide +kernel
theorem d_Model_take_16 : decode b_Model_take 16 = .ok (.invokevirtual 126, 3) := by decide +kernel
theorem d_Model_take_19 : decode b_Model_take 19 = .ok (.iconst 1, 1) := by decide +kernel
theorem d_Model_take_20 : decode b_Model_take 20 = .ok (.ireturn, 1) := by decide +kernel
theorem d_Model_pass_0 : decode b_Model_pass 0 = .ok (.aload_n 0, 1) := by decide +kernel
theorem d_Model_pass_1 : decode b_Model_pass 1 = .ok (.dup, 1) := by decide +kernel
theorem d_Model_pass_2 : decode b_Model_pass 2 = .ok (.getfield 105, 3) := by decide +kernel
theorem d_Model_pass_5 : decode b_Model_pass 5 = .ok (.lload_n 1, 1) := by decide +kernel
theorem d_Model_pass_6 : decode b_Model_pass 6 = .ok (.lconst 0, 1) := by decide +kernel
theorem d_Model_pass_7 : decode b_Model_pass 7 = .ok (.lcmp, 1) := by decide +kernel
theorem d_Model_pass_8 : decode b_Model_pass 8 = .ok (.ifCond .ge 7, 3) := by decide +kernel
theorem d_Model_pass_11 : decode b_Model_pass 11 = .ok (.lconst 0, 1) := by decide +kernel
theorem d_Model_pass_12 : decode b_Model_pass 12 = .ok (.goto 18, 3) := by decide +kernel
theorem d_Model_pass_15 : decode b_Model_pass 15 = .ok (.lload_n 1, 1) := by decide +kernel
theorem d_Model_pass_16 : decode b_Model_pass 16 = .ok (.ldc2_w 134, 3) := by decide +kernel
theorem d_Model_pass_19 : decode b_Model_pass 19 = .ok (.lcmp, 1) := by decide +kernel
theorem d_Model_pass_20 : decode b_Model_pass 20 = .ok (.ifCond .le 9, 3) := by decide +kernel
theorem d_Model_pass_23 : decode b_Model_pass 23 = .ok (.ldc2_w 134, 3) := by decide +kernel
theorem d_Model_pass_26 : decode b_Model_pass 26 = .ok (.goto 4, 3) := by decide +kernel
theorem d_Model_pass_29 : decode b_Model_pass 29 = .ok (.lload_n 1, 1) := by decide +kernel
theorem d_Model_pass_30 : decode b_Model_pass 30 = .ok (.ladd, 1) := by decide +kernel
theorem d_Model_pass_31 : decode b_Model_pass 31 = .ok (.putfield 105, 3) := by decide +kernel
theorem d_Model_pass_34 : decode b_Model_pass 34 = .ok (.aload_n 0, 1) := by decide +kernel
theorem d_Model_pass_35 : decode b_Model_pass 35 = .ok (.getfield 105, 3) := by decide +kernel
theorem d_Model_pass_38 : decode b_Model_pass 38 = .ok (.lreturn, 1) := by decide +kernel
theorem d_Model_total_0 : decode b_Model_total 0 = .ok (.iload_n 1, 1) := by decide +kernel
theorem d_Model_total_1 : decode b_Model_total 1 = .ok (.tableswitch 69 0 5 #[39, 44, 49, 54, 59, 64], 39) := by decide +kernel
theorem d_Model_total_40 : decode b_Model_total 40 = .ok (.aload_n 0, 1) := by decide +kernel
theorem d_Model_total_41 : decode b_Model_total 41 = .ok (.getfield 95, 3) := by decide +kernel
theorem d_Model_total_44 : decode b_Model_total 44 = .ok (.ireturn, 1) := by decide +kernel
theorem d_Model_total_45 : decode b_Model_total 45 = .ok (.aload_n 0, 1) := by decide +kernel
theorem d_Model_total_46 : decode b_Model_total 46 = .ok (.getfield 102, 3) := by decide +kernel
theorem d_Model_total_49 : decode b_Model_total 49 = .ok (.ireturn, 1) := by decide +kernel
theorem d_Model_total_50 : decode b_Model_total 50 = .ok (.aload_n 0, 1) := by decide +kernel
theorem d_Model_total_51 : decode b_Model_total 51 = .ok (.getfield 113, 3) := by decide +kernel
theorem d_Model_total_54 : decode b_Model_total 54 = .ok (.ireturn, 1) := by decide +kernel
theorem d_Model_total_55 : decode b_Model_total 55 = .ok (.aload_n 0, 1) := by decide +kernel
theorem d_Model_total_56 : decode b_Model_total 56 = .ok (.getfield 119, 3) := by decide +kernel
theorem d_Model_total_59 : decode b_Model_total 59 = .ok (.ireturn, 1) := by decide +kernel
theorem d_Model_total_60 : decode b_Model_total 60 = .ok (.aload_n 0, 1) := by decide +kernel
theorem d_Model_total_61 : decode b_Model_total 61 = .ok (.getfield 92, 3) := by decide +kernel
theorem d_Model_total_64 : decode b_Model_total 64 = .ok (.ireturn, 1) := by decide +kernel
theorem d_Model_total_65 : decode b_Model_total 65 = .ok (.aload_n 0, 1) := by decide +kernel
theorem d_Model_total_66 : decode b_Model_total 66 = .ok (.getfield 86, 3) := by decide +kernel
theorem d_Model_total_69 : decode b_Model_total 69 = .ok (.ireturn, 1) := by decide +kernel
theorem d_Model_total_70 : decode b_Model_total 70 = .ok (.iconst (-1), 1) := by decide +kernel
theorem d_Model_total_71 : decode b_Model_total 71 = .ok (.ireturn, 1) := by decide +kernel
theorem d_Model_bufferAt_0 : decode b_Model_bufferAt 0 = .ok (.iload_n 1, 1) := by decide +kernel
theorem d_Model_bufferAt_1 : decode b_Model_bufferAt 1 = .ok (.iconst 0, 1) := by decide +kernel
theorem d_Model_bufferAt_2 : decode b_Model_bufferAt 2 = .ok (.aload_n 0, 1) := by decide +kernel
theorem d_Model_bufferAt_3 : decode b_Model_bufferAt 3 = .ok (.getfield 113, 3) := by decide +kernel
theorem d_Model_bufferAt_6 : decode b_Model_bufferAt 6 = .ok (.iconst 1, 1) := by decide +kernel
theorem d_Model_bufferAt_7 : decode b_Model_bufferAt 7 = .ok (.isub, 1) := by decide +kernel
theorem d_Model_bufferAt_8 : decode b_Model_bufferAt 8 = .ok (.invokestatic 64, 3) := by decide +kernel
theorem d_Model_bufferAt_11 : decode b_Model_bufferAt 11 = .ok (.ifCond .eq 16, 3) := by decide +kernel
theorem d_Model_bufferAt_14 : decode b_Model_bufferAt 14 = .ok (.aload_n 0, 1) := by decide +kernel
theorem d_Model_bufferAt_15 : decode b_Model_bufferAt 15 = .ok (.getfield 45, 3) := by decide +kernel
theorem d_Model_bufferAt_18 : decode b_Model_bufferAt 18 = .ok (.iload_n 1, 1) := by decide +kernel
theorem d_Model_bufferAt_19 : decode b_Model_bufferAt 19 = .ok (.baload, 1) := by decide +kernel
theorem d_Model_bufferAt_20 : decode b_Model_bufferAt 20 = .ok (.sipush 255, 3) := by decide +kernel
theorem d_Model_bufferAt_23 : decode b_Model_bufferAt 23 = .ok (.iand, 1) := by decide +kernel
theorem d_Model_bufferAt_24 : decode b_Model_bufferAt 24 = .ok (.goto 4, 3) := by decide +kernel
theorem d_Model_bufferAt_27 : decode b_Model_bufferAt 27 = .ok (.iconst (-1), 1) := by decide +kernel
theorem d_Model_bufferAt_28 : decode b_Model_bufferAt 28 = .ok (.ireturn, 1) := by decide +kernel
theorem d_Model_toldAt_0 : decode b_Model_toldAt 0 = .ok (.iload_n 1, 1) := by decide +kernel
theorem d_Model_toldAt_1 : decode b_Model_toldAt 1 = .ok (.iconst 0, 1) := by decide +kernel
theorem d_Model_toldAt_2 : decode b_Model_toldAt 2 = .ok (.aload_n 0, 1) := by decide +kernel
theorem d_Model_toldAt_3 : decode b_Model_toldAt 3 = .ok (.getfield 119, 3) := by decide +kernel
theorem d_Model_toldAt_6 : decode b_Model_toldAt 6 = .ok (.iconst 1, 1) := by decide +kernel
theorem d_Model_toldAt_7 : decode b_Model_toldAt 7 = .ok (.isub, 1) := by decide +kernel
theorem d_Model_toldAt_8 : decode b_Model_toldAt 8 = .ok (.invokestatic 64, 3) := by decide +kernel
theorem d_Model_toldAt_11 : decode b_Model_toldAt 11 = .ok (.ifCond .eq 16, 3) := by decide +kernel
theorem d_Model_toldAt_14 : decode b_Model_toldAt 14 = .ok (.aload_n 0, 1) := by decide +kernel
theorem d_Model_toldAt_15 : decode b_Model_toldAt 15 = .ok (.getfield 49, 3) := by decide +kernel
theorem d_Model_toldAt_18 : decode b_Model_toldAt 18 = .ok (.iload_n 1, 1) := by decide +kernel
theorem d_Model_toldAt_19 : decode b_Model_toldAt 19 = .ok (.baload, 1) := by decide +kernel
theorem d_Model_toldAt_20 : decode b_Model_toldAt 20 = .ok (.sipush 255, 3) := by decide +kernel
theorem d_Model_toldAt_23 : decode b_Model_toldAt 23 = .ok (.iand, 1) := by decide +kernel
theorem d_Model_toldAt_24 : decode b_Model_toldAt 24 = .ok (.goto 4, 3) := by decide +kernel
theorem d_Model_toldAt_27 : decode b_Model_toldAt 27 = .ok (.iconst (-1), 1) := by decide +kernel
theorem d_Model_toldAt_28 : decode b_Model_toldAt 28 = .ok (.ireturn, 1) := by decide +kernel
end
section
theorem d_law_0 : decode code 0 = .ok (.new 7, 3) := by decide +kernel
theorem d_law_3 : decode code 3 = .ok (.dup, 1) := by decide +kernel
theorem d_law_4 : decode code 4 = .ok (.invokespecial 9, 3) := by decide +kernel
theorem d_law_7 : decode code 7 = .ok (.astore_n 1, 1) := by decide +kernel
theorem d_law_8 : decode code 8 = .ok (.new 10, 3) := by decide +kernel
theorem d_law_11 : decode code 11 = .ok (.dup, 1) := by decide +kernel
theorem d_law_12 : decode code 12 = .ok (.invokespecial 12, 3) := by decide +kernel
theorem d_law_15 : decode code 15 = .ok (.astore_n 2, 1) := by decide +kernel
theorem d_law_16 : decode code 16 = .ok (.iconst 0, 1) := by decide +kernel
theorem d_law_17 : decode code 17 = .ok (.istore_n 3, 1) := by decide +kernel
theorem d_law_18 : decode code 18 = .ok (.iload_n 3, 1) := by decide +kernel
theorem d_law_19 : decode code 19 = .ok (.aload_n 0, 1) := by decide +kernel
theorem d_law_20 : decode code 20 = .ok (.arraylength, 1) := by decide +kernel
theorem d_law_21 : decode code 21 = .ok (.bipush 6, 2) := by decide +kernel
theorem d_law_23 : decode code 23 = .ok (.isub, 1) := by decide +kernel
theorem d_law_24 : decode code 24 = .ok (.if_icmp .gt 459, 3) := by decide +kernel
theorem d_law_27 : decode code 27 = .ok (.aload_n 0, 1) := by decide +kernel
theorem d_law_28 : decode code 28 = .ok (.iload_n 3, 1) := by decide +kernel
theorem d_law_29 : decode code 29 = .ok (.iaload, 1) := by decide +kernel
theorem d_law_30 : decode code 30 = .ok (.bipush 15, 2) := by decide +kernel
theorem d_law_32 : decode code 32 = .ok (.iand, 1) := by decide +kernel
theorem d_law_33 : decode code 33 = .ok (.tableswitch 444 0 12 #[67, 130, 153, 196, 207, 220, 231, 285, 298, 321, 375, 398, 421], 67) := by decide +kernel
theorem d_law_100 : decode code 100 = .ok (.aload_n 1, 1) := by decide +kernel
theorem d_law_101 : decode code 101 = .ok (.aload_n 0, 1) := by decide +kernel
theorem d_law_102 : decode code 102 = .ok (.iload_n 3, 1) := by decide +kernel
theorem d_law_103 : decode code 103 = .ok (.iconst 1, 1) := by decide +kernel
theorem d_law_104 : decode code 104 = .ok (.iadd, 1) := by decide +kernel
theorem d_law_105 : decode code 105 = .ok (.iaload, 1) := by decide +kernel
theorem d_law_106 : decode code 106 = .ok (.aload_n 0, 1) := by decide +kernel
theorem d_law_107 : decode code 107 = .ok (.iload_n 3, 1) := by decide +kernel
theorem d_law_108 : decode code 108 = .ok (.iconst 2, 1) := by decide +kernel
theorem d_law_109 : decode code 109 = .ok (.iadd, 1) := by decide +kernel
theorem d_law_110 : decode code 110 = .ok (.iaload, 1) := by decide +kernel
theorem d_law_111 : decode code 111 = .ok (.aload_n 0, 1) := by decide +kernel
theorem d_law_112 : decode code 112 = .ok (.iload_n 3, 1) := by decide +kernel
theorem d_law_113 : decode code 113 = .ok (.iconst 3, 1) := by decide +kernel
theorem d_law_114 : decode code 114 = .ok (.iadd, 1) := by decide +kernel
theorem d_law_115 : decode code 115 = .ok (.iaload, 1) := by decide +kernel
theorem d_law_116 : decode code 116 = .ok (.aload_n 0, 1) := by decide +kernel
theorem d_law_117 : decode code 117 = .ok (.iload_n 3, 1) := by decide +kernel
theorem d_law_118 : decode code 118 = .ok (.iconst 4, 1) := by decide +kernel
theorem d_law_119 : decode code 119 = .ok (.iadd, 1) := by decide +kernel
theorem d_law_120 : decode code 120 = .ok (.iaload, 1) := by decide +kernel
theorem d_law_121 : decode code 121 = .ok (.aload_n 0, 1) := by decide +kernel
theorem d_law_122 : decode code 122 = .ok (.iload_n 3, 1) := by decide +kernel
theorem d_law_123 : decode code 123 = .ok (.iconst 5, 1) := by decide +kernel
theorem d_law_124 : decode code 124 = .ok (.iadd, 1) := by decide +kernel
theorem d_law_125 : decode code 125 = .ok (.iaload, 1) := by decide +kernel
theorem d_law_126 : decode code 126 = .ok (.invokevirtual 13, 3) := by decide +kernel
theorem d_law_129 : decode code 129 = .ok (.aload_n 2, 1) := by decide +kernel
theorem d_law_130 : decode code 130 = .ok (.aload_n 0, 1) := by decide +kernel
theorem d_law_131 : decode code 131 = .ok (.iload_n 3, 1) := by decide +kernel
theorem d_law_132 : decode code 132 = .ok (.iconst 1, 1) := by decide +kernel
theorem d_law_133 : decode code 133 = .ok (.iadd, 1) := by decide +kernel
theorem d_law_134 : decode code 134 = .ok (.iaload, 1) := by decide +kernel
theorem d_law_135 : decode code 135 = .ok (.aload_n 0, 1) := by decide +kernel
theorem d_law_136 : decode code 136 = .ok (.iload_n 3, 1) := by decide +kernel
theorem d_law_137 : decode code 137 = .ok (.iconst 2, 1) := by decide +kernel
theorem d_law_138 : decode code 138 = .ok (.iadd, 1) := by decide +kernel
theorem d_law_139 : decode code 139 = .ok (.iaload, 1) := by decide +kernel
theorem d_law_140 : decode code 140 = .ok (.aload_n 0, 1) := by decide +kernel
theorem d_law_141 : decode code 141 = .ok (.iload_n 3, 1) := by decide +kernel
theorem d_law_142 : decode code 142 = .ok (.iconst 3, 1) := by decide +kernel
theorem d_law_143 : decode code 143 = .ok (.iadd, 1) := by decide +kernel
theorem d_law_144 : decode code 144 = .ok (.iaload, 1) := by decide +kernel
theorem d_law_145 : decode code 145 = .ok (.aload_n 0, 1) := by decide +kernel
theorem d_law_146 : decode code 146 = .ok (.iload_n 3, 1) := by decide +kernel
theorem d_law_147 : decode code 147 = .ok (.iconst 4, 1) := by decide +kernel
theorem d_law_148 : decode code 148 = .ok (.iadd, 1) := by decide +kernel
theorem d_law_149 : decode code 149 = .ok (.iaload, 1) := by decide +kernel
theorem d_law_150 : decode code 150 = .ok (.aload_n 0, 1) := by decide +kernel
theorem d_law_151 : decode code 151 = .ok (.iload_n 3, 1) := by decide +kernel
theorem d_law_152 : decode code 152 = .ok (.iconst 5, 1) := by decide +kernel
theorem d_law_153 : decode code 153 = .ok (.iadd, 1) := by decide +kernel
theorem d_law_154 : decode code 154 = .ok (.iaload, 1) := by decide +kernel
theorem d_law_155 : decode code 155 = .ok (.invokevirtual 17, 3) := by decide +kernel
theorem d_law_158 : decode code 158 = .ok (.if_icmp .eq 319, 3) := by decide +kernel
theorem d_law_161 : decode code 161 = .ok (.iconst 0, 1) := by decide +kernel
theorem d_law_162 : decode code 162 = .ok (.ireturn, 1) := by decide +kernel
theorem d_law_163 : decode code 163 = .ok (.aload_n 1, 1) := by decide +kernel
theorem d_law_164 : decode code 164 = .ok (.aload_n 0, 1) := by decide +kernel
theorem d_law_165 : decode code 165 = .ok (.iload_n 3, 1) := by decide +kernel
theorem d_law_166 : decode code 166 = .ok (.iconst 1, 1) := by decide +kernel
theorem d_law_167 : decode code 167 = .ok (.iadd, 1) := by decide +kernel
theorem d_law_168 : decode code 168 = .ok (.iaload, 1) := by decide +kernel
theorem d_law_169 : decode code 169 = .ok (.invokevirtual 18, 3) := by decide +kernel
theorem d_law_172 : decode code 172 = .ok (.aload_n 2, 1) := by decide +kernel
theorem d_law_173 : decode code 173 = .ok (.aload_n 0, 1) := by decide +kernel
theorem d_law_174 : decode code 174 = .ok (.iload_n 3, 1) := by decide +kernel
theorem d_law_175 : decode code 175 = .ok (.iconst 1, 1) := by decide +kernel
theorem d_law_176 : decode code 176 = .ok (.iadd, 1) := by decide +kernel
theorem d_law_177 : decode code 177 = .ok (.iaload, 1) := by decide +kernel
theorem d_law_178 : decode code 178 = .ok (.invokevirtual 22, 3) := by decide +kernel
theorem d_law_181 : decode code 181 = .ok (.if_icmp .eq 296, 3) := by decide +kernel
theorem d_law_184 : decode code 184 = .ok (.iconst 0, 1) := by decide +kernel
theorem d_law_185 : decode code 185 = .ok (.ireturn, 1) := by decide +kernel
theorem d_law_186 : decode code 186 = .ok (.aload_n 1, 1) := by decide +kernel
theorem d_law_187 : decode code 187 = .ok (.aload_n 0, 1) := by decide +kernel
theorem d_law_188 : decode code 188 = .ok (.iload_n 3, 1) := by decide +kernel
theorem d_law_189 : decode code 189 = .ok (.iconst 1, 1) := by decide +kernel
theorem d_law_190 : decode code 190 = .ok (.iadd, 1) := by decide +kernel
theorem d_law_191 : decode code 191 = .ok (.iaload, 1) := by decide +kernel
theorem d_law_192 : decode code 192 = .ok (.aload_n 0, 1) := by decide +kernel
theorem d_law_193 : decode code 193 = .ok (.iload_n 3, 1) := by decide +kernel
theorem d_law_194 : decode code 194 = .ok (.iconst 2, 1) := by decide +kernel
theorem d_law_195 : decode code 195 = .ok (.iadd, 1) := by decide +kernel
theorem d_law_196 : decode code 196 = .ok (.iaload, 1) := by decide +kernel
theorem d_law_197 : decode code 197 = .ok (.aload_n 0, 1) := by decide +kernel
theorem d_law_198 : decode code 198 = .ok (.iload_n 3, 1) := by decide +kernel
theorem d_law_199 : decode code 199 = .ok (.iconst 3, 1) := by decide +kernel
theorem d_law_200 : decode code 200 = .ok (.iadd, 1) := by decide +kernel
theorem d_law_201 : decode code 201 = .ok (.iaload, 1) := by decide +kernel
theorem d_law_202 : decode code 202 = .ok (.invokevirtual 23, 3) := by decide +kernel
theorem d_law_205 : decode code 205 = .ok (.aload_n 2, 1) := by decide +kernel
theorem d_law_206 : decode code 206 = .ok (.aload_n 0, 1) := by decide +kernel
theorem d_law_207 : decode code 207 = .ok (.iload_n 3, 1) := by decide +kernel
theorem d_law_208 : decode code 208 = .ok (.iconst 1, 1) := by decide +kernel
theorem d_law_209 : decode code 209 = .ok (.iadd, 1) := by decide +kernel
theorem d_law_210 : decode code 210 = .ok (.iaload, 1) := by decide +kernel
theorem d_law_211 : decode code 211 = .ok (.aload_n 0, 1) := by decide +kernel
theorem d_law_212 : decode code 212 = .ok (.iload_n 3, 1) := by decide +kernel
theorem d_law_213 : decode code 213 = .ok (.iconst 2, 1) := by decide +kernel
theorem d_law_214 : decode code 214 = .ok (.iadd, 1) := by decide +kernel
theorem d_law_215 : decode code 215 = .ok (.iaload, 1) := by decide +kernel
theorem d_law_216 : decode code 216 = .ok (.aload_n 0, 1) := by decide +kernel
theorem d_law_217 : decode code 217 = .ok (.iload_n 3, 1) := by decide +kernel
theorem d_law_218 : decode code 218 = .ok (.iconst 3, 1) := by decide +kernel
theorem d_law_219 : decode code 219 = .ok (.iadd, 1) := by decide +kernel
theorem d_law_220 : decode code 220 = .ok (.iaload, 1) := by decide +kernel
theorem d_law_221 : decode code 221 = .ok (.invokevirtual 27, 3) := by decide +kernel
theorem d_law_224 : decode code 224 = .ok (.if_icmp .eq 253, 3) := by decide +kernel
theorem d_law_227 : decode code 227 = .ok (.iconst 0, 1) := by decide +kernel
theorem d_law_228 : decode code 228 = .ok (.ireturn, 1) := by decide +kernel
theorem d_law_229 : decode code 229 = .ok (.aload_n 1, 1) := by decide +kernel
theorem d_law_230 : decode code 230 = .ok (.invokevirtual 28, 3) := by decide +kernel
theorem d_law_233 : decode code 233 = .ok (.aload_n 2, 1) := by decide +kernel
theorem d_law_234 : decode code 234 = .ok (.invokevirtual 31, 3) := by decide +kernel
theorem d_law_237 : decode code 237 = .ok (.goto 240, 3) := by decide +kernel
theorem d_law_240 : decode code 240 = .ok (.aload_n 1, 1) := by decide +kernel
theorem d_law_241 : decode code 241 = .ok (.invokevirtual 32, 3) := by decide +kernel
theorem d_law_244 : decode code 244 = .ok (.aload_n 2, 1) := by decide +kernel
theorem d_law_245 : decode code 245 = .ok (.invokevirtual 36, 3) := by decide +kernel
theorem d_law_248 : decode code 248 = .ok (.if_icmp .eq 229, 3) := by decide +kernel
theorem d_law_251 : decode code 251 = .ok (.iconst 0, 1) := by decide +kernel
theorem d_law_252 : decode code 252 = .ok (.ireturn, 1) := by decide +kernel
theorem d_law_253 : decode code 253 = .ok (.aload_n 1, 1) := by decide +kernel
theorem d_law_254 : decode code 254 = .ok (.invokevirtual 37, 3) := by decide +kernel
theorem d_law_257 : decode code 257 = .ok (.aload_n 2, 1) := by decide +kernel
theorem d_law_258 : decode code 258 = .ok (.invokevirtual 40, 3) := by decide +kernel
theorem d_law_261 : decode code 261 = .ok (.goto 216, 3) := by decide +kernel
theorem d_law_264 : decode code 264 = .ok (.aload_n 1, 1) := by decide +kernel
theorem d_law_265 : decode code 265 = .ok (.aload_n 0, 1) := by decide +kernel
theorem d_law_266 : decode code 266 = .ok (.iload_n 3, 1) := by decide +kernel
theorem d_law_267 : decode code 267 = .ok (.iconst 1, 1) := by decide +kernel
theorem d_law_268 : decode code 268 = .ok (.iadd, 1) := by decide +kernel
theorem d_law_269 : decode code 269 = .ok (.iaload, 1) := by decide +kernel
theorem d_law_270 : decode code 270 = .ok (.i2l, 1) := by decide +kernel
theorem d_law_271 : decode code 271 = .ok (.bipush 32, 2) := by decide +kernel
theorem d_law_273 : decode code 273 = .ok (.lshl, 1) := by decide +kernel
theorem d_law_274 : decode code 274 = .ok (.aload_n 0, 1) := by decide +kernel
theorem d_law_275 : decode code 275 = .ok (.iload_n 3, 1) := by decide +kernel
theorem d_law_276 : decode code 276 = .ok (.iconst 2, 1) := by decide +kernel
theorem d_law_277 : decode code 277 = .ok (.iadd, 1) := by decide +kernel
theorem d_law_278 : decode code 278 = .ok (.iaload, 1) := by decide +kernel
theorem d_law_279 : decode code 279 = .ok (.i2l, 1) := by decide +kernel
theorem d_law_280 : decode code 280 = .ok (.ldc2_w 41, 3) := by decide +kernel
theorem d_law_283 : decode code 283 = .ok (.land, 1) := by decide +kernel
theorem d_law_284 : decode code 284 = .ok (.lor, 1) := by decide +kernel
theorem d_law_285 : decode code 285 = .ok (.invokevirtual 43, 3) := by decide +kernel
theorem d_law_288 : decode code 288 = .ok (.aload_n 2, 1) := by decide +kernel
theorem d_law_289 : decode code 289 = .ok (.aload_n 0, 1) := by decide +kernel
theorem d_law_290 : decode code 290 = .ok (.iload_n 3, 1) := by decide +kernel
theorem d_law_291 : decode code 291 = .ok (.iconst 1, 1) := by decide +kernel
theorem d_law_292 : decode code 292 = .ok (.iadd, 1) := by decide +kernel
theorem d_law_293 : decode code 293 = .ok (.iaload, 1) := by decide +kernel
theorem d_law_294 : decode code 294 = .ok (.i2l, 1) := by decide +kernel
theorem d_law_295 : decode code 295 = .ok (.bipush 32, 2) := by decide +kernel
theorem d_law_297 : decode code 297 = .ok (.lshl, 1) := by decide +kernel
theorem d_law_298 : decode code 298 = .ok (.aload_n 0, 1) := by decide +kernel
theorem d_law_299 : decode code 299 = .ok (.iload_n 3, 1) := by decide +kernel
theorem d_law_300 : decode code 300 = .ok (.iconst 2, 1) := by decide +kernel
theorem d_law_301 : decode code 301 = .ok (.iadd, 1) := by decide +kernel
theorem d_law_302 : decode code 302 = .ok (.iaload, 1) := by decide +kernel
theorem d_law_303 : decode code 303 = .ok (.i2l, 1) := by decide +kernel
theorem d_law_304 : decode code 304 = .ok (.ldc2_w 41, 3) := by decide +kernel
theorem d_law_307 : decode code 307 = .ok (.land, 1) := by decide +kernel
theorem d_law_308 : decode code 308 = .ok (.lor, 1) := by decide +kernel
theorem d_law_309 : decode code 309 = .ok (.invokevirtual 47, 3) := by decide +kernel
theorem d_law_312 : decode code 312 = .ok (.lcmp, 1) := by decide +kernel
theorem d_law_313 : decode code 313 = .ok (.ifCond .eq 164, 3) := by decide +kernel
theorem d_law_316 : decode code 316 = .ok (.iconst 0, 1) := by decide +kernel
theorem d_law_317 : decode code 317 = .ok (.ireturn, 1) := by decide +kernel
theorem d_law_318 : decode code 318 = .ok (.aload_n 1, 1) := by decide +kernel
theorem d_law_319 : decode code 319 = .ok (.invokevirtual 48, 3) := by decide +kernel
theorem d_law_322 : decode code 322 = .ok (.aload_n 2, 1) := by decide +kernel
theorem d_law_323 : decode code 323 = .ok (.invokevirtual 52, 3) := by decide +kernel
theorem d_law_326 : decode code 326 = .ok (.if_icmp .eq 151, 3) := by decide +kernel
theorem d_law_329 : decode code 329 = .ok (.iconst 0, 1) := by decide +kernel
theorem d_law_330 : decode code 330 = .ok (.ireturn, 1) := by decide +kernel
theorem d_law_331 : decode code 331 = .ok (.aload_n 1, 1) := by decide +kernel
theorem d_law_332 : decode code 332 = .ok (.aload_n 0, 1) := by decide +kernel
theorem d_law_333 : decode code 333 = .ok (.iload_n 3, 1) := by decide +kernel
theorem d_law_334 : decode code 334 = .ok (.iconst 1, 1) := by decide +kernel
theorem d_law_335 : decode code 335 = .ok (.iadd, 1) := by decide +kernel
theorem d_law_336 : decode code 336 = .ok (.iaload, 1) := by decide +kernel
theorem d_law_337 : decode code 337 = .ok (.invokevirtual 53, 3) := by decide +kernel
theorem d_law_340 : decode code 340 = .ok (.aload_n 2, 1) := by decide +kernel
theorem d_law_341 : decode code 341 = .ok (.aload_n 0, 1) := by decide +kernel
theorem d_law_342 : decode code 342 = .ok (.iload_n 3, 1) := by decide +kernel
theorem d_law_343 : decode code 343 = .ok (.iconst 1, 1) := by decide +kernel
theorem d_law_344 : decode code 344 = .ok (.iadd, 1) := by decide +kernel
theorem d_law_345 : decode code 345 = .ok (.iaload, 1) := by decide +kernel
theorem d_law_346 : decode code 346 = .ok (.invokevirtual 56, 3) := by decide +kernel
theorem d_law_349 : decode code 349 = .ok (.if_icmp .eq 128, 3) := by decide +kernel
theorem d_law_352 : decode code 352 = .ok (.iconst 0, 1) := by decide +kernel
theorem d_law_353 : decode code 353 = .ok (.ireturn, 1) := by decide +kernel
theorem d_law_354 : decode code 354 = .ok (.aload_n 1, 1) := by decide +kernel
theorem d_law_355 : decode code 355 = .ok (.aload_n 0, 1) := by decide +kernel
theorem d_law_356 : decode code 356 = .ok (.iload_n 3, 1) := by decide +kernel
theorem d_law_357 : decode code 357 = .ok (.iconst 1, 1) := by decide +kernel
theorem d_law_358 : decode code 358 = .ok (.iadd, 1) := by decide +kernel
theorem d_law_359 : decode code 359 = .ok (.iaload, 1) := by decide +kernel
theorem d_law_360 : decode code 360 = .ok (.i2l, 1) := by decide +kernel
theorem d_law_361 : decode code 361 = .ok (.bipush 32, 2) := by decide +kernel
theorem d_law_363 : decode code 363 = .ok (.lshl, 1) := by decide +kernel
theorem d_law_364 : decode code 364 = .ok (.aload_n 0, 1) := by decide +kernel
theorem d_law_365 : decode code 365 = .ok (.iload_n 3, 1) := by decide +kernel
theorem d_law_366 : decode code 366 = .ok (.iconst 2, 1) := by decide +kernel
theorem d_law_367 : decode code 367 = .ok (.iadd, 1) := by decide +kernel
theorem d_law_368 : decode code 368 = .ok (.iaload, 1) := by decide +kernel
theorem d_law_369 : decode code 369 = .ok (.i2l, 1) := by decide +kernel
theorem d_law_370 : decode code 370 = .ok (.ldc2_w 41, 3) := by decide +kernel
theorem d_law_373 : decode code 373 = .ok (.land, 1) := by decide +kernel
theorem d_law_374 : decode code 374 = .ok (.lor, 1) := by decide +kernel
theorem d_law_375 : decode code 375 = .ok (.invokevirtual 57, 3) := by decide +kernel
theorem d_law_378 : decode code 378 = .ok (.aload_n 2, 1) := by decide +kernel
theorem d_law_379 : decode code 379 = .ok (.aload_n 0, 1) := by decide +kernel
theorem d_law_380 : decode code 380 = .ok (.iload_n 3, 1) := by decide +kernel
theorem d_law_381 : decode code 381 = .ok (.iconst 1, 1) := by decide +kernel
theorem d_law_382 : decode code 382 = .ok (.iadd, 1) := by decide +kernel
theorem d_law_383 : decode code 383 = .ok (.iaload, 1) := by decide +kernel
theorem d_law_384 : decode code 384 = .ok (.i2l, 1) := by decide +kernel
theorem d_law_385 : decode code 385 = .ok (.bipush 32, 2) := by decide +kernel
theorem d_law_387 : decode code 387 = .ok (.lshl, 1) := by decide +kernel
theorem d_law_388 : decode code 388 = .ok (.aload_n 0, 1) := by decide +kernel
theorem d_law_389 : decode code 389 = .ok (.iload_n 3, 1) := by decide +kernel
theorem d_law_390 : decode code 390 = .ok (.iconst 2, 1) := by decide +kernel
theorem d_law_391 : decode code 391 = .ok (.iadd, 1) := by decide +kernel
theorem d_law_392 : decode code 392 = .ok (.iaload, 1) := by decide +kernel
theorem d_law_393 : decode code 393 = .ok (.i2l, 1) := by decide +kernel
theorem d_law_394 : decode code 394 = .ok (.ldc2_w 41, 3) := by decide +kernel
theorem d_law_397 : decode code 397 = .ok (.land, 1) := by decide +kernel
theorem d_law_398 : decode code 398 = .ok (.lor, 1) := by decide +kernel
theorem d_law_399 : decode code 399 = .ok (.invokevirtual 60, 3) := by decide +kernel
theorem d_law_402 : decode code 402 = .ok (.lcmp, 1) := by decide +kernel
theorem d_law_403 : decode code 403 = .ok (.ifCond .eq 74, 3) := by decide +kernel
theorem d_law_406 : decode code 406 = .ok (.iconst 0, 1) := by decide +kernel
theorem d_law_407 : decode code 407 = .ok (.ireturn, 1) := by decide +kernel
theorem d_law_408 : decode code 408 = .ok (.aload_n 1, 1) := by decide +kernel
theorem d_law_409 : decode code 409 = .ok (.aload_n 0, 1) := by decide +kernel
theorem d_law_410 : decode code 410 = .ok (.iload_n 3, 1) := by decide +kernel
theorem d_law_411 : decode code 411 = .ok (.iconst 1, 1) := by decide +kernel
theorem d_law_412 : decode code 412 = .ok (.iadd, 1) := by decide +kernel
theorem d_law_413 : decode code 413 = .ok (.iaload, 1) := by decide +kernel
theorem d_law_414 : decode code 414 = .ok (.invokevirtual 61, 3) := by decide +kernel
theorem d_law_417 : decode code 417 = .ok (.aload_n 2, 1) := by decide +kernel
theorem d_law_418 : decode code 418 = .ok (.aload_n 0, 1) := by decide +kernel
theorem d_law_419 : decode code 419 = .ok (.iload_n 3, 1) := by decide +kernel
theorem d_law_420 : decode code 420 = .ok (.iconst 1, 1) := by decide +kernel
theorem d_law_421 : decode code 421 = .ok (.iadd, 1) := by decide +kernel
theorem d_law_422 : decode code 422 = .ok (.iaload, 1) := by decide +kernel
theorem d_law_423 : decode code 423 = .ok (.invokevirtual 65, 3) := by decide +kernel
theorem d_law_426 : decode code 426 = .ok (.if_icmp .eq 51, 3) := by decide +kernel
theorem d_law_429 : decode code 429 = .ok (.iconst 0, 1) := by decide +kernel
theorem d_law_430 : decode code 430 = .ok (.ireturn, 1) := by decide +kernel
theorem d_law_431 : decode code 431 = .ok (.aload_n 1, 1) := by decide +kernel
theorem d_law_432 : decode code 432 = .ok (.aload_n 0, 1) := by decide +kernel
theorem d_law_433 : decode code 433 = .ok (.iload_n 3, 1) := by decide +kernel
theorem d_law_434 : decode code 434 = .ok (.iconst 1, 1) := by decide +kernel
theorem d_law_435 : decode code 435 = .ok (.iadd, 1) := by decide +kernel
theorem d_law_436 : decode code 436 = .ok (.iaload, 1) := by decide +kernel
theorem d_law_437 : decode code 437 = .ok (.invokevirtual 66, 3) := by decide +kernel
theorem d_law_440 : decode code 440 = .ok (.aload_n 2, 1) := by decide +kernel
theorem d_law_441 : decode code 441 = .ok (.aload_n 0, 1) := by decide +kernel
theorem d_law_442 : decode code 442 = .ok (.iload_n 3, 1) := by decide +kernel
theorem d_law_443 : decode code 443 = .ok (.iconst 1, 1) := by decide +kernel
theorem d_law_444 : decode code 444 = .ok (.iadd, 1) := by decide +kernel
theorem d_law_445 : decode code 445 = .ok (.iaload, 1) := by decide +kernel
theorem d_law_446 : decode code 446 = .ok (.invokevirtual 69, 3) := by decide +kernel
theorem d_law_449 : decode code 449 = .ok (.if_icmp .eq 28, 3) := by decide +kernel
theorem d_law_452 : decode code 452 = .ok (.iconst 0, 1) := by decide +kernel
theorem d_law_453 : decode code 453 = .ok (.ireturn, 1) := by decide +kernel
theorem d_law_454 : decode code 454 = .ok (.aload_n 1, 1) := by decide +kernel
theorem d_law_455 : decode code 455 = .ok (.aload_n 0, 1) := by decide +kernel
theorem d_law_456 : decode code 456 = .ok (.iload_n 3, 1) := by decide +kernel
theorem d_law_457 : decode code 457 = .ok (.iconst 1, 1) := by decide +kernel
theorem d_law_458 : decode code 458 = .ok (.iadd, 1) := by decide +kernel
theorem d_law_459 : decode code 459 = .ok (.iaload, 1) := by decide +kernel
theorem d_law_460 : decode code 460 = .ok (.invokevirtual 70, 3) := by decide +kernel
theorem d_law_463 : decode code 463 = .ok (.aload_n 2, 1) := by decide +kernel
theorem d_law_464 : decode code 464 = .ok (.aload_n 0, 1) := by decide +kernel
theorem d_law_465 : decode code 465 = .ok (.iload_n 3, 1) := by decide +kernel
theorem d_law_466 : decode code 466 = .ok (.iconst 1, 1) := by decide +kernel
theorem d_law_467 : decode code 467 = .ok (.iadd, 1) := by decide +kernel
theorem d_law_468 : decode code 468 = .ok (.iaload, 1) := by decide +kernel
theorem d_law_469 : decode code 469 = .ok (.invokevirtual 73, 3) := by decide +kernel
theorem d_law_472 : decode code 472 = .ok (.if_icmp .eq 5, 3) := by decide +kernel
theorem d_law_475 : decode code 475 = .ok (.iconst 0, 1) := by decide +kernel
theorem d_law_476 : decode code 476 = .ok (.ireturn, 1) := by decide +kernel
theorem d_law_477 : decode code 477 = .ok (.iinc 3 6, 3) := by decide +kernel
theorem d_law_480 : decode code 480 = .ok (.goto (-462), 3) := by decide +kernel
theorem d_law_483 : decode code 483 = .ok (.iconst 1, 1) := by decide +kernel
theorem d_law_484 : decode code 484 = .ok (.ireturn, 1) := by decide +kernel
end
section
theorem m_Peer_1 : Cond.methodLink R_Peer 1 objectInit ∈ zTB := zTB_of (List.mem_of_getElem? (i := 38) (by decide +kernel)) (by decide +kernel)
theorem m_Peer_7 : Cond.classLink R_Peer 7 R_Bytes ∈ zTB := zTB_of (List.mem_of_getElem? (i := 41) (by decide +kernel)) (by decide +kernel)
theorem m_Peer_11 : zk_wI R_Peer 11 y_Bytes_init b_Bytes_init 2 1 := ⟨⟨zTB_of (List.mem_of_getElem? (i := 43) (by decide +kernel)) (by decide +kernel), zTB_of (List.mem_of_getElem? (i := 44) (by decide +kernel)) (by decide +kernel), zTB_of (List.mem_of_getElem? (i := 24) (by decide +kernel)) (by decide +kernel), rfl⟩, zTB_of (List.mem_of_getElem? (i := 45) (by decide +kernel)) (by decide +kernel), by decide +kernel, by decide +kernel, by decide +kernel⟩
theorem m_Peer_14 : Cond.fieldLink R_Peer 14 "PeerLine" "tape" "LPeerLine$Bytes;" ∈ zTB := zTB_of (List.mem_of_getElem? (i := 86) (by decide +kernel)) (by decide +kernel)
theorem m_Peer_18 : Cond.fieldLink R_Peer 18 "PeerLine" "line" "LPeerLine$Bytes;" ∈ zTB := zTB_of (List.mem_of_getElem? (i := 87) (by decide +kernel)) (by decide +kernel)
theorem m_Peer_21 : Cond.fieldLink R_Peer 21 "PeerLine" "buffer" "LPeerLine$Bytes;" ∈ zTB := zTB_of (List.mem_of_getElem? (i := 88) (by decide +kernel)) (by decide +kernel)
theorem m_Peer_24 : Cond.constant R_Peer 24 32768 ∈ zTB := zTB_of (List.mem_of_getElem? (i := 64) (by decide +kernel)) (by decide +kernel)
theorem m_Peer_25 : Cond.fieldLink R_Peer 25 "PeerLine" "transcript" "LPeerLine$Bytes;" ∈ zTB := zTB_of (List.mem_of_getElem? (i := 89) (by decide +kernel)) (by decide +kernel)
theorem m_Peer_28 : Cond.classLink R_Peer 28 R_Rule ∈ zTB := zTB_of (List.mem_of_getElem? (i := 65) (by decide +kernel)) (by decide +kernel)
theorem m_Peer_30 : Cond.fieldLink R_Peer 30 "PeerLine" "rules" "[LPeerLine$Rule;" ∈ zTB := zTB_of (List.mem_of_getElem? (i := 90) (by decide +kernel)) (by decide +kernel)
theorem m_Peer_34 : Cond.classLink R_Peer 34 R_Coming ∈ zTB := zTB_of (List.mem_of_getElem? (i := 67) (by decide +kernel)) (by decide +kernel)
theorem m_Peer_36 : zk_wI R_Peer 36 y_Coming_init b_Coming_init 1 0 := ⟨⟨zTB_of (List.mem_of_getElem? (i := 69) (by decide +kernel)) (by decide +kernel), zTB_of (List.mem_of_getElem? (i := 70) (by decide +kernel)) (by decide +kernel), zTB_of (List.mem_of_getElem? (i := 26) (by decide +kernel)) (by decide +kernel), rfl⟩, zTB_of (List.mem_of_getElem? (i := 71) (by decide +kernel)) (by decide +kernel), by decide +kernel, by decide +kernel, by decide +kernel⟩
theorem m_Peer_37 : Cond.fieldLink R_Peer 37 "PeerLine" "coming" "LPeerLine$Coming;" ∈ zTB := zTB_of (List.mem_of_getElem? (i := 91) (by decide +kernel)) (by decide +kernel)
theorem m_Peer_41 : Cond.fieldLink R_Peer 41 "PeerLine" "ruleCount" "I" ∈ zTB := zTB_of (List.mem_of_getElem? (i := 92) (by decide +kernel)) (by decide +kernel)
theorem m_Peer_45 : Cond.fieldLink R_Peer 45 "PeerLine" "hasPeer" "Z" ∈ zTB := zTB_of (List.mem_of_getElem? (i := 93) (by decide +kernel)) (by decide +kernel)
theorem m_Peer_49 : Cond.fieldLink R_Peer 49 "PeerLine" "peerState" "I" ∈ zTB := zTB_of (List.mem_of_getElem? (i := 94) (by decide +kernel)) (by decide +kernel)
theorem m_Peer_52 : Cond.fieldLink R_Peer 52 "PeerLine" "time" "J" ∈ zTB := zTB_of (List.mem_of_getElem? (i := 95) (by decide +kernel)) (by decide +kernel)
theorem m_Peer_56 : zk_wV R_Peer 56 y_Bytes_hasRoomFor b_Bytes_hasRoomFor 2 (some .boolean) 1 := ⟨⟨zTB_of (List.mem_of_getElem? (i := 121) (by decide +kernel)) (by decide +kernel), zTB_of (List.mem_of_getElem? (i := 122) (by decide +kernel)) (by decide +kernel), zTB_of (List.mem_of_getElem? (i := 123) (by decide +kernel)) (by decide +kernel), zTB_of (List.mem_of_getElem? (i := 24) (by decide +kernel)) (by decide +kernel)⟩, zTB_of (List.mem_of_getElem? (i := 124) (by decide +kernel)) (by decide +kernel), by decide +kernel, by decide +kernel, by decide +kernel⟩
theorem m_Peer_60 : zk_wV R_Peer 60 y_Bytes_appendNumber b_Bytes_appendNumber 2 none 1 := ⟨⟨zTB_of (List.mem_of_getElem? (i := 125) (by decide +kernel)) (by decide +kernel), zTB_of (List.mem_of_getElem? (i := 126) (by decide +kernel)) (by decide +kernel), zTB_of (List.mem_of_getElem? (i := 127) (by decide +kernel)) (by decide +kernel), zTB_of (List.mem_of_getElem? (i := 24) (by decide +kernel)) (by decide +kernel)⟩, zTB_of (List.mem_of_getElem? (i := 128) (by decide +kernel)) (by decide +kernel), by decide +kernel, by decide +kernel, by decide +kernel⟩
theorem m_Peer_63 : zk_wV R_Peer 63 y_Bytes_keepFirst b_Bytes_keepFirst 2 (some .boolean) 1 := ⟨⟨zTB_of (List.mem_of_getElem? (i := 151) (by decide +kernel)) (by decide +kernel), zTB_of (List.mem_of_getElem? (i := 152) (by decide +kernel)) (by decide +kernel), zTB_of (List.mem_of_getElem? (i := 153) (by decide +kernel)) (by decide +kernel), zTB_of (List.mem_of_getElem? (i := 24) (by decide +kernel)) (by decide +kernel)⟩, zTB_of (List.mem_of_getElem? (i := 154) (by decide +kernel)) (by decide +kernel), by decide +kernel, by decide +kernel, by decide +kernel⟩
theorem m_Peer_66 : zk_wV R_Peer 66 y_Bytes_firstZero b_Bytes_firstZero 2 (some .int) 0 := ⟨⟨zTB_of (List.mem_of_getElem? (i := 159) (by decide +kernel)) (by decide +kernel), zTB_of (List.mem_of_getElem? (i := 160) (by decide +kernel)) (by decide +kernel), zTB_of (List.mem_of_getElem? (i := 161) (by decide +kernel)) (by decide +kernel), zTB_of (List.mem_of_getElem? (i := 24) (by decide +kernel)) (by decide +kernel)⟩, zTB_of (List.mem_of_getElem? (i := 162) (by decide +kernel)) (by decide +kernel), by decide +kernel, by decide +kernel, by decide +kernel⟩
theorem m_Peer_70 : zk_wS R_Peer 70 y_Peer_isState b_Peer_isState 1 (some .boolean) 1 := ⟨⟨zTB_of (List.mem_of_getElem? (i := 167) (by decide +kernel)) (by decide +kernel), zTB_of (List.mem_of_getElem? (i := 168) (by decide +kernel)) (by decide +kernel), zTB_of (List.mem_of_getElem? (i := 23) (by decide +kernel)) (by decide +kernel)⟩, zTB_of (List.mem_of_getElem? (i := 169) (by decide +kernel)) (by decide +kernel), by decide +kernel, by decide +kernel, by decide +kernel⟩
theorem m_Peer_73 : zk_wV R_Peer 73 y_Peer_tapeIsRule b_Peer_tapeIsRule 2 (some .boolean) 1 := ⟨⟨zTB_of (List.mem_of_getElem? (i := 170) (by decide +kernel)) (by decide +kernel), zTB_of (List.mem_of_getElem? (i := 172) (by decide +kernel)) (by decide +kernel), zTB_of (List.mem_of_getElem? (i := 0) (by decide +kernel)) (by decide +kernel), zTB_of (List.mem_of_getElem? (i := 23) (by decide +kernel)) (by decide +kernel)⟩, zTB_of (List.mem_of_getElem? (i := 173) (by decide +kernel)) (by decide +kernel), by decide +kernel, by decide +kernel, by decide +kernel⟩
theorem m_Peer_76 : Cond.classLink R_Peer 76 R_Pattern ∈ zTB := zTB_of (List.mem_of_getElem? (i := 178) (by decide +kernel)) (by decide +kernel)
theorem m_Peer_78 : zk_wI R_Peer 78 y_Pattern_init b_Pattern_init 5 2 := ⟨⟨zTB_of (List.mem_of_getElem? (i := 180) (by decide +kernel)) (by decide +kernel), zTB_of (List.mem_of_getElem? (i := 181) (by decide +kernel)) (by decide +kernel), zTB_of (List.mem_of_getElem? (i := 30) (by decide +kernel)) (by decide +kernel), rfl⟩, zTB_of (List.mem_of_getElem? (i := 182) (by decide +kernel)) (by decide +kernel), by decide +kernel, by decide +kernel, by decide +kernel⟩
theorem m_Peer_81 : zk_wV R_Peer 81 y_Bytes_copyFrom b_Bytes_copyFrom 5 (some (.object "PeerLine$Bytes")) 2 := ⟨⟨zTB_of (List.mem_of_getElem? (i := 245) (by decide +kernel)) (by decide +kernel), zTB_of (List.mem_of_getElem? (i := 246) (by decide +kernel)) (by decide +kernel), zTB_of (List.mem_of_getElem? (i := 247) (by decide +kernel)) (by decide +kernel), zTB_of (List.mem_of_getElem? (i := 24) (by decide +kernel)) (by decide +kernel)⟩, zTB_of (List.mem_of_getElem? (i := 248) (by decide +kernel)) (by decide +kernel), by decide +kernel, by decide +kernel, by decide +kernel⟩
theorem m_Peer_85 : zk_wI R_Peer 85 y_Rule_init b_Rule_init 6 5 := ⟨⟨zTB_of (List.mem_of_getElem? (i := 251) (by decide +kernel)) (by decide +kernel), zTB_of (List.mem_of_getElem? (i := 252) (by decide +kernel)) (by decide +kernel), zTB_of (List.mem_of_getElem? (i := 32) (by decide +kernel)) (by decide +kernel), rfl⟩, zTB_of (List.mem_of_getElem? (i := 253) (by decide +kernel)) (by decide +kernel), by decide +kernel, by decide +kernel, by decide +kernel⟩
theorem m_Peer_88 : zk_wV R_Peer 88 y_Bytes_clear b_Bytes_clear 1 none 0 := ⟨⟨zTB_of (List.mem_of_getElem? (i := 276) (by decide +kernel)) (by decide +kernel), zTB_of (List.mem_of_getElem? (i := 277) (by decide +kernel)) (by decide +kernel), zTB_of (List.mem_of_getElem? (i := 278) (by decide +kernel)) (by decide +kernel), zTB_of (List.mem_of_getElem? (i := 24) (by decide +kernel)) (by decide +kernel)⟩, zTB_of (List.mem_of_getElem? (i := 279) (by decide +kernel)) (by decide +kernel), by decide +kernel, by decide +kernel, by decide +kernel⟩
theorem m_Peer_91 : zk_wV R_Peer 91 y_Coming_clear b_Coming_clear 1 none 0 := ⟨⟨zTB_of (List.mem_of_getElem? (i := 284) (by decide +kernel)) (by decide +kernel), zTB_of (List.mem_of_getElem? (i := 285) (by decide +kernel)) (by decide +kernel), zTB_of (List.mem_of_getElem? (i := 286) (by decide +kernel)) (by decide +kernel), zTB_of (List.mem_of_getElem? (i := 26) (by decide +kernel)) (by decide +kernel)⟩, zTB_of (List.mem_of_getElem? (i := 287) (by decide +kernel)) (by decide +kernel), by decide +kernel, by decide +kernel, by decide +kernel⟩
theorem m_Peer_92 : zk_wV R_Peer 92 y_Peer_answerLine b_Peer_answerLine 3 none 0 := ⟨⟨zTB_of (List.mem_of_getElem? (i := 288) (by decide +kernel)) (by decide +kernel), zTB_of (List.mem_of_getElem? (i := 290) (by decide +kernel)) (by decide +kernel), zTB_of (List.mem_of_getElem? (i := 5) (by decide +kernel)) (by decide +kernel), zTB_of (List.mem_of_getElem? (i := 23) (by decide +kernel)) (by decide +kernel)⟩, zTB_of (List.mem_of_getElem? (i := 291) (by decide +kernel)) (by decide +kernel), by decide +kernel, by decide +kernel, by decide +kernel⟩
theorem m_Peer_95 : zk_wV R_Peer 95 y_Peer_tell b_Peer_tell 5 none 3 := ⟨⟨zTB_of (List.mem_of_getElem? (i := 329) (by decide +kernel)) (by decide +kernel), zTB_of (List.mem_of_getElem? (i := 331) (by decide +kernel)) (by decide +kernel), zTB_of (List.mem_of_getElem? (i := 12) (by decide +kernel)) (by decide +kernel), zTB_of (List.mem_of_getElem? (i := 23) (by decide +kernel)) (by decide +kernel)⟩, zTB_of (List.mem_of_getElem? (i := 332) (by decide +kernel)) (by decide +kernel), by decide +kernel, by decide +kernel, by decide +kernel⟩
theorem m_Peer_99 : zk_wV R_Peer 99 y_Peer_giveTapeToPeer b_Peer_giveTapeToPeer 3 none 0 := ⟨⟨zTB_of (List.mem_of_getElem? (i := 339) (by decide +kernel)) (by decide +kernel), zTB_of (List.mem_of_getElem? (i := 341) (by decide +kernel)) (by decide +kernel), zTB_of (List.mem_of_getElem? (i := 13) (by decide +kernel)) (by decide +kernel), zTB_of (List.mem_of_getElem? (i := 23) (by decide +kernel)) (by decide +kernel)⟩, zTB_of (List.mem_of_getElem? (i := 342) (by decide +kernel)) (by decide +kernel), by decide +kernel, by decide +kernel, by decide +kernel⟩
theorem m_Peer_102 : zk_wV R_Peer 102 y_Coming_first b_Coming_first 1 (some (.object "PeerLine$Bytes")) 0 := ⟨⟨zTB_of (List.mem_of_getElem? (i := 352) (by decide +kernel)) (by decide +kernel), zTB_of (List.mem_of_getElem? (i := 353) (by decide +kernel)) (by decide +kernel), zTB_of (List.mem_of_getElem? (i := 354) (by decide +kernel)) (by decide +kernel), zTB_of (List.mem_of_getElem? (i := 26) (by decide +kernel)) (by decide +kernel)⟩, zTB_of (List.mem_of_getElem? (i := 355) (by decide +kernel)) (by decide +kernel), by decide +kernel, by decide +kernel, by decide +kernel⟩
theorem m_Peer_106 : zk_wV R_Peer 106 y_Coming_firstTime b_Coming_firstTime 1 (some .long) 0 := ⟨⟨zTB_of (List.mem_of_getElem? (i := 356) (by decide +kernel)) (by decide +kernel), zTB_of (List.mem_of_getElem? (i := 357) (by decide +kernel)) (by decide +kernel), zTB_of (List.mem_of_getElem? (i := 358) (by decide +kernel)) (by decide +kernel), zTB_of (List.mem_of_getElem? (i := 26) (by decide +kernel)) (by decide +kernel)⟩, zTB_of (List.mem_of_getElem? (i := 359) (by decide +kernel)) (by decide +kernel), by decide +kernel, by decide +kernel, by decide +kernel⟩
theorem m_Peer_110 : Cond.constantLong R_Peer 110 (-1) ∈ zTB := zTB_of (List.mem_of_getElem? (i := 360) (by decide +kernel)) (by decide +kernel)
theorem m_Peer_112 : Cond.methodLink R_Peer 112 Lib.MathLoose.max_long.x ∈ zTB := zTB_of (List.mem_of_getElem? (i := 361) (by decide +kernel)) (by decide +kernel)
theorem m_Peer_118 : zk_wV R_Peer 118 y_Coming_dropFirst b_Coming_dropFirst 2 none 0 := ⟨⟨zTB_of (List.mem_of_getElem? (i := 364) (by decide +kernel)) (by decide +kernel), zTB_of (List.mem_of_getElem? (i := 365) (by decide +kernel)) (by decide +kernel), zTB_of (List.mem_of_getElem? (i := 366) (by decide +kernel)) (by decide +kernel), zTB_of (List.mem_of_getElem? (i := 26) (by decide +kernel)) (by decide +kernel)⟩, zTB_of (List.mem_of_getElem? (i := 367) (by decide +kernel)) (by decide +kernel), by decide +kernel, by decide +kernel, by decide +kernel⟩
theorem m_Peer_121 : zk_wV R_Peer 121 y_Bytes_size b_Bytes_size 1 (some .int) 0 := ⟨⟨zTB_of (List.mem_of_getElem? (i := 174) (by decide +kernel)) (by decide +kernel), zTB_of (List.mem_of_getElem? (i := 175) (by decide +kernel)) (by decide +kernel), zTB_of (List.mem_of_getElem? (i := 176) (by decide +kernel)) (by decide +kernel), zTB_of (List.mem_of_getElem? (i := 24) (by decide +kernel)) (by decide +kernel)⟩, zTB_of (List.mem_of_getElem? (i := 177) (by decide +kernel)) (by decide +kernel), by decide +kernel, by decide +kernel, by decide +kernel⟩
theorem m_Peer_124 : Cond.methodLink R_Peer 124 Lib.Math.max.name ∈ zTB := zTB_of (List.mem_of_getElem? (i := 368) (by decide +kernel)) (by decide +kernel)
theorem m_Peer_127 : zk_wV R_Peer 127 y_Bytes_dropFirst b_Bytes_dropFirst 2 (some .boolean) 1 := ⟨⟨zTB_of (List.mem_of_getElem? (i := 369) (by decide +kernel)) (by decide +kernel), zTB_of (List.mem_of_getElem? (i := 370) (by decide +kernel)) (by decide +kernel), zTB_of (List.mem_of_getElem? (i := 371) (by decide +kernel)) (by decide +kernel), zTB_of (List.mem_of_getElem? (i := 24) (by decide +kernel)) (by decide +kernel)⟩, zTB_of (List.mem_of_getElem? (i := 372) (by decide +kernel)) (by decide +kernel), by decide +kernel, by decide +kernel, by decide +kernel⟩
theorem m_Peer_129 : zk_wV R_Peer 129 y_Bytes_appendAll b_Bytes_appendAll 3 none 1 := ⟨⟨zTB_of (List.mem_of_getElem? (i := 334) (by decide +kernel)) (by decide +kernel), zTB_of (List.mem_of_getElem? (i := 335) (by decide +kernel)) (by decide +kernel), zTB_of (List.mem_of_getElem? (i := 336) (by decide +kernel)) (by decide +kernel), zTB_of (List.mem_of_getElem? (i := 24) (by decide +kernel)) (by decide +kernel)⟩, zTB_of (List.mem_of_getElem? (i := 337) (by decide +kernel)) (by decide +kernel), by decide +kernel, by decide +kernel, by decide +kernel⟩
theorem m_Peer_133 : zk_wV R_Peer 133 y_Pattern_shortestBeginning b_Pattern_shortestBeginning 2 (some .int) 1 := ⟨⟨zTB_of (List.mem_of_getElem? (i := 378) (by decide +kernel)) (by decide +kernel), zTB_of (List.mem_of_getElem? (i := 379) (by decide +kernel)) (by decide +kernel), zTB_of (List.mem_of_getElem? (i := 380) (by decide +kernel)) (by decide +kernel), zTB_of (List.mem_of_getElem? (i := 30) (by decide +kernel)) (by decide +kernel)⟩, zTB_of (List.mem_of_getElem? (i := 381) (by decide +kernel)) (by decide +kernel), by decide +kernel, by decide +kernel, by decide +kernel⟩
theorem m_Peer_137 : Cond.constantLong R_Peer 137 1000000 ∈ zTB := zTB_of (List.mem_of_getElem? (i := 390) (by decide +kernel)) (by decide +kernel)
theorem m_Peer_139 : Cond.methodLink R_Peer 139 Lib.MathLoose.min_long.x ∈ zTB := zTB_of (List.mem_of_getElem? (i := 391) (by decide +kernel)) (by decide +kernel)
theorem m_Peer_142 : zk_wV R_Peer 142 y_Coming_size b_Coming_size 1 (some .int) 0 := ⟨⟨zTB_of (List.mem_of_getElem? (i := 398) (by decide +kernel)) (by decide +kernel), zTB_of (List.mem_of_getElem? (i := 399) (by decide +kernel)) (by decide +kernel), zTB_of (List.mem_of_getElem? (i := 400) (by decide +kernel)) (by decide +kernel), zTB_of (List.mem_of_getElem? (i := 26) (by decide +kernel)) (by decide +kernel)⟩, zTB_of (List.mem_of_getElem? (i := 401) (by decide +kernel)) (by decide +kernel), by decide +kernel, by decide +kernel, by decide +kernel⟩
theorem m_Peer_143 : zk_wV R_Peer 143 y_Bytes_at b_Bytes_at 2 (some .int) 1 := ⟨⟨zTB_of (List.mem_of_getElem? (i := 343) (by decide +kernel)) (by decide +kernel), zTB_of (List.mem_of_getElem? (i := 164) (by decide +kernel)) (by decide +kernel), zTB_of (List.mem_of_getElem? (i := 165) (by decide +kernel)) (by decide +kernel), zTB_of (List.mem_of_getElem? (i := 24) (by decide +kernel)) (by decide +kernel)⟩, zTB_of (List.mem_of_getElem? (i := 166) (by decide +kernel)) (by decide +kernel), by decide +kernel, by decide +kernel, by decide +kernel⟩
theorem m_Peer_147 : zk_wV R_Peer 147 y_Bytes_append b_Bytes_append 2 none 1 := ⟨⟨zTB_of (List.mem_of_getElem? (i := 333) (by decide +kernel)) (by decide +kernel), zTB_of (List.mem_of_getElem? (i := 130) (by decide +kernel)) (by decide +kernel), zTB_of (List.mem_of_getElem? (i := 131) (by decide +kernel)) (by decide +kernel), zTB_of (List.mem_of_getElem? (i := 24) (by decide +kernel)) (by decide +kernel)⟩, zTB_of (List.mem_of_getElem? (i := 132) (by decide +kernel)) (by decide +kernel), by decide +kernel, by decide +kernel, by decide +kernel⟩
theorem m_Peer_157 : zk_wV R_Peer 157 y_Pattern_fitsWhole b_Pattern_fitsWhole 5 (some .boolean) 1 := ⟨⟨zTB_of (List.mem_of_getElem? (i := 292) (by decide +kernel)) (by decide +kernel), zTB_of (List.mem_of_getElem? (i := 293) (by decide +kernel)) (by decide +kernel), zTB_of (List.mem_of_getElem? (i := 294) (by decide +kernel)) (by decide +kernel), zTB_of (List.mem_of_getElem? (i := 30) (by decide +kernel)) (by decide +kernel)⟩, zTB_of (List.mem_of_getElem? (i := 295) (by decide +kernel)) (by decide +kernel), by decide +kernel, by decide +kernel, by decide +kernel⟩
theorem m_Peer_170 : zk_wV R_Peer 170 y_Coming_add b_Coming_add 5 none 2 := ⟨⟨zTB_of (List.mem_of_getElem? (i := 321) (by decide +kernel)) (by decide +kernel), zTB_of (List.mem_of_getElem? (i := 322) (by decide +kernel)) (by decide +kernel), zTB_of (List.mem_of_getElem? (i := 323) (by decide +kernel)) (by decide +kernel), zTB_of (List.mem_of_getElem? (i := 26) (by decide +kernel)) (by decide +kernel)⟩, zTB_of (List.mem_of_getElem? (i := 324) (by decide +kernel)) (by decide +kernel), by decide +kernel, by decide +kernel, by decide +kernel⟩
theorem m_Model_1 : Cond.methodLink R_Model 1 objectInit ∈ zTB := zTB_of (List.mem_of_getElem? (i := 415) (by decide +kernel)) (by decide +kernel)
theorem m_Model_7 : Cond.fieldLink R_Model 7 "PeerLineModel" "tape" "[B" ∈ zTB := zTB_of (List.mem_of_getElem? (i := 417) (by decide +kernel)) (by decide +kernel)
theorem m_Model_13 : Cond.fieldLink R_Model 13 "PeerLineModel" "state" "[I" ∈ zTB := zTB_of (List.mem_of_getElem? (i := 420) (by decide +kernel)) (by decide +kernel)
theorem m_Model_17 : Cond.fieldLink R_Model 17 "PeerLineModel" "delay" "[I" ∈ zTB := zTB_of (List.mem_of_getElem? (i := 421) (by decide +kernel)) (by decide +kernel)
theorem m_Model_20 : Cond.fieldLink R_Model 20 "PeerLineModel" "next" "[I" ∈ zTB := zTB_of (List.mem_of_getElem? (i := 422) (by decide +kernel)) (by decide +kernel)
theorem m_Model_23 : Cond.fieldLink R_Model 23 "PeerLineModel" "patternSize" "[I" ∈ zTB := zTB_of (List.mem_of_getElem? (i := 423) (by decide +kernel)) (by decide +kernel)
theorem m_Model_26 : Cond.fieldLink R_Model 26 "PeerLineModel" "answerSize" "[I" ∈ zTB := zTB_of (List.mem_of_getElem? (i := 424) (by decide +kernel)) (by decide +kernel)
theorem m_Model_29 : Cond.fieldLink R_Model 29 "PeerLineModel" "patterns" "[B" ∈ zTB := zTB_of (List.mem_of_getElem? (i := 425) (by decide +kernel)) (by decide +kernel)
theorem m_Model_32 : Cond.fieldLink R_Model 32 "PeerLineModel" "answers" "[B" ∈ zTB := zTB_of (List.mem_of_getElem? (i := 426) (by decide +kernel)) (by decide +kernel)
theorem m_Model_35 : Cond.fieldLink R_Model 35 "PeerLineModel" "line" "[B" ∈ zTB := zTB_of (List.mem_of_getElem? (i := 430) (by decide +kernel)) (by decide +kernel)
theorem m_Model_38 : Cond.fieldLink R_Model 38 "PeerLineModel" "when" "[J" ∈ zTB := zTB_of (List.mem_of_getElem? (i := 432) (by decide +kernel)) (by decide +kernel)
theorem m_Model_42 : Cond.fieldLink R_Model 42 "PeerLineModel" "which" "[I" ∈ zTB := zTB_of (List.mem_of_getElem? (i := 433) (by decide +kernel)) (by decide +kernel)
theorem m_Model_45 : Cond.fieldLink R_Model 45 "PeerLineModel" "buffer" "[B" ∈ zTB := zTB_of (List.mem_of_getElem? (i := 437) (by decide +kernel)) (by decide +kernel)
theorem m_Model_48 : Cond.constant R_Model 48 32768 ∈ zTB := zTB_of (List.mem_of_getElem? (i := 416) (by decide +kernel)) (by decide +kernel)
theorem m_Model_49 : Cond.fieldLink R_Model 49 "PeerLineModel" "transcript" "[B" ∈ zTB := zTB_of (List.mem_of_getElem? (i := 438) (by decide +kernel)) (by decide +kernel)
theorem m_Model_52 : Cond.fieldLink R_Model 52 "PeerLineModel" "fits" "[Z" ∈ zTB := zTB_of (List.mem_of_getElem? (i := 439) (by decide +kernel)) (by decide +kernel)
theorem m_Model_56 : Cond.fieldLink R_Model 56 "PeerLineModel" "taped" "I" ∈ zTB := zTB_of (List.mem_of_getElem? (i := 418) (by decide +kernel)) (by decide +kernel)
theorem m_Model_60 : zk_wV R_Model 60 y_Model_lay b_Model_lay 3 none 1 := ⟨⟨zTB_of (List.mem_of_getElem? (i := 492) (by decide +kernel)) (by decide +kernel), zTB_of (List.mem_of_getElem? (i := 494) (by decide +kernel)) (by decide +kernel), zTB_of (List.mem_of_getElem? (i := 14) (by decide +kernel)) (by decide +kernel), zTB_of (List.mem_of_getElem? (i := 27) (by decide +kernel)) (by decide +kernel)⟩, zTB_of (List.mem_of_getElem? (i := 495) (by decide +kernel)) (by decide +kernel), by decide +kernel, by decide +kernel, by decide +kernel⟩
theorem m_Model_64 : zk_wS R_Model 64 y_Model_in b_Model_in 3 (some .boolean) 3 := ⟨⟨zTB_of (List.mem_of_getElem? (i := 500) (by decide +kernel)) (by decide +kernel), zTB_of (List.mem_of_getElem? (i := 501) (by decide +kernel)) (by decide +kernel), zTB_of (List.mem_of_getElem? (i := 27) (by decide +kernel)) (by decide +kernel)⟩, zTB_of (List.mem_of_getElem? (i := 502) (by decide +kernel)) (by decide +kernel), by decide +kernel, by decide +kernel, by decide +kernel⟩
theorem m_Model_68 : zk_wS R_Model 68 y_Model_itself b_Model_itself 3 (some .int) 3 := ⟨⟨zTB_of (List.mem_of_getElem? (i := 536) (by decide +kernel)) (by decide +kernel), zTB_of (List.mem_of_getElem? (i := 537) (by decide +kernel)) (by decide +kernel), zTB_of (List.mem_of_getElem? (i := 27) (by decide +kernel)) (by decide +kernel)⟩, zTB_of (List.mem_of_getElem? (i := 538) (by decide +kernel)) (by decide +kernel), by decide +kernel, by decide +kernel, by decide +kernel⟩
theorem m_Model_72 : zk_wS R_Model 72 y_Model_behind b_Model_behind 3 (some .int) 3 := ⟨⟨zTB_of (List.mem_of_getElem? (i := 526) (by decide +kernel)) (by decide +kernel), zTB_of (List.mem_of_getElem? (i := 527) (by decide +kernel)) (by decide +kernel), zTB_of (List.mem_of_getElem? (i := 27) (by decide +kernel)) (by decide +kernel)⟩, zTB_of (List.mem_of_getElem? (i := 528) (by decide +kernel)) (by decide +kernel), by decide +kernel, by decide +kernel, by decide +kernel⟩
theorem m_Model_75 : zk_wS R_Model 75 y_Model_isOneOf b_Model_isOneOf 8 (some .boolean) 4 := ⟨⟨zTB_of (List.mem_of_getElem? (i := 533) (by decide +kernel)) (by decide +kernel), zTB_of (List.mem_of_getElem? (i := 534) (by decide +kernel)) (by decide +kernel), zTB_of (List.mem_of_getElem? (i := 27) (by decide +kernel)) (by decide +kernel)⟩, zTB_of (List.mem_of_getElem? (i := 535) (by decide +kernel)) (by decide +kernel), by decide +kernel, by decide +kernel, by decide +kernel⟩
theorem m_Model_79 : zk_wS R_Model 79 y_Model_closing b_Model_closing 4 (some .int) 3 := ⟨⟨zTB_of (List.mem_of_getElem? (i := 523) (by decide +kernel)) (by decide +kernel), zTB_of (List.mem_of_getElem? (i := 524) (by decide +kernel)) (by decide +kernel), zTB_of (List.mem_of_getElem? (i := 27) (by decide +kernel)) (by decide +kernel)⟩, zTB_of (List.mem_of_getElem? (i := 525) (by decide +kernel)) (by decide +kernel), by decide +kernel, by decide +kernel, by decide +kernel⟩
theorem m_Model_82 : zk_wV R_Model 82 y_Model_one b_Model_one 10 none 5 := ⟨⟨zTB_of (List.mem_of_getElem? (i := 529) (by decide +kernel)) (by decide +kernel), zTB_of (List.mem_of_getElem? (i := 531) (by decide +kernel)) (by decide +kernel), zTB_of (List.mem_of_getElem? (i := 18) (by decide +kernel)) (by decide +kernel), zTB_of (List.mem_of_getElem? (i := 27) (by decide +kernel)) (by decide +kernel)⟩, zTB_of (List.mem_of_getElem? (i := 532) (by decide +kernel)) (by decide +kernel), by decide +kernel, by decide +kernel, by decide +kernel⟩
theorem m_Model_86 : Cond.fieldLink R_Model 86 "PeerLineModel" "lineSize" "I" ∈ zTB := zTB_of (List.mem_of_getElem? (i := 429) (by decide +kernel)) (by decide +kernel)
theorem m_Model_89 : zk_wV R_Model 89 y_Model_go b_Model_go 10 none 5 := ⟨⟨zTB_of (List.mem_of_getElem? (i := 519) (by decide +kernel)) (by decide +kernel), zTB_of (List.mem_of_getElem? (i := 521) (by decide +kernel)) (by decide +kernel), zTB_of (List.mem_of_getElem? (i := 17) (by decide +kernel)) (by decide +kernel), zTB_of (List.mem_of_getElem? (i := 27) (by decide +kernel)) (by decide +kernel)⟩, zTB_of (List.mem_of_getElem? (i := 522) (by decide +kernel)) (by decide +kernel), by decide +kernel, by decide +kernel, by decide +kernel⟩
theorem m_Model_92 : Cond.fieldLink R_Model 92 "PeerLineModel" "rules" "I" ∈ zTB := zTB_of (List.mem_of_getElem? (i := 419) (by decide +kernel)) (by decide +kernel)
theorem m_Model_95 : Cond.fieldLink R_Model 95 "PeerLineModel" "now" "I" ∈ zTB := zTB_of (List.mem_of_getElem? (i := 428) (by decide +kernel)) (by decide +kernel)
theorem m_Model_98 : zk_wV R_Model 98 y_Model_fitsLine b_Model_fitsLine 3 (some .boolean) 1 := ⟨⟨zTB_of (List.mem_of_getElem? (i := 515) (by decide +kernel)) (by decide +kernel), zTB_of (List.mem_of_getElem? (i := 517) (by decide +kernel)) (by decide +kernel), zTB_of (List.mem_of_getElem? (i := 16) (by decide +kernel)) (by decide +kernel), zTB_of (List.mem_of_getElem? (i := 27) (by decide +kernel)) (by decide +kernel)⟩, zTB_of (List.mem_of_getElem? (i := 518) (by decide +kernel)) (by decide +kernel), by decide +kernel, by decide +kernel, by decide +kernel⟩
theorem m_Model_102 : Cond.fieldLink R_Model 102 "PeerLineModel" "coming" "I" ∈ zTB := zTB_of (List.mem_of_getElem? (i := 431) (by decide +kernel)) (by decide +kernel)
theorem m_Model_105 : Cond.fieldLink R_Model 105 "PeerLineModel" "time" "J" ∈ zTB := zTB_of (List.mem_of_getElem? (i := 434) (by decide +kernel)) (by decide +kernel)
theorem m_Model_109 : Cond.fieldLink R_Model 109 "PeerLineModel" "there" "Z" ∈ zTB := zTB_of (List.mem_of_getElem? (i := 427) (by decide +kernel)) (by decide +kernel)
theorem m_Model_113 : Cond.fieldLink R_Model 113 "PeerLineModel" "came" "I" ∈ zTB := zTB_of (List.mem_of_getElem? (i := 435) (by decide +kernel)) (by decide +kernel)
theorem m_Model_116 : zk_wV R_Model 116 y_Model_gets b_Model_gets 2 none 0 := ⟨⟨zTB_of (List.mem_of_getElem? (i := 511) (by decide +kernel)) (by decide +kernel), zTB_of (List.mem_of_getElem? (i := 513) (by decide +kernel)) (by decide +kernel), zTB_of (List.mem_of_getElem? (i := 15) (by decide +kernel)) (by decide +kernel), zTB_of (List.mem_of_getElem? (i := 27) (by decide +kernel)) (by decide +kernel)⟩, zTB_of (List.mem_of_getElem? (i := 514) (by decide +kernel)) (by decide +kernel), by decide +kernel, by decide +kernel, by decide +kernel⟩
theorem m_Model_119 : Cond.fieldLink R_Model 119 "PeerLineModel" "told" "I" ∈ zTB := zTB_of (List.mem_of_getElem? (i := 436) (by decide +kernel)) (by decide +kernel)
theorem m_Model_122 : zk_wV R_Model 122 y_Model_tell b_Model_tell 7 none 4 := ⟨⟨zTB_of (List.mem_of_getElem? (i := 543) (by decide +kernel)) (by decide +kernel), zTB_of (List.mem_of_getElem? (i := 545) (by decide +kernel)) (by decide +kernel), zTB_of (List.mem_of_getElem? (i := 19) (by decide +kernel)) (by decide +kernel), zTB_of (List.mem_of_getElem? (i := 27) (by decide +kernel)) (by decide +kernel)⟩, zTB_of (List.mem_of_getElem? (i := 546) (by decide +kernel)) (by decide +kernel), by decide +kernel, by decide +kernel, by decide +kernel⟩
theorem m_Model_126 : zk_wV R_Model 126 y_Model_drop b_Model_drop 3 none 1 := ⟨⟨zTB_of (List.mem_of_getElem? (i := 560) (by decide +kernel)) (by decide +kernel), zTB_of (List.mem_of_getElem? (i := 562) (by decide +kernel)) (by decide +kernel), zTB_of (List.mem_of_getElem? (i := 21) (by decide +kernel)) (by decide +kernel), zTB_of (List.mem_of_getElem? (i := 27) (by decide +kernel)) (by decide +kernel)⟩, zTB_of (List.mem_of_getElem? (i := 563) (by decide +kernel)) (by decide +kernel), by decide +kernel, by decide +kernel, by decide +kernel⟩
theorem m_Model_129 : Cond.constantLong R_Model 129 (-1) ∈ zTB := zTB_of (List.mem_of_getElem? (i := 555) (by decide +kernel)) (by decide +kernel)
theorem m_Model_131 : zk_wV R_Model 131 y_Model_keep b_Model_keep 3 none 1 := ⟨⟨zTB_of (List.mem_of_getElem? (i := 556) (by decide +kernel)) (by decide +kernel), zTB_of (List.mem_of_getElem? (i := 558) (by decide +kernel)) (by decide +kernel), zTB_of (List.mem_of_getElem? (i := 20) (by decide +kernel)) (by decide +kernel), zTB_of (List.mem_of_getElem? (i := 27) (by decide +kernel)) (by decide +kernel)⟩, zTB_of (List.mem_of_getElem? (i := 559) (by decide +kernel)) (by decide +kernel), by decide +kernel, by decide +kernel, by decide +kernel⟩
theorem m_Model_134 : Cond.constantLong R_Model 134 1000000 ∈ zTB := zTB_of (List.mem_of_getElem? (i := 576) (by decide +kernel)) (by decide +kernel)
theorem m_Bytes_3 : Cond.methodLink R_Bytes 3 objectInit ∈ zTB := zTB_of (List.mem_of_getElem? (i := 46) (by decide +kernel)) (by decide +kernel)
theorem m_Bytes_9 : Cond.methodLink R_Bytes 9 Lib.Math.max.name ∈ zTB := zTB_of (List.mem_of_getElem? (i := 47) (by decide +kernel)) (by decide +kernel)
theorem m_Bytes_15 : Cond.fieldLink R_Bytes 15 "PeerLine$Bytes" "limit" "I" ∈ zTB := zTB_of (List.mem_of_getElem? (i := 53) (by decide +kernel)) (by decide +kernel)
theorem m_Bytes_21 : Cond.methodLink R_Bytes 21 Lib.Math.min.name ∈ zTB := zTB_of (List.mem_of_getElem? (i := 50) (by decide +kernel)) (by decide +kernel)
theorem m_Bytes_24 : Cond.fieldLink R_Bytes 24 "PeerLine$Bytes" "row" "[B" ∈ zTB := zTB_of (List.mem_of_getElem? (i := 54) (by decide +kernel)) (by decide +kernel)
theorem m_Bytes_28 : Cond.fieldLink R_Bytes 28 "PeerLine$Bytes" "size" "I" ∈ zTB := zTB_of (List.mem_of_getElem? (i := 55) (by decide +kernel)) (by decide +kernel)
theorem m_Bytes_31 : zk_wV R_Bytes 31 y_Bytes_at b_Bytes_at 2 (some .int) 1 := ⟨⟨zTB_of (List.mem_of_getElem? (i := 163) (by decide +kernel)) (by decide +kernel), zTB_of (List.mem_of_getElem? (i := 164) (by decide +kernel)) (by decide +kernel), zTB_of (List.mem_of_getElem? (i := 165) (by decide +kernel)) (by decide +kernel), zTB_of (List.mem_of_getElem? (i := 24) (by decide +kernel)) (by decide +kernel)⟩, zTB_of (List.mem_of_getElem? (i := 166) (by decide +kernel)) (by decide +kernel), by decide +kernel, by decide +kernel, by decide +kernel⟩
theorem m_Bytes_35 : Cond.methodLink R_Bytes 35 arraycopyName ∈ zTB := zTB_of (List.mem_of_getElem? (i := 373) (by decide +kernel)) (by decide +kernel)
theorem m_Bytes_41 : zk_wS R_Bytes 41 y_Arrays_copyOf b_Arrays_copyOf 3 (some (.array .byte)) 2 := ⟨⟨zTB_of (List.mem_of_getElem? (i := 133) (by decide +kernel)) (by decide +kernel), zTB_of (List.mem_of_getElem? (i := 134) (by decide +kernel)) (by decide +kernel), zTB_of (List.mem_of_getElem? (i := 28) (by decide +kernel)) (by decide +kernel)⟩, zTB_of (List.mem_of_getElem? (i := 135) (by decide +kernel)) (by decide +kernel), by decide +kernel, by decide +kernel, by decide +kernel⟩
theorem m_Bytes_47 : zk_wV R_Bytes 47 y_Bytes_append b_Bytes_append 2 none 1 := ⟨⟨zTB_of (List.mem_of_getElem? (i := 129) (by decide +kernel)) (by decide +kernel), zTB_of (List.mem_of_getElem? (i := 130) (by decide +kernel)) (by decide +kernel), zTB_of (List.mem_of_getElem? (i := 131) (by decide +kernel)) (by decide +kernel), zTB_of (List.mem_of_getElem? (i := 24) (by decide +kernel)) (by decide +kernel)⟩, zTB_of (List.mem_of_getElem? (i := 132) (by decide +kernel)) (by decide +kernel), by decide +kernel, by decide +kernel, by decide +kernel⟩
theorem m_Bytes_51 : zk_wV R_Bytes 51 y_Bytes_size b_Bytes_size 1 (some .int) 0 := ⟨⟨zTB_of (List.mem_of_getElem? (i := 338) (by decide +kernel)) (by decide +kernel), zTB_of (List.mem_of_getElem? (i := 175) (by decide +kernel)) (by decide +kernel), zTB_of (List.mem_of_getElem? (i := 176) (by decide +kernel)) (by decide +kernel), zTB_of (List.mem_of_getElem? (i := 24) (by decide +kernel)) (by decide +kernel)⟩, zTB_of (List.mem_of_getElem? (i := 177) (by decide +kernel)) (by decide +kernel), by decide +kernel, by decide +kernel, by decide +kernel⟩
theorem m_Bytes_16 : Cond.classLink R_Bytes 16 R_Bytes ∈ zTB := zTB_of (List.mem_of_getElem? (i := 249) (by decide +kernel)) (by decide +kernel)
theorem m_Bytes_54 : zk_wI R_Bytes 54 y_Bytes_init b_Bytes_init 2 1 := ⟨⟨zTB_of (List.mem_of_getElem? (i := 250) (by decide +kernel)) (by decide +kernel), zTB_of (List.mem_of_getElem? (i := 44) (by decide +kernel)) (by decide +kernel), zTB_of (List.mem_of_getElem? (i := 24) (by decide +kernel)) (by decide +kernel), rfl⟩, zTB_of (List.mem_of_getElem? (i := 45) (by decide +kernel)) (by decide +kernel), by decide +kernel, by decide +kernel, by decide +kernel⟩
theorem m_Coming_3 : Cond.methodLink R_Coming 3 objectInit ∈ zTB := zTB_of (List.mem_of_getElem? (i := 72) (by decide +kernel)) (by decide +kernel)
theorem m_Coming_9 : Cond.fieldLink R_Coming 9 "PeerLine$Coming" "times" "[J" ∈ zTB := zTB_of (List.mem_of_getElem? (i := 75) (by decide +kernel)) (by decide +kernel)
theorem m_Coming_15 : Cond.classLink R_Coming 15 R_Bytes ∈ zTB := zTB_of (List.mem_of_getElem? (i := 73) (by decide +kernel)) (by decide +kernel)
theorem m_Coming_17 : Cond.fieldLink R_Coming 17 "PeerLine$Coming" "answers" "[LPeerLine$Bytes;" ∈ zTB := zTB_of (List.mem_of_getElem? (i := 76) (by decide +kernel)) (by decide +kernel)
theorem m_Coming_21 : Cond.fieldLink R_Coming 21 "PeerLine$Coming" "count" "I" ∈ zTB := zTB_of (List.mem_of_getElem? (i := 77) (by decide +kernel)) (by decide +kernel)
theorem m_Pattern_3 : Cond.methodLink R_Pattern 3 objectInit ∈ zTB := zTB_of (List.mem_of_getElem? (i := 183) (by decide +kernel)) (by decide +kernel)
theorem m_Pattern_9 : zk_wV R_Pattern 9 y_Bytes_size b_Bytes_size 1 (some .int) 0 := ⟨⟨zTB_of (List.mem_of_getElem? (i := 184) (by decide +kernel)) (by decide +kernel), zTB_of (List.mem_of_getElem? (i := 175) (by decide +kernel)) (by decide +kernel), zTB_of (List.mem_of_getElem? (i := 176) (by decide +kernel)) (by decide +kernel), zTB_of (List.mem_of_getElem? (i := 24) (by decide +kernel)) (by decide +kernel)⟩, zTB_of (List.mem_of_getElem? (i := 177) (by decide +kernel)) (by decide +kernel), by decide +kernel, by decide +kernel, by decide +kernel⟩
theorem m_Pattern_15 : Cond.methodLink R_Pattern 15 Lib.Math.min.name ∈ zTB := zTB_of (List.mem_of_getElem? (i := 185) (by decide +kernel)) (by decide +kernel)
theorem m_Pattern_21 : Cond.methodLink R_Pattern 21 Lib.Math.max.name ∈ zTB := zTB_of (List.mem_of_getElem? (i := 186) (by decide +kernel)) (by decide +kernel)
theorem m_Pattern_26 : Cond.fieldLink R_Pattern 26 "PeerLine$Pattern" "sets" "[J" ∈ zTB := zTB_of (List.mem_of_getElem? (i := 234) (by decide +kernel)) (by decide +kernel)
theorem m_Pattern_30 : Cond.fieldLink R_Pattern 30 "PeerLine$Pattern" "stars" "[Z" ∈ zTB := zTB_of (List.mem_of_getElem? (i := 235) (by decide +kernel)) (by decide +kernel)
theorem m_Pattern_34 : Cond.classLink R_Pattern 34 R_Reader ∈ zTB := zTB_of (List.mem_of_getElem? (i := 187) (by decide +kernel)) (by decide +kernel)
theorem m_Pattern_36 : zk_wI R_Pattern 36 y_Reader_init b_Reader_init 3 2 := ⟨⟨zTB_of (List.mem_of_getElem? (i := 189) (by decide +kernel)) (by decide +kernel), zTB_of (List.mem_of_getElem? (i := 190) (by decide +kernel)) (by decide +kernel), zTB_of (List.mem_of_getElem? (i := 31) (by decide +kernel)) (by decide +kernel), rfl⟩, zTB_of (List.mem_of_getElem? (i := 191) (by decide +kernel)) (by decide +kernel), by decide +kernel, by decide +kernel, by decide +kernel⟩
theorem m_Pattern_39 : Cond.fieldLink R_Pattern 39 "PeerLine$Pattern" "count" "I" ∈ zTB := zTB_of (List.mem_of_getElem? (i := 236) (by decide +kernel)) (by decide +kernel)
theorem m_Pattern_43 : zk_wV R_Pattern 43 y_Reader_ahead b_Reader_ahead 2 (some .int) 1 := ⟨⟨zTB_of (List.mem_of_getElem? (i := 204) (by decide +kernel)) (by decide +kernel), zTB_of (List.mem_of_getElem? (i := 205) (by decide +kernel)) (by decide +kernel), zTB_of (List.mem_of_getElem? (i := 206) (by decide +kernel)) (by decide +kernel), zTB_of (List.mem_of_getElem? (i := 31) (by decide +kernel)) (by decide +kernel)⟩, zTB_of (List.mem_of_getElem? (i := 207) (by decide +kernel)) (by decide +kernel), by decide +kernel, by decide +kernel, by decide +kernel⟩
theorem m_Pattern_47 : zk_wV R_Pattern 47 y_Pattern_readItem b_Pattern_readItem 3 none 1 := ⟨⟨zTB_of (List.mem_of_getElem? (i := 209) (by decide +kernel)) (by decide +kernel), zTB_of (List.mem_of_getElem? (i := 211) (by decide +kernel)) (by decide +kernel), zTB_of (List.mem_of_getElem? (i := 1) (by decide +kernel)) (by decide +kernel), zTB_of (List.mem_of_getElem? (i := 30) (by decide +kernel)) (by decide +kernel)⟩, zTB_of (List.mem_of_getElem? (i := 212) (by decide +kernel)) (by decide +kernel), by decide +kernel, by decide +kernel, by decide +kernel⟩
theorem m_Pattern_51 : zk_wV R_Pattern 51 y_Reader_skip b_Reader_skip 1 none 0 := ⟨⟨zTB_of (List.mem_of_getElem? (i := 213) (by decide +kernel)) (by decide +kernel), zTB_of (List.mem_of_getElem? (i := 214) (by decide +kernel)) (by decide +kernel), zTB_of (List.mem_of_getElem? (i := 215) (by decide +kernel)) (by decide +kernel), zTB_of (List.mem_of_getElem? (i := 31) (by decide +kernel)) (by decide +kernel)⟩, zTB_of (List.mem_of_getElem? (i := 216) (by decide +kernel)) (by decide +kernel), by decide +kernel, by decide +kernel, by decide +kernel⟩
theorem m_Pattern_54 : zk_wV R_Pattern 54 y_Pattern_markStar b_Pattern_markStar 1 none 0 := ⟨⟨zTB_of (List.mem_of_getElem? (i := 217) (by decide +kernel)) (by decide +kernel), zTB_of (List.mem_of_getElem? (i := 219) (by decide +kernel)) (by decide +kernel), zTB_of (List.mem_of_getElem? (i := 2) (by decide +kernel)) (by decide +kernel), zTB_of (List.mem_of_getElem? (i := 30) (by decide +kernel)) (by decide +kernel)⟩, zTB_of (List.mem_of_getElem? (i := 220) (by decide +kernel)) (by decide +kernel), by decide +kernel, by decide +kernel, by decide +kernel⟩
theorem m_Pattern_57 : zk_wV R_Pattern 57 y_Pattern_allow b_Pattern_allow 5 none 2 := ⟨⟨zTB_of (List.mem_of_getElem? (i := 221) (by decide +kernel)) (by decide +kernel), zTB_of (List.mem_of_getElem? (i := 223) (by decide +kernel)) (by decide +kernel), zTB_of (List.mem_of_getElem? (i := 3) (by decide +kernel)) (by decide +kernel), zTB_of (List.mem_of_getElem? (i := 30) (by decide +kernel)) (by decide +kernel)⟩, zTB_of (List.mem_of_getElem? (i := 224) (by decide +kernel)) (by decide +kernel), by decide +kernel, by decide +kernel, by decide +kernel⟩
theorem m_Pattern_61 : zk_wV R_Pattern 61 y_Pattern_readChoice b_Pattern_readChoice 5 none 1 := ⟨⟨zTB_of (List.mem_of_getElem? (i := 225) (by decide +kernel)) (by decide +kernel), zTB_of (List.mem_of_getElem? (i := 227) (by decide +kernel)) (by decide +kernel), zTB_of (List.mem_of_getElem? (i := 4) (by decide +kernel)) (by decide +kernel), zTB_of (List.mem_of_getElem? (i := 30) (by decide +kernel)) (by decide +kernel)⟩, zTB_of (List.mem_of_getElem? (i := 228) (by decide +kernel)) (by decide +kernel), by decide +kernel, by decide +kernel, by decide +kernel⟩
theorem m_Pattern_64 : zk_wV R_Pattern 64 y_Reader_nextItself b_Reader_nextItself 2 (some .int) 0 := ⟨⟨zTB_of (List.mem_of_getElem? (i := 229) (by decide +kernel)) (by decide +kernel), zTB_of (List.mem_of_getElem? (i := 230) (by decide +kernel)) (by decide +kernel), zTB_of (List.mem_of_getElem? (i := 231) (by decide +kernel)) (by decide +kernel), zTB_of (List.mem_of_getElem? (i := 31) (by decide +kernel)) (by decide +kernel)⟩, zTB_of (List.mem_of_getElem? (i := 232) (by decide +kernel)) (by decide +kernel), by decide +kernel, by decide +kernel, by decide +kernel⟩
theorem m_Pattern_67 : zk_wV R_Pattern 67 y_Pattern_isStar b_Pattern_isStar 2 (some .boolean) 1 := ⟨⟨zTB_of (List.mem_of_getElem? (i := 300) (by decide +kernel)) (by decide +kernel), zTB_of (List.mem_of_getElem? (i := 302) (by decide +kernel)) (by decide +kernel), zTB_of (List.mem_of_getElem? (i := 7) (by decide +kernel)) (by decide +kernel), zTB_of (List.mem_of_getElem? (i := 30) (by decide +kernel)) (by decide +kernel)⟩, zTB_of (List.mem_of_getElem? (i := 303) (by decide +kernel)) (by decide +kernel), by decide +kernel, by decide +kernel, by decide +kernel⟩
theorem m_Pattern_71 : zk_wV R_Pattern 71 y_Pattern_starOrEndFrom b_Pattern_starOrEndFrom 3 (some .int) 1 := ⟨⟨zTB_of (List.mem_of_getElem? (i := 296) (by decide +kernel)) (by decide +kernel), zTB_of (List.mem_of_getElem? (i := 298) (by decide +kernel)) (by decide +kernel), zTB_of (List.mem_of_getElem? (i := 6) (by decide +kernel)) (by decide +kernel), zTB_of (List.mem_of_getElem? (i := 30) (by decide +kernel)) (by decide +kernel)⟩, zTB_of (List.mem_of_getElem? (i := 299) (by decide +kernel)) (by decide +kernel), by decide +kernel, by decide +kernel, by decide +kernel⟩
theorem m_Pattern_74 : zk_wV R_Pattern 74 y_Pattern_standsAt b_Pattern_standsAt 8 (some .boolean) 4 := ⟨⟨zTB_of (List.mem_of_getElem? (i := 304) (by decide +kernel)) (by decide +kernel), zTB_of (List.mem_of_getElem? (i := 306) (by decide +kernel)) (by decide +kernel), zTB_of (List.mem_of_getElem? (i := 8) (by decide +kernel)) (by decide +kernel), zTB_of (List.mem_of_getElem? (i := 30) (by decide +kernel)) (by decide +kernel)⟩, zTB_of (List.mem_of_getElem? (i := 307) (by decide +kernel)) (by decide +kernel), by decide +kernel, by decide +kernel, by decide +kernel⟩
theorem m_Pattern_78 : zk_wV R_Pattern 78 y_Pattern_behindLastStar b_Pattern_behindLastStar 2 (some .int) 0 := ⟨⟨zTB_of (List.mem_of_getElem? (i := 309) (by decide +kernel)) (by decide +kernel), zTB_of (List.mem_of_getElem? (i := 311) (by decide +kernel)) (by decide +kernel), zTB_of (List.mem_of_getElem? (i := 9) (by decide +kernel)) (by decide +kernel), zTB_of (List.mem_of_getElem? (i := 30) (by decide +kernel)) (by decide +kernel)⟩, zTB_of (List.mem_of_getElem? (i := 312) (by decide +kernel)) (by decide +kernel), by decide +kernel, by decide +kernel, by decide +kernel⟩
theorem m_Pattern_81 : zk_wV R_Pattern 81 y_Pattern_earliestEnd b_Pattern_earliestEnd 9 (some .int) 5 := ⟨⟨zTB_of (List.mem_of_getElem? (i := 313) (by decide +kernel)) (by decide +kernel), zTB_of (List.mem_of_getElem? (i := 315) (by decide +kernel)) (by decide +kernel), zTB_of (List.mem_of_getElem? (i := 10) (by decide +kernel)) (by decide +kernel), zTB_of (List.mem_of_getElem? (i := 30) (by decide +kernel)) (by decide +kernel)⟩, zTB_of (List.mem_of_getElem? (i := 316) (by decide +kernel)) (by decide +kernel), by decide +kernel, by decide +kernel, by decide +kernel⟩
theorem m_Pattern_85 : zk_wV R_Pattern 85 y_Pattern_earliestPlace b_Pattern_earliestPlace 7 (some .int) 5 := ⟨⟨zTB_of (List.mem_of_getElem? (i := 317) (by decide +kernel)) (by decide +kernel), zTB_of (List.mem_of_getElem? (i := 319) (by decide +kernel)) (by decide +kernel), zTB_of (List.mem_of_getElem? (i := 11) (by decide +kernel)) (by decide +kernel), zTB_of (List.mem_of_getElem? (i := 30) (by decide +kernel)) (by decide +kernel)⟩, zTB_of (List.mem_of_getElem? (i := 320) (by decide +kernel)) (by decide +kernel), by decide +kernel, by decide +kernel, by decide +kernel⟩
theorem m_Pattern_88 : zk_wV R_Pattern 88 y_Bytes_at b_Bytes_at 2 (some .int) 1 := ⟨⟨zTB_of (List.mem_of_getElem? (i := 308) (by decide +kernel)) (by decide +kernel), zTB_of (List.mem_of_getElem? (i := 164) (by decide +kernel)) (by decide +kernel), zTB_of (List.mem_of_getElem? (i := 165) (by decide +kernel)) (by decide +kernel), zTB_of (List.mem_of_getElem? (i := 24) (by decide +kernel)) (by decide +kernel)⟩, zTB_of (List.mem_of_getElem? (i := 166) (by decide +kernel)) (by decide +kernel), by decide +kernel, by decide +kernel, by decide +kernel⟩
theorem m_Reader_3 : Cond.methodLink R_Reader 3 objectInit ∈ zTB := zTB_of (List.mem_of_getElem? (i := 192) (by decide +kernel)) (by decide +kernel)
theorem m_Reader_9 : Cond.fieldLink R_Reader 9 "PeerLine$PatternReader" "source" "LPeerLine$Bytes;" ∈ zTB := zTB_of (List.mem_of_getElem? (i := 193) (by decide +kernel)) (by decide +kernel)
theorem m_Reader_15 : Cond.fieldLink R_Reader 15 "PeerLine$PatternReader" "length" "I" ∈ zTB := zTB_of (List.mem_of_getElem? (i := 194) (by decide +kernel)) (by decide +kernel)
theorem m_Reader_19 : Cond.fieldLink R_Reader 19 "PeerLine$PatternReader" "at" "I" ∈ zTB := zTB_of (List.mem_of_getElem? (i := 195) (by decide +kernel)) (by decide +kernel)
theorem m_Reader_22 : zk_wV R_Reader 22 y_Bytes_at b_Bytes_at 2 (some .int) 1 := ⟨⟨zTB_of (List.mem_of_getElem? (i := 208) (by decide +kernel)) (by decide +kernel), zTB_of (List.mem_of_getElem? (i := 164) (by decide +kernel)) (by decide +kernel), zTB_of (List.mem_of_getElem? (i := 165) (by decide +kernel)) (by decide +kernel), zTB_of (List.mem_of_getElem? (i := 24) (by decide +kernel)) (by decide +kernel)⟩, zTB_of (List.mem_of_getElem? (i := 166) (by decide +kernel)) (by decide +kernel), by decide +kernel, by decide +kernel, by decide +kernel⟩
theorem m_Reader_27 : zk_wV R_Reader 27 y_Reader_ahead b_Reader_ahead 2 (some .int) 1 := ⟨⟨zTB_of (List.mem_of_getElem? (i := 233) (by decide +kernel)) (by decide +kernel), zTB_of (List.mem_of_getElem? (i := 205) (by decide +kernel)) (by decide +kernel), zTB_of (List.mem_of_getElem? (i := 206) (by decide +kernel)) (by decide +kernel), zTB_of (List.mem_of_getElem? (i := 31) (by decide +kernel)) (by decide +kernel)⟩, zTB_of (List.mem_of_getElem? (i := 207) (by decide +kernel)) (by decide +kernel), by decide +kernel, by decide +kernel, by decide +kernel⟩
theorem m_Rule_1 : Cond.methodLink R_Rule 1 objectInit ∈ zTB := zTB_of (List.mem_of_getElem? (i := 254) (by decide +kernel)) (by decide +kernel)
theorem m_Rule_7 : Cond.fieldLink R_Rule 7 "PeerLine$Rule" "state" "I" ∈ zTB := zTB_of (List.mem_of_getElem? (i := 255) (by decide +kernel)) (by decide +kernel)
theorem m_Rule_13 : Cond.fieldLink R_Rule 13 "PeerLine$Rule" "pattern" "LPeerLine$Pattern;" ∈ zTB := zTB_of (List.mem_of_getElem? (i := 257) (by decide +kernel)) (by decide +kernel)
theorem m_Rule_17 : Cond.fieldLink R_Rule 17 "PeerLine$Rule" "answer" "LPeerLine$Bytes;" ∈ zTB := zTB_of (List.mem_of_getElem? (i := 259) (by decide +kernel)) (by decide +kernel)
theorem m_Rule_21 : Cond.fieldLink R_Rule 21 "PeerLine$Rule" "delay" "I" ∈ zTB := zTB_of (List.mem_of_getElem? (i := 261) (by decide +kernel)) (by decide +kernel)
theorem m_Rule_24 : Cond.fieldLink R_Rule 24 "PeerLine$Rule" "next" "I" ∈ zTB := zTB_of (List.mem_of_getElem? (i := 263) (by decide +kernel)) (by decide +kernel)
theorem m_law_7 : Cond.classLink "PeerLineLaw" 7 R_Peer ∈ zTB := zTB_of (List.mem_of_getElem? (i := 33) (by decide +kernel)) (by decide +kernel)
theorem m_law_9 : zk_wI "PeerLineLaw" 9 y_Peer_init b_Peer_init 1 0 := ⟨⟨zTB_of (List.mem_of_getElem? (i := 35) (by decide +kernel)) (by decide +kernel), zTB_of (List.mem_of_getElem? (i := 36) (by decide +kernel)) (by decide +kernel), zTB_of (List.mem_of_getElem? (i := 23) (by decide +kernel)) (by decide +kernel), rfl⟩, zTB_of (List.mem_of_getElem? (i := 37) (by decide +kernel)) (by decide +kernel), by decide +kernel, by decide +kernel, by decide +kernel⟩
theorem m_law_10 : Cond.classLink "PeerLineLaw" 10 R_Model ∈ zTB := zTB_of (List.mem_of_getElem? (i := 410) (by decide +kernel)) (by decide +kernel)
theorem m_law_12 : zk_wI "PeerLineLaw" 12 y_Model_init b_Model_init 1 0 := ⟨⟨zTB_of (List.mem_of_getElem? (i := 412) (by decide +kernel)) (by decide +kernel), zTB_of (List.mem_of_getElem? (i := 413) (by decide +kernel)) (by decide +kernel), zTB_of (List.mem_of_getElem? (i := 27) (by decide +kernel)) (by decide +kernel), rfl⟩, zTB_of (List.mem_of_getElem? (i := 414) (by decide +kernel)) (by decide +kernel), by decide +kernel, by decide +kernel, by decide +kernel⟩
theorem m_law_13 : zk_wV "PeerLineLaw" 13 y_Peer_feed b_Peer_feed 6 (some .boolean) 5 := ⟨⟨zTB_of (List.mem_of_getElem? (i := 117) (by decide +kernel)) (by decide +kernel), zTB_of (List.mem_of_getElem? (i := 118) (by decide +kernel)) (by decide +kernel), zTB_of (List.mem_of_getElem? (i := 119) (by decide +kernel)) (by decide +kernel), zTB_of (List.mem_of_getElem? (i := 23) (by decide +kernel)) (by decide +kernel)⟩, zTB_of (List.mem_of_getElem? (i := 120) (by decide +kernel)) (by decide +kernel), by decide +kernel, by decide +kernel, by decide +kernel⟩
theorem m_law_17 : zk_wV "PeerLineLaw" 17 y_Model_feed b_Model_feed 6 (some .boolean) 5 := ⟨⟨zTB_of (List.mem_of_getElem? (i := 488) (by decide +kernel)) (by decide +kernel), zTB_of (List.mem_of_getElem? (i := 489) (by decide +kernel)) (by decide +kernel), zTB_of (List.mem_of_getElem? (i := 490) (by decide +kernel)) (by decide +kernel), zTB_of (List.mem_of_getElem? (i := 27) (by decide +kernel)) (by decide +kernel)⟩, zTB_of (List.mem_of_getElem? (i := 491) (by decide +kernel)) (by decide +kernel), by decide +kernel, by decide +kernel, by decide +kernel⟩
theorem m_law_18 : zk_wV "PeerLineLaw" 18 y_Peer_end b_Peer_end 2 (some .boolean) 1 := ⟨⟨zTB_of (List.mem_of_getElem? (i := 147) (by decide +kernel)) (by decide +kernel), zTB_of (List.mem_of_getElem? (i := 148) (by decide +kernel)) (by decide +kernel), zTB_of (List.mem_of_getElem? (i := 149) (by decide +kernel)) (by decide +kernel), zTB_of (List.mem_of_getElem? (i := 23) (by decide +kernel)) (by decide +kernel)⟩, zTB_of (List.mem_of_getElem? (i := 150) (by decide +kernel)) (by decide +kernel), by decide +kernel, by decide +kernel, by decide +kernel⟩
theorem m_law_22 : zk_wV "PeerLineLaw" 22 y_Model_end b_Model_end 2 (some .boolean) 1 := ⟨⟨zTB_of (List.mem_of_getElem? (i := 496) (by decide +kernel)) (by decide +kernel), zTB_of (List.mem_of_getElem? (i := 497) (by decide +kernel)) (by decide +kernel), zTB_of (List.mem_of_getElem? (i := 498) (by decide +kernel)) (by decide +kernel), zTB_of (List.mem_of_getElem? (i := 27) (by decide +kernel)) (by decide +kernel)⟩, zTB_of (List.mem_of_getElem? (i := 499) (by decide +kernel)) (by decide +kernel), by decide +kernel, by decide +kernel, by decide +kernel⟩
theorem m_law_23 : zk_wV "PeerLineLaw" 23 y_Peer_rule b_Peer_rule 8 (some .int) 3 := ⟨⟨zTB_of (List.mem_of_getElem? (i := 155) (by decide +kernel)) (by decide +kernel), zTB_of (List.mem_of_getElem? (i := 156) (by decide +kernel)) (by decide +kernel), zTB_of (List.mem_of_getElem? (i := 157) (by decide +kernel)) (by decide +kernel), zTB_of (List.mem_of_getElem? (i := 23) (by decide +kernel)) (by decide +kernel)⟩, zTB_of (List.mem_of_getElem? (i := 158) (by decide +kernel)) (by decide +kernel), by decide +kernel, by decide +kernel, by decide +kernel⟩
theorem m_law_27 : zk_wV "PeerLineLaw" 27 y_Model_rule b_Model_rule 8 (some .int) 3 := ⟨⟨zTB_of (List.mem_of_getElem? (i := 503) (by decide +kernel)) (by decide +kernel), zTB_of (List.mem_of_getElem? (i := 504) (by decide +kernel)) (by decide +kernel), zTB_of (List.mem_of_getElem? (i := 505) (by decide +kernel)) (by decide +kernel), zTB_of (List.mem_of_getElem? (i := 27) (by decide +kernel)) (by decide +kernel)⟩, zTB_of (List.mem_of_getElem? (i := 506) (by decide +kernel)) (by decide +kernel), by decide +kernel, by decide +kernel, by decide +kernel⟩
theorem m_law_28 : zk_wV "PeerLineLaw" 28 y_Peer_spawn b_Peer_spawn 1 none 0 := ⟨⟨zTB_of (List.mem_of_getElem? (i := 280) (by decide +kernel)) (by decide +kernel), zTB_of (List.mem_of_getElem? (i := 281) (by decide +kernel)) (by decide +kernel), zTB_of (List.mem_of_getElem? (i := 282) (by decide +kernel)) (by decide +kernel), zTB_of (List.mem_of_getElem? (i := 23) (by decide +kernel)) (by decide +kernel)⟩, zTB_of (List.mem_of_getElem? (i := 283) (by decide +kernel)) (by decide +kernel), by decide +kernel, by decide +kernel, by decide +kernel⟩
theorem m_law_31 : zk_wV "PeerLineLaw" 31 y_Model_spawn b_Model_spawn 1 none 0 := ⟨⟨zTB_of (List.mem_of_getElem? (i := 507) (by decide +kernel)) (by decide +kernel), zTB_of (List.mem_of_getElem? (i := 508) (by decide +kernel)) (by decide +kernel), zTB_of (List.mem_of_getElem? (i := 509) (by decide +kernel)) (by decide +kernel), zTB_of (List.mem_of_getElem? (i := 27) (by decide +kernel)) (by decide +kernel)⟩, zTB_of (List.mem_of_getElem? (i := 510) (by decide +kernel)) (by decide +kernel), by decide +kernel, by decide +kernel, by decide +kernel⟩
theorem m_law_32 : zk_wV "PeerLineLaw" 32 y_Peer_send b_Peer_send 1 (some .boolean) 0 := ⟨⟨zTB_of (List.mem_of_getElem? (i := 325) (by decide +kernel)) (by decide +kernel), zTB_of (List.mem_of_getElem? (i := 326) (by decide +kernel)) (by decide +kernel), zTB_of (List.mem_of_getElem? (i := 327) (by decide +kernel)) (by decide +kernel), zTB_of (List.mem_of_getElem? (i := 23) (by decide +kernel)) (by decide +kernel)⟩, zTB_of (List.mem_of_getElem? (i := 328) (by decide +kernel)) (by decide +kernel), by decide +kernel, by decide +kernel, by decide +kernel⟩
theorem m_law_36 : zk_wV "PeerLineLaw" 36 y_Model_send b_Model_send 3 (some .boolean) 0 := ⟨⟨zTB_of (List.mem_of_getElem? (i := 539) (by decide +kernel)) (by decide +kernel), zTB_of (List.mem_of_getElem? (i := 540) (by decide +kernel)) (by decide +kernel), zTB_of (List.mem_of_getElem? (i := 541) (by decide +kernel)) (by decide +kernel), zTB_of (List.mem_of_getElem? (i := 27) (by decide +kernel)) (by decide +kernel)⟩, zTB_of (List.mem_of_getElem? (i := 542) (by decide +kernel)) (by decide +kernel), by decide +kernel, by decide +kernel, by decide +kernel⟩
theorem m_law_37 : zk_wV "PeerLineLaw" 37 y_Peer_put b_Peer_put 1 none 0 := ⟨⟨zTB_of (List.mem_of_getElem? (i := 344) (by decide +kernel)) (by decide +kernel), zTB_of (List.mem_of_getElem? (i := 345) (by decide +kernel)) (by decide +kernel), zTB_of (List.mem_of_getElem? (i := 346) (by decide +kernel)) (by decide +kernel), zTB_of (List.mem_of_getElem? (i := 23) (by decide +kernel)) (by decide +kernel)⟩, zTB_of (List.mem_of_getElem? (i := 347) (by decide +kernel)) (by decide +kernel), by decide +kernel, by decide +kernel, by decide +kernel⟩
theorem m_law_40 : zk_wV "PeerLineLaw" 40 y_Model_put b_Model_put 1 none 0 := ⟨⟨zTB_of (List.mem_of_getElem? (i := 547) (by decide +kernel)) (by decide +kernel), zTB_of (List.mem_of_getElem? (i := 548) (by decide +kernel)) (by decide +kernel), zTB_of (List.mem_of_getElem? (i := 549) (by decide +kernel)) (by decide +kernel), zTB_of (List.mem_of_getElem? (i := 27) (by decide +kernel)) (by decide +kernel)⟩, zTB_of (List.mem_of_getElem? (i := 550) (by decide +kernel)) (by decide +kernel), by decide +kernel, by decide +kernel, by decide +kernel⟩
theorem m_law_41 : Cond.constantLong "PeerLineLaw" 41 4294967295 ∈ zTB := zTB_of (List.mem_of_getElem? (i := 589) (by decide +kernel)) (by decide +kernel)
theorem m_law_43 : zk_wV "PeerLineLaw" 43 y_Peer_come b_Peer_come 4 (some .long) 1 := ⟨⟨zTB_of (List.mem_of_getElem? (i := 348) (by decide +kernel)) (by decide +kernel), zTB_of (List.mem_of_getElem? (i := 349) (by decide +kernel)) (by decide +kernel), zTB_of (List.mem_of_getElem? (i := 350) (by decide +kernel)) (by decide +kernel), zTB_of (List.mem_of_getElem? (i := 23) (by decide +kernel)) (by decide +kernel)⟩, zTB_of (List.mem_of_getElem? (i := 351) (by decide +kernel)) (by decide +kernel), by decide +kernel, by decide +kernel, by decide +kernel⟩
theorem m_law_47 : zk_wV "PeerLineLaw" 47 y_Model_come b_Model_come 6 (some .long) 1 := ⟨⟨zTB_of (List.mem_of_getElem? (i := 551) (by decide +kernel)) (by decide +kernel), zTB_of (List.mem_of_getElem? (i := 552) (by decide +kernel)) (by decide +kernel), zTB_of (List.mem_of_getElem? (i := 553) (by decide +kernel)) (by decide +kernel), zTB_of (List.mem_of_getElem? (i := 27) (by decide +kernel)) (by decide +kernel)⟩, zTB_of (List.mem_of_getElem? (i := 554) (by decide +kernel)) (by decide +kernel), by decide +kernel, by decide +kernel, by decide +kernel⟩
theorem m_law_48 : zk_wV "PeerLineLaw" 48 y_Peer_fit b_Peer_fit 2 (some .int) 0 := ⟨⟨zTB_of (List.mem_of_getElem? (i := 374) (by decide +kernel)) (by decide +kernel), zTB_of (List.mem_of_getElem? (i := 375) (by decide +kernel)) (by decide +kernel), zTB_of (List.mem_of_getElem? (i := 376) (by decide +kernel)) (by decide +kernel), zTB_of (List.mem_of_getElem? (i := 23) (by decide +kernel)) (by decide +kernel)⟩, zTB_of (List.mem_of_getElem? (i := 377) (by decide +kernel)) (by decide +kernel), by decide +kernel, by decide +kernel, by decide +kernel⟩
theorem m_law_52 : zk_wV "PeerLineLaw" 52 y_Model_fit b_Model_fit 3 (some .int) 0 := ⟨⟨zTB_of (List.mem_of_getElem? (i := 564) (by decide +kernel)) (by decide +kernel), zTB_of (List.mem_of_getElem? (i := 565) (by decide +kernel)) (by decide +kernel), zTB_of (List.mem_of_getElem? (i := 566) (by decide +kernel)) (by decide +kernel), zTB_of (List.mem_of_getElem? (i := 27) (by decide +kernel)) (by decide +kernel)⟩, zTB_of (List.mem_of_getElem? (i := 567) (by decide +kernel)) (by decide +kernel), by decide +kernel, by decide +kernel, by decide +kernel⟩
theorem m_law_53 : zk_wV "PeerLineLaw" 53 y_Peer_take b_Peer_take 2 (some .boolean) 1 := ⟨⟨zTB_of (List.mem_of_getElem? (i := 382) (by decide +kernel)) (by decide +kernel), zTB_of (List.mem_of_getElem? (i := 383) (by decide +kernel)) (by decide +kernel), zTB_of (List.mem_of_getElem? (i := 384) (by decide +kernel)) (by decide +kernel), zTB_of (List.mem_of_getElem? (i := 23) (by decide +kernel)) (by decide +kernel)⟩, zTB_of (List.mem_of_getElem? (i := 385) (by decide +kernel)) (by decide +kernel), by decide +kernel, by decide +kernel, by decide +kernel⟩
theorem m_law_56 : zk_wV "PeerLineLaw" 56 y_Model_take b_Model_take 2 (some .boolean) 1 := ⟨⟨zTB_of (List.mem_of_getElem? (i := 568) (by decide +kernel)) (by decide +kernel), zTB_of (List.mem_of_getElem? (i := 569) (by decide +kernel)) (by decide +kernel), zTB_of (List.mem_of_getElem? (i := 570) (by decide +kernel)) (by decide +kernel), zTB_of (List.mem_of_getElem? (i := 27) (by decide +kernel)) (by decide +kernel)⟩, zTB_of (List.mem_of_getElem? (i := 571) (by decide +kernel)) (by decide +kernel), by decide +kernel, by decide +kernel, by decide +kernel⟩
theorem m_law_57 : zk_wV "PeerLineLaw" 57 y_Peer_pass b_Peer_pass 3 (some .long) 1 := ⟨⟨zTB_of (List.mem_of_getElem? (i := 386) (by decide +kernel)) (by decide +kernel), zTB_of (List.mem_of_getElem? (i := 387) (by decide +kernel)) (by decide +kernel), zTB_of (List.mem_of_getElem? (i := 388) (by decide +kernel)) (by decide +kernel), zTB_of (List.mem_of_getElem? (i := 23) (by decide +kernel)) (by decide +kernel)⟩, zTB_of (List.mem_of_getElem? (i := 389) (by decide +kernel)) (by decide +kernel), by decide +kernel, by decide +kernel, by decide +kernel⟩
theorem m_law_60 : zk_wV "PeerLineLaw" 60 y_Model_pass b_Model_pass 3 (some .long) 1 := ⟨⟨zTB_of (List.mem_of_getElem? (i := 572) (by decide +kernel)) (by decide +kernel), zTB_of (List.mem_of_getElem? (i := 573) (by decide +kernel)) (by decide +kernel), zTB_of (List.mem_of_getElem? (i := 574) (by decide +kernel)) (by decide +kernel), zTB_of (List.mem_of_getElem? (i := 27) (by decide +kernel)) (by decide +kernel)⟩, zTB_of (List.mem_of_getElem? (i := 575) (by decide +kernel)) (by decide +kernel), by decide +kernel, by decide +kernel, by decide +kernel⟩
theorem m_law_61 : zk_wV "PeerLineLaw" 61 y_Peer_total b_Peer_total 2 (some .int) 1 := ⟨⟨zTB_of (List.mem_of_getElem? (i := 394) (by decide +kernel)) (by decide +kernel), zTB_of (List.mem_of_getElem? (i := 395) (by decide +kernel)) (by decide +kernel), zTB_of (List.mem_of_getElem? (i := 396) (by decide +kernel)) (by decide +kernel), zTB_of (List.mem_of_getElem? (i := 23) (by decide +kernel)) (by decide +kernel)⟩, zTB_of (List.mem_of_getElem? (i := 397) (by decide +kernel)) (by decide +kernel), by decide +kernel, by decide +kernel, by decide +kernel⟩
theorem m_law_65 : zk_wV "PeerLineLaw" 65 y_Model_total b_Model_total 2 (some .int) 1 := ⟨⟨zTB_of (List.mem_of_getElem? (i := 577) (by decide +kernel)) (by decide +kernel), zTB_of (List.mem_of_getElem? (i := 578) (by decide +kernel)) (by decide +kernel), zTB_of (List.mem_of_getElem? (i := 579) (by decide +kernel)) (by decide +kernel), zTB_of (List.mem_of_getElem? (i := 27) (by decide +kernel)) (by decide +kernel)⟩, zTB_of (List.mem_of_getElem? (i := 580) (by decide +kernel)) (by decide +kernel), by decide +kernel, by decide +kernel, by decide +kernel⟩
theorem m_law_66 : zk_wV "PeerLineLaw" 66 y_Peer_bufferAt b_Peer_bufferAt 2 (some .int) 1 := ⟨⟨zTB_of (List.mem_of_getElem? (i := 402) (by decide +kernel)) (by decide +kernel), zTB_of (List.mem_of_getElem? (i := 403) (by decide +kernel)) (by decide +kernel), zTB_of (List.mem_of_getElem? (i := 404) (by decide +kernel)) (by decide +kernel), zTB_of (List.mem_of_getElem? (i := 23) (by decide +kernel)) (by decide +kernel)⟩, zTB_of (List.mem_of_getElem? (i := 405) (by decide +kernel)) (by decide +kernel), by decide +kernel, by decide +kernel, by decide +kernel⟩
theorem m_law_69 : zk_wV "PeerLineLaw" 69 y_Model_bufferAt b_Model_bufferAt 2 (some .int) 1 := ⟨⟨zTB_of (List.mem_of_getElem? (i := 581) (by decide +kernel)) (by decide +kernel), zTB_of (List.mem_of_getElem? (i := 582) (by decide +kernel)) (by decide +kernel), zTB_of (List.mem_of_getElem? (i := 583) (by decide +kernel)) (by decide +kernel), zTB_of (List.mem_of_getElem? (i := 27) (by decide +kernel)) (by decide +kernel)⟩, zTB_of (List.mem_of_getElem? (i := 584) (by decide +kernel)) (by decide +kernel), by decide +kernel, by decide +kernel, by decide +kernel⟩
theorem m_law_70 : zk_wV "PeerLineLaw" 70 y_Peer_toldAt b_Peer_toldAt 2 (some .int) 1 := ⟨⟨zTB_of (List.mem_of_getElem? (i := 406) (by decide +kernel)) (by decide +kernel), zTB_of (List.mem_of_getElem? (i := 407) (by decide +kernel)) (by decide +kernel), zTB_of (List.mem_of_getElem? (i := 408) (by decide +kernel)) (by decide +kernel), zTB_of (List.mem_of_getElem? (i := 23) (by decide +kernel)) (by decide +kernel)⟩, zTB_of (List.mem_of_getElem? (i := 409) (by decide +kernel)) (by decide +kernel), by decide +kernel, by decide +kernel, by decide +kernel⟩
theorem m_law_73 : zk_wV "PeerLineLaw" 73 y_Model_toldAt b_Model_toldAt 2 (some .int) 1 := ⟨⟨zTB_of (List.mem_of_getElem? (i := 585) (by decide +kernel)) (by decide +kernel), zTB_of (List.mem_of_getElem? (i := 586) (by decide +kernel)) (by decide +kernel), zTB_of (List.mem_of_getElem? (i := 587) (by decide +kernel)) (by decide +kernel), zTB_of (List.mem_of_getElem? (i := 27) (by decide +kernel)) (by decide +kernel)⟩, zTB_of (List.mem_of_getElem? (i := 588) (by decide +kernel)) (by decide +kernel), by decide +kernel, by decide +kernel, by decide +kernel⟩
theorem m_Arrays_304 : Cond.methodLink R_Arrays 304 Lib.Math.min.name ∈ zTB := zTB_of (List.mem_of_getElem? (i := 143) (by decide +kernel)) (by decide +kernel)
theorem m_Arrays_150 : Cond.methodLink R_Arrays 150 arraycopyName ∈ zTB := zTB_of (List.mem_of_getElem? (i := 144) (by decide +kernel)) (by decide +kernel)
theorem m_inst_Bytes : Cond.instantiable R_Bytes 3 ∈ zTB := zTB_of (List.mem_of_getElem? (i := 42) (by decide +kernel)) (by decide +kernel)
theorem m_ini_Bytes : Cond.initialized R_Bytes ∈ zTB := zTB_of (List.mem_of_getElem? (i := 24) (by decide +kernel)) (by decide +kernel)
theorem m_inst_Coming : Cond.instantiable R_Coming 3 ∈ zTB := zTB_of (List.mem_of_getElem? (i := 68) (by decide +kernel)) (by decide +kernel)
theorem m_ini_Coming : Cond.initialized R_Coming ∈ zTB := zTB_of (List.mem_of_getElem? (i := 26) (by decide +kernel)) (by decide +kernel)
theorem m_inst_Pattern : Cond.instantiable R_Pattern 3 ∈ zTB := zTB_of (List.mem_of_getElem? (i := 179) (by decide +kernel)) (by decide +kernel)
theorem m_ini_Pattern : Cond.initialized R_Pattern ∈ zTB := zTB_of (List.mem_of_getElem? (i := 30) (by decide +kernel)) (by decide +kernel)
theorem m_inst_Reader : Cond.instantiable R_Reader 3 ∈ zTB := zTB_of (List.mem_of_getElem? (i := 188) (by decide +kernel)) (by decide +kernel)
theorem m_ini_Reader : Cond.initialized R_Reader ∈ zTB := zTB_of (List.mem_of_getElem? (i := 31) (by decide +kernel)) (by decide +kernel)
theorem m_inst_Rule : Cond.instantiable R_Rule 5 ∈ zTB := zTB_of (List.mem_of_getElem? (i := 244) (by decide +kernel)) (by decide +kernel)
theorem m_ini_Rule : Cond.initialized R_Rule ∈ zTB := zTB_of (List.mem_of_getElem? (i := 32) (by decide +kernel)) (by decide +kernel)
theorem m_inst_Peer : Cond.instantiable R_Peer 10 ∈ zTB := zTB_of (List.mem_of_getElem? (i := 34) (by decide +kernel)) (by decide +kernel)
theorem m_ini_Peer : Cond.initialized R_Peer ∈ zTB := zTB_of (List.mem_of_getElem? (i := 23) (by decide +kernel)) (by decide +kernel)
theorem m_inst_Model : Cond.instantiable R_Model 23 ∈ zTB := zTB_of (List.mem_of_getElem? (i := 411) (by decide +kernel)) (by decide +kernel)
theorem m_ini_Model : Cond.initialized R_Model ∈ zTB := zTB_of (List.mem_of_getElem? (i := 27) (by decide +kernel)) (by decide +kernel)
theorem m_arr_byte : Cond.arrayClass .byte ∈ zTB := zTB_of (List.mem_of_getElem? (i := 63) (by decide +kernel)) (by decide +kernel)
theorem m_arr_long : Cond.arrayClass .long ∈ zTB := zTB_of (List.mem_of_getElem? (i := 85) (by decide +kernel)) (by decide +kernel)
theorem m_arr_boolean : Cond.arrayClass .boolean ∈ zTB := zTB_of (List.mem_of_getElem? (i := 203) (by decide +kernel)) (by decide +kernel)
theorem m_arr_int : Cond.arrayClass .int ∈ zTB := zTB_of (List.mem_of_getElem? (i := 487) (by decide +kernel)) (by decide +kernel)
theorem m_obj_i : Cond.instanceMethod objectInit ∈ zTB := zTB_of (List.mem_of_getElem? (i := 39) (by decide +kernel)) (by decide +kernel)
theorem m_obj_c : Cond.code objectInit ⟨#[0xb1]⟩ 1 none ∈ zTB := zTB_of (List.mem_of_getElem? (i := 40) (by decide +kernel)) (by decide +kernel)
theorem m_max_s : Cond.static Lib.Math.max.name ∈ zTB := zTB_of (List.mem_of_getElem? (i := 48) (by decide +kernel)) (by decide +kernel)
theorem m_max_c : Cond.code Lib.Math.max.name Lib.Math.max.code 2 (some .int) ∈ zTB := zTB_of (List.mem_of_getElem? (i := 49) (by decide +kernel)) (by decide +kernel)
theorem m_min_s : Cond.static Lib.Math.min.name ∈ zTB := zTB_of (List.mem_of_getElem? (i := 51) (by decide +kernel)) (by decide +kernel)
theorem m_min_c : Cond.code Lib.Math.min.name Lib.Math.min.code 2 (some .int) ∈ zTB := zTB_of (List.mem_of_getElem? (i := 52) (by decide +kernel)) (by decide +kernel)
theorem m_maxl_s : Cond.static Lib.MathLoose.max_long.x ∈ zTB := zTB_of (List.mem_of_getElem? (i := 362) (by decide +kernel)) (by decide +kernel)
theorem m_maxl_c : Cond.code Lib.MathLoose.max_long.x Lib.MathLoose.max_long.code 4 (some .long) ∈ zTB := zTB_of (List.mem_of_getElem? (i := 363) (by decide +kernel)) (by decide +kernel)
theorem m_minl_s : Cond.static Lib.MathLoose.min_long.x ∈ zTB := zTB_of (List.mem_of_getElem? (i := 392) (by decide +kernel)) (by decide +kernel)
theorem m_minl_c : Cond.code Lib.MathLoose.min_long.x Lib.MathLoose.min_long.code 4 (some .long) ∈ zTB := zTB_of (List.mem_of_getElem? (i := 393) (by decide +kernel)) (by decide +kernel)
theorem m_ini_Math : Cond.initialized "java/lang/Math" ∈ zTB := zTB_of (List.mem_of_getElem? (i := 25) (by decide +kernel)) (by decide +kernel)
theorem m_ini_System : Cond.initialized "java/lang/System" ∈ zTB := zTB_of (List.mem_of_getElem? (i := 29) (by decide +kernel)) (by decide +kernel)
theorem m_ac_s : Cond.static arraycopyName ∈ zTB := zTB_of (List.mem_of_getElem? (i := 145) (by decide +kernel)) (by decide +kernel)
theorem m_ac_n : Cond.native arraycopyName ∈ zTB := zTB_of (List.mem_of_getElem? (i := 146) (by decide +kernel)) (by decide +kernel)
end
section
section
variable {p : Program} {l : Launch} {e : Env} {R : Room} {s : State} {m : MethodId} {args : Array Value} {below : List Frame} {meth : Method} {c : Code} {H : Heap} {locs : List Loc} {cells slots : Nat} {Q : State → Prop}
variable {cc : ByteArray} {pc nL idx mc ms : Nat} {own : String} {ls : Array Slot} {rest st0 : List Value} {D : va_G} {cl : List vw_C} {A : Nat → Prop} {a : Nat} {tys : List (ClassId × FieldType)} {ws : va_W} {H0 : Heap} {post : Option Value → Heap → Prop}
/-- the ends of a method that changes cells -/
theorem zk_vret (S : CallFix p m c cc nL s args zTB own) (hr : meth.sig.returnType = none) (hlk : meth.locks = false) (hS : va_S A s.heap H locs) (hp : post none H) (hc : cells ≤ mc) (hs : slots ≤ ms) (hdg : decode cc pc = .ok (.return_, 1)) : W p l e R s m args below meth c H locs cells slots (MQ below (zk_mQ post A) args s mc ms A) (F0 m pc ls []) :=
  W.widen hc hs (W.vret S.1 S.2.1 hr (fun t ht _ => ⟨⟨none, rfl, by rw [ht]; exact hp⟩, hS.F ht⟩) hS.2.2 hdg)
theorem zk_iret {v : Int32} (S : CallFix p m c cc nL s args zTB own) (hr : meth.sig.returnType = some .int) (hlk : meth.locks = false) (hS : va_S A s.heap H locs) (hp : post (some (.int v)) H) (hc : cells ≤ mc) (hs : slots ≤ ms) (hdg : decode cc pc = .ok (.ireturn, 1)) : W p l e R s m args below meth c H locs cells slots (MQ below (zk_mQ post A) args s mc ms A) (F0 m pc ls [.int v]) :=
  W.widen hc hs (W.iret S.1 S.2.1 hr (fun t ht _ => ⟨⟨_, rfl, by rw [ht]; exact hp⟩, hS.F ht⟩) hS.2.2 hdg)
theorem zk_zret {v : Int32} (S : CallFix p m c cc nL s args zTB own) (hr : meth.sig.returnType = some .boolean) (hv : v = 0 ∨ v = 1) (hlk : meth.locks = false) (hS : va_S A s.heap H locs) (hp : post (some (.int v)) H) (hc : cells ≤ mc) (hs : slots ≤ ms) (hdg : decode cc pc = .ok (.ireturn, 1)) : W p l e R s m args below meth c H locs cells slots (MQ below (zk_mQ post A) args s mc ms A) (F0 m pc ls [.int v]) :=
  W.widen hc hs (W.zret S.1 S.2.1 hr (by rcases hv with rfl | rfl <;> decide +kernel) (fun t ht _ => ⟨⟨_, rfl, by rw [ht]; exact hp⟩, hS.F ht⟩) hS.2.2 hdg)
theorem zk_lret {v : Int64} (S : CallFix p m c cc nL s args zTB own) (hr : meth.sig.returnType = some .long) (hlk : meth.locks = false) (hS : va_S A s.heap H locs) (hp : post (some (.long v)) H) (hc : cells ≤ mc) (hs : slots ≤ ms) (hdg : decode cc pc = .ok (.lreturn, 1)) : W p l e R s m args below meth c H locs cells slots (MQ below (zk_mQ post A) args s mc ms A) (F0 m pc ls [.long v]) :=
  W.widen hc hs (W.lret S.1 S.2.1 hr (fun t ht _ => ⟨⟨_, rfl, by rw [ht]; exact hp⟩, hS.F ht⟩) hS.2.2 hdg)
theorem zk_aret {v : Nat} {rt : FieldType} (S : CallFix p m c cc nL s args zTB own) (hr : meth.sig.returnType = some rt) (hrt : (∃ n, rt = .object n) ∨ ∃ t, rt = .array t) (hlk : meth.locks = false) (hS : va_S A s.heap H locs) (hp : post (some (.ref v)) H) (hc : cells ≤ mc) (hs : slots ≤ ms) (hdg : decode cc pc = .ok (.areturn, 1)) : W p l e R s m args below meth c H locs cells slots (MQ below (zk_mQ post A) args s mc ms A) (F0 m pc ls [.ref v]) :=
  W.widen hc hs (W.aret S.1 S.2.1 hr hrt (Or.inr ⟨v, rfl⟩) (fun t ht _ => ⟨⟨_, rfl, by rw [ht]; exact hp⟩, hS.F ht⟩) hS.2.2 hdg)
/-- a new array of a class that is known -/
theorem zk_newa (S : CallFix p m c cc nL s args zTB own) {atype : ArrayType} {ty : FieldType} (hm : Cond.arrayClass ty ∈ zTB) (hty : newarray.typeOf atype = ty) (hnr : ∀ C, ty ≠ .object C) (hK : va_K D cl tys s) (t0 : Nat) {cA : ClassId} (ht0 : tys[t0]? = some (cA, ty)) (hP : va_P D cl ws H) (hD : va_D A ws) (hS : va_S A H0 H locs) (hA : ∀ q, H0.size ≤ q → A q)
    {n : Int32} {N' : Nat} {a0 : vp_A} (ha : ∀ cA : ClassId, vp_cell cA a0 = arrV cA N' (fun _ => defaultValue ty)) (hn : ¬ n < 0) (hN : n.toNatClampNeg = N') (hbytes : N' * componentBytes ty ≤ 536870912) (hcells : cells + 1 ≤ R.cells) (hslots : slots + N' ≤ R.slots) (hdg : decode cc pc = .ok (.newarray atype, 2))
    (kk : ∀ (q : Nat) (H1 : Heap), va_P D cl (ws ++ [(q, .inl (cA, a0))]) H1 → va_D A (ws ++ [(q, .inl (cA, a0))]) → va_S A H0 H1 locs → W p l e R s m args below meth c H1 locs (cells + 1) (slots + N') Q (F0 m (pc + 2) ls (.ref q :: rest))) : W p l e R s m args below meth c H locs cells slots Q (F0 m pc ls (.int n :: rest)) := by
  subst hty
  refine va_newa S.1 S.2.1 (S.2.2.2.2 _ hm) rfl hK hP hD hS hA ha hn hN hbytes hcells hslots hdg (fun q cA1 H1 hK1 hP1 hD1 hS1 => ?_)
  have e1 : va_RA s cA1 (newarray.typeOf atype) := (hK1.2 tys.length (cA1, newarray.typeOf atype) (by simp)).2
  have e2 : va_RA s cA (newarray.typeOf atype) := (hK.2 t0 _ ht0).2
  have e3 : cA1 = cA := by
    generalize newarray.typeOf atype = t at *
    cases t with
    | object C => exact absurd rfl (hnr C)
    | _ => exact Option.some.inj (e1.symm.trans e2)
  subst e3
  exact kk q H1 hP1 hD1 hS1
end
/-- a cell of the world that the callee doesn't get is none of the callee's -/
theorem zk_apart {D : va_G} {cl : List vw_C} {A0 : Nat → Prop} {ws wc : va_W} {H : Heap} (hP : va_P D cl ws H) (hD : va_D A0 ws) (isC : List Nat) (hC : isC.map (fun i => ws[i]?) = wc.map some) {k q : Nat} {x : va_E} (hk : ws[k]? = some (q, x)) (hn : k ∉ isC) : ¬ va_A wc H.size q := by
  intro h
  rcases h with ⟨k2, e, h⟩ | h
  · have h1 : (isC.map (fun i => ws[i]?))[k2]? = some (some (q, e)) := by rw [hC, List.getElem?_map, h]; rfl
    rw [List.getElem?_map] at h1
    cases hi : isC[k2]? with
    | none => rw [hi] at h1; cases h1
    | some i =>
      rw [hi] at h1
      have h2 := hD.1 k i (q, x) (q, e) hk (Option.some.inj h1) rfl
      subst h2
      exact hn (List.mem_of_getElem? hi)
  · exact absurd (hP k _ hk).lt (Nat.not_lt.mpr h)
end
section
/-! What fits what, by places: a text is t, its bytes from p to e; items i .. i + n - 1, a star (none) or a set of ranges -/
abbrev pItem : Type := Option (List (Nat × Nat))
def pIn (S : List (Nat × Nat)) (v : Nat) : Bool := S.any (fun q => decide (q.1 ≤ v) && decide (v ≤ q.2))
def pF (t : Nat → Nat) (it : Nat → pItem) : Nat → Nat → Nat → Nat → Prop
  | 0, _, p, e => p = e
  | n + 1, i, p, e => match it i with
    | none => ∃ k, p ≤ k ∧ k ≤ e ∧ pF t it n (i + 1) k e
    | some S => p < e ∧ pIn S (t p) = true ∧ pF t it n (i + 1) (p + 1) e
def pRun (t : Nat → Nat) (it : Nat → pItem) (i a p : Nat) : Prop := ∀ j, j < a → ∃ S, it (i + j) = some S ∧ pIn S (t (p + j)) = true
def pG (t : Nat → Nat) (it : Nat → pItem) (n i p e : Nat) : Prop := ∃ k, p ≤ k ∧ k ≤ e ∧ pF t it n i k e
def pLeast (t : Nat → Nat) (it : Nat → pItem) (n i p to : Nat) (r : Option Nat) : Prop := match r with
  | some e => e ≤ to ∧ pG t it n i p e ∧ ∀ e', pG t it n i p e' → e ≤ e'
  | none => ∀ e, e ≤ to → ¬ pG t it n i p e
def pPlace (t : Nat → Nat) (it : Nat → pItem) (i a p to : Nat) (r : Option Nat) : Prop := match r with
  | some k => p ≤ k ∧ k + a ≤ to ∧ pRun t it i a k ∧ ∀ k', p ≤ k' → k' + a ≤ to → pRun t it i a k' → k ≤ k'
  | none => ∀ k, p ≤ k → k + a ≤ to → ¬ pRun t it i a k
section
variable {t : Nat → Nat} {it : Nat → pItem}
theorem pF_star {n i p e : Nat} (h : it i = none) : pF t it (n + 1) i p e ↔ ∃ k, p ≤ k ∧ k ≤ e ∧ pF t it n (i + 1) k e := by
  simp only [pF, h]
theorem pF_set {n i p e : Nat} {S : List (Nat × Nat)} (h : it i = some S) : pF t it (n + 1) i p e ↔ p < e ∧ pIn S (t p) = true ∧ pF t it n (i + 1) (p + 1) e := by
  simp only [pF, h]
theorem pF_le : ∀ (n i p e : Nat), pF t it n i p e → p ≤ e := by
  intro n
  induction n with
  | zero => intro i p e h; exact Nat.le_of_eq h
  | succ n ih =>
    intro i p e h
    cases hi : it i with
    | none =>
      obtain ⟨k, h1, h2, -⟩ := (pF_star hi).mp h
      omega
    | some S =>
      obtain ⟨h1, -⟩ := (pF_set hi).mp h
      omega
theorem pRun_0 {i p : Nat} : pRun t it i 0 p := fun j hj => absurd hj (Nat.not_lt_zero j)
theorem pF_run : ∀ (a n i p e : Nat), (∀ j, j < a → it (i + j) ≠ none) → (pF t it (a + n) i p e ↔ pRun t it i a p ∧ pF t it n (i + a) (p + a) e) := by
  intro a
  induction a with
  | zero =>
    intro n i p e _
    rw [Nat.zero_add, Nat.add_zero, Nat.add_zero]
    exact ⟨fun h => ⟨pRun_0, h⟩, fun h => h.2⟩
  | succ a ih =>
    intro n i p e h
    cases hi : it i with
    | none => exact absurd hi (h 0 (Nat.succ_pos a))
    | some S =>
      rw [show a + 1 + n = (a + n) + 1 by omega, pF_set hi, ih n (i + 1) (p + 1) e (fun j hj => by rw [show i + 1 + j = i + (j + 1) by omega]; exact h (j + 1) (by omega)), show i + (a + 1) = i + 1 + a by omega, show p + (a + 1) = p + 1 + a by omega]
      constructor
      · rintro ⟨h1, h2, h3, h4⟩
        refine ⟨fun j hj => ?_, h4⟩
        cases j with
        | zero => exact ⟨S, hi, h2⟩
        | succ j =>
          obtain ⟨S', h5, h6⟩ := h3 j (by omega)
          exact ⟨S', by rw [show i + (j + 1) = i + 1 + j by omega]; exact h5, by rw [show p + (j + 1) = p + 1 + j by omega]; exact h6⟩
      · rintro ⟨h1, h4⟩
        have h5 := pF_le _ _ _ _ h4
        obtain ⟨S', h6, h7⟩ := h1 0 (by omega)
        rw [Nat.add_zero] at h6 h7
        rw [hi] at h6
        cases h6
        refine ⟨by omega, h7, fun j hj => ?_, h4⟩
        obtain ⟨S', h8, h9⟩ := h1 (j + 1) (by omega)
        exact ⟨S', by rw [show i + 1 + j = i + (j + 1) by omega]; exact h8, by rw [show p + 1 + j = p + (j + 1) by omega]; exact h9⟩
theorem pG_mono {n i p q e : Nat} (hq : q ≤ p) (h : pG t it n i p e) : pG t it n i q e := by
  obtain ⟨k, h1, h2, h3⟩ := h
  exact ⟨k, by omega, h2, h3⟩
theorem pG_step {a n i p to k e : Nat} (hr : ∀ j, j < a → it (i + j) ≠ none) (hs : it (i + a) = none) (hp : pPlace t it i a p to (some k)) : pG t it (a + (n + 1)) i p e ↔ pG t it n (i + a + 1) (k + a) e := by
  obtain ⟨h1, h2, h3, h4⟩ := hp
  constructor
  · rintro ⟨q, g1, g2, g3⟩
    rw [pF_run a (n + 1) i q e hr, pF_star hs] at g3
    obtain ⟨g4, z, g5, g6, g7⟩ := g3
    have hk : k ≤ q := by
      by_cases hc : q + a ≤ to
      · exact h4 q g1 hc g4
      · omega
    exact ⟨z, by omega, g6, g7⟩
  · rintro ⟨z, g1, g2, g3⟩
    refine ⟨k, h1, by omega, ?_⟩
    rw [pF_run a (n + 1) i k e hr, pF_star hs]
    exact ⟨h3, z, g1, g2, g3⟩
theorem pLeast_step {a n i p to k : Nat} {r : Option Nat} (hr : ∀ j, j < a → it (i + j) ≠ none) (hs : it (i + a) = none) (hp : pPlace t it i a p to (some k)) (h : pLeast t it n (i + a + 1) (k + a) to r) : pLeast t it (a + (n + 1)) i p to r := by
  cases r with
  | none => exact fun e he hg => h e he ((pG_step hr hs hp).mp hg)
  | some e => exact ⟨h.1, (pG_step hr hs hp).mpr h.2.1, fun e' hg => h.2.2 e' ((pG_step hr hs hp).mp hg)⟩
theorem pLeast_no {a n i p to : Nat} (hr : ∀ j, j < a → it (i + j) ≠ none) (hp : pPlace t it i a p to none) : pLeast t it (a + n) i p to none := by
  rintro e he ⟨q, g1, g2, g3⟩
  rw [pF_run a n i q e hr] at g3
  have := pF_le _ _ _ _ g3.2
  exact hp q g1 (by omega) g3.1
theorem pLeast_run {a i p to k : Nat} (hr : ∀ j, j < a → it (i + j) ≠ none) (hp : pPlace t it i a p to (some k)) : pLeast t it a i p to (some (k + a)) := by
  obtain ⟨h1, h2, h3, h4⟩ := hp
  have key : ∀ q e, pF t it a i q e ↔ pRun t it i a q ∧ q + a = e := by
    intro q e
    have := pF_run (t := t) (it := it) a 0 i q e hr
    rw [Nat.add_zero] at this
    rw [this]
    exact Iff.rfl
  refine ⟨h2, ⟨k, h1, by omega, (key k _).mpr ⟨h3, rfl⟩⟩, ?_⟩
  rintro e' ⟨q, g1, g2, g3⟩
  obtain ⟨g4, g5⟩ := (key q e').mp g3
  by_cases hc : q + a ≤ to
  · have := h4 q g1 hc g4
    omega
  · omega
theorem pLeast_0 {i p to : Nat} (h : p ≤ to) : pLeast t it 0 i p to (some p) := by
  refine ⟨h, ⟨p, Nat.le_refl p, Nat.le_refl p, rfl⟩, ?_⟩
  rintro e' ⟨q, g1, g2, -⟩
  omega
theorem pF_tail : ∀ (n a i p e : Nat), (∀ j, j < a → it (i + n + j) ≠ none) → (pF t it (n + a) i p e ↔ a ≤ e ∧ pF t it n i p (e - a) ∧ pRun t it (i + n) a (e - a)) := by
  intro n
  induction n with
  | zero =>
    intro a i p e h
    have h0 := pF_run (t := t) (it := it) a 0 i p e (fun j hj => by have := h j hj; rwa [Nat.add_zero] at this)
    rw [Nat.add_zero] at h0
    rw [Nat.zero_add, Nat.add_zero, h0]
    constructor
    · rintro ⟨h1, h2⟩
      have h2 : p + a = e := h2
      have h3 : p = e - a := by omega
      exact ⟨by omega, h3, by rw [← h3]; exact h1⟩
    · rintro ⟨h1, h2, h3⟩
      have h2 : p = e - a := h2
      refine ⟨by rw [h2]; exact h3, ?_⟩
      show p + a = e
      omega
  | succ n ih =>
    intro a i p e h
    have h' : ∀ j, j < a → it (i + 1 + n + j) ≠ none := fun j hj => by rw [show i + 1 + n + j = i + (n + 1) + j by omega]; exact h j hj
    rw [show n + 1 + a = (n + a) + 1 by omega, show i + (n + 1) = i + 1 + n by omega]
    cases hi : it i with
    | none =>
      rw [pF_star hi, pF_star hi]
      constructor
      · rintro ⟨k, h1, h2, h3⟩
        obtain ⟨g1, g2, g3⟩ := (ih a (i + 1) k e h').mp h3
        exact ⟨g1, ⟨k, h1, pF_le _ _ _ _ g2, g2⟩, g3⟩
      · rintro ⟨g1, ⟨k, h1, h2, h3⟩, g3⟩
        exact ⟨k, h1, by omega, (ih a (i + 1) k e h').mpr ⟨g1, h3, g3⟩⟩
    | some S =>
      rw [pF_set hi, pF_set hi]
      constructor
      · rintro ⟨h1, h2, h3⟩
        obtain ⟨g1, g2, g3⟩ := (ih a (i + 1) (p + 1) e h').mp h3
        have := pF_le _ _ _ _ g2
        exact ⟨g1, ⟨by omega, h2, g2⟩, g3⟩
      · rintro ⟨g1, ⟨h1, h2, h3⟩, g3⟩
        exact ⟨by omega, h2, (ih a (i + 1) (p + 1) e h').mpr ⟨g1, h3, g3⟩⟩
theorem pF_last : ∀ (n i p e : Nat), it (i + n) = none → (pF t it (n + 1) i p e ↔ ∃ e', e' ≤ e ∧ pF t it n i p e') := by
  intro n
  induction n with
  | zero =>
    intro i p e h
    rw [pF_star (by rw [Nat.add_zero] at h; exact h)]
    constructor
    · rintro ⟨k, h1, h2, h3⟩
      exact ⟨p, by omega, rfl⟩
    · rintro ⟨e', h1, h2⟩
      have h2 : p = e' := h2
      exact ⟨e, by omega, Nat.le_refl e, rfl⟩
  | succ n ih =>
    intro i p e h
    have h' : it (i + 1 + n) = none := by rw [show i + 1 + n = i + (n + 1) by omega]; exact h
    cases hi : it i with
    | none =>
      rw [pF_star hi]
      constructor
      · rintro ⟨k, h1, h2, h3⟩
        obtain ⟨e', g1, g2⟩ := (ih (i + 1) k e h').mp h3
        exact ⟨e', g1, (pF_star hi).mpr ⟨k, h1, pF_le _ _ _ _ g2, g2⟩⟩
      · rintro ⟨e', g1, g2⟩
        obtain ⟨k, h1, h2, h3⟩ := (pF_star hi).mp g2
        exact ⟨k, h1, by omega, (ih (i + 1) k e h').mpr ⟨e', g1, h3⟩⟩
    | some S =>
      rw [pF_set hi]
      constructor
      · rintro ⟨h1, h2, h3⟩
        obtain ⟨e', g1, g2⟩ := (ih (i + 1) (p + 1) e h').mp h3
        have := pF_le _ _ _ _ g2
        exact ⟨e', g1, (pF_set hi).mpr ⟨by omega, h2, g2⟩⟩
      · rintro ⟨e', g1, g2⟩
        obtain ⟨h1, h2, h3⟩ := (pF_set hi).mp g2
        exact ⟨by omega, h2, (ih (i + 1) (p + 1) e h').mpr ⟨e', g1, h3⟩⟩
/-- a whole text: the run ahead of the first star, the run behind the last one, and between them the earliest places -/
theorem pF_whole {h tl cnt sz : Nat} (h1 : h < tl) (h2 : tl ≤ cnt) (hh : ∀ j, j < h → it j ≠ none) (hs : it h = none) (ht : it (tl - 1) = none) (hl : ∀ j, tl ≤ j → j < cnt → it j ≠ none) :
    pF t it cnt 0 0 sz ↔ cnt - tl ≤ sz ∧ h ≤ sz - (cnt - tl) ∧ pRun t it 0 h 0 ∧ pRun t it tl (cnt - tl) (sz - (cnt - tl)) ∧ ∃ e, e ≤ sz - (cnt - tl) ∧ pG t it (tl - h) h h e := by
  have e1 := pF_run (t := t) (it := it) h ((tl - h) + (cnt - tl)) 0 0 sz (fun j hj => by rw [Nat.zero_add]; exact hh j hj)
  rw [show h + ((tl - h) + (cnt - tl)) = cnt by omega, Nat.zero_add] at e1
  have e2 := pF_tail (t := t) (it := it) (tl - h) (cnt - tl) h h sz (fun j hj => by rw [show h + (tl - h) + j = tl + j by omega]; exact hl _ (by omega) (by omega))
  rw [show h + (tl - h) = tl by omega] at e2
  rw [e1, e2]
  obtain ⟨k, hk⟩ : ∃ k, tl - h = k + 1 := ⟨tl - h - 1, by omega⟩
  have hlast : it (h + k) = none := by rw [show h + k = tl - 1 by omega]; exact ht
  constructor
  · rintro ⟨g1, g2, g3, g4⟩
    exact ⟨g2, pF_le _ _ _ _ g3, g1, g4, _, Nat.le_refl _, h, Nat.le_refl h, pF_le _ _ _ _ g3, g3⟩
  · rintro ⟨g2, g5, g1, g4, e, g6, q, g7, g8, g9⟩
    refine ⟨g1, g2, ?_, g4⟩
    rw [hk] at g9 ⊢
    obtain ⟨k2, z1, z2, z3⟩ := (pF_star hs).mp g9
    obtain ⟨e', y1, y2⟩ := (pF_last k h h e hlast).mp ((pF_star hs).mpr ⟨k2, by omega, z2, z3⟩)
    exact (pF_last k h h _ hlast).mpr ⟨e', by omega, y2⟩
end
end
section
/-! Bytes: a row of bytes up to a limit -/
/-- the rooms that a row may have under its limit -/
def zOk (lim n : Nat) : Prop := (lim, n) ∈ [(200, 64), (200, 128), (200, 200), (1024, 64), (1024, 128), (1024, 256), (1024, 512), (1024, 1024), (32768, 64), (32768, 128), (32768, 256), (32768, 512), (32768, 1024), (32768, 2048), (32768, 4096), (32768, 8192), (32768, 16384), (32768, 32768)]
theorem zOk_grow {lim n : Nat} (h : zOk lim n) (hl : n < lim) : zOk lim (min lim (n + n)) ∧ min lim (n + n) ≤ 3 * (min lim (n + n) - n) ∧ n < min lim (n + n) := by
  have key : ∀ q ∈ [(200, 64), (200, 128), (200, 200), (1024, 64), (1024, 128), (1024, 256), (1024, 512), (1024, 1024), (32768, 64), (32768, 128), (32768, 256), (32768, 512), (32768, 1024), (32768, 2048), (32768, 4096), (32768, 8192), (32768, 16384), (32768, 32768)], q.2 < q.1 → ((q.1, min q.1 (q.2 + q.2)) ∈ [(200, 64), (200, 128), (200, 200), (1024, 64), (1024, 128), (1024, 256), (1024, 512), (1024, 1024), (32768, 64), (32768, 128), (32768, 256), (32768, 512), (32768, 1024), (32768, 2048), (32768, 4096), (32768, 8192), (32768, 16384), (32768, 32768)] ∧ min q.1 (q.2 + q.2) ≤ 3 * (min q.1 (q.2 + q.2) - q.2) ∧ q.2 < min q.1 (q.2 + q.2)) := by decide +kernel
  exact key (lim, n) h hl
def zBs (lim n : Nat) (f : Nat → Int32) (bs : List Nat) : Prop := bs.length ≤ n ∧ n ≤ lim ∧ 64 ≤ n ∧ (lim ≤ 32768 ∧ zOk lim n) ∧ ∀ i, i < bs.length → bs.getD i 0 < 256 ∧ f i = sb_b (bs.getD i 0)
def BsAt (D : va_G) (kA : Nat → ClassId) (Z : Nat → Prop) (H : Heap) (a lim : Nat) (bs : List Nat) : Prop := ∃ (r n : Nat) (f : Nat → Int32), Z a ∧ Z r ∧ va_at D classes (a, .inr (0, [.int (nI lim), .ref r, .int (nI bs.length)])) H ∧ va_at D classes (r, .inl (kA 0, n, .inl f)) H ∧ zBs lim n f bs
theorem BsAt.weaken {D : va_G} {kA : Nat → ClassId} {Z Z' : Nat → Prop} {H : Heap} {a lim : Nat} {bs : List Nat} (h : BsAt D kA Z H a lim bs) (hz : ∀ q, Z q → Z' q) : BsAt D kA Z' H a lim bs := by
  obtain ⟨r, n, f, h1, h2, h3⟩ := h
  exact ⟨r, n, f, hz _ h1, hz _ h2, h3⟩
theorem BsAt.kept {D : va_G} {kA : Nat → ClassId} {Z : Nat → Prop} {H H1 : Heap} {a lim : Nat} {bs : List Nat} (h : BsAt D kA Z H a lim bs) (hk : ∀ q, Z q → q < H.size → H1[q]? = H[q]?) : BsAt D kA Z H1 a lim bs := by
  obtain ⟨r, n, f, h1, h2, h3, h4, h5⟩ := h
  exact ⟨r, n, f, h1, h2, h3.kept (hk _ h1 h3.lt), h4.kept (hk _ h2 h4.lt), h5⟩
theorem BsAt.ro {D : va_G} {kA : Nat → ClassId} {A : Nat → Prop} {H0 H : Heap} {locs : List Loc} {a lim : Nat} {bs : List Nat} (h : BsAt D kA (fun q => ¬ A q) H0 a lim bs) (hS : va_S A H0 H locs) : BsAt D kA (fun q => ¬ A q) H a lim bs := h.kept (fun q hq hlt => hS.2.1 q hlt hq)
def bAt (bs : List Nat) (x : Int32) : Int32 := if 0 ≤ x.toInt ∧ x.toInt < bs.length then nI (bs.getD x.toInt.toNat 0) else -1
theorem bAt_neg {bs : List Nat} {x : Int32} (h : x < 0) : bAt bs x = -1 := by
  have h1 : x.toInt < 0 := Int32.lt_iff_toInt_lt.mp h
  unfold bAt
  rw [if_neg (by omega)]
theorem bAt_ge {bs : List Nat} {x : Int32} (hb : bs.length < 2 ^ 31) (h : nI bs.length ≤ x) : bAt bs x = -1 := by
  have h1 := Int32.le_iff_toInt_le.mp h
  rw [nI_toInt hb] at h1
  unfold bAt
  rw [if_neg (by omega)]
theorem bAt_nI {bs : List Nat} {i : Nat} (hb : bs.length < 2 ^ 31) (h : i < bs.length) : bAt bs (nI i) = nI (bs.getD i 0) := by
  unfold bAt
  rw [nI_toInt (by omega), if_pos (by omega)]
  rfl
theorem bAt_nIge {bs : List Nat} {i : Nat} (hi : i < 2 ^ 31) (h : bs.length ≤ i) : bAt bs (nI i) = -1 := by
  unfold bAt
  rw [nI_toInt hi, if_neg (by omega)]
end
section
set_option maxHeartbeats 4000000 in
set_option maxRecDepth 100000 in
/-- Bytes.size() -/
theorem c_Bytes_size (l : Launch) (D : va_G) (kA : Nat → ClassId) (Z : Nat → Prop) (a lim : Nat) (bs : List Nat) : Met l y_Bytes_size (Cond.code y_Bytes_size b_Bytes_size 1 (some .int) :: zTB) { frames := 0, cells := 0, slots := 0, locals := 0 } (zk_Pc D classes (zTY kA) [.ref a] (fun H => BsAt D kA Z H a lim bs)) (zk_pQ (some (Value.int (nI bs.length)))) 0 0 zk_no := by
  refine zk_of [.ref a] (by decide) (Nat.le_of_ble_eq_true rfl) ?_
  intro p e s m below meth c S hr hlk hnm hK hX hpre ls hl
  obtain ⟨hx, hb, hml, hown, ht⟩ := id S
  obtain ⟨r, n, f, ha, hra, hP1, hP2, hbs⟩ := hpre
  obtain ⟨h1, h2, h3, h4, h5⟩ := id hbs
  have hl : lv_has ls 1 [(0, .ref a)] := hl
  refine lv_aload_n hx hb d_Bytes_size_0 rfl (lv_at hl 0 rfl) ?_
  refine zk_get (C := R_Bytes) (T := F_Bytes) (N := 3) S hK hP1 rfl i_Bytes 2 (by decide) m_Bytes_28 rfl rfl d_Bytes_size_1 ?_
  exact zk_reti S hr hlk d_Bytes_size_4

set_option maxHeartbeats 4000000 in
set_option maxRecDepth 100000 in
/-- Bytes.at(i) -/
theorem c_Bytes_at (l : Launch) (D : va_G) (kA : Nat → ClassId) (Z : Nat → Prop) (a lim : Nat) (bs : List Nat) (x : Int32) : Met l y_Bytes_at (Cond.code y_Bytes_at b_Bytes_at 2 (some .int) :: zTB) { frames := 0, cells := 0, slots := 0, locals := 0 } (zk_Pc D classes (zTY kA) [.ref a, .int x] (fun H => BsAt D kA Z H a lim bs)) (zk_pQ (some (Value.int (bAt bs x)))) 0 0 zk_no := by
  refine zk_of [.ref a, .int x] (by decide) (Nat.le_of_ble_eq_true rfl) ?_
  intro p e s m below meth c S hr hlk hnm hK hX hpre ls hl
  obtain ⟨hx, hb, hml, hown, ht⟩ := id S
  obtain ⟨r, n, f, ha, hra, hP1, hP2, hbs⟩ := hpre
  obtain ⟨h1, h2, h3, h4, h5⟩ := id hbs
  have hl : lv_has ls 2 [(0, .ref a), (1, .int x)] := hl
  refine lv_iload_n hx hb d_Bytes_at_0 rfl (lv_at hl 1 rfl) ?_
  refine lv_if_lt (tgt := 34) hx hb d_Bytes_at_1 (by decide) (fun c1 => ?_) (fun c1 => ?_)
  · refine lv_iconst (v := (-1)) hx hb d_Bytes_at_34 (by decide) ?_
    refine zk_ti (z := bAt bs x) (bAt_neg c1).symm ?_
    exact zk_reti S hr hlk d_Bytes_at_35
  · refine lv_iload_n hx hb d_Bytes_at_4 rfl (lv_at hl 1 rfl) ?_
    refine lv_aload_n hx hb d_Bytes_at_5 rfl (lv_at hl 0 rfl) ?_
    refine zk_get (C := R_Bytes) (T := F_Bytes) (N := 3) S hK hP1 rfl i_Bytes 2 (by decide) m_Bytes_28 rfl rfl d_Bytes_at_6 ?_
    refine lv_icmp_ge (tgt := 34) hx hb d_Bytes_at_9 (by decide) (fun c9 => ?_) (fun c9 => ?_)
    · refine lv_iconst (v := (-1)) hx hb d_Bytes_at_34 (by decide) ?_
      refine zk_ti (z := bAt bs x) (bAt_ge (by omega) c9).symm ?_
      exact zk_reti S hr hlk d_Bytes_at_35
    · obtain ⟨j, hj, ex⟩ : ∃ j, j < bs.length ∧ x = nI j := (pk_ix x (n := bs.length) (by omega)).resolve_left c1 |>.resolve_left c9
      refine lv_iload_n hx hb d_Bytes_at_12 rfl (lv_at hl 1 rfl) ?_
      refine lv_aload_n hx hb d_Bytes_at_13 rfl (lv_at hl 0 rfl) ?_
      refine zk_get (C := R_Bytes) (T := F_Bytes) (N := 3) S hK hP1 rfl i_Bytes 1 (by decide) m_Bytes_24 rfl rfl d_Bytes_at_14 ?_
      refine zk_alen S hK 0 hP2 rfl (v := nI n) rfl d_Bytes_at_17 ?_
      refine lv_icmp_ge (tgt := 34) hx hb d_Bytes_at_18 (by decide) (fun c18 => ?_) (fun c18 => ?_)
      · exact absurd c18 (by rw [ex]; exact nI_ge (by omega) (by omega))
      · refine lv_aload_n hx hb d_Bytes_at_21 rfl (lv_at hl 0 rfl) ?_
        refine zk_get (C := R_Bytes) (T := F_Bytes) (N := 3) S hK hP1 rfl i_Bytes 1 (by decide) m_Bytes_24 rfl rfl d_Bytes_at_22 ?_
        refine lv_iload_n hx hb d_Bytes_at_25 rfl (lv_at hl 1 rfl) ?_
        refine zk_bald S hK 0 hP2 rfl (by rw [ex]; exact vp_in_nI (by omega) (by omega)) d_Bytes_at_26 ?_
        refine zk_ti (z := sb_b (bs.getD j 0)) (by rw [ex, nI_clamp (by omega)]; exact (h5 j hj).2) ?_
        refine lv_sipush (v := 255) hx hb d_Bytes_at_27 (by decide) ?_
        refine lv_iand hx hb d_Bytes_at_30 ?_
        refine zk_ti (z := nI (bs.getD j 0)) ((sb_byte _ (h5 j hj).1).1) ?_
        refine lv_goto (tgt := 35) hx hb d_Bytes_at_31 (by decide) ?_
        refine zk_ti (z := bAt bs x) (by rw [ex]; exact (bAt_nI (by omega) hj).symm) ?_
        exact zk_reti S hr hlk d_Bytes_at_35

set_option maxHeartbeats 4000000 in
set_option maxRecDepth 100000 in
/-- Bytes.hasRoomFor(n) -/
theorem c_Bytes_hasRoomFor (l : Launch) (D : va_G) (kA : Nat → ClassId) (Z : Nat → Prop) (a lim : Nat) (bs : List Nat) (k : Nat) (hk : k < 2 ^ 30) : Met l y_Bytes_hasRoomFor (Cond.code y_Bytes_hasRoomFor b_Bytes_hasRoomFor 2 (some .boolean) :: zTB) { frames := 0, cells := 0, slots := 0, locals := 0 } (zk_Pc D classes (zTY kA) [.ref a, .int (nI k)] (fun H => BsAt D kA Z H a lim bs)) (zk_pQ (some (Value.int (if k ≤ lim - bs.length then 1 else 0)))) 0 0 zk_no := by
  refine zk_of [.ref a, .int (nI k)] (by decide) (Nat.le_of_ble_eq_true rfl) ?_
  intro p e s m below meth c S hr hlk hnm hK hX hpre ls hl
  obtain ⟨hx, hb, hml, hown, ht⟩ := id S
  obtain ⟨r, n, f, ha, hra, hP1, hP2, hbs⟩ := hpre
  obtain ⟨h1, h2, h3, h4, h5⟩ := id hbs
  have hl : lv_has ls 2 [(0, .ref a), (1, .int (nI k))] := hl
  refine lv_iload_n hx hb d_Bytes_hasRoomFor_0 rfl (lv_at hl 1 rfl) ?_
  refine lv_aload_n hx hb d_Bytes_hasRoomFor_1 rfl (lv_at hl 0 rfl) ?_
  refine zk_get (C := R_Bytes) (T := F_Bytes) (N := 3) S hK hP1 rfl i_Bytes 0 (by decide) m_Bytes_15 rfl rfl d_Bytes_hasRoomFor_2 ?_
  refine lv_aload_n hx hb d_Bytes_hasRoomFor_5 rfl (lv_at hl 0 rfl) ?_
  refine zk_get (C := R_Bytes) (T := F_Bytes) (N := 3) S hK hP1 rfl i_Bytes 2 (by decide) m_Bytes_28 rfl rfl d_Bytes_hasRoomFor_6 ?_
  refine lv_isub hx hb d_Bytes_hasRoomFor_9 ?_
  refine zk_ti (z := nI (lim - bs.length)) (pk_sub (by omega)) ?_
  refine lv_icmp_gt (tgt := 17) hx hb d_Bytes_hasRoomFor_10 (by decide) (fun c10 => ?_) (fun c10 => ?_)
  · refine lv_iconst (v := 0) hx hb d_Bytes_hasRoomFor_17 (by decide) ?_
    refine zk_ti (z := if k ≤ lim - bs.length then 1 else 0) (if_neg (fun hh => absurd c10 (nI_nlt hh (by omega)))).symm ?_
    exact zk_retz S hr (by by_cases q : k ≤ lim - bs.length <;> simp [q]) hlk d_Bytes_hasRoomFor_18
  · refine lv_iconst (v := 1) hx hb d_Bytes_hasRoomFor_13 (by decide) ?_
    refine lv_goto (tgt := 18) hx hb d_Bytes_hasRoomFor_14 (by decide) ?_
    refine zk_ti (z := if k ≤ lim - bs.length then 1 else 0) (if_pos (Nat.not_lt.mp fun hh => c10 (nI_lt hh (by omega)))).symm ?_
    exact zk_retz S hr (by by_cases q : k ≤ lim - bs.length <;> simp [q]) hlk d_Bytes_hasRoomFor_18
end
section
theorem zgetD {bs : List Nat} {i : Nat} (h : i < bs.length) : bs.getD i 0 = bs[i] := by
  rw [List.getD_eq_getElem?_getD, List.getElem?_eq_getElem h]; rfl
/-- the first byte 0 -/
def zAt (bs : List Nat) : Option Nat := bs.findIdx? (fun b => b == 0)
def zI (o : Option Nat) : Int32 := match o with
  | some k => nI k
  | none => -1
theorem zAt_some {bs : List Nat} {i : Nat} (hi : i < bs.length) (h0 : bs.getD i 0 = 0) (h : ∀ j, j < i → bs.getD j 0 ≠ 0) : zAt bs = some i := by
  unfold zAt
  rw [List.findIdx?_eq_some_iff_getElem]
  refine ⟨hi, ?_, fun j hj => ?_⟩
  · rw [zgetD hi] at h0
    simp [h0]
  · have h1 := h j hj
    rw [zgetD (by omega)] at h1
    simp [h1]
theorem zAt_none {bs : List Nat} (h : ∀ j, j < bs.length → bs.getD j 0 ≠ 0) : zAt bs = none := by
  unfold zAt
  rw [List.findIdx?_eq_none_iff]
  intro x hx
  obtain ⟨j, hj, rfl⟩ := List.mem_iff_getElem.mp hx
  have h1 := h j hj
  rw [zgetD hj] at h1
  simp [h1]
abbrev wB (kA : Nat → ClassId) (a r lim n : Nat) (f : Nat → Int32) (bs : List Nat) : va_W := [(a, .inr (0, [.int (nI lim), .ref r, .int (nI bs.length)])), (r, .inl (kA 0, n, .inl f))]
/-- a row of bytes, behind a method: its limit, its room, what it holds; its own row somewhere -/
def BsPost (D : va_G) (kA : Nat → ClassId) (A : Nat → Prop) (H : Heap) (a lim n : Nat) (bs : List Nat) : Prop := ∃ (r : Nat) (f : Nat → Int32), va_P D classes (wB kA a r lim n f bs) H ∧ va_D A (wB kA a r lim n f bs) ∧ zBs lim n f bs
theorem zBs_nil {lim n : Nat} {f : Nat → Int32} {bs : List Nat} (h : zBs lim n f bs) : zBs lim n f [] := ⟨Nat.zero_le _, h.2.1, h.2.2.1, h.2.2.2.1, fun i hi => absurd hi (Nat.not_lt_zero i)⟩
theorem zBs_take {lim n k : Nat} {f : Nat → Int32} {bs : List Nat} (h : zBs lim n f bs) : zBs lim n f (bs.take k) := by
  obtain ⟨h1, h2, h3, h4, h5⟩ := h
  have hl : (bs.take k).length ≤ bs.length := by rw [List.length_take]; omega
  refine ⟨by omega, h2, h3, h4, fun i hi => ?_⟩
  have e : (bs.take k).getD i 0 = bs.getD i 0 := by
    rw [List.length_take] at hi
    rw [List.getD_eq_getElem?_getD, List.getD_eq_getElem?_getD, List.getElem?_take, if_pos (by omega)]
  rw [e]
  exact h5 i (by omega)
theorem zBs_drop {lim n k : Nat} {f g : Nat → Int32} {bs : List Nat} (h : zBs lim n f bs) (hg : ∀ i, i < bs.length - k → g i = f (k + i)) : zBs lim n g (bs.drop k) := by
  obtain ⟨h1, h2, h3, h4, h5⟩ := h
  refine ⟨by rw [List.length_drop]; omega, h2, h3, h4, fun i hi => ?_⟩
  rw [List.length_drop] at hi
  have e : (bs.drop k).getD i 0 = bs.getD (k + i) 0 := by
    rw [List.getD_eq_getElem?_getD, List.getD_eq_getElem?_getD, List.getElem?_drop]
  rw [e, hg i hi]
  exact h5 (k + i) (by omega)
theorem zBs_snoc {lim n v : Nat} {f : Nat → Int32} {bs : List Nat} (h : zBs lim n f bs) (hr : bs.length < n) (hv : v < 256) : zBs lim n (upd f bs.length (sb_b v)) (bs ++ [v]) := by
  obtain ⟨h1, h2, h3, h4, h5⟩ := h
  refine ⟨by rw [List.length_append]; simp; omega, h2, h3, h4, fun i hi => ?_⟩
  rw [List.length_append] at hi
  simp only [List.length_cons, List.length_nil] at hi
  by_cases hc : i = bs.length
  · subst hc
    rw [pk_us, List.getD_eq_getElem?_getD, List.getElem?_append_right (Nat.le_refl _), Nat.sub_self]
    exact ⟨hv, rfl⟩
  · rw [pk_un hc, List.getD_eq_getElem?_getD, List.getElem?_append_left (by omega), ← List.getD_eq_getElem?_getD]
    exact h5 i (by omega)
theorem zBs_grow {lim n n' : Nat} {f g : Nat → Int32} {bs : List Nat} (h : zBs lim n f bs) (hn : n ≤ n') (hl : n' ≤ lim) (ho : zOk lim n') (hg : ∀ i, i < n → g i = f i) : zBs lim n' g bs := by
  obtain ⟨h1, h2, h3, h4, h5⟩ := h
  refine ⟨by omega, hl, by omega, ⟨h4.1, ho⟩, fun i hi => ?_⟩
  rw [hg i (by omega)]
  exact h5 i hi
end
section
set_option maxHeartbeats 4000000 in
set_option maxRecDepth 100000 in
/-- Bytes.firstZero() -/
theorem c_Bytes_firstZero (l : Launch) (D : va_G) (kA : Nat → ClassId) (Z : Nat → Prop) (a lim : Nat) (bs : List Nat) : Met l y_Bytes_firstZero (Cond.code y_Bytes_firstZero b_Bytes_firstZero 2 (some .int) :: zTB) { frames := 1, cells := 0, slots := 0, locals := 21 } (zk_Pc D classes (zTY kA) [.ref a] (fun H => BsAt D kA Z H a lim bs)) (zk_pQ (some (Value.int (zI (zAt bs))))) 0 0 zk_no := by
  refine zk_of [.ref a] (by decide) (Nat.le_of_ble_eq_true rfl) ?_
  intro p e s m below meth c S hr hlk hnm hK hX hpre ls hl
  obtain ⟨hx, hb, hml, hown, ht⟩ := id S
  have hpre0 := hpre
  obtain ⟨r, n0, f, ha, hra, hP1, hP2, hbs⟩ := hpre
  obtain ⟨h1, h2, h3, h4, h5⟩ := id hbs
  have hl : lv_has ls 2 [(0, .ref a)] := hl
  refine lv_iconst (v := 0) hx hb d_Bytes_firstZero_0 (by decide) ?_
  refine lv_istore_n (lv' := [(1, .int 0), (0, .ref a)]) hx hb d_Bytes_firstZero_1 rfl hl (by decide) rfl (fun ls hl => ?_)
  have lp : ∀ (fu : Nat) (i : Nat), bs.length - i < fu → i ≤ bs.length → (∀ j, j < i → bs.getD j 0 ≠ 0) → ∀ ls : Array Slot, lv_has ls 2 [(0, .ref a), (1, .int (nI i))] → W p l e { frames := 1, cells := 0, slots := 0, locals := 21 } s m [.ref a].toArray below meth c s.heap [] 0 0 (MQ below (zk_pQ (some (Value.int (zI (zAt bs))))) [.ref a].toArray s 0 0 zk_no) (F0 m 2 ls []) := by
    intro fu
    induction fu with
    | zero => intro i hn; exact absurd hn (Nat.not_lt_zero _)
    | succ fu ih =>
      intro i hn hi hnz ls hl
      refine lv_iload_n hx hb d_Bytes_firstZero_2 rfl (lv_at hl 1 rfl) ?_
      refine lv_aload_n hx hb d_Bytes_firstZero_3 rfl (lv_at hl 0 rfl) ?_
      refine zk_get (C := R_Bytes) (T := F_Bytes) (N := 3) S hK hP1 rfl i_Bytes 2 (by decide) m_Bytes_28 rfl rfl d_Bytes_firstZero_4 ?_
      refine lv_icmp_ge (tgt := 26) hx hb d_Bytes_firstZero_7 (by decide) (fun c7 => ?_) (fun c7 => ?_)
      · refine lv_iconst (v := (-1)) hx hb d_Bytes_firstZero_26 (by decide) ?_
        refine zk_ti (z := zI (zAt bs)) (by
          have hge : bs.length ≤ i := (nI_leI (by omega) (by omega)).mp c7
          rw [zAt_none (fun j hj => hnz j (by omega))]; rfl) ?_
        exact zk_reti S hr hlk d_Bytes_firstZero_27
      · have hlt : i < bs.length := Nat.not_le.mp fun q => c7 (nI_le q (by omega))
        refine lv_aload_n hx hb d_Bytes_firstZero_10 rfl (lv_at hl 0 rfl) ?_
        refine lv_iload_n hx hb d_Bytes_firstZero_11 rfl (lv_at hl 1 rfl) ?_
        refine zk_pure (zk_runV (As := [.int (nI i)]) (rest := []) S m_Bytes_31 (c_Bytes_at l D kA Z a lim bs (nI i)) rfl rfl ⟨Nat.le_of_ble_eq_true rfl, Nat.le_of_ble_eq_true rfl⟩ hK hX (zk_recv hK hP1 rfl) (hpre0) rfl hl.1 rfl (Nat.le_of_ble_eq_true rfl) ⟨Nat.le_of_ble_eq_true rfl, Nat.le_of_ble_eq_true rfl⟩ d_Bytes_firstZero_12) ?_
        refine zk_ti (z := nI (bs.getD i 0)) (bAt_nI (by omega) hlt) ?_
        refine lv_if_ne (tgt := 20) hx hb d_Bytes_firstZero_15 (by decide) (fun c15 => ?_) (fun c15 => ?_)
        · have hz : bs.getD i 0 ≠ 0 := fun q => c15 (by rw [q]; rfl)
          refine lv_iinc (v := (nI (i + 1))) (lv' := [(1, .int (nI (i + 1))), (0, .ref a)]) hx hb d_Bytes_firstZero_20 hl (k := 1) rfl (nI_1 i) (by decide) rfl (fun ls hl => ?_)
          refine lv_goto (tgt := 2) hx hb d_Bytes_firstZero_23 (by decide) ?_
          exact ih (i + 1) (by omega) (by omega) (fun j hj => by
            by_cases q : j = i
            · rw [q]; exact hz
            · exact hnz j (by omega)) ls (lv_sub hl [1, 0] rfl)
        · have hz : bs.getD i 0 = 0 := by
            have := (h5 i hlt).1
            by_cases q : bs.getD i 0 = 0
            · exact q
            · exact absurd c15 (nI_ne0 (by omega) (by omega))
          refine lv_iload_n hx hb d_Bytes_firstZero_18 rfl (lv_at hl 1 rfl) ?_
          refine zk_ti (z := zI (zAt bs)) (by rw [zAt_some hlt hz hnz]; rfl) ?_
          exact zk_reti S hr hlk d_Bytes_firstZero_19
  exact lp (bs.length + 1) 0 (by omega) (Nat.zero_le _) (fun j hj => absurd hj (Nat.not_lt_zero j)) ls (lv_sub hl [1, 0] rfl)

set_option maxHeartbeats 4000000 in
set_option maxRecDepth 100000 in
/-- Bytes.clear() -/
theorem c_Bytes_clear (l : Launch) (D : va_G) (kA : Nat → ClassId) (a r lim n : Nat) (f : Nat → Int32) (bs : List Nat) (sz0 : Nat) : Met l y_Bytes_clear (Cond.code y_Bytes_clear b_Bytes_clear 1 none :: zTB) { frames := 0, cells := 0, slots := 0, locals := 0 } (zk_Pc D classes (zTY kA) [.ref a] (fun H => H.size = sz0 ∧ va_P D classes [(a, .inr (0, [.int (nI lim), .ref r, .int (nI bs.length)])), (r, .inl ((kA 0), n, .inl f))] H ∧ va_D (fun _ => True) [(a, .inr (0, [.int (nI lim), .ref r, .int (nI bs.length)])), (r, .inl ((kA 0), n, .inl f))] ∧ zBs lim n f bs)) (zk_mQ (fun v H => v = none ∧ BsPost D kA (va_A [(a, .inr (0, [.int (nI lim), .ref r, .int (nI bs.length)])), (r, .inl ((kA 0), n, .inl f))] sz0) H a lim n []) (va_A [(a, .inr (0, [.int (nI lim), .ref r, .int (nI bs.length)])), (r, .inl ((kA 0), n, .inl f))] sz0)) 0 0 (va_A [(a, .inr (0, [.int (nI lim), .ref r, .int (nI bs.length)])), (r, .inl ((kA 0), n, .inl f))] sz0) := by
  refine zk_of [.ref a] (by decide) (Nat.le_of_ble_eq_true rfl) ?_
  intro p e s m below meth c S hr hlk hnm hK hX hpre ls hl
  obtain ⟨hx, hb, hml, hown, ht⟩ := id S
  have hl : lv_has ls 1 [(0, .ref a)] := hl
  obtain ⟨hsz, hP, hD0, hbs⟩ := hpre
  subst hsz
  have hD := hD0.self (sz := s.heap.size)
  generalize hAe : va_A [(a, .inr (0, [.int (nI lim), .ref r, .int (nI bs.length)])), (r, .inl ((kA 0), n, .inl f))] s.heap.size = A at hD ⊢
  have hA : ∀ q : Nat, s.heap.size ≤ q → A q := fun q h => by rw [← hAe]; exact Or.inr h
  have hS : va_S A s.heap s.heap [] := va_S.rf
  have hP : va_P D classes [(a, .inr (0, [.int (nI lim), .ref r, .int (nI bs.length)])), (r, .inl ((kA 0), n, .inl f))] s.heap := hP
  refine lv_aload_n hx hb d_Bytes_clear_0 rfl (lv_at hl 0 rfl) ?_
  refine lv_iconst (v := 0) hx hb d_Bytes_clear_1 (by decide) ?_
  refine va_put (D := D) (ci := 0) (v := .int 0) (ty := .int) (C := R_Bytes) (T := F_Bytes) (N := 3) hx hb ht i_Bytes t_Bytes t_Bytes_ok n_Bytes hown hK hP hD hS 0 rfl rfl 2 (by decide) (ht _ m_Bytes_28) (fun _ h9 => h9) rfl (by decide +kernel) rfl rfl (Nat.le_of_ble_eq_true rfl) d_Bytes_clear_2 (fun H locs hP hD hS => ?_)
  have hP : va_P D classes [(a, .inr (0, [.int (nI lim), .ref r, .int 0])), (r, .inl ((kA 0), n, .inl f))] H := hP
  have hD : va_D A [(a, .inr (0, [.int (nI lim), .ref r, .int 0])), (r, .inl ((kA 0), n, .inl f))] := hD
  exact zk_vret S hr hlk hS ⟨rfl, r, f, hP, hD, zBs_nil hbs⟩ (Nat.le_refl _) (Nat.le_refl _) d_Bytes_clear_5

set_option maxHeartbeats 4000000 in
set_option maxRecDepth 100000 in
/-- Bytes.keepFirst(n) -/
theorem c_Bytes_keepFirst (l : Launch) (D : va_G) (kA : Nat → ClassId) (a r lim n : Nat) (f : Nat → Int32) (bs : List Nat) (x : Int32) (sz0 : Nat) : Met l y_Bytes_keepFirst (Cond.code y_Bytes_keepFirst b_Bytes_keepFirst 2 (some .boolean) :: zTB) { frames := 0, cells := 0, slots := 0, locals := 0 } (zk_Pc D classes (zTY kA) [.ref a, .int x] (fun H => H.size = sz0 ∧ va_P D classes [(a, .inr (0, [.int (nI lim), .ref r, .int (nI bs.length)])), (r, .inl ((kA 0), n, .inl f))] H ∧ va_D (fun _ => True) [(a, .inr (0, [.int (nI lim), .ref r, .int (nI bs.length)])), (r, .inl ((kA 0), n, .inl f))] ∧ zBs lim n f bs)) (zk_mQ (fun v H => (∃ k, x = nI k ∧ k ≤ bs.length ∧ v = some (.int 1) ∧ BsPost D kA (va_A [(a, .inr (0, [.int (nI lim), .ref r, .int (nI bs.length)])), (r, .inl ((kA 0), n, .inl f))] sz0) H a lim n (bs.take k)) ∨ ((∀ k, k ≤ bs.length → x ≠ nI k) ∧ v = some (.int 0) ∧ BsPost D kA (va_A [(a, .inr (0, [.int (nI lim), .ref r, .int (nI bs.length)])), (r, .inl ((kA 0), n, .inl f))] sz0) H a lim n bs)) (va_A [(a, .inr (0, [.int (nI lim), .ref r, .int (nI bs.length)])), (r, .inl ((kA 0), n, .inl f))] sz0)) 0 0 (va_A [(a, .inr (0, [.int (nI lim), .ref r, .int (nI bs.length)])), (r, .inl ((kA 0), n, .inl f))] sz0) := by
  refine zk_of [.ref a, .int x] (by decide) (Nat.le_of_ble_eq_true rfl) ?_
  intro p e s m below meth c S hr hlk hnm hK hX hpre ls hl
  obtain ⟨hx, hb, hml, hown, ht⟩ := id S
  have hl : lv_has ls 2 [(0, .ref a), (1, .int x)] := hl
  obtain ⟨hsz, hP, hD0, hbs⟩ := hpre
  subst hsz
  have hD := hD0.self (sz := s.heap.size)
  generalize hAe : va_A [(a, .inr (0, [.int (nI lim), .ref r, .int (nI bs.length)])), (r, .inl ((kA 0), n, .inl f))] s.heap.size = A at hD ⊢
  have hA : ∀ q : Nat, s.heap.size ≤ q → A q := fun q h => by rw [← hAe]; exact Or.inr h
  have hS : va_S A s.heap s.heap [] := va_S.rf
  have hP : va_P D classes [(a, .inr (0, [.int (nI lim), .ref r, .int (nI bs.length)])), (r, .inl ((kA 0), n, .inl f))] s.heap := hP
  refine lv_iload_n hx hb d_Bytes_keepFirst_0 rfl (lv_at hl 1 rfl) ?_
  obtain ⟨h1, h2, h3, h4, h5⟩ := id hbs
  refine lv_if_lt (tgt := 12) hx hb d_Bytes_keepFirst_1 (by decide) (fun c1 => ?_) (fun c1 => ?_)
  · refine lv_iconst (v := 0) hx hb d_Bytes_keepFirst_12 (by decide) ?_
    exact zk_zret S hr (by decide) hlk hS (Or.inr ⟨fun k hk q => absurd c1 (by rw [q]; exact nI_pos (by omega)), rfl, r, f, hP, hD, hbs⟩) (Nat.le_refl _) (Nat.le_refl _) d_Bytes_keepFirst_13
  · refine lv_iload_n hx hb d_Bytes_keepFirst_4 rfl (lv_at hl 1 rfl) ?_
    refine lv_aload_n hx hb d_Bytes_keepFirst_5 rfl (lv_at hl 0 rfl) ?_
    refine zk_get (C := R_Bytes) (T := F_Bytes) (N := 3) S hK (hP 0 _ rfl) rfl i_Bytes 2 (by decide) m_Bytes_28 rfl rfl d_Bytes_keepFirst_6 ?_
    refine lv_icmp_le (tgt := 14) hx hb d_Bytes_keepFirst_9 (by decide) (fun c9 => ?_) (fun c9 => ?_)
    · obtain ⟨k, hk, ex⟩ := nI_of2 (n := bs.length) (nI_toInt (by omega)) c1 c9
      have hlen : (bs.take k).length = k := by rw [List.length_take]; omega
      refine lv_aload_n hx hb d_Bytes_keepFirst_14 rfl (lv_at hl 0 rfl) ?_
      refine lv_iload_n hx hb d_Bytes_keepFirst_15 rfl (lv_at hl 1 rfl) ?_
      refine va_put (D := D) (ci := 0) (v := .int x) (ty := .int) (C := R_Bytes) (T := F_Bytes) (N := 3) hx hb ht i_Bytes t_Bytes t_Bytes_ok n_Bytes hown hK hP hD hS 0 rfl rfl 2 (by decide) (ht _ m_Bytes_28) (fun _ h9 => h9) rfl (by decide +kernel) rfl rfl (Nat.le_of_ble_eq_true rfl) d_Bytes_keepFirst_16 (fun H locs hP hD hS => ?_)
      have hP : va_P D classes [(a, .inr (0, [.int (nI lim), .ref r, .int x])), (r, .inl ((kA 0), n, .inl f))] H := hP
      have hD : va_D A [(a, .inr (0, [.int (nI lim), .ref r, .int x])), (r, .inl ((kA 0), n, .inl f))] := hD
      refine lv_iconst (v := 1) hx hb d_Bytes_keepFirst_19 (by decide) ?_
      exact zk_zret S hr (by decide) hlk hS (Or.inl ⟨k, ex, hk, rfl, r, f, by unfold wB; rw [hlen, ← ex]; exact hP, by unfold wB; rw [hlen, ← ex]; exact hD, zBs_take hbs⟩) (Nat.le_refl _) (Nat.le_refl _) d_Bytes_keepFirst_20
    · refine lv_iconst (v := 0) hx hb d_Bytes_keepFirst_12 (by decide) ?_
      exact zk_zret S hr (by decide) hlk hS (Or.inr ⟨fun k hk q => c9 (by rw [q]; exact nI_le hk (by omega)), rfl, r, f, hP, hD, hbs⟩) (Nat.le_refl _) (Nat.le_refl _) d_Bytes_keepFirst_13
end
section
/-- the room of a row behind one byte more -/
def zCap (lim n sz : Nat) : Nat := if sz < n then n else if lim ≤ sz then n else min lim (sz + sz)
def zApp (lim : Nat) (bs : List Nat) (v : Nat) : List Nat := if bs.length < lim then bs ++ [v] else bs
def zByte (x : Int32) : Nat := x.toBitVec.toNat % 256
theorem zByte_lt (x : Int32) : zByte x < 256 := Nat.mod_lt _ (by decide)
theorem zByte_nI {v : Nat} (h : v < 256) : zByte (nI v) = v := by
  unfold zByte
  rw [pk_tn (by omega), Nat.mod_eq_of_lt h]
theorem zByte_b (x : Int32) : x.toInt8.toInt32 = sb_b (zByte x) := by
  unfold sb_b
  refine congrArg Int8.toInt32 ?_
  refine Int8.toBitVec_inj.mp ?_
  rw [Int32.toBitVec_toInt8, Int32.toBitVec_toInt8]
  rw [BitVec.signExtend_eq_setWidth_of_le _ (by decide), BitVec.signExtend_eq_setWidth_of_le _ (by decide)]
  refine BitVec.eq_of_toNat_eq ?_
  rw [BitVec.toNat_setWidth, BitVec.toNat_setWidth, pk_tn (Nat.lt_trans (zByte_lt x) (by decide))]
  unfold zByte
  omega
theorem zCap_ge {lim n sz : Nat} (h : sz ≤ n) : n ≤ zCap lim n sz := by
  unfold zCap
  split
  · exact Nat.le_refl _
  · split
    · exact Nat.le_refl _
    · omega
theorem zCap_le {lim n sz : Nat} (h : n ≤ lim) : zCap lim n sz ≤ lim := by
  unfold zCap
  split
  · exact h
  · split
    · exact h
    · omega
end
section
set_option maxHeartbeats 4000000 in
set_option maxRecDepth 100000 in
/-- Bytes.dropFirst(n) -/
theorem c_Bytes_dropFirst (l : Launch) (D : va_G) (kA : Nat → ClassId) (a r lim n : Nat) (f : Nat → Int32) (bs : List Nat) (x : Int32) (sz0 : Nat) : Met l y_Bytes_dropFirst (Cond.code y_Bytes_dropFirst b_Bytes_dropFirst 2 (some .boolean) :: zTB) { frames := 1, cells := 0, slots := 0, locals := 40 } (zk_Pc D classes (zTY kA) [.ref a, .int x] (fun H => H.size = sz0 ∧ va_P D classes [(a, .inr (0, [.int (nI lim), .ref r, .int (nI bs.length)])), (r, .inl ((kA 0), n, .inl f))] H ∧ va_D (fun _ => True) [(a, .inr (0, [.int (nI lim), .ref r, .int (nI bs.length)])), (r, .inl ((kA 0), n, .inl f))] ∧ zBs lim n f bs)) (zk_mQ (fun v H => (∃ k, x = nI k ∧ k ≤ bs.length ∧ v = some (.int 1) ∧ BsPost D kA (va_A [(a, .inr (0, [.int (nI lim), .ref r, .int (nI bs.length)])), (r, .inl ((kA 0), n, .inl f))] sz0) H a lim n (bs.drop k)) ∨ ((∀ k, k ≤ bs.length → x ≠ nI k) ∧ v = some (.int 0) ∧ BsPost D kA (va_A [(a, .inr (0, [.int (nI lim), .ref r, .int (nI bs.length)])), (r, .inl ((kA 0), n, .inl f))] sz0) H a lim n bs)) (va_A [(a, .inr (0, [.int (nI lim), .ref r, .int (nI bs.length)])), (r, .inl ((kA 0), n, .inl f))] sz0)) 0 0 (va_A [(a, .inr (0, [.int (nI lim), .ref r, .int (nI bs.length)])), (r, .inl ((kA 0), n, .inl f))] sz0) := by
  refine zk_of [.ref a, .int x] (by decide) (Nat.le_of_ble_eq_true rfl) ?_
  intro p e s m below meth c S hr hlk hnm hK hX hpre ls hl
  obtain ⟨hx, hb, hml, hown, ht⟩ := id S
  have hl : lv_has ls 2 [(0, .ref a), (1, .int x)] := hl
  obtain ⟨hsz, hP, hD0, hbs⟩ := hpre
  subst hsz
  have hD := hD0.self (sz := s.heap.size)
  generalize hAe : va_A [(a, .inr (0, [.int (nI lim), .ref r, .int (nI bs.length)])), (r, .inl ((kA 0), n, .inl f))] s.heap.size = A at hD ⊢
  have hA : ∀ q : Nat, s.heap.size ≤ q → A q := fun q h => by rw [← hAe]; exact Or.inr h
  have hS : va_S A s.heap s.heap [] := va_S.rf
  have hP : va_P D classes [(a, .inr (0, [.int (nI lim), .ref r, .int (nI bs.length)])), (r, .inl ((kA 0), n, .inl f))] s.heap := hP
  refine lv_iload_n hx hb d_Bytes_dropFirst_0 rfl (lv_at hl 1 rfl) ?_
  obtain ⟨h1, h2, h3, h4, h5⟩ := id hbs
  refine lv_if_lt (tgt := 12) hx hb d_Bytes_dropFirst_1 (by decide) (fun c1 => ?_) (fun c1 => ?_)
  · refine lv_iconst (v := 0) hx hb d_Bytes_dropFirst_12 (by decide) ?_
    exact zk_zret S hr (by decide) hlk hS (Or.inr ⟨fun k hk q => absurd c1 (by rw [q]; exact nI_pos (by omega)), rfl, r, f, hP, hD, hbs⟩) (Nat.le_refl _) (Nat.le_refl _) d_Bytes_dropFirst_13
  · refine lv_iload_n hx hb d_Bytes_dropFirst_4 rfl (lv_at hl 1 rfl) ?_
    refine lv_aload_n hx hb d_Bytes_dropFirst_5 rfl (lv_at hl 0 rfl) ?_
    refine zk_get (C := R_Bytes) (T := F_Bytes) (N := 3) S hK (hP 0 _ rfl) rfl i_Bytes 2 (by decide) m_Bytes_28 rfl rfl d_Bytes_dropFirst_6 ?_
    refine lv_icmp_le (tgt := 14) hx hb d_Bytes_dropFirst_9 (by decide) (fun c9 => ?_) (fun c9 => ?_)
    · obtain ⟨k, hk, ex⟩ := nI_of2 (n := bs.length) (nI_toInt (by omega)) c1 c9
      refine lv_aload_n hx hb d_Bytes_dropFirst_14 rfl (lv_at hl 0 rfl) ?_
      refine zk_get (C := R_Bytes) (T := F_Bytes) (N := 3) S hK (hP 0 _ rfl) rfl i_Bytes 1 (by decide) m_Bytes_24 rfl rfl d_Bytes_dropFirst_15 ?_
      refine lv_iload_n hx hb d_Bytes_dropFirst_18 rfl (lv_at hl 1 rfl) ?_
      refine lv_aload_n hx hb d_Bytes_dropFirst_19 rfl (lv_at hl 0 rfl) ?_
      refine zk_get (C := R_Bytes) (T := F_Bytes) (N := 3) S hK (hP 0 _ rfl) rfl i_Bytes 1 (by decide) m_Bytes_24 rfl rfl d_Bytes_dropFirst_20 ?_
      refine lv_iconst (v := 0) hx hb d_Bytes_dropFirst_23 (by decide) ?_
      refine lv_aload_n hx hb d_Bytes_dropFirst_24 rfl (lv_at hl 0 rfl) ?_
      refine zk_get (C := R_Bytes) (T := F_Bytes) (N := 3) S hK (hP 0 _ rfl) rfl i_Bytes 2 (by decide) m_Bytes_28 rfl rfl d_Bytes_dropFirst_25 ?_
      refine lv_iload_n hx hb d_Bytes_dropFirst_28 rfl (lv_at hl 1 rfl) ?_
      refine lv_isub hx hb d_Bytes_dropFirst_29 ?_
      refine zk_ti (z := nI (bs.length - k)) (by rw [ex]; exact pk_sub hk) ?_
      refine va_copyi hx hb (by rw [hml]; exact hl.1.symm) hown (ht _ m_Bytes_35) (ht _ m_ac_n) (ht _ m_ac_s) (ht _ m_ini_System) hK hP hD hS 1 1 0 0 rfl rfl rfl rfl rfl c1 (by decide) (nI_pos (by omega)) (by rw [ex, nI_clamp (by omega), nI_clamp (by omega)]; omega) (by rw [nI_clamp (by omega)]; show 0 + _ ≤ n; omega) (fun i hi => by
        rw [nI_clamp (by omega)] at hi
        rw [ex, nI_clamp (by omega), (h5 (k + i) (by omega)).2]
        exact sb_fitB _) (Nat.le_of_ble_eq_true rfl) (by show _ ≤ (40 : Nat); decide) d_Bytes_dropFirst_30 (fun H locs hP hD hS => ?_)
      generalize hg : va_cpy f f x.toNatClampNeg (0 : Int32).toNatClampNeg (nI (bs.length - k)).toNatClampNeg = g at hP hD
      have hP : va_P D classes [(a, .inr (0, [.int (nI lim), .ref r, .int (nI bs.length)])), (r, .inl ((kA 0), n, .inl g))] H := hP
      have hD : va_D A [(a, .inr (0, [.int (nI lim), .ref r, .int (nI bs.length)])), (r, .inl ((kA 0), n, .inl g))] := hD
      refine lv_aload_n hx hb d_Bytes_dropFirst_33 rfl (lv_at hl 0 rfl) ?_
      refine lv_dup hx hb d_Bytes_dropFirst_34 rfl ?_
      refine zk_get (C := R_Bytes) (T := F_Bytes) (N := 3) S hK (hP 0 _ rfl) rfl i_Bytes 2 (by decide) m_Bytes_28 rfl rfl d_Bytes_dropFirst_35 ?_
      refine lv_iload_n hx hb d_Bytes_dropFirst_38 rfl (lv_at hl 1 rfl) ?_
      refine lv_isub hx hb d_Bytes_dropFirst_39 ?_
      refine zk_ti (z := nI (bs.length - k)) (by rw [ex]; exact pk_sub hk) ?_
      refine va_put (D := D) (ci := 0) (v := .int (nI (bs.length - k))) (ty := .int) (C := R_Bytes) (T := F_Bytes) (N := 3) hx hb ht i_Bytes t_Bytes t_Bytes_ok n_Bytes hown hK hP hD hS 0 rfl rfl 2 (by decide) (ht _ m_Bytes_28) (fun _ h9 => h9) rfl (by decide +kernel) rfl rfl (Nat.le_of_ble_eq_true rfl) d_Bytes_dropFirst_40 (fun H locs hP hD hS => ?_)
      have hP : va_P D classes [(a, .inr (0, [.int (nI lim), .ref r, .int (nI (bs.length - k))])), (r, .inl ((kA 0), n, .inl g))] H := hP
      have hD : va_D A [(a, .inr (0, [.int (nI lim), .ref r, .int (nI (bs.length - k))])), (r, .inl ((kA 0), n, .inl g))] := hD
      refine lv_iconst (v := 1) hx hb d_Bytes_dropFirst_43 (by decide) ?_
      exact zk_zret S hr (by decide) hlk hS (Or.inl ⟨k, ex, hk, rfl, r, g, by unfold wB; rw [List.length_drop]; exact hP, by unfold wB; rw [List.length_drop]; exact hD, zBs_drop hbs (fun i hi => by
        rw [← hg, ex, nI_clamp (by omega), nI_clamp (by omega), sb_cl0, pk_cpy_in (Nat.zero_le _) (by omega)]
        rfl)⟩) (Nat.le_refl _) (Nat.le_refl _) d_Bytes_dropFirst_44
    · refine lv_iconst (v := 0) hx hb d_Bytes_dropFirst_12 (by decide) ?_
      exact zk_zret S hr (by decide) hlk hS (Or.inr ⟨fun k hk q => c9 (by rw [q]; exact nI_le hk (by omega)), rfl, r, f, hP, hD, hbs⟩) (Nat.le_refl _) (Nat.le_refl _) d_Bytes_dropFirst_13

set_option maxHeartbeats 4000000 in
set_option maxRecDepth 100000 in
/-- Arrays.copyOf(row, k), k beyond its length -/
theorem c_Arrays_copyOf (l : Launch) (D : va_G) (kA : Nat → ClassId) (r n k : Nat) (f : Nat → Int32) (hk : n < k) (hk2 : k ≤ 65536) (hf : ∀ i, i < n → fits .byte (.int (f i)) = true) (sz0 : Nat) : Met l y_Arrays_copyOf (Cond.code y_Arrays_copyOf b_Arrays_copyOf 3 (some (.array .byte)) :: zTB) { frames := 1, cells := 1, slots := k, locals := 40 } (zk_Pc D classes (zTY kA) [.ref r, .int (nI k)] (fun H => H.size = sz0 ∧ va_P D classes [(r, .inl ((kA 0), n, .inl f))] H ∧ va_D (fun _ => True) [(r, .inl ((kA 0), n, .inl f))])) (zk_mQ (fun v H => ∃ (q : Nat) (g : Nat → Int32), v = some (.ref q) ∧ va_P D classes [(r, .inl (kA 0, n, .inl f)), (q, .inl (kA 0, k, .inl g))] H ∧ va_D (va_A [(r, .inl ((kA 0), n, .inl f))] sz0) [(r, .inl (kA 0, n, .inl f)), (q, .inl (kA 0, k, .inl g))] ∧ ∀ i, i < n → g i = f i) (va_A [(r, .inl ((kA 0), n, .inl f))] sz0)) 1 k (va_A [(r, .inl ((kA 0), n, .inl f))] sz0) := by
  refine zk_of [.ref r, .int (nI k)] (by decide) (Nat.le_of_ble_eq_true rfl) ?_
  intro p e s m below meth c S hr hlk hnm hK hX hpre ls hl
  obtain ⟨hx, hb, hml, hown, ht⟩ := id S
  have hl : lv_has ls 3 [(0, .ref r), (1, .int (nI k))] := hl
  obtain ⟨hsz, hP, hD0⟩ := hpre
  subst hsz
  have hD := hD0.self (sz := s.heap.size)
  generalize hAe : va_A [(r, .inl ((kA 0), n, .inl f))] s.heap.size = A at hD ⊢
  have hA : ∀ q : Nat, s.heap.size ≤ q → A q := fun q h => by rw [← hAe]; exact Or.inr h
  have hS : va_S A s.heap s.heap [] := va_S.rf
  have hP : va_P D classes [(r, .inl ((kA 0), n, .inl f))] s.heap := hP
  refine lv_iload_n hx hb d_Arrays_copyOf_0 rfl (lv_at hl 1 rfl) ?_
  refine lv_aload_n hx hb d_Arrays_copyOf_1 rfl (lv_at hl 0 rfl) ?_
  refine zk_alen S hK 0 (hP 0 _ rfl) rfl (v := nI n) rfl d_Arrays_copyOf_2 ?_
  refine lv_icmp_ne (tgt := 14) hx hb d_Arrays_copyOf_3 (by decide) (fun c3 => ?_) (fun c3 => ?_)
  · refine lv_iload_n hx hb d_Arrays_copyOf_14 rfl (lv_at hl 1 rfl) ?_
    refine zk_newa (a0 := (k, .inl (fun _ => 0))) (N' := k) S m_arr_byte rfl (fun _ h => by cases h) hK 0 rfl hP hD hS hA (fun _ => rfl) (nI_pos (by omega)) (nI_clamp (by omega)) (by show k * 1 ≤ 536870912; omega) (Nat.le_refl _) (by show 0 + k ≤ k; omega) d_Arrays_copyOf_15 (fun q H hP hD hS => ?_)
    have hP : va_P D classes [(r, .inl ((kA 0), n, .inl f)), (q, .inl ((kA 0), k, .inl (fun _ => 0)))] H := hP
    have hD : va_D A [(r, .inl ((kA 0), n, .inl f)), (q, .inl ((kA 0), k, .inl (fun _ => 0)))] := hD
    refine lv_astore_n (lv' := [(2, .ref q), (0, .ref r), (1, .int (nI k))]) hx hb d_Arrays_copyOf_17 rfl hl (by decide) rfl (fun ls hl => ?_)
    refine lv_aload_n hx hb d_Arrays_copyOf_18 rfl (lv_at hl 1 rfl) ?_
    refine lv_iconst (v := 0) hx hb d_Arrays_copyOf_19 (by decide) ?_
    refine lv_aload_n hx hb d_Arrays_copyOf_20 rfl (lv_at hl 0 rfl) ?_
    refine lv_iconst (v := 0) hx hb d_Arrays_copyOf_21 (by decide) ?_
    refine lv_aload_n hx hb d_Arrays_copyOf_22 rfl (lv_at hl 1 rfl) ?_
    refine zk_alen S hK 0 (hP 0 _ rfl) rfl (v := nI n) rfl d_Arrays_copyOf_23 ?_
    refine lv_iload_n hx hb d_Arrays_copyOf_24 rfl (lv_at hl 2 rfl) ?_
    refine va_mmin hx hb (by rw [hml]; exact hl.1.symm) hown (ht _ m_Arrays_304) (ht _ m_min_s) (ht _ m_ini_Math) (ht _ m_min_c) (Nat.le_of_ble_eq_true rfl) (Nat.le_of_ble_eq_true rfl) (Nat.le_refl _) (by show 0 + k ≤ k; omega) d_Arrays_copyOf_25 ?_
    refine zk_ti (z := nI n) (if_neg (nI_nlt (by omega) (by omega))) ?_
    refine va_copyi hx hb (by rw [hml]; exact hl.1.symm) hown (ht _ m_Arrays_150) (ht _ m_ac_n) (ht _ m_ac_s) (ht _ m_ini_System) hK hP hD hS 0 1 0 0 rfl rfl rfl rfl rfl (by decide) (by decide) (nI_pos (by omega)) (by rw [nI_clamp (by omega)]; show 0 + n ≤ n; omega) (by rw [nI_clamp (by omega)]; show 0 + n ≤ k; omega) (fun i hi => by
      rw [nI_clamp (by omega)] at hi
      show fits .byte (.int (f (0 + i))) = true
      rw [Nat.zero_add]; exact hf i hi) (Nat.le_of_ble_eq_true rfl) (by show _ ≤ (40 : Nat); decide) d_Arrays_copyOf_28 (fun H locs hP hD hS => ?_)
    generalize hg : va_cpy f (fun _ => 0) (0 : Int32).toNatClampNeg (0 : Int32).toNatClampNeg (nI n).toNatClampNeg = g at hP hD
    have hP : va_P D classes [(r, .inl ((kA 0), n, .inl f)), (q, .inl ((kA 0), k, .inl g))] H := hP
    have hD : va_D A [(r, .inl ((kA 0), n, .inl f)), (q, .inl ((kA 0), k, .inl g))] := hD
    refine lv_aload_n hx hb d_Arrays_copyOf_31 rfl (lv_at hl 0 rfl) ?_
    exact zk_aret S hr (Or.inr ⟨_, rfl⟩) hlk hS ⟨q, g, rfl, hP, hD, fun i hi => by
      rw [← hg, nI_clamp (by omega)]
      exact sb_cpy0 hi⟩ (Nat.le_refl _) (by omega) d_Arrays_copyOf_32
  · exact absurd c3 (fun h => absurd ((nI_eq (by omega) (by omega)).mp h) (by omega))

set_option maxHeartbeats 4000000 in
set_option maxRecDepth 100000 in
/-- Bytes.append(v) -/
theorem c_Bytes_append (l : Launch) (D : va_G) (kA : Nat → ClassId) (a r lim n : Nat) (f : Nat → Int32) (bs : List Nat) (x : Int32) (sz0 : Nat) : Met l y_Bytes_append (Cond.code y_Bytes_append b_Bytes_append 2 none :: zTB) { frames := 2, cells := zCap lim n bs.length - n, slots := 3 * (zCap lim n bs.length - n), locals := 62 } (zk_Pc D classes (zTY kA) [.ref a, .int x] (fun H => H.size = sz0 ∧ va_P D classes [(a, .inr (0, [.int (nI lim), .ref r, .int (nI bs.length)])), (r, .inl ((kA 0), n, .inl f))] H ∧ va_D (fun _ => True) [(a, .inr (0, [.int (nI lim), .ref r, .int (nI bs.length)])), (r, .inl ((kA 0), n, .inl f))] ∧ zBs lim n f bs)) (zk_mQ (fun v H => v = none ∧ BsPost D kA (va_A [(a, .inr (0, [.int (nI lim), .ref r, .int (nI bs.length)])), (r, .inl ((kA 0), n, .inl f))] sz0) H a lim (zCap lim n bs.length) (zApp lim bs (zByte x))) (va_A [(a, .inr (0, [.int (nI lim), .ref r, .int (nI bs.length)])), (r, .inl ((kA 0), n, .inl f))] sz0)) (zCap lim n bs.length - n) (3 * (zCap lim n bs.length - n)) (va_A [(a, .inr (0, [.int (nI lim), .ref r, .int (nI bs.length)])), (r, .inl ((kA 0), n, .inl f))] sz0) := by
  refine zk_of [.ref a, .int x] (by decide) (Nat.le_of_ble_eq_true rfl) ?_
  intro p e s m below meth c S hr hlk hnm hK hX hpre ls hl
  obtain ⟨hx, hb, hml, hown, ht⟩ := id S
  have hl : lv_has ls 2 [(0, .ref a), (1, .int x)] := hl
  obtain ⟨hsz, hP, hD0, hbs⟩ := hpre
  subst hsz
  have hD := hD0.self (sz := s.heap.size)
  generalize hAe : va_A [(a, .inr (0, [.int (nI lim), .ref r, .int (nI bs.length)])), (r, .inl ((kA 0), n, .inl f))] s.heap.size = A at hD ⊢
  have hA : ∀ q : Nat, s.heap.size ≤ q → A q := fun q h => by rw [← hAe]; exact Or.inr h
  have hS : va_S A s.heap s.heap [] := va_S.rf
  have hP : va_P D classes [(a, .inr (0, [.int (nI lim), .ref r, .int (nI bs.length)])), (r, .inl ((kA 0), n, .inl f))] s.heap := hP
  obtain ⟨h1, h2, h3, h4, h5⟩ := id hbs
  refine lv_aload_n hx hb d_Bytes_append_0 rfl (lv_at hl 0 rfl) ?_
  refine zk_get (C := R_Bytes) (T := F_Bytes) (N := 3) S hK (hP 0 _ rfl) rfl i_Bytes 2 (by decide) m_Bytes_28 rfl rfl d_Bytes_append_1 ?_
  refine lv_aload_n hx hb d_Bytes_append_4 rfl (lv_at hl 0 rfl) ?_
  refine zk_get (C := R_Bytes) (T := F_Bytes) (N := 3) S hK (hP 0 _ rfl) rfl i_Bytes 0 (by decide) m_Bytes_15 rfl rfl d_Bytes_append_5 ?_
  refine lv_icmp_lt (tgt := 12) hx hb d_Bytes_append_8 (by decide) (fun c8 => ?_) (fun c8 => ?_)
  · have hll : bs.length < lim := (nI_ltI (by omega) (by omega)).mp c8
    refine lv_aload_n hx hb d_Bytes_append_12 rfl (lv_at hl 0 rfl) ?_
    refine zk_get (C := R_Bytes) (T := F_Bytes) (N := 3) S hK (hP 0 _ rfl) rfl i_Bytes 2 (by decide) m_Bytes_28 rfl rfl d_Bytes_append_13 ?_
    refine lv_aload_n hx hb d_Bytes_append_16 rfl (lv_at hl 0 rfl) ?_
    refine zk_get (C := R_Bytes) (T := F_Bytes) (N := 3) S hK (hP 0 _ rfl) rfl i_Bytes 1 (by decide) m_Bytes_24 rfl rfl d_Bytes_append_17 ?_
    refine zk_alen S hK 0 (hP 1 _ rfl) rfl (v := nI n) rfl d_Bytes_append_20 ?_
    refine lv_icmp_lt (tgt := 51) hx hb d_Bytes_append_21 (by decide) (fun c21 => ?_) (fun c21 => ?_)
    · have hlt : bs.length < n := (nI_ltI (by omega) (by omega)).mp c21
      refine lv_aload_n hx hb d_Bytes_append_51 rfl (lv_at hl 0 rfl) ?_
      refine zk_get (C := R_Bytes) (T := F_Bytes) (N := 3) S hK (hP 0 _ rfl) rfl i_Bytes 2 (by decide) m_Bytes_28 rfl rfl d_Bytes_append_52 ?_
      refine lv_aload_n hx hb d_Bytes_append_55 rfl (lv_at hl 0 rfl) ?_
      refine zk_get (C := R_Bytes) (T := F_Bytes) (N := 3) S hK (hP 0 _ rfl) rfl i_Bytes 1 (by decide) m_Bytes_24 rfl rfl d_Bytes_append_56 ?_
      refine zk_alen S hK 0 (hP 1 _ rfl) rfl (v := nI n) rfl d_Bytes_append_59 ?_
      refine lv_icmp_ge (tgt := 84) hx hb d_Bytes_append_60 (by decide) (fun c60 => ?_) (fun c60 => ?_)
      · exact absurd ((nI_leI (by omega) (by omega)).mp c60) (by omega)
      · refine lv_aload_n hx hb d_Bytes_append_63 rfl (lv_at hl 0 rfl) ?_
        refine zk_get (C := R_Bytes) (T := F_Bytes) (N := 3) S hK (hP 0 _ rfl) rfl i_Bytes 1 (by decide) m_Bytes_24 rfl rfl d_Bytes_append_64 ?_
        refine lv_aload_n hx hb d_Bytes_append_67 rfl (lv_at hl 0 rfl) ?_
        refine zk_get (C := R_Bytes) (T := F_Bytes) (N := 3) S hK (hP 0 _ rfl) rfl i_Bytes 2 (by decide) m_Bytes_28 rfl rfl d_Bytes_append_68 ?_
        refine lv_iload_n hx hb d_Bytes_append_71 rfl (lv_at hl 1 rfl) ?_
        refine lv_i2b hx hb d_Bytes_append_72 rfl ?_
        refine zk_ti (z := x.toInt8.toInt32) (rfl) ?_
        refine va_bast hx hb hK hP hD hS 1 0 rfl rfl (vp_in_nI (by omega) (by omega)) d_Bytes_append_73 (fun H locs hP hD hS => ?_)
        rw [nI_clamp (by omega), pk_vb, zByte_b] at hP hD
        have hP : va_P D classes [(a, .inr (0, [.int (nI lim), .ref r, .int (nI bs.length)])), (r, .inl ((kA 0), n, .inl (upd f bs.length (sb_b (zByte x)))))] H := hP
        have hD : va_D A [(a, .inr (0, [.int (nI lim), .ref r, .int (nI bs.length)])), (r, .inl ((kA 0), n, .inl (upd f bs.length (sb_b (zByte x)))))] := hD
        refine lv_aload_n hx hb d_Bytes_append_74 rfl (lv_at hl 0 rfl) ?_
        refine lv_dup hx hb d_Bytes_append_75 rfl ?_
        refine zk_get (C := R_Bytes) (T := F_Bytes) (N := 3) S hK (hP 0 _ rfl) rfl i_Bytes 2 (by decide) m_Bytes_28 rfl rfl d_Bytes_append_76 ?_
        refine lv_iconst (v := 1) hx hb d_Bytes_append_79 (by decide) ?_
        refine lv_iadd hx hb d_Bytes_append_80 ?_
        refine zk_ti (z := nI (bs.length + 1)) (nI_1 _) ?_
        refine va_put (D := D) (ci := 0) (v := .int (nI (bs.length + 1))) (ty := .int) (C := R_Bytes) (T := F_Bytes) (N := 3) hx hb ht i_Bytes t_Bytes t_Bytes_ok n_Bytes hown hK hP hD hS 0 rfl rfl 2 (by decide) (ht _ m_Bytes_28) (fun _ h9 => h9) rfl (by decide +kernel) rfl rfl (Nat.le_of_ble_eq_true rfl) d_Bytes_append_81 (fun H locs hP hD hS => ?_)
        have hP : va_P D classes [(a, .inr (0, [.int (nI lim), .ref r, .int (nI (bs.length + 1))])), (r, .inl ((kA 0), n, .inl (upd f bs.length (sb_b (zByte x)))))] H := hP
        have hD : va_D A [(a, .inr (0, [.int (nI lim), .ref r, .int (nI (bs.length + 1))])), (r, .inl ((kA 0), n, .inl (upd f bs.length (sb_b (zByte x)))))] := hD
        have hap : zApp lim bs (zByte x) = bs ++ [zByte x] := if_pos hll
        have hz := zBs_snoc hbs hlt (zByte_lt x)
        have hP9 := hP.sub (ws' := [(a, .inr (0, [.int (nI lim), .ref r, .int (nI (bs.length + 1))])), (r, .inl ((kA 0), n, .inl (upd f bs.length (sb_b (zByte x)))))]) [0, 1] rfl
        have hD9 := hD.sub (ws' := [(a, .inr (0, [.int (nI lim), .ref r, .int (nI (bs.length + 1))])), (r, .inl ((kA 0), n, .inl (upd f bs.length (sb_b (zByte x)))))]) [0, 1] (by decide) rfl
        exact zk_vret S hr hlk hS ⟨rfl, by
          rw [hap, show zCap lim n bs.length = n from if_pos hlt]
          exact ⟨r, _, by unfold wB; rw [List.length_append]; exact hP9, by unfold wB; rw [List.length_append]; exact hD9, hz⟩⟩ (by omega) (by omega) d_Bytes_append_84
    · have hen : bs.length = n := by
        have : ¬ bs.length < n := fun q => c21 (nI_lt q (by omega))
        omega
      have hcap : zCap lim n bs.length = min lim (bs.length + bs.length) := by
        unfold zCap
        rw [if_neg (by omega), if_neg (by omega)]
      obtain ⟨hg1, hg2, hg3⟩ := zOk_grow h4.2 (show n < lim by omega)
      have hcap2 : zCap lim n bs.length = min lim (n + n) := by rw [hcap, hen]
      rw [← hcap2] at hg1 hg2 hg3
      have hbig : n < zCap lim n bs.length := hg3
      refine lv_aload_n hx hb d_Bytes_append_24 rfl (lv_at hl 0 rfl) ?_
      refine lv_aload_n hx hb d_Bytes_append_25 rfl (lv_at hl 0 rfl) ?_
      refine zk_get (C := R_Bytes) (T := F_Bytes) (N := 3) S hK (hP 0 _ rfl) rfl i_Bytes 1 (by decide) m_Bytes_24 rfl rfl d_Bytes_append_26 ?_
      refine lv_aload_n hx hb d_Bytes_append_29 rfl (lv_at hl 0 rfl) ?_
      refine zk_get (C := R_Bytes) (T := F_Bytes) (N := 3) S hK (hP 0 _ rfl) rfl i_Bytes 0 (by decide) m_Bytes_15 rfl rfl d_Bytes_append_30 ?_
      refine lv_aload_n hx hb d_Bytes_append_33 rfl (lv_at hl 0 rfl) ?_
      refine zk_get (C := R_Bytes) (T := F_Bytes) (N := 3) S hK (hP 0 _ rfl) rfl i_Bytes 2 (by decide) m_Bytes_28 rfl rfl d_Bytes_append_34 ?_
      refine lv_aload_n hx hb d_Bytes_append_37 rfl (lv_at hl 0 rfl) ?_
      refine zk_get (C := R_Bytes) (T := F_Bytes) (N := 3) S hK (hP 0 _ rfl) rfl i_Bytes 2 (by decide) m_Bytes_28 rfl rfl d_Bytes_append_38 ?_
      refine lv_iadd hx hb d_Bytes_append_41 ?_
      refine zk_ti (z := nI (bs.length + bs.length)) (nI_add _ _) ?_
      refine va_mmin hx hb (by rw [hml]; exact hl.1.symm) hown (ht _ m_Bytes_21) (ht _ m_min_s) (ht _ m_ini_Math) (ht _ m_min_c) (Nat.le_of_ble_eq_true rfl) (Nat.le_of_ble_eq_true rfl) (Nat.zero_le _) (Nat.zero_le _) d_Bytes_append_42 ?_
      refine zk_ti (z := nI (zCap lim n bs.length)) (by
        rw [hcap]
        by_cases q : bs.length + bs.length < lim
        · rw [if_pos (nI_lt q (by omega)), Nat.min_eq_right (by omega)]
        · rw [if_neg (nI_nlt (by omega) (by omega)), Nat.min_eq_left (by omega)]) ?_
      have hFc := va_free (wc := [(r, .inl ((kA 0), n, .inl f))]) hD hS hA [1] rfl
      refine zk_mut (zk_runS (As := [.ref r, .int (nI (zCap lim n bs.length))]) (rest := [.ref a]) S m_Bytes_41 (c_Arrays_copyOf l D kA r n (zCap lim n bs.length) f hbig (by rw [hcap]; omega) (fun i hi => by rw [(h5 i (by omega)).2]; exact sb_fitB _) s.heap.size) rfl rfl ⟨Nat.le_of_ble_eq_true rfl, Nat.le_of_ble_eq_true rfl⟩ hK hX ⟨rfl, hP.sub (ws' := [(r, .inl ((kA 0), n, .inl f))]) [1] rfl, (hD.sub (ws' := [(r, .inl ((kA 0), n, .inl f))]) [1] (by decide) rfl).weaken (fun _ _ _ _ => trivial)⟩ rfl hl.1 rfl (Nat.le_of_ble_eq_true rfl) ⟨by show 0 + 1 ≤ zCap lim n bs.length - n; omega, by show 0 + zCap lim n bs.length ≤ 3 * (zCap lim n bs.length - n); omega⟩ d_Bytes_append_45) hS hFc hFc (fun v H locs hpost hz1 hk1 hS => ?_)
      obtain ⟨q, g, rfl, hP1, hD1, hg⟩ := hpost
      obtain ⟨hP, hD⟩ := va_join (wr := [(a, .inr (0, [.int (nI lim), .ref r, .int (nI bs.length)]))]) (w1 := [(r, .inl ((kA 0), n, .inl f)), (q, .inl ((kA 0), (zCap lim n bs.length), .inl g))]) hP hD [1] [0] rfl rfl (by decide) (by decide) hk1 hFc hP1 hD1
      refine W.eq (g2 := F0 m 48 ls [.ref q, .ref a]) rfl ?_
      have hP : va_P D classes [(a, .inr (0, [.int (nI lim), .ref r, .int (nI bs.length)])), (r, .inl ((kA 0), n, .inl f)), (q, .inl ((kA 0), (zCap lim n bs.length), .inl g))] H := hP
      have hD : va_D A [(a, .inr (0, [.int (nI lim), .ref r, .int (nI bs.length)])), (r, .inl ((kA 0), n, .inl f)), (q, .inl ((kA 0), (zCap lim n bs.length), .inl g))] := hD
      refine va_put (D := D) (ci := 0) (v := .ref q) (ty := (.array .byte)) (C := R_Bytes) (T := F_Bytes) (N := 3) hx hb ht i_Bytes t_Bytes t_Bytes_ok n_Bytes hown hK hP hD hS 0 rfl rfl 1 (by decide) (ht _ m_Bytes_24) (fun _ h9 => h9) rfl (by decide +kernel) rfl rfl (Nat.le_of_ble_eq_true rfl) d_Bytes_append_48 (fun H locs hP hD hS => ?_)
      have hP : va_P D classes [(a, .inr (0, [.int (nI lim), .ref q, .int (nI bs.length)])), (r, .inl ((kA 0), n, .inl f)), (q, .inl ((kA 0), (zCap lim n bs.length), .inl g))] H := hP
      have hD : va_D A [(a, .inr (0, [.int (nI lim), .ref q, .int (nI bs.length)])), (r, .inl ((kA 0), n, .inl f)), (q, .inl ((kA 0), (zCap lim n bs.length), .inl g))] := hD
      have hP := hP.sub (ws' := [(a, .inr (0, [.int (nI lim), .ref q, .int (nI bs.length)])), (q, .inl ((kA 0), (zCap lim n bs.length), .inl g))]) [0, 2] rfl
      have hD := hD.sub (ws' := [(a, .inr (0, [.int (nI lim), .ref q, .int (nI bs.length)])), (q, .inl ((kA 0), (zCap lim n bs.length), .inl g))]) [0, 2] (by decide) rfl
      have hbs2 : zBs lim (zCap lim n bs.length) g bs := zBs_grow hbs (by omega) (by rw [hcap]; omega) hg1 hg
      refine lv_aload_n hx hb d_Bytes_append_51 rfl (lv_at hl 0 rfl) ?_
      refine zk_get (C := R_Bytes) (T := F_Bytes) (N := 3) S hK (hP 0 _ rfl) rfl i_Bytes 2 (by decide) m_Bytes_28 rfl rfl d_Bytes_append_52 ?_
      refine lv_aload_n hx hb d_Bytes_append_55 rfl (lv_at hl 0 rfl) ?_
      refine zk_get (C := R_Bytes) (T := F_Bytes) (N := 3) S hK (hP 0 _ rfl) rfl i_Bytes 1 (by decide) m_Bytes_24 rfl rfl d_Bytes_append_56 ?_
      refine zk_alen S hK 0 (hP 1 _ rfl) rfl (v := nI (zCap lim n bs.length)) rfl d_Bytes_append_59 ?_
      refine lv_icmp_ge (tgt := 84) hx hb d_Bytes_append_60 (by decide) (fun c60 => ?_) (fun c60 => ?_)
      · exact absurd ((nI_leI (by omega) (by omega)).mp c60) (by omega)
      · refine lv_aload_n hx hb d_Bytes_append_63 rfl (lv_at hl 0 rfl) ?_
        refine zk_get (C := R_Bytes) (T := F_Bytes) (N := 3) S hK (hP 0 _ rfl) rfl i_Bytes 1 (by decide) m_Bytes_24 rfl rfl d_Bytes_append_64 ?_
        refine lv_aload_n hx hb d_Bytes_append_67 rfl (lv_at hl 0 rfl) ?_
        refine zk_get (C := R_Bytes) (T := F_Bytes) (N := 3) S hK (hP 0 _ rfl) rfl i_Bytes 2 (by decide) m_Bytes_28 rfl rfl d_Bytes_append_68 ?_
        refine lv_iload_n hx hb d_Bytes_append_71 rfl (lv_at hl 1 rfl) ?_
        refine lv_i2b hx hb d_Bytes_append_72 rfl ?_
        refine zk_ti (z := x.toInt8.toInt32) (rfl) ?_
        refine va_bast hx hb hK hP hD hS 1 0 rfl rfl (vp_in_nI (by omega) (by omega)) d_Bytes_append_73 (fun H locs hP hD hS => ?_)
        rw [nI_clamp (by omega), pk_vb, zByte_b] at hP hD
        have hP : va_P D classes [(a, .inr (0, [.int (nI lim), .ref q, .int (nI bs.length)])), (q, .inl ((kA 0), (zCap lim n bs.length), .inl (upd g bs.length (sb_b (zByte x)))))] H := hP
        have hD : va_D A [(a, .inr (0, [.int (nI lim), .ref q, .int (nI bs.length)])), (q, .inl ((kA 0), (zCap lim n bs.length), .inl (upd g bs.length (sb_b (zByte x)))))] := hD
        refine lv_aload_n hx hb d_Bytes_append_74 rfl (lv_at hl 0 rfl) ?_
        refine lv_dup hx hb d_Bytes_append_75 rfl ?_
        refine zk_get (C := R_Bytes) (T := F_Bytes) (N := 3) S hK (hP 0 _ rfl) rfl i_Bytes 2 (by decide) m_Bytes_28 rfl rfl d_Bytes_append_76 ?_
        refine lv_iconst (v := 1) hx hb d_Bytes_append_79 (by decide) ?_
        refine lv_iadd hx hb d_Bytes_append_80 ?_
        refine zk_ti (z := nI (bs.length + 1)) (nI_1 _) ?_
        refine va_put (D := D) (ci := 0) (v := .int (nI (bs.length + 1))) (ty := .int) (C := R_Bytes) (T := F_Bytes) (N := 3) hx hb ht i_Bytes t_Bytes t_Bytes_ok n_Bytes hown hK hP hD hS 0 rfl rfl 2 (by decide) (ht _ m_Bytes_28) (fun _ h9 => h9) rfl (by decide +kernel) rfl rfl (Nat.le_of_ble_eq_true rfl) d_Bytes_append_81 (fun H locs hP hD hS => ?_)
        have hP : va_P D classes [(a, .inr (0, [.int (nI lim), .ref q, .int (nI (bs.length + 1))])), (q, .inl ((kA 0), (zCap lim n bs.length), .inl (upd g bs.length (sb_b (zByte x)))))] H := hP
        have hD : va_D A [(a, .inr (0, [.int (nI lim), .ref q, .int (nI (bs.length + 1))])), (q, .inl ((kA 0), (zCap lim n bs.length), .inl (upd g bs.length (sb_b (zByte x)))))] := hD
        have hap : zApp lim bs (zByte x) = bs ++ [zByte x] := if_pos hll
        have hz := zBs_snoc hbs2 (by omega) (zByte_lt x)
        have hP9 := hP.sub (ws' := [(a, .inr (0, [.int (nI lim), .ref q, .int (nI (bs.length + 1))])), (q, .inl ((kA 0), (zCap lim n bs.length), .inl (upd g bs.length (sb_b (zByte x)))))]) [0, 1] rfl
        have hD9 := hD.sub (ws' := [(a, .inr (0, [.int (nI lim), .ref q, .int (nI (bs.length + 1))])), (q, .inl ((kA 0), (zCap lim n bs.length), .inl (upd g bs.length (sb_b (zByte x)))))]) [0, 1] (by decide) rfl
        exact zk_vret S hr hlk hS ⟨rfl, by
          rw [hap]
          exact ⟨q, _, by unfold wB; rw [List.length_append]; exact hP9, by unfold wB; rw [List.length_append]; exact hD9, hz⟩⟩ (by omega) (by omega) d_Bytes_append_84
  · have hge : lim ≤ bs.length := Nat.not_lt.mp fun q => c8 (nI_lt q (by omega))
    exact zk_vret S hr hlk hS ⟨rfl, by
      rw [show zCap lim n bs.length = n by unfold zCap; rw [if_pos hge]; split <;> rfl, show zApp lim bs (zByte x) = bs from if_neg (Nat.not_lt.mpr hge)]
      exact ⟨r, f, hP, hD, hbs⟩⟩ (Nat.zero_le _) (Nat.zero_le _) d_Bytes_append_11
end
section
/-- the room of a row behind k bytes more -/
def zCapN (lim : Nat) : Nat → Nat → Nat → Nat
  | n, _, 0 => n
  | n, sz, k + 1 => zCap lim (zCapN lim n sz k) (sz + k)
theorem zCapN_mono {lim n sz : Nat} : ∀ {k : Nat}, sz + k ≤ zCapN lim n sz k → zCapN lim n sz k ≤ zCapN lim n sz (k + 1) := fun h => zCap_ge h
theorem zApp_lt {lim v : Nat} {bs : List Nat} (h : bs.length < lim) : zApp lim bs v = bs ++ [v] := if_pos h
theorem zTake_snoc {bs os : List Nat} {i : Nat} (h : i < os.length) : (bs ++ os.take i) ++ [os.getD i 0] = bs ++ os.take (i + 1) := by
  rw [List.append_assoc, zgetD h, List.take_succ_eq_append_getElem h]
theorem zLen_take {bs os : List Nat} {i : Nat} (h : i ≤ os.length) : (bs ++ os.take i).length = bs.length + i := by
  rw [List.length_append, List.length_take]; omega
theorem zCapN_ge {lim n sz : Nat} (hn : n ≤ lim) (hs : sz ≤ n) : ∀ k, sz + k ≤ lim → n ≤ lim → (0 < n) → sz + k ≤ zCapN lim n sz k ∧ n ≤ zCapN lim n sz k ∧ zCapN lim n sz k ≤ lim := by
  intro k
  induction k with
  | zero => intro _ _ _; exact ⟨hs, Nat.le_refl _, hn⟩
  | succ k ih =>
    intro h1 h2 h3
    obtain ⟨g1, g2, g3⟩ := ih (by omega) h2 h3
    have e : zCapN lim n sz (k + 1) = zCap lim (zCapN lim n sz k) (sz + k) := rfl
    rw [e]
    refine ⟨?_, Nat.le_trans g2 (zCap_ge g1), zCap_le g3⟩
    unfold zCap
    split
    · omega
    · split
      · omega
      · omega
end
section
set_option maxHeartbeats 4000000 in
set_option maxRecDepth 100000 in
/-- Bytes(limit) -/
theorem c_Bytes_init (l : Launch) (D : va_G) (kA : Nat → ClassId) (a lim : Nat) (hlim : 64 < lim) (hlim2 : lim ≤ 32768) (hok : zOk lim 64) (sz0 : Nat) : Met l y_Bytes_init (Cond.code y_Bytes_init b_Bytes_init 2 none :: zTB) { frames := 1, cells := 1, slots := 64, locals := 14 } (zk_Pc D classes (zTY kA) [.ref a, .int (nI lim)] (fun H => H.size = sz0 ∧ va_P D classes [(a, .inr (0, [.int 0, .null, .int 0]))] H ∧ va_D (fun _ => True) [(a, .inr (0, [.int 0, .null, .int 0]))])) (zk_mQ (fun v H => v = none ∧ BsPost D kA (va_A [(a, .inr (0, [.int 0, .null, .int 0]))] sz0) H a lim 64 []) (va_A [(a, .inr (0, [.int 0, .null, .int 0]))] sz0)) 1 64 (va_A [(a, .inr (0, [.int 0, .null, .int 0]))] sz0) := by
  refine zk_of [.ref a, .int (nI lim)] (by decide) (Nat.le_of_ble_eq_true rfl) ?_
  intro p e s m below meth c S hr hlk hnm hK hX hpre ls hl
  obtain ⟨hx, hb, hml, hown, ht⟩ := id S
  have hl : lv_has ls 2 [(0, .ref a), (1, .int (nI lim))] := hl
  obtain ⟨hsz, hP, hD0⟩ := hpre
  subst hsz
  have hD := hD0.self (sz := s.heap.size)
  generalize hAe : va_A [(a, .inr (0, [.int 0, .null, .int 0]))] s.heap.size = A at hD ⊢
  have hA : ∀ q : Nat, s.heap.size ≤ q → A q := fun q h => by rw [← hAe]; exact Or.inr h
  have hS : va_S A s.heap s.heap [] := va_S.rf
  have hP : va_P D classes [(a, .inr (0, [.int 0, .null, .int 0]))] s.heap := hP
  refine lv_aload_n hx hb d_Bytes_init_0 rfl (lv_at hl 0 rfl) ?_
  refine W.objInit hx hb hown (ht _ m_Bytes_3) (ht _ m_obj_i) (ht _ m_obj_c) rfl (by rw [hml]; exact hl.1) rfl d_Bytes_init_1 (Nat.le_of_ble_eq_true rfl) (Nat.le_of_ble_eq_true rfl) ?_
  refine W.eq (g2 := F0 m 4 ls []) rfl ?_
  refine lv_aload_n hx hb d_Bytes_init_4 rfl (lv_at hl 0 rfl) ?_
  refine lv_iconst (v := 0) hx hb d_Bytes_init_5 (by decide) ?_
  refine lv_iload_n hx hb d_Bytes_init_6 rfl (lv_at hl 1 rfl) ?_
  refine va_mmax hx hb (by rw [hml]; exact hl.1.symm) hown (ht _ m_Bytes_9) (ht _ m_max_s) (ht _ m_ini_Math) (ht _ m_max_c) (Nat.le_of_ble_eq_true rfl) (Nat.le_of_ble_eq_true rfl) (Nat.le_of_ble_eq_true rfl) (Nat.le_of_ble_eq_true rfl) d_Bytes_init_7 ?_
  refine zk_ti (z := nI lim) (if_pos (by rw [← nI_0]; exact nI_lt (by omega) (by omega))) ?_
  refine va_putF (D := D) (ci := 0) (v := .int (nI lim)) (ty := .int) (C := R_Bytes) (T := F_Bytes) (N := 3) hx hb ht i_Bytes t_Bytes t_Bytes_ok n_Bytes hown hK hP hD hS 0 rfl rfl 0 (by decide) (ht _ m_Bytes_15) (fun _ h9 => h9) rfl hnm rfl (by decide +kernel) rfl rfl (Nat.le_of_ble_eq_true rfl) d_Bytes_init_10 (fun H locs hP hD hS => ?_)
  have hP : va_P D classes [(a, .inr (0, [.int (nI lim), .null, .int 0]))] H := hP
  have hD : va_D A [(a, .inr (0, [.int (nI lim), .null, .int 0]))] := hD
  refine lv_aload_n hx hb d_Bytes_init_13 rfl (lv_at hl 0 rfl) ?_
  refine lv_aload_n hx hb d_Bytes_init_14 rfl (lv_at hl 0 rfl) ?_
  refine zk_get (C := R_Bytes) (T := F_Bytes) (N := 3) S hK (hP 0 _ rfl) rfl i_Bytes 0 (by decide) m_Bytes_15 rfl rfl d_Bytes_init_15 ?_
  refine lv_bipush (v := 64) hx hb d_Bytes_init_18 (by decide) ?_
  refine va_mmin hx hb (by rw [hml]; exact hl.1.symm) hown (ht _ m_Bytes_21) (ht _ m_min_s) (ht _ m_ini_Math) (ht _ m_min_c) (Nat.le_of_ble_eq_true rfl) (Nat.le_of_ble_eq_true rfl) (Nat.le_of_ble_eq_true rfl) (Nat.le_of_ble_eq_true rfl) d_Bytes_init_20 ?_
  refine zk_ti (z := nI 64) (if_pos (show nI 64 < nI lim from nI_lt hlim (by omega))) ?_
  refine zk_newa (a0 := (64, .inl (fun _ => 0))) (N' := 64) S m_arr_byte rfl (fun _ h => by cases h) hK 0 rfl hP hD hS hA (fun _ => rfl) (by decide) (rfl) (by show 64 * 1 ≤ 536870912; omega) (Nat.le_refl _) (Nat.le_refl _) d_Bytes_init_23 (fun q H hP hD hS => ?_)
  have hP : va_P D classes [(a, .inr (0, [.int (nI lim), .null, .int 0])), (q, .inl ((kA 0), 64, .inl (fun _ => 0)))] H := hP
  have hD : va_D A [(a, .inr (0, [.int (nI lim), .null, .int 0])), (q, .inl ((kA 0), 64, .inl (fun _ => 0)))] := hD
  refine va_put (D := D) (ci := 0) (v := .ref q) (ty := (.array .byte)) (C := R_Bytes) (T := F_Bytes) (N := 3) hx hb ht i_Bytes t_Bytes t_Bytes_ok n_Bytes hown hK hP hD hS 0 rfl rfl 1 (by decide) (ht _ m_Bytes_24) (fun _ h9 => h9) rfl (by decide +kernel) rfl rfl (Nat.le_of_ble_eq_true rfl) d_Bytes_init_25 (fun H locs hP hD hS => ?_)
  have hP : va_P D classes [(a, .inr (0, [.int (nI lim), .ref q, .int 0])), (q, .inl ((kA 0), 64, .inl (fun _ => 0)))] H := hP
  have hD : va_D A [(a, .inr (0, [.int (nI lim), .ref q, .int 0])), (q, .inl ((kA 0), 64, .inl (fun _ => 0)))] := hD
  refine lv_aload_n hx hb d_Bytes_init_28 rfl (lv_at hl 0 rfl) ?_
  refine lv_iconst (v := 0) hx hb d_Bytes_init_29 (by decide) ?_
  refine va_put (D := D) (ci := 0) (v := .int 0) (ty := .int) (C := R_Bytes) (T := F_Bytes) (N := 3) hx hb ht i_Bytes t_Bytes t_Bytes_ok n_Bytes hown hK hP hD hS 0 rfl rfl 2 (by decide) (ht _ m_Bytes_28) (fun _ h9 => h9) rfl (by decide +kernel) rfl rfl (Nat.le_of_ble_eq_true rfl) d_Bytes_init_30 (fun H locs hP hD hS => ?_)
  have hP : va_P D classes [(a, .inr (0, [.int (nI lim), .ref q, .int 0])), (q, .inl ((kA 0), 64, .inl (fun _ => 0)))] H := hP
  have hD : va_D A [(a, .inr (0, [.int (nI lim), .ref q, .int 0])), (q, .inl ((kA 0), 64, .inl (fun _ => 0)))] := hD
  exact zk_vret S hr hlk hS ⟨rfl, q, _, hP, hD, ⟨Nat.zero_le _, by omega, Nat.le_refl _, ⟨hlim2, hok⟩, fun i hi => absurd hi (Nat.not_lt_zero i)⟩⟩ (Nat.le_refl _) (Nat.le_refl _) d_Bytes_init_33

set_option maxHeartbeats 4000000 in
set_option maxRecDepth 100000 in
/-- Bytes.appendNumber(v) -/
theorem c_Bytes_appendNumber (l : Launch) (D : va_G) (kA : Nat → ClassId) (a r lim n : Nat) (f : Nat → Int32) (bs : List Nat) (x : Int32) (hroom : bs.length + 4 ≤ lim) (sz0 : Nat) : Met l y_Bytes_appendNumber (Cond.code y_Bytes_appendNumber b_Bytes_appendNumber 2 none :: zTB) { frames := 3, cells := zCapN lim n bs.length 4 - n, slots := 3 * (zCapN lim n bs.length 4 - n), locals := 83 } (zk_Pc D classes (zTY kA) [.ref a, .int x] (fun H => H.size = sz0 ∧ va_P D classes [(a, .inr (0, [.int (nI lim), .ref r, .int (nI bs.length)])), (r, .inl ((kA 0), n, .inl f))] H ∧ va_D (fun _ => True) [(a, .inr (0, [.int (nI lim), .ref r, .int (nI bs.length)])), (r, .inl ((kA 0), n, .inl f))] ∧ zBs lim n f bs)) (zk_mQ (fun v H => v = none ∧ BsPost D kA (va_A [(a, .inr (0, [.int (nI lim), .ref r, .int (nI bs.length)])), (r, .inl ((kA 0), n, .inl f))] sz0) H a lim (zCapN lim n bs.length 4) ((((bs ++ [zByte ((x.toUInt32 >>> ((24 : Int32).toUInt32 &&& Int32.toUInt32 31)).toInt32)]) ++ [zByte ((x.toUInt32 >>> ((16 : Int32).toUInt32 &&& Int32.toUInt32 31)).toInt32)]) ++ [zByte ((x.toUInt32 >>> ((8 : Int32).toUInt32 &&& Int32.toUInt32 31)).toInt32)]) ++ [zByte x])) (va_A [(a, .inr (0, [.int (nI lim), .ref r, .int (nI bs.length)])), (r, .inl ((kA 0), n, .inl f))] sz0)) (zCapN lim n bs.length 4 - n) (3 * (zCapN lim n bs.length 4 - n)) (va_A [(a, .inr (0, [.int (nI lim), .ref r, .int (nI bs.length)])), (r, .inl ((kA 0), n, .inl f))] sz0) := by
  refine zk_of [.ref a, .int x] (by decide) (Nat.le_of_ble_eq_true rfl) ?_
  intro p e s m below meth c S hr hlk hnm hK hX hpre ls hl
  obtain ⟨hx, hb, hml, hown, ht⟩ := id S
  have hl : lv_has ls 2 [(0, .ref a), (1, .int x)] := hl
  obtain ⟨hsz, hP, hD0, hbs0⟩ := hpre
  subst hsz
  have hD := hD0.self (sz := s.heap.size)
  generalize hAe : va_A [(a, .inr (0, [.int (nI lim), .ref r, .int (nI bs.length)])), (r, .inl ((kA 0), n, .inl f))] s.heap.size = A at hD ⊢
  have hA : ∀ q : Nat, s.heap.size ≤ q → A q := fun q h => by rw [← hAe]; exact Or.inr h
  have hS : va_S A s.heap s.heap [] := va_S.rf
  have hP : va_P D classes [(a, .inr (0, [.int (nI lim), .ref r, .int (nI bs.length)])), (r, .inl ((kA 0), n, .inl f))] s.heap := hP
  obtain ⟨z1, z2, z3, z4, z5⟩ := id hbs0
  obtain ⟨y11, y12, y13⟩ := zCapN_ge (lim := lim) z2 z1 1 (by omega) z2 (by omega)
  obtain ⟨y21, y22, y23⟩ := zCapN_ge (lim := lim) z2 z1 2 (by omega) z2 (by omega)
  obtain ⟨y31, y32, y33⟩ := zCapN_ge (lim := lim) z2 z1 3 (by omega) z2 (by omega)
  have w1 : zCapN lim n bs.length 1 ≤ zCapN lim n bs.length 2 := zCapN_mono y11
  have w2 : zCapN lim n bs.length 2 ≤ zCapN lim n bs.length 3 := zCapN_mono y21
  have w3 : zCapN lim n bs.length 3 ≤ zCapN lim n bs.length 4 := zCapN_mono y31
  refine lv_aload_n hx hb d_Bytes_appendNumber_0 rfl (lv_at hl 0 rfl) ?_
  refine lv_iload_n hx hb d_Bytes_appendNumber_1 rfl (lv_at hl 1 rfl) ?_
  refine lv_bipush (v := 24) hx hb d_Bytes_appendNumber_2 (by decide) ?_
  refine lv_iushr hx hb d_Bytes_appendNumber_4 rfl ?_
  refine zk_ti (z := (x.toUInt32 >>> ((24 : Int32).toUInt32 &&& Int32.toUInt32 31)).toInt32) (rfl) ?_
  have hm0 : zCap lim n bs.length = zCapN lim n bs.length 1 := rfl
  have hFc := va_free (wc := [(a, .inr (0, [.int (nI lim), .ref r, .int (nI bs.length)])), (r, .inl ((kA 0), n, .inl f))]) hD hS hA [0, 1] rfl
  refine zk_mut (zk_runV (As := [.int ((x.toUInt32 >>> ((24 : Int32).toUInt32 &&& Int32.toUInt32 31)).toInt32)]) (rest := []) S m_Bytes_47 (c_Bytes_append l D kA a r lim n f bs ((x.toUInt32 >>> ((24 : Int32).toUInt32 &&& Int32.toUInt32 31)).toInt32) s.heap.size) rfl rfl ⟨Nat.le_of_ble_eq_true rfl, Nat.le_of_ble_eq_true rfl⟩ hK hX (zk_recv hK (hP 0 _ rfl) rfl) ⟨rfl, hP.sub (ws' := [(a, .inr (0, [.int (nI lim), .ref r, .int (nI bs.length)])), (r, .inl ((kA 0), n, .inl f))]) [0, 1] rfl, (hD.sub (ws' := [(a, .inr (0, [.int (nI lim), .ref r, .int (nI bs.length)])), (r, .inl ((kA 0), n, .inl f))]) [0, 1] (by decide) rfl).weaken (fun _ _ _ _ => trivial), hbs0⟩ rfl hl.1 rfl (Nat.le_of_ble_eq_true rfl) ⟨by
    show _ + (_ - _) ≤ zCapN lim n bs.length 4 - n
    omega, by
    show _ + 3 * (_ - _) ≤ 3 * (zCapN lim n bs.length 4 - n)
    omega⟩ d_Bytes_appendNumber_5) hS hFc hFc (fun v H locs hpost hz1 hk1 hS => ?_)
  obtain ⟨rfl, r1, f1, hP1, hD1, hbs1⟩ := hpost
  obtain ⟨hP, hD⟩ := va_join (wr := []) (w1 := [(a, .inr (0, [.int (nI lim), .ref r1, .int (nI (zApp lim bs (zByte ((x.toUInt32 >>> ((24 : Int32).toUInt32 &&& Int32.toUInt32 31)).toInt32))).length)])), (r1, .inl ((kA 0), (zCap lim n bs.length), .inl f1))]) hP hD [0, 1] [] rfl rfl (by decide) (by decide) hk1 hFc hP1 hD1
  refine W.eq (g2 := F0 m 8 ls []) rfl ?_
  have hP : va_P D classes [(a, .inr (0, [.int (nI lim), .ref r1, .int (nI (zApp lim bs (zByte ((x.toUInt32 >>> ((24 : Int32).toUInt32 &&& Int32.toUInt32 31)).toInt32))).length)])), (r1, .inl ((kA 0), (zCap lim n bs.length), .inl f1))] H := hP
  have hD : va_D A [(a, .inr (0, [.int (nI lim), .ref r1, .int (nI (zApp lim bs (zByte ((x.toUInt32 >>> ((24 : Int32).toUInt32 &&& Int32.toUInt32 31)).toInt32))).length)])), (r1, .inl ((kA 0), (zCap lim n bs.length), .inl f1))] := hD
  have hap0 : zApp lim bs (zByte ((x.toUInt32 >>> ((24 : Int32).toUInt32 &&& Int32.toUInt32 31)).toInt32)) = (bs ++ [zByte ((x.toUInt32 >>> ((24 : Int32).toUInt32 &&& Int32.toUInt32 31)).toInt32)]) := zApp_lt (by omega)
  rw [hap0, hm0] at hP hD hbs1
  have hP : va_P D classes [(a, .inr (0, [.int (nI lim), .ref r1, .int (nI (bs ++ [zByte ((x.toUInt32 >>> ((24 : Int32).toUInt32 &&& Int32.toUInt32 31)).toInt32)]).length)])), (r1, .inl ((kA 0), (zCapN lim n bs.length 1), .inl f1))] H := hP
  have hD : va_D A [(a, .inr (0, [.int (nI lim), .ref r1, .int (nI (bs ++ [zByte ((x.toUInt32 >>> ((24 : Int32).toUInt32 &&& Int32.toUInt32 31)).toInt32)]).length)])), (r1, .inl ((kA 0), (zCapN lim n bs.length 1), .inl f1))] := hD
  refine W.widen (k := zCapN lim n bs.length 1 - n) (n := 3 * (zCapN lim n bs.length 1 - n)) (by rw [hm0]; omega) (by rw [hm0]; omega) ?_
  refine lv_aload_n hx hb d_Bytes_appendNumber_8 rfl (lv_at hl 0 rfl) ?_
  refine lv_iload_n hx hb d_Bytes_appendNumber_9 rfl (lv_at hl 1 rfl) ?_
  refine lv_bipush (v := 16) hx hb d_Bytes_appendNumber_10 (by decide) ?_
  refine lv_iushr hx hb d_Bytes_appendNumber_12 rfl ?_
  refine zk_ti (z := (x.toUInt32 >>> ((16 : Int32).toUInt32 &&& Int32.toUInt32 31)).toInt32) (rfl) ?_
  have hm1 : zCap lim (zCapN lim n bs.length 1) (bs ++ [zByte ((x.toUInt32 >>> ((24 : Int32).toUInt32 &&& Int32.toUInt32 31)).toInt32)]).length = zCapN lim n bs.length 2 := by show _ = zCap lim _ _; congr 1; simp
  have hFc := va_free (wc := [(a, .inr (0, [.int (nI lim), .ref r1, .int (nI (bs ++ [zByte ((x.toUInt32 >>> ((24 : Int32).toUInt32 &&& Int32.toUInt32 31)).toInt32)]).length)])), (r1, .inl ((kA 0), (zCapN lim n bs.length 1), .inl f1))]) hD hS hA [0, 1] rfl
  refine zk_mut (zk_runV (As := [.int ((x.toUInt32 >>> ((16 : Int32).toUInt32 &&& Int32.toUInt32 31)).toInt32)]) (rest := []) S m_Bytes_47 (c_Bytes_append l D kA a r1 lim (zCapN lim n bs.length 1) f1 (bs ++ [zByte ((x.toUInt32 >>> ((24 : Int32).toUInt32 &&& Int32.toUInt32 31)).toInt32)]) ((x.toUInt32 >>> ((16 : Int32).toUInt32 &&& Int32.toUInt32 31)).toInt32) H.size) rfl rfl ⟨Nat.le_of_ble_eq_true rfl, Nat.le_of_ble_eq_true rfl⟩ hK hX (zk_recv hK (hP 0 _ rfl) rfl) ⟨rfl, hP.sub (ws' := [(a, .inr (0, [.int (nI lim), .ref r1, .int (nI (bs ++ [zByte ((x.toUInt32 >>> ((24 : Int32).toUInt32 &&& Int32.toUInt32 31)).toInt32)]).length)])), (r1, .inl ((kA 0), (zCapN lim n bs.length 1), .inl f1))]) [0, 1] rfl, (hD.sub (ws' := [(a, .inr (0, [.int (nI lim), .ref r1, .int (nI (bs ++ [zByte ((x.toUInt32 >>> ((24 : Int32).toUInt32 &&& Int32.toUInt32 31)).toInt32)]).length)])), (r1, .inl ((kA 0), (zCapN lim n bs.length 1), .inl f1))]) [0, 1] (by decide) rfl).weaken (fun _ _ _ _ => trivial), hbs1⟩ rfl hl.1 rfl (Nat.le_of_ble_eq_true rfl) ⟨by
    show _ + (_ - _) ≤ zCapN lim n bs.length 4 - n
    omega, by
    show _ + 3 * (_ - _) ≤ 3 * (zCapN lim n bs.length 4 - n)
    omega⟩ d_Bytes_appendNumber_13) hS hFc hFc (fun v H locs hpost hz1 hk1 hS => ?_)
  obtain ⟨rfl, r2, f2, hP1, hD1, hbs2⟩ := hpost
  obtain ⟨hP, hD⟩ := va_join (wr := []) (w1 := [(a, .inr (0, [.int (nI lim), .ref r2, .int (nI (zApp lim (bs ++ [zByte ((x.toUInt32 >>> ((24 : Int32).toUInt32 &&& Int32.toUInt32 31)).toInt32)]) (zByte ((x.toUInt32 >>> ((16 : Int32).toUInt32 &&& Int32.toUInt32 31)).toInt32))).length)])), (r2, .inl ((kA 0), (zCap lim (zCapN lim n bs.length 1) (bs ++ [zByte ((x.toUInt32 >>> ((24 : Int32).toUInt32 &&& Int32.toUInt32 31)).toInt32)]).length), .inl f2))]) hP hD [0, 1] [] rfl rfl (by decide) (by decide) hk1 hFc hP1 hD1
  refine W.eq (g2 := F0 m 16 ls []) rfl ?_
  have hP : va_P D classes [(a, .inr (0, [.int (nI lim), .ref r2, .int (nI (zApp lim (bs ++ [zByte ((x.toUInt32 >>> ((24 : Int32).toUInt32 &&& Int32.toUInt32 31)).toInt32)]) (zByte ((x.toUInt32 >>> ((16 : Int32).toUInt32 &&& Int32.toUInt32 31)).toInt32))).length)])), (r2, .inl ((kA 0), (zCap lim (zCapN lim n bs.length 1) (bs ++ [zByte ((x.toUInt32 >>> ((24 : Int32).toUInt32 &&& Int32.toUInt32 31)).toInt32)]).length), .inl f2))] H := hP
  have hD : va_D A [(a, .inr (0, [.int (nI lim), .ref r2, .int (nI (zApp lim (bs ++ [zByte ((x.toUInt32 >>> ((24 : Int32).toUInt32 &&& Int32.toUInt32 31)).toInt32)]) (zByte ((x.toUInt32 >>> ((16 : Int32).toUInt32 &&& Int32.toUInt32 31)).toInt32))).length)])), (r2, .inl ((kA 0), (zCap lim (zCapN lim n bs.length 1) (bs ++ [zByte ((x.toUInt32 >>> ((24 : Int32).toUInt32 &&& Int32.toUInt32 31)).toInt32)]).length), .inl f2))] := hD
  have hap1 : zApp lim (bs ++ [zByte ((x.toUInt32 >>> ((24 : Int32).toUInt32 &&& Int32.toUInt32 31)).toInt32)]) (zByte ((x.toUInt32 >>> ((16 : Int32).toUInt32 &&& Int32.toUInt32 31)).toInt32)) = ((bs ++ [zByte ((x.toUInt32 >>> ((24 : Int32).toUInt32 &&& Int32.toUInt32 31)).toInt32)]) ++ [zByte ((x.toUInt32 >>> ((16 : Int32).toUInt32 &&& Int32.toUInt32 31)).toInt32)]) := zApp_lt (by simp; omega)
  rw [hap1, hm1] at hP hD hbs2
  have hP : va_P D classes [(a, .inr (0, [.int (nI lim), .ref r2, .int (nI ((bs ++ [zByte ((x.toUInt32 >>> ((24 : Int32).toUInt32 &&& Int32.toUInt32 31)).toInt32)]) ++ [zByte ((x.toUInt32 >>> ((16 : Int32).toUInt32 &&& Int32.toUInt32 31)).toInt32)]).length)])), (r2, .inl ((kA 0), (zCapN lim n bs.length 2), .inl f2))] H := hP
  have hD : va_D A [(a, .inr (0, [.int (nI lim), .ref r2, .int (nI ((bs ++ [zByte ((x.toUInt32 >>> ((24 : Int32).toUInt32 &&& Int32.toUInt32 31)).toInt32)]) ++ [zByte ((x.toUInt32 >>> ((16 : Int32).toUInt32 &&& Int32.toUInt32 31)).toInt32)]).length)])), (r2, .inl ((kA 0), (zCapN lim n bs.length 2), .inl f2))] := hD
  refine W.widen (k := zCapN lim n bs.length 2 - n) (n := 3 * (zCapN lim n bs.length 2 - n)) (by rw [hm1]; omega) (by rw [hm1]; omega) ?_
  refine lv_aload_n hx hb d_Bytes_appendNumber_16 rfl (lv_at hl 0 rfl) ?_
  refine lv_iload_n hx hb d_Bytes_appendNumber_17 rfl (lv_at hl 1 rfl) ?_
  refine lv_bipush (v := 8) hx hb d_Bytes_appendNumber_18 (by decide) ?_
  refine lv_iushr hx hb d_Bytes_appendNumber_20 rfl ?_
  refine zk_ti (z := (x.toUInt32 >>> ((8 : Int32).toUInt32 &&& Int32.toUInt32 31)).toInt32) (rfl) ?_
  have hm2 : zCap lim (zCapN lim n bs.length 2) ((bs ++ [zByte ((x.toUInt32 >>> ((24 : Int32).toUInt32 &&& Int32.toUInt32 31)).toInt32)]) ++ [zByte ((x.toUInt32 >>> ((16 : Int32).toUInt32 &&& Int32.toUInt32 31)).toInt32)]).length = zCapN lim n bs.length 3 := by show _ = zCap lim _ _; congr 1; simp
  have hFc := va_free (wc := [(a, .inr (0, [.int (nI lim), .ref r2, .int (nI ((bs ++ [zByte ((x.toUInt32 >>> ((24 : Int32).toUInt32 &&& Int32.toUInt32 31)).toInt32)]) ++ [zByte ((x.toUInt32 >>> ((16 : Int32).toUInt32 &&& Int32.toUInt32 31)).toInt32)]).length)])), (r2, .inl ((kA 0), (zCapN lim n bs.length 2), .inl f2))]) hD hS hA [0, 1] rfl
  refine zk_mut (zk_runV (As := [.int ((x.toUInt32 >>> ((8 : Int32).toUInt32 &&& Int32.toUInt32 31)).toInt32)]) (rest := []) S m_Bytes_47 (c_Bytes_append l D kA a r2 lim (zCapN lim n bs.length 2) f2 ((bs ++ [zByte ((x.toUInt32 >>> ((24 : Int32).toUInt32 &&& Int32.toUInt32 31)).toInt32)]) ++ [zByte ((x.toUInt32 >>> ((16 : Int32).toUInt32 &&& Int32.toUInt32 31)).toInt32)]) ((x.toUInt32 >>> ((8 : Int32).toUInt32 &&& Int32.toUInt32 31)).toInt32) H.size) rfl rfl ⟨Nat.le_of_ble_eq_true rfl, Nat.le_of_ble_eq_true rfl⟩ hK hX (zk_recv hK (hP 0 _ rfl) rfl) ⟨rfl, hP.sub (ws' := [(a, .inr (0, [.int (nI lim), .ref r2, .int (nI ((bs ++ [zByte ((x.toUInt32 >>> ((24 : Int32).toUInt32 &&& Int32.toUInt32 31)).toInt32)]) ++ [zByte ((x.toUInt32 >>> ((16 : Int32).toUInt32 &&& Int32.toUInt32 31)).toInt32)]).length)])), (r2, .inl ((kA 0), (zCapN lim n bs.length 2), .inl f2))]) [0, 1] rfl, (hD.sub (ws' := [(a, .inr (0, [.int (nI lim), .ref r2, .int (nI ((bs ++ [zByte ((x.toUInt32 >>> ((24 : Int32).toUInt32 &&& Int32.toUInt32 31)).toInt32)]) ++ [zByte ((x.toUInt32 >>> ((16 : Int32).toUInt32 &&& Int32.toUInt32 31)).toInt32)]).length)])), (r2, .inl ((kA 0), (zCapN lim n bs.length 2), .inl f2))]) [0, 1] (by decide) rfl).weaken (fun _ _ _ _ => trivial), hbs2⟩ rfl hl.1 rfl (Nat.le_of_ble_eq_true rfl) ⟨by
    show _ + (_ - _) ≤ zCapN lim n bs.length 4 - n
    omega, by
    show _ + 3 * (_ - _) ≤ 3 * (zCapN lim n bs.length 4 - n)
    omega⟩ d_Bytes_appendNumber_21) hS hFc hFc (fun v H locs hpost hz1 hk1 hS => ?_)
  obtain ⟨rfl, r3, f3, hP1, hD1, hbs3⟩ := hpost
  obtain ⟨hP, hD⟩ := va_join (wr := []) (w1 := [(a, .inr (0, [.int (nI lim), .ref r3, .int (nI (zApp lim ((bs ++ [zByte ((x.toUInt32 >>> ((24 : Int32).toUInt32 &&& Int32.toUInt32 31)).toInt32)]) ++ [zByte ((x.toUInt32 >>> ((16 : Int32).toUInt32 &&& Int32.toUInt32 31)).toInt32)]) (zByte ((x.toUInt32 >>> ((8 : Int32).toUInt32 &&& Int32.toUInt32 31)).toInt32))).length)])), (r3, .inl ((kA 0), (zCap lim (zCapN lim n bs.length 2) ((bs ++ [zByte ((x.toUInt32 >>> ((24 : Int32).toUInt32 &&& Int32.toUInt32 31)).toInt32)]) ++ [zByte ((x.toUInt32 >>> ((16 : Int32).toUInt32 &&& Int32.toUInt32 31)).toInt32)]).length), .inl f3))]) hP hD [0, 1] [] rfl rfl (by decide) (by decide) hk1 hFc hP1 hD1
  refine W.eq (g2 := F0 m 24 ls []) rfl ?_
  have hP : va_P D classes [(a, .inr (0, [.int (nI lim), .ref r3, .int (nI (zApp lim ((bs ++ [zByte ((x.toUInt32 >>> ((24 : Int32).toUInt32 &&& Int32.toUInt32 31)).toInt32)]) ++ [zByte ((x.toUInt32 >>> ((16 : Int32).toUInt32 &&& Int32.toUInt32 31)).toInt32)]) (zByte ((x.toUInt32 >>> ((8 : Int32).toUInt32 &&& Int32.toUInt32 31)).toInt32))).length)])), (r3, .inl ((kA 0), (zCap lim (zCapN lim n bs.length 2) ((bs ++ [zByte ((x.toUInt32 >>> ((24 : Int32).toUInt32 &&& Int32.toUInt32 31)).toInt32)]) ++ [zByte ((x.toUInt32 >>> ((16 : Int32).toUInt32 &&& Int32.toUInt32 31)).toInt32)]).length), .inl f3))] H := hP
  have hD : va_D A [(a, .inr (0, [.int (nI lim), .ref r3, .int (nI (zApp lim ((bs ++ [zByte ((x.toUInt32 >>> ((24 : Int32).toUInt32 &&& Int32.toUInt32 31)).toInt32)]) ++ [zByte ((x.toUInt32 >>> ((16 : Int32).toUInt32 &&& Int32.toUInt32 31)).toInt32)]) (zByte ((x.toUInt32 >>> ((8 : Int32).toUInt32 &&& Int32.toUInt32 31)).toInt32))).length)])), (r3, .inl ((kA 0), (zCap lim (zCapN lim n bs.length 2) ((bs ++ [zByte ((x.toUInt32 >>> ((24 : Int32).toUInt32 &&& Int32.toUInt32 31)).toInt32)]) ++ [zByte ((x.toUInt32 >>> ((16 : Int32).toUInt32 &&& Int32.toUInt32 31)).toInt32)]).length), .inl f3))] := hD
  have hap2 : zApp lim ((bs ++ [zByte ((x.toUInt32 >>> ((24 : Int32).toUInt32 &&& Int32.toUInt32 31)).toInt32)]) ++ [zByte ((x.toUInt32 >>> ((16 : Int32).toUInt32 &&& Int32.toUInt32 31)).toInt32)]) (zByte ((x.toUInt32 >>> ((8 : Int32).toUInt32 &&& Int32.toUInt32 31)).toInt32)) = (((bs ++ [zByte ((x.toUInt32 >>> ((24 : Int32).toUInt32 &&& Int32.toUInt32 31)).toInt32)]) ++ [zByte ((x.toUInt32 >>> ((16 : Int32).toUInt32 &&& Int32.toUInt32 31)).toInt32)]) ++ [zByte ((x.toUInt32 >>> ((8 : Int32).toUInt32 &&& Int32.toUInt32 31)).toInt32)]) := zApp_lt (by simp; omega)
  rw [hap2, hm2] at hP hD hbs3
  have hP : va_P D classes [(a, .inr (0, [.int (nI lim), .ref r3, .int (nI (((bs ++ [zByte ((x.toUInt32 >>> ((24 : Int32).toUInt32 &&& Int32.toUInt32 31)).toInt32)]) ++ [zByte ((x.toUInt32 >>> ((16 : Int32).toUInt32 &&& Int32.toUInt32 31)).toInt32)]) ++ [zByte ((x.toUInt32 >>> ((8 : Int32).toUInt32 &&& Int32.toUInt32 31)).toInt32)]).length)])), (r3, .inl ((kA 0), (zCapN lim n bs.length 3), .inl f3))] H := hP
  have hD : va_D A [(a, .inr (0, [.int (nI lim), .ref r3, .int (nI (((bs ++ [zByte ((x.toUInt32 >>> ((24 : Int32).toUInt32 &&& Int32.toUInt32 31)).toInt32)]) ++ [zByte ((x.toUInt32 >>> ((16 : Int32).toUInt32 &&& Int32.toUInt32 31)).toInt32)]) ++ [zByte ((x.toUInt32 >>> ((8 : Int32).toUInt32 &&& Int32.toUInt32 31)).toInt32)]).length)])), (r3, .inl ((kA 0), (zCapN lim n bs.length 3), .inl f3))] := hD
  refine W.widen (k := zCapN lim n bs.length 3 - n) (n := 3 * (zCapN lim n bs.length 3 - n)) (by rw [hm2]; omega) (by rw [hm2]; omega) ?_
  refine lv_aload_n hx hb d_Bytes_appendNumber_24 rfl (lv_at hl 0 rfl) ?_
  refine lv_iload_n hx hb d_Bytes_appendNumber_25 rfl (lv_at hl 1 rfl) ?_
  have hm3 : zCap lim (zCapN lim n bs.length 3) (((bs ++ [zByte ((x.toUInt32 >>> ((24 : Int32).toUInt32 &&& Int32.toUInt32 31)).toInt32)]) ++ [zByte ((x.toUInt32 >>> ((16 : Int32).toUInt32 &&& Int32.toUInt32 31)).toInt32)]) ++ [zByte ((x.toUInt32 >>> ((8 : Int32).toUInt32 &&& Int32.toUInt32 31)).toInt32)]).length = zCapN lim n bs.length 4 := by show _ = zCap lim _ _; congr 1; simp
  have hFc := va_free (wc := [(a, .inr (0, [.int (nI lim), .ref r3, .int (nI (((bs ++ [zByte ((x.toUInt32 >>> ((24 : Int32).toUInt32 &&& Int32.toUInt32 31)).toInt32)]) ++ [zByte ((x.toUInt32 >>> ((16 : Int32).toUInt32 &&& Int32.toUInt32 31)).toInt32)]) ++ [zByte ((x.toUInt32 >>> ((8 : Int32).toUInt32 &&& Int32.toUInt32 31)).toInt32)]).length)])), (r3, .inl ((kA 0), (zCapN lim n bs.length 3), .inl f3))]) hD hS hA [0, 1] rfl
  refine zk_mut (zk_runV (As := [.int x]) (rest := []) S m_Bytes_47 (c_Bytes_append l D kA a r3 lim (zCapN lim n bs.length 3) f3 (((bs ++ [zByte ((x.toUInt32 >>> ((24 : Int32).toUInt32 &&& Int32.toUInt32 31)).toInt32)]) ++ [zByte ((x.toUInt32 >>> ((16 : Int32).toUInt32 &&& Int32.toUInt32 31)).toInt32)]) ++ [zByte ((x.toUInt32 >>> ((8 : Int32).toUInt32 &&& Int32.toUInt32 31)).toInt32)]) x H.size) rfl rfl ⟨Nat.le_of_ble_eq_true rfl, Nat.le_of_ble_eq_true rfl⟩ hK hX (zk_recv hK (hP 0 _ rfl) rfl) ⟨rfl, hP.sub (ws' := [(a, .inr (0, [.int (nI lim), .ref r3, .int (nI (((bs ++ [zByte ((x.toUInt32 >>> ((24 : Int32).toUInt32 &&& Int32.toUInt32 31)).toInt32)]) ++ [zByte ((x.toUInt32 >>> ((16 : Int32).toUInt32 &&& Int32.toUInt32 31)).toInt32)]) ++ [zByte ((x.toUInt32 >>> ((8 : Int32).toUInt32 &&& Int32.toUInt32 31)).toInt32)]).length)])), (r3, .inl ((kA 0), (zCapN lim n bs.length 3), .inl f3))]) [0, 1] rfl, (hD.sub (ws' := [(a, .inr (0, [.int (nI lim), .ref r3, .int (nI (((bs ++ [zByte ((x.toUInt32 >>> ((24 : Int32).toUInt32 &&& Int32.toUInt32 31)).toInt32)]) ++ [zByte ((x.toUInt32 >>> ((16 : Int32).toUInt32 &&& Int32.toUInt32 31)).toInt32)]) ++ [zByte ((x.toUInt32 >>> ((8 : Int32).toUInt32 &&& Int32.toUInt32 31)).toInt32)]).length)])), (r3, .inl ((kA 0), (zCapN lim n bs.length 3), .inl f3))]) [0, 1] (by decide) rfl).weaken (fun _ _ _ _ => trivial), hbs3⟩ rfl hl.1 rfl (Nat.le_of_ble_eq_true rfl) ⟨by
    show _ + (_ - _) ≤ zCapN lim n bs.length 4 - n
    omega, by
    show _ + 3 * (_ - _) ≤ 3 * (zCapN lim n bs.length 4 - n)
    omega⟩ d_Bytes_appendNumber_26) hS hFc hFc (fun v H locs hpost hz1 hk1 hS => ?_)
  obtain ⟨rfl, r4, f4, hP1, hD1, hbs4⟩ := hpost
  obtain ⟨hP, hD⟩ := va_join (wr := []) (w1 := [(a, .inr (0, [.int (nI lim), .ref r4, .int (nI (zApp lim (((bs ++ [zByte ((x.toUInt32 >>> ((24 : Int32).toUInt32 &&& Int32.toUInt32 31)).toInt32)]) ++ [zByte ((x.toUInt32 >>> ((16 : Int32).toUInt32 &&& Int32.toUInt32 31)).toInt32)]) ++ [zByte ((x.toUInt32 >>> ((8 : Int32).toUInt32 &&& Int32.toUInt32 31)).toInt32)]) (zByte x)).length)])), (r4, .inl ((kA 0), (zCap lim (zCapN lim n bs.length 3) (((bs ++ [zByte ((x.toUInt32 >>> ((24 : Int32).toUInt32 &&& Int32.toUInt32 31)).toInt32)]) ++ [zByte ((x.toUInt32 >>> ((16 : Int32).toUInt32 &&& Int32.toUInt32 31)).toInt32)]) ++ [zByte ((x.toUInt32 >>> ((8 : Int32).toUInt32 &&& Int32.toUInt32 31)).toInt32)]).length), .inl f4))]) hP hD [0, 1] [] rfl rfl (by decide) (by decide) hk1 hFc hP1 hD1
  refine W.eq (g2 := F0 m 29 ls []) rfl ?_
  have hP : va_P D classes [(a, .inr (0, [.int (nI lim), .ref r4, .int (nI (zApp lim (((bs ++ [zByte ((x.toUInt32 >>> ((24 : Int32).toUInt32 &&& Int32.toUInt32 31)).toInt32)]) ++ [zByte ((x.toUInt32 >>> ((16 : Int32).toUInt32 &&& Int32.toUInt32 31)).toInt32)]) ++ [zByte ((x.toUInt32 >>> ((8 : Int32).toUInt32 &&& Int32.toUInt32 31)).toInt32)]) (zByte x)).length)])), (r4, .inl ((kA 0), (zCap lim (zCapN lim n bs.length 3) (((bs ++ [zByte ((x.toUInt32 >>> ((24 : Int32).toUInt32 &&& Int32.toUInt32 31)).toInt32)]) ++ [zByte ((x.toUInt32 >>> ((16 : Int32).toUInt32 &&& Int32.toUInt32 31)).toInt32)]) ++ [zByte ((x.toUInt32 >>> ((8 : Int32).toUInt32 &&& Int32.toUInt32 31)).toInt32)]).length), .inl f4))] H := hP
  have hD : va_D A [(a, .inr (0, [.int (nI lim), .ref r4, .int (nI (zApp lim (((bs ++ [zByte ((x.toUInt32 >>> ((24 : Int32).toUInt32 &&& Int32.toUInt32 31)).toInt32)]) ++ [zByte ((x.toUInt32 >>> ((16 : Int32).toUInt32 &&& Int32.toUInt32 31)).toInt32)]) ++ [zByte ((x.toUInt32 >>> ((8 : Int32).toUInt32 &&& Int32.toUInt32 31)).toInt32)]) (zByte x)).length)])), (r4, .inl ((kA 0), (zCap lim (zCapN lim n bs.length 3) (((bs ++ [zByte ((x.toUInt32 >>> ((24 : Int32).toUInt32 &&& Int32.toUInt32 31)).toInt32)]) ++ [zByte ((x.toUInt32 >>> ((16 : Int32).toUInt32 &&& Int32.toUInt32 31)).toInt32)]) ++ [zByte ((x.toUInt32 >>> ((8 : Int32).toUInt32 &&& Int32.toUInt32 31)).toInt32)]).length), .inl f4))] := hD
  have hap3 : zApp lim (((bs ++ [zByte ((x.toUInt32 >>> ((24 : Int32).toUInt32 &&& Int32.toUInt32 31)).toInt32)]) ++ [zByte ((x.toUInt32 >>> ((16 : Int32).toUInt32 &&& Int32.toUInt32 31)).toInt32)]) ++ [zByte ((x.toUInt32 >>> ((8 : Int32).toUInt32 &&& Int32.toUInt32 31)).toInt32)]) (zByte x) = ((((bs ++ [zByte ((x.toUInt32 >>> ((24 : Int32).toUInt32 &&& Int32.toUInt32 31)).toInt32)]) ++ [zByte ((x.toUInt32 >>> ((16 : Int32).toUInt32 &&& Int32.toUInt32 31)).toInt32)]) ++ [zByte ((x.toUInt32 >>> ((8 : Int32).toUInt32 &&& Int32.toUInt32 31)).toInt32)]) ++ [zByte x]) := zApp_lt (by simp; omega)
  rw [hap3, hm3] at hP hD hbs4
  have hP : va_P D classes [(a, .inr (0, [.int (nI lim), .ref r4, .int (nI ((((bs ++ [zByte ((x.toUInt32 >>> ((24 : Int32).toUInt32 &&& Int32.toUInt32 31)).toInt32)]) ++ [zByte ((x.toUInt32 >>> ((16 : Int32).toUInt32 &&& Int32.toUInt32 31)).toInt32)]) ++ [zByte ((x.toUInt32 >>> ((8 : Int32).toUInt32 &&& Int32.toUInt32 31)).toInt32)]) ++ [zByte x]).length)])), (r4, .inl ((kA 0), (zCapN lim n bs.length 4), .inl f4))] H := hP
  have hD : va_D A [(a, .inr (0, [.int (nI lim), .ref r4, .int (nI ((((bs ++ [zByte ((x.toUInt32 >>> ((24 : Int32).toUInt32 &&& Int32.toUInt32 31)).toInt32)]) ++ [zByte ((x.toUInt32 >>> ((16 : Int32).toUInt32 &&& Int32.toUInt32 31)).toInt32)]) ++ [zByte ((x.toUInt32 >>> ((8 : Int32).toUInt32 &&& Int32.toUInt32 31)).toInt32)]) ++ [zByte x]).length)])), (r4, .inl ((kA 0), (zCapN lim n bs.length 4), .inl f4))] := hD
  refine W.widen (k := zCapN lim n bs.length 4 - n) (n := 3 * (zCapN lim n bs.length 4 - n)) (by rw [hm3]; omega) (by rw [hm3]; omega) ?_
  exact zk_vret S hr hlk hS ⟨rfl, r4, f4, hP, hD, hbs4⟩ (Nat.le_refl _) (Nat.le_refl _) d_Bytes_appendNumber_29
end
section
theorem zCapN_upto {lim n sz : Nat} (hn : n ≤ lim) (hs : sz ≤ n) (h0 : 0 < n) : ∀ (j i : Nat), i ≤ j → sz + j ≤ lim → zCapN lim n sz i ≤ zCapN lim n sz j := by
  intro j
  induction j with
  | zero => intro i hi _; rw [show i = 0 by omega]; exact Nat.le_refl _
  | succ j ih =>
    intro i hi hl
    by_cases h : i = j + 1
    · rw [h]; exact Nat.le_refl _
    · exact Nat.le_trans (ih i (by omega) (by omega)) (zCapN_mono (zCapN_ge hn hs j (by omega) hn h0).1)
end
section
set_option maxHeartbeats 4000000 in
set_option maxRecDepth 100000 in
/-- Bytes.appendAll(other) -/
theorem c_Bytes_appendAll (l : Launch) (D : va_G) (kA : Nat → ClassId) (a r lim n : Nat) (f : Nat → Int32) (bs : List Nat) (o lo : Nat) (os : List Nat) (hroom : bs.length + os.length ≤ lim) (sz0 : Nat) : Met l y_Bytes_appendAll (Cond.code y_Bytes_appendAll b_Bytes_appendAll 3 none :: zTB) { frames := 3, cells := zCapN lim n bs.length os.length - n, slots := 3 * (zCapN lim n bs.length os.length - n), locals := 83 } (zk_Pc D classes (zTY kA) [.ref a, .ref o] (fun H => H.size = sz0 ∧ va_P D classes [(a, .inr (0, [.int (nI lim), .ref r, .int (nI bs.length)])), (r, .inl ((kA 0), n, .inl f))] H ∧ va_D (fun _ => True) [(a, .inr (0, [.int (nI lim), .ref r, .int (nI bs.length)])), (r, .inl ((kA 0), n, .inl f))] ∧ zBs lim n f bs ∧ BsAt D kA (fun q => ¬ (va_A [(a, .inr (0, [.int (nI lim), .ref r, .int (nI bs.length)])), (r, .inl ((kA 0), n, .inl f))] sz0) q) H o lo os)) (zk_mQ (fun v H => v = none ∧ BsPost D kA (va_A [(a, .inr (0, [.int (nI lim), .ref r, .int (nI bs.length)])), (r, .inl ((kA 0), n, .inl f))] sz0) H a lim (zCapN lim n bs.length os.length) (bs ++ os)) (va_A [(a, .inr (0, [.int (nI lim), .ref r, .int (nI bs.length)])), (r, .inl ((kA 0), n, .inl f))] sz0)) (zCapN lim n bs.length os.length - n) (3 * (zCapN lim n bs.length os.length - n)) (va_A [(a, .inr (0, [.int (nI lim), .ref r, .int (nI bs.length)])), (r, .inl ((kA 0), n, .inl f))] sz0) := by
  refine zk_of [.ref a, .ref o] (by decide) (Nat.le_of_ble_eq_true rfl) ?_
  intro p e s m below meth c S hr hlk hnm hK hX hpre ls hl
  obtain ⟨hx, hb, hml, hown, ht⟩ := id S
  have hl : lv_has ls 3 [(0, .ref a), (1, .ref o)] := hl
  obtain ⟨hsz, hP, hD0, hbs, hO⟩ := hpre
  subst hsz
  have hD := hD0.self (sz := s.heap.size)
  generalize hAe : va_A [(a, .inr (0, [.int (nI lim), .ref r, .int (nI bs.length)])), (r, .inl ((kA 0), n, .inl f))] s.heap.size = A at hD hO ⊢
  have hA : ∀ q : Nat, s.heap.size ≤ q → A q := fun q h => by rw [← hAe]; exact Or.inr h
  have hS : va_S A s.heap s.heap [] := va_S.rf
  have hP : va_P D classes [(a, .inr (0, [.int (nI lim), .ref r, .int (nI bs.length)])), (r, .inl ((kA 0), n, .inl f))] s.heap := hP
  obtain ⟨ro, no, fo, hz1, hz2, hO1, hO2, hO3⟩ := id hO
  obtain ⟨h1, h2, h3, h4, h5⟩ := id hbs
  obtain ⟨g1, g2, g3, g4, g5⟩ := id hO3
  refine lv_iconst (v := 0) hx hb d_Bytes_appendAll_0 (by decide) ?_
  refine lv_istore_n (lv' := [(2, .int 0), (0, .ref a), (1, .ref o)]) hx hb d_Bytes_appendAll_1 rfl hl (by decide) rfl (fun ls hl => ?_)
  have lp : ∀ (fu : Nat) (i r1 : Nat) (f1 : Nat → Int32), os.length - i < fu → i ≤ os.length → zBs lim (zCapN lim n bs.length i) f1 (bs ++ os.take i) → ∀ (H : Heap) (locs : List Loc), va_P D classes [(a, .inr (0, [.int (nI lim), .ref r1, .int (nI (bs ++ os.take i).length)])), (r1, .inl ((kA 0), (zCapN lim n bs.length i), .inl f1))] H → va_D A [(a, .inr (0, [.int (nI lim), .ref r1, .int (nI (bs ++ os.take i).length)])), (r1, .inl ((kA 0), (zCapN lim n bs.length i), .inl f1))] → va_S A s.heap H locs → ∀ ls : Array Slot, lv_has ls 3 [(0, .ref a), (1, .ref o), (2, .int (nI i))] → W p l e { frames := 3, cells := zCapN lim n bs.length os.length - n, slots := 3 * (zCapN lim n bs.length os.length - n), locals := 83 } s m [.ref a, .ref o].toArray below meth c H locs (zCapN lim n bs.length i - n) (3 * (zCapN lim n bs.length i - n)) (MQ below (zk_mQ (fun v H => v = none ∧ BsPost D kA A H a lim (zCapN lim n bs.length os.length) (bs ++ os)) A) [.ref a, .ref o].toArray s (zCapN lim n bs.length os.length - n) (3 * (zCapN lim n bs.length os.length - n)) A) (F0 m 2 ls []) := by
    intro fu
    induction fu with
    | zero => intro i r1 f1 hn; exact absurd hn (Nat.not_lt_zero _)
    | succ fu ih =>
      intro i r1 f1 hn hi hb1 H locs hP hD hS ls hl
      refine lv_iload_n hx hb d_Bytes_appendAll_2 rfl (lv_at hl 2 rfl) ?_
      refine lv_aload_n hx hb d_Bytes_appendAll_3 rfl (lv_at hl 1 rfl) ?_
      refine zk_pure (zk_runV (As := []) (rest := [.int (nI i)]) S m_Bytes_51 (c_Bytes_size l D kA (fun q => ¬ A q) o lo os) rfl rfl ⟨Nat.le_of_ble_eq_true rfl, Nat.le_of_ble_eq_true rfl⟩ hK hX (zk_recv hK (zk_ro hS hO1 hz1) rfl) (hO.ro hS) rfl hl.1 rfl (Nat.le_of_ble_eq_true rfl) ⟨by
        show _ + 0 ≤ zCapN lim n bs.length os.length - n
        have := zCapN_upto (lim := lim) h2 h1 (by omega) os.length i hi (by omega)
        omega, by
        show _ + 0 ≤ 3 * (zCapN lim n bs.length os.length - n)
        have := zCapN_upto (lim := lim) h2 h1 (by omega) os.length i hi (by omega)
        omega⟩ d_Bytes_appendAll_4) ?_
      refine lv_icmp_ge (tgt := 25) hx hb d_Bytes_appendAll_7 (by decide) (fun c7 => ?_) (fun c7 => ?_)
      · have hie : i = os.length := by
          have := (nI_leI (by omega) (by omega)).mp c7
          omega
        subst hie
        rw [List.take_length] at hP hD hb1
        exact zk_vret S hr hlk hS ⟨rfl, r1, f1, hP, hD, hb1⟩ (Nat.le_refl _) (Nat.le_refl _) d_Bytes_appendAll_25
      · have hlt : i < os.length := Nat.not_le.mp fun q => c7 (nI_le q (by omega))
        refine lv_aload_n hx hb d_Bytes_appendAll_10 rfl (lv_at hl 0 rfl) ?_
        refine lv_aload_n hx hb d_Bytes_appendAll_11 rfl (lv_at hl 1 rfl) ?_
        refine lv_iload_n hx hb d_Bytes_appendAll_12 rfl (lv_at hl 2 rfl) ?_
        refine zk_pure (zk_runV (As := [.int (nI i)]) (rest := [.ref a]) S m_Bytes_31 (c_Bytes_at l D kA (fun q => ¬ A q) o lo os (nI i)) rfl rfl ⟨Nat.le_of_ble_eq_true rfl, Nat.le_of_ble_eq_true rfl⟩ hK hX (zk_recv hK (zk_ro hS hO1 hz1) rfl) (hO.ro hS) rfl hl.1 rfl (Nat.le_of_ble_eq_true rfl) ⟨by
          show _ + 0 ≤ zCapN lim n bs.length os.length - n
          have := zCapN_upto (lim := lim) h2 h1 (by omega) os.length i hi (by omega)
          omega, by
          show _ + 0 ≤ 3 * (zCapN lim n bs.length os.length - n)
          have := zCapN_upto (lim := lim) h2 h1 (by omega) os.length i hi (by omega)
          omega⟩ d_Bytes_appendAll_13) ?_
        refine zk_ti (z := nI (os.getD i 0)) (bAt_nI (by omega) hlt) ?_
        have hm : zCap lim (zCapN lim n bs.length i) (bs ++ os.take i).length = zCapN lim n bs.length (i + 1) := by rw [zLen_take hi]; rfl
        obtain ⟨y1, y2, y3⟩ := zCapN_ge (lim := lim) h2 h1 i (by omega) h2 (by omega)
        have y4 : (zCapN lim n bs.length i) ≤ zCapN lim n bs.length (i + 1) := zCapN_mono y1
        have y5 : zCapN lim n bs.length (i + 1) ≤ zCapN lim n bs.length os.length := zCapN_upto h2 h1 (by omega) _ _ (by omega) (by omega)
        have hFc := va_free (wc := [(a, .inr (0, [.int (nI lim), .ref r1, .int (nI (bs ++ os.take i).length)])), (r1, .inl ((kA 0), (zCapN lim n bs.length i), .inl f1))]) hD hS hA [0, 1] rfl
        refine zk_mut (zk_runV (As := [.int (nI (os.getD i 0))]) (rest := []) S m_Bytes_47 (c_Bytes_append l D kA a r1 lim (zCapN lim n bs.length i) f1 (bs ++ os.take i) (nI (os.getD i 0)) H.size) rfl rfl ⟨Nat.le_of_ble_eq_true rfl, Nat.le_of_ble_eq_true rfl⟩ hK hX (zk_recv hK (hP 0 _ rfl) rfl) ⟨rfl, hP.sub (ws' := [(a, .inr (0, [.int (nI lim), .ref r1, .int (nI (bs ++ os.take i).length)])), (r1, .inl ((kA 0), (zCapN lim n bs.length i), .inl f1))]) [0, 1] rfl, (hD.sub (ws' := [(a, .inr (0, [.int (nI lim), .ref r1, .int (nI (bs ++ os.take i).length)])), (r1, .inl ((kA 0), (zCapN lim n bs.length i), .inl f1))]) [0, 1] (by decide) rfl).weaken (fun _ _ _ _ => trivial), hb1⟩ rfl hl.1 rfl (Nat.le_of_ble_eq_true rfl) ⟨by
          show _ + (_ - _) ≤ zCapN lim n bs.length os.length - n
          rw [hm]; omega, by
          show _ + 3 * (_ - _) ≤ 3 * (zCapN lim n bs.length os.length - n)
          rw [hm]; omega⟩ d_Bytes_appendAll_16) hS hFc hFc (fun v H locs hpost hz1 hk1 hS => ?_)
        obtain ⟨rfl, r2, f2, hP1, hD1, hb2⟩ := hpost
        obtain ⟨hP, hD⟩ := va_join (wr := []) (w1 := [(a, .inr (0, [.int (nI lim), .ref r2, .int (nI (zApp lim (bs ++ os.take i) (zByte (nI (os.getD i 0)))).length)])), (r2, .inl ((kA 0), (zCap lim (zCapN lim n bs.length i) (bs ++ os.take i).length), .inl f2))]) hP hD [0, 1] [] rfl rfl (by decide) (by decide) hk1 hFc hP1 hD1
        refine W.eq (g2 := F0 m 19 ls []) rfl ?_
        have hP : va_P D classes [(a, .inr (0, [.int (nI lim), .ref r2, .int (nI (zApp lim (bs ++ os.take i) (zByte (nI (os.getD i 0)))).length)])), (r2, .inl ((kA 0), (zCap lim (zCapN lim n bs.length i) (bs ++ os.take i).length), .inl f2))] H := hP
        have hD : va_D A [(a, .inr (0, [.int (nI lim), .ref r2, .int (nI (zApp lim (bs ++ os.take i) (zByte (nI (os.getD i 0)))).length)])), (r2, .inl ((kA 0), (zCap lim (zCapN lim n bs.length i) (bs ++ os.take i).length), .inl f2))] := hD
        have hap : zApp lim (bs ++ os.take i) (zByte (nI (os.getD i 0))) = bs ++ os.take (i + 1) := by rw [zByte_nI (g5 i hlt).1, zApp_lt (by rw [zLen_take hi]; omega), zTake_snoc hlt]
        rw [hap, hm] at hP hD hb2
        have hP : va_P D classes [(a, .inr (0, [.int (nI lim), .ref r2, .int (nI (bs ++ os.take (i + 1)).length)])), (r2, .inl ((kA 0), (zCapN lim n bs.length (i + 1)), .inl f2))] H := hP
        have hD : va_D A [(a, .inr (0, [.int (nI lim), .ref r2, .int (nI (bs ++ os.take (i + 1)).length)])), (r2, .inl ((kA 0), (zCapN lim n bs.length (i + 1)), .inl f2))] := hD
        refine W.widen (k := (zCapN lim n bs.length (i + 1) - n)) (n := (3 * (zCapN lim n bs.length (i + 1) - n))) (by rw [hm]; omega) (by rw [hm]; omega) ?_
        refine lv_iinc (v := (nI (i + 1))) (lv' := [(2, .int (nI (i + 1))), (0, .ref a), (1, .ref o)]) hx hb d_Bytes_appendAll_19 hl (k := 2) rfl (nI_1 i) (by decide) rfl (fun ls hl => ?_)
        refine lv_goto (tgt := 2) hx hb d_Bytes_appendAll_22 (by decide) ?_
        exact ih (i + 1) r2 f2 (by omega) (by omega) hb2 _ _ (hP.sub [0, 1] rfl) (hD.sub [0, 1] (by decide) rfl) hS ls (lv_sub hl [1, 2, 0] rfl)
  have e0 : bs ++ os.take 0 = bs := by simp
  refine W.widen (k := (zCapN lim n bs.length 0 - n)) (n := (3 * (zCapN lim n bs.length 0 - n))) (Nat.zero_le _) (Nat.zero_le _) ?_
  exact lp (os.length + 1) 0 r f (by omega) (Nat.zero_le _) (by rw [e0]; exact hbs) _ _ (by rw [e0]; exact hP.sub [0, 1] rfl) (by rw [e0]; exact hD.sub [0, 1] (by decide) rfl) hS ls (lv_sub hl [1, 2, 0] rfl)
end
section
set_option maxHeartbeats 4000000 in
set_option maxRecDepth 100000 in
/-- Bytes.copyFrom(from, 200) -/
theorem c_Bytes_copyFrom (l : Launch) (D : va_G) (kA : Nat → ClassId) (a lim fr : Nat) (bs : List Nat) (hfr : fr ≤ bs.length) (hle : bs.length - fr ≤ 200) (sz0 : Nat) : Met l y_Bytes_copyFrom (Cond.code y_Bytes_copyFrom b_Bytes_copyFrom 5 (some (.object "PeerLine$Bytes")) :: zTB) { frames := 3, cells := 2 + (zCapN 200 64 0 (bs.length - fr) - 64), slots := 67 + 3 * (zCapN 200 64 0 (bs.length - fr) - 64), locals := 83 } (zk_Pc D classes (zTY kA) [.ref a, .int (nI fr), .int (nI 200)] (fun H => H.size = sz0 ∧ va_P D classes [] H ∧ va_D (fun _ => True) [] ∧ BsAt D kA (fun q => ¬ (va_A [] sz0) q) H a lim bs)) (zk_mQ (fun v H => ∃ q, v = some (.ref q) ∧ BsPost D kA (va_A [] sz0) H q 200 (zCapN 200 64 0 (bs.length - fr)) (bs.drop fr)) (va_A [] sz0)) (2 + (zCapN 200 64 0 (bs.length - fr) - 64)) (67 + 3 * (zCapN 200 64 0 (bs.length - fr) - 64)) (va_A [] sz0) := by
  refine zk_of [.ref a, .int (nI fr), .int (nI 200)] (by decide) (Nat.le_of_ble_eq_true rfl) ?_
  intro p e s m below meth c S hr hlk hnm hK hX hpre ls hl
  obtain ⟨hx, hb, hml, hown, ht⟩ := id S
  have hl : lv_has ls 5 [(0, .ref a), (1, .int (nI fr)), (2, .int (nI 200))] := hl
  obtain ⟨hsz, hP, hD0, hO⟩ := hpre
  subst hsz
  have hD := hD0.self (sz := s.heap.size)
  generalize hAe : va_A [] s.heap.size = A at hD hO ⊢
  have hA : ∀ q : Nat, s.heap.size ≤ q → A q := fun q h => by rw [← hAe]; exact Or.inr h
  have hS : va_S A s.heap s.heap [] := va_S.rf
  have hP : va_P D classes [] s.heap := hP
  obtain ⟨ro, no, fo, hza, hzb, hO1, hO2, hO3⟩ := id hO
  obtain ⟨g1, g2, g3, g4, g5⟩ := id hO3
  obtain ⟨os, hos⟩ : ∃ os, os = bs.drop fr := ⟨_, rfl⟩
  have hol : os.length = bs.length - fr := by rw [hos, List.length_drop]
  have hog : ∀ i, os.getD i 0 = bs.getD (fr + i) 0 := fun i => by rw [hos, List.getD_eq_getElem?_getD, List.getElem?_drop, ← List.getD_eq_getElem?_getD]
  rw [← hos]
  refine va_new (ci := 0) (fs := [.int 0, .null, .int 0]) (C := R_Bytes) (T := F_Bytes) (N := 3) hx hb ht i_Bytes t_Bytes t_Bytes_ok hown (ht _ m_Bytes_16) (ht _ m_inst_Bytes) (ht _ m_ini_Bytes) hK hP hD hS hA rfl (fun j hj => by rcases (show j = 0 ∨ j = 1 ∨ j = 2 by omega) with rfl | rfl | rfl <;> rfl) (by show 0 + 1 ≤ 2 + (zCapN 200 64 0 (bs.length - fr) - 64); omega) (by show 0 + 3 ≤ 67 + 3 * (zCapN 200 64 0 (bs.length - fr) - 64); omega) d_Bytes_copyFrom_0 (fun q H hP hD hS => ?_)
  have hP : va_P D classes [(q, .inr (0, [.int 0, .null, .int 0]))] H := hP
  have hD : va_D A [(q, .inr (0, [.int 0, .null, .int 0]))] := hD
  refine lv_dup hx hb d_Bytes_copyFrom_3 rfl ?_
  refine lv_iload_n hx hb d_Bytes_copyFrom_4 rfl (lv_at hl 2 rfl) ?_
  have hFc := va_free (wc := [(q, .inr (0, [.int 0, .null, .int 0]))]) hD hS hA [0] rfl
  refine zk_mut (zk_runI (As := [.int (nI 200)]) (rest := [.ref q]) S m_Bytes_54 (c_Bytes_init l D kA q 200 (by decide) (by decide) (by unfold zOk; decide) H.size) rfl rfl ⟨Nat.le_of_ble_eq_true rfl, Nat.le_of_ble_eq_true rfl⟩ hK hX ⟨rfl, hP.sub (ws' := [(q, .inr (0, [.int 0, .null, .int 0]))]) [0] rfl, (hD.sub (ws' := [(q, .inr (0, [.int 0, .null, .int 0]))]) [0] (by decide) rfl).weaken (fun _ _ _ _ => trivial)⟩ rfl hl.1 rfl (Nat.le_of_ble_eq_true rfl) ⟨by show 0 + 1 + 1 ≤ 2 + (zCapN 200 64 0 (bs.length - fr) - 64); omega, by show 0 + 3 + 64 ≤ 67 + 3 * (zCapN 200 64 0 (bs.length - fr) - 64); omega⟩ d_Bytes_copyFrom_5) hS hFc hFc (fun v H locs hpost hz1 hk1 hS => ?_)
  obtain ⟨rfl, r0, f0, hP1, hD1, hb0⟩ := hpost
  obtain ⟨hP, hD⟩ := va_join (wr := []) (w1 := [(q, .inr (0, [.int (nI 200), .ref r0, .int (nI ([] : List Nat).length)])), (r0, .inl ((kA 0), 64, .inl f0))]) hP hD [0] [] rfl rfl (by decide) (by decide) hk1 hFc hP1 hD1
  refine W.eq (g2 := F0 m 8 ls [.ref q]) rfl ?_
  have hP : va_P D classes [(q, .inr (0, [.int (nI 200), .ref r0, .int (nI ([] : List Nat).length)])), (r0, .inl ((kA 0), 64, .inl f0))] H := hP
  have hD : va_D A [(q, .inr (0, [.int (nI 200), .ref r0, .int (nI ([] : List Nat).length)])), (r0, .inl ((kA 0), 64, .inl f0))] := hD
  refine lv_astore_n (lv' := [(3, .ref q), (0, .ref a), (1, .int (nI fr)), (2, .int (nI 200))]) hx hb d_Bytes_copyFrom_8 rfl hl (by decide) rfl (fun ls hl => ?_)
  refine lv_iconst (v := 0) hx hb d_Bytes_copyFrom_9 (by decide) ?_
  refine lv_iload_n hx hb d_Bytes_copyFrom_10 rfl (lv_at hl 2 rfl) ?_
  refine va_mmax hx hb (by rw [hml]; exact hl.1.symm) hown (ht _ m_Bytes_9) (ht _ m_max_s) (ht _ m_ini_Math) (ht _ m_max_c) (Nat.le_of_ble_eq_true rfl) (Nat.le_of_ble_eq_true rfl) (by show 0 + 1 + 1 ≤ 2 + (zCapN 200 64 0 (bs.length - fr) - 64); omega) (by show 0 + 3 + 64 ≤ 67 + 3 * (zCapN 200 64 0 (bs.length - fr) - 64); omega) d_Bytes_copyFrom_11 ?_
  refine zk_ti (z := nI fr) (by
    by_cases q0 : fr = 0
    · rw [q0]; rfl
    · exact if_pos (by rw [← nI_0]; exact nI_lt (by omega) (by omega))) ?_
  refine lv_istore (lv' := [(4, .int (nI fr)), (3, .ref q), (0, .ref a), (1, .int (nI fr)), (2, .int (nI 200))]) hx hb d_Bytes_copyFrom_14 hl (by decide) rfl (fun ls hl => ?_)
  have lp : ∀ (fu : Nat) (i r1 : Nat) (f1 : Nat → Int32), os.length - i < fu → i ≤ os.length → zBs 200 (zCapN 200 64 0 i) f1 (os.take i) → ∀ (H : Heap) (locs : List Loc), va_P D classes [(q, .inr (0, [.int (nI 200), .ref r1, .int (nI (os.take i).length)])), (r1, .inl ((kA 0), (zCapN 200 64 0 i), .inl f1))] H → va_D A [(q, .inr (0, [.int (nI 200), .ref r1, .int (nI (os.take i).length)])), (r1, .inl ((kA 0), (zCapN 200 64 0 i), .inl f1))] → va_S A s.heap H locs → ∀ ls : Array Slot, lv_has ls 5 [(0, .ref a), (3, .ref q), (4, .int (nI (fr + i)))] → W p l e { frames := 3, cells := 2 + (zCapN 200 64 0 (bs.length - fr) - 64), slots := 67 + 3 * (zCapN 200 64 0 (bs.length - fr) - 64), locals := 83 } s m [.ref a, .int (nI fr), .int (nI 200)].toArray below meth c H locs (2 + (zCapN 200 64 0 i - 64)) (67 + 3 * (zCapN 200 64 0 i - 64)) (MQ below (zk_mQ (fun v H => ∃ q, v = some (.ref q) ∧ BsPost D kA A H q 200 (zCapN 200 64 0 (bs.length - fr)) os) A) [.ref a, .int (nI fr), .int (nI 200)].toArray s (2 + (zCapN 200 64 0 (bs.length - fr) - 64)) (67 + 3 * (zCapN 200 64 0 (bs.length - fr) - 64)) A) (F0 m 16 ls []) := by
    intro fu
    induction fu with
    | zero => intro i r1 f1 hn; exact absurd hn (Nat.not_lt_zero _)
    | succ fu ih =>
      intro i r1 f1 hn hi hb1 H locs hP hD hS ls hl
      refine lv_iload hx hb d_Bytes_copyFrom_16 (lv_at hl 2 rfl) ?_
      refine lv_aload_n hx hb d_Bytes_copyFrom_18 rfl (lv_at hl 0 rfl) ?_
      refine zk_get (C := R_Bytes) (T := F_Bytes) (N := 3) S hK (zk_ro hS hO1 hza) rfl i_Bytes 2 (by decide) m_Bytes_28 rfl rfl d_Bytes_copyFrom_19 ?_
      refine lv_icmp_ge (tgt := 41) hx hb d_Bytes_copyFrom_22 (by decide) (fun c22 => ?_) (fun c22 => ?_)
      · refine lv_aload_n hx hb d_Bytes_copyFrom_41 rfl (lv_at hl 1 rfl) ?_
        have hie : i = os.length := by
          have := (nI_leI (by omega) (by omega)).mp c22
          omega
        subst hie
        rw [List.take_length] at hP hD hb1
        rw [hol] at hP hD hb1
        have hl9 : bs.length - fr = os.length := hol.symm
        exact zk_aret S hr (Or.inl ⟨_, rfl⟩) hlk hS ⟨q, rfl, r1, f1, by unfold wB; rw [hol]; exact hP, by unfold wB; rw [hol]; exact hD, hb1⟩ (by rw [hol]; exact Nat.le_refl _) (by rw [hol]; exact Nat.le_refl _) d_Bytes_copyFrom_42
      · have hlt : i < os.length := Nat.not_le.mp fun q => c22 (nI_le (by omega) (by omega))
        refine lv_aload_n hx hb d_Bytes_copyFrom_25 rfl (lv_at hl 1 rfl) ?_
        refine lv_aload_n hx hb d_Bytes_copyFrom_26 rfl (lv_at hl 0 rfl) ?_
        refine lv_iload hx hb d_Bytes_copyFrom_27 (lv_at hl 2 rfl) ?_
        refine zk_pure (zk_runV (As := [.int (nI (fr + i))]) (rest := [.ref q]) S m_Bytes_31 (c_Bytes_at l D kA (fun q => ¬ A q) a lim bs (nI (fr + i))) rfl rfl ⟨Nat.le_of_ble_eq_true rfl, Nat.le_of_ble_eq_true rfl⟩ hK hX (zk_recv hK (zk_ro hS hO1 hza) rfl) (hO.ro hS) rfl hl.1 rfl (Nat.le_of_ble_eq_true rfl) ⟨by
          show _ + 0 ≤ 2 + (zCapN 200 64 0 (bs.length - fr) - 64)
          have := zCapN_upto (lim := 200) (n := 64) (sz := 0) (by decide) (by decide) (by decide) (bs.length - fr) i (by omega) (by omega)
          omega, by
          show _ + 0 ≤ 67 + 3 * (zCapN 200 64 0 (bs.length - fr) - 64)
          have := zCapN_upto (lim := 200) (n := 64) (sz := 0) (by decide) (by decide) (by decide) (bs.length - fr) i (by omega) (by omega)
          omega⟩ d_Bytes_copyFrom_29) ?_
        refine zk_ti (z := nI (os.getD i 0)) (by rw [hog]; exact bAt_nI (by omega) (by omega)) ?_
        have hm : zCap 200 (zCapN 200 64 0 i) (os.take i).length = zCapN 200 64 0 (i + 1) := by rw [List.length_take, Nat.min_eq_left (by omega)]; show _ = zCap 200 _ (0 + i); rw [Nat.zero_add]
        obtain ⟨y1, y2, y3⟩ := zCapN_ge (lim := 200) (n := 64) (sz := 0) (by decide) (by decide) i (by omega) (by decide) (by decide)
        have y4 : (zCapN 200 64 0 i) ≤ zCapN 200 64 0 (i + 1) := zCapN_mono y1
        have y5 : zCapN 200 64 0 (i + 1) ≤ zCapN 200 64 0 (bs.length - fr) := zCapN_upto (by decide) (by decide) (by decide) _ _ (by omega) (by omega)
        have hFc := va_free (wc := [(q, .inr (0, [.int (nI 200), .ref r1, .int (nI (os.take i).length)])), (r1, .inl ((kA 0), (zCapN 200 64 0 i), .inl f1))]) hD hS hA [0, 1] rfl
        refine zk_mut (zk_runV (As := [.int (nI (os.getD i 0))]) (rest := []) S m_Bytes_47 (c_Bytes_append l D kA q r1 200 (zCapN 200 64 0 i) f1 (os.take i) (nI (os.getD i 0)) H.size) rfl rfl ⟨Nat.le_of_ble_eq_true rfl, Nat.le_of_ble_eq_true rfl⟩ hK hX (zk_recv hK (hP 0 _ rfl) rfl) ⟨rfl, hP.sub (ws' := [(q, .inr (0, [.int (nI 200), .ref r1, .int (nI (os.take i).length)])), (r1, .inl ((kA 0), (zCapN 200 64 0 i), .inl f1))]) [0, 1] rfl, (hD.sub (ws' := [(q, .inr (0, [.int (nI 200), .ref r1, .int (nI (os.take i).length)])), (r1, .inl ((kA 0), (zCapN 200 64 0 i), .inl f1))]) [0, 1] (by decide) rfl).weaken (fun _ _ _ _ => trivial), hb1⟩ rfl hl.1 rfl (Nat.le_of_ble_eq_true rfl) ⟨by
          show _ + (_ - _) ≤ 2 + (zCapN 200 64 0 (bs.length - fr) - 64)
          rw [hm]; omega, by
          show _ + 3 * (_ - _) ≤ 67 + 3 * (zCapN 200 64 0 (bs.length - fr) - 64)
          rw [hm]; omega⟩ d_Bytes_copyFrom_32) hS hFc hFc (fun v H locs hpost hz1 hk1 hS => ?_)
        obtain ⟨rfl, r2, f2, hP1, hD1, hb2⟩ := hpost
        obtain ⟨hP, hD⟩ := va_join (wr := []) (w1 := [(q, .inr (0, [.int (nI 200), .ref r2, .int (nI (zApp 200 (os.take i) (zByte (nI (os.getD i 0)))).length)])), (r2, .inl ((kA 0), (zCap 200 (zCapN 200 64 0 i) (os.take i).length), .inl f2))]) hP hD [0, 1] [] rfl rfl (by decide) (by decide) hk1 hFc hP1 hD1
        refine W.eq (g2 := F0 m 35 ls []) rfl ?_
        have hP : va_P D classes [(q, .inr (0, [.int (nI 200), .ref r2, .int (nI (zApp 200 (os.take i) (zByte (nI (os.getD i 0)))).length)])), (r2, .inl ((kA 0), (zCap 200 (zCapN 200 64 0 i) (os.take i).length), .inl f2))] H := hP
        have hD : va_D A [(q, .inr (0, [.int (nI 200), .ref r2, .int (nI (zApp 200 (os.take i) (zByte (nI (os.getD i 0)))).length)])), (r2, .inl ((kA 0), (zCap 200 (zCapN 200 64 0 i) (os.take i).length), .inl f2))] := hD
        have hap : zApp 200 (os.take i) (zByte (nI (os.getD i 0))) = os.take (i + 1) := by rw [zByte_nI (by rw [hog]; exact (g5 _ (by omega)).1), zApp_lt (by rw [List.length_take]; omega), zgetD (by omega), List.take_succ_eq_append_getElem (by omega)]
        rw [hap, hm] at hP hD hb2
        have hP : va_P D classes [(q, .inr (0, [.int (nI 200), .ref r2, .int (nI (os.take (i + 1)).length)])), (r2, .inl ((kA 0), (zCapN 200 64 0 (i + 1)), .inl f2))] H := hP
        have hD : va_D A [(q, .inr (0, [.int (nI 200), .ref r2, .int (nI (os.take (i + 1)).length)])), (r2, .inl ((kA 0), (zCapN 200 64 0 (i + 1)), .inl f2))] := hD
        refine W.widen (k := (2 + (zCapN 200 64 0 (i + 1) - 64))) (n := (67 + 3 * (zCapN 200 64 0 (i + 1) - 64))) (by rw [hm]; omega) (by rw [hm]; omega) ?_
        refine lv_iinc (v := (nI (fr + (i + 1)))) (lv' := [(4, .int (nI (fr + (i + 1)))), (0, .ref a), (3, .ref q)]) hx hb d_Bytes_copyFrom_35 hl (k := 2) rfl (nI_1 _) (by decide) rfl (fun ls hl => ?_)
        refine lv_goto (tgt := 16) hx hb d_Bytes_copyFrom_38 (by decide) ?_
        exact ih (i + 1) r2 f2 (by omega) (by omega) hb2 _ _ (hP.sub [0, 1] rfl) (hD.sub [0, 1] (by decide) rfl) hS ls (lv_sub hl [1, 2, 0] rfl)
  refine W.widen (k := (2 + (zCapN 200 64 0 0 - 64))) (n := (67 + 3 * (zCapN 200 64 0 0 - 64))) (Nat.le_refl _) (Nat.le_refl _) ?_
  exact lp (os.length + 1) 0 r0 f0 (by omega) (Nat.zero_le _) hb0 _ _ (hP.sub [0, 1] rfl) (hD.sub [0, 1] (by decide) rfl) hS ls (lv_sub hl [2, 1, 0] rfl)
end
section
theorem zk_top {p : Program} {l : Launch} {e : Env} {R : Room} {s : State} {m : MethodId} {args : Array Value} {below : List Frame} {meth : Method} {c : Code} {H : Heap} {locs : List Loc} {cells slots : Nat} {Q : State → Prop} {pc : Nat} {ls : Array Slot} {rest : List Value} {v v' : Value} (h : v = v') (kk : W p l e R s m args below meth c H locs cells slots Q (F0 m pc ls (v' :: rest))) : W p l e R s m args below meth c H locs cells slots Q (F0 m pc ls (v :: rest)) := by
  rw [h]; exact kk
theorem BsAt.any {D : va_G} {kA : Nat → ClassId} {Z : Nat → Prop} {H : Heap} {a lim : Nat} {bs : List Nat} {tys : List (ClassId × FieldType)} {s : State} (h : BsAt D kA Z H a lim bs) (hK : va_K D classes tys s) : va_Any "PeerLine$Bytes" s H a := by
  obtain ⟨r, n, f, h1, h2, h3, -⟩ := h
  refine va_rAny (r := (R_Bytes, F_Bytes, 3)) hK (zk_P1 h3) (q0 := 0) rfl rfl (fun comp c0 e1 e2 => ?_)
  have e3 : comp = c0 := Option.some.inj (e1.symm.trans e2)
  rw [e3]
  exact va_asg _ _
/-- the answers that are to come: (time, the cell of the answer) -/
def CoRep (cq : List (Nat × Nat)) (f : Nat → Int64) (g : Nat → Option Nat) : Prop := ∀ i, i < cq.length → f i = lN (cq.getD i (0, 0)).1 ∧ g i = some (cq.getD i (0, 0)).2
def CoOk (D : va_G) (kA : Nat → ClassId) (Z : Nat → Prop) (H : Heap) (cq : List (Nat × Nat)) : Prop := ∀ i, i < cq.length → (cq.getD i (0, 0)).1 < 2 ^ 31 ∧ ∃ lim bs, BsAt D kA Z H (cq.getD i (0, 0)).2 lim bs
theorem CoOk.ro {D : va_G} {kA : Nat → ClassId} {A : Nat → Prop} {H0 H : Heap} {locs : List Loc} {cq : List (Nat × Nat)} (h : CoOk D kA (fun q => ¬ A q) H0 cq) (hS : va_S A H0 H locs) : CoOk D kA (fun q => ¬ A q) H cq := fun i hi => ⟨(h i hi).1, by
  obtain ⟨lim, bs, hb⟩ := (h i hi).2
  exact ⟨lim, bs, hb.ro hS⟩⟩
abbrev wC (kA : Nat → ClassId) (a tm an : Nat) (k : Nat) (f : Nat → Int64) (g : Nat → Option Nat) : va_W := [(a, .inr (1, [.ref tm, .ref an, .int (nI k)])), (tm, .inl (kA 1, 64, .inr (.inl f))), (an, .inl (kA 5, 64, .inr (.inr (.inr (.inr g)))))]
def CoPost (D : va_G) (kA : Nat → ClassId) (A : Nat → Prop) (H : Heap) (a tm an : Nat) (cq : List (Nat × Nat)) : Prop := ∃ (f : Nat → Int64) (g : Nat → Option Nat), va_P D classes (wC kA a tm an cq.length f g) H ∧ va_D A (wC kA a tm an cq.length f g) ∧ CoRep cq f g
theorem zIns_get {cq : List (Nat × Nat)} {x : Nat × Nat} {p i : Nat} (hp : p ≤ cq.length) : (cq.take p ++ x :: cq.drop p).getD i (0, 0) = if i < p then cq.getD i (0, 0) else if i = p then x else cq.getD (i - 1) (0, 0) := by
  have hl : (cq.take p).length = p := by rw [List.length_take]; omega
  by_cases h1 : i < p
  · rw [if_pos h1, List.getD_eq_getElem?_getD, List.getElem?_append_left (by omega), List.getElem?_take, if_pos h1, ← List.getD_eq_getElem?_getD]
  · rw [if_neg h1, List.getD_eq_getElem?_getD, List.getElem?_append_right (by omega), hl]
    by_cases h2 : i = p
    · rw [if_pos h2, h2, Nat.sub_self]; rfl
    · rw [if_neg h2]
      obtain ⟨k, hk⟩ : ∃ k, i - p = k + 1 := ⟨i - p - 1, by omega⟩
      rw [hk, List.getElem?_cons_succ, List.getElem?_drop, ← List.getD_eq_getElem?_getD, show p + k = i - 1 by omega]
theorem zIns_len {cq : List (Nat × Nat)} {x : Nat × Nat} {p : Nat} (hp : p ≤ cq.length) : (cq.take p ++ x :: cq.drop p).length = cq.length + 1 := by
  rw [List.length_append, List.length_take, List.length_cons, List.length_drop]; omega
theorem zk_newq {p : Program} {l : Launch} {e : Env} {R : Room} {s : State} {m : MethodId} {args : Array Value} {below : List Frame} {meth : Method} {c : Code} {H : Heap} {locs : List Loc} {cells slots : Nat} {Q : State → Prop} {cc : ByteArray} {pc nL idx : Nat} {own C : String} {ls : Array Slot} {rest : List Value} {D : va_G} {cl : List vw_C} {A : Nat → Prop} {tys : List (ClassId × FieldType)} {ws : va_W} {H0 : Heap} (S : CallFix p m c cc nL s args zTB own) (hm : Cond.classLink own idx C ∈ zTB) (hover : va_AO C s) (hK : va_K D cl tys s) (t0 : Nat) {cA : ClassId} (ht0 : tys[t0]? = some (cA, .object C)) (hP : va_P D cl ws H) (hD : va_D A ws) (hS : va_S A H0 H locs) (hA : ∀ q, H0.size ≤ q → A q)
    {n : Int32} {N' : Nat} (hn : ¬ n < 0) (hN : n.toNatClampNeg = N') (hbytes : N' * 4 ≤ 536870912) (hcells : cells + 1 ≤ R.cells) (hslots : slots + N' ≤ R.slots) (hdg : decode cc pc = .ok (.anewarray idx, 3))
    (kk : ∀ (q : Nat) (H1 : Heap), va_P D cl (ws ++ [(q, .inl (cA, N', .inr (.inr (.inr (.inr (fun _ => none))))))]) H1 → va_D A (ws ++ [(q, .inl (cA, N', .inr (.inr (.inr (.inr (fun _ => none))))))]) → va_S A H0 H1 locs → W p l e R s m args below meth c H1 locs (cells + 1) (slots + N') Q (F0 m (pc + 3) ls (.ref q :: rest))) : W p l e R s m args below meth c H locs cells slots Q (F0 m pc ls (.int n :: rest)) := by
  refine va_newq S.1 S.2.1 S.2.2.2.1 (S.2.2.2.2 _ hm) hover hK hP hD hS hA hn hN hbytes hcells hslots hdg (fun q cA1 H1 hK1 hP1 hD1 hS1 => ?_)
  obtain ⟨k1, c1, a1, a2, a3, a4⟩ := (hK1.2 tys.length (cA1, .object C) (by simp)).2
  obtain ⟨k2, c2, b1, b2, b3, b4⟩ := (hK.2 t0 _ ht0).2
  have e3 : cA1 = cA := Option.some.inj (a4.symm.trans b4)
  subst e3
  exact kk q H1 hP1 hD1 hS1
end
section
set_option maxHeartbeats 4000000 in
set_option maxRecDepth 100000 in
/-- Coming.size() -/
theorem c_Coming_size (l : Launch) (D : va_G) (kA : Nat → ClassId) (a tm an k : Nat) : Met l y_Coming_size (Cond.code y_Coming_size b_Coming_size 1 (some .int) :: zTB) { frames := 0, cells := 0, slots := 0, locals := 0 } (zk_Pc D classes (zTY kA) [.ref a] (fun H => va_at D classes (a, .inr (1, [.ref tm, .ref an, .int (nI k)])) H)) (zk_pQ (some (Value.int (nI k)))) 0 0 zk_no := by
  refine zk_of [.ref a] (by decide) (Nat.le_of_ble_eq_true rfl) ?_
  intro p e s m below meth c S hr hlk hnm hK hX hpre ls hl
  obtain ⟨hx, hb, hml, hown, ht⟩ := id S
  have hl : lv_has ls 1 [(0, .ref a)] := hl
  refine lv_aload_n hx hb d_Coming_size_0 rfl (lv_at hl 0 rfl) ?_
  refine zk_get (C := R_Coming) (T := F_Coming) (N := 3) S hK hpre rfl i_Coming 2 (by decide) m_Coming_21 rfl rfl d_Coming_size_1 ?_
  exact zk_reti S hr hlk d_Coming_size_4

set_option maxHeartbeats 4000000 in
set_option maxRecDepth 100000 in
/-- Coming.first() -/
theorem c_Coming_first (l : Launch) (D : va_G) (kA : Nat → ClassId) (a tm an k : Nat) (g : Nat → Option Nat) (hk : k < 2 ^ 31) : Met l y_Coming_first (Cond.code y_Coming_first b_Coming_first 1 (some (.object "PeerLine$Bytes")) :: zTB) { frames := 0, cells := 0, slots := 0, locals := 0 } (zk_Pc D classes (zTY kA) [.ref a] (fun H => va_at D classes (a, .inr (1, [.ref tm, .ref an, .int (nI k)])) H ∧ va_at D classes (an, .inl (kA 5, 64, .inr (.inr (.inr (.inr g))))) H)) (zk_pQ (some (if 0 < k then va_rf (g 0) else Value.null))) 0 0 zk_no := by
  refine zk_of [.ref a] (by decide) (Nat.le_of_ble_eq_true rfl) ?_
  intro p e s m below meth c S hr hlk hnm hK hX hpre ls hl
  obtain ⟨hx, hb, hml, hown, ht⟩ := id S
  obtain ⟨hP1, hP2⟩ := hpre
  have hl : lv_has ls 1 [(0, .ref a)] := hl
  refine lv_aload_n hx hb d_Coming_first_0 rfl (lv_at hl 0 rfl) ?_
  refine zk_get (C := R_Coming) (T := F_Coming) (N := 3) S hK hP1 rfl i_Coming 2 (by decide) m_Coming_21 rfl rfl d_Coming_first_1 ?_
  refine lv_if_le (tgt := 16) hx hb d_Coming_first_4 (by decide) (fun c4 => ?_) (fun c4 => ?_)
  · refine lv_null hx hb d_Coming_first_16 ?_
    refine zk_top (v' := if 0 < k then va_rf (g 0) else Value.null) (if_neg (fun hh => absurd c4 (nI_nle hh hk))).symm ?_
    exact zk_reta S hr ⟨_, rfl⟩ (by
      by_cases q : 0 < k
      · rw [if_pos q]
        cases g 0 with
        | none => exact Or.inl rfl
        | some z => exact Or.inr ⟨z, rfl⟩
      · rw [if_neg q]; exact Or.inl rfl) hlk d_Coming_first_17
  · refine lv_aload_n hx hb d_Coming_first_7 rfl (lv_at hl 0 rfl) ?_
    refine zk_get (C := R_Coming) (T := F_Coming) (N := 3) S hK hP1 rfl i_Coming 1 (by decide) m_Coming_17 rfl rfl d_Coming_first_8 ?_
    refine lv_iconst (v := 0) hx hb d_Coming_first_11 (by decide) ?_
    refine zk_aald S hK 5 hP2 rfl (by unfold vp_in; decide) d_Coming_first_12 ?_
    refine zk_top (v' := va_rf (g 0)) (rfl) ?_
    refine lv_goto (tgt := 17) hx hb d_Coming_first_13 (by decide) ?_
    refine zk_top (v' := if 0 < k then va_rf (g 0) else Value.null) (if_pos (by
      by_cases q : k = 0
      · exact absurd (by rw [q]; decide) c4
      · omega)).symm ?_
    exact zk_reta S hr ⟨_, rfl⟩ (by
      by_cases q : 0 < k
      · rw [if_pos q]
        cases g 0 with
        | none => exact Or.inl rfl
        | some z => exact Or.inr ⟨z, rfl⟩
      · rw [if_neg q]; exact Or.inl rfl) hlk d_Coming_first_17

set_option maxHeartbeats 4000000 in
set_option maxRecDepth 100000 in
/-- Coming.firstTime() -/
theorem c_Coming_firstTime (l : Launch) (D : va_G) (kA : Nat → ClassId) (a tm an k : Nat) (f : Nat → Int64) (hk : k < 2 ^ 31) : Met l y_Coming_firstTime (Cond.code y_Coming_firstTime b_Coming_firstTime 1 (some .long) :: zTB) { frames := 0, cells := 0, slots := 0, locals := 0 } (zk_Pc D classes (zTY kA) [.ref a] (fun H => va_at D classes (a, .inr (1, [.ref tm, .ref an, .int (nI k)])) H ∧ va_at D classes (tm, .inl (kA 1, 64, .inr (.inl f))) H)) (zk_pQ (some (Value.long (if 0 < k then f 0 else 0)))) 0 0 zk_no := by
  refine zk_of [.ref a] (by decide) (Nat.le_of_ble_eq_true rfl) ?_
  intro p e s m below meth c S hr hlk hnm hK hX hpre ls hl
  obtain ⟨hx, hb, hml, hown, ht⟩ := id S
  obtain ⟨hP1, hP2⟩ := hpre
  have hl : lv_has ls 1 [(0, .ref a)] := hl
  refine lv_aload_n hx hb d_Coming_firstTime_0 rfl (lv_at hl 0 rfl) ?_
  refine zk_get (C := R_Coming) (T := F_Coming) (N := 3) S hK hP1 rfl i_Coming 2 (by decide) m_Coming_21 rfl rfl d_Coming_firstTime_1 ?_
  refine lv_if_le (tgt := 16) hx hb d_Coming_firstTime_4 (by decide) (fun c4 => ?_) (fun c4 => ?_)
  · refine lv_lconst (v := 0) hx hb d_Coming_firstTime_16 (by decide) ?_
    refine zk_tl (z := if 0 < k then f 0 else 0) (if_neg (fun hh => absurd c4 (nI_nle hh hk))).symm ?_
    exact zk_retl S hr hlk d_Coming_firstTime_17
  · refine lv_aload_n hx hb d_Coming_firstTime_7 rfl (lv_at hl 0 rfl) ?_
    refine zk_get (C := R_Coming) (T := F_Coming) (N := 3) S hK hP1 rfl i_Coming 0 (by decide) m_Coming_9 rfl rfl d_Coming_firstTime_8 ?_
    refine lv_iconst (v := 0) hx hb d_Coming_firstTime_11 (by decide) ?_
    refine zk_lald S hK 1 hP2 rfl (by unfold vp_in; decide) d_Coming_firstTime_12 ?_
    refine lv_goto (tgt := 17) hx hb d_Coming_firstTime_13 (by decide) ?_
    refine zk_tl (z := if 0 < k then f 0 else 0) (if_pos (by
      by_cases q : k = 0
      · exact absurd (by rw [q]; decide) c4
      · omega)).symm ?_
    exact zk_retl S hr hlk d_Coming_firstTime_17

set_option maxHeartbeats 4000000 in
set_option maxRecDepth 100000 in
/-- Coming() -/
theorem c_Coming_init (l : Launch) (D : va_G) (kA : Nat → ClassId) (a : Nat) (sz0 : Nat) : Met l y_Coming_init (Cond.code y_Coming_init b_Coming_init 1 none :: zTB) { frames := 1, cells := 2, slots := 128, locals := 12 } (zk_Pc D classes (zTY kA) [.ref a] (fun H => H.size = sz0 ∧ va_P D classes [(a, .inr (1, [.null, .null, .int 0]))] H ∧ va_D (fun _ => True) [(a, .inr (1, [.null, .null, .int 0]))])) (zk_mQ (fun v H => v = none ∧ ∃ tm an, CoPost D kA (va_A [(a, .inr (1, [.null, .null, .int 0]))] sz0) H a tm an []) (va_A [(a, .inr (1, [.null, .null, .int 0]))] sz0)) 2 128 (va_A [(a, .inr (1, [.null, .null, .int 0]))] sz0) := by
  refine zk_of [.ref a] (by decide) (Nat.le_of_ble_eq_true rfl) ?_
  intro p e s m below meth c S hr hlk hnm hK hX hpre ls hl
  obtain ⟨hx, hb, hml, hown, ht⟩ := id S
  have hl : lv_has ls 1 [(0, .ref a)] := hl
  obtain ⟨hsz, hP, hD0⟩ := hpre
  subst hsz
  have hD := hD0.self (sz := s.heap.size)
  generalize hAe : va_A [(a, .inr (1, [.null, .null, .int 0]))] s.heap.size = A at hD ⊢
  have hA : ∀ q : Nat, s.heap.size ≤ q → A q := fun q h => by rw [← hAe]; exact Or.inr h
  have hS : va_S A s.heap s.heap [] := va_S.rf
  have hP : va_P D classes [(a, .inr (1, [.null, .null, .int 0]))] s.heap := hP
  refine lv_aload_n hx hb d_Coming_init_0 rfl (lv_at hl 0 rfl) ?_
  refine W.objInit hx hb hown (ht _ m_Coming_3) (ht _ m_obj_i) (ht _ m_obj_c) rfl (by rw [hml]; exact hl.1) rfl d_Coming_init_1 (Nat.le_of_ble_eq_true rfl) (Nat.le_of_ble_eq_true rfl) ?_
  refine W.eq (g2 := F0 m 4 ls []) rfl ?_
  refine lv_aload_n hx hb d_Coming_init_4 rfl (lv_at hl 0 rfl) ?_
  refine lv_bipush (v := 64) hx hb d_Coming_init_5 (by decide) ?_
  refine zk_newa (a0 := (64, .inr (.inl (fun _ => 0)))) (N' := 64) S m_arr_long rfl (fun _ h => by cases h) hK 1 rfl hP hD hS hA (fun _ => rfl) (by decide) (rfl) (by show 64 * 8 ≤ 536870912; omega) (Nat.le_of_ble_eq_true rfl) (Nat.le_of_ble_eq_true rfl) d_Coming_init_7 (fun tm H hP hD hS => ?_)
  have hP : va_P D classes [(a, .inr (1, [.null, .null, .int 0])), (tm, .inl ((kA 1), 64, .inr (.inl (fun _ => 0))))] H := hP
  have hD : va_D A [(a, .inr (1, [.null, .null, .int 0])), (tm, .inl ((kA 1), 64, .inr (.inl (fun _ => 0))))] := hD
  refine va_putF (D := D) (ci := 1) (v := .ref tm) (ty := (.array .long)) (C := R_Coming) (T := F_Coming) (N := 3) hx hb ht i_Coming t_Coming t_Coming_ok n_Coming hown hK hP hD hS 0 rfl rfl 0 (by decide) (ht _ m_Coming_9) (fun _ h9 => h9) rfl hnm rfl (by decide +kernel) rfl rfl (Nat.le_of_ble_eq_true rfl) d_Coming_init_9 (fun H locs hP hD hS => ?_)
  have hP : va_P D classes [(a, .inr (1, [.ref tm, .null, .int 0])), (tm, .inl ((kA 1), 64, .inr (.inl (fun _ => 0))))] H := hP
  have hD : va_D A [(a, .inr (1, [.ref tm, .null, .int 0])), (tm, .inl ((kA 1), 64, .inr (.inl (fun _ => 0))))] := hD
  refine lv_aload_n hx hb d_Coming_init_12 rfl (lv_at hl 0 rfl) ?_
  refine lv_bipush (v := 64) hx hb d_Coming_init_13 (by decide) ?_
  refine zk_newq (N' := 64) S m_Coming_15 (hX.2.2) hK 5 rfl hP hD hS hA (by decide) (rfl) (by decide) (Nat.le_of_ble_eq_true rfl) (Nat.le_of_ble_eq_true rfl) d_Coming_init_15 (fun an H hP hD hS => ?_)
  have hP : va_P D classes [(a, .inr (1, [.ref tm, .null, .int 0])), (tm, .inl ((kA 1), 64, .inr (.inl (fun _ => 0)))), (an, .inl ((kA 5), 64, .inr (.inr (.inr (.inr (fun _ => none))))))] H := hP
  have hD : va_D A [(a, .inr (1, [.ref tm, .null, .int 0])), (tm, .inl ((kA 1), 64, .inr (.inl (fun _ => 0)))), (an, .inl ((kA 5), 64, .inr (.inr (.inr (.inr (fun _ => none))))))] := hD
  refine va_putF (D := D) (ci := 1) (v := .ref an) (ty := (.array (.object "PeerLine$Bytes"))) (C := R_Coming) (T := F_Coming) (N := 3) hx hb ht i_Coming t_Coming t_Coming_ok n_Coming hown hK hP hD hS 0 rfl rfl 1 (by decide) (ht _ m_Coming_17) (fun _ h9 => h9) rfl hnm rfl (by decide +kernel) rfl rfl (Nat.le_of_ble_eq_true rfl) d_Coming_init_18 (fun H locs hP hD hS => ?_)
  have hP : va_P D classes [(a, .inr (1, [.ref tm, .ref an, .int 0])), (tm, .inl ((kA 1), 64, .inr (.inl (fun _ => 0)))), (an, .inl ((kA 5), 64, .inr (.inr (.inr (.inr (fun _ => none))))))] H := hP
  have hD : va_D A [(a, .inr (1, [.ref tm, .ref an, .int 0])), (tm, .inl ((kA 1), 64, .inr (.inl (fun _ => 0)))), (an, .inl ((kA 5), 64, .inr (.inr (.inr (.inr (fun _ => none))))))] := hD
  refine lv_aload_n hx hb d_Coming_init_21 rfl (lv_at hl 0 rfl) ?_
  refine lv_iconst (v := 0) hx hb d_Coming_init_22 (by decide) ?_
  refine va_put (D := D) (ci := 1) (v := .int 0) (ty := .int) (C := R_Coming) (T := F_Coming) (N := 3) hx hb ht i_Coming t_Coming t_Coming_ok n_Coming hown hK hP hD hS 0 rfl rfl 2 (by decide) (ht _ m_Coming_21) (fun _ h9 => h9) rfl (by decide +kernel) rfl rfl (Nat.le_of_ble_eq_true rfl) d_Coming_init_23 (fun H locs hP hD hS => ?_)
  have hP : va_P D classes [(a, .inr (1, [.ref tm, .ref an, .int 0])), (tm, .inl ((kA 1), 64, .inr (.inl (fun _ => 0)))), (an, .inl ((kA 5), 64, .inr (.inr (.inr (.inr (fun _ => none))))))] H := hP
  have hD : va_D A [(a, .inr (1, [.ref tm, .ref an, .int 0])), (tm, .inl ((kA 1), 64, .inr (.inl (fun _ => 0)))), (an, .inl ((kA 5), 64, .inr (.inr (.inr (.inr (fun _ => none))))))] := hD
  exact zk_vret S hr hlk hS ⟨rfl, tm, an, _, _, hP, hD, fun i hi => absurd hi (Nat.not_lt_zero i)⟩ (Nat.le_refl _) (Nat.le_refl _) d_Coming_init_26

set_option maxHeartbeats 4000000 in
set_option maxRecDepth 100000 in
/-- Coming.clear() -/
theorem c_Coming_clear (l : Launch) (D : va_G) (kA : Nat → ClassId) (a tm an : Nat) (f : Nat → Int64) (g : Nat → Option Nat) (cq : List (Nat × Nat)) (sz0 : Nat) : Met l y_Coming_clear (Cond.code y_Coming_clear b_Coming_clear 1 none :: zTB) { frames := 0, cells := 0, slots := 0, locals := 0 } (zk_Pc D classes (zTY kA) [.ref a] (fun H => H.size = sz0 ∧ va_P D classes [(a, .inr (1, [.ref tm, .ref an, .int (nI cq.length)])), (tm, .inl ((kA 1), 64, .inr (.inl f))), (an, .inl ((kA 5), 64, .inr (.inr (.inr (.inr g)))))] H ∧ va_D (fun _ => True) [(a, .inr (1, [.ref tm, .ref an, .int (nI cq.length)])), (tm, .inl ((kA 1), 64, .inr (.inl f))), (an, .inl ((kA 5), 64, .inr (.inr (.inr (.inr g)))))])) (zk_mQ (fun v H => v = none ∧ CoPost D kA (va_A [(a, .inr (1, [.ref tm, .ref an, .int (nI cq.length)])), (tm, .inl ((kA 1), 64, .inr (.inl f))), (an, .inl ((kA 5), 64, .inr (.inr (.inr (.inr g)))))] sz0) H a tm an []) (va_A [(a, .inr (1, [.ref tm, .ref an, .int (nI cq.length)])), (tm, .inl ((kA 1), 64, .inr (.inl f))), (an, .inl ((kA 5), 64, .inr (.inr (.inr (.inr g)))))] sz0)) 0 0 (va_A [(a, .inr (1, [.ref tm, .ref an, .int (nI cq.length)])), (tm, .inl ((kA 1), 64, .inr (.inl f))), (an, .inl ((kA 5), 64, .inr (.inr (.inr (.inr g)))))] sz0) := by
  refine zk_of [.ref a] (by decide) (Nat.le_of_ble_eq_true rfl) ?_
  intro p e s m below meth c S hr hlk hnm hK hX hpre ls hl
  obtain ⟨hx, hb, hml, hown, ht⟩ := id S
  have hl : lv_has ls 1 [(0, .ref a)] := hl
  obtain ⟨hsz, hP, hD0⟩ := hpre
  subst hsz
  have hD := hD0.self (sz := s.heap.size)
  generalize hAe : va_A [(a, .inr (1, [.ref tm, .ref an, .int (nI cq.length)])), (tm, .inl ((kA 1), 64, .inr (.inl f))), (an, .inl ((kA 5), 64, .inr (.inr (.inr (.inr g)))))] s.heap.size = A at hD ⊢
  have hA : ∀ q : Nat, s.heap.size ≤ q → A q := fun q h => by rw [← hAe]; exact Or.inr h
  have hS : va_S A s.heap s.heap [] := va_S.rf
  have hP : va_P D classes [(a, .inr (1, [.ref tm, .ref an, .int (nI cq.length)])), (tm, .inl ((kA 1), 64, .inr (.inl f))), (an, .inl ((kA 5), 64, .inr (.inr (.inr (.inr g)))))] s.heap := hP
  refine lv_aload_n hx hb d_Coming_clear_0 rfl (lv_at hl 0 rfl) ?_
  refine lv_iconst (v := 0) hx hb d_Coming_clear_1 (by decide) ?_
  refine va_put (D := D) (ci := 1) (v := .int 0) (ty := .int) (C := R_Coming) (T := F_Coming) (N := 3) hx hb ht i_Coming t_Coming t_Coming_ok n_Coming hown hK hP hD hS 0 rfl rfl 2 (by decide) (ht _ m_Coming_21) (fun _ h9 => h9) rfl (by decide +kernel) rfl rfl (Nat.le_of_ble_eq_true rfl) d_Coming_clear_2 (fun H locs hP hD hS => ?_)
  have hP : va_P D classes [(a, .inr (1, [.ref tm, .ref an, .int 0])), (tm, .inl ((kA 1), 64, .inr (.inl f))), (an, .inl ((kA 5), 64, .inr (.inr (.inr (.inr g)))))] H := hP
  have hD : va_D A [(a, .inr (1, [.ref tm, .ref an, .int 0])), (tm, .inl ((kA 1), 64, .inr (.inl f))), (an, .inl ((kA 5), 64, .inr (.inr (.inr (.inr g)))))] := hD
  exact zk_vret S hr hlk hS ⟨rfl, f, g, hP, hD, fun i hi => absurd hi (Nat.not_lt_zero i)⟩ (Nat.le_refl _) (Nat.le_refl _) d_Coming_clear_5
end
section
set_option maxHeartbeats 4000000 in
set_option maxRecDepth 100000 in
/-- Coming.add(when, answer) -/
theorem c_Coming_add (l : Launch) (D : va_G) (kA : Nat → ClassId) (a tm an : Nat) (f : Nat → Int64) (g : Nat → Option Nat) (cq : List (Nat × Nat)) (t b lb : Nat) (bb : List Nat) (htt : t < 2 ^ 31) (hl64 : cq.length ≤ 64) (sz0 : Nat) : Met l y_Coming_add (Cond.code y_Coming_add b_Coming_add 5 none :: zTB) { frames := 0, cells := 0, slots := 0, locals := 0 } (zk_Pc D classes (zTY kA) [.ref a, .long (lN t), .ref b] (fun H => H.size = sz0 ∧ va_P D classes [(a, .inr (1, [.ref tm, .ref an, .int (nI cq.length)])), (tm, .inl ((kA 1), 64, .inr (.inl f))), (an, .inl ((kA 5), 64, .inr (.inr (.inr (.inr g)))))] H ∧ va_D (fun _ => True) [(a, .inr (1, [.ref tm, .ref an, .int (nI cq.length)])), (tm, .inl ((kA 1), 64, .inr (.inl f))), (an, .inl ((kA 5), 64, .inr (.inr (.inr (.inr g)))))] ∧ CoRep cq f g ∧ CoOk D kA (fun q => ¬ (va_A [(a, .inr (1, [.ref tm, .ref an, .int (nI cq.length)])), (tm, .inl ((kA 1), 64, .inr (.inl f))), (an, .inl ((kA 5), 64, .inr (.inr (.inr (.inr g)))))] sz0) q) H cq ∧ BsAt D kA (fun q => ¬ (va_A [(a, .inr (1, [.ref tm, .ref an, .int (nI cq.length)])), (tm, .inl ((kA 1), 64, .inr (.inl f))), (an, .inl ((kA 5), 64, .inr (.inr (.inr (.inr g)))))] sz0) q) H b lb bb)) (zk_mQ (fun v H => v = none ∧ ((64 ≤ cq.length ∧ CoPost D kA (va_A [(a, .inr (1, [.ref tm, .ref an, .int (nI cq.length)])), (tm, .inl ((kA 1), 64, .inr (.inl f))), (an, .inl ((kA 5), 64, .inr (.inr (.inr (.inr g)))))] sz0) H a tm an cq) ∨ (cq.length < 64 ∧ ∃ p, p ≤ cq.length ∧ (∀ j, p ≤ j → j < cq.length → t < (cq.getD j (0, 0)).1) ∧ (p = 0 ∨ (cq.getD (p - 1) (0, 0)).1 ≤ t) ∧ CoPost D kA (va_A [(a, .inr (1, [.ref tm, .ref an, .int (nI cq.length)])), (tm, .inl ((kA 1), 64, .inr (.inl f))), (an, .inl ((kA 5), 64, .inr (.inr (.inr (.inr g)))))] sz0) H a tm an (cq.take p ++ (t, b) :: cq.drop p)))) (va_A [(a, .inr (1, [.ref tm, .ref an, .int (nI cq.length)])), (tm, .inl ((kA 1), 64, .inr (.inl f))), (an, .inl ((kA 5), 64, .inr (.inr (.inr (.inr g)))))] sz0)) 0 0 (va_A [(a, .inr (1, [.ref tm, .ref an, .int (nI cq.length)])), (tm, .inl ((kA 1), 64, .inr (.inl f))), (an, .inl ((kA 5), 64, .inr (.inr (.inr (.inr g)))))] sz0) := by
  refine zk_of [.ref a, .long (lN t), .ref b] (by decide) (Nat.le_of_ble_eq_true rfl) ?_
  intro p e s m below meth c S hr hlk hnm hK hX hpre ls hl
  obtain ⟨hx, hb, hml, hown, ht⟩ := id S
  have hl : lv_has ls 5 [(0, .ref a), (1, .long (lN t)), (3, .ref b)] := hl
  obtain ⟨hsz, hP, hD0, hrep, hok, hB⟩ := hpre
  subst hsz
  have hD := hD0.self (sz := s.heap.size)
  generalize hAe : va_A [(a, .inr (1, [.ref tm, .ref an, .int (nI cq.length)])), (tm, .inl ((kA 1), 64, .inr (.inl f))), (an, .inl ((kA 5), 64, .inr (.inr (.inr (.inr g)))))] s.heap.size = A at hD hok hB ⊢
  have hA : ∀ q : Nat, s.heap.size ≤ q → A q := fun q h => by rw [← hAe]; exact Or.inr h
  have hS : va_S A s.heap s.heap [] := va_S.rf
  have hP : va_P D classes [(a, .inr (1, [.ref tm, .ref an, .int (nI cq.length)])), (tm, .inl ((kA 1), 64, .inr (.inl f))), (an, .inl ((kA 5), 64, .inr (.inr (.inr (.inr g)))))] s.heap := hP
  refine lv_aload_n hx hb d_Coming_add_0 rfl (lv_at hl 0 rfl) ?_
  refine zk_get (C := R_Coming) (T := F_Coming) (N := 3) S hK (hP 0 _ rfl) rfl i_Coming 2 (by decide) m_Coming_21 rfl rfl d_Coming_add_1 ?_
  refine lv_bipush (v := 64) hx hb d_Coming_add_4 (by decide) ?_
  refine lv_icmp_lt (tgt := 10) hx hb d_Coming_add_6 (by decide) (fun c6 => ?_) (fun c6 => ?_)
  · have hlt : cq.length < 64 := (nI_ltI (by omega) (by omega)).mp (show nI cq.length < nI 64 from c6)
    refine lv_aload_n hx hb d_Coming_add_10 rfl (lv_at hl 0 rfl) ?_
    refine zk_get (C := R_Coming) (T := F_Coming) (N := 3) S hK (hP 0 _ rfl) rfl i_Coming 2 (by decide) m_Coming_21 rfl rfl d_Coming_add_11 ?_
    refine lv_istore (lv' := [(4, .int (nI cq.length)), (0, .ref a), (1, .long (lN t)), (3, .ref b)]) hx hb d_Coming_add_14 hl (by decide) rfl (fun ls hl => ?_)
    have lp : ∀ (fu : Nat) (q : Nat) (f1 : Nat → Int64) (g1 : Nat → Option Nat), q < fu → q ≤ cq.length → (∀ j, j < q → f1 j = f j ∧ g1 j = g j) → (∀ j, q < j → j ≤ cq.length → f1 j = f (j - 1) ∧ g1 j = g (j - 1)) → (∀ j, q ≤ j → j < cq.length → t < (cq.getD j (0, 0)).1) → ∀ (H : Heap) (locs : List Loc), va_P D classes [(a, .inr (1, [.ref tm, .ref an, .int (nI cq.length)])), (tm, .inl ((kA 1), 64, .inr (.inl f1))), (an, .inl ((kA 5), 64, .inr (.inr (.inr (.inr g1)))))] H → va_D A [(a, .inr (1, [.ref tm, .ref an, .int (nI cq.length)])), (tm, .inl ((kA 1), 64, .inr (.inl f1))), (an, .inl ((kA 5), 64, .inr (.inr (.inr (.inr g1)))))] → va_S A s.heap H locs → ∀ ls : Array Slot, lv_has ls 5 [(0, .ref a), (1, .long (lN t)), (3, .ref b), (4, .int (nI q))] → W p l e { frames := 0, cells := 0, slots := 0, locals := 0 } s m [.ref a, .long (lN t), .ref b].toArray below meth c H locs 0 0 (MQ below (zk_mQ (fun v H => v = none ∧ ((64 ≤ cq.length ∧ CoPost D kA A H a tm an cq) ∨ (cq.length < 64 ∧ ∃ p, p ≤ cq.length ∧ (∀ j, p ≤ j → j < cq.length → t < (cq.getD j (0, 0)).1) ∧ (p = 0 ∨ (cq.getD (p - 1) (0, 0)).1 ≤ t) ∧ CoPost D kA A H a tm an (cq.take p ++ (t, b) :: cq.drop p)))) A) [.ref a, .long (lN t), .ref b].toArray s 0 0 A) (F0 m 16 ls []) := by
      intro fu
      induction fu with
      | zero => intro q f1 g1 hn; exact absurd hn (Nat.not_lt_zero _)
      | succ fu ih =>
        intro q f1 g1 hn hp hlo hhi hgt H locs hP hD hS ls hl
        refine lv_iload hx hb d_Coming_add_16 (lv_at hl 3 rfl) ?_
        refine lv_if_le (tgt := 73) hx hb d_Coming_add_18 (by decide) (fun c18 => ?_) (fun c18 => ?_)
        · have q0 : q = 0 := by
            by_cases z : q = 0
            · exact z
            · exact absurd c18 (nI_nle (by omega) (by omega))
          refine lv_aload_n hx hb d_Coming_add_73 rfl (lv_at hl 0 rfl) ?_
          refine zk_get (C := R_Coming) (T := F_Coming) (N := 3) S hK (hP 0 _ rfl) rfl i_Coming 0 (by decide) m_Coming_9 rfl rfl d_Coming_add_74 ?_
          refine lv_iload hx hb d_Coming_add_77 (lv_at hl 3 rfl) ?_
          refine lv_lload_n hx hb d_Coming_add_79 rfl (lv_at hl 1 rfl) ?_
          refine va_last hx hb hK hP hD hS 1 1 rfl rfl (vp_in_nI (by omega) (by omega)) d_Coming_add_80 (fun H locs hP hD hS => ?_)
          rw [nI_clamp (by omega)] at hP hD
          have hP : va_P D classes [(a, .inr (1, [.ref tm, .ref an, .int (nI cq.length)])), (tm, .inl ((kA 1), 64, .inr (.inl (vp_updL f1 q (lN t))))), (an, .inl ((kA 5), 64, .inr (.inr (.inr (.inr g1)))))] H := hP
          have hD : va_D A [(a, .inr (1, [.ref tm, .ref an, .int (nI cq.length)])), (tm, .inl ((kA 1), 64, .inr (.inl (vp_updL f1 q (lN t))))), (an, .inl ((kA 5), 64, .inr (.inr (.inr (.inr g1)))))] := hD
          refine lv_aload_n hx hb d_Coming_add_81 rfl (lv_at hl 0 rfl) ?_
          refine zk_get (C := R_Coming) (T := F_Coming) (N := 3) S hK (hP 0 _ rfl) rfl i_Coming 1 (by decide) m_Coming_17 rfl rfl d_Coming_add_82 ?_
          refine lv_iload hx hb d_Coming_add_85 (lv_at hl 3 rfl) ?_
          refine lv_aload_n hx hb d_Coming_add_87 rfl (lv_at hl 2 rfl) ?_
          refine va_astqM hx hb hK hP hD hS 2 5 rfl rfl ((hB.ro hS).any hK) (vp_in_nI (by omega) (by omega)) d_Coming_add_88 (fun H locs hP hD hS => ?_)
          rw [nI_clamp (by omega)] at hP hD
          have hP : va_P D classes [(a, .inr (1, [.ref tm, .ref an, .int (nI cq.length)])), (tm, .inl ((kA 1), 64, .inr (.inl (vp_updL f1 q (lN t))))), (an, .inl ((kA 5), 64, .inr (.inr (.inr (.inr (va_up g1 q (some b)))))))] H := hP
          have hD : va_D A [(a, .inr (1, [.ref tm, .ref an, .int (nI cq.length)])), (tm, .inl ((kA 1), 64, .inr (.inl (vp_updL f1 q (lN t))))), (an, .inl ((kA 5), 64, .inr (.inr (.inr (.inr (va_up g1 q (some b)))))))] := hD
          refine lv_aload_n hx hb d_Coming_add_89 rfl (lv_at hl 0 rfl) ?_
          refine lv_dup hx hb d_Coming_add_90 rfl ?_
          refine zk_get (C := R_Coming) (T := F_Coming) (N := 3) S hK (hP 0 _ rfl) rfl i_Coming 2 (by decide) m_Coming_21 rfl rfl d_Coming_add_91 ?_
          refine lv_iconst (v := 1) hx hb d_Coming_add_94 (by decide) ?_
          refine lv_iadd hx hb d_Coming_add_95 ?_
          refine zk_ti (z := nI (cq.length + 1)) (nI_1 _) ?_
          refine va_put (D := D) (ci := 1) (v := .int (nI (cq.length + 1))) (ty := .int) (C := R_Coming) (T := F_Coming) (N := 3) hx hb ht i_Coming t_Coming t_Coming_ok n_Coming hown hK hP hD hS 0 rfl rfl 2 (by decide) (ht _ m_Coming_21) (fun _ h9 => h9) rfl (by decide +kernel) rfl rfl (Nat.le_of_ble_eq_true rfl) d_Coming_add_96 (fun H locs hP hD hS => ?_)
          have hP : va_P D classes [(a, .inr (1, [.ref tm, .ref an, .int (nI (cq.length + 1))])), (tm, .inl ((kA 1), 64, .inr (.inl (vp_updL f1 q (lN t))))), (an, .inl ((kA 5), 64, .inr (.inr (.inr (.inr (va_up g1 q (some b)))))))] H := hP
          have hD : va_D A [(a, .inr (1, [.ref tm, .ref an, .int (nI (cq.length + 1))])), (tm, .inl ((kA 1), 64, .inr (.inl (vp_updL f1 q (lN t))))), (an, .inl ((kA 5), 64, .inr (.inr (.inr (.inr (va_up g1 q (some b)))))))] := hD
          have hrep2 : CoRep (cq.take q ++ (t, b) :: cq.drop q) (vp_updL f1 q (lN t)) (va_up g1 q (some b)) := by
            intro i hi
            rw [zIns_len hp] at hi
            rw [zIns_get hp]
            by_cases e1 : i < q
            · rw [if_pos e1, pk_uLn (by omega), va_up_ne _ _ (by omega), (hlo i e1).1, (hlo i e1).2]; exact hrep i (by omega)
            · by_cases e2 : i = q
              · rw [if_neg e1, if_pos e2, e2, pk_uLs, va_up_self]; exact ⟨rfl, rfl⟩
              · rw [if_neg e1, if_neg e2, pk_uLn e2, va_up_ne _ _ e2, (hhi i (by omega) (by omega)).1, (hhi i (by omega) (by omega)).2]; exact hrep (i - 1) (by omega)
          exact zk_vret S hr hlk hS ⟨rfl, Or.inr ⟨hlt, q, hp, hgt, Or.inl q0, _, _, by unfold wC; rw [zIns_len hp]; exact hP, by unfold wC; rw [zIns_len hp]; exact hD, hrep2⟩⟩ (Nat.le_refl _) (Nat.le_refl _) d_Coming_add_99
        · have q0 : 0 < q := by
            by_cases z : q = 0
            · exact absurd (show nI q ≤ 0 by rw [z]; decide) c18
            · omega
          obtain ⟨hk1, lbk, bbk, hbk⟩ := hok (q - 1) (by omega)
          refine lv_aload_n hx hb d_Coming_add_21 rfl (lv_at hl 0 rfl) ?_
          refine zk_get (C := R_Coming) (T := F_Coming) (N := 3) S hK (hP 0 _ rfl) rfl i_Coming 0 (by decide) m_Coming_9 rfl rfl d_Coming_add_22 ?_
          refine lv_iload hx hb d_Coming_add_25 (lv_at hl 3 rfl) ?_
          refine lv_iconst (v := 1) hx hb d_Coming_add_27 (by decide) ?_
          refine lv_isub hx hb d_Coming_add_28 ?_
          refine zk_ti (z := nI (q - 1)) (by rw [show (1 : Int32) = nI 1 from rfl]; exact pk_sub (by omega)) ?_
          refine zk_lald S hK 1 (hP 1 _ rfl) rfl (vp_in_nI (by omega) (by omega)) d_Coming_add_29 ?_
          refine zk_tl (z := lN (cq.getD (q - 1) (0, 0)).1) (by rw [nI_clamp (by omega), (hlo (q - 1) (by omega)).1]; exact (hrep (q - 1) (by omega)).1) ?_
          refine lv_lload_n hx hb d_Coming_add_30 rfl (lv_at hl 1 rfl) ?_
          refine W.lcmp hx hb d_Coming_add_31 ?_
          refine lv_if_le (tgt := 73) hx hb d_Coming_add_32 (by decide) (fun c32 => ?_) (fun c32 => ?_)
          · have hle : (cq.getD (q - 1) (0, 0)).1 ≤ t := (lN_le (by omega) (by omega)).mp ((lg_cmp_le _ _).mp c32)
            refine lv_aload_n hx hb d_Coming_add_73 rfl (lv_at hl 0 rfl) ?_
            refine zk_get (C := R_Coming) (T := F_Coming) (N := 3) S hK (hP 0 _ rfl) rfl i_Coming 0 (by decide) m_Coming_9 rfl rfl d_Coming_add_74 ?_
            refine lv_iload hx hb d_Coming_add_77 (lv_at hl 3 rfl) ?_
            refine lv_lload_n hx hb d_Coming_add_79 rfl (lv_at hl 1 rfl) ?_
            refine va_last hx hb hK hP hD hS 1 1 rfl rfl (vp_in_nI (by omega) (by omega)) d_Coming_add_80 (fun H locs hP hD hS => ?_)
            rw [nI_clamp (by omega)] at hP hD
            have hP : va_P D classes [(a, .inr (1, [.ref tm, .ref an, .int (nI cq.length)])), (tm, .inl ((kA 1), 64, .inr (.inl (vp_updL f1 q (lN t))))), (an, .inl ((kA 5), 64, .inr (.inr (.inr (.inr g1)))))] H := hP
            have hD : va_D A [(a, .inr (1, [.ref tm, .ref an, .int (nI cq.length)])), (tm, .inl ((kA 1), 64, .inr (.inl (vp_updL f1 q (lN t))))), (an, .inl ((kA 5), 64, .inr (.inr (.inr (.inr g1)))))] := hD
            refine lv_aload_n hx hb d_Coming_add_81 rfl (lv_at hl 0 rfl) ?_
            refine zk_get (C := R_Coming) (T := F_Coming) (N := 3) S hK (hP 0 _ rfl) rfl i_Coming 1 (by decide) m_Coming_17 rfl rfl d_Coming_add_82 ?_
            refine lv_iload hx hb d_Coming_add_85 (lv_at hl 3 rfl) ?_
            refine lv_aload_n hx hb d_Coming_add_87 rfl (lv_at hl 2 rfl) ?_
            refine va_astqM hx hb hK hP hD hS 2 5 rfl rfl ((hB.ro hS).any hK) (vp_in_nI (by omega) (by omega)) d_Coming_add_88 (fun H locs hP hD hS => ?_)
            rw [nI_clamp (by omega)] at hP hD
            have hP : va_P D classes [(a, .inr (1, [.ref tm, .ref an, .int (nI cq.length)])), (tm, .inl ((kA 1), 64, .inr (.inl (vp_updL f1 q (lN t))))), (an, .inl ((kA 5), 64, .inr (.inr (.inr (.inr (va_up g1 q (some b)))))))] H := hP
            have hD : va_D A [(a, .inr (1, [.ref tm, .ref an, .int (nI cq.length)])), (tm, .inl ((kA 1), 64, .inr (.inl (vp_updL f1 q (lN t))))), (an, .inl ((kA 5), 64, .inr (.inr (.inr (.inr (va_up g1 q (some b)))))))] := hD
            refine lv_aload_n hx hb d_Coming_add_89 rfl (lv_at hl 0 rfl) ?_
            refine lv_dup hx hb d_Coming_add_90 rfl ?_
            refine zk_get (C := R_Coming) (T := F_Coming) (N := 3) S hK (hP 0 _ rfl) rfl i_Coming 2 (by decide) m_Coming_21 rfl rfl d_Coming_add_91 ?_
            refine lv_iconst (v := 1) hx hb d_Coming_add_94 (by decide) ?_
            refine lv_iadd hx hb d_Coming_add_95 ?_
            refine zk_ti (z := nI (cq.length + 1)) (nI_1 _) ?_
            refine va_put (D := D) (ci := 1) (v := .int (nI (cq.length + 1))) (ty := .int) (C := R_Coming) (T := F_Coming) (N := 3) hx hb ht i_Coming t_Coming t_Coming_ok n_Coming hown hK hP hD hS 0 rfl rfl 2 (by decide) (ht _ m_Coming_21) (fun _ h9 => h9) rfl (by decide +kernel) rfl rfl (Nat.le_of_ble_eq_true rfl) d_Coming_add_96 (fun H locs hP hD hS => ?_)
            have hP : va_P D classes [(a, .inr (1, [.ref tm, .ref an, .int (nI (cq.length + 1))])), (tm, .inl ((kA 1), 64, .inr (.inl (vp_updL f1 q (lN t))))), (an, .inl ((kA 5), 64, .inr (.inr (.inr (.inr (va_up g1 q (some b)))))))] H := hP
            have hD : va_D A [(a, .inr (1, [.ref tm, .ref an, .int (nI (cq.length + 1))])), (tm, .inl ((kA 1), 64, .inr (.inl (vp_updL f1 q (lN t))))), (an, .inl ((kA 5), 64, .inr (.inr (.inr (.inr (va_up g1 q (some b)))))))] := hD
            have hrep2 : CoRep (cq.take q ++ (t, b) :: cq.drop q) (vp_updL f1 q (lN t)) (va_up g1 q (some b)) := by
              intro i hi
              rw [zIns_len hp] at hi
              rw [zIns_get hp]
              by_cases e1 : i < q
              · rw [if_pos e1, pk_uLn (by omega), va_up_ne _ _ (by omega), (hlo i e1).1, (hlo i e1).2]; exact hrep i (by omega)
              · by_cases e2 : i = q
                · rw [if_neg e1, if_pos e2, e2, pk_uLs, va_up_self]; exact ⟨rfl, rfl⟩
                · rw [if_neg e1, if_neg e2, pk_uLn e2, va_up_ne _ _ e2, (hhi i (by omega) (by omega)).1, (hhi i (by omega) (by omega)).2]; exact hrep (i - 1) (by omega)
            exact zk_vret S hr hlk hS ⟨rfl, Or.inr ⟨hlt, q, hp, hgt, Or.inr hle, _, _, by unfold wC; rw [zIns_len hp]; exact hP, by unfold wC; rw [zIns_len hp]; exact hD, hrep2⟩⟩ (Nat.le_refl _) (Nat.le_refl _) d_Coming_add_99
          · have hgt1 : t < (cq.getD (q - 1) (0, 0)).1 := Nat.not_le.mp fun z => c32 ((lg_cmp_le _ _).mpr ((lN_le (by omega) (by omega)).mpr z))
            refine lv_aload_n hx hb d_Coming_add_35 rfl (lv_at hl 0 rfl) ?_
            refine zk_get (C := R_Coming) (T := F_Coming) (N := 3) S hK (hP 0 _ rfl) rfl i_Coming 0 (by decide) m_Coming_9 rfl rfl d_Coming_add_36 ?_
            refine lv_iload hx hb d_Coming_add_39 (lv_at hl 3 rfl) ?_
            refine lv_aload_n hx hb d_Coming_add_41 rfl (lv_at hl 0 rfl) ?_
            refine zk_get (C := R_Coming) (T := F_Coming) (N := 3) S hK (hP 0 _ rfl) rfl i_Coming 0 (by decide) m_Coming_9 rfl rfl d_Coming_add_42 ?_
            refine lv_iload hx hb d_Coming_add_45 (lv_at hl 3 rfl) ?_
            refine lv_iconst (v := 1) hx hb d_Coming_add_47 (by decide) ?_
            refine lv_isub hx hb d_Coming_add_48 ?_
            refine zk_ti (z := nI (q - 1)) (by rw [show (1 : Int32) = nI 1 from rfl]; exact pk_sub (by omega)) ?_
            refine zk_lald S hK 1 (hP 1 _ rfl) rfl (vp_in_nI (by omega) (by omega)) d_Coming_add_49 ?_
            refine zk_tl (z := lN (cq.getD (q - 1) (0, 0)).1) (by rw [nI_clamp (by omega), (hlo (q - 1) (by omega)).1]; exact (hrep (q - 1) (by omega)).1) ?_
            refine va_last hx hb hK hP hD hS 1 1 rfl rfl (vp_in_nI (by omega) (by omega)) d_Coming_add_50 (fun H locs hP hD hS => ?_)
            rw [nI_clamp (by omega)] at hP hD
            have hP : va_P D classes [(a, .inr (1, [.ref tm, .ref an, .int (nI cq.length)])), (tm, .inl ((kA 1), 64, .inr (.inl (vp_updL f1 q (lN (cq.getD (q - 1) (0, 0)).1))))), (an, .inl ((kA 5), 64, .inr (.inr (.inr (.inr g1)))))] H := hP
            have hD : va_D A [(a, .inr (1, [.ref tm, .ref an, .int (nI cq.length)])), (tm, .inl ((kA 1), 64, .inr (.inl (vp_updL f1 q (lN (cq.getD (q - 1) (0, 0)).1))))), (an, .inl ((kA 5), 64, .inr (.inr (.inr (.inr g1)))))] := hD
            refine lv_aload_n hx hb d_Coming_add_51 rfl (lv_at hl 0 rfl) ?_
            refine zk_get (C := R_Coming) (T := F_Coming) (N := 3) S hK (hP 0 _ rfl) rfl i_Coming 1 (by decide) m_Coming_17 rfl rfl d_Coming_add_52 ?_
            refine lv_iload hx hb d_Coming_add_55 (lv_at hl 3 rfl) ?_
            refine lv_aload_n hx hb d_Coming_add_57 rfl (lv_at hl 0 rfl) ?_
            refine zk_get (C := R_Coming) (T := F_Coming) (N := 3) S hK (hP 0 _ rfl) rfl i_Coming 1 (by decide) m_Coming_17 rfl rfl d_Coming_add_58 ?_
            refine lv_iload hx hb d_Coming_add_61 (lv_at hl 3 rfl) ?_
            refine lv_iconst (v := 1) hx hb d_Coming_add_63 (by decide) ?_
            refine lv_isub hx hb d_Coming_add_64 ?_
            refine zk_ti (z := nI (q - 1)) (by rw [show (1 : Int32) = nI 1 from rfl]; exact pk_sub (by omega)) ?_
            refine zk_aald S hK 5 (hP 2 _ rfl) rfl (vp_in_nI (by omega) (by omega)) d_Coming_add_65 ?_
            refine zk_top (v' := .ref ((cq.getD (q - 1) (0, 0)).2)) (by rw [nI_clamp (by omega), (hlo (q - 1) (by omega)).2, (hrep (q - 1) (by omega)).2]; rfl) ?_
            refine va_astqM hx hb hK hP hD hS 2 5 rfl rfl ((hbk.ro hS).any hK) (vp_in_nI (by omega) (by omega)) d_Coming_add_66 (fun H locs hP hD hS => ?_)
            rw [nI_clamp (by omega)] at hP hD
            have hP : va_P D classes [(a, .inr (1, [.ref tm, .ref an, .int (nI cq.length)])), (tm, .inl ((kA 1), 64, .inr (.inl (vp_updL f1 q (lN (cq.getD (q - 1) (0, 0)).1))))), (an, .inl ((kA 5), 64, .inr (.inr (.inr (.inr (va_up g1 q (some (cq.getD (q - 1) (0, 0)).2)))))))] H := hP
            have hD : va_D A [(a, .inr (1, [.ref tm, .ref an, .int (nI cq.length)])), (tm, .inl ((kA 1), 64, .inr (.inl (vp_updL f1 q (lN (cq.getD (q - 1) (0, 0)).1))))), (an, .inl ((kA 5), 64, .inr (.inr (.inr (.inr (va_up g1 q (some (cq.getD (q - 1) (0, 0)).2)))))))] := hD
            refine lv_iinc (v := (nI (q - 1))) (lv' := [(4, .int (nI (q - 1))), (0, .ref a), (1, .long (lN t)), (3, .ref b)]) hx hb d_Coming_add_67 hl (k := 3) rfl (sb_m1 q0) (by decide) rfl (fun ls hl => ?_)
            refine lv_goto (tgt := 16) hx hb d_Coming_add_70 (by decide) ?_
            exact ih (q - 1) (vp_updL f1 q (lN (cq.getD (q - 1) (0, 0)).1)) (va_up g1 q (some (cq.getD (q - 1) (0, 0)).2)) (by omega) (by omega) (fun j hj => by
              rw [pk_uLn (by omega), va_up_ne _ _ (by omega)]; exact hlo j (by omega)) (fun j hj1 hj2 => by
              by_cases e : j = q
              · rw [e, pk_uLs, va_up_self]; exact ⟨(hrep (q - 1) (by omega)).1.symm, (hrep (q - 1) (by omega)).2.symm⟩
              · rw [pk_uLn e, va_up_ne _ _ e]; exact hhi j (by omega) hj2) (fun j hj1 hj2 => by
              by_cases e : j = q - 1
              · rw [e]; exact hgt1
              · exact hgt j (by omega) hj2) _ _ (hP.sub [0, 1, 2] rfl) (hD.sub [0, 1, 2] (by decide) rfl) hS ls (lv_sub hl [1, 2, 3, 0] rfl)
    exact lp (cq.length + 1) cq.length f g (by omega) (Nat.le_refl _) (fun j _ => ⟨rfl, rfl⟩) (fun j h1 h2 => absurd h1 (by omega)) (fun j h1 h2 => absurd h1 (by omega)) _ _ (hP.sub [0, 1, 2] rfl) (hD.sub [0, 1, 2] (by decide) rfl) hS ls (lv_sub hl [1, 2, 3, 0] rfl)
  · have hge : 64 ≤ cq.length := Nat.not_lt.mp fun q => c6 (show nI cq.length < nI 64 from nI_lt q (by omega))
    exact zk_vret S hr hlk hS ⟨rfl, Or.inl ⟨hge, f, g, hP, hD, hrep⟩⟩ (Nat.le_refl _) (Nat.le_refl _) d_Coming_add_9

set_option maxHeartbeats 4000000 in
set_option maxRecDepth 100000 in
/-- Coming.dropFirst() -/
theorem c_Coming_dropFirst (l : Launch) (D : va_G) (kA : Nat → ClassId) (a tm an : Nat) (f : Nat → Int64) (g : Nat → Option Nat) (cq : List (Nat × Nat)) (h0 : 0 < cq.length) (hl64 : cq.length ≤ 64) (sz0 : Nat) : Met l y_Coming_dropFirst (Cond.code y_Coming_dropFirst b_Coming_dropFirst 2 none :: zTB) { frames := 0, cells := 0, slots := 0, locals := 0 } (zk_Pc D classes (zTY kA) [.ref a] (fun H => H.size = sz0 ∧ va_P D classes [(a, .inr (1, [.ref tm, .ref an, .int (nI cq.length)])), (tm, .inl ((kA 1), 64, .inr (.inl f))), (an, .inl ((kA 5), 64, .inr (.inr (.inr (.inr g)))))] H ∧ va_D (fun _ => True) [(a, .inr (1, [.ref tm, .ref an, .int (nI cq.length)])), (tm, .inl ((kA 1), 64, .inr (.inl f))), (an, .inl ((kA 5), 64, .inr (.inr (.inr (.inr g)))))] ∧ CoRep cq f g ∧ CoOk D kA (fun q => ¬ (va_A [(a, .inr (1, [.ref tm, .ref an, .int (nI cq.length)])), (tm, .inl ((kA 1), 64, .inr (.inl f))), (an, .inl ((kA 5), 64, .inr (.inr (.inr (.inr g)))))] sz0) q) H cq)) (zk_mQ (fun v H => v = none ∧ CoPost D kA (va_A [(a, .inr (1, [.ref tm, .ref an, .int (nI cq.length)])), (tm, .inl ((kA 1), 64, .inr (.inl f))), (an, .inl ((kA 5), 64, .inr (.inr (.inr (.inr g)))))] sz0) H a tm an (cq.drop 1)) (va_A [(a, .inr (1, [.ref tm, .ref an, .int (nI cq.length)])), (tm, .inl ((kA 1), 64, .inr (.inl f))), (an, .inl ((kA 5), 64, .inr (.inr (.inr (.inr g)))))] sz0)) 0 0 (va_A [(a, .inr (1, [.ref tm, .ref an, .int (nI cq.length)])), (tm, .inl ((kA 1), 64, .inr (.inl f))), (an, .inl ((kA 5), 64, .inr (.inr (.inr (.inr g)))))] sz0) := by
  refine zk_of [.ref a] (by decide) (Nat.le_of_ble_eq_true rfl) ?_
  intro p e s m below meth c S hr hlk hnm hK hX hpre ls hl
  obtain ⟨hx, hb, hml, hown, ht⟩ := id S
  have hl : lv_has ls 2 [(0, .ref a)] := hl
  obtain ⟨hsz, hP, hD0, hrep, hok⟩ := hpre
  subst hsz
  have hD := hD0.self (sz := s.heap.size)
  generalize hAe : va_A [(a, .inr (1, [.ref tm, .ref an, .int (nI cq.length)])), (tm, .inl ((kA 1), 64, .inr (.inl f))), (an, .inl ((kA 5), 64, .inr (.inr (.inr (.inr g)))))] s.heap.size = A at hD hok ⊢
  have hA : ∀ q : Nat, s.heap.size ≤ q → A q := fun q h => by rw [← hAe]; exact Or.inr h
  have hS : va_S A s.heap s.heap [] := va_S.rf
  have hP : va_P D classes [(a, .inr (1, [.ref tm, .ref an, .int (nI cq.length)])), (tm, .inl ((kA 1), 64, .inr (.inl f))), (an, .inl ((kA 5), 64, .inr (.inr (.inr (.inr g)))))] s.heap := hP
  refine lv_aload_n hx hb d_Coming_dropFirst_0 rfl (lv_at hl 0 rfl) ?_
  refine zk_get (C := R_Coming) (T := F_Coming) (N := 3) S hK (hP 0 _ rfl) rfl i_Coming 2 (by decide) m_Coming_21 rfl rfl d_Coming_dropFirst_1 ?_
  refine lv_if_gt (tgt := 8) hx hb d_Coming_dropFirst_4 (by decide) (fun c4 => ?_) (fun c4 => ?_)
  · refine lv_iconst (v := 1) hx hb d_Coming_dropFirst_8 (by decide) ?_
    refine lv_istore_n (lv' := [(1, .int 1), (0, .ref a)]) hx hb d_Coming_dropFirst_9 rfl hl (by decide) rfl (fun ls hl => ?_)
    have lp : ∀ (fu : Nat) (i : Nat) (f1 : Nat → Int64) (g1 : Nat → Option Nat), cq.length - i < fu → 0 < i → i ≤ cq.length → (∀ j, j + 1 < i → f1 j = f (j + 1) ∧ g1 j = g (j + 1)) → (∀ j, i ≤ j → f1 j = f j ∧ g1 j = g j) → ∀ (H : Heap) (locs : List Loc), va_P D classes [(a, .inr (1, [.ref tm, .ref an, .int (nI cq.length)])), (tm, .inl ((kA 1), 64, .inr (.inl f1))), (an, .inl ((kA 5), 64, .inr (.inr (.inr (.inr g1)))))] H → va_D A [(a, .inr (1, [.ref tm, .ref an, .int (nI cq.length)])), (tm, .inl ((kA 1), 64, .inr (.inl f1))), (an, .inl ((kA 5), 64, .inr (.inr (.inr (.inr g1)))))] → va_S A s.heap H locs → ∀ ls : Array Slot, lv_has ls 2 [(0, .ref a), (1, .int (nI i))] → W p l e { frames := 0, cells := 0, slots := 0, locals := 0 } s m [.ref a].toArray below meth c H locs 0 0 (MQ below (zk_mQ (fun v H => v = none ∧ CoPost D kA A H a tm an (cq.drop 1)) A) [.ref a].toArray s 0 0 A) (F0 m 10 ls []) := by
      intro fu
      induction fu with
      | zero => intro i f1 g1 hn; exact absurd hn (Nat.not_lt_zero _)
      | succ fu ih =>
        intro i f1 g1 hn hi0 hi hlo hhi H locs hP hD hS ls hl
        refine lv_iload_n hx hb d_Coming_dropFirst_10 rfl (lv_at hl 1 rfl) ?_
        refine lv_aload_n hx hb d_Coming_dropFirst_11 rfl (lv_at hl 0 rfl) ?_
        refine zk_get (C := R_Coming) (T := F_Coming) (N := 3) S hK (hP 0 _ rfl) rfl i_Coming 2 (by decide) m_Coming_21 rfl rfl d_Coming_dropFirst_12 ?_
        refine lv_icmp_ge (tgt := 52) hx hb d_Coming_dropFirst_15 (by decide) (fun c15 => ?_) (fun c15 => ?_)
        · refine lv_aload_n hx hb d_Coming_dropFirst_52 rfl (lv_at hl 0 rfl) ?_
          refine lv_dup hx hb d_Coming_dropFirst_53 rfl ?_
          refine zk_get (C := R_Coming) (T := F_Coming) (N := 3) S hK (hP 0 _ rfl) rfl i_Coming 2 (by decide) m_Coming_21 rfl rfl d_Coming_dropFirst_54 ?_
          refine lv_iconst (v := 1) hx hb d_Coming_dropFirst_57 (by decide) ?_
          refine lv_isub hx hb d_Coming_dropFirst_58 ?_
          refine zk_ti (z := nI (cq.length - 1)) (by rw [show (1 : Int32) = nI 1 from rfl]; exact pk_sub (by omega)) ?_
          refine va_put (D := D) (ci := 1) (v := .int (nI (cq.length - 1))) (ty := .int) (C := R_Coming) (T := F_Coming) (N := 3) hx hb ht i_Coming t_Coming t_Coming_ok n_Coming hown hK hP hD hS 0 rfl rfl 2 (by decide) (ht _ m_Coming_21) (fun _ h9 => h9) rfl (by decide +kernel) rfl rfl (Nat.le_of_ble_eq_true rfl) d_Coming_dropFirst_59 (fun H locs hP hD hS => ?_)
          have hP : va_P D classes [(a, .inr (1, [.ref tm, .ref an, .int (nI (cq.length - 1))])), (tm, .inl ((kA 1), 64, .inr (.inl f1))), (an, .inl ((kA 5), 64, .inr (.inr (.inr (.inr g1)))))] H := hP
          have hD : va_D A [(a, .inr (1, [.ref tm, .ref an, .int (nI (cq.length - 1))])), (tm, .inl ((kA 1), 64, .inr (.inl f1))), (an, .inl ((kA 5), 64, .inr (.inr (.inr (.inr g1)))))] := hD
          have hie : cq.length ≤ i := (nI_leI (by omega) (by omega)).mp c15
          have hrep2 : CoRep (cq.drop 1) f1 g1 := by
            intro j hj
            rw [List.length_drop] at hj
            rw [List.getD_eq_getElem?_getD, List.getElem?_drop, ← List.getD_eq_getElem?_getD, Nat.add_comm 1 j, (hlo j (by omega)).1, (hlo j (by omega)).2]
            exact hrep (j + 1) (by omega)
          exact zk_vret S hr hlk hS ⟨rfl, f1, g1, by unfold wC; rw [List.length_drop]; exact hP, by unfold wC; rw [List.length_drop]; exact hD, hrep2⟩ (Nat.le_refl _) (Nat.le_refl _) d_Coming_dropFirst_62
        · have hlt : i < cq.length := Nat.not_le.mp fun z => c15 (nI_le z (by omega))
          obtain ⟨hk1, lbk, bbk, hbk⟩ := hok i hlt
          refine lv_aload_n hx hb d_Coming_dropFirst_18 rfl (lv_at hl 0 rfl) ?_
          refine zk_get (C := R_Coming) (T := F_Coming) (N := 3) S hK (hP 0 _ rfl) rfl i_Coming 0 (by decide) m_Coming_9 rfl rfl d_Coming_dropFirst_19 ?_
          refine lv_iload_n hx hb d_Coming_dropFirst_22 rfl (lv_at hl 1 rfl) ?_
          refine lv_iconst (v := 1) hx hb d_Coming_dropFirst_23 (by decide) ?_
          refine lv_isub hx hb d_Coming_dropFirst_24 ?_
          refine zk_ti (z := nI (i - 1)) (by rw [show (1 : Int32) = nI 1 from rfl]; exact pk_sub (by omega)) ?_
          refine lv_aload_n hx hb d_Coming_dropFirst_25 rfl (lv_at hl 0 rfl) ?_
          refine zk_get (C := R_Coming) (T := F_Coming) (N := 3) S hK (hP 0 _ rfl) rfl i_Coming 0 (by decide) m_Coming_9 rfl rfl d_Coming_dropFirst_26 ?_
          refine lv_iload_n hx hb d_Coming_dropFirst_29 rfl (lv_at hl 1 rfl) ?_
          refine zk_lald S hK 1 (hP 1 _ rfl) rfl (vp_in_nI (by omega) (by omega)) d_Coming_dropFirst_30 ?_
          refine zk_tl (z := lN (cq.getD i (0, 0)).1) (by rw [nI_clamp (by omega), (hhi i (Nat.le_refl _)).1]; exact (hrep i hlt).1) ?_
          refine va_last hx hb hK hP hD hS 1 1 rfl rfl (vp_in_nI (by omega) (by omega)) d_Coming_dropFirst_31 (fun H locs hP hD hS => ?_)
          rw [nI_clamp (by omega)] at hP hD
          have hP : va_P D classes [(a, .inr (1, [.ref tm, .ref an, .int (nI cq.length)])), (tm, .inl ((kA 1), 64, .inr (.inl (vp_updL f1 (i - 1) (lN (cq.getD i (0, 0)).1))))), (an, .inl ((kA 5), 64, .inr (.inr (.inr (.inr g1)))))] H := hP
          have hD : va_D A [(a, .inr (1, [.ref tm, .ref an, .int (nI cq.length)])), (tm, .inl ((kA 1), 64, .inr (.inl (vp_updL f1 (i - 1) (lN (cq.getD i (0, 0)).1))))), (an, .inl ((kA 5), 64, .inr (.inr (.inr (.inr g1)))))] := hD
          refine lv_aload_n hx hb d_Coming_dropFirst_32 rfl (lv_at hl 0 rfl) ?_
          refine zk_get (C := R_Coming) (T := F_Coming) (N := 3) S hK (hP 0 _ rfl) rfl i_Coming 1 (by decide) m_Coming_17 rfl rfl d_Coming_dropFirst_33 ?_
          refine lv_iload_n hx hb d_Coming_dropFirst_36 rfl (lv_at hl 1 rfl) ?_
          refine lv_iconst (v := 1) hx hb d_Coming_dropFirst_37 (by decide) ?_
          refine lv_isub hx hb d_Coming_dropFirst_38 ?_
          refine zk_ti (z := nI (i - 1)) (by rw [show (1 : Int32) = nI 1 from rfl]; exact pk_sub (by omega)) ?_
          refine lv_aload_n hx hb d_Coming_dropFirst_39 rfl (lv_at hl 0 rfl) ?_
          refine zk_get (C := R_Coming) (T := F_Coming) (N := 3) S hK (hP 0 _ rfl) rfl i_Coming 1 (by decide) m_Coming_17 rfl rfl d_Coming_dropFirst_40 ?_
          refine lv_iload_n hx hb d_Coming_dropFirst_43 rfl (lv_at hl 1 rfl) ?_
          refine zk_aald S hK 5 (hP 2 _ rfl) rfl (vp_in_nI (by omega) (by omega)) d_Coming_dropFirst_44 ?_
          refine zk_top (v' := .ref ((cq.getD i (0, 0)).2)) (by rw [nI_clamp (by omega), (hhi i (Nat.le_refl _)).2, (hrep i hlt).2]; rfl) ?_
          refine va_astqM hx hb hK hP hD hS 2 5 rfl rfl ((hbk.ro hS).any hK) (vp_in_nI (by omega) (by omega)) d_Coming_dropFirst_45 (fun H locs hP hD hS => ?_)
          rw [nI_clamp (by omega)] at hP hD
          have hP : va_P D classes [(a, .inr (1, [.ref tm, .ref an, .int (nI cq.length)])), (tm, .inl ((kA 1), 64, .inr (.inl (vp_updL f1 (i - 1) (lN (cq.getD i (0, 0)).1))))), (an, .inl ((kA 5), 64, .inr (.inr (.inr (.inr (va_up g1 (i - 1) (some (cq.getD i (0, 0)).2)))))))] H := hP
          have hD : va_D A [(a, .inr (1, [.ref tm, .ref an, .int (nI cq.length)])), (tm, .inl ((kA 1), 64, .inr (.inl (vp_updL f1 (i - 1) (lN (cq.getD i (0, 0)).1))))), (an, .inl ((kA 5), 64, .inr (.inr (.inr (.inr (va_up g1 (i - 1) (some (cq.getD i (0, 0)).2)))))))] := hD
          refine lv_iinc (v := (nI (i + 1))) (lv' := [(1, .int (nI (i + 1))), (0, .ref a)]) hx hb d_Coming_dropFirst_46 hl (k := 1) rfl (nI_1 i) (by decide) rfl (fun ls hl => ?_)
          refine lv_goto (tgt := 10) hx hb d_Coming_dropFirst_49 (by decide) ?_
          exact ih (i + 1) (vp_updL f1 (i - 1) (lN (cq.getD i (0, 0)).1)) (va_up g1 (i - 1) (some (cq.getD i (0, 0)).2)) (by omega) (by omega) (by omega) (fun j hj => by
            by_cases e : j = i - 1
            · rw [e, pk_uLs, va_up_self, show i - 1 + 1 = i by omega]; exact ⟨(hrep i hlt).1.symm, (hrep i hlt).2.symm⟩
            · rw [pk_uLn e, va_up_ne _ _ e]; exact hlo j (by omega)) (fun j hj => by
            rw [pk_uLn (by omega), va_up_ne _ _ (by omega)]; exact hhi j (by omega)) _ _ (hP.sub [0, 1, 2] rfl) (hD.sub [0, 1, 2] (by decide) rfl) hS ls (lv_sub hl [1, 0] rfl)
    exact lp (cq.length + 1) 1 f g (by omega) (by omega) (by omega) (fun j h1 => absurd h1 (by omega)) (fun j _ => ⟨rfl, rfl⟩) _ _ (hP.sub [0, 1, 2] rfl) (hD.sub [0, 1, 2] (by decide) rfl) hS ls (lv_sub hl [1, 0] rfl)
  · exact absurd (show (0 : Int32) < nI cq.length by rw [← nI_0]; exact nI_lt h0 (by omega)) c4
end
section
theorem ts_nf {x : Bool} (h : ¬ x = false) : x = true := by cases x <;> first | rfl | exact absurd rfl h
theorem ts_nt {x : Bool} (h : ¬ x = true) : x = false := by cases x <;> first | rfl | exact absurd rfl h
theorem ts_bit {w : Int64} {s : UInt64} {j : Nat} (hj : j < 64) (hs : s.toNat = j) : ((w.toUInt64 >>> s).toInt64 &&& 1) = 0 ↔ w.toBitVec.getLsbD j = false := by
  have e : (w.toUInt64 >>> s).toInt64.toBitVec = w.toBitVec >>> j := by
    apply BitVec.eq_of_toNat_eq
    show (w.toUInt64 >>> s).toNat = _
    rw [UInt64.toNat_shiftRight, hs, Nat.mod_eq_of_lt hj, BitVec.toNat_ushiftRight]
    rfl
  rw [← Int64.toBitVec_inj, Int64.toBitVec_and, e]
  show w.toBitVec >>> j &&& 1#64 = 0#64 ↔ _
  constructor
  · intro h
    have t := congrArg (fun x => x.getLsbD 0) h
    simpa using t
  · intro h
    apply BitVec.eq_of_getLsbD_eq
    intro i hi
    cases i with
    | zero => simp [h]
    | succ i => simp
theorem wb_tb (n : Nat) : (lN n).toBitVec = BitVec.ofNat 64 n := rfl
theorem wb_inj {a b : Int64} (h : a.toBitVec = b.toBitVec) : a = b := Int64.toBitVec_inj.mp h
theorem wb_tn {n : Nat} (h : n < 2 ^ 64) : (lN n).toBitVec.toNat = n := by rw [wb_tb, BitVec.toNat_ofNat, Nat.mod_eq_of_lt h]
theorem wb_of (x : Int64) : ∃ n, n < 2 ^ 64 ∧ x = lN n := ⟨x.toBitVec.toNat, x.toBitVec.isLt, wb_inj (by rw [wb_tb]; simp)⟩
theorem wb_of32 (x : Int32) : ∃ n, n < 2 ^ 32 ∧ x = nI n := ⟨x.toBitVec.toNat, x.toBitVec.isLt, Int32.toBitVec_inj.mp (by show _ = BitVec.ofNat 32 _; simp)⟩
theorem wb_c : ∀ k, k < 64 → ((nI k).toInt64 &&& 63) = lN k := by decide +kernel
theorem wb_cu : ∀ k, k < 64 → ((nI k).toInt64.toUInt64 &&& Int64.toUInt64 63) = UInt64.ofNat k := by decide +kernel
theorem wb_sm : ∀ k, k < 64 → (BitVec.ofNat 64 k).smod 64 = BitVec.ofNat 64 k := by decide +kernel
theorem wb_pw {a b : Nat} (h : a ≤ b) : 2 ^ b = 2 ^ a * 2 ^ (b - a) := by rw [← Nat.pow_add]; congr 1; omega
theorem wb_lt2 {a b : Nat} (h : a < b) : 2 ^ a < 2 ^ b := Nat.pow_lt_pow_right (by decide) h
theorem wb_mod (n : Nat) : lN n = lN (n % 2 ^ 64) := wb_inj (by rw [wb_tb, wb_tb]; apply BitVec.eq_of_toNat_eq; rw [BitVec.toNat_ofNat, BitVec.toNat_ofNat, Nat.mod_mod])
theorem wb_shr {n k : Nat} (hn : n < 2 ^ 64) (hk : k < 64) : ((lN n).toUInt64 >>> ((nI k).toInt64.toUInt64 &&& Int64.toUInt64 63)).toInt64 = lN (n / 2 ^ k) := by
  rw [wb_cu k hk]
  apply wb_inj
  apply BitVec.eq_of_toNat_eq
  show ((lN n).toUInt64 >>> UInt64.ofNat k).toNat = (BitVec.ofNat 64 _).toNat
  have h1 : (UInt64.ofNat k).toNat = k := by
    show (BitVec.ofNat 64 k).toNat = k
    rw [BitVec.toNat_ofNat, Nat.mod_eq_of_lt (by omega)]
  have h2 : (lN n).toUInt64.toNat = n := wb_tn hn
  rw [UInt64.toNat_shiftRight, h1, h2, Nat.mod_eq_of_lt hk, Nat.shiftRight_eq_div_pow, BitVec.toNat_ofNat, Nat.mod_eq_of_lt (Nat.lt_of_le_of_lt (Nat.div_le_self _ _) hn)]
theorem wb_shl (n : Nat) {k : Nat} (hk : k < 64) : lN n <<< ((nI k).toInt64 &&& 63) = lN (n * 2 ^ k) := by
  rw [wb_c k hk]
  apply wb_inj
  rw [Int64.toBitVec_shiftLeft, wb_tb, wb_tb, wb_tb, wb_sm k hk]
  apply BitVec.eq_of_toNat_eq
  rw [BitVec.shiftLeft_eq', BitVec.toNat_shiftLeft, BitVec.toNat_ofNat, BitVec.toNat_ofNat, BitVec.toNat_ofNat, Nat.mod_eq_of_lt (show k < 2 ^ 64 by omega), Nat.shiftLeft_eq, Nat.mul_mod, Nat.mod_mod, ← Nat.mul_mod]
def zBit (w : Int64) (j : Nat) : Bool := w.toBitVec.getLsbD j
theorem zBit_or {w : Int64} {j k : Nat} (hj : j < 64) (hk : k < 64) : zBit (w ||| ((1 : Int64) <<< ((nI k).toInt64 &&& 63))) j = (zBit w j || decide (j = k)) := by
  have e : (1 : Int64) <<< ((nI k).toInt64 &&& 63) = lN (2 ^ k) := by rw [show (1 : Int64) = lN 1 from rfl, wb_shl 1 hk, Nat.one_mul]
  rw [e]
  unfold zBit
  rw [Int64.toBitVec_or, BitVec.getLsbD_or, wb_tb, BitVec.getLsbD_ofNat, Nat.testBit_two_pow]
  simp [hj, eq_comm]
theorem zBit_test {w : Int64} {k : Nat} (hk : k < 64) : ((w.toUInt64 >>> ((nI k).toInt64.toUInt64 &&& Int64.toUInt64 63)).toInt64 &&& 1) = 0 ↔ zBit w k = false := ts_bit hk (by
  rw [wb_cu k hk]
  show (BitVec.ofNat 64 k).toNat = k
  rw [BitVec.toNat_ofNat, Nat.mod_eq_of_lt (by omega)])
def zSb (sf : Nat → Int64) (i v : Nat) : Bool := zBit (sf (i * 4 + v / 64)) (v % 64)
theorem zSb_0 {i v : Nat} : zSb (fun _ => 0) i v = false := by
  unfold zSb zBit
  simp
theorem zSb_upd {sf : Nat → Int64} {cnt x i v : Nat} (hx : x < 256) (hv : v < 256) : zSb (vp_updL sf (cnt * 4 + x / 64) (sf (cnt * 4 + x / 64) ||| ((1 : Int64) <<< ((nI (x % 64)).toInt64 &&& 63)))) i v = (zSb sf i v || (decide (i = cnt) && decide (v = x))) := by
  unfold zSb
  by_cases h : i * 4 + v / 64 = cnt * 4 + x / 64
  · have hi : i = cnt := by omega
    have hd : v / 64 = x / 64 := by omega
    rw [h, pk_uLs, zBit_or (Nat.mod_lt _ (by decide)) (Nat.mod_lt _ (by decide))]
    congr 1
    by_cases hvx : v = x
    · simp [hi, hvx]
    · have : ¬ v % 64 = x % 64 := by omega
      simp [hvx, this]
  · rw [pk_uLn h]
    have : ¬ (i = cnt ∧ v = x) := fun q => h (by rw [q.1, q.2])
    by_cases hi : i = cnt
    · by_cases hvx : v = x
      · exact absurd ⟨hi, hvx⟩ this
      · simp [hvx]
    · simp [hi]
/-! a pure method whose answer is told by what holds of it -/
def zk_pE (P : Value → Prop) : Array Value → State → Outcome → State → Prop := fun _ st oc t => ∃ v, oc = .returned (some v) ∧ P v ∧ t.heap = st.heap
section
variable {p : Program} {l : Launch} {e : Env} {R : Room} {s : State} {m : MethodId} {args : Array Value} {below : List Frame} {meth : Method} {c : Code} {H : Heap} {locs : List Loc} {cells slots : Nat} {Q : State → Prop}
variable {cc : ByteArray} {pc nL : Nat} {own : String} {ls : Array Slot} {rest st0 : List Value} {P : Value → Prop}
theorem zk_pureE {ar : Array Value} (hr : va_Run p l e R s m args below meth c H locs cells slots 0 0 (F0 m pc ls st0) rest (zk_pE P ar) zk_no) (kk : ∀ v, P v → W p l e R s m args below meth c H locs cells slots Q (F0 m (pc + 3) ls (v :: rest))) : W p l e R s m args below meth c H locs cells slots Q (F0 m pc ls st0) := by
  intro T hT X
  obtain ⟨v', st₀, t, T', L, h0, X', hL, e1, e2, ⟨v, hv, hp, hh⟩, st⟩ := hr T hT X
  have hL0 : L = [] := by
    cases L with
    | nil => rfl
    | cons q L => exact (hL q List.mem_cons_self).elim
  subst hL0
  cases hv
  rw [List.append_nil] at X'
  obtain ⟨t2, a1, b1⟩ := kk v hp T' (by rw [e1, hh, h0]) X'
  exact ⟨t2, st t2 a1, b1⟩
theorem zk_retiE {v : Int32} (S : CallFix p m c cc nL s args zTB own) (hr : meth.sig.returnType = some .int) (hlk : meth.locks = false) (hp : P (.int v)) (hdg : decode cc pc = .ok (.ireturn, 1)) : W p l e R s m args below meth c s.heap [] 0 0 (MQ below (zk_pE P) args s 0 0 zk_no) (F0 m pc ls [.int v]) :=
  W.iret S.1 S.2.1 hr (fun t ht _ => ⟨_, rfl, hp, ht⟩) (fun q h => by cases h) hdg
theorem zk_retzE {v : Int32} (S : CallFix p m c cc nL s args zTB own) (hr : meth.sig.returnType = some .boolean) (hv : v = 0 ∨ v = 1) (hlk : meth.locks = false) (hp : P (.int v)) (hdg : decode cc pc = .ok (.ireturn, 1)) : W p l e R s m args below meth c s.heap [] 0 0 (MQ below (zk_pE P) args s 0 0 zk_no) (F0 m pc ls [.int v]) :=
  W.zret S.1 S.2.1 hr (by rcases hv with rfl | rfl <;> decide +kernel) (fun t ht _ => ⟨_, rfl, hp, ht⟩) (fun q h => by cases h) hdg
end
/-! patterns as the class holds them -/
def PtRep (m : Nat) (sf : Nat → Int64) (zf : Nat → Int32) (its : List pItem) : Prop := its.length ≤ m ∧ m ≤ 1024 ∧ ∀ i, i < its.length → (its.getD i none = none → zf i = 1) ∧ ∀ S, its.getD i none = some S → zf i = 0 ∧ ∀ v, v < 256 → zSb sf i v = pIn S v
def PtAt (D : va_G) (kA : Nat → ClassId) (Z : Nat → Prop) (H : Heap) (a : Nat) (its : List pItem) : Prop := ∃ (sa za m : Nat) (sf : Nat → Int64) (zf : Nat → Int32), (Z a ∧ Z sa ∧ Z za) ∧ va_at D classes (a, .inr (2, [.ref sa, .ref za, .int (nI its.length)])) H ∧ va_at D classes (sa, .inl (kA 1, m * 4, .inr (.inl sf))) H ∧ va_at D classes (za, .inl (kA 2, m, .inl zf)) H ∧ PtRep m sf zf its
theorem PtAt.weaken {D : va_G} {kA : Nat → ClassId} {Z Z' : Nat → Prop} {H : Heap} {a : Nat} {its : List pItem} (h : PtAt D kA Z H a its) (hz : ∀ q, Z q → Z' q) : PtAt D kA Z' H a its := by
  obtain ⟨sa, za, m, sf, zf, ⟨h1, h2, h3⟩, h4⟩ := h
  exact ⟨sa, za, m, sf, zf, ⟨hz _ h1, hz _ h2, hz _ h3⟩, h4⟩
theorem PtAt.kept {D : va_G} {kA : Nat → ClassId} {Z : Nat → Prop} {H H1 : Heap} {a : Nat} {its : List pItem} (h : PtAt D kA Z H a its) (hk : ∀ q, Z q → q < H.size → H1[q]? = H[q]?) : PtAt D kA Z H1 a its := by
  obtain ⟨sa, za, m, sf, zf, ⟨h1, h2, h3⟩, h4, h5, h6, h7⟩ := h
  exact ⟨sa, za, m, sf, zf, ⟨h1, h2, h3⟩, h4.kept (hk _ h1 h4.lt), h5.kept (hk _ h2 h5.lt), h6.kept (hk _ h3 h6.lt), h7⟩
theorem PtAt.ro {D : va_G} {kA : Nat → ClassId} {A : Nat → Prop} {H0 H : Heap} {locs : List Loc} {a : Nat} {its : List pItem} (h : PtAt D kA (fun q => ¬ A q) H0 a its) (hS : va_S A H0 H locs) : PtAt D kA (fun q => ¬ A q) H a its := h.kept (fun q hq hlt => hS.2.1 q hlt hq)
abbrev zIt (its : List pItem) : Nat → pItem := fun i => its.getD i none
abbrev zT (bs : List Nat) : Nat → Nat := fun i => bs.getD i 0
end
section
set_option maxHeartbeats 4000000 in
set_option maxRecDepth 100000 in
/-- Pattern.isStar(i), i an item -/
theorem c_Pattern_isStar (l : Launch) (D : va_G) (kA : Nat → ClassId) (Z : Nat → Prop) (a : Nat) (its : List pItem) (i : Nat) (hi : i < its.length) : Met l y_Pattern_isStar (Cond.code y_Pattern_isStar b_Pattern_isStar 2 (some .boolean) :: zTB) { frames := 0, cells := 0, slots := 0, locals := 0 } (zk_Pc D classes (zTY kA) [.ref a, .int (nI i)] (fun H => PtAt D kA Z H a its)) (zk_pE (fun v => (its.getD i none = none ∧ v = .int 1) ∨ (its.getD i none ≠ none ∧ v = .int 0))) 0 0 zk_no := by
  refine zk_of [.ref a, .int (nI i)] (by decide) (Nat.le_of_ble_eq_true rfl) ?_
  intro p e s m below meth c S hr hlk hnm hK hX hpre ls hl
  obtain ⟨hx, hb, hml, hown, ht⟩ := id S
  have hpt := hpre
  obtain ⟨sa, za, mm, sf, zf, ⟨ha, hsa, hza⟩, hP1, hP2, hP3, hrep⟩ := id hpt
  obtain ⟨r1, r2, r3⟩ := id hrep
  have hl : lv_has ls 2 [(0, .ref a), (1, .int (nI i))] := hl
  refine lv_iload_n hx hb d_Pattern_isStar_0 rfl (lv_at hl 1 rfl) ?_
  refine lv_if_lt (tgt := 26) hx hb d_Pattern_isStar_1 (by decide) (fun c1 => ?_) (fun c1 => ?_)
  · exact absurd c1 (nI_pos (by omega))
  · refine lv_iload_n hx hb d_Pattern_isStar_4 rfl (lv_at hl 1 rfl) ?_
    refine lv_aload_n hx hb d_Pattern_isStar_5 rfl (lv_at hl 0 rfl) ?_
    refine zk_get (C := R_Pattern) (T := F_Pattern) (N := 3) S hK hP1 rfl i_Pattern 1 (by decide) m_Pattern_30 rfl rfl d_Pattern_isStar_6 ?_
    refine zk_alen S hK 2 hP3 rfl (v := nI mm) rfl d_Pattern_isStar_9 ?_
    refine lv_icmp_ge (tgt := 26) hx hb d_Pattern_isStar_10 (by decide) (fun c10 => ?_) (fun c10 => ?_)
    · exact absurd c10 (nI_ge (by omega) (by omega))
    · refine lv_aload_n hx hb d_Pattern_isStar_13 rfl (lv_at hl 0 rfl) ?_
      refine zk_get (C := R_Pattern) (T := F_Pattern) (N := 3) S hK hP1 rfl i_Pattern 1 (by decide) m_Pattern_30 rfl rfl d_Pattern_isStar_14 ?_
      refine lv_iload_n hx hb d_Pattern_isStar_17 rfl (lv_at hl 1 rfl) ?_
      refine zk_zald S hK 2 hP3 rfl (vp_in_nI (by omega) (by omega)) d_Pattern_isStar_18 ?_
      refine zk_ti (z := zf i) (by rw [nI_clamp (by omega)]) ?_
      refine lv_if_eq (tgt := 26) hx hb d_Pattern_isStar_19 (by decide) (fun c19 => ?_) (fun c19 => ?_)
      · refine lv_iconst (v := 0) hx hb d_Pattern_isStar_26 (by decide) ?_
        exact zk_retzE S hr (by decide) hlk (Or.inr ⟨fun q => absurd c19 (by rw [(r3 i hi).1 q]; decide), rfl⟩) d_Pattern_isStar_27
      · refine lv_iconst (v := 1) hx hb d_Pattern_isStar_22 (by decide) ?_
        refine lv_goto (tgt := 27) hx hb d_Pattern_isStar_23 (by decide) ?_
        exact zk_retzE S hr (by decide) hlk (Or.inl ⟨by
          cases q : its.getD i none with
          | none => rfl
          | some SS => exact absurd ((r3 i hi).2 SS q).1 c19, rfl⟩) d_Pattern_isStar_27

set_option maxHeartbeats 4000000 in
set_option maxRecDepth 100000 in
/-- Pattern.starOrEndFrom(i) -/
theorem c_Pattern_starOrEndFrom (l : Launch) (D : va_G) (kA : Nat → ClassId) (Z : Nat → Prop) (a : Nat) (its : List pItem) (i : Nat) (hi : i < 2 ^ 20) : Met l y_Pattern_starOrEndFrom (Cond.code y_Pattern_starOrEndFrom b_Pattern_starOrEndFrom 3 (some .int) :: zTB) { frames := 1, cells := 0, slots := 0, locals := 21 } (zk_Pc D classes (zTY kA) [.ref a, .int (nI i)] (fun H => PtAt D kA Z H a its)) (zk_pE (fun v => ∃ j, v = .int (nI j) ∧ i ≤ j ∧ (∀ k, i ≤ k → k < j → k < its.length ∧ its.getD k none ≠ none) ∧ (its.length ≤ j ∨ its.getD j none = none))) 0 0 zk_no := by
  refine zk_of [.ref a, .int (nI i)] (by decide) (Nat.le_of_ble_eq_true rfl) ?_
  intro p e s m below meth c S hr hlk hnm hK hX hpre ls hl
  obtain ⟨hx, hb, hml, hown, ht⟩ := id S
  have hpt := hpre
  obtain ⟨sa, za, mm, sf, zf, ⟨ha, hsa, hza⟩, hP1, hP2, hP3, hrep⟩ := id hpt
  obtain ⟨r1, r2, r3⟩ := id hrep
  have hl : lv_has ls 3 [(0, .ref a), (1, .int (nI i))] := hl
  refine lv_iload_n hx hb d_Pattern_starOrEndFrom_0 rfl (lv_at hl 1 rfl) ?_
  refine lv_istore_n (lv' := [(2, .int (nI i)), (0, .ref a), (1, .int (nI i))]) hx hb d_Pattern_starOrEndFrom_1 rfl hl (by decide) rfl (fun ls hl => ?_)
  have lp : ∀ (fu : Nat) (j : Nat), its.length - j < fu → i ≤ j → j ≤ i + its.length → (∀ k, i ≤ k → k < j → k < its.length ∧ its.getD k none ≠ none) → ∀ ls : Array Slot, lv_has ls 3 [(0, .ref a), (2, .int (nI j))] → W p l e { frames := 1, cells := 0, slots := 0, locals := 21 } s m [.ref a, .int (nI i)].toArray below meth c s.heap [] 0 0 (MQ below (zk_pE (fun v => ∃ j, v = .int (nI j) ∧ i ≤ j ∧ (∀ k, i ≤ k → k < j → k < its.length ∧ its.getD k none ≠ none) ∧ (its.length ≤ j ∨ its.getD j none = none))) [.ref a, .int (nI i)].toArray s 0 0 zk_no) (F0 m 2 ls []) := by
    intro fu
    induction fu with
    | zero => intro j hn; exact absurd hn (Nat.not_lt_zero _)
    | succ fu ih =>
      intro j hn hij hj2 hno ls hl
      refine lv_iload_n hx hb d_Pattern_starOrEndFrom_2 rfl (lv_at hl 1 rfl) ?_
      refine lv_aload_n hx hb d_Pattern_starOrEndFrom_3 rfl (lv_at hl 0 rfl) ?_
      refine zk_get (C := R_Pattern) (T := F_Pattern) (N := 3) S hK hP1 rfl i_Pattern 2 (by decide) m_Pattern_39 rfl rfl d_Pattern_starOrEndFrom_4 ?_
      refine lv_icmp_ge (tgt := 24) hx hb d_Pattern_starOrEndFrom_7 (by decide) (fun c7 => ?_) (fun c7 => ?_)
      · refine lv_iload_n hx hb d_Pattern_starOrEndFrom_24 rfl (lv_at hl 1 rfl) ?_
        exact zk_retiE S hr hlk ⟨j, rfl, hij, hno, Or.inl ((nI_leI (by omega) (by omega)).mp c7)⟩ d_Pattern_starOrEndFrom_25
      · have hlt : j < its.length := Nat.not_le.mp fun z => c7 (nI_le z (by omega))
        refine lv_aload_n hx hb d_Pattern_starOrEndFrom_10 rfl (lv_at hl 0 rfl) ?_
        refine lv_iload_n hx hb d_Pattern_starOrEndFrom_11 rfl (lv_at hl 1 rfl) ?_
        refine zk_pureE (zk_runV (As := [.int (nI j)]) (rest := []) S m_Pattern_67 (c_Pattern_isStar l D kA Z a its j hlt) rfl rfl ⟨Nat.le_of_ble_eq_true rfl, Nat.le_of_ble_eq_true rfl⟩ hK hX (zk_recv hK hP1 rfl) (hpt) rfl hl.1 rfl (Nat.le_of_ble_eq_true rfl) ⟨Nat.le_of_ble_eq_true rfl, Nat.le_of_ble_eq_true rfl⟩ d_Pattern_starOrEndFrom_12) (fun v hv => ?_)
        rcases hv with ⟨hs, rfl⟩ | ⟨hs, rfl⟩
        · refine lv_if_ne (tgt := 24) hx hb d_Pattern_starOrEndFrom_15 (by decide) (fun c15 => ?_) (fun c15 => ?_)
          · refine lv_iload_n hx hb d_Pattern_starOrEndFrom_24 rfl (lv_at hl 1 rfl) ?_
            exact zk_retiE S hr hlk ⟨j, rfl, hij, hno, Or.inr hs⟩ d_Pattern_starOrEndFrom_25
          · exact absurd c15 (by decide)
        · refine lv_if_ne (tgt := 24) hx hb d_Pattern_starOrEndFrom_15 (by decide) (fun c15 => ?_) (fun c15 => ?_)
          · exact absurd rfl c15
          · refine lv_iinc (v := (nI (j + 1))) (lv' := [(2, .int (nI (j + 1))), (0, .ref a)]) hx hb d_Pattern_starOrEndFrom_18 hl (k := 1) rfl (nI_1 j) (by decide) rfl (fun ls hl => ?_)
            refine lv_goto (tgt := 2) hx hb d_Pattern_starOrEndFrom_21 (by decide) ?_
            exact ih (j + 1) (by omega) (by omega) (by omega) (fun k h1 h2 => by
              by_cases e : k = j
              · rw [e]; exact ⟨hlt, hs⟩
              · exact hno k h1 (by omega)) ls (lv_sub hl [1, 0] rfl)
  exact lp (its.length + 1) i (by omega) (Nat.le_refl _) (by omega) (fun k h1 h2 => absurd h1 (by omega)) ls (lv_sub hl [1, 0] rfl)

set_option maxHeartbeats 4000000 in
set_option maxRecDepth 100000 in
/-- Pattern.behindLastStar() -/
theorem c_Pattern_behindLastStar (l : Launch) (D : va_G) (kA : Nat → ClassId) (Z : Nat → Prop) (a : Nat) (its : List pItem) : Met l y_Pattern_behindLastStar (Cond.code y_Pattern_behindLastStar b_Pattern_behindLastStar 2 (some .int) :: zTB) { frames := 1, cells := 0, slots := 0, locals := 21 } (zk_Pc D classes (zTY kA) [.ref a] (fun H => PtAt D kA Z H a its)) (zk_pE (fun v => ∃ j, v = .int (nI j) ∧ j ≤ its.length ∧ (∀ k, j ≤ k → k < its.length → its.getD k none ≠ none) ∧ (j = 0 ∨ its.getD (j - 1) none = none))) 0 0 zk_no := by
  refine zk_of [.ref a] (by decide) (Nat.le_of_ble_eq_true rfl) ?_
  intro p e s m below meth c S hr hlk hnm hK hX hpre ls hl
  obtain ⟨hx, hb, hml, hown, ht⟩ := id S
  have hpt := hpre
  obtain ⟨sa, za, mm, sf, zf, ⟨ha, hsa, hza⟩, hP1, hP2, hP3, hrep⟩ := id hpt
  obtain ⟨r1, r2, r3⟩ := id hrep
  have hl : lv_has ls 2 [(0, .ref a)] := hl
  refine lv_aload_n hx hb d_Pattern_behindLastStar_0 rfl (lv_at hl 0 rfl) ?_
  refine zk_get (C := R_Pattern) (T := F_Pattern) (N := 3) S hK hP1 rfl i_Pattern 2 (by decide) m_Pattern_39 rfl rfl d_Pattern_behindLastStar_1 ?_
  refine lv_istore_n (lv' := [(1, .int (nI its.length)), (0, .ref a)]) hx hb d_Pattern_behindLastStar_4 rfl hl (by decide) rfl (fun ls hl => ?_)
  have lp : ∀ (fu : Nat) (j : Nat), j < fu → j ≤ its.length → (∀ k, j ≤ k → k < its.length → its.getD k none ≠ none) → ∀ ls : Array Slot, lv_has ls 2 [(0, .ref a), (1, .int (nI j))] → W p l e { frames := 1, cells := 0, slots := 0, locals := 21 } s m [.ref a].toArray below meth c s.heap [] 0 0 (MQ below (zk_pE (fun v => ∃ j, v = .int (nI j) ∧ j ≤ its.length ∧ (∀ k, j ≤ k → k < its.length → its.getD k none ≠ none) ∧ (j = 0 ∨ its.getD (j - 1) none = none))) [.ref a].toArray s 0 0 zk_no) (F0 m 5 ls []) := by
    intro fu
    induction fu with
    | zero => intro j hn; exact absurd hn (Nat.not_lt_zero _)
    | succ fu ih =>
      intro j hn hj hno ls hl
      refine lv_iload_n hx hb d_Pattern_behindLastStar_5 rfl (lv_at hl 1 rfl) ?_
      refine lv_if_le (tgt := 25) hx hb d_Pattern_behindLastStar_6 (by decide) (fun c6 => ?_) (fun c6 => ?_)
      · refine lv_iload_n hx hb d_Pattern_behindLastStar_25 rfl (lv_at hl 1 rfl) ?_
        exact zk_retiE S hr hlk ⟨j, rfl, hj, hno, Or.inl (by
          by_cases z : j = 0
          · exact z
          · exact absurd c6 (nI_nle (by omega) (by omega)))⟩ d_Pattern_behindLastStar_26
      · have j0 : 0 < j := by
          by_cases z : j = 0
          · exact absurd (show nI j ≤ 0 by rw [z]; decide) c6
          · omega
        refine lv_aload_n hx hb d_Pattern_behindLastStar_9 rfl (lv_at hl 0 rfl) ?_
        refine lv_iload_n hx hb d_Pattern_behindLastStar_10 rfl (lv_at hl 1 rfl) ?_
        refine lv_iconst (v := 1) hx hb d_Pattern_behindLastStar_11 (by decide) ?_
        refine lv_isub hx hb d_Pattern_behindLastStar_12 ?_
        refine zk_ti (z := nI (j - 1)) (by rw [show (1 : Int32) = nI 1 from rfl]; exact pk_sub (by omega)) ?_
        refine zk_pureE (zk_runV (As := [.int (nI (j - 1))]) (rest := []) S m_Pattern_67 (c_Pattern_isStar l D kA Z a its (j - 1) (by omega)) rfl rfl ⟨Nat.le_of_ble_eq_true rfl, Nat.le_of_ble_eq_true rfl⟩ hK hX (zk_recv hK hP1 rfl) (hpt) rfl hl.1 rfl (Nat.le_of_ble_eq_true rfl) ⟨Nat.le_of_ble_eq_true rfl, Nat.le_of_ble_eq_true rfl⟩ d_Pattern_behindLastStar_13) (fun v hv => ?_)
        rcases hv with ⟨hs, rfl⟩ | ⟨hs, rfl⟩
        · refine lv_if_ne (tgt := 25) hx hb d_Pattern_behindLastStar_16 (by decide) (fun c16 => ?_) (fun c16 => ?_)
          · refine lv_iload_n hx hb d_Pattern_behindLastStar_25 rfl (lv_at hl 1 rfl) ?_
            exact zk_retiE S hr hlk ⟨j, rfl, hj, hno, Or.inr hs⟩ d_Pattern_behindLastStar_26
          · exact absurd c16 (by decide)
        · refine lv_if_ne (tgt := 25) hx hb d_Pattern_behindLastStar_16 (by decide) (fun c16 => ?_) (fun c16 => ?_)
          · exact absurd rfl c16
          · refine lv_iinc (v := (nI (j - 1))) (lv' := [(1, .int (nI (j - 1))), (0, .ref a)]) hx hb d_Pattern_behindLastStar_19 hl (k := 1) rfl (sb_m1 j0) (by decide) rfl (fun ls hl => ?_)
            refine lv_goto (tgt := 5) hx hb d_Pattern_behindLastStar_22 (by decide) ?_
            exact ih (j - 1) (by omega) (by omega) (fun k h1 h2 => by
              by_cases e : k = j - 1
              · rw [e]; exact hs
              · exact hno k (by omega) h2) ls (lv_sub hl [1, 0] rfl)
  exact lp (its.length + 1) its.length (by omega) (Nat.le_refl _) (fun k h1 h2 => absurd h1 (by omega)) ls (lv_sub hl [1, 0] rfl)
end
section
theorem zNe1 {n : Nat} (h : n < 2 ^ 31) : ¬ nI n = -1 := by
  intro q
  have h1 := congrArg Int32.toInt q
  rw [nI_toInt h, show (-1 : Int32).toInt = -1 by decide] at h1
  omega
set_option maxHeartbeats 4000000 in
set_option maxRecDepth 100000 in
/-- Pattern.standsAt(text, place, item, runEnd) -/
theorem c_Pattern_standsAt (l : Launch) (D : va_G) (kA : Nat → ClassId) (Z : Nat → Prop) (a : Nat) (its : List pItem) (o lim : Nat) (bs : List Nat) (q i e0 : Nat) (hie : i ≤ e0) (he : e0 ≤ its.length) (hq : q ≤ bs.length) (hns : ∀ j, i ≤ j → j < e0 → its.getD j none ≠ none) : Met l y_Pattern_standsAt (Cond.code y_Pattern_standsAt b_Pattern_standsAt 8 (some .boolean) :: zTB) { frames := 1, cells := 0, slots := 0, locals := 21 } (zk_Pc D classes (zTY kA) [.ref a, .ref o, .int (nI q), .int (nI i), .int (nI e0)] (fun H => PtAt D kA Z H a its ∧ BsAt D kA Z H o lim bs)) (zk_pE (fun v => (pRun (zT bs) (zIt its) i (e0 - i) q ∧ q + (e0 - i) ≤ bs.length ∧ v = .int 1) ∨ (¬ (pRun (zT bs) (zIt its) i (e0 - i) q ∧ q + (e0 - i) ≤ bs.length) ∧ v = .int 0))) 0 0 zk_no := by
  refine zk_of [.ref a, .ref o, .int (nI q), .int (nI i), .int (nI e0)] (by decide) (Nat.le_of_ble_eq_true rfl) ?_
  intro p e s m below meth c S hr hlk hnm hK hX hpre ls hl
  obtain ⟨hx, hb, hml, hown, ht⟩ := id S
  obtain ⟨hpt, hO⟩ := hpre
  obtain ⟨sa, za, mm, sf, zf, ⟨ha, hsa, hza⟩, hP1, hP2, hP3, hrep⟩ := id hpt
  obtain ⟨r1, r2, r3⟩ := id hrep
  obtain ⟨ro, no, fo, hzo1, hzo2, hO1, hO2, hO3⟩ := id hO
  obtain ⟨g1, g2, g3, g4, g5⟩ := id hO3
  have hl : lv_has ls 8 [(0, .ref a), (1, .ref o), (2, .int (nI q)), (3, .int (nI i)), (4, .int (nI e0))] := hl
  refine lv_iload_n hx hb d_Pattern_standsAt_0 rfl (lv_at hl 3 rfl) ?_
  refine lv_istore (lv' := [(5, .int (nI i)), (0, .ref a), (1, .ref o), (2, .int (nI q)), (3, .int (nI i)), (4, .int (nI e0))]) hx hb d_Pattern_standsAt_1 hl (by decide) rfl (fun ls hl => ?_)
  have lp : ∀ (fu : Nat) (k : Nat), e0 - k < fu → i ≤ k → k ≤ e0 → (∀ j, j < k - i → (∃ SS, zIt its (i + j) = some SS ∧ pIn SS (zT bs (q + j)) = true) ∧ q + j < bs.length) → ∀ ls : Array Slot, lv_has ls 8 [(0, .ref a), (1, .ref o), (2, .int (nI q)), (3, .int (nI i)), (4, .int (nI e0)), (5, .int (nI k))] → W p l e { frames := 1, cells := 0, slots := 0, locals := 21 } s m [.ref a, .ref o, .int (nI q), .int (nI i), .int (nI e0)].toArray below meth c s.heap [] 0 0 (MQ below (zk_pE (fun v => (pRun (zT bs) (zIt its) i (e0 - i) q ∧ q + (e0 - i) ≤ bs.length ∧ v = .int 1) ∨ (¬ (pRun (zT bs) (zIt its) i (e0 - i) q ∧ q + (e0 - i) ≤ bs.length) ∧ v = .int 0))) [.ref a, .ref o, .int (nI q), .int (nI i), .int (nI e0)].toArray s 0 0 zk_no) (F0 m 3 ls []) := by
    intro fu
    induction fu with
    | zero => intro k hn; exact absurd hn (Nat.not_lt_zero _)
    | succ fu ih =>
      intro k hn hik hke0 hok ls hl
      refine lv_iload hx hb d_Pattern_standsAt_3 (lv_at hl 5 rfl) ?_
      refine lv_iload hx hb d_Pattern_standsAt_5 (lv_at hl 4 rfl) ?_
      refine lv_icmp_ge (tgt := 83) hx hb d_Pattern_standsAt_7 (by decide) (fun c7 => ?_) (fun c7 => ?_)
      · refine lv_iconst (v := 1) hx hb d_Pattern_standsAt_83 (by decide) ?_
        have hke : k = e0 := by
          have := (nI_leI (by omega) (by omega)).mp c7
          omega
        exact zk_retzE S hr (by decide) hlk (Or.inl ⟨fun j hj => (hok j (by omega)).1, by
          by_cases z : e0 - i = 0
          · rw [z]; omega
          · have := (hok (e0 - i - 1) (by omega)).2
            omega, rfl⟩) d_Pattern_standsAt_84
      · have hlt : k < e0 := Nat.not_le.mp fun z => c7 (nI_le z (by omega))
        refine lv_aload_n hx hb d_Pattern_standsAt_10 rfl (lv_at hl 1 rfl) ?_
        refine lv_iload_n hx hb d_Pattern_standsAt_11 rfl (lv_at hl 2 rfl) ?_
        refine lv_iload hx hb d_Pattern_standsAt_12 (lv_at hl 5 rfl) ?_
        refine lv_iadd hx hb d_Pattern_standsAt_14 ?_
        refine zk_ti (z := nI (q + k)) (nI_add _ _) ?_
        refine lv_iload_n hx hb d_Pattern_standsAt_15 rfl (lv_at hl 3 rfl) ?_
        refine lv_isub hx hb d_Pattern_standsAt_16 ?_
        refine zk_ti (z := nI (q + k - i)) (pk_sub (by omega)) ?_
        refine zk_pure (zk_runV (As := [.int (nI (q + k - i))]) (rest := []) S m_Pattern_88 (c_Bytes_at l D kA Z o lim bs (nI (q + k - i))) rfl rfl ⟨Nat.le_of_ble_eq_true rfl, Nat.le_of_ble_eq_true rfl⟩ hK hX (zk_recv hK hO1 rfl) (hO) rfl hl.1 rfl (Nat.le_of_ble_eq_true rfl) ⟨Nat.le_of_ble_eq_true rfl, Nat.le_of_ble_eq_true rfl⟩ d_Pattern_standsAt_17) ?_
        rcases Nat.lt_or_ge (q + k - i) bs.length with hin | hin
        · refine zk_ti (z := nI (bs.getD (q + k - i) 0)) (bAt_nI (by omega) hin) ?_
          have hv := (g5 _ hin).1
          refine lv_istore (lv' := [(6, .int (nI (bs.getD (q + k - i) 0))), (0, .ref a), (1, .ref o), (2, .int (nI q)), (3, .int (nI i)), (4, .int (nI e0)), (5, .int (nI k))]) hx hb d_Pattern_standsAt_20 hl (by decide) rfl (fun ls hl => ?_)
          refine lv_iload hx hb d_Pattern_standsAt_22 (lv_at hl 6 rfl) ?_
          refine lv_iconst (v := 4) hx hb d_Pattern_standsAt_24 (by decide) ?_
          refine lv_imul hx hb d_Pattern_standsAt_25 ?_
          refine zk_ti (z := nI (k * 4)) (show nI k * nI 4 = _ from pk_mul k 4) ?_
          refine lv_iload hx hb d_Pattern_standsAt_26 (lv_at hl 0 rfl) ?_
          refine lv_bipush (v := 6) hx hb d_Pattern_standsAt_28 (by decide) ?_
          refine lv_ishr hx hb d_Pattern_standsAt_30 ?_
          refine zk_ti (z := nI ((bs.getD (q + k - i) 0) / 64)) (pk_shrN (by omega) _ 6 (by decide)) ?_
          refine lv_iadd hx hb d_Pattern_standsAt_31 ?_
          refine zk_ti (z := nI (k * 4 + (bs.getD (q + k - i) 0) / 64)) (nI_add _ _) ?_
          refine lv_istore (lv' := [(7, .int (nI (k * 4 + (bs.getD (q + k - i) 0) / 64))), (6, .int (nI (bs.getD (q + k - i) 0))), (0, .ref a), (1, .ref o), (2, .int (nI q)), (3, .int (nI i)), (4, .int (nI e0)), (5, .int (nI k))]) hx hb d_Pattern_standsAt_32 hl (by decide) rfl (fun ls hl => ?_)
          refine lv_iload hx hb d_Pattern_standsAt_34 (lv_at hl 1 rfl) ?_
          refine lv_iconst (v := (-1)) hx hb d_Pattern_standsAt_36 (by decide) ?_
          refine lv_icmp_eq (tgt := 75) hx hb d_Pattern_standsAt_37 (by decide) (fun c37 => ?_) (fun c37 => ?_)
          · exact absurd c37 (zNe1 (by omega))
          · refine lv_iload hx hb d_Pattern_standsAt_40 (lv_at hl 0 rfl) ?_
            refine lv_if_lt (tgt := 75) hx hb d_Pattern_standsAt_42 (by decide) (fun c42 => ?_) (fun c42 => ?_)
            · exact absurd c42 (nI_pos (by omega))
            · refine lv_iload hx hb d_Pattern_standsAt_45 (lv_at hl 0 rfl) ?_
              refine lv_aload_n hx hb d_Pattern_standsAt_47 rfl (lv_at hl 2 rfl) ?_
              refine zk_get (C := R_Pattern) (T := F_Pattern) (N := 3) S hK hP1 rfl i_Pattern 0 (by decide) m_Pattern_26 rfl rfl d_Pattern_standsAt_48 ?_
              refine zk_alen S hK 1 hP2 rfl (v := nI (mm * 4)) rfl d_Pattern_standsAt_51 ?_
              refine lv_icmp_ge (tgt := 75) hx hb d_Pattern_standsAt_52 (by decide) (fun c52 => ?_) (fun c52 => ?_)
              · exact absurd ((nI_leI (by omega) (by omega)).mp c52) (by omega)
              · refine lv_aload_n hx hb d_Pattern_standsAt_55 rfl (lv_at hl 2 rfl) ?_
                refine zk_get (C := R_Pattern) (T := F_Pattern) (N := 3) S hK hP1 rfl i_Pattern 0 (by decide) m_Pattern_26 rfl rfl d_Pattern_standsAt_56 ?_
                refine lv_iload hx hb d_Pattern_standsAt_59 (lv_at hl 0 rfl) ?_
                refine zk_lald S hK 1 hP2 rfl (vp_in_nI (by omega) (by omega)) d_Pattern_standsAt_61 ?_
                refine zk_tl (z := sf (k * 4 + (bs.getD (q + k - i) 0) / 64)) (by rw [nI_clamp (by omega)]) ?_
                refine lv_iload hx hb d_Pattern_standsAt_62 (lv_at hl 1 rfl) ?_
                refine lv_bipush (v := 63) hx hb d_Pattern_standsAt_64 (by decide) ?_
                refine lv_iand hx hb d_Pattern_standsAt_66 ?_
                refine zk_ti (z := nI ((bs.getD (q + k - i) 0) % 64)) (pk_andN (by omega) 6 (by decide)) ?_
                refine lv_lushr hx hb d_Pattern_standsAt_67 rfl ?_
                refine lv_topl (fun v67 e67 => ?_)
                refine lv_lconst (v := 1) hx hb d_Pattern_standsAt_68 (by decide) ?_
                refine lv_land hx hb d_Pattern_standsAt_69 ?_
                refine lv_lconst (v := 0) hx hb d_Pattern_standsAt_70 (by decide) ?_
                refine W.lcmp hx hb d_Pattern_standsAt_71 ?_
                refine lv_if_ne (tgt := 77) hx hb d_Pattern_standsAt_72 (by decide) (fun c72 => ?_) (fun c72 => ?_)
                · have hb1 : zSb sf k (bs.getD (q + k - i) 0) = true := by
                    cases hbb : zSb sf k (bs.getD (q + k - i) 0) with
                    | true => rfl
                    | false => exact absurd ((lg_cmp_eq _ _).mpr (by rw [e67]; exact (zBit_test (Nat.mod_lt _ (by decide))).mpr hbb)) c72
                  refine lv_iinc (v := (nI (k + 1))) (lv' := [(5, .int (nI (k + 1))), (7, .int (nI (k * 4 + (bs.getD (q + k - i) 0) / 64))), (6, .int (nI (bs.getD (q + k - i) 0))), (0, .ref a), (1, .ref o), (2, .int (nI q)), (3, .int (nI i)), (4, .int (nI e0))]) hx hb d_Pattern_standsAt_77 hl (k := 7) rfl (nI_1 k) (by decide) rfl (fun ls hl => ?_)
                  refine lv_goto (tgt := 3) hx hb d_Pattern_standsAt_80 (by decide) ?_
                  exact ih (k + 1) (by omega) (by omega) (by omega) (fun j hj => by
                    by_cases z : j = k - i
                    · rw [z, show i + (k - i) = k by omega, show q + (k - i) = q + k - i by omega]
                      refine ⟨?_, hin⟩
                      cases hs : its.getD k none with
                      | none => exact absurd hs (hns k hik hlt)
                      | some SS => exact ⟨SS, hs, by rw [← ((r3 k (by omega)).2 SS hs).2 _ hv]; exact hb1⟩
                    · exact hok j (by omega)) ls (lv_sub hl [3, 4, 5, 6, 7, 0] rfl)
                · refine lv_iconst (v := 0) hx hb d_Pattern_standsAt_75 (by decide) ?_
                  exact zk_retzE S hr (by decide) hlk (Or.inr ⟨fun z => by
                    obtain ⟨SS, z1, z2⟩ := z.1 (k - i) (by omega)
                    rw [show i + (k - i) = k by omega] at z1
                    have hb0 : zSb sf k (bs.getD (q + k - i) 0) = false := (zBit_test (Nat.mod_lt _ (by decide))).mp (by rw [← e67]; exact (lg_cmp_eq _ _).mp c72)
                    rw [((r3 k (by omega)).2 SS z1).2 _ hv] at hb0
                    rw [show q + (k - i) = q + k - i by omega] at z2
                    exact absurd (hb0.symm.trans z2) (by decide), rfl⟩) d_Pattern_standsAt_76
        · refine zk_ti (z := -1) (bAt_nIge (by omega) hin) ?_
          refine lv_istore (lv' := [(6, .int (-1)), (0, .ref a), (1, .ref o), (2, .int (nI q)), (3, .int (nI i)), (4, .int (nI e0)), (5, .int (nI k))]) hx hb d_Pattern_standsAt_20 hl (by decide) rfl (fun ls hl => ?_)
          refine lv_iload hx hb d_Pattern_standsAt_22 (lv_at hl 6 rfl) ?_
          refine lv_iconst (v := 4) hx hb d_Pattern_standsAt_24 (by decide) ?_
          refine lv_imul hx hb d_Pattern_standsAt_25 ?_
          refine zk_ti (z := nI (k * 4)) (show nI k * nI 4 = _ from pk_mul k 4) ?_
          refine lv_iload hx hb d_Pattern_standsAt_26 (lv_at hl 0 rfl) ?_
          refine lv_bipush (v := 6) hx hb d_Pattern_standsAt_28 (by decide) ?_
          refine lv_ishr hx hb d_Pattern_standsAt_30 ?_
          refine lv_iadd hx hb d_Pattern_standsAt_31 ?_
          refine lv_istore (lv' := [(7, .int ((nI (k * 4)) + ((-1 : Int32) >>> ((6 : Int32) &&& 31)))), (6, .int (-1)), (0, .ref a), (1, .ref o), (2, .int (nI q)), (3, .int (nI i)), (4, .int (nI e0)), (5, .int (nI k))]) hx hb d_Pattern_standsAt_32 hl (by decide) rfl (fun ls hl => ?_)
          refine lv_iload hx hb d_Pattern_standsAt_34 (lv_at hl 1 rfl) ?_
          refine lv_iconst (v := (-1)) hx hb d_Pattern_standsAt_36 (by decide) ?_
          refine lv_icmp_eq (tgt := 75) hx hb d_Pattern_standsAt_37 (by decide) (fun c37 => ?_) (fun c37 => ?_)
          · refine lv_iconst (v := 0) hx hb d_Pattern_standsAt_75 (by decide) ?_
            exact zk_retzE S hr (by decide) hlk (Or.inr ⟨fun z => absurd z.2 (by omega), rfl⟩) d_Pattern_standsAt_76
          · exact absurd rfl c37
  exact lp (e0 + 1) i (by omega) (Nat.le_refl _) hie (fun j hj => absurd hj (by omega)) ls (lv_sub hl [1, 2, 3, 4, 5, 0] rfl)

set_option maxHeartbeats 4000000 in
set_option maxRecDepth 100000 in
/-- Pattern.earliestPlace(text, from, to, item, runEnd) -/
theorem c_Pattern_earliestPlace (l : Launch) (D : va_G) (kA : Nat → ClassId) (Z : Nat → Prop) (a : Nat) (its : List pItem) (o lim : Nat) (bs : List Nat) (q to i e0 : Nat) (hie : i ≤ e0) (he : e0 ≤ its.length) (hq : q < 2 ^ 20) (hto : to ≤ bs.length) (hns : ∀ j, i ≤ j → j < e0 → its.getD j none ≠ none) : Met l y_Pattern_earliestPlace (Cond.code y_Pattern_earliestPlace b_Pattern_earliestPlace 7 (some .int) :: zTB) { frames := 2, cells := 0, slots := 0, locals := 48 } (zk_Pc D classes (zTY kA) [.ref a, .ref o, .int (nI q), .int (nI to), .int (nI i), .int (nI e0)] (fun H => PtAt D kA Z H a its ∧ BsAt D kA Z H o lim bs)) (zk_pE (fun v => ∃ rr, v = .int (zI rr) ∧ pPlace (zT bs) (zIt its) i (e0 - i) q to rr)) 0 0 zk_no := by
  refine zk_of [.ref a, .ref o, .int (nI q), .int (nI to), .int (nI i), .int (nI e0)] (by decide) (Nat.le_of_ble_eq_true rfl) ?_
  intro p e s m below meth c S hr hlk hnm hK hX hpre ls hl
  obtain ⟨hx, hb, hml, hown, ht⟩ := id S
  obtain ⟨hpt, hO⟩ := hpre
  obtain ⟨sa, za, mm, sf, zf, ⟨ha, hsa, hza⟩, hP1, hP2, hP3, hrep⟩ := id hpt
  obtain ⟨r1, r2, r3⟩ := id hrep
  obtain ⟨ro, no, fo, hzo1, hzo2, hO1, hO2, hO3⟩ := id hO
  obtain ⟨g1, g2, g3, g4, g5⟩ := id hO3
  have hl : lv_has ls 7 [(0, .ref a), (1, .ref o), (2, .int (nI q)), (3, .int (nI to)), (4, .int (nI i)), (5, .int (nI e0))] := hl
  refine lv_iload_n hx hb d_Pattern_earliestPlace_0 rfl (lv_at hl 2 rfl) ?_
  refine lv_istore (lv' := [(6, .int (nI q)), (0, .ref a), (1, .ref o), (2, .int (nI q)), (3, .int (nI to)), (4, .int (nI i)), (5, .int (nI e0))]) hx hb d_Pattern_earliestPlace_1 hl (by decide) rfl (fun ls hl => ?_)
  have lp : ∀ (fu : Nat) (k : Nat), to + 1 - k < fu → q ≤ k → k < 2 ^ 20 + 1 → (∀ k', q ≤ k' → k' < k → k' + (e0 - i) ≤ to → ¬ pRun (zT bs) (zIt its) i (e0 - i) k') → ∀ ls : Array Slot, lv_has ls 7 [(0, .ref a), (1, .ref o), (3, .int (nI to)), (4, .int (nI i)), (5, .int (nI e0)), (6, .int (nI k))] → W p l e { frames := 2, cells := 0, slots := 0, locals := 48 } s m [.ref a, .ref o, .int (nI q), .int (nI to), .int (nI i), .int (nI e0)].toArray below meth c s.heap [] 0 0 (MQ below (zk_pE (fun v => ∃ rr, v = .int (zI rr) ∧ pPlace (zT bs) (zIt its) i (e0 - i) q to rr)) [.ref a, .ref o, .int (nI q), .int (nI to), .int (nI i), .int (nI e0)].toArray s 0 0 zk_no) (F0 m 3 ls []) := by
    intro fu
    induction fu with
    | zero => intro k hn; exact absurd hn (Nat.not_lt_zero _)
    | succ fu ih =>
      intro k hn hqk hk2 hno ls hl
      refine lv_iload hx hb d_Pattern_earliestPlace_3 (lv_at hl 5 rfl) ?_
      refine lv_iload_n hx hb d_Pattern_earliestPlace_5 rfl (lv_at hl 2 rfl) ?_
      refine lv_iload hx hb d_Pattern_earliestPlace_6 (lv_at hl 4 rfl) ?_
      refine lv_iload hx hb d_Pattern_earliestPlace_8 (lv_at hl 3 rfl) ?_
      refine lv_isub hx hb d_Pattern_earliestPlace_10 ?_
      refine zk_ti (z := nI (e0 - i)) (pk_sub hie) ?_
      refine lv_isub hx hb d_Pattern_earliestPlace_11 ?_
      refine lv_icmp_gt (tgt := 38) hx hb d_Pattern_earliestPlace_12 (by decide) (fun c12 => ?_) (fun c12 => ?_)
      · refine lv_iconst (v := (-1)) hx hb d_Pattern_earliestPlace_38 (by decide) ?_
        have hgt : to < k + (e0 - i) := by
          have z := Int32.lt_iff_toInt_lt.mp c12
          rw [pk_sub_toInt (by omega) (by omega), nI_toInt (by omega)] at z
          omega
        exact zk_retiE S hr hlk ⟨none, rfl, fun k' h1 h2 h3 => hno k' h1 (by omega) h2 h3⟩ d_Pattern_earliestPlace_39
      · have hle : k + (e0 - i) ≤ to := by
          have z := mt Int32.lt_iff_toInt_lt.mpr c12
          rw [pk_sub_toInt (by omega) (by omega), nI_toInt (by omega)] at z
          omega
        refine lv_aload_n hx hb d_Pattern_earliestPlace_15 rfl (lv_at hl 0 rfl) ?_
        refine lv_aload_n hx hb d_Pattern_earliestPlace_16 rfl (lv_at hl 1 rfl) ?_
        refine lv_iload hx hb d_Pattern_earliestPlace_17 (lv_at hl 5 rfl) ?_
        refine lv_iload hx hb d_Pattern_earliestPlace_19 (lv_at hl 3 rfl) ?_
        refine lv_iload hx hb d_Pattern_earliestPlace_21 (lv_at hl 4 rfl) ?_
        refine zk_pureE (zk_runV (As := [.ref o, .int (nI k), .int (nI i), .int (nI e0)]) (rest := []) S m_Pattern_74 (c_Pattern_standsAt l D kA Z a its o lim bs k i e0 hie he (by omega) hns) rfl rfl ⟨Nat.le_of_ble_eq_true rfl, Nat.le_of_ble_eq_true rfl⟩ hK hX (zk_recv hK hP1 rfl) (⟨hpt, hO⟩) rfl hl.1 rfl (Nat.le_of_ble_eq_true rfl) ⟨Nat.le_of_ble_eq_true rfl, Nat.le_of_ble_eq_true rfl⟩ d_Pattern_earliestPlace_23) (fun v hv => ?_)
        rcases hv with ⟨hs1, hs2, rfl⟩ | ⟨hs1, rfl⟩
        · refine lv_if_eq (tgt := 32) hx hb d_Pattern_earliestPlace_26 (by decide) (fun c26 => ?_) (fun c26 => ?_)
          · exact absurd c26 (by decide)
          · refine lv_iload hx hb d_Pattern_earliestPlace_29 (lv_at hl 5 rfl) ?_
            exact zk_retiE S hr hlk ⟨some k, rfl, hqk, hle, hs1, fun k' h1 h2 h3 => Nat.not_lt.mp fun z => hno k' h1 z h2 h3⟩ d_Pattern_earliestPlace_31
        · refine lv_if_eq (tgt := 32) hx hb d_Pattern_earliestPlace_26 (by decide) (fun c26 => ?_) (fun c26 => ?_)
          · refine lv_iinc (v := (nI (k + 1))) (lv' := [(6, .int (nI (k + 1))), (0, .ref a), (1, .ref o), (3, .int (nI to)), (4, .int (nI i)), (5, .int (nI e0))]) hx hb d_Pattern_earliestPlace_32 hl (k := 5) rfl (nI_1 k) (by decide) rfl (fun ls hl => ?_)
            refine lv_goto (tgt := 3) hx hb d_Pattern_earliestPlace_35 (by decide) ?_
            exact ih (k + 1) (by omega) (by omega) (by omega) (fun k' h1 h2 h3 => by
              by_cases z : k' = k
              · rw [z]; exact fun y => hs1 ⟨y, by omega⟩
              · exact hno k' h1 (by omega) h3) ls (lv_sub hl [1, 2, 3, 4, 5, 0] rfl)
          · exact absurd rfl c26
  exact lp (to + 2) q (by omega) (Nat.le_refl _) (by omega) (fun k' h1 h2 => absurd h1 (by omega)) ls (lv_sub hl [1, 2, 4, 5, 6, 0] rfl)
end
section
set_option maxHeartbeats 4000000 in
set_option maxRecDepth 100000 in
/-- Pattern.earliestEnd(text, from, to, firstItem, itemsEnd) -/
theorem c_Pattern_earliestEnd (l : Launch) (D : va_G) (kA : Nat → ClassId) (Z : Nat → Prop) (a : Nat) (its : List pItem) (o lim : Nat) (bs : List Nat) (q to i0 ie : Nat) (hi0 : i0 ≤ ie) (hie : ie ≤ its.length) (hq : q ≤ to) (hto : to ≤ bs.length) : Met l y_Pattern_earliestEnd (Cond.code y_Pattern_earliestEnd b_Pattern_earliestEnd 9 (some .int) :: zTB) { frames := 3, cells := 0, slots := 0, locals := 74 } (zk_Pc D classes (zTY kA) [.ref a, .ref o, .int (nI q), .int (nI to), .int (nI i0), .int (nI ie)] (fun H => PtAt D kA Z H a its ∧ BsAt D kA Z H o lim bs)) (zk_pE (fun v => ∃ rr, v = .int (zI rr) ∧ pLeast (zT bs) (zIt its) (ie - i0) i0 q to rr)) 0 0 zk_no := by
  refine zk_of [.ref a, .ref o, .int (nI q), .int (nI to), .int (nI i0), .int (nI ie)] (by decide) (Nat.le_of_ble_eq_true rfl) ?_
  intro p e s m below meth c S hr hlk hnm hK hX hpre ls hl
  obtain ⟨hx, hb, hml, hown, ht⟩ := id S
  obtain ⟨hpt, hO⟩ := hpre
  obtain ⟨sa, za, mm, sf, zf, ⟨ha, hsa, hza⟩, hP1, hP2, hP3, hrep⟩ := id hpt
  obtain ⟨r1, r2, r3⟩ := id hrep
  obtain ⟨ro, no, fo, hzo1, hzo2, hO1, hO2, hO3⟩ := id hO
  obtain ⟨g1, g2, g3, g4, g5⟩ := id hO3
  have hl : lv_has ls 9 [(0, .ref a), (1, .ref o), (2, .int (nI q)), (3, .int (nI to)), (4, .int (nI i0)), (5, .int (nI ie))] := hl
  refine lv_iload_n hx hb d_Pattern_earliestEnd_0 rfl (lv_at hl 2 rfl) ?_
  refine lv_istore (lv' := [(6, .int (nI q)), (0, .ref a), (1, .ref o), (2, .int (nI q)), (3, .int (nI to)), (4, .int (nI i0)), (5, .int (nI ie))]) hx hb d_Pattern_earliestEnd_1 hl (by decide) rfl (fun ls hl => ?_)
  refine lv_iload hx hb d_Pattern_earliestEnd_3 (lv_at hl 5 rfl) ?_
  refine lv_istore (lv' := [(7, .int (nI i0)), (6, .int (nI q)), (0, .ref a), (1, .ref o), (2, .int (nI q)), (3, .int (nI to)), (4, .int (nI i0)), (5, .int (nI ie))]) hx hb d_Pattern_earliestEnd_5 hl (by decide) rfl (fun ls hl => ?_)
  have lp : ∀ (fu : Nat) (pl it : Nat), ie + 1 - it < fu → pl ≤ to → i0 ≤ it → it ≤ ie + 1 → ((it ≤ ie ∧ ∀ rr, pLeast (zT bs) (zIt its) (ie - it) it pl to rr → pLeast (zT bs) (zIt its) (ie - i0) i0 q to rr) ∨ (it = ie + 1 ∧ pLeast (zT bs) (zIt its) (ie - i0) i0 q to (some pl))) → ∀ ls : Array Slot, lv_has ls 9 [(0, .ref a), (1, .ref o), (3, .int (nI to)), (5, .int (nI ie)), (6, .int (nI pl)), (7, .int (nI it))] → W p l e { frames := 3, cells := 0, slots := 0, locals := 74 } s m [.ref a, .ref o, .int (nI q), .int (nI to), .int (nI i0), .int (nI ie)].toArray below meth c s.heap [] 0 0 (MQ below (zk_pE (fun v => ∃ rr, v = .int (zI rr) ∧ pLeast (zT bs) (zIt its) (ie - i0) i0 q to rr)) [.ref a, .ref o, .int (nI q), .int (nI to), .int (nI i0), .int (nI ie)].toArray s 0 0 zk_no) (F0 m 7 ls []) := by
    intro fu
    induction fu with
    | zero => intro pl it hn; exact absurd hn (Nat.not_lt_zero _)
    | succ fu ih =>
      intro pl it hn hpl0 hit1 hit2 hinv ls hl
      refine lv_iload hx hb d_Pattern_earliestEnd_7 (lv_at hl 5 rfl) ?_
      refine lv_iload hx hb d_Pattern_earliestEnd_9 (lv_at hl 3 rfl) ?_
      refine lv_icmp_ge (tgt := 73) hx hb d_Pattern_earliestEnd_11 (by decide) (fun c11 => ?_) (fun c11 => ?_)
      · refine lv_iload hx hb d_Pattern_earliestEnd_73 (lv_at hl 4 rfl) ?_
        have hge : ie ≤ it := (nI_leI (by omega) (by omega)).mp c11
        rcases hinv with ⟨z1, z2⟩ | ⟨z1, z2⟩
        · have : it = ie := by omega
          exact zk_retiE S hr hlk ⟨some pl, rfl, z2 _ (by rw [this, Nat.sub_self]; exact pLeast_0 hpl0)⟩ d_Pattern_earliestEnd_75
        · exact zk_retiE S hr hlk ⟨some pl, rfl, z2⟩ d_Pattern_earliestEnd_75
      · have hlt : it < ie := Nat.not_le.mp fun z => c11 (nI_le z (by omega))
        have hinv2 : ∀ rr, pLeast (zT bs) (zIt its) (ie - it) it pl to rr → pLeast (zT bs) (zIt its) (ie - i0) i0 q to rr := by
          rcases hinv with ⟨z1, z2⟩ | ⟨z1, z2⟩
          · exact z2
          · omega
        refine lv_iload hx hb d_Pattern_earliestEnd_14 (lv_at hl 3 rfl) ?_
        refine lv_aload_n hx hb d_Pattern_earliestEnd_16 rfl (lv_at hl 0 rfl) ?_
        refine lv_iload hx hb d_Pattern_earliestEnd_17 (lv_at hl 5 rfl) ?_
        refine zk_pureE (zk_runV (As := [.int (nI it)]) (rest := [.int (nI ie)]) S m_Pattern_71 (c_Pattern_starOrEndFrom l D kA Z a its it (by omega)) rfl rfl ⟨Nat.le_of_ble_eq_true rfl, Nat.le_of_ble_eq_true rfl⟩ hK hX (zk_recv hK hP1 rfl) (hpt) rfl hl.1 rfl (Nat.le_of_ble_eq_true rfl) ⟨Nat.le_of_ble_eq_true rfl, Nat.le_of_ble_eq_true rfl⟩ d_Pattern_earliestEnd_19) (fun v hv => ?_)
        obtain ⟨j, rfl, hj1, hj2, hj3⟩ := hv
        have hj4 : j ≤ it + its.length := by
          by_cases z : j = it
          · omega
          · have := (hj2 (j - 1) (by omega) (by omega)).1
            omega
        refine va_mmin hx hb (by rw [hml]; exact hl.1.symm) hown (ht _ m_Pattern_15) (ht _ m_min_s) (ht _ m_ini_Math) (ht _ m_min_c) (Nat.le_of_ble_eq_true rfl) (Nat.le_of_ble_eq_true rfl) (Nat.le_of_ble_eq_true rfl) (Nat.le_of_ble_eq_true rfl) d_Pattern_earliestEnd_22 ?_
        refine zk_ti (z := nI (min ie j)) (by
          by_cases z : j < ie
          · rw [if_pos (nI_lt z (by omega)), Nat.min_eq_right (by omega)]
          · rw [if_neg (nI_nlt (by omega) (by omega)), Nat.min_eq_left (by omega)]) ?_
        refine lv_istore (lv' := [(8, .int (nI (min ie j))), (0, .ref a), (1, .ref o), (3, .int (nI to)), (5, .int (nI ie)), (6, .int (nI pl)), (7, .int (nI it))]) hx hb d_Pattern_earliestEnd_25 hl (by decide) rfl (fun ls hl => ?_)
        refine lv_aload_n hx hb d_Pattern_earliestEnd_27 rfl (lv_at hl 1 rfl) ?_
        refine lv_aload_n hx hb d_Pattern_earliestEnd_28 rfl (lv_at hl 2 rfl) ?_
        refine lv_iload hx hb d_Pattern_earliestEnd_29 (lv_at hl 5 rfl) ?_
        refine lv_iload_n hx hb d_Pattern_earliestEnd_31 rfl (lv_at hl 3 rfl) ?_
        refine lv_iload hx hb d_Pattern_earliestEnd_32 (lv_at hl 6 rfl) ?_
        refine lv_iload hx hb d_Pattern_earliestEnd_34 (lv_at hl 0 rfl) ?_
        refine zk_pureE (zk_runV (As := [.ref o, .int (nI pl), .int (nI to), .int (nI it), .int (nI (min ie j))]) (rest := []) S m_Pattern_85 (c_Pattern_earliestPlace l D kA Z a its o lim bs pl to it (min ie j) (by omega) (by omega) (by omega) hto (fun k h1 h2 => (hj2 k h1 (by omega)).2)) rfl rfl ⟨Nat.le_of_ble_eq_true rfl, Nat.le_of_ble_eq_true rfl⟩ hK hX (zk_recv hK hP1 rfl) (⟨hpt, hO⟩) rfl hl.1 rfl (Nat.le_of_ble_eq_true rfl) ⟨Nat.le_of_ble_eq_true rfl, Nat.le_of_ble_eq_true rfl⟩ d_Pattern_earliestEnd_36) (fun v hv => ?_)
        rcases hv with ⟨_ | k, rfl, hpl⟩
        · refine zk_top (v' := .int (-1)) rfl ?_
          refine lv_istore (lv' := [(6, .int (-1)), (8, .int (nI (min ie j))), (0, .ref a), (1, .ref o), (3, .int (nI to)), (5, .int (nI ie)), (7, .int (nI it))]) hx hb d_Pattern_earliestEnd_39 hl (by decide) rfl (fun ls hl => ?_)
          refine lv_iload hx hb d_Pattern_earliestEnd_41 (lv_at hl 0 rfl) ?_
          refine lv_iconst (v := (-1)) hx hb d_Pattern_earliestEnd_43 (by decide) ?_
          refine lv_icmp_ne (tgt := 49) hx hb d_Pattern_earliestEnd_44 (by decide) (fun c44 => ?_) (fun c44 => ?_)
          · exact absurd rfl c44
          · refine lv_iconst (v := (-1)) hx hb d_Pattern_earliestEnd_47 (by decide) ?_
            exact zk_retiE S hr hlk ⟨none, rfl, hinv2 none (by
              have := pLeast_no (n := ie - (min ie j)) (fun z hz => (hj2 (it + z) (by omega) (by omega)).2) hpl
              rw [show (min ie j) - it + (ie - (min ie j)) = ie - it by omega] at this
              exact this)⟩ d_Pattern_earliestEnd_48
        · refine zk_top (v' := .int (nI k)) rfl ?_
          obtain ⟨y1, y2, y3, y4⟩ := id hpl
          refine lv_istore (lv' := [(6, .int (nI k)), (8, .int (nI (min ie j))), (0, .ref a), (1, .ref o), (3, .int (nI to)), (5, .int (nI ie)), (7, .int (nI it))]) hx hb d_Pattern_earliestEnd_39 hl (by decide) rfl (fun ls hl => ?_)
          refine lv_iload hx hb d_Pattern_earliestEnd_41 (lv_at hl 0 rfl) ?_
          refine lv_iconst (v := (-1)) hx hb d_Pattern_earliestEnd_43 (by decide) ?_
          refine lv_icmp_ne (tgt := 49) hx hb d_Pattern_earliestEnd_44 (by decide) (fun c44 => ?_) (fun c44 => ?_)
          · refine lv_iload hx hb d_Pattern_earliestEnd_49 (lv_at hl 0 rfl) ?_
            refine lv_iload hx hb d_Pattern_earliestEnd_51 (lv_at hl 1 rfl) ?_
            refine lv_iload hx hb d_Pattern_earliestEnd_53 (lv_at hl 6 rfl) ?_
            refine lv_isub hx hb d_Pattern_earliestEnd_55 ?_
            refine zk_ti (z := nI ((min ie j) - it)) (pk_sub (by omega)) ?_
            refine lv_iadd hx hb d_Pattern_earliestEnd_56 ?_
            refine zk_ti (z := nI (k + ((min ie j) - it))) (nI_add _ _) ?_
            refine lv_istore (lv' := [(6, .int (nI (k + ((min ie j) - it)))), (8, .int (nI (min ie j))), (0, .ref a), (1, .ref o), (3, .int (nI to)), (5, .int (nI ie)), (7, .int (nI it))]) hx hb d_Pattern_earliestEnd_57 hl (by decide) rfl (fun ls hl => ?_)
            refine lv_iload hx hb d_Pattern_earliestEnd_59 (lv_at hl 6 rfl) ?_
            refine lv_iload hx hb d_Pattern_earliestEnd_61 (lv_at hl 1 rfl) ?_
            refine va_mmax hx hb (by rw [hml]; exact hl.1.symm) hown (ht _ m_Pattern_21) (ht _ m_max_s) (ht _ m_ini_Math) (ht _ m_max_c) (Nat.le_of_ble_eq_true rfl) (Nat.le_of_ble_eq_true rfl) (Nat.le_of_ble_eq_true rfl) (Nat.le_of_ble_eq_true rfl) d_Pattern_earliestEnd_63 ?_
            refine zk_ti (z := nI (min ie j)) (by
              by_cases z : it < (min ie j)
              · rw [if_pos (nI_lt z (by omega))]
              · rw [if_neg (nI_nlt (by omega) (by omega)), show (min ie j) = it by omega]) ?_
            refine lv_iconst (v := 1) hx hb d_Pattern_earliestEnd_66 (by decide) ?_
            refine lv_iadd hx hb d_Pattern_earliestEnd_67 ?_
            refine zk_ti (z := nI ((min ie j) + 1)) (nI_1 _) ?_
            refine lv_istore (lv' := [(7, .int (nI ((min ie j) + 1))), (6, .int (nI (k + ((min ie j) - it)))), (8, .int (nI (min ie j))), (0, .ref a), (1, .ref o), (3, .int (nI to)), (5, .int (nI ie))]) hx hb d_Pattern_earliestEnd_68 hl (by decide) rfl (fun ls hl => ?_)
            refine lv_goto (tgt := 7) hx hb d_Pattern_earliestEnd_70 (by decide) ?_
            exact ih (k + ((min ie j) - it)) ((min ie j) + 1) (by omega) (by omega) (by omega) (by omega) (by
              by_cases z : (min ie j) < ie
              · refine Or.inl ⟨by omega, fun rr hrr => hinv2 rr ?_⟩
                have hst : zIt its (it + ((min ie j) - it)) = none := by
                  rw [show it + ((min ie j) - it) = j by omega]
                  rcases hj3 with h9 | h9
                  · omega
                  · exact h9
                have h8 := pLeast_step (n := ie - ((min ie j) + 1)) (r := rr) (fun z9 hz9 => (hj2 (it + z9) (by omega) (by omega)).2) hst hpl (by rw [show it + ((min ie j) - it) + 1 = (min ie j) + 1 by omega]; exact hrr)
                rw [show (min ie j) - it + (ie - ((min ie j) + 1) + 1) = ie - it by omega] at h8
                exact h8
              · refine Or.inr ⟨by omega, hinv2 _ ?_⟩
                have h8 := pLeast_run (fun z9 hz9 => (hj2 (it + z9) (by omega) (by omega)).2) hpl
                rw [show ie - it = (min ie j) - it by omega]
                exact h8) ls (lv_sub hl [3, 4, 5, 6, 1, 0] rfl)
          · exact absurd c44 (zNe1 (by omega))
  exact lp (ie + 2) q i0 (by omega) hq (Nat.le_refl _) (by omega) (Or.inl ⟨hi0, fun _ h => h⟩) ls (lv_sub hl [2, 3, 5, 7, 1, 0] rfl)

set_option maxHeartbeats 4000000 in
set_option maxRecDepth 100000 in
/-- Pattern.shortestBeginning(text) -/
theorem c_Pattern_shortestBeginning (l : Launch) (D : va_G) (kA : Nat → ClassId) (Z : Nat → Prop) (a : Nat) (its : List pItem) (o lim : Nat) (bs : List Nat) : Met l y_Pattern_shortestBeginning (Cond.code y_Pattern_shortestBeginning b_Pattern_shortestBeginning 2 (some .int) :: zTB) { frames := 4, cells := 0, slots := 0, locals := 102 } (zk_Pc D classes (zTY kA) [.ref a, .ref o] (fun H => PtAt D kA Z H a its ∧ BsAt D kA Z H o lim bs)) (zk_pE (fun v => ∃ rr, v = .int (zI rr) ∧ pLeast (zT bs) (zIt its) its.length 0 0 bs.length rr)) 0 0 zk_no := by
  refine zk_of [.ref a, .ref o] (by decide) (Nat.le_of_ble_eq_true rfl) ?_
  intro p e s m below meth c S hr hlk hnm hK hX hpre ls hl
  obtain ⟨hx, hb, hml, hown, ht⟩ := id S
  obtain ⟨hpt, hO⟩ := hpre
  obtain ⟨sa, za, mm, sf, zf, ⟨ha, hsa, hza⟩, hP1, hP2, hP3, hrep⟩ := id hpt
  obtain ⟨r1, r2, r3⟩ := id hrep
  obtain ⟨ro, no, fo, hzo1, hzo2, hO1, hO2, hO3⟩ := id hO
  obtain ⟨g1, g2, g3, g4, g5⟩ := id hO3
  have hl : lv_has ls 2 [(0, .ref a), (1, .ref o)] := hl
  refine lv_aload_n hx hb d_Pattern_shortestBeginning_0 rfl (lv_at hl 0 rfl) ?_
  refine lv_aload_n hx hb d_Pattern_shortestBeginning_1 rfl (lv_at hl 1 rfl) ?_
  refine lv_iconst (v := 0) hx hb d_Pattern_shortestBeginning_2 (by decide) ?_
  refine zk_ti (z := nI 0) (rfl) ?_
  refine lv_aload_n hx hb d_Pattern_shortestBeginning_3 rfl (lv_at hl 1 rfl) ?_
  refine zk_pure (zk_runV (As := []) (rest := [.int (nI 0), .ref o, .ref a]) S m_Pattern_9 (c_Bytes_size l D kA Z o lim bs) rfl rfl ⟨Nat.le_of_ble_eq_true rfl, Nat.le_of_ble_eq_true rfl⟩ hK hX (zk_recv hK hO1 rfl) (hO) rfl hl.1 rfl (Nat.le_of_ble_eq_true rfl) ⟨Nat.le_of_ble_eq_true rfl, Nat.le_of_ble_eq_true rfl⟩ d_Pattern_shortestBeginning_4) ?_
  refine lv_iconst (v := 0) hx hb d_Pattern_shortestBeginning_7 (by decide) ?_
  refine zk_ti (z := nI 0) (rfl) ?_
  refine lv_aload_n hx hb d_Pattern_shortestBeginning_8 rfl (lv_at hl 0 rfl) ?_
  refine zk_get (C := R_Pattern) (T := F_Pattern) (N := 3) S hK hP1 rfl i_Pattern 2 (by decide) m_Pattern_39 rfl rfl d_Pattern_shortestBeginning_9 ?_
  refine zk_pureE (zk_runV (As := [.ref o, .int (nI 0), .int (nI bs.length), .int (nI 0), .int (nI its.length)]) (rest := []) S m_Pattern_81 (c_Pattern_earliestEnd l D kA Z a its o lim bs 0 bs.length 0 its.length (Nat.zero_le _) (Nat.le_refl _) (Nat.zero_le _) (Nat.le_refl _)) rfl rfl ⟨Nat.le_of_ble_eq_true rfl, Nat.le_of_ble_eq_true rfl⟩ hK hX (zk_recv hK hP1 rfl) (⟨hpt, hO⟩) rfl hl.1 rfl (Nat.le_of_ble_eq_true rfl) ⟨Nat.le_of_ble_eq_true rfl, Nat.le_of_ble_eq_true rfl⟩ d_Pattern_shortestBeginning_12) (fun v hv => ?_)
  rcases hv with ⟨rr, rfl, hrr⟩
  · refine zk_top (v' := .int (zI rr)) rfl ?_
    exact zk_retiE S hr hlk ⟨rr, rfl, hrr⟩ d_Pattern_shortestBeginning_15

set_option maxHeartbeats 4000000 in
set_option maxRecDepth 100000 in
/-- Pattern.fitsWhole(text) -/
theorem c_Pattern_fitsWhole (l : Launch) (D : va_G) (kA : Nat → ClassId) (Z : Nat → Prop) (a : Nat) (its : List pItem) (o lim : Nat) (bs : List Nat) : Met l y_Pattern_fitsWhole (Cond.code y_Pattern_fitsWhole b_Pattern_fitsWhole 5 (some .boolean) :: zTB) { frames := 4, cells := 0, slots := 0, locals := 102 } (zk_Pc D classes (zTY kA) [.ref a, .ref o] (fun H => PtAt D kA Z H a its ∧ BsAt D kA Z H o lim bs)) (zk_pE (fun v => (pF (zT bs) (zIt its) its.length 0 0 bs.length ∧ v = .int 1) ∨ (¬ pF (zT bs) (zIt its) its.length 0 0 bs.length ∧ v = .int 0))) 0 0 zk_no := by
  refine zk_of [.ref a, .ref o] (by decide) (Nat.le_of_ble_eq_true rfl) ?_
  intro p e s m below meth c S hr hlk hnm hK hX hpre ls hl
  obtain ⟨hx, hb, hml, hown, ht⟩ := id S
  obtain ⟨hpt, hO⟩ := hpre
  obtain ⟨sa, za, mm, sf, zf, ⟨ha, hsa, hza⟩, hP1, hP2, hP3, hrep⟩ := id hpt
  obtain ⟨r1, r2, r3⟩ := id hrep
  obtain ⟨ro, no, fo, hzo1, hzo2, hO1, hO2, hO3⟩ := id hO
  obtain ⟨g1, g2, g3, g4, g5⟩ := id hO3
  have hl : lv_has ls 5 [(0, .ref a), (1, .ref o)] := hl
  refine lv_aload_n hx hb d_Pattern_fitsWhole_0 rfl (lv_at hl 0 rfl) ?_
  refine lv_iconst (v := 0) hx hb d_Pattern_fitsWhole_1 (by decide) ?_
  refine zk_ti (z := nI 0) (rfl) ?_
  refine zk_pureE (zk_runV (As := [.int (nI 0)]) (rest := []) S m_Pattern_71 (c_Pattern_starOrEndFrom l D kA Z a its 0 (by decide)) rfl rfl ⟨Nat.le_of_ble_eq_true rfl, Nat.le_of_ble_eq_true rfl⟩ hK hX (zk_recv hK hP1 rfl) (hpt) rfl hl.1 rfl (Nat.le_of_ble_eq_true rfl) ⟨Nat.le_of_ble_eq_true rfl, Nat.le_of_ble_eq_true rfl⟩ d_Pattern_fitsWhole_2) (fun v hv => ?_)
  rcases hv with ⟨h0, rfl, hj1, hj2, hj3⟩
  · have hh1 : ∀ k, k < h0 → its.getD k none ≠ none := fun k hk => (hj2 k (Nat.zero_le _) hk).2
    have hle0 : h0 ≤ its.length := by
      by_cases z : h0 = 0
      · omega
      · have := (hj2 (h0 - 1) (Nat.zero_le _) (by omega)).1
        omega
    refine lv_istore_n (lv' := [(2, .int (nI h0)), (0, .ref a), (1, .ref o)]) hx hb d_Pattern_fitsWhole_5 rfl hl (by decide) rfl (fun ls hl => ?_)
    refine lv_iload_n hx hb d_Pattern_fitsWhole_6 rfl (lv_at hl 0 rfl) ?_
    refine lv_aload_n hx hb d_Pattern_fitsWhole_7 rfl (lv_at hl 1 rfl) ?_
    refine zk_get (C := R_Pattern) (T := F_Pattern) (N := 3) S hK hP1 rfl i_Pattern 2 (by decide) m_Pattern_39 rfl rfl d_Pattern_fitsWhole_8 ?_
    refine lv_icmp_ne (tgt := 45) hx hb d_Pattern_fitsWhole_11 (by decide) (fun c11 => ?_) (fun c11 => ?_)
    · have hne : h0 < its.length := by
        by_cases z : h0 = its.length
        · exact absurd (by rw [z]) c11
        · omega
      have hst : its.getD h0 none = none := by
        rcases hj3 with z | z
        · omega
        · exact z
      refine lv_aload_n hx hb d_Pattern_fitsWhole_45 rfl (lv_at hl 1 rfl) ?_
      refine zk_pureE (zk_runV (As := []) (rest := []) S m_Pattern_78 (c_Pattern_behindLastStar l D kA Z a its) rfl rfl ⟨Nat.le_of_ble_eq_true rfl, Nat.le_of_ble_eq_true rfl⟩ hK hX (zk_recv hK hP1 rfl) (hpt) rfl hl.1 rfl (Nat.le_of_ble_eq_true rfl) ⟨Nat.le_of_ble_eq_true rfl, Nat.le_of_ble_eq_true rfl⟩ d_Pattern_fitsWhole_46) (fun v hv => ?_)
      rcases hv with ⟨tl, rfl, htl1, htl2, htl3⟩
      · have hlt2 : h0 < tl := Nat.not_le.mp fun z => htl2 h0 z hne hst
        have htl4 : zIt its (tl - 1) = none := by
          rcases htl3 with z | z
          · omega
          · exact z
        refine lv_istore_n (lv' := [(3, .int (nI tl)), (2, .int (nI h0)), (0, .ref a), (1, .ref o)]) hx hb d_Pattern_fitsWhole_49 rfl hl (by decide) rfl (fun ls hl => ?_)
        refine lv_aload_n hx hb d_Pattern_fitsWhole_50 rfl (lv_at hl 3 rfl) ?_
        refine zk_pure (zk_runV (As := []) (rest := []) S m_Pattern_9 (c_Bytes_size l D kA Z o lim bs) rfl rfl ⟨Nat.le_of_ble_eq_true rfl, Nat.le_of_ble_eq_true rfl⟩ hK hX (zk_recv hK hO1 rfl) (hO) rfl hl.1 rfl (Nat.le_of_ble_eq_true rfl) ⟨Nat.le_of_ble_eq_true rfl, Nat.le_of_ble_eq_true rfl⟩ d_Pattern_fitsWhole_51) ?_
        refine lv_aload_n hx hb d_Pattern_fitsWhole_54 rfl (lv_at hl 2 rfl) ?_
        refine zk_get (C := R_Pattern) (T := F_Pattern) (N := 3) S hK hP1 rfl i_Pattern 2 (by decide) m_Pattern_39 rfl rfl d_Pattern_fitsWhole_55 ?_
        refine lv_iload_n hx hb d_Pattern_fitsWhole_58 rfl (lv_at hl 0 rfl) ?_
        refine lv_isub hx hb d_Pattern_fitsWhole_59 ?_
        refine zk_ti (z := nI (its.length - tl)) (pk_sub (by omega)) ?_
        refine lv_isub hx hb d_Pattern_fitsWhole_60 ?_
        refine lv_istore (lv' := [(4, .int ((nI bs.length) - (nI (its.length - tl)))), (3, .int (nI tl)), (2, .int (nI h0)), (0, .ref a), (1, .ref o)]) hx hb d_Pattern_fitsWhole_61 hl (by decide) rfl (fun ls hl => ?_)
        refine lv_iload_n hx hb d_Pattern_fitsWhole_63 rfl (lv_at hl 2 rfl) ?_
        refine lv_iload hx hb d_Pattern_fitsWhole_64 (lv_at hl 0 rfl) ?_
        refine lv_icmp_gt (tgt := 113) hx hb d_Pattern_fitsWhole_66 (by decide) (fun c66 => ?_) (fun c66 => ?_)
        · refine lv_iconst (v := 0) hx hb d_Pattern_fitsWhole_113 (by decide) ?_
          have hgt : ¬ (its.length - tl ≤ bs.length ∧ h0 ≤ bs.length - (its.length - tl)) := by
            have z := Int32.lt_iff_toInt_lt.mp c66
            rw [pk_sub_toInt (by omega) (by omega), nI_toInt (by omega)] at z
            omega
          exact zk_retzE S hr (by decide) hlk (Or.inr ⟨fun z => hgt (by
            obtain ⟨z1, z2, -⟩ := (pF_whole (t := zT bs) (it := zIt its) (h := h0) (tl := tl) (cnt := its.length) (sz := bs.length) hlt2 htl1 hh1 hst htl4 htl2).mp z
            exact ⟨z1, z2⟩), rfl⟩) d_Pattern_fitsWhole_114
        · have hle : its.length - tl ≤ bs.length ∧ h0 ≤ bs.length - (its.length - tl) := by
            have z := mt Int32.lt_iff_toInt_lt.mpr c66
            rw [pk_sub_toInt (by omega) (by omega), nI_toInt (by omega)] at z
            omega
          refine lv_aload_n hx hb d_Pattern_fitsWhole_69 rfl (lv_at hl 3 rfl) ?_
          refine lv_aload_n hx hb d_Pattern_fitsWhole_70 rfl (lv_at hl 4 rfl) ?_
          refine lv_iconst (v := 0) hx hb d_Pattern_fitsWhole_71 (by decide) ?_
          refine zk_ti (z := nI 0) (rfl) ?_
          refine lv_iconst (v := 0) hx hb d_Pattern_fitsWhole_72 (by decide) ?_
          refine zk_ti (z := nI 0) (rfl) ?_
          refine lv_iload_n hx hb d_Pattern_fitsWhole_73 rfl (lv_at hl 2 rfl) ?_
          refine zk_pureE (zk_runV (As := [.ref o, .int (nI 0), .int (nI 0), .int (nI h0)]) (rest := []) S m_Pattern_74 (c_Pattern_standsAt l D kA Z a its o lim bs 0 0 h0 (Nat.zero_le _) (by omega) (Nat.zero_le _) (fun j _ hj => hh1 j hj)) rfl rfl ⟨Nat.le_of_ble_eq_true rfl, Nat.le_of_ble_eq_true rfl⟩ hK hX (zk_recv hK hP1 rfl) (⟨hpt, hO⟩) rfl hl.1 rfl (Nat.le_of_ble_eq_true rfl) ⟨Nat.le_of_ble_eq_true rfl, Nat.le_of_ble_eq_true rfl⟩ d_Pattern_fitsWhole_74) (fun v hv => ?_)
          rcases hv with ⟨hs1, hs2, rfl⟩ | ⟨hs1, rfl⟩
          · refine lv_if_eq (tgt := 113) hx hb d_Pattern_fitsWhole_77 (by decide) (fun c77 => ?_) (fun c77 => ?_)
            · exact absurd c77 (by decide)
            · refine lv_aload_n hx hb d_Pattern_fitsWhole_80 rfl (lv_at hl 3 rfl) ?_
              refine lv_aload_n hx hb d_Pattern_fitsWhole_81 rfl (lv_at hl 4 rfl) ?_
              refine lv_iload hx hb d_Pattern_fitsWhole_82 (lv_at hl 0 rfl) ?_
              refine lv_iload_n hx hb d_Pattern_fitsWhole_84 rfl (lv_at hl 1 rfl) ?_
              refine lv_aload_n hx hb d_Pattern_fitsWhole_85 rfl (lv_at hl 3 rfl) ?_
              refine zk_get (C := R_Pattern) (T := F_Pattern) (N := 3) S hK hP1 rfl i_Pattern 2 (by decide) m_Pattern_39 rfl rfl d_Pattern_fitsWhole_86 ?_
              refine W.eq (g2 := F0 m 89 ls [.int (nI its.length), .int (nI tl), .int (nI (bs.length - (its.length - tl))), .ref o, .ref a]) (by rw [show nI bs.length - nI (its.length - tl) = nI (bs.length - (its.length - tl)) from pk_sub hle.1]) ?_
              refine zk_pureE (zk_runV (As := [.ref o, .int (nI (bs.length - (its.length - tl))), .int (nI tl), .int (nI its.length)]) (rest := []) S m_Pattern_74 (c_Pattern_standsAt l D kA Z a its o lim bs (bs.length - (its.length - tl)) tl its.length (by omega) (Nat.le_refl _) (by omega) (fun j h1 h2 => htl2 j h1 h2)) rfl rfl ⟨Nat.le_of_ble_eq_true rfl, Nat.le_of_ble_eq_true rfl⟩ hK hX (zk_recv hK hP1 rfl) (⟨hpt, hO⟩) rfl hl.1 rfl (Nat.le_of_ble_eq_true rfl) ⟨Nat.le_of_ble_eq_true rfl, Nat.le_of_ble_eq_true rfl⟩ d_Pattern_fitsWhole_89) (fun v hv => ?_)
              rcases hv with ⟨ht1, ht2, rfl⟩ | ⟨ht1, rfl⟩
              · refine lv_if_eq (tgt := 113) hx hb d_Pattern_fitsWhole_92 (by decide) (fun c92 => ?_) (fun c92 => ?_)
                · exact absurd c92 (by decide)
                · refine lv_aload_n hx hb d_Pattern_fitsWhole_95 rfl (lv_at hl 3 rfl) ?_
                  refine lv_aload_n hx hb d_Pattern_fitsWhole_96 rfl (lv_at hl 4 rfl) ?_
                  refine lv_iload_n hx hb d_Pattern_fitsWhole_97 rfl (lv_at hl 2 rfl) ?_
                  refine lv_iload hx hb d_Pattern_fitsWhole_98 (lv_at hl 0 rfl) ?_
                  refine lv_iload_n hx hb d_Pattern_fitsWhole_100 rfl (lv_at hl 2 rfl) ?_
                  refine lv_iload_n hx hb d_Pattern_fitsWhole_101 rfl (lv_at hl 1 rfl) ?_
                  refine W.eq (g2 := F0 m 102 ls [.int (nI tl), .int (nI h0), .int (nI (bs.length - (its.length - tl))), .int (nI h0), .ref o, .ref a]) (by rw [show nI bs.length - nI (its.length - tl) = nI (bs.length - (its.length - tl)) from pk_sub hle.1]) ?_
                  refine zk_pureE (zk_runV (As := [.ref o, .int (nI h0), .int (nI (bs.length - (its.length - tl))), .int (nI h0), .int (nI tl)]) (rest := []) S m_Pattern_81 (c_Pattern_earliestEnd l D kA Z a its o lim bs h0 (bs.length - (its.length - tl)) h0 tl (by omega) (by omega) (by omega) (by omega)) rfl rfl ⟨Nat.le_of_ble_eq_true rfl, Nat.le_of_ble_eq_true rfl⟩ hK hX (zk_recv hK hP1 rfl) (⟨hpt, hO⟩) rfl hl.1 rfl (Nat.le_of_ble_eq_true rfl) ⟨Nat.le_of_ble_eq_true rfl, Nat.le_of_ble_eq_true rfl⟩ d_Pattern_fitsWhole_102) (fun v hv => ?_)
                  rcases hv with ⟨_ | k, rfl, hpl⟩
                  · refine zk_top (v' := .int (-1)) rfl ?_
                    refine lv_iconst (v := (-1)) hx hb d_Pattern_fitsWhole_105 (by decide) ?_
                    refine lv_icmp_eq (tgt := 113) hx hb d_Pattern_fitsWhole_106 (by decide) (fun c106 => ?_) (fun c106 => ?_)
                    · refine lv_iconst (v := 0) hx hb d_Pattern_fitsWhole_113 (by decide) ?_
                      exact zk_retzE S hr (by decide) hlk (Or.inr ⟨fun z => by
                        obtain ⟨z1, z2, z3, z4, e9, z5, z6⟩ := (pF_whole (t := zT bs) (it := zIt its) (h := h0) (tl := tl) (cnt := its.length) (sz := bs.length) hlt2 htl1 hh1 hst htl4 htl2).mp z
                        exact hpl e9 z5 z6, rfl⟩) d_Pattern_fitsWhole_114
                    · exact absurd rfl c106
                  · refine zk_top (v' := .int (nI k)) rfl ?_
                    refine lv_iconst (v := (-1)) hx hb d_Pattern_fitsWhole_105 (by decide) ?_
                    refine lv_icmp_eq (tgt := 113) hx hb d_Pattern_fitsWhole_106 (by decide) (fun c106 => ?_) (fun c106 => ?_)
                    · exact absurd c106 (zNe1 (by have := hpl.1; omega))
                    · refine lv_iconst (v := 1) hx hb d_Pattern_fitsWhole_109 (by decide) ?_
                      refine lv_goto (tgt := 114) hx hb d_Pattern_fitsWhole_110 (by decide) ?_
                      exact zk_retzE S hr (by decide) hlk (Or.inl ⟨(pF_whole (t := zT bs) (it := zIt its) (h := h0) (tl := tl) (cnt := its.length) (sz := bs.length) hlt2 htl1 hh1 hst htl4 htl2).mpr ⟨hle.1, hle.2, hs1, ht1, k, hpl.1, hpl.2.1⟩, rfl⟩) d_Pattern_fitsWhole_114
              · refine lv_if_eq (tgt := 113) hx hb d_Pattern_fitsWhole_92 (by decide) (fun c92 => ?_) (fun c92 => ?_)
                · refine lv_iconst (v := 0) hx hb d_Pattern_fitsWhole_113 (by decide) ?_
                  exact zk_retzE S hr (by decide) hlk (Or.inr ⟨fun z => ht1 (by
                    obtain ⟨z1, z2, z3, z4, -⟩ := (pF_whole (t := zT bs) (it := zIt its) (h := h0) (tl := tl) (cnt := its.length) (sz := bs.length) hlt2 htl1 hh1 hst htl4 htl2).mp z
                    exact ⟨z4, by omega⟩), rfl⟩) d_Pattern_fitsWhole_114
                · exact absurd rfl c92
          · refine lv_if_eq (tgt := 113) hx hb d_Pattern_fitsWhole_77 (by decide) (fun c77 => ?_) (fun c77 => ?_)
            · refine lv_iconst (v := 0) hx hb d_Pattern_fitsWhole_113 (by decide) ?_
              exact zk_retzE S hr (by decide) hlk (Or.inr ⟨fun z => hs1 (by
                obtain ⟨z1, z2, z3, -⟩ := (pF_whole (t := zT bs) (it := zIt its) (h := h0) (tl := tl) (cnt := its.length) (sz := bs.length) hlt2 htl1 hh1 hst htl4 htl2).mp z
                exact ⟨z3, by omega⟩), rfl⟩) d_Pattern_fitsWhole_114
            · exact absurd rfl c77
    · have hall : h0 = its.length := (nI_eq (by omega) (by omega)).mp c11
      have hrun := pF_run (t := zT bs) (it := zIt its) its.length 0 0 0 bs.length (fun j hj => by rw [Nat.zero_add]; exact hh1 j (by omega))
      rw [Nat.add_zero] at hrun
      refine lv_aload_n hx hb d_Pattern_fitsWhole_14 rfl (lv_at hl 2 rfl) ?_
      refine zk_pure (zk_runV (As := []) (rest := []) S m_Pattern_9 (c_Bytes_size l D kA Z o lim bs) rfl rfl ⟨Nat.le_of_ble_eq_true rfl, Nat.le_of_ble_eq_true rfl⟩ hK hX (zk_recv hK hO1 rfl) (hO) rfl hl.1 rfl (Nat.le_of_ble_eq_true rfl) ⟨Nat.le_of_ble_eq_true rfl, Nat.le_of_ble_eq_true rfl⟩ d_Pattern_fitsWhole_15) ?_
      refine lv_aload_n hx hb d_Pattern_fitsWhole_18 rfl (lv_at hl 1 rfl) ?_
      refine zk_get (C := R_Pattern) (T := F_Pattern) (N := 3) S hK hP1 rfl i_Pattern 2 (by decide) m_Pattern_39 rfl rfl d_Pattern_fitsWhole_19 ?_
      refine lv_icmp_ne (tgt := 43) hx hb d_Pattern_fitsWhole_22 (by decide) (fun c22 => ?_) (fun c22 => ?_)
      · refine lv_iconst (v := 0) hx hb d_Pattern_fitsWhole_43 (by decide) ?_
        exact zk_retzE S hr (by decide) hlk (Or.inr ⟨fun z => absurd (show 0 + its.length = bs.length from (hrun.mp z).2) (fun y => c22 (by rw [show bs.length = its.length by omega])), rfl⟩) d_Pattern_fitsWhole_44
      · have hsz : bs.length = its.length := (nI_eq (by omega) (by omega)).mp c22
        refine lv_aload_n hx hb d_Pattern_fitsWhole_25 rfl (lv_at hl 1 rfl) ?_
        refine lv_aload_n hx hb d_Pattern_fitsWhole_26 rfl (lv_at hl 2 rfl) ?_
        refine lv_iconst (v := 0) hx hb d_Pattern_fitsWhole_27 (by decide) ?_
        refine zk_ti (z := nI 0) (rfl) ?_
        refine lv_iconst (v := 0) hx hb d_Pattern_fitsWhole_28 (by decide) ?_
        refine zk_ti (z := nI 0) (rfl) ?_
        refine lv_aload_n hx hb d_Pattern_fitsWhole_29 rfl (lv_at hl 1 rfl) ?_
        refine zk_get (C := R_Pattern) (T := F_Pattern) (N := 3) S hK hP1 rfl i_Pattern 2 (by decide) m_Pattern_39 rfl rfl d_Pattern_fitsWhole_30 ?_
        refine zk_pureE (zk_runV (As := [.ref o, .int (nI 0), .int (nI 0), .int (nI its.length)]) (rest := []) S m_Pattern_74 (c_Pattern_standsAt l D kA Z a its o lim bs 0 0 its.length (Nat.zero_le _) (Nat.le_refl _) (Nat.zero_le _) (fun j _ hj => hh1 j (by omega))) rfl rfl ⟨Nat.le_of_ble_eq_true rfl, Nat.le_of_ble_eq_true rfl⟩ hK hX (zk_recv hK hP1 rfl) (⟨hpt, hO⟩) rfl hl.1 rfl (Nat.le_of_ble_eq_true rfl) ⟨Nat.le_of_ble_eq_true rfl, Nat.le_of_ble_eq_true rfl⟩ d_Pattern_fitsWhole_33) (fun v hv => ?_)
        rcases hv with ⟨hs1, hs2, rfl⟩ | ⟨hs1, rfl⟩
        · refine lv_if_eq (tgt := 43) hx hb d_Pattern_fitsWhole_36 (by decide) (fun c36 => ?_) (fun c36 => ?_)
          · exact absurd c36 (by decide)
          · refine lv_iconst (v := 1) hx hb d_Pattern_fitsWhole_39 (by decide) ?_
            refine lv_goto (tgt := 44) hx hb d_Pattern_fitsWhole_40 (by decide) ?_
            exact zk_retzE S hr (by decide) hlk (Or.inl ⟨hrun.mpr ⟨hs1, show 0 + its.length = bs.length by omega⟩, rfl⟩) d_Pattern_fitsWhole_44
        · refine lv_if_eq (tgt := 43) hx hb d_Pattern_fitsWhole_36 (by decide) (fun c36 => ?_) (fun c36 => ?_)
          · refine lv_iconst (v := 0) hx hb d_Pattern_fitsWhole_43 (by decide) ?_
            exact zk_retzE S hr (by decide) hlk (Or.inr ⟨fun z => hs1 ⟨(hrun.mp z).1, by omega⟩, rfl⟩) d_Pattern_fitsWhole_44
          · exact absurd rfl c36
end
section
/-! reading a pattern: its bytes bs, as far as n, from place a -/
def rSelf (bs : List Nat) (n a : Nat) : Nat × Nat := if bs.getD a 0 = 92 ∧ a + 1 < n then (bs.getD (a + 1) 0, a + 2) else (bs.getD a 0, a + 1)
theorem rSelf_gt (bs : List Nat) (n a : Nat) : a < (rSelf bs n a).2 ∧ (rSelf bs n a).2 ≤ a + 2 := by
  unfold rSelf
  split <;> simp
def rStep (bs : List Nat) (n a : Nat) : Nat × Nat × Nat := if (rSelf bs n a).2 + 1 < n ∧ bs.getD (rSelf bs n a).2 0 = 45 ∧ bs.getD ((rSelf bs n a).2 + 1) 0 ≠ 93 then ((rSelf bs n a).1, (rSelf bs n ((rSelf bs n a).2 + 1)).1, (rSelf bs n ((rSelf bs n a).2 + 1)).2) else ((rSelf bs n a).1, (rSelf bs n a).1, (rSelf bs n a).2)
theorem rStep_gt (bs : List Nat) (n a : Nat) : a < (rStep bs n a).2.2 := by
  have h1 := rSelf_gt bs n a
  have h2 := rSelf_gt bs n ((rSelf bs n a).2 + 1)
  unfold rStep
  split
  · show a < (rSelf bs n ((rSelf bs n a).2 + 1)).2
    omega
  · show a < (rSelf bs n a).2
    omega
def rSet (bs : List Nat) (n a : Nat) : List (Nat × Nat) × Nat :=
  if h : n ≤ a ∨ bs.getD a 0 = 93 then ([], a + 1) else
    (((rStep bs n a).1, (rStep bs n a).2.1) :: (rSet bs n (rStep bs n a).2.2).1, (rSet bs n (rStep bs n a).2.2).2)
termination_by n - a
decreasing_by all_goals (have := rStep_gt bs n a; omega)
theorem rSet_end {bs : List Nat} {n a : Nat} (h : n ≤ a ∨ bs.getD a 0 = 93) : rSet bs n a = ([], a + 1) := by
  rw [rSet, dif_pos h]
theorem rSet_step {bs : List Nat} {n a : Nat} (h1 : a < n) (h2 : bs.getD a 0 ≠ 93) : rSet bs n a = (((rStep bs n a).1, (rStep bs n a).2.1) :: (rSet bs n (rStep bs n a).2.2).1, (rSet bs n (rStep bs n a).2.2).2) := by
  rw [rSet, dif_neg (fun q => q.elim (fun z => absurd z (Nat.not_le.mpr h1)) h2)]
theorem rSet_gt (bs : List Nat) (n : Nat) : ∀ (k a : Nat), n - a ≤ k → a < (rSet bs n a).2 := by
  intro k
  induction k with
  | zero =>
    intro a h
    rw [rSet_end (Or.inl (by omega))]
    exact Nat.lt_succ_self a
  | succ k ih =>
    intro a h
    by_cases h1 : n ≤ a ∨ bs.getD a 0 = 93
    · rw [rSet_end h1]
      exact Nat.lt_succ_self a
    · have h2 : a < n := Nat.not_le.mp fun z => h1 (Or.inl z)
      rw [rSet_step h2 (fun z => h1 (Or.inr z))]
      have h3 := rStep_gt bs n a
      have h4 := ih (rStep bs n a).2.2 (by omega)
      show a < (rSet bs n (rStep bs n a).2.2).2
      omega
def rItem (bs : List Nat) (n a : Nat) : pItem × Nat := if bs.getD a 0 = 42 then (none, a + 1) else if bs.getD a 0 = 63 then (some [(0, 255)], a + 1) else if bs.getD a 0 = 91 then (some (rSet bs n (a + 1)).1, (rSet bs n (a + 1)).2) else (some [((rSelf bs n a).1, (rSelf bs n a).1)], (rSelf bs n a).2)
theorem rItem_gt (bs : List Nat) (n a : Nat) : a < (rItem bs n a).2 := by
  have h1 := rSelf_gt bs n a
  have h2 := rSet_gt bs n n (a + 1) (by omega)
  unfold rItem
  split
  · exact Nat.lt_succ_self a
  · split
    · exact Nat.lt_succ_self a
    · split
      · show a < (rSet bs n (a + 1)).2
        omega
      · show a < (rSelf bs n a).2
        omega
def rItems (bs : List Nat) (n a : Nat) : List pItem := if h : n ≤ a then [] else (rItem bs n a).1 :: rItems bs n (rItem bs n a).2
termination_by n - a
decreasing_by all_goals (have := rItem_gt bs n a; omega)
theorem rItems_end {bs : List Nat} {n a : Nat} (h : n ≤ a) : rItems bs n a = [] := by
  rw [rItems, dif_pos h]
theorem rItems_step {bs : List Nat} {n a : Nat} (h : a < n) : rItems bs n a = (rItem bs n a).1 :: rItems bs n (rItem bs n a).2 := by
  rw [rItems, dif_neg (Nat.not_le.mpr h)]
theorem rItems_len (bs : List Nat) (n : Nat) : ∀ (k a : Nat), n - a ≤ k → (rItems bs n a).length ≤ n - a := by
  intro k
  induction k with
  | zero =>
    intro a h
    rw [rItems_end (by omega)]
    exact Nat.zero_le _
  | succ k ih =>
    intro a h
    by_cases h1 : n ≤ a
    · rw [rItems_end h1]
      exact Nat.zero_le _
    · have h3 := rItem_gt bs n a
      rw [rItems_step (by omega), List.length_cons]
      have h4 := ih (rItem bs n a).2 (by omega)
      omega
def zAh (bs : List Nat) (n i : Nat) : Int32 := if i < n then nI (bs.getD i 0) else -1
def pInO (o : pItem) (v : Nat) : Bool := match o with
  | none => false
  | some S => pIn S v
end
section
set_option maxHeartbeats 4000000 in
set_option maxRecDepth 100000 in
/-- PatternReader(source, length) -/
theorem c_Reader_init (l : Launch) (D : va_G) (kA : Nat → ClassId) (a o n : Nat) (sz0 : Nat) : Met l y_Reader_init (Cond.code y_Reader_init b_Reader_init 3 none :: zTB) { frames := 1, cells := 0, slots := 0, locals := 12 } (zk_Pc D classes (zTY kA) [.ref a, .ref o, .int (nI n)] (fun H => H.size = sz0 ∧ va_P D classes [(a, .inr (3, [.null, .int 0, .int 0]))] H ∧ va_D (fun _ => True) [(a, .inr (3, [.null, .int 0, .int 0]))])) (zk_mQ (fun v H => v = none ∧ va_P D classes [(a, .inr (3, [.ref o, .int (nI n), .int (nI 0)]))] H ∧ va_D (va_A [(a, .inr (3, [.null, .int 0, .int 0]))] sz0) [(a, .inr (3, [.ref o, .int (nI n), .int (nI 0)]))]) (va_A [(a, .inr (3, [.null, .int 0, .int 0]))] sz0)) 0 0 (va_A [(a, .inr (3, [.null, .int 0, .int 0]))] sz0) := by
  refine zk_of [.ref a, .ref o, .int (nI n)] (by decide) (Nat.le_of_ble_eq_true rfl) ?_
  intro p e s m below meth c S hr hlk hnm hK hX hpre ls hl
  obtain ⟨hx, hb, hml, hown, ht⟩ := id S
  have hl : lv_has ls 3 [(0, .ref a), (1, .ref o), (2, .int (nI n))] := hl
  obtain ⟨hsz, hP, hD0⟩ := hpre
  subst hsz
  have hD := hD0.self (sz := s.heap.size)
  generalize hAe : va_A [(a, .inr (3, [.null, .int 0, .int 0]))] s.heap.size = A at hD ⊢
  have hA : ∀ q : Nat, s.heap.size ≤ q → A q := fun q h => by rw [← hAe]; exact Or.inr h
  have hS : va_S A s.heap s.heap [] := va_S.rf
  have hP : va_P D classes [(a, .inr (3, [.null, .int 0, .int 0]))] s.heap := hP
  refine lv_aload_n hx hb d_Reader_init_0 rfl (lv_at hl 0 rfl) ?_
  refine W.objInit hx hb hown (ht _ m_Reader_3) (ht _ m_obj_i) (ht _ m_obj_c) rfl (by rw [hml]; exact hl.1) rfl d_Reader_init_1 (Nat.le_of_ble_eq_true rfl) (Nat.le_of_ble_eq_true rfl) ?_
  refine W.eq (g2 := F0 m 4 ls []) rfl ?_
  refine lv_aload_n hx hb d_Reader_init_4 rfl (lv_at hl 0 rfl) ?_
  refine lv_aload_n hx hb d_Reader_init_5 rfl (lv_at hl 1 rfl) ?_
  refine va_putF (D := D) (ci := 3) (v := .ref o) (ty := .object "PeerLine$Bytes") (C := R_Reader) (T := F_Reader) (N := 3) hx hb ht i_Reader t_Reader t_Reader_ok n_Reader hown hK hP hD hS 0 rfl rfl 0 (by decide) (ht _ m_Reader_9) (fun _ h9 => h9) rfl hnm rfl (by decide +kernel) rfl rfl (Nat.le_of_ble_eq_true rfl) d_Reader_init_6 (fun H locs hP hD hS => ?_)
  have hP : va_P D classes [(a, .inr (3, [.ref o, .int 0, .int 0]))] H := hP
  have hD : va_D A [(a, .inr (3, [.ref o, .int 0, .int 0]))] := hD
  refine lv_aload_n hx hb d_Reader_init_9 rfl (lv_at hl 0 rfl) ?_
  refine lv_iload_n hx hb d_Reader_init_10 rfl (lv_at hl 2 rfl) ?_
  refine va_putF (D := D) (ci := 3) (v := .int (nI n)) (ty := .int) (C := R_Reader) (T := F_Reader) (N := 3) hx hb ht i_Reader t_Reader t_Reader_ok n_Reader hown hK hP hD hS 0 rfl rfl 1 (by decide) (ht _ m_Reader_15) (fun _ h9 => h9) rfl hnm rfl (by decide +kernel) rfl rfl (Nat.le_of_ble_eq_true rfl) d_Reader_init_11 (fun H locs hP hD hS => ?_)
  have hP : va_P D classes [(a, .inr (3, [.ref o, .int (nI n), .int 0]))] H := hP
  have hD : va_D A [(a, .inr (3, [.ref o, .int (nI n), .int 0]))] := hD
  refine lv_aload_n hx hb d_Reader_init_14 rfl (lv_at hl 0 rfl) ?_
  refine lv_iconst (v := 0) hx hb d_Reader_init_15 (by decide) ?_
  refine zk_ti (z := nI 0) (rfl) ?_
  refine va_put (D := D) (ci := 3) (v := .int (nI 0)) (ty := .int) (C := R_Reader) (T := F_Reader) (N := 3) hx hb ht i_Reader t_Reader t_Reader_ok n_Reader hown hK hP hD hS 0 rfl rfl 2 (by decide) (ht _ m_Reader_19) (fun _ h9 => h9) rfl (by decide +kernel) rfl rfl (Nat.le_of_ble_eq_true rfl) d_Reader_init_16 (fun H locs hP hD hS => ?_)
  have hP : va_P D classes [(a, .inr (3, [.ref o, .int (nI n), .int (nI 0)]))] H := hP
  have hD : va_D A [(a, .inr (3, [.ref o, .int (nI n), .int (nI 0)]))] := hD
  exact zk_vret S hr hlk hS ⟨rfl, hP, hD⟩ (Nat.le_refl _) (Nat.le_refl _) d_Reader_init_19

set_option maxHeartbeats 4000000 in
set_option maxRecDepth 100000 in
/-- PatternReader.ahead(distance) -/
theorem c_Reader_ahead (l : Launch) (D : va_G) (kA : Nat → ClassId) (Z : Nat → Prop) (a o lim n p0 k : Nat) (bs : List Nat) (hn : n ≤ bs.length) (hp : p0 < 2 ^ 20) (hk : k < 2 ^ 20) : Met l y_Reader_ahead (Cond.code y_Reader_ahead b_Reader_ahead 2 (some .int) :: zTB) { frames := 1, cells := 0, slots := 0, locals := 21 } (zk_Pc D classes (zTY kA) [.ref a, .int (nI k)] (fun H => va_at D classes (a, .inr (3, [.ref o, .int (nI n), .int (nI p0)])) H ∧ BsAt D kA Z H o lim bs)) (zk_pQ (some (Value.int (zAh bs n (p0 + k))))) 0 0 zk_no := by
  refine zk_of [.ref a, .int (nI k)] (by decide) (Nat.le_of_ble_eq_true rfl) ?_
  intro p e s m below meth c S hr hlk hnm hK hX hpre ls hl
  obtain ⟨hx, hb, hml, hown, ht⟩ := id S
  obtain ⟨hP1, hO⟩ := hpre
  obtain ⟨ro, no, fo, hzo1, hzo2, hO1, hO2, hO3⟩ := id hO
  obtain ⟨g1, g2, g3, g4, g5⟩ := id hO3
  have hl : lv_has ls 2 [(0, .ref a), (1, .int (nI k))] := hl
  refine lv_aload_n hx hb d_Reader_ahead_0 rfl (lv_at hl 0 rfl) ?_
  refine zk_get (C := R_Reader) (T := F_Reader) (N := 3) S hK hP1 rfl i_Reader 2 (by decide) m_Reader_19 rfl rfl d_Reader_ahead_1 ?_
  refine lv_iload_n hx hb d_Reader_ahead_4 rfl (lv_at hl 1 rfl) ?_
  refine lv_iadd hx hb d_Reader_ahead_5 ?_
  refine zk_ti (z := nI (p0 + k)) (nI_add _ _) ?_
  refine lv_aload_n hx hb d_Reader_ahead_6 rfl (lv_at hl 0 rfl) ?_
  refine zk_get (C := R_Reader) (T := F_Reader) (N := 3) S hK hP1 rfl i_Reader 1 (by decide) m_Reader_15 rfl rfl d_Reader_ahead_7 ?_
  refine lv_icmp_ge (tgt := 29) hx hb d_Reader_ahead_10 (by decide) (fun c10 => ?_) (fun c10 => ?_)
  · refine lv_iconst (v := (-1)) hx hb d_Reader_ahead_29 (by decide) ?_
    refine zk_ti (z := zAh bs n (p0 + k)) (if_neg (Nat.not_lt.mpr ((nI_leI (by omega) (by omega)).mp c10))).symm ?_
    exact zk_reti S hr hlk d_Reader_ahead_30
  · refine lv_aload_n hx hb d_Reader_ahead_13 rfl (lv_at hl 0 rfl) ?_
    refine zk_get (C := R_Reader) (T := F_Reader) (N := 3) S hK hP1 rfl i_Reader 0 (by decide) m_Reader_9 rfl rfl d_Reader_ahead_14 ?_
    refine lv_aload_n hx hb d_Reader_ahead_17 rfl (lv_at hl 0 rfl) ?_
    refine zk_get (C := R_Reader) (T := F_Reader) (N := 3) S hK hP1 rfl i_Reader 2 (by decide) m_Reader_19 rfl rfl d_Reader_ahead_18 ?_
    refine lv_iload_n hx hb d_Reader_ahead_21 rfl (lv_at hl 1 rfl) ?_
    refine lv_iadd hx hb d_Reader_ahead_22 ?_
    refine zk_ti (z := nI (p0 + k)) (nI_add _ _) ?_
    refine zk_pure (zk_runV (As := [.int (nI (p0 + k))]) (rest := []) S m_Reader_22 (c_Bytes_at l D kA Z o lim bs (nI (p0 + k))) rfl rfl ⟨Nat.le_of_ble_eq_true rfl, Nat.le_of_ble_eq_true rfl⟩ hK hX (zk_recv hK hO1 rfl) (hO) rfl hl.1 rfl (Nat.le_of_ble_eq_true rfl) ⟨Nat.le_of_ble_eq_true rfl, Nat.le_of_ble_eq_true rfl⟩ d_Reader_ahead_23) ?_
    refine lv_goto (tgt := 30) hx hb d_Reader_ahead_26 (by decide) ?_
    have hlt : p0 + k < n := Nat.not_le.mp fun z => c10 (nI_le z (by omega))
    refine zk_ti (z := zAh bs n (p0 + k)) (by rw [bAt_nI (by omega) (by omega)]; exact (if_pos hlt).symm) ?_
    exact zk_reti S hr hlk d_Reader_ahead_30

set_option maxHeartbeats 4000000 in
set_option maxRecDepth 100000 in
/-- PatternReader.skip() -/
theorem c_Reader_skip (l : Launch) (D : va_G) (kA : Nat → ClassId) (a o n p0 : Nat) (sz0 : Nat) : Met l y_Reader_skip (Cond.code y_Reader_skip b_Reader_skip 1 none :: zTB) { frames := 0, cells := 0, slots := 0, locals := 0 } (zk_Pc D classes (zTY kA) [.ref a] (fun H => H.size = sz0 ∧ va_P D classes [(a, .inr (3, [.ref o, .int (nI n), .int (nI p0)]))] H ∧ va_D (fun _ => True) [(a, .inr (3, [.ref o, .int (nI n), .int (nI p0)]))])) (zk_mQ (fun v H => v = none ∧ va_P D classes [(a, .inr (3, [.ref o, .int (nI n), .int (nI (p0 + 1))]))] H ∧ va_D (va_A [(a, .inr (3, [.ref o, .int (nI n), .int (nI p0)]))] sz0) [(a, .inr (3, [.ref o, .int (nI n), .int (nI (p0 + 1))]))]) (va_A [(a, .inr (3, [.ref o, .int (nI n), .int (nI p0)]))] sz0)) 0 0 (va_A [(a, .inr (3, [.ref o, .int (nI n), .int (nI p0)]))] sz0) := by
  refine zk_of [.ref a] (by decide) (Nat.le_of_ble_eq_true rfl) ?_
  intro p e s m below meth c S hr hlk hnm hK hX hpre ls hl
  obtain ⟨hx, hb, hml, hown, ht⟩ := id S
  have hl : lv_has ls 1 [(0, .ref a)] := hl
  obtain ⟨hsz, hP, hD0⟩ := hpre
  subst hsz
  have hD := hD0.self (sz := s.heap.size)
  generalize hAe : va_A [(a, .inr (3, [.ref o, .int (nI n), .int (nI p0)]))] s.heap.size = A at hD ⊢
  have hA : ∀ q : Nat, s.heap.size ≤ q → A q := fun q h => by rw [← hAe]; exact Or.inr h
  have hS : va_S A s.heap s.heap [] := va_S.rf
  have hP : va_P D classes [(a, .inr (3, [.ref o, .int (nI n), .int (nI p0)]))] s.heap := hP
  refine lv_aload_n hx hb d_Reader_skip_0 rfl (lv_at hl 0 rfl) ?_
  refine lv_dup hx hb d_Reader_skip_1 rfl ?_
  refine zk_get (C := R_Reader) (T := F_Reader) (N := 3) S hK (hP 0 _ rfl) rfl i_Reader 2 (by decide) m_Reader_19 rfl rfl d_Reader_skip_2 ?_
  refine lv_iconst (v := 1) hx hb d_Reader_skip_5 (by decide) ?_
  refine lv_iadd hx hb d_Reader_skip_6 ?_
  refine zk_ti (z := nI (p0 + 1)) (nI_1 _) ?_
  refine va_put (D := D) (ci := 3) (v := .int (nI (p0 + 1))) (ty := .int) (C := R_Reader) (T := F_Reader) (N := 3) hx hb ht i_Reader t_Reader t_Reader_ok n_Reader hown hK hP hD hS 0 rfl rfl 2 (by decide) (ht _ m_Reader_19) (fun _ h9 => h9) rfl (by decide +kernel) rfl rfl (Nat.le_of_ble_eq_true rfl) d_Reader_skip_7 (fun H locs hP hD hS => ?_)
  have hP : va_P D classes [(a, .inr (3, [.ref o, .int (nI n), .int (nI (p0 + 1))]))] H := hP
  have hD : va_D A [(a, .inr (3, [.ref o, .int (nI n), .int (nI (p0 + 1))]))] := hD
  exact zk_vret S hr hlk hS ⟨rfl, hP, hD⟩ (Nat.le_refl _) (Nat.le_refl _) d_Reader_skip_10

set_option maxHeartbeats 4000000 in
set_option maxRecDepth 100000 in
/-- PatternReader.nextItself() -/
theorem c_Reader_nextItself (l : Launch) (D : va_G) (kA : Nat → ClassId) (a o lim n p0 : Nat) (bs : List Nat) (hn : n ≤ bs.length) (hn2 : n < 2 ^ 19) (hp : p0 < n) (sz0 : Nat) : Met l y_Reader_nextItself (Cond.code y_Reader_nextItself b_Reader_nextItself 2 (some .int) :: zTB) { frames := 2, cells := 0, slots := 0, locals := 42 } (zk_Pc D classes (zTY kA) [.ref a] (fun H => H.size = sz0 ∧ va_P D classes [(a, .inr (3, [.ref o, .int (nI n), .int (nI p0)]))] H ∧ va_D (fun _ => True) [(a, .inr (3, [.ref o, .int (nI n), .int (nI p0)]))] ∧ BsAt D kA (fun q => ¬ (va_A [(a, .inr (3, [.ref o, .int (nI n), .int (nI p0)]))] sz0) q) H o lim bs)) (zk_mQ (fun v H => v = some (.int (nI (rSelf bs n p0).1)) ∧ va_P D classes [(a, .inr (3, [.ref o, .int (nI n), .int (nI (rSelf bs n p0).2)]))] H ∧ va_D (va_A [(a, .inr (3, [.ref o, .int (nI n), .int (nI p0)]))] sz0) [(a, .inr (3, [.ref o, .int (nI n), .int (nI (rSelf bs n p0).2)]))]) (va_A [(a, .inr (3, [.ref o, .int (nI n), .int (nI p0)]))] sz0)) 0 0 (va_A [(a, .inr (3, [.ref o, .int (nI n), .int (nI p0)]))] sz0) := by
  refine zk_of [.ref a] (by decide) (Nat.le_of_ble_eq_true rfl) ?_
  intro p e s m below meth c S hr hlk hnm hK hX hpre ls hl
  obtain ⟨hx, hb, hml, hown, ht⟩ := id S
  have hl : lv_has ls 2 [(0, .ref a)] := hl
  obtain ⟨hsz, hP, hD0, hO⟩ := hpre
  subst hsz
  have hD := hD0.self (sz := s.heap.size)
  generalize hAe : va_A [(a, .inr (3, [.ref o, .int (nI n), .int (nI p0)]))] s.heap.size = A at hD hO ⊢
  have hA : ∀ q : Nat, s.heap.size ≤ q → A q := fun q h => by rw [← hAe]; exact Or.inr h
  have hS : va_S A s.heap s.heap [] := va_S.rf
  have hP : va_P D classes [(a, .inr (3, [.ref o, .int (nI n), .int (nI p0)]))] s.heap := hP
  obtain ⟨ro, no, fo, hzo1, hzo2, hO1, hO2, hO3⟩ := id hO
  obtain ⟨g1, g2, g3, g4, g5⟩ := id hO3
  refine lv_aload_n hx hb d_Reader_nextItself_0 rfl (lv_at hl 0 rfl) ?_
  refine lv_iconst (v := 0) hx hb d_Reader_nextItself_1 (by decide) ?_
  refine zk_ti (z := nI 0) (rfl) ?_
  refine zk_pure (zk_runV (As := [.int (nI 0)]) (rest := []) S m_Reader_27 (c_Reader_ahead l D kA (fun q => ¬ A q) a o lim n p0 0 bs hn (by omega) (by omega)) rfl rfl ⟨Nat.le_of_ble_eq_true rfl, Nat.le_of_ble_eq_true rfl⟩ hK hX (zk_recv hK (hP 0 _ rfl) rfl) (⟨hP 0 _ rfl, hO.ro hS⟩) rfl hl.1 rfl (Nat.le_of_ble_eq_true rfl) ⟨Nat.le_of_ble_eq_true rfl, Nat.le_of_ble_eq_true rfl⟩ d_Reader_nextItself_2) ?_
  refine zk_ti (z := nI (bs.getD p0 0)) (by show zAh bs n (p0 + 0) = _; rw [Nat.add_zero]; exact if_pos hp) ?_
  have hb0 := (g5 p0 (by omega)).1
  refine lv_bipush (v := 92) hx hb d_Reader_nextItself_5 (by decide) ?_
  refine lv_icmp_ne (tgt := 29) hx hb d_Reader_nextItself_7 (by decide) (fun c7 => ?_) (fun c7 => ?_)
  · have hno : ¬ bs.getD p0 0 = 92 := fun z => c7 (by rw [z]; rfl)
    refine lv_aload_n hx hb d_Reader_nextItself_29 rfl (lv_at hl 0 rfl) ?_
    refine lv_iconst (v := 0) hx hb d_Reader_nextItself_30 (by decide) ?_
    refine zk_ti (z := nI 0) (rfl) ?_
    refine zk_pure (zk_runV (As := [.int (nI 0)]) (rest := []) S m_Reader_27 (c_Reader_ahead l D kA (fun q => ¬ A q) a o lim n p0 0 bs hn (by omega) (by omega)) rfl rfl ⟨Nat.le_of_ble_eq_true rfl, Nat.le_of_ble_eq_true rfl⟩ hK hX (zk_recv hK (hP 0 _ rfl) rfl) (⟨hP 0 _ rfl, hO.ro hS⟩) rfl hl.1 rfl (Nat.le_of_ble_eq_true rfl) ⟨Nat.le_of_ble_eq_true rfl, Nat.le_of_ble_eq_true rfl⟩ d_Reader_nextItself_31) ?_
    refine zk_ti (z := nI (bs.getD p0 0)) (by show zAh bs n (p0 + 0) = _; rw [Nat.add_zero]; exact if_pos (by omega)) ?_
    refine lv_istore_n (lv' := [(1, .int (nI (bs.getD p0 0))), (0, .ref a)]) hx hb d_Reader_nextItself_34 rfl hl (by decide) rfl (fun ls hl => ?_)
    refine lv_aload_n hx hb d_Reader_nextItself_35 rfl (lv_at hl 1 rfl) ?_
    refine lv_dup hx hb d_Reader_nextItself_36 rfl ?_
    refine zk_get (C := R_Reader) (T := F_Reader) (N := 3) S hK (hP 0 _ rfl) rfl i_Reader 2 (by decide) m_Reader_19 rfl rfl d_Reader_nextItself_37 ?_
    refine lv_iconst (v := 1) hx hb d_Reader_nextItself_40 (by decide) ?_
    refine lv_iadd hx hb d_Reader_nextItself_41 ?_
    refine zk_ti (z := nI (p0 + 1)) (nI_1 _) ?_
    refine va_put (D := D) (ci := 3) (v := .int (nI (p0 + 1))) (ty := .int) (C := R_Reader) (T := F_Reader) (N := 3) hx hb ht i_Reader t_Reader t_Reader_ok n_Reader hown hK hP hD hS 0 rfl rfl 2 (by decide) (ht _ m_Reader_19) (fun _ h9 => h9) rfl (by decide +kernel) rfl rfl (Nat.le_of_ble_eq_true rfl) d_Reader_nextItself_42 (fun H locs hP hD hS => ?_)
    have hP : va_P D classes [(a, .inr (3, [.ref o, .int (nI n), .int (nI (p0 + 1))]))] H := hP
    have hD : va_D A [(a, .inr (3, [.ref o, .int (nI n), .int (nI (p0 + 1))]))] := hD
    refine lv_iload_n hx hb d_Reader_nextItself_45 rfl (lv_at hl 0 rfl) ?_
    have hrs : rSelf bs n p0 = (bs.getD p0 0, p0 + 1) := if_neg (fun z => hno z.1)
    exact zk_iret S hr hlk hS ⟨by rw [hrs], by rw [hrs]; exact hP, by rw [hrs]; exact hD⟩ (Nat.le_refl _) (Nat.le_refl _) d_Reader_nextItself_46
  · have h92 : bs.getD p0 0 = 92 := (nI_eq (by omega) (by omega)).mp (show nI (bs.getD p0 0) = nI 92 from c7)
    refine lv_aload_n hx hb d_Reader_nextItself_10 rfl (lv_at hl 0 rfl) ?_
    refine lv_iconst (v := 1) hx hb d_Reader_nextItself_11 (by decide) ?_
    refine zk_ti (z := nI 1) (rfl) ?_
    refine zk_pure (zk_runV (As := [.int (nI 1)]) (rest := []) S m_Reader_27 (c_Reader_ahead l D kA (fun q => ¬ A q) a o lim n p0 1 bs hn (by omega) (by omega)) rfl rfl ⟨Nat.le_of_ble_eq_true rfl, Nat.le_of_ble_eq_true rfl⟩ hK hX (zk_recv hK (hP 0 _ rfl) rfl) (⟨hP 0 _ rfl, hO.ro hS⟩) rfl hl.1 rfl (Nat.le_of_ble_eq_true rfl) ⟨Nat.le_of_ble_eq_true rfl, Nat.le_of_ble_eq_true rfl⟩ d_Reader_nextItself_12) ?_
    refine lv_iconst (v := (-1)) hx hb d_Reader_nextItself_15 (by decide) ?_
    refine lv_icmp_eq (tgt := 29) hx hb d_Reader_nextItself_16 (by decide) (fun c16 => ?_) (fun c16 => ?_)
    · have hno : ¬ p0 + 1 < n := fun z => by
        have h9 : zAh bs n (p0 + 1) = nI (bs.getD (p0 + 1) 0) := if_pos z
        rw [h9] at c16
        have := (g5 (p0 + 1) (by omega)).1
        exact zNe1 (by omega) c16
      refine lv_aload_n hx hb d_Reader_nextItself_29 rfl (lv_at hl 0 rfl) ?_
      refine lv_iconst (v := 0) hx hb d_Reader_nextItself_30 (by decide) ?_
      refine zk_ti (z := nI 0) (rfl) ?_
      refine zk_pure (zk_runV (As := [.int (nI 0)]) (rest := []) S m_Reader_27 (c_Reader_ahead l D kA (fun q => ¬ A q) a o lim n p0 0 bs hn (by omega) (by omega)) rfl rfl ⟨Nat.le_of_ble_eq_true rfl, Nat.le_of_ble_eq_true rfl⟩ hK hX (zk_recv hK (hP 0 _ rfl) rfl) (⟨hP 0 _ rfl, hO.ro hS⟩) rfl hl.1 rfl (Nat.le_of_ble_eq_true rfl) ⟨Nat.le_of_ble_eq_true rfl, Nat.le_of_ble_eq_true rfl⟩ d_Reader_nextItself_31) ?_
      refine zk_ti (z := nI (bs.getD p0 0)) (by show zAh bs n (p0 + 0) = _; rw [Nat.add_zero]; exact if_pos (by omega)) ?_
      refine lv_istore_n (lv' := [(1, .int (nI (bs.getD p0 0))), (0, .ref a)]) hx hb d_Reader_nextItself_34 rfl hl (by decide) rfl (fun ls hl => ?_)
      refine lv_aload_n hx hb d_Reader_nextItself_35 rfl (lv_at hl 1 rfl) ?_
      refine lv_dup hx hb d_Reader_nextItself_36 rfl ?_
      refine zk_get (C := R_Reader) (T := F_Reader) (N := 3) S hK (hP 0 _ rfl) rfl i_Reader 2 (by decide) m_Reader_19 rfl rfl d_Reader_nextItself_37 ?_
      refine lv_iconst (v := 1) hx hb d_Reader_nextItself_40 (by decide) ?_
      refine lv_iadd hx hb d_Reader_nextItself_41 ?_
      refine zk_ti (z := nI (p0 + 1)) (nI_1 _) ?_
      refine va_put (D := D) (ci := 3) (v := .int (nI (p0 + 1))) (ty := .int) (C := R_Reader) (T := F_Reader) (N := 3) hx hb ht i_Reader t_Reader t_Reader_ok n_Reader hown hK hP hD hS 0 rfl rfl 2 (by decide) (ht _ m_Reader_19) (fun _ h9 => h9) rfl (by decide +kernel) rfl rfl (Nat.le_of_ble_eq_true rfl) d_Reader_nextItself_42 (fun H locs hP hD hS => ?_)
      have hP : va_P D classes [(a, .inr (3, [.ref o, .int (nI n), .int (nI (p0 + 1))]))] H := hP
      have hD : va_D A [(a, .inr (3, [.ref o, .int (nI n), .int (nI (p0 + 1))]))] := hD
      refine lv_iload_n hx hb d_Reader_nextItself_45 rfl (lv_at hl 0 rfl) ?_
      have hrs : rSelf bs n p0 = (bs.getD p0 0, p0 + 1) := if_neg (fun z => hno z.2)
      exact zk_iret S hr hlk hS ⟨by rw [hrs], by rw [hrs]; exact hP, by rw [hrs]; exact hD⟩ (Nat.le_refl _) (Nat.le_refl _) d_Reader_nextItself_46
    · have hin1 : p0 + 1 < n := by
        by_cases z : p0 + 1 < n
        · exact z
        · exact absurd (show zAh bs n (p0 + 1) = -1 from if_neg z) c16
      refine lv_aload_n hx hb d_Reader_nextItself_19 rfl (lv_at hl 0 rfl) ?_
      refine lv_dup hx hb d_Reader_nextItself_20 rfl ?_
      refine zk_get (C := R_Reader) (T := F_Reader) (N := 3) S hK (hP 0 _ rfl) rfl i_Reader 2 (by decide) m_Reader_19 rfl rfl d_Reader_nextItself_21 ?_
      refine lv_iconst (v := 1) hx hb d_Reader_nextItself_24 (by decide) ?_
      refine lv_iadd hx hb d_Reader_nextItself_25 ?_
      refine zk_ti (z := nI (p0 + 1)) (nI_1 _) ?_
      refine va_put (D := D) (ci := 3) (v := .int (nI (p0 + 1))) (ty := .int) (C := R_Reader) (T := F_Reader) (N := 3) hx hb ht i_Reader t_Reader t_Reader_ok n_Reader hown hK hP hD hS 0 rfl rfl 2 (by decide) (ht _ m_Reader_19) (fun _ h9 => h9) rfl (by decide +kernel) rfl rfl (Nat.le_of_ble_eq_true rfl) d_Reader_nextItself_26 (fun H locs hP hD hS => ?_)
      have hP : va_P D classes [(a, .inr (3, [.ref o, .int (nI n), .int (nI (p0 + 1))]))] H := hP
      have hD : va_D A [(a, .inr (3, [.ref o, .int (nI n), .int (nI (p0 + 1))]))] := hD
      refine lv_aload_n hx hb d_Reader_nextItself_29 rfl (lv_at hl 0 rfl) ?_
      refine lv_iconst (v := 0) hx hb d_Reader_nextItself_30 (by decide) ?_
      refine zk_ti (z := nI 0) (rfl) ?_
      refine zk_pure (zk_runV (As := [.int (nI 0)]) (rest := []) S m_Reader_27 (c_Reader_ahead l D kA (fun q => ¬ A q) a o lim n (p0 + 1) 0 bs hn (by omega) (by omega)) rfl rfl ⟨Nat.le_of_ble_eq_true rfl, Nat.le_of_ble_eq_true rfl⟩ hK hX (zk_recv hK (hP 0 _ rfl) rfl) (⟨hP 0 _ rfl, hO.ro hS⟩) rfl hl.1 rfl (Nat.le_of_ble_eq_true rfl) ⟨Nat.le_of_ble_eq_true rfl, Nat.le_of_ble_eq_true rfl⟩ d_Reader_nextItself_31) ?_
      refine zk_ti (z := nI (bs.getD (p0 + 1) 0)) (by show zAh bs n (p0 + 1 + 0) = _; rw [Nat.add_zero]; exact if_pos (by omega)) ?_
      refine lv_istore_n (lv' := [(1, .int (nI (bs.getD (p0 + 1) 0))), (0, .ref a)]) hx hb d_Reader_nextItself_34 rfl hl (by decide) rfl (fun ls hl => ?_)
      refine lv_aload_n hx hb d_Reader_nextItself_35 rfl (lv_at hl 1 rfl) ?_
      refine lv_dup hx hb d_Reader_nextItself_36 rfl ?_
      refine zk_get (C := R_Reader) (T := F_Reader) (N := 3) S hK (hP 0 _ rfl) rfl i_Reader 2 (by decide) m_Reader_19 rfl rfl d_Reader_nextItself_37 ?_
      refine lv_iconst (v := 1) hx hb d_Reader_nextItself_40 (by decide) ?_
      refine lv_iadd hx hb d_Reader_nextItself_41 ?_
      refine zk_ti (z := nI (p0 + 1 + 1)) (nI_1 _) ?_
      refine va_put (D := D) (ci := 3) (v := .int (nI (p0 + 1 + 1))) (ty := .int) (C := R_Reader) (T := F_Reader) (N := 3) hx hb ht i_Reader t_Reader t_Reader_ok n_Reader hown hK hP hD hS 0 rfl rfl 2 (by decide) (ht _ m_Reader_19) (fun _ h9 => h9) rfl (by decide +kernel) rfl rfl (Nat.le_of_ble_eq_true rfl) d_Reader_nextItself_42 (fun H locs hP hD hS => ?_)
      have hP : va_P D classes [(a, .inr (3, [.ref o, .int (nI n), .int (nI (p0 + 1 + 1))]))] H := hP
      have hD : va_D A [(a, .inr (3, [.ref o, .int (nI n), .int (nI (p0 + 1 + 1))]))] := hD
      refine lv_iload_n hx hb d_Reader_nextItself_45 rfl (lv_at hl 0 rfl) ?_
      have hrs : rSelf bs n p0 = (bs.getD (p0 + 1) 0, p0 + 2) := if_pos ⟨h92, hin1⟩
      exact zk_iret S hr hlk hS ⟨by rw [hrs], by rw [hrs]; exact hP, by rw [hrs]; exact hD⟩ (Nat.le_refl _) (Nat.le_refl _) d_Reader_nextItself_46

set_option maxHeartbeats 4000000 in
set_option maxRecDepth 100000 in
/-- Rule(state, pattern, answer, delay, next) -/
theorem c_Rule_init (l : Launch) (D : va_G) (kA : Nat → ClassId) (a pt an : Nat) (x0 x3 x4 : Int32) (sz0 : Nat) : Met l y_Rule_init (Cond.code y_Rule_init b_Rule_init 6 none :: zTB) { frames := 1, cells := 0, slots := 0, locals := 12 } (zk_Pc D classes (zTY kA) [.ref a, .int x0, .ref pt, .ref an, .int x3, .int x4] (fun H => H.size = sz0 ∧ va_P D classes [(a, .inr (4, [.int 0, .null, .null, .int 0, .int 0]))] H ∧ va_D (fun _ => True) [(a, .inr (4, [.int 0, .null, .null, .int 0, .int 0]))])) (zk_mQ (fun v H => v = none ∧ va_P D classes [(a, .inr (4, [.int x0, .ref pt, .ref an, .int x3, .int x4]))] H ∧ va_D (va_A [(a, .inr (4, [.int 0, .null, .null, .int 0, .int 0]))] sz0) [(a, .inr (4, [.int x0, .ref pt, .ref an, .int x3, .int x4]))]) (va_A [(a, .inr (4, [.int 0, .null, .null, .int 0, .int 0]))] sz0)) 0 0 (va_A [(a, .inr (4, [.int 0, .null, .null, .int 0, .int 0]))] sz0) := by
  refine zk_of [.ref a, .int x0, .ref pt, .ref an, .int x3, .int x4] (by decide) (Nat.le_of_ble_eq_true rfl) ?_
  intro p e s m below meth c S hr hlk hnm hK hX hpre ls hl
  obtain ⟨hx, hb, hml, hown, ht⟩ := id S
  have hl : lv_has ls 6 [(0, .ref a), (1, .int x0), (2, .ref pt), (3, .ref an), (4, .int x3), (5, .int x4)] := hl
  obtain ⟨hsz, hP, hD0⟩ := hpre
  subst hsz
  have hD := hD0.self (sz := s.heap.size)
  generalize hAe : va_A [(a, .inr (4, [.int 0, .null, .null, .int 0, .int 0]))] s.heap.size = A at hD ⊢
  have hA : ∀ q : Nat, s.heap.size ≤ q → A q := fun q h => by rw [← hAe]; exact Or.inr h
  have hS : va_S A s.heap s.heap [] := va_S.rf
  have hP : va_P D classes [(a, .inr (4, [.int 0, .null, .null, .int 0, .int 0]))] s.heap := hP
  refine lv_aload_n hx hb d_Rule_init_0 rfl (lv_at hl 0 rfl) ?_
  refine W.objInit hx hb hown (ht _ m_Rule_1) (ht _ m_obj_i) (ht _ m_obj_c) rfl (by rw [hml]; exact hl.1) rfl d_Rule_init_1 (Nat.le_of_ble_eq_true rfl) (Nat.le_of_ble_eq_true rfl) ?_
  refine W.eq (g2 := F0 m 4 ls []) rfl ?_
  refine lv_aload_n hx hb d_Rule_init_4 rfl (lv_at hl 0 rfl) ?_
  refine lv_iload_n hx hb d_Rule_init_5 rfl (lv_at hl 1 rfl) ?_
  refine va_putF (D := D) (ci := 4) (v := .int x0) (ty := .int) (C := R_Rule) (T := F_Rule) (N := 5) hx hb ht i_Rule t_Rule t_Rule_ok n_Rule hown hK hP hD hS 0 rfl rfl 0 (by decide) (ht _ m_Rule_7) (fun _ h9 => h9) rfl hnm rfl (by decide +kernel) rfl rfl (Nat.le_of_ble_eq_true rfl) d_Rule_init_6 (fun H locs hP hD hS => ?_)
  have hP : va_P D classes [(a, .inr (4, [.int x0, .null, .null, .int 0, .int 0]))] H := hP
  have hD : va_D A [(a, .inr (4, [.int x0, .null, .null, .int 0, .int 0]))] := hD
  refine lv_aload_n hx hb d_Rule_init_9 rfl (lv_at hl 0 rfl) ?_
  refine lv_aload_n hx hb d_Rule_init_10 rfl (lv_at hl 2 rfl) ?_
  refine va_putF (D := D) (ci := 4) (v := .ref pt) (ty := .object "PeerLine$Pattern") (C := R_Rule) (T := F_Rule) (N := 5) hx hb ht i_Rule t_Rule t_Rule_ok n_Rule hown hK hP hD hS 0 rfl rfl 1 (by decide) (ht _ m_Rule_13) (fun _ h9 => h9) rfl hnm rfl (by decide +kernel) rfl rfl (Nat.le_of_ble_eq_true rfl) d_Rule_init_11 (fun H locs hP hD hS => ?_)
  have hP : va_P D classes [(a, .inr (4, [.int x0, .ref pt, .null, .int 0, .int 0]))] H := hP
  have hD : va_D A [(a, .inr (4, [.int x0, .ref pt, .null, .int 0, .int 0]))] := hD
  refine lv_aload_n hx hb d_Rule_init_14 rfl (lv_at hl 0 rfl) ?_
  refine lv_aload_n hx hb d_Rule_init_15 rfl (lv_at hl 3 rfl) ?_
  refine va_putF (D := D) (ci := 4) (v := .ref an) (ty := .object "PeerLine$Bytes") (C := R_Rule) (T := F_Rule) (N := 5) hx hb ht i_Rule t_Rule t_Rule_ok n_Rule hown hK hP hD hS 0 rfl rfl 2 (by decide) (ht _ m_Rule_17) (fun _ h9 => h9) rfl hnm rfl (by decide +kernel) rfl rfl (Nat.le_of_ble_eq_true rfl) d_Rule_init_16 (fun H locs hP hD hS => ?_)
  have hP : va_P D classes [(a, .inr (4, [.int x0, .ref pt, .ref an, .int 0, .int 0]))] H := hP
  have hD : va_D A [(a, .inr (4, [.int x0, .ref pt, .ref an, .int 0, .int 0]))] := hD
  refine lv_aload_n hx hb d_Rule_init_19 rfl (lv_at hl 0 rfl) ?_
  refine lv_iload hx hb d_Rule_init_20 (lv_at hl 4 rfl) ?_
  refine va_putF (D := D) (ci := 4) (v := .int x3) (ty := .int) (C := R_Rule) (T := F_Rule) (N := 5) hx hb ht i_Rule t_Rule t_Rule_ok n_Rule hown hK hP hD hS 0 rfl rfl 3 (by decide) (ht _ m_Rule_21) (fun _ h9 => h9) rfl hnm rfl (by decide +kernel) rfl rfl (Nat.le_of_ble_eq_true rfl) d_Rule_init_22 (fun H locs hP hD hS => ?_)
  have hP : va_P D classes [(a, .inr (4, [.int x0, .ref pt, .ref an, .int x3, .int 0]))] H := hP
  have hD : va_D A [(a, .inr (4, [.int x0, .ref pt, .ref an, .int x3, .int 0]))] := hD
  refine lv_aload_n hx hb d_Rule_init_25 rfl (lv_at hl 0 rfl) ?_
  refine lv_iload hx hb d_Rule_init_26 (lv_at hl 5 rfl) ?_
  refine va_putF (D := D) (ci := 4) (v := .int x4) (ty := .int) (C := R_Rule) (T := F_Rule) (N := 5) hx hb ht i_Rule t_Rule t_Rule_ok n_Rule hown hK hP hD hS 0 rfl rfl 4 (by decide) (ht _ m_Rule_24) (fun _ h9 => h9) rfl hnm rfl (by decide +kernel) rfl rfl (Nat.le_of_ble_eq_true rfl) d_Rule_init_28 (fun H locs hP hD hS => ?_)
  have hP : va_P D classes [(a, .inr (4, [.int x0, .ref pt, .ref an, .int x3, .int x4]))] H := hP
  have hD : va_D A [(a, .inr (4, [.int x0, .ref pt, .ref an, .int x3, .int x4]))] := hD
  exact zk_vret S hr hlk hS ⟨rfl, hP, hD⟩ (Nat.le_refl _) (Nat.le_refl _) d_Rule_init_31
end
section
set_option maxHeartbeats 4000000 in
set_option maxRecDepth 100000 in
/-- Pattern.markStar() -/
theorem c_Pattern_markStar (l : Launch) (D : va_G) (kA : Nat → ClassId) (a sa za mm cnt : Nat) (zf : Nat → Int32) (hc : cnt < mm) (hm : mm ≤ 1024) (sz0 : Nat) : Met l y_Pattern_markStar (Cond.code y_Pattern_markStar b_Pattern_markStar 1 none :: zTB) { frames := 0, cells := 0, slots := 0, locals := 0 } (zk_Pc D classes (zTY kA) [.ref a] (fun H => H.size = sz0 ∧ va_P D classes [(a, .inr (2, [.ref sa, .ref za, .int (nI cnt)])), (za, .inl ((kA 2), mm, .inl zf))] H ∧ va_D (fun _ => True) [(a, .inr (2, [.ref sa, .ref za, .int (nI cnt)])), (za, .inl ((kA 2), mm, .inl zf))])) (zk_mQ (fun v H => v = none ∧ va_P D classes [(a, .inr (2, [.ref sa, .ref za, .int (nI cnt)])), (za, .inl (kA 2, mm, .inl (upd zf cnt 1)))] H ∧ va_D (va_A [(a, .inr (2, [.ref sa, .ref za, .int (nI cnt)])), (za, .inl ((kA 2), mm, .inl zf))] sz0) [(a, .inr (2, [.ref sa, .ref za, .int (nI cnt)])), (za, .inl (kA 2, mm, .inl (upd zf cnt 1)))]) (va_A [(a, .inr (2, [.ref sa, .ref za, .int (nI cnt)])), (za, .inl ((kA 2), mm, .inl zf))] sz0)) 0 0 (va_A [(a, .inr (2, [.ref sa, .ref za, .int (nI cnt)])), (za, .inl ((kA 2), mm, .inl zf))] sz0) := by
  refine zk_of [.ref a] (by decide) (Nat.le_of_ble_eq_true rfl) ?_
  intro p e s m below meth c S hr hlk hnm hK hX hpre ls hl
  obtain ⟨hx, hb, hml, hown, ht⟩ := id S
  have hl : lv_has ls 1 [(0, .ref a)] := hl
  obtain ⟨hsz, hP, hD0⟩ := hpre
  subst hsz
  have hD := hD0.self (sz := s.heap.size)
  generalize hAe : va_A [(a, .inr (2, [.ref sa, .ref za, .int (nI cnt)])), (za, .inl ((kA 2), mm, .inl zf))] s.heap.size = A at hD ⊢
  have hA : ∀ q : Nat, s.heap.size ≤ q → A q := fun q h => by rw [← hAe]; exact Or.inr h
  have hS : va_S A s.heap s.heap [] := va_S.rf
  have hP : va_P D classes [(a, .inr (2, [.ref sa, .ref za, .int (nI cnt)])), (za, .inl ((kA 2), mm, .inl zf))] s.heap := hP
  refine lv_aload_n hx hb d_Pattern_markStar_0 rfl (lv_at hl 0 rfl) ?_
  refine zk_get (C := R_Pattern) (T := F_Pattern) (N := 3) S hK (hP 0 _ rfl) rfl i_Pattern 2 (by decide) m_Pattern_39 rfl rfl d_Pattern_markStar_1 ?_
  refine lv_if_lt (tgt := 29) hx hb d_Pattern_markStar_4 (by decide) (fun c4 => ?_) (fun c4 => ?_)
  · exact absurd c4 (nI_pos (by omega))
  · refine lv_aload_n hx hb d_Pattern_markStar_7 rfl (lv_at hl 0 rfl) ?_
    refine zk_get (C := R_Pattern) (T := F_Pattern) (N := 3) S hK (hP 0 _ rfl) rfl i_Pattern 2 (by decide) m_Pattern_39 rfl rfl d_Pattern_markStar_8 ?_
    refine lv_aload_n hx hb d_Pattern_markStar_11 rfl (lv_at hl 0 rfl) ?_
    refine zk_get (C := R_Pattern) (T := F_Pattern) (N := 3) S hK (hP 0 _ rfl) rfl i_Pattern 1 (by decide) m_Pattern_30 rfl rfl d_Pattern_markStar_12 ?_
    refine zk_alen S hK 2 (hP 1 _ rfl) rfl (v := nI mm) rfl d_Pattern_markStar_15 ?_
    refine lv_icmp_ge (tgt := 29) hx hb d_Pattern_markStar_16 (by decide) (fun c16 => ?_) (fun c16 => ?_)
    · exact absurd c16 (nI_ge (by omega) (by omega))
    · refine lv_aload_n hx hb d_Pattern_markStar_19 rfl (lv_at hl 0 rfl) ?_
      refine zk_get (C := R_Pattern) (T := F_Pattern) (N := 3) S hK (hP 0 _ rfl) rfl i_Pattern 1 (by decide) m_Pattern_30 rfl rfl d_Pattern_markStar_20 ?_
      refine lv_aload_n hx hb d_Pattern_markStar_23 rfl (lv_at hl 0 rfl) ?_
      refine zk_get (C := R_Pattern) (T := F_Pattern) (N := 3) S hK (hP 0 _ rfl) rfl i_Pattern 2 (by decide) m_Pattern_39 rfl rfl d_Pattern_markStar_24 ?_
      refine lv_iconst (v := 1) hx hb d_Pattern_markStar_27 (by decide) ?_
      refine va_zast hx hb hK hP hD hS 1 2 rfl rfl (vp_in_nI (by omega) (by omega)) d_Pattern_markStar_28 (fun H locs hP hD hS => ?_)
      rw [nI_clamp (by omega), show vp_nar .boolean 1 = 1 from rfl] at hP hD
      have hP : va_P D classes [(a, .inr (2, [.ref sa, .ref za, .int (nI cnt)])), (za, .inl ((kA 2), mm, .inl (upd zf cnt 1)))] H := hP
      have hD : va_D A [(a, .inr (2, [.ref sa, .ref za, .int (nI cnt)])), (za, .inl ((kA 2), mm, .inl (upd zf cnt 1)))] := hD
      exact zk_vret S hr hlk hS ⟨rfl, hP, hD⟩ (Nat.le_refl _) (Nat.le_refl _) d_Pattern_markStar_29

set_option maxHeartbeats 4000000 in
set_option maxRecDepth 100000 in
/-- Pattern.allow(low, high) -/
theorem c_Pattern_allow (l : Launch) (D : va_G) (kA : Nat → ClassId) (a sa za mm cnt : Nat) (sf : Nat → Int64) (lo hi : Nat) (hc : cnt < mm) (hm : mm ≤ 1024) (hlo : lo < 256) (hhi : hi < 256) (sz0 : Nat) : Met l y_Pattern_allow (Cond.code y_Pattern_allow b_Pattern_allow 5 none :: zTB) { frames := 1, cells := 0, slots := 0, locals := 13 } (zk_Pc D classes (zTY kA) [.ref a, .int (nI lo), .int (nI hi)] (fun H => H.size = sz0 ∧ va_P D classes [(a, .inr (2, [.ref sa, .ref za, .int (nI cnt)])), (sa, .inl ((kA 1), (mm * 4), .inr (.inl sf)))] H ∧ va_D (fun _ => True) [(a, .inr (2, [.ref sa, .ref za, .int (nI cnt)])), (sa, .inl ((kA 1), (mm * 4), .inr (.inl sf)))])) (zk_mQ (fun v H => v = none ∧ ∃ sf', va_P D classes [(a, .inr (2, [.ref sa, .ref za, .int (nI cnt)])), (sa, .inl (kA 1, mm * 4, .inr (.inl sf')))] H ∧ va_D (va_A [(a, .inr (2, [.ref sa, .ref za, .int (nI cnt)])), (sa, .inl ((kA 1), (mm * 4), .inr (.inl sf)))] sz0) [(a, .inr (2, [.ref sa, .ref za, .int (nI cnt)])), (sa, .inl (kA 1, mm * 4, .inr (.inl sf')))] ∧ ∀ i x, x < 256 → zSb sf' i x = (zSb sf i x || (decide (i = cnt) && (decide (lo ≤ x) && decide (x ≤ hi))))) (va_A [(a, .inr (2, [.ref sa, .ref za, .int (nI cnt)])), (sa, .inl ((kA 1), (mm * 4), .inr (.inl sf)))] sz0)) 0 0 (va_A [(a, .inr (2, [.ref sa, .ref za, .int (nI cnt)])), (sa, .inl ((kA 1), (mm * 4), .inr (.inl sf)))] sz0) := by
  refine zk_of [.ref a, .int (nI lo), .int (nI hi)] (by decide) (Nat.le_of_ble_eq_true rfl) ?_
  intro p e s m below meth c S hr hlk hnm hK hX hpre ls hl
  obtain ⟨hx, hb, hml, hown, ht⟩ := id S
  have hl : lv_has ls 5 [(0, .ref a), (1, .int (nI lo)), (2, .int (nI hi))] := hl
  obtain ⟨hsz, hP, hD0⟩ := hpre
  subst hsz
  have hD := hD0.self (sz := s.heap.size)
  generalize hAe : va_A [(a, .inr (2, [.ref sa, .ref za, .int (nI cnt)])), (sa, .inl ((kA 1), (mm * 4), .inr (.inl sf)))] s.heap.size = A at hD ⊢
  have hA : ∀ q : Nat, s.heap.size ≤ q → A q := fun q h => by rw [← hAe]; exact Or.inr h
  have hS : va_S A s.heap s.heap [] := va_S.rf
  have hP : va_P D classes [(a, .inr (2, [.ref sa, .ref za, .int (nI cnt)])), (sa, .inl ((kA 1), (mm * 4), .inr (.inl sf)))] s.heap := hP
  refine lv_iconst (v := 0) hx hb d_Pattern_allow_0 (by decide) ?_
  refine lv_iload_n hx hb d_Pattern_allow_1 rfl (lv_at hl 1 rfl) ?_
  refine va_mmax hx hb (by rw [hml]; exact hl.1.symm) hown (ht _ m_Pattern_21) (ht _ m_max_s) (ht _ m_ini_Math) (ht _ m_max_c) (Nat.le_of_ble_eq_true rfl) (Nat.le_of_ble_eq_true rfl) (Nat.le_of_ble_eq_true rfl) (Nat.le_of_ble_eq_true rfl) d_Pattern_allow_2 ?_
  refine zk_ti (z := nI lo) (by
    by_cases q0 : lo = 0
    · rw [q0]; rfl
    · exact if_pos (by rw [← nI_0]; exact nI_lt (by omega) (by omega))) ?_
  refine lv_istore_n (lv' := [(3, .int (nI lo)), (0, .ref a), (1, .int (nI lo)), (2, .int (nI hi))]) hx hb d_Pattern_allow_5 rfl hl (by decide) rfl (fun ls hl => ?_)
  have lp : ∀ (fu : Nat) (y : Nat) (s1 : Nat → Int64), 257 - y < fu → lo ≤ y → y ≤ hi + 1 ∨ y = lo → (∀ i x, x < 256 → zSb s1 i x = (zSb sf i x || (decide (i = cnt) && (decide (lo ≤ x) && decide (x < y))))) → ∀ (H : Heap) (locs : List Loc), va_P D classes [(a, .inr (2, [.ref sa, .ref za, .int (nI cnt)])), (sa, .inl ((kA 1), (mm * 4), .inr (.inl s1)))] H → va_D A [(a, .inr (2, [.ref sa, .ref za, .int (nI cnt)])), (sa, .inl ((kA 1), (mm * 4), .inr (.inl s1)))] → va_S A s.heap H locs → ∀ ls : Array Slot, lv_has ls 5 [(0, .ref a), (2, .int (nI hi)), (3, .int (nI y))] → W p l e { frames := 1, cells := 0, slots := 0, locals := 13 } s m [.ref a, .int (nI lo), .int (nI hi)].toArray below meth c H locs 0 0 (MQ below (zk_mQ (fun v H => v = none ∧ ∃ sf', va_P D classes [(a, .inr (2, [.ref sa, .ref za, .int (nI cnt)])), (sa, .inl (kA 1, mm * 4, .inr (.inl sf')))] H ∧ va_D A [(a, .inr (2, [.ref sa, .ref za, .int (nI cnt)])), (sa, .inl (kA 1, mm * 4, .inr (.inl sf')))] ∧ ∀ i x, x < 256 → zSb sf' i x = (zSb sf i x || (decide (i = cnt) && (decide (lo ≤ x) && decide (x ≤ hi))))) A) [.ref a, .int (nI lo), .int (nI hi)].toArray s 0 0 A) (F0 m 6 ls []) := by
    intro fu
    induction fu with
    | zero => intro y s1 hn; exact absurd hn (Nat.not_lt_zero _)
    | succ fu ih =>
      intro y s1 hn hy1 hy2 hs1 H locs hP hD hS ls hl
      refine lv_iload_n hx hb d_Pattern_allow_6 rfl (lv_at hl 2 rfl) ?_
      refine lv_iload_n hx hb d_Pattern_allow_7 rfl (lv_at hl 1 rfl) ?_
      refine lv_icmp_gt (tgt := 63) hx hb d_Pattern_allow_8 (by decide) (fun c8 => ?_) (fun c8 => ?_)
      · have hyh : hi < y := (nI_ltI (by omega) (by omega)).mp c8
        exact zk_vret S hr hlk hS ⟨rfl, s1, hP, hD, fun i x hx => by
          rw [hs1 i x hx]
          congr 2
          by_cases z1 : lo ≤ x
          · by_cases z2 : x ≤ hi
            · simp [z1, z2, show x < y by omega]
            · simp [z2, show ¬ x < y by omega]
          · simp [z1]⟩ (Nat.le_refl _) (Nat.le_refl _) d_Pattern_allow_63
      · have hyh : y ≤ hi := Nat.not_lt.mp fun z => c8 (nI_lt z (by omega))
        refine lv_iload_n hx hb d_Pattern_allow_11 rfl (lv_at hl 2 rfl) ?_
        refine lv_sipush (v := 255) hx hb d_Pattern_allow_12 (by decide) ?_
        refine lv_icmp_gt (tgt := 63) hx hb d_Pattern_allow_15 (by decide) (fun c15 => ?_) (fun c15 => ?_)
        · exact absurd (show nI 255 < nI y from c15) (nI_nlt (by omega) (by omega))
        · refine lv_aload_n hx hb d_Pattern_allow_18 rfl (lv_at hl 0 rfl) ?_
          refine zk_get (C := R_Pattern) (T := F_Pattern) (N := 3) S hK (hP 0 _ rfl) rfl i_Pattern 2 (by decide) m_Pattern_39 rfl rfl d_Pattern_allow_19 ?_
          refine lv_iconst (v := 4) hx hb d_Pattern_allow_22 (by decide) ?_
          refine lv_imul hx hb d_Pattern_allow_23 ?_
          refine zk_ti (z := nI (cnt * 4)) (show nI cnt * nI 4 = _ from pk_mul cnt 4) ?_
          refine lv_iload_n hx hb d_Pattern_allow_24 rfl (lv_at hl 2 rfl) ?_
          refine lv_bipush (v := 6) hx hb d_Pattern_allow_25 (by decide) ?_
          refine lv_ishr hx hb d_Pattern_allow_27 ?_
          refine zk_ti (z := nI (y / 64)) (pk_shrN (by omega) _ 6 (by decide)) ?_
          refine lv_iadd hx hb d_Pattern_allow_28 ?_
          refine zk_ti (z := nI (cnt * 4 + y / 64)) (nI_add _ _) ?_
          refine lv_istore (lv' := [(4, .int (nI (cnt * 4 + y / 64))), (0, .ref a), (2, .int (nI hi)), (3, .int (nI y))]) hx hb d_Pattern_allow_29 hl (by decide) rfl (fun ls hl => ?_)
          refine lv_iload hx hb d_Pattern_allow_31 (lv_at hl 0 rfl) ?_
          refine lv_aload_n hx hb d_Pattern_allow_33 rfl (lv_at hl 1 rfl) ?_
          refine zk_get (C := R_Pattern) (T := F_Pattern) (N := 3) S hK (hP 0 _ rfl) rfl i_Pattern 0 (by decide) m_Pattern_26 rfl rfl d_Pattern_allow_34 ?_
          refine zk_alen S hK 1 (hP 1 _ rfl) rfl (v := nI (mm * 4)) rfl d_Pattern_allow_37 ?_
          refine lv_icmp_ge (tgt := 57) hx hb d_Pattern_allow_38 (by decide) (fun c38 => ?_) (fun c38 => ?_)
          · exact absurd ((nI_leI (by omega) (by omega)).mp c38) (by omega)
          · refine lv_aload_n hx hb d_Pattern_allow_41 rfl (lv_at hl 1 rfl) ?_
            refine zk_get (C := R_Pattern) (T := F_Pattern) (N := 3) S hK (hP 0 _ rfl) rfl i_Pattern 0 (by decide) m_Pattern_26 rfl rfl d_Pattern_allow_42 ?_
            refine lv_iload hx hb d_Pattern_allow_45 (lv_at hl 0 rfl) ?_
            refine lv_dup2_11 hx hb d_Pattern_allow_47 rfl rfl ?_
            refine zk_lald S hK 1 (hP 1 _ rfl) rfl (vp_in_nI (by omega) (by omega)) d_Pattern_allow_48 ?_
            refine zk_tl (z := s1 (cnt * 4 + y / 64)) (by rw [nI_clamp (by omega)]) ?_
            refine lv_lconst (v := 1) hx hb d_Pattern_allow_49 (by decide) ?_
            refine lv_iload_n hx hb d_Pattern_allow_50 rfl (lv_at hl 3 rfl) ?_
            refine lv_bipush (v := 63) hx hb d_Pattern_allow_51 (by decide) ?_
            refine lv_iand hx hb d_Pattern_allow_53 ?_
            refine zk_ti (z := nI (y % 64)) (pk_andN (by omega) 6 (by decide)) ?_
            refine lv_lshl hx hb d_Pattern_allow_54 rfl ?_
            refine zk_tl (z := ((1 : Int64) <<< ((nI (y % 64)).toInt64 &&& 63))) (rfl) ?_
            refine lv_lor hx hb d_Pattern_allow_55 ?_
            refine va_last hx hb hK hP hD hS 1 1 rfl rfl (vp_in_nI (by omega) (by omega)) d_Pattern_allow_56 (fun H locs hP hD hS => ?_)
            rw [nI_clamp (by omega)] at hP hD
            have hP : va_P D classes [(a, .inr (2, [.ref sa, .ref za, .int (nI cnt)])), (sa, .inl ((kA 1), (mm * 4), .inr (.inl (vp_updL s1 (cnt * 4 + y / 64) (s1 (cnt * 4 + y / 64) ||| ((1 : Int64) <<< ((nI (y % 64)).toInt64 &&& 63)))))))] H := hP
            have hD : va_D A [(a, .inr (2, [.ref sa, .ref za, .int (nI cnt)])), (sa, .inl ((kA 1), (mm * 4), .inr (.inl (vp_updL s1 (cnt * 4 + y / 64) (s1 (cnt * 4 + y / 64) ||| ((1 : Int64) <<< ((nI (y % 64)).toInt64 &&& 63)))))))] := hD
            refine lv_iinc (v := (nI (y + 1))) (lv' := [(3, .int (nI (y + 1))), (4, .int (nI (cnt * 4 + y / 64))), (0, .ref a), (2, .int (nI hi))]) hx hb d_Pattern_allow_57 hl (k := 3) rfl (nI_1 y) (by decide) rfl (fun ls hl => ?_)
            refine lv_goto (tgt := 6) hx hb d_Pattern_allow_60 (by decide) ?_
            exact ih (y + 1) (vp_updL s1 (cnt * 4 + y / 64) (s1 (cnt * 4 + y / 64) ||| ((1 : Int64) <<< ((nI (y % 64)).toInt64 &&& 63)))) (by omega) (by omega) (by omega) (fun i x hx => by
              rw [zSb_upd (by omega) hx, hs1 i x hx, Bool.or_assoc]
              congr 1
              by_cases z0 : i = cnt
              · by_cases z1 : x = y
                · simp [z0, z1, show lo ≤ y by omega]
                · by_cases z2 : x < y
                  · simp [z0, z1, z2, show x < y + 1 by omega]
                  · simp [z0, z1, z2, show ¬ x < y + 1 by omega]
              · simp [z0]) _ _ (hP.sub [0, 1] rfl) (hD.sub [0, 1] (by decide) rfl) hS ls (lv_sub hl [2, 3, 0] rfl)
  exact lp 258 lo sf (by omega) (Nat.le_refl _) (Or.inr rfl) (fun i x hx => by
    by_cases z : lo ≤ x
    · simp [z, show ¬ x < lo by omega]
    · simp [z]) _ _ (hP.sub [0, 1] rfl) (hD.sub [0, 1] (by decide) rfl) hS ls (lv_sub hl [1, 3, 0] rfl)
end
section
theorem rSelf_lt {bs : List Nat} {n a : Nat} (hb : ∀ i, i < bs.length → bs.getD i 0 < 256) (ha : a < n) (hn : n ≤ bs.length) : (rSelf bs n a).1 < 256 := by
  unfold rSelf
  split
  · rename_i h
    exact hb (a + 1) (by omega)
  · exact hb a (by omega)
theorem pIn_snoc {S : List (Nat × Nat)} {lo hi x : Nat} : pIn (S ++ [(lo, hi)]) x = (pIn S x || (decide (lo ≤ x) && decide (x ≤ hi))) := by
  unfold pIn
  rw [List.any_append]
  simp
theorem zAh_in {bs : List Nat} {n i : Nat} (h : i < n) : zAh bs n i = nI (bs.getD i 0) := if_pos h
theorem zAh_out {bs : List Nat} {n i : Nat} (h : n ≤ i) : zAh bs n i = -1 := if_neg (Nat.not_lt.mpr h)
set_option maxHeartbeats 4000000 in
set_option maxRecDepth 100000 in
/-- Pattern.readChoice(reader) -/
theorem c_Pattern_readChoice (l : Launch) (D : va_G) (kA : Nat → ClassId) (a sa za mm cnt rd o lim n p0 : Nat) (sf : Nat → Int64) (zf : Nat → Int32) (bs : List Nat) (hc : cnt < mm) (hm : mm ≤ 1024) (hnm2 : n ≤ mm) (hn : n ≤ bs.length) (hp : 0 < p0) (hp2 : p0 ≤ n) (sz0 : Nat) : Met l y_Pattern_readChoice (Cond.code y_Pattern_readChoice b_Pattern_readChoice 5 none :: zTB) { frames := 3, cells := 0, slots := 0, locals := 63 } (zk_Pc D classes (zTY kA) [.ref a, .ref rd] (fun H => H.size = sz0 ∧ va_P D classes [(a, .inr (2, [.ref sa, .ref za, .int (nI cnt)])), (sa, .inl ((kA 1), (mm * 4), .inr (.inl sf))), (za, .inl ((kA 2), mm, .inl zf)), (rd, .inr (3, [.ref o, .int (nI n), .int (nI p0)]))] H ∧ va_D (fun _ => True) [(a, .inr (2, [.ref sa, .ref za, .int (nI cnt)])), (sa, .inl ((kA 1), (mm * 4), .inr (.inl sf))), (za, .inl ((kA 2), mm, .inl zf)), (rd, .inr (3, [.ref o, .int (nI n), .int (nI p0)]))] ∧ BsAt D kA (fun q => ¬ (va_A [(a, .inr (2, [.ref sa, .ref za, .int (nI cnt)])), (sa, .inl ((kA 1), (mm * 4), .inr (.inl sf))), (za, .inl ((kA 2), mm, .inl zf)), (rd, .inr (3, [.ref o, .int (nI n), .int (nI p0)]))] sz0) q) H o lim bs)) (zk_mQ (fun v H => v = none ∧ ∃ sf', va_P D classes [(a, .inr (2, [.ref sa, .ref za, .int (nI cnt)])), (sa, .inl (kA 1, mm * 4, .inr (.inl sf'))), (za, .inl (kA 2, mm, .inl zf)), (rd, .inr (3, [.ref o, .int (nI n), .int (nI (rSet bs n p0).2)]))] H ∧ va_D (va_A [(a, .inr (2, [.ref sa, .ref za, .int (nI cnt)])), (sa, .inl ((kA 1), (mm * 4), .inr (.inl sf))), (za, .inl ((kA 2), mm, .inl zf)), (rd, .inr (3, [.ref o, .int (nI n), .int (nI p0)]))] sz0) [(a, .inr (2, [.ref sa, .ref za, .int (nI cnt)])), (sa, .inl (kA 1, mm * 4, .inr (.inl sf'))), (za, .inl (kA 2, mm, .inl zf)), (rd, .inr (3, [.ref o, .int (nI n), .int (nI (rSet bs n p0).2)]))] ∧ ∀ i x, x < 256 → zSb sf' i x = (zSb sf i x || (decide (i = cnt) && pIn (rSet bs n p0).1 x))) (va_A [(a, .inr (2, [.ref sa, .ref za, .int (nI cnt)])), (sa, .inl ((kA 1), (mm * 4), .inr (.inl sf))), (za, .inl ((kA 2), mm, .inl zf)), (rd, .inr (3, [.ref o, .int (nI n), .int (nI p0)]))] sz0)) 0 0 (va_A [(a, .inr (2, [.ref sa, .ref za, .int (nI cnt)])), (sa, .inl ((kA 1), (mm * 4), .inr (.inl sf))), (za, .inl ((kA 2), mm, .inl zf)), (rd, .inr (3, [.ref o, .int (nI n), .int (nI p0)]))] sz0) := by
  refine zk_of [.ref a, .ref rd] (by decide) (Nat.le_of_ble_eq_true rfl) ?_
  intro p e s m below meth c S hr hlk hnm hK hX hpre ls hl
  obtain ⟨hx, hb, hml, hown, ht⟩ := id S
  have hl : lv_has ls 5 [(0, .ref a), (1, .ref rd)] := hl
  obtain ⟨hsz, hP, hD0, hO⟩ := hpre
  subst hsz
  have hD := hD0.self (sz := s.heap.size)
  generalize hAe : va_A [(a, .inr (2, [.ref sa, .ref za, .int (nI cnt)])), (sa, .inl ((kA 1), (mm * 4), .inr (.inl sf))), (za, .inl ((kA 2), mm, .inl zf)), (rd, .inr (3, [.ref o, .int (nI n), .int (nI p0)]))] s.heap.size = A at hD hO ⊢
  have hA : ∀ q : Nat, s.heap.size ≤ q → A q := fun q h => by rw [← hAe]; exact Or.inr h
  have hS : va_S A s.heap s.heap [] := va_S.rf
  have hP : va_P D classes [(a, .inr (2, [.ref sa, .ref za, .int (nI cnt)])), (sa, .inl ((kA 1), (mm * 4), .inr (.inl sf))), (za, .inl ((kA 2), mm, .inl zf)), (rd, .inr (3, [.ref o, .int (nI n), .int (nI p0)]))] s.heap := hP
  obtain ⟨ro, no, fo, hzo1, hzo2, hO1, hO2, hO3⟩ := id hO
  obtain ⟨g1, g2, g3, g4, g5⟩ := id hO3
  have hb256 : ∀ i, i < bs.length → bs.getD i 0 < 256 := fun i hi => (g5 i hi).1
  refine lv_iconst (v := 0) hx hb d_Pattern_readChoice_0 (by decide) ?_
  refine lv_istore_n (lv' := [(2, .int 0), (0, .ref a), (1, .ref rd)]) hx hb d_Pattern_readChoice_1 rfl hl (by decide) rfl (fun ls hl => ?_)
  have lp : ∀ (fu : Nat) (k q : Nat) (Sl : List (Nat × Nat)) (s1 : Nat → Int64), n + 4 - q < fu → k + (n - q) < mm → q ≤ n + 3 ∧ k < mm → (rSet bs n p0).1 = Sl ++ (rSet bs n q).1 → (rSet bs n p0).2 = (rSet bs n q).2 → (∀ i x, x < 256 → zSb s1 i x = (zSb sf i x || (decide (i = cnt) && pIn Sl x))) → ∀ (H : Heap) (locs : List Loc), va_P D classes [(a, .inr (2, [.ref sa, .ref za, .int (nI cnt)])), (sa, .inl ((kA 1), (mm * 4), .inr (.inl s1))), (za, .inl ((kA 2), mm, .inl zf)), (rd, .inr (3, [.ref o, .int (nI n), .int (nI q)]))] H → va_D A [(a, .inr (2, [.ref sa, .ref za, .int (nI cnt)])), (sa, .inl ((kA 1), (mm * 4), .inr (.inl s1))), (za, .inl ((kA 2), mm, .inl zf)), (rd, .inr (3, [.ref o, .int (nI n), .int (nI q)]))] → va_S A s.heap H locs → ∀ ls : Array Slot, lv_has ls 5 [(0, .ref a), (1, .ref rd), (2, .int (nI k))] → W p l e { frames := 3, cells := 0, slots := 0, locals := 63 } s m [.ref a, .ref rd].toArray below meth c H locs 0 0 (MQ below (zk_mQ (fun v H => v = none ∧ ∃ sf', va_P D classes [(a, .inr (2, [.ref sa, .ref za, .int (nI cnt)])), (sa, .inl (kA 1, mm * 4, .inr (.inl sf'))), (za, .inl (kA 2, mm, .inl zf)), (rd, .inr (3, [.ref o, .int (nI n), .int (nI (rSet bs n p0).2)]))] H ∧ va_D A [(a, .inr (2, [.ref sa, .ref za, .int (nI cnt)])), (sa, .inl (kA 1, mm * 4, .inr (.inl sf'))), (za, .inl (kA 2, mm, .inl zf)), (rd, .inr (3, [.ref o, .int (nI n), .int (nI (rSet bs n p0).2)]))] ∧ ∀ i x, x < 256 → zSb sf' i x = (zSb sf i x || (decide (i = cnt) && pIn (rSet bs n p0).1 x))) A) [.ref a, .ref rd].toArray s 0 0 A) (F0 m 2 ls []) := by
    intro fu
    induction fu with
    | zero => intro k q Sl s1 hfu; exact absurd hfu (Nat.not_lt_zero _)
    | succ fu ih =>
      intro k q Sl s1 hfu hk hq4 hset1 hset2 hs1 H locs hP hD hS ls hl
      refine lv_iload_n hx hb d_Pattern_readChoice_2 rfl (lv_at hl 2 rfl) ?_
      refine lv_aload_n hx hb d_Pattern_readChoice_3 rfl (lv_at hl 0 rfl) ?_
      refine zk_get (C := R_Pattern) (T := F_Pattern) (N := 3) S hK (hP 0 _ rfl) rfl i_Pattern 1 (by decide) m_Pattern_30 rfl rfl d_Pattern_readChoice_4 ?_
      refine zk_alen S hK 2 (hP 2 _ rfl) rfl (v := nI mm) rfl d_Pattern_readChoice_7 ?_
      refine lv_icmp_ge (tgt := 93) hx hb d_Pattern_readChoice_8 (by decide) (fun c8 => ?_) (fun c8 => ?_)
      · exact absurd ((nI_leI (by omega) (by omega)).mp c8) (by omega)
      · refine lv_aload_n hx hb d_Pattern_readChoice_11 rfl (lv_at hl 1 rfl) ?_
        refine lv_iconst (v := 0) hx hb d_Pattern_readChoice_12 (by decide) ?_
        refine zk_ti (z := nI 0) (rfl) ?_
        refine zk_pure (zk_runV (As := [.int (nI 0)]) (rest := []) S m_Pattern_43 (c_Reader_ahead l D kA (fun q => ¬ A q) rd o lim n q 0 bs hn (by omega) (by omega)) rfl rfl ⟨Nat.le_of_ble_eq_true rfl, Nat.le_of_ble_eq_true rfl⟩ hK hX (zk_recv hK (hP 3 _ rfl) rfl) (⟨(hP 3 _ rfl), hO.ro hS⟩) rfl hl.1 rfl (Nat.le_of_ble_eq_true rfl) ⟨Nat.le_of_ble_eq_true rfl, Nat.le_of_ble_eq_true rfl⟩ d_Pattern_readChoice_13) ?_
        refine lv_iconst (v := (-1)) hx hb d_Pattern_readChoice_16 (by decide) ?_
        refine lv_icmp_eq (tgt := 93) hx hb d_Pattern_readChoice_17 (by decide) (fun c17 => ?_) (fun c17 => ?_)
        · have hend : n ≤ q ∨ bs.getD q 0 = 93 := Or.inl (Nat.not_lt.mp fun z => zNe1 (by have := hb256 q (by omega); omega) ((zAh_in z).symm.trans c17))
          refine lv_aload_n hx hb d_Pattern_readChoice_93 rfl (lv_at hl 1 rfl) ?_
          have hFc := va_free (wc := [(rd, .inr (3, [.ref o, .int (nI n), .int (nI q)]))]) hD hS hA [3] rfl
          refine zk_mut (zk_runV (As := []) (rest := []) S m_Pattern_51 (c_Reader_skip l D kA rd o n q H.size) rfl rfl ⟨Nat.le_of_ble_eq_true rfl, Nat.le_of_ble_eq_true rfl⟩ hK hX (zk_recv hK (hP 3 _ rfl) rfl) ⟨rfl, hP.sub (ws' := [(rd, .inr (3, [.ref o, .int (nI n), .int (nI q)]))]) [3] rfl, (hD.sub (ws' := [(rd, .inr (3, [.ref o, .int (nI n), .int (nI q)]))]) [3] (by decide) rfl).weaken (fun _ _ _ _ => trivial)⟩ rfl hl.1 rfl (Nat.le_of_ble_eq_true rfl) ⟨Nat.le_of_ble_eq_true rfl, Nat.le_of_ble_eq_true rfl⟩ d_Pattern_readChoice_94) hS hFc hFc (fun v H locs hpost hz1 hk1 hS => ?_)
          obtain ⟨rfl, hP1, hD1⟩ := hpost
          obtain ⟨hP, hD⟩ := va_join (wr := [(a, .inr (2, [.ref sa, .ref za, .int (nI cnt)])), (sa, .inl ((kA 1), (mm * 4), .inr (.inl s1))), (za, .inl ((kA 2), mm, .inl zf))]) (w1 := [(rd, .inr (3, [.ref o, .int (nI n), .int (nI (q + 1))]))]) hP hD [3] [0, 1, 2] rfl rfl (by decide) (by decide) hk1 hFc hP1 hD1
          refine W.eq (g2 := F0 m 97 ls []) rfl ?_
          have hP : va_P D classes [(a, .inr (2, [.ref sa, .ref za, .int (nI cnt)])), (sa, .inl ((kA 1), (mm * 4), .inr (.inl s1))), (za, .inl ((kA 2), mm, .inl zf)), (rd, .inr (3, [.ref o, .int (nI n), .int (nI (q + 1))]))] H := hP
          have hD : va_D A [(a, .inr (2, [.ref sa, .ref za, .int (nI cnt)])), (sa, .inl ((kA 1), (mm * 4), .inr (.inl s1))), (za, .inl ((kA 2), mm, .inl zf)), (rd, .inr (3, [.ref o, .int (nI n), .int (nI (q + 1))]))] := hD
          exact zk_vret S hr hlk hS ⟨rfl, s1, hP.sub (ws' := [(a, .inr (2, [.ref sa, .ref za, .int (nI cnt)])), (sa, .inl (kA 1, mm * 4, .inr (.inl s1))), (za, .inl (kA 2, mm, .inl zf)), (rd, .inr (3, [.ref o, .int (nI n), .int (nI (rSet bs n p0).2)]))]) [0, 1, 2, 3] (by rw [hset2, rSet_end hend]; rfl), hD.sub (ws' := [(a, .inr (2, [.ref sa, .ref za, .int (nI cnt)])), (sa, .inl (kA 1, mm * 4, .inr (.inl s1))), (za, .inl (kA 2, mm, .inl zf)), (rd, .inr (3, [.ref o, .int (nI n), .int (nI (rSet bs n p0).2)]))]) [0, 1, 2, 3] (by decide) (by rw [hset2, rSet_end hend]; rfl), fun i x hx => by
            rw [hs1 i x hx, hset1, rSet_end hend, List.append_nil]⟩ (Nat.le_refl _) (Nat.le_refl _) d_Pattern_readChoice_97
        · have hqn : q < n := Nat.not_le.mp fun z => c17 (zAh_out z)
          have hbq := hb256 q (by omega)
          obtain ⟨hq1, hq2⟩ := rSelf_gt bs n q
          refine lv_aload_n hx hb d_Pattern_readChoice_20 rfl (lv_at hl 1 rfl) ?_
          refine lv_iconst (v := 0) hx hb d_Pattern_readChoice_21 (by decide) ?_
          refine zk_ti (z := nI 0) (rfl) ?_
          refine zk_pure (zk_runV (As := [.int (nI 0)]) (rest := []) S m_Pattern_43 (c_Reader_ahead l D kA (fun q => ¬ A q) rd o lim n q 0 bs hn (by omega) (by omega)) rfl rfl ⟨Nat.le_of_ble_eq_true rfl, Nat.le_of_ble_eq_true rfl⟩ hK hX (zk_recv hK (hP 3 _ rfl) rfl) (⟨(hP 3 _ rfl), hO.ro hS⟩) rfl hl.1 rfl (Nat.le_of_ble_eq_true rfl) ⟨Nat.le_of_ble_eq_true rfl, Nat.le_of_ble_eq_true rfl⟩ d_Pattern_readChoice_22) ?_
          refine zk_ti (z := nI (bs.getD q 0)) (zAh_in hqn) ?_
          refine lv_bipush (v := 93) hx hb d_Pattern_readChoice_25 (by decide) ?_
          refine lv_icmp_ne (tgt := 33) hx hb d_Pattern_readChoice_27 (by decide) (fun c27 => ?_) (fun c27 => ?_)
          · have h93 : bs.getD q 0 ≠ 93 := fun z => c27 (by rw [z]; rfl)
            have hlo := rSelf_lt hb256 hqn hn
            refine lv_aload_n hx hb d_Pattern_readChoice_33 rfl (lv_at hl 1 rfl) ?_
            have hFc := va_free (wc := [(rd, .inr (3, [.ref o, .int (nI n), .int (nI q)]))]) hD hS hA [3] rfl
            refine zk_mut (zk_runV (As := []) (rest := []) S m_Pattern_64 (c_Reader_nextItself l D kA rd o lim n q bs hn (by omega) hqn H.size) rfl rfl ⟨Nat.le_of_ble_eq_true rfl, Nat.le_of_ble_eq_true rfl⟩ hK hX (zk_recv hK (hP 3 _ rfl) rfl) ⟨rfl, hP.sub (ws' := [(rd, .inr (3, [.ref o, .int (nI n), .int (nI q)]))]) [3] rfl, (hD.sub (ws' := [(rd, .inr (3, [.ref o, .int (nI n), .int (nI q)]))]) [3] (by decide) rfl).weaken (fun _ _ _ _ => trivial), ((hO.ro hS).weaken (fun q hq hz => hq (hFc q hz)))⟩ rfl hl.1 rfl (Nat.le_of_ble_eq_true rfl) ⟨Nat.le_of_ble_eq_true rfl, Nat.le_of_ble_eq_true rfl⟩ d_Pattern_readChoice_34) hS hFc hFc (fun v H locs hpost hz1 hk1 hS => ?_)
            obtain ⟨rfl, hP1, hD1⟩ := hpost
            obtain ⟨hP, hD⟩ := va_join (wr := [(a, .inr (2, [.ref sa, .ref za, .int (nI cnt)])), (sa, .inl ((kA 1), (mm * 4), .inr (.inl s1))), (za, .inl ((kA 2), mm, .inl zf))]) (w1 := [(rd, .inr (3, [.ref o, .int (nI n), .int (nI (rSelf bs n q).2)]))]) hP hD [3] [0, 1, 2] rfl rfl (by decide) (by decide) hk1 hFc hP1 hD1
            refine W.eq (g2 := F0 m 37 ls [.int (nI (rSelf bs n q).1)]) rfl ?_
            have hP : va_P D classes [(a, .inr (2, [.ref sa, .ref za, .int (nI cnt)])), (sa, .inl ((kA 1), (mm * 4), .inr (.inl s1))), (za, .inl ((kA 2), mm, .inl zf)), (rd, .inr (3, [.ref o, .int (nI n), .int (nI (rSelf bs n q).2)]))] H := hP
            have hD : va_D A [(a, .inr (2, [.ref sa, .ref za, .int (nI cnt)])), (sa, .inl ((kA 1), (mm * 4), .inr (.inl s1))), (za, .inl ((kA 2), mm, .inl zf)), (rd, .inr (3, [.ref o, .int (nI n), .int (nI (rSelf bs n q).2)]))] := hD
            refine lv_istore_n (lv' := [(3, .int (nI (rSelf bs n q).1)), (0, .ref a), (1, .ref rd), (2, .int (nI k))]) hx hb d_Pattern_readChoice_37 rfl hl (by decide) rfl (fun ls hl => ?_)
            refine lv_iload_n hx hb d_Pattern_readChoice_38 rfl (lv_at hl 0 rfl) ?_
            refine lv_istore (lv' := [(4, .int (nI (rSelf bs n q).1)), (3, .int (nI (rSelf bs n q).1)), (0, .ref a), (1, .ref rd), (2, .int (nI k))]) hx hb d_Pattern_readChoice_39 hl (by decide) rfl (fun ls hl => ?_)
            refine lv_aload_n hx hb d_Pattern_readChoice_41 rfl (lv_at hl 3 rfl) ?_
            refine lv_iconst (v := 0) hx hb d_Pattern_readChoice_42 (by decide) ?_
            refine zk_ti (z := nI 0) (rfl) ?_
            refine zk_pure (zk_runV (As := [.int (nI 0)]) (rest := []) S m_Pattern_43 (c_Reader_ahead l D kA (fun q => ¬ A q) rd o lim n ((rSelf bs n q).2) 0 bs hn (by omega) (by omega)) rfl rfl ⟨Nat.le_of_ble_eq_true rfl, Nat.le_of_ble_eq_true rfl⟩ hK hX (zk_recv hK (hP 3 _ rfl) rfl) (⟨(hP 3 _ rfl), hO.ro hS⟩) rfl hl.1 rfl (Nat.le_of_ble_eq_true rfl) ⟨Nat.le_of_ble_eq_true rfl, Nat.le_of_ble_eq_true rfl⟩ d_Pattern_readChoice_43) ?_
            refine lv_bipush (v := 45) hx hb d_Pattern_readChoice_46 (by decide) ?_
            refine lv_icmp_ne (tgt := 80) hx hb d_Pattern_readChoice_48 (by decide) (fun c48 => ?_) (fun c48 => ?_)
            · have hstep : rStep bs n q = ((rSelf bs n q).1, (rSelf bs n q).1, (rSelf bs n q).2) := if_neg (fun z => c48 (by rw [show zAh bs n ((rSelf bs n q).2 + 0) = nI (bs.getD (rSelf bs n q).2 0) from zAh_in (by omega), z.2.1]; rfl))
              refine lv_aload_n hx hb d_Pattern_readChoice_80 rfl (lv_at hl 2 rfl) ?_
              refine lv_iload_n hx hb d_Pattern_readChoice_81 rfl (lv_at hl 1 rfl) ?_
              refine lv_iload hx hb d_Pattern_readChoice_82 (lv_at hl 0 rfl) ?_
              have hFc := va_free (wc := [(a, .inr (2, [.ref sa, .ref za, .int (nI cnt)])), (sa, .inl ((kA 1), (mm * 4), .inr (.inl s1)))]) hD hS hA [0, 1] rfl
              refine zk_mut (zk_runV (As := [.int (nI (rSelf bs n q).1), .int (nI (rSelf bs n q).1)]) (rest := []) S m_Pattern_57 (c_Pattern_allow l D kA a sa za mm cnt s1 (rSelf bs n q).1 (rSelf bs n q).1 hc hm hlo hlo H.size) rfl rfl ⟨Nat.le_of_ble_eq_true rfl, Nat.le_of_ble_eq_true rfl⟩ hK hX (zk_recv hK (hP 0 _ rfl) rfl) ⟨rfl, hP.sub (ws' := [(a, .inr (2, [.ref sa, .ref za, .int (nI cnt)])), (sa, .inl ((kA 1), (mm * 4), .inr (.inl s1)))]) [0, 1] rfl, (hD.sub (ws' := [(a, .inr (2, [.ref sa, .ref za, .int (nI cnt)])), (sa, .inl ((kA 1), (mm * 4), .inr (.inl s1)))]) [0, 1] (by decide) rfl).weaken (fun _ _ _ _ => trivial)⟩ rfl hl.1 rfl (Nat.le_of_ble_eq_true rfl) ⟨Nat.le_of_ble_eq_true rfl, Nat.le_of_ble_eq_true rfl⟩ d_Pattern_readChoice_84) hS hFc hFc (fun v H locs hpost hz1 hk1 hS => ?_)
              obtain ⟨rfl, s2, hP1, hD1, hal⟩ := hpost
              obtain ⟨hP, hD⟩ := va_join (wr := [(za, .inl ((kA 2), mm, .inl zf)), (rd, .inr (3, [.ref o, .int (nI n), .int (nI (rSelf bs n q).2)]))]) (w1 := [(a, .inr (2, [.ref sa, .ref za, .int (nI cnt)])), (sa, .inl ((kA 1), (mm * 4), .inr (.inl s2)))]) hP hD [0, 1] [2, 3] rfl rfl (by decide) (by decide) hk1 hFc hP1 hD1
              refine W.eq (g2 := F0 m 87 ls []) rfl ?_
              have hP : va_P D classes [(za, .inl ((kA 2), mm, .inl zf)), (rd, .inr (3, [.ref o, .int (nI n), .int (nI (rSelf bs n q).2)])), (a, .inr (2, [.ref sa, .ref za, .int (nI cnt)])), (sa, .inl ((kA 1), (mm * 4), .inr (.inl s2)))] H := hP
              have hD : va_D A [(za, .inl ((kA 2), mm, .inl zf)), (rd, .inr (3, [.ref o, .int (nI n), .int (nI (rSelf bs n q).2)])), (a, .inr (2, [.ref sa, .ref za, .int (nI cnt)])), (sa, .inl ((kA 1), (mm * 4), .inr (.inl s2)))] := hD
              refine lv_iinc (v := (nI (k + 1))) (lv' := [(2, .int (nI (k + 1))), (4, .int (nI (rSelf bs n q).1)), (3, .int (nI (rSelf bs n q).1)), (0, .ref a), (1, .ref rd)]) hx hb d_Pattern_readChoice_87 hl (k := 4) rfl (nI_1 k) (by decide) rfl (fun ls hl => ?_)
              refine lv_goto (tgt := 2) hx hb d_Pattern_readChoice_90 (by decide) ?_
              exact ih (k + 1) (rSelf bs n q).2 (Sl ++ [((rSelf bs n q).1, (rSelf bs n q).1)]) s2 (by have := rStep_gt bs n q; rw [hstep] at this; simp only at this; omega) (by have := rStep_gt bs n q; rw [hstep] at this; simp only at this; omega) (by have := rStep_gt bs n q; rw [hstep] at this; simp only at this; omega) (by rw [hset1, rSet_step hqn h93, hstep, List.append_assoc]; rfl) (by rw [hset2, rSet_step hqn h93, hstep]) (fun i x hx => by
                rw [hal i x hx, hs1 i x hx, pIn_snoc, Bool.or_assoc, Bool.and_or_distrib_left]) _ _ (hP.sub [2, 3, 0, 1] rfl) (hD.sub [2, 3, 0, 1] (by decide) rfl) hS ls (lv_sub hl [3, 4, 0] rfl)
            · refine lv_aload_n hx hb d_Pattern_readChoice_51 rfl (lv_at hl 3 rfl) ?_
              refine lv_iconst (v := 1) hx hb d_Pattern_readChoice_52 (by decide) ?_
              refine zk_ti (z := nI 1) (rfl) ?_
              refine zk_pure (zk_runV (As := [.int (nI 1)]) (rest := []) S m_Pattern_43 (c_Reader_ahead l D kA (fun q => ¬ A q) rd o lim n ((rSelf bs n q).2) 1 bs hn (by omega) (by omega)) rfl rfl ⟨Nat.le_of_ble_eq_true rfl, Nat.le_of_ble_eq_true rfl⟩ hK hX (zk_recv hK (hP 3 _ rfl) rfl) (⟨(hP 3 _ rfl), hO.ro hS⟩) rfl hl.1 rfl (Nat.le_of_ble_eq_true rfl) ⟨Nat.le_of_ble_eq_true rfl, Nat.le_of_ble_eq_true rfl⟩ d_Pattern_readChoice_53) ?_
              refine lv_bipush (v := 93) hx hb d_Pattern_readChoice_56 (by decide) ?_
              refine lv_icmp_eq (tgt := 80) hx hb d_Pattern_readChoice_58 (by decide) (fun c58 => ?_) (fun c58 => ?_)
              · have hstep : rStep bs n q = ((rSelf bs n q).1, (rSelf bs n q).1, (rSelf bs n q).2) := if_neg (fun z => z.2.2 (by
                  rw [zAh_in z.1] at c58
                  have := hb256 _ (show (rSelf bs n q).2 + 1 < bs.length by omega)
                  exact (nI_eq (by omega) (by omega)).mp (show nI _ = nI 93 from c58)))
                refine lv_aload_n hx hb d_Pattern_readChoice_80 rfl (lv_at hl 2 rfl) ?_
                refine lv_iload_n hx hb d_Pattern_readChoice_81 rfl (lv_at hl 1 rfl) ?_
                refine lv_iload hx hb d_Pattern_readChoice_82 (lv_at hl 0 rfl) ?_
                have hFc := va_free (wc := [(a, .inr (2, [.ref sa, .ref za, .int (nI cnt)])), (sa, .inl ((kA 1), (mm * 4), .inr (.inl s1)))]) hD hS hA [0, 1] rfl
                refine zk_mut (zk_runV (As := [.int (nI (rSelf bs n q).1), .int (nI (rSelf bs n q).1)]) (rest := []) S m_Pattern_57 (c_Pattern_allow l D kA a sa za mm cnt s1 (rSelf bs n q).1 (rSelf bs n q).1 hc hm hlo hlo H.size) rfl rfl ⟨Nat.le_of_ble_eq_true rfl, Nat.le_of_ble_eq_true rfl⟩ hK hX (zk_recv hK (hP 0 _ rfl) rfl) ⟨rfl, hP.sub (ws' := [(a, .inr (2, [.ref sa, .ref za, .int (nI cnt)])), (sa, .inl ((kA 1), (mm * 4), .inr (.inl s1)))]) [0, 1] rfl, (hD.sub (ws' := [(a, .inr (2, [.ref sa, .ref za, .int (nI cnt)])), (sa, .inl ((kA 1), (mm * 4), .inr (.inl s1)))]) [0, 1] (by decide) rfl).weaken (fun _ _ _ _ => trivial)⟩ rfl hl.1 rfl (Nat.le_of_ble_eq_true rfl) ⟨Nat.le_of_ble_eq_true rfl, Nat.le_of_ble_eq_true rfl⟩ d_Pattern_readChoice_84) hS hFc hFc (fun v H locs hpost hz1 hk1 hS => ?_)
                obtain ⟨rfl, s2, hP1, hD1, hal⟩ := hpost
                obtain ⟨hP, hD⟩ := va_join (wr := [(za, .inl ((kA 2), mm, .inl zf)), (rd, .inr (3, [.ref o, .int (nI n), .int (nI (rSelf bs n q).2)]))]) (w1 := [(a, .inr (2, [.ref sa, .ref za, .int (nI cnt)])), (sa, .inl ((kA 1), (mm * 4), .inr (.inl s2)))]) hP hD [0, 1] [2, 3] rfl rfl (by decide) (by decide) hk1 hFc hP1 hD1
                refine W.eq (g2 := F0 m 87 ls []) rfl ?_
                have hP : va_P D classes [(za, .inl ((kA 2), mm, .inl zf)), (rd, .inr (3, [.ref o, .int (nI n), .int (nI (rSelf bs n q).2)])), (a, .inr (2, [.ref sa, .ref za, .int (nI cnt)])), (sa, .inl ((kA 1), (mm * 4), .inr (.inl s2)))] H := hP
                have hD : va_D A [(za, .inl ((kA 2), mm, .inl zf)), (rd, .inr (3, [.ref o, .int (nI n), .int (nI (rSelf bs n q).2)])), (a, .inr (2, [.ref sa, .ref za, .int (nI cnt)])), (sa, .inl ((kA 1), (mm * 4), .inr (.inl s2)))] := hD
                refine lv_iinc (v := (nI (k + 1))) (lv' := [(2, .int (nI (k + 1))), (4, .int (nI (rSelf bs n q).1)), (3, .int (nI (rSelf bs n q).1)), (0, .ref a), (1, .ref rd)]) hx hb d_Pattern_readChoice_87 hl (k := 4) rfl (nI_1 k) (by decide) rfl (fun ls hl => ?_)
                refine lv_goto (tgt := 2) hx hb d_Pattern_readChoice_90 (by decide) ?_
                exact ih (k + 1) (rSelf bs n q).2 (Sl ++ [((rSelf bs n q).1, (rSelf bs n q).1)]) s2 (by have := rStep_gt bs n q; rw [hstep] at this; simp only at this; omega) (by have := rStep_gt bs n q; rw [hstep] at this; simp only at this; omega) (by have := rStep_gt bs n q; rw [hstep] at this; simp only at this; omega) (by rw [hset1, rSet_step hqn h93, hstep, List.append_assoc]; rfl) (by rw [hset2, rSet_step hqn h93, hstep]) (fun i x hx => by
                  rw [hal i x hx, hs1 i x hx, pIn_snoc, Bool.or_assoc, Bool.and_or_distrib_left]) _ _ (hP.sub [2, 3, 0, 1] rfl) (hD.sub [2, 3, 0, 1] (by decide) rfl) hS ls (lv_sub hl [3, 4, 0] rfl)
              · refine lv_aload_n hx hb d_Pattern_readChoice_61 rfl (lv_at hl 3 rfl) ?_
                refine lv_iconst (v := 1) hx hb d_Pattern_readChoice_62 (by decide) ?_
                refine zk_ti (z := nI 1) (rfl) ?_
                refine zk_pure (zk_runV (As := [.int (nI 1)]) (rest := []) S m_Pattern_43 (c_Reader_ahead l D kA (fun q => ¬ A q) rd o lim n ((rSelf bs n q).2) 1 bs hn (by omega) (by omega)) rfl rfl ⟨Nat.le_of_ble_eq_true rfl, Nat.le_of_ble_eq_true rfl⟩ hK hX (zk_recv hK (hP 3 _ rfl) rfl) (⟨(hP 3 _ rfl), hO.ro hS⟩) rfl hl.1 rfl (Nat.le_of_ble_eq_true rfl) ⟨Nat.le_of_ble_eq_true rfl, Nat.le_of_ble_eq_true rfl⟩ d_Pattern_readChoice_63) ?_
                refine lv_iconst (v := (-1)) hx hb d_Pattern_readChoice_66 (by decide) ?_
                refine lv_icmp_eq (tgt := 80) hx hb d_Pattern_readChoice_67 (by decide) (fun c67 => ?_) (fun c67 => ?_)
                · have hstep : rStep bs n q = ((rSelf bs n q).1, (rSelf bs n q).1, (rSelf bs n q).2) := if_neg (fun z => zNe1 (by have := hb256 _ (show (rSelf bs n q).2 + 1 < bs.length by omega); omega) ((zAh_in z.1).symm.trans c67))
                  refine lv_aload_n hx hb d_Pattern_readChoice_80 rfl (lv_at hl 2 rfl) ?_
                  refine lv_iload_n hx hb d_Pattern_readChoice_81 rfl (lv_at hl 1 rfl) ?_
                  refine lv_iload hx hb d_Pattern_readChoice_82 (lv_at hl 0 rfl) ?_
                  have hFc := va_free (wc := [(a, .inr (2, [.ref sa, .ref za, .int (nI cnt)])), (sa, .inl ((kA 1), (mm * 4), .inr (.inl s1)))]) hD hS hA [0, 1] rfl
                  refine zk_mut (zk_runV (As := [.int (nI (rSelf bs n q).1), .int (nI (rSelf bs n q).1)]) (rest := []) S m_Pattern_57 (c_Pattern_allow l D kA a sa za mm cnt s1 (rSelf bs n q).1 (rSelf bs n q).1 hc hm hlo hlo H.size) rfl rfl ⟨Nat.le_of_ble_eq_true rfl, Nat.le_of_ble_eq_true rfl⟩ hK hX (zk_recv hK (hP 0 _ rfl) rfl) ⟨rfl, hP.sub (ws' := [(a, .inr (2, [.ref sa, .ref za, .int (nI cnt)])), (sa, .inl ((kA 1), (mm * 4), .inr (.inl s1)))]) [0, 1] rfl, (hD.sub (ws' := [(a, .inr (2, [.ref sa, .ref za, .int (nI cnt)])), (sa, .inl ((kA 1), (mm * 4), .inr (.inl s1)))]) [0, 1] (by decide) rfl).weaken (fun _ _ _ _ => trivial)⟩ rfl hl.1 rfl (Nat.le_of_ble_eq_true rfl) ⟨Nat.le_of_ble_eq_true rfl, Nat.le_of_ble_eq_true rfl⟩ d_Pattern_readChoice_84) hS hFc hFc (fun v H locs hpost hz1 hk1 hS => ?_)
                  obtain ⟨rfl, s2, hP1, hD1, hal⟩ := hpost
                  obtain ⟨hP, hD⟩ := va_join (wr := [(za, .inl ((kA 2), mm, .inl zf)), (rd, .inr (3, [.ref o, .int (nI n), .int (nI (rSelf bs n q).2)]))]) (w1 := [(a, .inr (2, [.ref sa, .ref za, .int (nI cnt)])), (sa, .inl ((kA 1), (mm * 4), .inr (.inl s2)))]) hP hD [0, 1] [2, 3] rfl rfl (by decide) (by decide) hk1 hFc hP1 hD1
                  refine W.eq (g2 := F0 m 87 ls []) rfl ?_
                  have hP : va_P D classes [(za, .inl ((kA 2), mm, .inl zf)), (rd, .inr (3, [.ref o, .int (nI n), .int (nI (rSelf bs n q).2)])), (a, .inr (2, [.ref sa, .ref za, .int (nI cnt)])), (sa, .inl ((kA 1), (mm * 4), .inr (.inl s2)))] H := hP
                  have hD : va_D A [(za, .inl ((kA 2), mm, .inl zf)), (rd, .inr (3, [.ref o, .int (nI n), .int (nI (rSelf bs n q).2)])), (a, .inr (2, [.ref sa, .ref za, .int (nI cnt)])), (sa, .inl ((kA 1), (mm * 4), .inr (.inl s2)))] := hD
                  refine lv_iinc (v := (nI (k + 1))) (lv' := [(2, .int (nI (k + 1))), (4, .int (nI (rSelf bs n q).1)), (3, .int (nI (rSelf bs n q).1)), (0, .ref a), (1, .ref rd)]) hx hb d_Pattern_readChoice_87 hl (k := 4) rfl (nI_1 k) (by decide) rfl (fun ls hl => ?_)
                  refine lv_goto (tgt := 2) hx hb d_Pattern_readChoice_90 (by decide) ?_
                  exact ih (k + 1) (rSelf bs n q).2 (Sl ++ [((rSelf bs n q).1, (rSelf bs n q).1)]) s2 (by have := rStep_gt bs n q; rw [hstep] at this; simp only at this; omega) (by have := rStep_gt bs n q; rw [hstep] at this; simp only at this; omega) (by have := rStep_gt bs n q; rw [hstep] at this; simp only at this; omega) (by rw [hset1, rSet_step hqn h93, hstep, List.append_assoc]; rfl) (by rw [hset2, rSet_step hqn h93, hstep]) (fun i x hx => by
                    rw [hal i x hx, hs1 i x hx, pIn_snoc, Bool.or_assoc, Bool.and_or_distrib_left]) _ _ (hP.sub [2, 3, 0, 1] rfl) (hD.sub [2, 3, 0, 1] (by decide) rfl) hS ls (lv_sub hl [3, 4, 0] rfl)
                · have hin1 : (rSelf bs n q).2 + 1 < n := Nat.not_le.mp fun z => c67 (zAh_out z)
                  have hb1 := hb256 _ (show (rSelf bs n q).2 < bs.length by omega)
                  have hb2 := hb256 _ (show (rSelf bs n q).2 + 1 < bs.length by omega)
                  have hstep : rStep bs n q = ((rSelf bs n q).1, (rSelf bs n ((rSelf bs n q).2 + 1)).1, (rSelf bs n ((rSelf bs n q).2 + 1)).2) := if_pos ⟨hin1, (nI_eq (by omega) (by omega)).mp (show nI _ = nI 45 from (zAh_in (show (rSelf bs n q).2 + 0 < n by omega)).symm.trans c48), fun z => c58 (by rw [zAh_in hin1, z]; rfl)⟩
                  have hhi := rSelf_lt hb256 hin1 hn
                  obtain ⟨hq7, hq8⟩ := rSelf_gt bs n ((rSelf bs n q).2 + 1)
                  refine lv_aload_n hx hb d_Pattern_readChoice_70 rfl (lv_at hl 3 rfl) ?_
                  have hFc := va_free (wc := [(rd, .inr (3, [.ref o, .int (nI n), .int (nI (rSelf bs n q).2)]))]) hD hS hA [3] rfl
                  refine zk_mut (zk_runV (As := []) (rest := []) S m_Pattern_51 (c_Reader_skip l D kA rd o n ((rSelf bs n q).2) H.size) rfl rfl ⟨Nat.le_of_ble_eq_true rfl, Nat.le_of_ble_eq_true rfl⟩ hK hX (zk_recv hK (hP 3 _ rfl) rfl) ⟨rfl, hP.sub (ws' := [(rd, .inr (3, [.ref o, .int (nI n), .int (nI (rSelf bs n q).2)]))]) [3] rfl, (hD.sub (ws' := [(rd, .inr (3, [.ref o, .int (nI n), .int (nI (rSelf bs n q).2)]))]) [3] (by decide) rfl).weaken (fun _ _ _ _ => trivial)⟩ rfl hl.1 rfl (Nat.le_of_ble_eq_true rfl) ⟨Nat.le_of_ble_eq_true rfl, Nat.le_of_ble_eq_true rfl⟩ d_Pattern_readChoice_71) hS hFc hFc (fun v H locs hpost hz1 hk1 hS => ?_)
                  obtain ⟨rfl, hP1, hD1⟩ := hpost
                  obtain ⟨hP, hD⟩ := va_join (wr := [(a, .inr (2, [.ref sa, .ref za, .int (nI cnt)])), (sa, .inl ((kA 1), (mm * 4), .inr (.inl s1))), (za, .inl ((kA 2), mm, .inl zf))]) (w1 := [(rd, .inr (3, [.ref o, .int (nI n), .int (nI ((rSelf bs n q).2 + 1))]))]) hP hD [3] [0, 1, 2] rfl rfl (by decide) (by decide) hk1 hFc hP1 hD1
                  refine W.eq (g2 := F0 m 74 ls []) rfl ?_
                  have hP : va_P D classes [(a, .inr (2, [.ref sa, .ref za, .int (nI cnt)])), (sa, .inl ((kA 1), (mm * 4), .inr (.inl s1))), (za, .inl ((kA 2), mm, .inl zf)), (rd, .inr (3, [.ref o, .int (nI n), .int (nI ((rSelf bs n q).2 + 1))]))] H := hP
                  have hD : va_D A [(a, .inr (2, [.ref sa, .ref za, .int (nI cnt)])), (sa, .inl ((kA 1), (mm * 4), .inr (.inl s1))), (za, .inl ((kA 2), mm, .inl zf)), (rd, .inr (3, [.ref o, .int (nI n), .int (nI ((rSelf bs n q).2 + 1))]))] := hD
                  refine lv_aload_n hx hb d_Pattern_readChoice_74 rfl (lv_at hl 3 rfl) ?_
                  have hFc := va_free (wc := [(rd, .inr (3, [.ref o, .int (nI n), .int (nI ((rSelf bs n q).2 + 1))]))]) hD hS hA [3] rfl
                  refine zk_mut (zk_runV (As := []) (rest := []) S m_Pattern_64 (c_Reader_nextItself l D kA rd o lim n ((rSelf bs n q).2 + 1) bs hn (by omega) hin1 H.size) rfl rfl ⟨Nat.le_of_ble_eq_true rfl, Nat.le_of_ble_eq_true rfl⟩ hK hX (zk_recv hK (hP 3 _ rfl) rfl) ⟨rfl, hP.sub (ws' := [(rd, .inr (3, [.ref o, .int (nI n), .int (nI ((rSelf bs n q).2 + 1))]))]) [3] rfl, (hD.sub (ws' := [(rd, .inr (3, [.ref o, .int (nI n), .int (nI ((rSelf bs n q).2 + 1))]))]) [3] (by decide) rfl).weaken (fun _ _ _ _ => trivial), ((hO.ro hS).weaken (fun q hq hz => hq (hFc q hz)))⟩ rfl hl.1 rfl (Nat.le_of_ble_eq_true rfl) ⟨Nat.le_of_ble_eq_true rfl, Nat.le_of_ble_eq_true rfl⟩ d_Pattern_readChoice_75) hS hFc hFc (fun v H locs hpost hz1 hk1 hS => ?_)
                  obtain ⟨rfl, hP1, hD1⟩ := hpost
                  obtain ⟨hP, hD⟩ := va_join (wr := [(a, .inr (2, [.ref sa, .ref za, .int (nI cnt)])), (sa, .inl ((kA 1), (mm * 4), .inr (.inl s1))), (za, .inl ((kA 2), mm, .inl zf))]) (w1 := [(rd, .inr (3, [.ref o, .int (nI n), .int (nI (rSelf bs n ((rSelf bs n q).2 + 1)).2)]))]) hP hD [3] [0, 1, 2] rfl rfl (by decide) (by decide) hk1 hFc hP1 hD1
                  refine W.eq (g2 := F0 m 78 ls [.int (nI (rSelf bs n ((rSelf bs n q).2 + 1)).1)]) rfl ?_
                  have hP : va_P D classes [(a, .inr (2, [.ref sa, .ref za, .int (nI cnt)])), (sa, .inl ((kA 1), (mm * 4), .inr (.inl s1))), (za, .inl ((kA 2), mm, .inl zf)), (rd, .inr (3, [.ref o, .int (nI n), .int (nI (rSelf bs n ((rSelf bs n q).2 + 1)).2)]))] H := hP
                  have hD : va_D A [(a, .inr (2, [.ref sa, .ref za, .int (nI cnt)])), (sa, .inl ((kA 1), (mm * 4), .inr (.inl s1))), (za, .inl ((kA 2), mm, .inl zf)), (rd, .inr (3, [.ref o, .int (nI n), .int (nI (rSelf bs n ((rSelf bs n q).2 + 1)).2)]))] := hD
                  refine lv_istore (lv' := [(4, .int (nI (rSelf bs n ((rSelf bs n q).2 + 1)).1)), (3, .int (nI (rSelf bs n q).1)), (0, .ref a), (1, .ref rd), (2, .int (nI k))]) hx hb d_Pattern_readChoice_78 hl (by decide) rfl (fun ls hl => ?_)
                  refine lv_aload_n hx hb d_Pattern_readChoice_80 rfl (lv_at hl 2 rfl) ?_
                  refine lv_iload_n hx hb d_Pattern_readChoice_81 rfl (lv_at hl 1 rfl) ?_
                  refine lv_iload hx hb d_Pattern_readChoice_82 (lv_at hl 0 rfl) ?_
                  have hFc := va_free (wc := [(a, .inr (2, [.ref sa, .ref za, .int (nI cnt)])), (sa, .inl ((kA 1), (mm * 4), .inr (.inl s1)))]) hD hS hA [0, 1] rfl
                  refine zk_mut (zk_runV (As := [.int (nI (rSelf bs n q).1), .int (nI (rSelf bs n ((rSelf bs n q).2 + 1)).1)]) (rest := []) S m_Pattern_57 (c_Pattern_allow l D kA a sa za mm cnt s1 (rSelf bs n q).1 (rSelf bs n ((rSelf bs n q).2 + 1)).1 hc hm hlo hhi H.size) rfl rfl ⟨Nat.le_of_ble_eq_true rfl, Nat.le_of_ble_eq_true rfl⟩ hK hX (zk_recv hK (hP 0 _ rfl) rfl) ⟨rfl, hP.sub (ws' := [(a, .inr (2, [.ref sa, .ref za, .int (nI cnt)])), (sa, .inl ((kA 1), (mm * 4), .inr (.inl s1)))]) [0, 1] rfl, (hD.sub (ws' := [(a, .inr (2, [.ref sa, .ref za, .int (nI cnt)])), (sa, .inl ((kA 1), (mm * 4), .inr (.inl s1)))]) [0, 1] (by decide) rfl).weaken (fun _ _ _ _ => trivial)⟩ rfl hl.1 rfl (Nat.le_of_ble_eq_true rfl) ⟨Nat.le_of_ble_eq_true rfl, Nat.le_of_ble_eq_true rfl⟩ d_Pattern_readChoice_84) hS hFc hFc (fun v H locs hpost hz1 hk1 hS => ?_)
                  obtain ⟨rfl, s2, hP1, hD1, hal⟩ := hpost
                  obtain ⟨hP, hD⟩ := va_join (wr := [(za, .inl ((kA 2), mm, .inl zf)), (rd, .inr (3, [.ref o, .int (nI n), .int (nI (rSelf bs n ((rSelf bs n q).2 + 1)).2)]))]) (w1 := [(a, .inr (2, [.ref sa, .ref za, .int (nI cnt)])), (sa, .inl ((kA 1), (mm * 4), .inr (.inl s2)))]) hP hD [0, 1] [2, 3] rfl rfl (by decide) (by decide) hk1 hFc hP1 hD1
                  refine W.eq (g2 := F0 m 87 ls []) rfl ?_
                  have hP : va_P D classes [(za, .inl ((kA 2), mm, .inl zf)), (rd, .inr (3, [.ref o, .int (nI n), .int (nI (rSelf bs n ((rSelf bs n q).2 + 1)).2)])), (a, .inr (2, [.ref sa, .ref za, .int (nI cnt)])), (sa, .inl ((kA 1), (mm * 4), .inr (.inl s2)))] H := hP
                  have hD : va_D A [(za, .inl ((kA 2), mm, .inl zf)), (rd, .inr (3, [.ref o, .int (nI n), .int (nI (rSelf bs n ((rSelf bs n q).2 + 1)).2)])), (a, .inr (2, [.ref sa, .ref za, .int (nI cnt)])), (sa, .inl ((kA 1), (mm * 4), .inr (.inl s2)))] := hD
                  refine lv_iinc (v := (nI (k + 1))) (lv' := [(2, .int (nI (k + 1))), (4, .int (nI (rSelf bs n ((rSelf bs n q).2 + 1)).1)), (3, .int (nI (rSelf bs n q).1)), (0, .ref a), (1, .ref rd)]) hx hb d_Pattern_readChoice_87 hl (k := 4) rfl (nI_1 k) (by decide) rfl (fun ls hl => ?_)
                  refine lv_goto (tgt := 2) hx hb d_Pattern_readChoice_90 (by decide) ?_
                  exact ih (k + 1) (rSelf bs n ((rSelf bs n q).2 + 1)).2 (Sl ++ [((rSelf bs n q).1, (rSelf bs n ((rSelf bs n q).2 + 1)).1)]) s2 (by have := rStep_gt bs n q; rw [hstep] at this; simp only at this; omega) (by have := rStep_gt bs n q; rw [hstep] at this; simp only at this; omega) (by have := rStep_gt bs n q; rw [hstep] at this; simp only at this; omega) (by rw [hset1, rSet_step hqn h93, hstep, List.append_assoc]; rfl) (by rw [hset2, rSet_step hqn h93, hstep]) (fun i x hx => by
                    rw [hal i x hx, hs1 i x hx, pIn_snoc, Bool.or_assoc, Bool.and_or_distrib_left]) _ _ (hP.sub [2, 3, 0, 1] rfl) (hD.sub [2, 3, 0, 1] (by decide) rfl) hS ls (lv_sub hl [3, 4, 0] rfl)
          · refine lv_goto (tgt := 93) hx hb d_Pattern_readChoice_30 (by decide) ?_
            have hend : n ≤ q ∨ bs.getD q 0 = 93 := Or.inr ((nI_eq (by omega) (by omega)).mp (show nI (bs.getD q 0) = nI 93 from c27))
            refine lv_aload_n hx hb d_Pattern_readChoice_93 rfl (lv_at hl 1 rfl) ?_
            have hFc := va_free (wc := [(rd, .inr (3, [.ref o, .int (nI n), .int (nI q)]))]) hD hS hA [3] rfl
            refine zk_mut (zk_runV (As := []) (rest := []) S m_Pattern_51 (c_Reader_skip l D kA rd o n q H.size) rfl rfl ⟨Nat.le_of_ble_eq_true rfl, Nat.le_of_ble_eq_true rfl⟩ hK hX (zk_recv hK (hP 3 _ rfl) rfl) ⟨rfl, hP.sub (ws' := [(rd, .inr (3, [.ref o, .int (nI n), .int (nI q)]))]) [3] rfl, (hD.sub (ws' := [(rd, .inr (3, [.ref o, .int (nI n), .int (nI q)]))]) [3] (by decide) rfl).weaken (fun _ _ _ _ => trivial)⟩ rfl hl.1 rfl (Nat.le_of_ble_eq_true rfl) ⟨Nat.le_of_ble_eq_true rfl, Nat.le_of_ble_eq_true rfl⟩ d_Pattern_readChoice_94) hS hFc hFc (fun v H locs hpost hz1 hk1 hS => ?_)
            obtain ⟨rfl, hP1, hD1⟩ := hpost
            obtain ⟨hP, hD⟩ := va_join (wr := [(a, .inr (2, [.ref sa, .ref za, .int (nI cnt)])), (sa, .inl ((kA 1), (mm * 4), .inr (.inl s1))), (za, .inl ((kA 2), mm, .inl zf))]) (w1 := [(rd, .inr (3, [.ref o, .int (nI n), .int (nI (q + 1))]))]) hP hD [3] [0, 1, 2] rfl rfl (by decide) (by decide) hk1 hFc hP1 hD1
            refine W.eq (g2 := F0 m 97 ls []) rfl ?_
            have hP : va_P D classes [(a, .inr (2, [.ref sa, .ref za, .int (nI cnt)])), (sa, .inl ((kA 1), (mm * 4), .inr (.inl s1))), (za, .inl ((kA 2), mm, .inl zf)), (rd, .inr (3, [.ref o, .int (nI n), .int (nI (q + 1))]))] H := hP
            have hD : va_D A [(a, .inr (2, [.ref sa, .ref za, .int (nI cnt)])), (sa, .inl ((kA 1), (mm * 4), .inr (.inl s1))), (za, .inl ((kA 2), mm, .inl zf)), (rd, .inr (3, [.ref o, .int (nI n), .int (nI (q + 1))]))] := hD
            exact zk_vret S hr hlk hS ⟨rfl, s1, hP.sub (ws' := [(a, .inr (2, [.ref sa, .ref za, .int (nI cnt)])), (sa, .inl (kA 1, mm * 4, .inr (.inl s1))), (za, .inl (kA 2, mm, .inl zf)), (rd, .inr (3, [.ref o, .int (nI n), .int (nI (rSet bs n p0).2)]))]) [0, 1, 2, 3] (by rw [hset2, rSet_end hend]; rfl), hD.sub (ws' := [(a, .inr (2, [.ref sa, .ref za, .int (nI cnt)])), (sa, .inl (kA 1, mm * 4, .inr (.inl s1))), (za, .inl (kA 2, mm, .inl zf)), (rd, .inr (3, [.ref o, .int (nI n), .int (nI (rSet bs n p0).2)]))]) [0, 1, 2, 3] (by decide) (by rw [hset2, rSet_end hend]; rfl), fun i x hx => by
              rw [hs1 i x hx, hset1, rSet_end hend, List.append_nil]⟩ (Nat.le_refl _) (Nat.le_refl _) d_Pattern_readChoice_97
  exact lp (n + 5) 0 p0 [] sf (by omega) (by omega) (by omega) rfl rfl (fun i x _ => by simp [pIn]) _ _ (hP.sub [0, 1, 2, 3] rfl) (hD.sub [0, 1, 2, 3] (by decide) rfl) hS ls (lv_sub hl [1, 2, 0] rfl)
end
section
set_option maxHeartbeats 4000000 in
set_option maxRecDepth 100000 in
/-- Pattern.readItem(reader) -/
theorem c_Pattern_readItem (l : Launch) (D : va_G) (kA : Nat → ClassId) (a sa za mm cnt rd o lim n p0 : Nat) (sf : Nat → Int64) (zf : Nat → Int32) (bs : List Nat) (hc : cnt < mm) (hm : mm ≤ 1024) (hnm2 : n ≤ mm) (hn : n ≤ bs.length) (hp2 : p0 < n) (sz0 : Nat) : Met l y_Pattern_readItem (Cond.code y_Pattern_readItem b_Pattern_readItem 3 none :: zTB) { frames := 4, cells := 0, slots := 0, locals := 87 } (zk_Pc D classes (zTY kA) [.ref a, .ref rd] (fun H => H.size = sz0 ∧ va_P D classes [(a, .inr (2, [.ref sa, .ref za, .int (nI cnt)])), (sa, .inl ((kA 1), (mm * 4), .inr (.inl sf))), (za, .inl ((kA 2), mm, .inl zf)), (rd, .inr (3, [.ref o, .int (nI n), .int (nI p0)]))] H ∧ va_D (fun _ => True) [(a, .inr (2, [.ref sa, .ref za, .int (nI cnt)])), (sa, .inl ((kA 1), (mm * 4), .inr (.inl sf))), (za, .inl ((kA 2), mm, .inl zf)), (rd, .inr (3, [.ref o, .int (nI n), .int (nI p0)]))] ∧ BsAt D kA (fun q => ¬ (va_A [(a, .inr (2, [.ref sa, .ref za, .int (nI cnt)])), (sa, .inl ((kA 1), (mm * 4), .inr (.inl sf))), (za, .inl ((kA 2), mm, .inl zf)), (rd, .inr (3, [.ref o, .int (nI n), .int (nI p0)]))] sz0) q) H o lim bs)) (zk_mQ (fun v H => v = none ∧ ∃ sf' zf', va_P D classes [(a, .inr (2, [.ref sa, .ref za, .int (nI cnt)])), (sa, .inl (kA 1, mm * 4, .inr (.inl sf'))), (za, .inl (kA 2, mm, .inl zf')), (rd, .inr (3, [.ref o, .int (nI n), .int (nI (rItem bs n p0).2)]))] H ∧ va_D (va_A [(a, .inr (2, [.ref sa, .ref za, .int (nI cnt)])), (sa, .inl ((kA 1), (mm * 4), .inr (.inl sf))), (za, .inl ((kA 2), mm, .inl zf)), (rd, .inr (3, [.ref o, .int (nI n), .int (nI p0)]))] sz0) [(a, .inr (2, [.ref sa, .ref za, .int (nI cnt)])), (sa, .inl (kA 1, mm * 4, .inr (.inl sf'))), (za, .inl (kA 2, mm, .inl zf')), (rd, .inr (3, [.ref o, .int (nI n), .int (nI (rItem bs n p0).2)]))] ∧ (∀ i, (i ≠ cnt → zf' i = zf i) ∧ (i = cnt → (rItem bs n p0).1 = none → zf' i = 1) ∧ (i = cnt → (rItem bs n p0).1 ≠ none → zf' i = zf i)) ∧ ∀ i x, x < 256 → zSb sf' i x = (zSb sf i x || (decide (i = cnt) && pInO (rItem bs n p0).1 x))) (va_A [(a, .inr (2, [.ref sa, .ref za, .int (nI cnt)])), (sa, .inl ((kA 1), (mm * 4), .inr (.inl sf))), (za, .inl ((kA 2), mm, .inl zf)), (rd, .inr (3, [.ref o, .int (nI n), .int (nI p0)]))] sz0)) 0 0 (va_A [(a, .inr (2, [.ref sa, .ref za, .int (nI cnt)])), (sa, .inl ((kA 1), (mm * 4), .inr (.inl sf))), (za, .inl ((kA 2), mm, .inl zf)), (rd, .inr (3, [.ref o, .int (nI n), .int (nI p0)]))] sz0) := by
  refine zk_of [.ref a, .ref rd] (by decide) (Nat.le_of_ble_eq_true rfl) ?_
  intro p e s m below meth c S hr hlk hnm hK hX hpre ls hl
  obtain ⟨hx, hb, hml, hown, ht⟩ := id S
  have hl : lv_has ls 3 [(0, .ref a), (1, .ref rd)] := hl
  obtain ⟨hsz, hP, hD0, hO⟩ := hpre
  subst hsz
  have hD := hD0.self (sz := s.heap.size)
  generalize hAe : va_A [(a, .inr (2, [.ref sa, .ref za, .int (nI cnt)])), (sa, .inl ((kA 1), (mm * 4), .inr (.inl sf))), (za, .inl ((kA 2), mm, .inl zf)), (rd, .inr (3, [.ref o, .int (nI n), .int (nI p0)]))] s.heap.size = A at hD hO ⊢
  have hA : ∀ q : Nat, s.heap.size ≤ q → A q := fun q h => by rw [← hAe]; exact Or.inr h
  have hS : va_S A s.heap s.heap [] := va_S.rf
  have hP : va_P D classes [(a, .inr (2, [.ref sa, .ref za, .int (nI cnt)])), (sa, .inl ((kA 1), (mm * 4), .inr (.inl sf))), (za, .inl ((kA 2), mm, .inl zf)), (rd, .inr (3, [.ref o, .int (nI n), .int (nI p0)]))] s.heap := hP
  obtain ⟨ro, no, fo, hzo1, hzo2, hO1, hO2, hO3⟩ := id hO
  obtain ⟨g1, g2, g3, g4, g5⟩ := id hO3
  have hb256 : ∀ i, i < bs.length → bs.getD i 0 < 256 := fun i hi => (g5 i hi).1
  have hbq := hb256 p0 (by omega)
  refine lv_aload_n hx hb d_Pattern_readItem_0 rfl (lv_at hl 1 rfl) ?_
  refine lv_iconst (v := 0) hx hb d_Pattern_readItem_1 (by decide) ?_
  refine zk_ti (z := nI 0) (rfl) ?_
  refine zk_pure (zk_runV (As := [.int (nI 0)]) (rest := []) S m_Pattern_43 (c_Reader_ahead l D kA (fun q => ¬ A q) rd o lim n p0 0 bs hn (by omega) (by omega)) rfl rfl ⟨Nat.le_of_ble_eq_true rfl, Nat.le_of_ble_eq_true rfl⟩ hK hX (zk_recv hK (hP 3 _ rfl) rfl) (⟨(hP 3 _ rfl), hO.ro hS⟩) rfl hl.1 rfl (Nat.le_of_ble_eq_true rfl) ⟨Nat.le_of_ble_eq_true rfl, Nat.le_of_ble_eq_true rfl⟩ d_Pattern_readItem_2) ?_
  refine zk_ti (z := nI (bs.getD p0 0)) (zAh_in hp2) ?_
  by_cases h42 : bs.getD p0 0 = 42
  · refine lv_lookup (off := 35) (tgt := 40) hx hb d_Pattern_readItem_5 (by decide) (by rw [h42]; decide) (by decide) ?_
    refine lv_aload_n hx hb d_Pattern_readItem_40 rfl (lv_at hl 1 rfl) ?_
    have hFc := va_free (wc := [(rd, .inr (3, [.ref o, .int (nI n), .int (nI p0)]))]) hD hS hA [3] rfl
    refine zk_mut (zk_runV (As := []) (rest := []) S m_Pattern_51 (c_Reader_skip l D kA rd o n p0 s.heap.size) rfl rfl ⟨Nat.le_of_ble_eq_true rfl, Nat.le_of_ble_eq_true rfl⟩ hK hX (zk_recv hK (hP 3 _ rfl) rfl) ⟨rfl, hP.sub (ws' := [(rd, .inr (3, [.ref o, .int (nI n), .int (nI p0)]))]) [3] rfl, (hD.sub (ws' := [(rd, .inr (3, [.ref o, .int (nI n), .int (nI p0)]))]) [3] (by decide) rfl).weaken (fun _ _ _ _ => trivial)⟩ rfl hl.1 rfl (Nat.le_of_ble_eq_true rfl) ⟨Nat.le_of_ble_eq_true rfl, Nat.le_of_ble_eq_true rfl⟩ d_Pattern_readItem_41) hS hFc hFc (fun v H locs hpost hz1 hk1 hS => ?_)
    obtain ⟨rfl, hP1, hD1⟩ := hpost
    obtain ⟨hP, hD⟩ := va_join (wr := [(a, .inr (2, [.ref sa, .ref za, .int (nI cnt)])), (sa, .inl ((kA 1), (mm * 4), .inr (.inl sf))), (za, .inl ((kA 2), mm, .inl zf))]) (w1 := [(rd, .inr (3, [.ref o, .int (nI n), .int (nI (p0 + 1))]))]) hP hD [3] [0, 1, 2] rfl rfl (by decide) (by decide) hk1 hFc hP1 hD1
    refine W.eq (g2 := F0 m 44 ls []) rfl ?_
    have hP : va_P D classes [(a, .inr (2, [.ref sa, .ref za, .int (nI cnt)])), (sa, .inl ((kA 1), (mm * 4), .inr (.inl sf))), (za, .inl ((kA 2), mm, .inl zf)), (rd, .inr (3, [.ref o, .int (nI n), .int (nI (p0 + 1))]))] H := hP
    have hD : va_D A [(a, .inr (2, [.ref sa, .ref za, .int (nI cnt)])), (sa, .inl ((kA 1), (mm * 4), .inr (.inl sf))), (za, .inl ((kA 2), mm, .inl zf)), (rd, .inr (3, [.ref o, .int (nI n), .int (nI (p0 + 1))]))] := hD
    refine lv_aload_n hx hb d_Pattern_readItem_44 rfl (lv_at hl 0 rfl) ?_
    have hFc := va_free (wc := [(a, .inr (2, [.ref sa, .ref za, .int (nI cnt)])), (za, .inl ((kA 2), mm, .inl zf))]) hD hS hA [0, 2] rfl
    refine zk_mut (zk_runV (As := []) (rest := []) S m_Pattern_54 (c_Pattern_markStar l D kA a sa za mm cnt zf hc hm H.size) rfl rfl ⟨Nat.le_of_ble_eq_true rfl, Nat.le_of_ble_eq_true rfl⟩ hK hX (zk_recv hK (hP 0 _ rfl) rfl) ⟨rfl, hP.sub (ws' := [(a, .inr (2, [.ref sa, .ref za, .int (nI cnt)])), (za, .inl ((kA 2), mm, .inl zf))]) [0, 2] rfl, (hD.sub (ws' := [(a, .inr (2, [.ref sa, .ref za, .int (nI cnt)])), (za, .inl ((kA 2), mm, .inl zf))]) [0, 2] (by decide) rfl).weaken (fun _ _ _ _ => trivial)⟩ rfl hl.1 rfl (Nat.le_of_ble_eq_true rfl) ⟨Nat.le_of_ble_eq_true rfl, Nat.le_of_ble_eq_true rfl⟩ d_Pattern_readItem_45) hS hFc hFc (fun v H locs hpost hz1 hk1 hS => ?_)
    obtain ⟨rfl, hP1, hD1⟩ := hpost
    obtain ⟨hP, hD⟩ := va_join (wr := [(sa, .inl ((kA 1), (mm * 4), .inr (.inl sf))), (rd, .inr (3, [.ref o, .int (nI n), .int (nI (p0 + 1))]))]) (w1 := [(a, .inr (2, [.ref sa, .ref za, .int (nI cnt)])), (za, .inl ((kA 2), mm, .inl (upd zf cnt 1)))]) hP hD [0, 2] [1, 3] rfl rfl (by decide) (by decide) hk1 hFc hP1 hD1
    refine W.eq (g2 := F0 m 48 ls []) rfl ?_
    have hP : va_P D classes [(sa, .inl ((kA 1), (mm * 4), .inr (.inl sf))), (rd, .inr (3, [.ref o, .int (nI n), .int (nI (p0 + 1))])), (a, .inr (2, [.ref sa, .ref za, .int (nI cnt)])), (za, .inl ((kA 2), mm, .inl (upd zf cnt 1)))] H := hP
    have hD : va_D A [(sa, .inl ((kA 1), (mm * 4), .inr (.inl sf))), (rd, .inr (3, [.ref o, .int (nI n), .int (nI (p0 + 1))])), (a, .inr (2, [.ref sa, .ref za, .int (nI cnt)])), (za, .inl ((kA 2), mm, .inl (upd zf cnt 1)))] := hD
    refine lv_goto (tgt := 89) hx hb d_Pattern_readItem_48 (by decide) ?_
    have hri : rItem bs n p0 = (none, p0 + 1) := if_pos h42
    rw [hri]
    exact zk_vret S hr hlk hS ⟨rfl, sf, (upd zf cnt 1), hP.sub (ws' := [(a, .inr (2, [.ref sa, .ref za, .int (nI cnt)])), (sa, .inl (kA 1, mm * 4, .inr (.inl sf))), (za, .inl (kA 2, mm, .inl (upd zf cnt 1))), (rd, .inr (3, [.ref o, .int (nI n), .int (nI (p0 + 1))]))]) [2, 0, 3, 1] rfl, hD.sub (ws' := [(a, .inr (2, [.ref sa, .ref za, .int (nI cnt)])), (sa, .inl (kA 1, mm * 4, .inr (.inl sf))), (za, .inl (kA 2, mm, .inl (upd zf cnt 1))), (rd, .inr (3, [.ref o, .int (nI n), .int (nI (p0 + 1))]))]) [2, 0, 3, 1] (by decide) rfl, fun i => ⟨fun z => pk_un z, fun z _ => by rw [z, pk_us], fun _ z => absurd rfl z⟩, fun i x _ => by simp [pInO]⟩ (Nat.le_refl _) (Nat.le_refl _) d_Pattern_readItem_89
  · by_cases h63 : bs.getD p0 0 = 63
    · refine lv_lookup (off := 46) (tgt := 51) hx hb d_Pattern_readItem_5 (by decide) (by rw [h63]; decide) (by decide) ?_
      refine lv_aload_n hx hb d_Pattern_readItem_51 rfl (lv_at hl 1 rfl) ?_
      have hFc := va_free (wc := [(rd, .inr (3, [.ref o, .int (nI n), .int (nI p0)]))]) hD hS hA [3] rfl
      refine zk_mut (zk_runV (As := []) (rest := []) S m_Pattern_51 (c_Reader_skip l D kA rd o n p0 s.heap.size) rfl rfl ⟨Nat.le_of_ble_eq_true rfl, Nat.le_of_ble_eq_true rfl⟩ hK hX (zk_recv hK (hP 3 _ rfl) rfl) ⟨rfl, hP.sub (ws' := [(rd, .inr (3, [.ref o, .int (nI n), .int (nI p0)]))]) [3] rfl, (hD.sub (ws' := [(rd, .inr (3, [.ref o, .int (nI n), .int (nI p0)]))]) [3] (by decide) rfl).weaken (fun _ _ _ _ => trivial)⟩ rfl hl.1 rfl (Nat.le_of_ble_eq_true rfl) ⟨Nat.le_of_ble_eq_true rfl, Nat.le_of_ble_eq_true rfl⟩ d_Pattern_readItem_52) hS hFc hFc (fun v H locs hpost hz1 hk1 hS => ?_)
      obtain ⟨rfl, hP1, hD1⟩ := hpost
      obtain ⟨hP, hD⟩ := va_join (wr := [(a, .inr (2, [.ref sa, .ref za, .int (nI cnt)])), (sa, .inl ((kA 1), (mm * 4), .inr (.inl sf))), (za, .inl ((kA 2), mm, .inl zf))]) (w1 := [(rd, .inr (3, [.ref o, .int (nI n), .int (nI (p0 + 1))]))]) hP hD [3] [0, 1, 2] rfl rfl (by decide) (by decide) hk1 hFc hP1 hD1
      refine W.eq (g2 := F0 m 55 ls []) rfl ?_
      have hP : va_P D classes [(a, .inr (2, [.ref sa, .ref za, .int (nI cnt)])), (sa, .inl ((kA 1), (mm * 4), .inr (.inl sf))), (za, .inl ((kA 2), mm, .inl zf)), (rd, .inr (3, [.ref o, .int (nI n), .int (nI (p0 + 1))]))] H := hP
      have hD : va_D A [(a, .inr (2, [.ref sa, .ref za, .int (nI cnt)])), (sa, .inl ((kA 1), (mm * 4), .inr (.inl sf))), (za, .inl ((kA 2), mm, .inl zf)), (rd, .inr (3, [.ref o, .int (nI n), .int (nI (p0 + 1))]))] := hD
      refine lv_aload_n hx hb d_Pattern_readItem_55 rfl (lv_at hl 0 rfl) ?_
      refine lv_iconst (v := 0) hx hb d_Pattern_readItem_56 (by decide) ?_
      refine zk_ti (z := nI 0) (rfl) ?_
      refine lv_sipush (v := 255) hx hb d_Pattern_readItem_57 (by decide) ?_
      refine zk_ti (z := nI 255) (rfl) ?_
      have hFc := va_free (wc := [(a, .inr (2, [.ref sa, .ref za, .int (nI cnt)])), (sa, .inl ((kA 1), (mm * 4), .inr (.inl sf)))]) hD hS hA [0, 1] rfl
      refine zk_mut (zk_runV (As := [.int (nI 0), .int (nI 255)]) (rest := []) S m_Pattern_57 (c_Pattern_allow l D kA a sa za mm cnt sf 0 255 hc hm (by decide) (by decide) H.size) rfl rfl ⟨Nat.le_of_ble_eq_true rfl, Nat.le_of_ble_eq_true rfl⟩ hK hX (zk_recv hK (hP 0 _ rfl) rfl) ⟨rfl, hP.sub (ws' := [(a, .inr (2, [.ref sa, .ref za, .int (nI cnt)])), (sa, .inl ((kA 1), (mm * 4), .inr (.inl sf)))]) [0, 1] rfl, (hD.sub (ws' := [(a, .inr (2, [.ref sa, .ref za, .int (nI cnt)])), (sa, .inl ((kA 1), (mm * 4), .inr (.inl sf)))]) [0, 1] (by decide) rfl).weaken (fun _ _ _ _ => trivial)⟩ rfl hl.1 rfl (Nat.le_of_ble_eq_true rfl) ⟨Nat.le_of_ble_eq_true rfl, Nat.le_of_ble_eq_true rfl⟩ d_Pattern_readItem_60) hS hFc hFc (fun v H locs hpost hz1 hk1 hS => ?_)
      obtain ⟨rfl, s2, hP1, hD1, hal⟩ := hpost
      obtain ⟨hP, hD⟩ := va_join (wr := [(za, .inl ((kA 2), mm, .inl zf)), (rd, .inr (3, [.ref o, .int (nI n), .int (nI (p0 + 1))]))]) (w1 := [(a, .inr (2, [.ref sa, .ref za, .int (nI cnt)])), (sa, .inl ((kA 1), (mm * 4), .inr (.inl s2)))]) hP hD [0, 1] [2, 3] rfl rfl (by decide) (by decide) hk1 hFc hP1 hD1
      refine W.eq (g2 := F0 m 63 ls []) rfl ?_
      have hP : va_P D classes [(za, .inl ((kA 2), mm, .inl zf)), (rd, .inr (3, [.ref o, .int (nI n), .int (nI (p0 + 1))])), (a, .inr (2, [.ref sa, .ref za, .int (nI cnt)])), (sa, .inl ((kA 1), (mm * 4), .inr (.inl s2)))] H := hP
      have hD : va_D A [(za, .inl ((kA 2), mm, .inl zf)), (rd, .inr (3, [.ref o, .int (nI n), .int (nI (p0 + 1))])), (a, .inr (2, [.ref sa, .ref za, .int (nI cnt)])), (sa, .inl ((kA 1), (mm * 4), .inr (.inl s2)))] := hD
      refine lv_goto (tgt := 89) hx hb d_Pattern_readItem_63 (by decide) ?_
      have hri : rItem bs n p0 = (some [(0, 255)], p0 + 1) := by unfold rItem; rw [if_neg h42, if_pos h63]
      rw [hri]
      exact zk_vret S hr hlk hS ⟨rfl, s2, zf, hP.sub (ws' := [(a, .inr (2, [.ref sa, .ref za, .int (nI cnt)])), (sa, .inl (kA 1, mm * 4, .inr (.inl s2))), (za, .inl (kA 2, mm, .inl zf)), (rd, .inr (3, [.ref o, .int (nI n), .int (nI (p0 + 1))]))]) [2, 3, 0, 1] rfl, hD.sub (ws' := [(a, .inr (2, [.ref sa, .ref za, .int (nI cnt)])), (sa, .inl (kA 1, mm * 4, .inr (.inl s2))), (za, .inl (kA 2, mm, .inl zf)), (rd, .inr (3, [.ref o, .int (nI n), .int (nI (p0 + 1))]))]) [2, 3, 0, 1] (by decide) rfl, fun i => ⟨fun _ => rfl, fun _ z => (by cases z), fun _ _ => rfl⟩, fun i x hx => by
        rw [hal i x hx]
        simp [pInO, pIn]⟩ (Nat.le_refl _) (Nat.le_refl _) d_Pattern_readItem_89
    · by_cases h91 : bs.getD p0 0 = 91
      · refine lv_lookup (off := 61) (tgt := 66) hx hb d_Pattern_readItem_5 (by decide) (by rw [h91]; decide) (by decide) ?_
        refine lv_aload_n hx hb d_Pattern_readItem_66 rfl (lv_at hl 1 rfl) ?_
        have hFc := va_free (wc := [(rd, .inr (3, [.ref o, .int (nI n), .int (nI p0)]))]) hD hS hA [3] rfl
        refine zk_mut (zk_runV (As := []) (rest := []) S m_Pattern_51 (c_Reader_skip l D kA rd o n p0 s.heap.size) rfl rfl ⟨Nat.le_of_ble_eq_true rfl, Nat.le_of_ble_eq_true rfl⟩ hK hX (zk_recv hK (hP 3 _ rfl) rfl) ⟨rfl, hP.sub (ws' := [(rd, .inr (3, [.ref o, .int (nI n), .int (nI p0)]))]) [3] rfl, (hD.sub (ws' := [(rd, .inr (3, [.ref o, .int (nI n), .int (nI p0)]))]) [3] (by decide) rfl).weaken (fun _ _ _ _ => trivial)⟩ rfl hl.1 rfl (Nat.le_of_ble_eq_true rfl) ⟨Nat.le_of_ble_eq_true rfl, Nat.le_of_ble_eq_true rfl⟩ d_Pattern_readItem_67) hS hFc hFc (fun v H locs hpost hz1 hk1 hS => ?_)
        obtain ⟨rfl, hP1, hD1⟩ := hpost
        obtain ⟨hP, hD⟩ := va_join (wr := [(a, .inr (2, [.ref sa, .ref za, .int (nI cnt)])), (sa, .inl ((kA 1), (mm * 4), .inr (.inl sf))), (za, .inl ((kA 2), mm, .inl zf))]) (w1 := [(rd, .inr (3, [.ref o, .int (nI n), .int (nI (p0 + 1))]))]) hP hD [3] [0, 1, 2] rfl rfl (by decide) (by decide) hk1 hFc hP1 hD1
        refine W.eq (g2 := F0 m 70 ls []) rfl ?_
        have hP : va_P D classes [(a, .inr (2, [.ref sa, .ref za, .int (nI cnt)])), (sa, .inl ((kA 1), (mm * 4), .inr (.inl sf))), (za, .inl ((kA 2), mm, .inl zf)), (rd, .inr (3, [.ref o, .int (nI n), .int (nI (p0 + 1))]))] H := hP
        have hD : va_D A [(a, .inr (2, [.ref sa, .ref za, .int (nI cnt)])), (sa, .inl ((kA 1), (mm * 4), .inr (.inl sf))), (za, .inl ((kA 2), mm, .inl zf)), (rd, .inr (3, [.ref o, .int (nI n), .int (nI (p0 + 1))]))] := hD
        refine lv_aload_n hx hb d_Pattern_readItem_70 rfl (lv_at hl 0 rfl) ?_
        refine lv_aload_n hx hb d_Pattern_readItem_71 rfl (lv_at hl 1 rfl) ?_
        have hFc := va_free (wc := [(a, .inr (2, [.ref sa, .ref za, .int (nI cnt)])), (sa, .inl ((kA 1), (mm * 4), .inr (.inl sf))), (za, .inl ((kA 2), mm, .inl zf)), (rd, .inr (3, [.ref o, .int (nI n), .int (nI (p0 + 1))]))]) hD hS hA [0, 1, 2, 3] rfl
        refine zk_mut (zk_runV (As := [.ref rd]) (rest := []) S m_Pattern_61 (c_Pattern_readChoice l D kA a sa za mm cnt rd o lim n (p0 + 1) sf zf bs hc hm hnm2 hn (by omega) (by omega) H.size) rfl rfl ⟨Nat.le_of_ble_eq_true rfl, Nat.le_of_ble_eq_true rfl⟩ hK hX (zk_recv hK (hP 0 _ rfl) rfl) ⟨rfl, hP.sub (ws' := [(a, .inr (2, [.ref sa, .ref za, .int (nI cnt)])), (sa, .inl ((kA 1), (mm * 4), .inr (.inl sf))), (za, .inl ((kA 2), mm, .inl zf)), (rd, .inr (3, [.ref o, .int (nI n), .int (nI (p0 + 1))]))]) [0, 1, 2, 3] rfl, (hD.sub (ws' := [(a, .inr (2, [.ref sa, .ref za, .int (nI cnt)])), (sa, .inl ((kA 1), (mm * 4), .inr (.inl sf))), (za, .inl ((kA 2), mm, .inl zf)), (rd, .inr (3, [.ref o, .int (nI n), .int (nI (p0 + 1))]))]) [0, 1, 2, 3] (by decide) rfl).weaken (fun _ _ _ _ => trivial), ((hO.ro hS).weaken (fun q hq hz => hq (hFc q hz)))⟩ rfl hl.1 rfl (Nat.le_of_ble_eq_true rfl) ⟨Nat.le_of_ble_eq_true rfl, Nat.le_of_ble_eq_true rfl⟩ d_Pattern_readItem_72) hS hFc hFc (fun v H locs hpost hz1 hk1 hS => ?_)
        obtain ⟨rfl, s2, hP1, hD1, hal⟩ := hpost
        obtain ⟨hP, hD⟩ := va_join (wr := []) (w1 := [(a, .inr (2, [.ref sa, .ref za, .int (nI cnt)])), (sa, .inl ((kA 1), (mm * 4), .inr (.inl s2))), (za, .inl ((kA 2), mm, .inl zf)), (rd, .inr (3, [.ref o, .int (nI n), .int (nI ((rSet bs n (p0 + 1)).2))]))]) hP hD [0, 1, 2, 3] [] rfl rfl (by decide) (by decide) hk1 hFc hP1 hD1
        refine W.eq (g2 := F0 m 75 ls []) rfl ?_
        have hP : va_P D classes [(a, .inr (2, [.ref sa, .ref za, .int (nI cnt)])), (sa, .inl ((kA 1), (mm * 4), .inr (.inl s2))), (za, .inl ((kA 2), mm, .inl zf)), (rd, .inr (3, [.ref o, .int (nI n), .int (nI ((rSet bs n (p0 + 1)).2))]))] H := hP
        have hD : va_D A [(a, .inr (2, [.ref sa, .ref za, .int (nI cnt)])), (sa, .inl ((kA 1), (mm * 4), .inr (.inl s2))), (za, .inl ((kA 2), mm, .inl zf)), (rd, .inr (3, [.ref o, .int (nI n), .int (nI ((rSet bs n (p0 + 1)).2))]))] := hD
        refine lv_goto (tgt := 89) hx hb d_Pattern_readItem_75 (by decide) ?_
        have hri : rItem bs n p0 = (some (rSet bs n (p0 + 1)).1, (rSet bs n (p0 + 1)).2) := by unfold rItem; rw [if_neg h42, if_neg h63, if_pos h91]
        rw [hri]
        exact zk_vret S hr hlk hS ⟨rfl, s2, zf, hP.sub (ws' := [(a, .inr (2, [.ref sa, .ref za, .int (nI cnt)])), (sa, .inl (kA 1, mm * 4, .inr (.inl s2))), (za, .inl (kA 2, mm, .inl zf)), (rd, .inr (3, [.ref o, .int (nI n), .int (nI ((rSet bs n (p0 + 1)).2))]))]) [0, 1, 2, 3] rfl, hD.sub (ws' := [(a, .inr (2, [.ref sa, .ref za, .int (nI cnt)])), (sa, .inl (kA 1, mm * 4, .inr (.inl s2))), (za, .inl (kA 2, mm, .inl zf)), (rd, .inr (3, [.ref o, .int (nI n), .int (nI ((rSet bs n (p0 + 1)).2))]))]) [0, 1, 2, 3] (by decide) rfl, fun i => ⟨fun _ => rfl, fun _ z => (by cases z), fun _ _ => rfl⟩, fun i x hx => by
          rw [hal i x hx]
          rfl⟩ (Nat.le_refl _) (Nat.le_refl _) d_Pattern_readItem_89
      · refine lv_lookup (off := 73) (tgt := 78) hx hb d_Pattern_readItem_5 (by decide) (by
          rw [lv_osw (k := 42) (fun z => h42 ((nI_eq (by omega) (by omega)).mp (show nI _ = nI 42 from z))) (by decide), lv_osw (k := 63) (fun z => h63 ((nI_eq (by omega) (by omega)).mp (show nI _ = nI 63 from z))) (by decide), lv_osw (k := 91) (fun z => h91 ((nI_eq (by omega) (by omega)).mp (show nI _ = nI 91 from z))) (by decide)]
          rfl) (by decide) ?_
        refine lv_aload_n hx hb d_Pattern_readItem_78 rfl (lv_at hl 1 rfl) ?_
        have hFc := va_free (wc := [(rd, .inr (3, [.ref o, .int (nI n), .int (nI p0)]))]) hD hS hA [3] rfl
        refine zk_mut (zk_runV (As := []) (rest := []) S m_Pattern_64 (c_Reader_nextItself l D kA rd o lim n p0 bs hn (by omega) hp2 s.heap.size) rfl rfl ⟨Nat.le_of_ble_eq_true rfl, Nat.le_of_ble_eq_true rfl⟩ hK hX (zk_recv hK (hP 3 _ rfl) rfl) ⟨rfl, hP.sub (ws' := [(rd, .inr (3, [.ref o, .int (nI n), .int (nI p0)]))]) [3] rfl, (hD.sub (ws' := [(rd, .inr (3, [.ref o, .int (nI n), .int (nI p0)]))]) [3] (by decide) rfl).weaken (fun _ _ _ _ => trivial), ((hO.ro hS).weaken (fun q hq hz => hq (hFc q hz)))⟩ rfl hl.1 rfl (Nat.le_of_ble_eq_true rfl) ⟨Nat.le_of_ble_eq_true rfl, Nat.le_of_ble_eq_true rfl⟩ d_Pattern_readItem_79) hS hFc hFc (fun v H locs hpost hz1 hk1 hS => ?_)
        obtain ⟨rfl, hP1, hD1⟩ := hpost
        obtain ⟨hP, hD⟩ := va_join (wr := [(a, .inr (2, [.ref sa, .ref za, .int (nI cnt)])), (sa, .inl ((kA 1), (mm * 4), .inr (.inl sf))), (za, .inl ((kA 2), mm, .inl zf))]) (w1 := [(rd, .inr (3, [.ref o, .int (nI n), .int (nI (rSelf bs n p0).2)]))]) hP hD [3] [0, 1, 2] rfl rfl (by decide) (by decide) hk1 hFc hP1 hD1
        refine W.eq (g2 := F0 m 82 ls [.int (nI (rSelf bs n p0).1)]) rfl ?_
        have hP : va_P D classes [(a, .inr (2, [.ref sa, .ref za, .int (nI cnt)])), (sa, .inl ((kA 1), (mm * 4), .inr (.inl sf))), (za, .inl ((kA 2), mm, .inl zf)), (rd, .inr (3, [.ref o, .int (nI n), .int (nI (rSelf bs n p0).2)]))] H := hP
        have hD : va_D A [(a, .inr (2, [.ref sa, .ref za, .int (nI cnt)])), (sa, .inl ((kA 1), (mm * 4), .inr (.inl sf))), (za, .inl ((kA 2), mm, .inl zf)), (rd, .inr (3, [.ref o, .int (nI n), .int (nI (rSelf bs n p0).2)]))] := hD
        refine lv_istore_n (lv' := [(2, .int (nI (rSelf bs n p0).1)), (0, .ref a), (1, .ref rd)]) hx hb d_Pattern_readItem_82 rfl hl (by decide) rfl (fun ls hl => ?_)
        have hlo := rSelf_lt hb256 hp2 hn
        refine lv_aload_n hx hb d_Pattern_readItem_83 rfl (lv_at hl 1 rfl) ?_
        refine lv_iload_n hx hb d_Pattern_readItem_84 rfl (lv_at hl 0 rfl) ?_
        refine lv_iload_n hx hb d_Pattern_readItem_85 rfl (lv_at hl 0 rfl) ?_
        have hFc := va_free (wc := [(a, .inr (2, [.ref sa, .ref za, .int (nI cnt)])), (sa, .inl ((kA 1), (mm * 4), .inr (.inl sf)))]) hD hS hA [0, 1] rfl
        refine zk_mut (zk_runV (As := [.int (nI (rSelf bs n p0).1), .int (nI (rSelf bs n p0).1)]) (rest := []) S m_Pattern_57 (c_Pattern_allow l D kA a sa za mm cnt sf (rSelf bs n p0).1 (rSelf bs n p0).1 hc hm hlo hlo H.size) rfl rfl ⟨Nat.le_of_ble_eq_true rfl, Nat.le_of_ble_eq_true rfl⟩ hK hX (zk_recv hK (hP 0 _ rfl) rfl) ⟨rfl, hP.sub (ws' := [(a, .inr (2, [.ref sa, .ref za, .int (nI cnt)])), (sa, .inl ((kA 1), (mm * 4), .inr (.inl sf)))]) [0, 1] rfl, (hD.sub (ws' := [(a, .inr (2, [.ref sa, .ref za, .int (nI cnt)])), (sa, .inl ((kA 1), (mm * 4), .inr (.inl sf)))]) [0, 1] (by decide) rfl).weaken (fun _ _ _ _ => trivial)⟩ rfl hl.1 rfl (Nat.le_of_ble_eq_true rfl) ⟨Nat.le_of_ble_eq_true rfl, Nat.le_of_ble_eq_true rfl⟩ d_Pattern_readItem_86) hS hFc hFc (fun v H locs hpost hz1 hk1 hS => ?_)
        obtain ⟨rfl, s2, hP1, hD1, hal⟩ := hpost
        obtain ⟨hP, hD⟩ := va_join (wr := [(za, .inl ((kA 2), mm, .inl zf)), (rd, .inr (3, [.ref o, .int (nI n), .int (nI (rSelf bs n p0).2)]))]) (w1 := [(a, .inr (2, [.ref sa, .ref za, .int (nI cnt)])), (sa, .inl ((kA 1), (mm * 4), .inr (.inl s2)))]) hP hD [0, 1] [2, 3] rfl rfl (by decide) (by decide) hk1 hFc hP1 hD1
        refine W.eq (g2 := F0 m 89 ls []) rfl ?_
        have hP : va_P D classes [(za, .inl ((kA 2), mm, .inl zf)), (rd, .inr (3, [.ref o, .int (nI n), .int (nI (rSelf bs n p0).2)])), (a, .inr (2, [.ref sa, .ref za, .int (nI cnt)])), (sa, .inl ((kA 1), (mm * 4), .inr (.inl s2)))] H := hP
        have hD : va_D A [(za, .inl ((kA 2), mm, .inl zf)), (rd, .inr (3, [.ref o, .int (nI n), .int (nI (rSelf bs n p0).2)])), (a, .inr (2, [.ref sa, .ref za, .int (nI cnt)])), (sa, .inl ((kA 1), (mm * 4), .inr (.inl s2)))] := hD
        have hri : rItem bs n p0 = (some [((rSelf bs n p0).1, (rSelf bs n p0).1)], (rSelf bs n p0).2) := by unfold rItem; rw [if_neg h42, if_neg h63, if_neg h91]
        rw [hri]
        exact zk_vret S hr hlk hS ⟨rfl, s2, zf, hP.sub (ws' := [(a, .inr (2, [.ref sa, .ref za, .int (nI cnt)])), (sa, .inl (kA 1, mm * 4, .inr (.inl s2))), (za, .inl (kA 2, mm, .inl zf)), (rd, .inr (3, [.ref o, .int (nI n), .int (nI ((rSelf bs n p0).2))]))]) [2, 3, 0, 1] rfl, hD.sub (ws' := [(a, .inr (2, [.ref sa, .ref za, .int (nI cnt)])), (sa, .inl (kA 1, mm * 4, .inr (.inl s2))), (za, .inl (kA 2, mm, .inl zf)), (rd, .inr (3, [.ref o, .int (nI n), .int (nI ((rSelf bs n p0).2))]))]) [2, 3, 0, 1] (by decide) rfl, fun i => ⟨fun _ => rfl, fun _ z => (by cases z), fun _ _ => rfl⟩, fun i x hx => by
          rw [hal i x hx]
          simp [pInO, pIn]⟩ (Nat.le_refl _) (Nat.le_refl _) d_Pattern_readItem_89
end
section
theorem rStep_le (bs : List Nat) (n a : Nat) (h : a < n) : (rStep bs n a).2.2 ≤ n + 1 := by
  have h1 := rSelf_gt bs n a
  have h2 := rSelf_gt bs n ((rSelf bs n a).2 + 1)
  unfold rStep
  split
  · rename_i h3
    show (rSelf bs n ((rSelf bs n a).2 + 1)).2 ≤ n + 1
    have := h3.1
    omega
  · show (rSelf bs n a).2 ≤ n + 1
    omega
theorem rSet_le (bs : List Nat) (n : Nat) : ∀ (k a : Nat), n - a ≤ k → a ≤ n + 1 → (rSet bs n a).2 ≤ n + 2 := by
  intro k
  induction k with
  | zero =>
    intro a h h2
    rw [rSet_end (Or.inl (by omega))]
    show a + 1 ≤ n + 2
    omega
  | succ k ih =>
    intro a h h2
    by_cases h1 : n ≤ a ∨ bs.getD a 0 = 93
    · rw [rSet_end h1]
      show a + 1 ≤ n + 2
      omega
    · have h3 : a < n := Nat.not_le.mp fun z => h1 (Or.inl z)
      rw [rSet_step h3 (fun z => h1 (Or.inr z))]
      have h4 := rStep_gt bs n a
      exact ih (rStep bs n a).2.2 (by omega) (rStep_le bs n a h3)
theorem rItem_le (bs : List Nat) (n a : Nat) (h : a < n) : (rItem bs n a).2 ≤ n + 2 := by
  have h1 := rSelf_gt bs n a
  have h2 := rSet_le bs n n (a + 1) (by omega) (by omega)
  unfold rItem
  split
  · show a + 1 ≤ n + 2
    omega
  · split
    · show a + 1 ≤ n + 2
      omega
    · split
      · exact h2
      · show (rSelf bs n a).2 ≤ n + 2
        omega
def PtInv (its : List pItem) (sf : Nat → Int64) (zf : Nat → Int32) : Prop := (∀ i, i < its.length → (its.getD i none = none → zf i = 1) ∧ ∀ S, its.getD i none = some S → zf i = 0 ∧ ∀ v, v < 256 → zSb sf i v = pIn S v) ∧ ∀ i, its.length ≤ i → zf i = 0 ∧ ∀ v, v < 256 → zSb sf i v = false
theorem PtInv_snoc {its : List pItem} {sf sf' : Nat → Int64} {zf zf' : Nat → Int32} {it : pItem} (h : PtInv its sf zf) (hz : ∀ i, (i ≠ its.length → zf' i = zf i) ∧ (i = its.length → it = none → zf' i = 1) ∧ (i = its.length → it ≠ none → zf' i = zf i)) (hs : ∀ i x, x < 256 → zSb sf' i x = (zSb sf i x || (decide (i = its.length) && pInO it x))) : PtInv (its ++ [it]) sf' zf' := by
  have hs1 : ∀ i x, i ≠ its.length → x < 256 → zSb sf' i x = zSb sf i x := fun i x hi hx => by rw [hs i x hx]; simp [hi]
  refine ⟨fun i hi => ?_, fun i hi => ?_⟩
  · rw [List.length_append] at hi
    simp only [List.length_cons, List.length_nil] at hi
    by_cases hc : i = its.length
    · have e : (its ++ [it]).getD i none = it := by rw [hc, List.getD_eq_getElem?_getD, List.getElem?_append_right (Nat.le_refl _), Nat.sub_self]; rfl
      rw [e]
      refine ⟨fun q => (hz i).2.1 hc q, fun S q => ⟨?_, fun v hv => ?_⟩⟩
      · rw [(hz i).2.2 hc (by rw [q]; exact fun z => by cases z)]
        exact (h.2 i (by omega)).1
      · rw [hs i v hv, (h.2 i (by omega)).2 v hv, q]
        simp [hc, pInO]
    · have e : (its ++ [it]).getD i none = its.getD i none := by rw [List.getD_eq_getElem?_getD, List.getElem?_append_left (by omega), ← List.getD_eq_getElem?_getD]
      rw [e, (hz i).1 hc]
      obtain ⟨h1, h2⟩ := h.1 i (by omega)
      exact ⟨h1, fun S q => ⟨(h2 S q).1, fun v hv => by rw [hs1 i v hc hv]; exact (h2 S q).2 v hv⟩⟩
  · rw [List.length_append] at hi
    simp only [List.length_cons, List.length_nil] at hi
    rw [(hz i).1 (by omega)]
    exact ⟨(h.2 i (by omega)).1, fun v hv => by rw [hs1 i v (by omega) hv]; exact (h.2 i (by omega)).2 v hv⟩
set_option maxHeartbeats 4000000 in
set_option maxRecDepth 100000 in
/-- Pattern(source, length) -/
theorem c_Pattern_init (l : Launch) (D : va_G) (kA : Nat → ClassId) (a o lim n : Nat) (bs : List Nat) (hn : n ≤ bs.length) (hbl : bs.length ≤ 1024) (sz0 : Nat) : Met l y_Pattern_init (Cond.code y_Pattern_init b_Pattern_init 5 none :: zTB) { frames := 5, cells := 3, slots := n * 4 + n + 3, locals := 109 } (zk_Pc D classes (zTY kA) [.ref a, .ref o, .int (nI n)] (fun H => H.size = sz0 ∧ va_P D classes [(a, .inr (2, [.null, .null, .int 0]))] H ∧ va_D (fun _ => True) [(a, .inr (2, [.null, .null, .int 0]))] ∧ BsAt D kA (fun q => ¬ (va_A [(a, .inr (2, [.null, .null, .int 0]))] sz0) q) H o lim bs)) (zk_mQ (fun v H => v = none ∧ ∃ sa za sf zf, va_P D classes [(a, .inr (2, [.ref sa, .ref za, .int (nI (rItems bs n 0).length)])), (sa, .inl (kA 1, n * 4, .inr (.inl sf))), (za, .inl (kA 2, n, .inl zf))] H ∧ va_D (va_A [(a, .inr (2, [.null, .null, .int 0]))] sz0) [(a, .inr (2, [.ref sa, .ref za, .int (nI (rItems bs n 0).length)])), (sa, .inl (kA 1, n * 4, .inr (.inl sf))), (za, .inl (kA 2, n, .inl zf))] ∧ PtRep n sf zf (rItems bs n 0)) (va_A [(a, .inr (2, [.null, .null, .int 0]))] sz0)) 3 (n * 4 + n + 3) (va_A [(a, .inr (2, [.null, .null, .int 0]))] sz0) := by
  refine zk_of [.ref a, .ref o, .int (nI n)] (by decide) (Nat.le_of_ble_eq_true rfl) ?_
  intro p e s m below meth c S hr hlk hnm hK hX hpre ls hl
  obtain ⟨hx, hb, hml, hown, ht⟩ := id S
  have hl : lv_has ls 5 [(0, .ref a), (1, .ref o), (2, .int (nI n))] := hl
  obtain ⟨hsz, hP, hD0, hO⟩ := hpre
  subst hsz
  have hD := hD0.self (sz := s.heap.size)
  generalize hAe : va_A [(a, .inr (2, [.null, .null, .int 0]))] s.heap.size = A at hD hO ⊢
  have hA : ∀ q : Nat, s.heap.size ≤ q → A q := fun q h => by rw [← hAe]; exact Or.inr h
  have hS : va_S A s.heap s.heap [] := va_S.rf
  have hP : va_P D classes [(a, .inr (2, [.null, .null, .int 0]))] s.heap := hP
  obtain ⟨ro, no, fo, hzo1, hzo2, hO1, hO2, hO3⟩ := id hO
  obtain ⟨g1, g2, g3, g4, g5⟩ := id hO3
  have hb256 : ∀ i, i < bs.length → bs.getD i 0 < 256 := fun i hi => (g5 i hi).1
  refine lv_aload_n hx hb d_Pattern_init_0 rfl (lv_at hl 0 rfl) ?_
  refine W.objInit hx hb hown (ht _ m_Pattern_3) (ht _ m_obj_i) (ht _ m_obj_c) rfl (by rw [hml]; exact hl.1) rfl d_Pattern_init_1 (Nat.le_of_ble_eq_true rfl) (Nat.le_of_ble_eq_true rfl) ?_
  refine W.eq (g2 := F0 m 4 ls []) rfl ?_
  refine lv_iconst (v := 0) hx hb d_Pattern_init_4 (by decide) ?_
  refine lv_iload_n hx hb d_Pattern_init_5 rfl (lv_at hl 2 rfl) ?_
  refine lv_aload_n hx hb d_Pattern_init_6 rfl (lv_at hl 1 rfl) ?_
  refine zk_pure (zk_runV (As := []) (rest := [.int (nI n), .int 0]) S m_Pattern_9 (c_Bytes_size l D kA (fun q => ¬ A q) o lim bs) rfl rfl ⟨Nat.le_of_ble_eq_true rfl, Nat.le_of_ble_eq_true rfl⟩ hK hX (zk_recv hK (zk_ro hS hO1 hzo1) rfl) (hO.ro hS) rfl hl.1 rfl (Nat.le_of_ble_eq_true rfl) ⟨Nat.zero_le _, Nat.zero_le _⟩ d_Pattern_init_7) ?_
  refine va_mmin hx hb (by rw [hml]; exact hl.1.symm) hown (ht _ m_Pattern_15) (ht _ m_min_s) (ht _ m_ini_Math) (ht _ m_min_c) (Nat.le_of_ble_eq_true rfl) (Nat.le_of_ble_eq_true rfl) (Nat.zero_le _) (Nat.zero_le _) d_Pattern_init_10 ?_
  refine zk_ti (z := nI n) (if_neg (nI_nlt hn (by omega))) ?_
  refine va_mmax hx hb (by rw [hml]; exact hl.1.symm) hown (ht _ m_Pattern_21) (ht _ m_max_s) (ht _ m_ini_Math) (ht _ m_max_c) (Nat.le_of_ble_eq_true rfl) (Nat.le_of_ble_eq_true rfl) (Nat.zero_le _) (Nat.zero_le _) d_Pattern_init_13 ?_
  refine zk_ti (z := nI n) (by
    by_cases q0 : n = 0
    · rw [q0]; rfl
    · exact if_pos (by rw [← nI_0]; exact nI_lt (by omega) (by omega))) ?_
  refine lv_istore_n (lv' := [(3, .int (nI n)), (0, .ref a), (1, .ref o), (2, .int (nI n))]) hx hb d_Pattern_init_16 rfl hl (by decide) rfl (fun ls hl => ?_)
  refine lv_aload_n hx hb d_Pattern_init_17 rfl (lv_at hl 1 rfl) ?_
  refine lv_iload_n hx hb d_Pattern_init_18 rfl (lv_at hl 0 rfl) ?_
  refine lv_iconst (v := 4) hx hb d_Pattern_init_19 (by decide) ?_
  refine lv_imul hx hb d_Pattern_init_20 ?_
  refine zk_ti (z := nI (n * 4)) (show nI n * nI 4 = _ from pk_mul n 4) ?_
  refine zk_newa (a0 := ((n * 4), .inr (.inl (fun _ => 0)))) (N' := (n * 4)) S m_arr_long rfl (fun _ h => by cases h) hK 1 rfl hP hD hS hA (fun _ => rfl) (nI_pos (by omega)) (nI_clamp (by omega)) (by show (n * 4) * 8 ≤ 536870912; omega) (Nat.le_of_ble_eq_true rfl) (by show 0 + n * 4 ≤ n * 4 + n + 3; omega) d_Pattern_init_21 (fun sa H hP hD hS => ?_)
  have hP : va_P D classes [(a, .inr (2, [.null, .null, .int 0])), (sa, .inl ((kA 1), (n * 4), .inr (.inl (fun _ => 0))))] H := hP
  have hD : va_D A [(a, .inr (2, [.null, .null, .int 0])), (sa, .inl ((kA 1), (n * 4), .inr (.inl (fun _ => 0))))] := hD
  refine va_putF (D := D) (ci := 2) (v := .ref sa) (ty := (.array .long)) (C := R_Pattern) (T := F_Pattern) (N := 3) hx hb ht i_Pattern t_Pattern t_Pattern_ok n_Pattern hown hK hP hD hS 0 rfl rfl 0 (by decide) (ht _ m_Pattern_26) (fun _ h9 => h9) rfl hnm rfl (by decide +kernel) rfl rfl (Nat.le_of_ble_eq_true rfl) d_Pattern_init_23 (fun H locs hP hD hS => ?_)
  have hP : va_P D classes [(a, .inr (2, [.ref sa, .null, .int 0])), (sa, .inl ((kA 1), (n * 4), .inr (.inl (fun _ => 0))))] H := hP
  have hD : va_D A [(a, .inr (2, [.ref sa, .null, .int 0])), (sa, .inl ((kA 1), (n * 4), .inr (.inl (fun _ => 0))))] := hD
  refine lv_aload_n hx hb d_Pattern_init_26 rfl (lv_at hl 1 rfl) ?_
  refine lv_iload_n hx hb d_Pattern_init_27 rfl (lv_at hl 0 rfl) ?_
  refine zk_newa (a0 := (n, .inl (fun _ => 0))) (N' := n) S m_arr_boolean rfl (fun _ h => by cases h) hK 2 rfl hP hD hS hA (fun _ => rfl) (nI_pos (by omega)) (nI_clamp (by omega)) (by show n * 1 ≤ 536870912; omega) (Nat.le_of_ble_eq_true rfl) (by show 0 + n * 4 + n ≤ n * 4 + n + 3; omega) d_Pattern_init_28 (fun za H hP hD hS => ?_)
  have hP : va_P D classes [(a, .inr (2, [.ref sa, .null, .int 0])), (sa, .inl ((kA 1), (n * 4), .inr (.inl (fun _ => 0)))), (za, .inl ((kA 2), n, .inl (fun _ => 0)))] H := hP
  have hD : va_D A [(a, .inr (2, [.ref sa, .null, .int 0])), (sa, .inl ((kA 1), (n * 4), .inr (.inl (fun _ => 0)))), (za, .inl ((kA 2), n, .inl (fun _ => 0)))] := hD
  refine va_putF (D := D) (ci := 2) (v := .ref za) (ty := (.array .boolean)) (C := R_Pattern) (T := F_Pattern) (N := 3) hx hb ht i_Pattern t_Pattern t_Pattern_ok n_Pattern hown hK hP hD hS 0 rfl rfl 1 (by decide) (ht _ m_Pattern_30) (fun _ h9 => h9) rfl hnm rfl (by decide +kernel) rfl rfl (Nat.le_of_ble_eq_true rfl) d_Pattern_init_30 (fun H locs hP hD hS => ?_)
  have hP : va_P D classes [(a, .inr (2, [.ref sa, .ref za, .int 0])), (sa, .inl ((kA 1), (n * 4), .inr (.inl (fun _ => 0)))), (za, .inl ((kA 2), n, .inl (fun _ => 0)))] H := hP
  have hD : va_D A [(a, .inr (2, [.ref sa, .ref za, .int 0])), (sa, .inl ((kA 1), (n * 4), .inr (.inl (fun _ => 0)))), (za, .inl ((kA 2), n, .inl (fun _ => 0)))] := hD
  refine va_new (ci := 3) (fs := [.null, .int 0, .int 0]) (C := R_Reader) (T := F_Reader) (N := 3) hx hb ht i_Reader t_Reader t_Reader_ok hown (ht _ m_Pattern_34) (ht _ m_inst_Reader) (ht _ m_ini_Reader) hK hP hD hS hA rfl (fun j hj => by rcases (show j = 0 ∨ j = 1 ∨ j = 2 by omega) with rfl | rfl | rfl <;> rfl) (Nat.le_of_ble_eq_true rfl) (by show 0 + n * 4 + n + 3 ≤ n * 4 + n + 3; omega) d_Pattern_init_33 (fun rd H hP hD hS => ?_)
  have hP : va_P D classes [(a, .inr (2, [.ref sa, .ref za, .int 0])), (sa, .inl ((kA 1), (n * 4), .inr (.inl (fun _ => 0)))), (za, .inl ((kA 2), n, .inl (fun _ => 0))), (rd, .inr (3, [.null, .int 0, .int 0]))] H := hP
  have hD : va_D A [(a, .inr (2, [.ref sa, .ref za, .int 0])), (sa, .inl ((kA 1), (n * 4), .inr (.inl (fun _ => 0)))), (za, .inl ((kA 2), n, .inl (fun _ => 0))), (rd, .inr (3, [.null, .int 0, .int 0]))] := hD
  refine lv_dup hx hb d_Pattern_init_36 rfl ?_
  refine lv_aload_n hx hb d_Pattern_init_37 rfl (lv_at hl 2 rfl) ?_
  refine lv_iload_n hx hb d_Pattern_init_38 rfl (lv_at hl 0 rfl) ?_
  have hFc := va_free (wc := [(rd, .inr (3, [.null, .int 0, .int 0]))]) hD hS hA [3] rfl
  refine zk_mut (zk_runI (As := [.ref o, .int (nI n)]) (rest := [.ref rd]) S m_Pattern_36 (c_Reader_init l D kA rd o n H.size) rfl rfl ⟨Nat.le_of_ble_eq_true rfl, Nat.le_of_ble_eq_true rfl⟩ hK hX ⟨rfl, hP.sub (ws' := [(rd, .inr (3, [.null, .int 0, .int 0]))]) [3] rfl, (hD.sub (ws' := [(rd, .inr (3, [.null, .int 0, .int 0]))]) [3] (by decide) rfl).weaken (fun _ _ _ _ => trivial)⟩ rfl hl.1 rfl (Nat.le_of_ble_eq_true rfl) ⟨Nat.le_of_ble_eq_true rfl, by show 0 + n * 4 + n + 3 + 0 ≤ n * 4 + n + 3; omega⟩ d_Pattern_init_39) hS hFc hFc (fun v H locs hpost hz1 hk1 hS => ?_)
  obtain ⟨rfl, hP1, hD1⟩ := hpost
  obtain ⟨hP, hD⟩ := va_join (wr := [(a, .inr (2, [.ref sa, .ref za, .int 0])), (sa, .inl ((kA 1), (n * 4), .inr (.inl (fun _ => 0)))), (za, .inl ((kA 2), n, .inl (fun _ => 0)))]) (w1 := [(rd, .inr (3, [.ref o, .int (nI n), .int (nI 0)]))]) hP hD [3] [0, 1, 2] rfl rfl (by decide) (by decide) hk1 hFc hP1 hD1
  refine W.eq (g2 := F0 m 42 ls [.ref rd]) rfl ?_
  have hP : va_P D classes [(a, .inr (2, [.ref sa, .ref za, .int 0])), (sa, .inl ((kA 1), (n * 4), .inr (.inl (fun _ => 0)))), (za, .inl ((kA 2), n, .inl (fun _ => 0))), (rd, .inr (3, [.ref o, .int (nI n), .int (nI 0)]))] H := hP
  have hD : va_D A [(a, .inr (2, [.ref sa, .ref za, .int 0])), (sa, .inl ((kA 1), (n * 4), .inr (.inl (fun _ => 0)))), (za, .inl ((kA 2), n, .inl (fun _ => 0))), (rd, .inr (3, [.ref o, .int (nI n), .int (nI 0)]))] := hD
  refine lv_astore (lv' := [(4, .ref rd), (3, .int (nI n)), (0, .ref a), (1, .ref o), (2, .int (nI n))]) hx hb d_Pattern_init_42 hl (by decide) rfl (fun ls hl => ?_)
  refine lv_aload_n hx hb d_Pattern_init_44 rfl (lv_at hl 2 rfl) ?_
  refine lv_iconst (v := 0) hx hb d_Pattern_init_45 (by decide) ?_
  refine zk_ti (z := nI 0) (rfl) ?_
  refine va_put (D := D) (ci := 2) (v := .int (nI 0)) (ty := .int) (C := R_Pattern) (T := F_Pattern) (N := 3) hx hb ht i_Pattern t_Pattern t_Pattern_ok n_Pattern hown hK hP hD hS 0 rfl rfl 2 (by decide) (ht _ m_Pattern_39) (fun _ h9 => h9) rfl (by decide +kernel) rfl rfl (Nat.le_of_ble_eq_true rfl) d_Pattern_init_46 (fun H locs hP hD hS => ?_)
  have hP : va_P D classes [(a, .inr (2, [.ref sa, .ref za, .int (nI 0)])), (sa, .inl ((kA 1), (n * 4), .inr (.inl (fun _ => 0)))), (za, .inl ((kA 2), n, .inl (fun _ => 0))), (rd, .inr (3, [.ref o, .int (nI n), .int (nI 0)]))] H := hP
  have hD : va_D A [(a, .inr (2, [.ref sa, .ref za, .int (nI 0)])), (sa, .inl ((kA 1), (n * 4), .inr (.inl (fun _ => 0)))), (za, .inl ((kA 2), n, .inl (fun _ => 0))), (rd, .inr (3, [.ref o, .int (nI n), .int (nI 0)]))] := hD
  have lp : ∀ (fu : Nat) (k q : Nat) (s1 : Nat → Int64) (z1 : Nat → Int32) (its : List pItem), n + 3 - q < fu → k ≤ q → q ≤ n + 2 → (rItems bs n 0) = its ++ rItems bs n q → its.length = k → PtInv its s1 z1 → ∀ (H : Heap) (locs : List Loc), va_P D classes [(a, .inr (2, [.ref sa, .ref za, .int (nI k)])), (sa, .inl ((kA 1), (n * 4), .inr (.inl s1))), (za, .inl ((kA 2), n, .inl z1)), (rd, .inr (3, [.ref o, .int (nI n), .int (nI q)]))] H → va_D A [(a, .inr (2, [.ref sa, .ref za, .int (nI k)])), (sa, .inl ((kA 1), (n * 4), .inr (.inl s1))), (za, .inl ((kA 2), n, .inl z1)), (rd, .inr (3, [.ref o, .int (nI n), .int (nI q)]))] → va_S A s.heap H locs → ∀ ls : Array Slot, lv_has ls 5 [(0, .ref a), (3, .int (nI n)), (4, .ref rd)] → W p l e { frames := 5, cells := 3, slots := n * 4 + n + 3, locals := 109 } s m [.ref a, .ref o, .int (nI n)].toArray below meth c H locs 3 (n * 4 + n + 3) (MQ below (zk_mQ (fun v H => v = none ∧ ∃ sa za sf zf, va_P D classes [(a, .inr (2, [.ref sa, .ref za, .int (nI (rItems bs n 0).length)])), (sa, .inl (kA 1, n * 4, .inr (.inl sf))), (za, .inl (kA 2, n, .inl zf))] H ∧ va_D A [(a, .inr (2, [.ref sa, .ref za, .int (nI (rItems bs n 0).length)])), (sa, .inl (kA 1, n * 4, .inr (.inl sf))), (za, .inl (kA 2, n, .inl zf))] ∧ PtRep n sf zf (rItems bs n 0)) A) [.ref a, .ref o, .int (nI n)].toArray s 3 (n * 4 + n + 3) A) (F0 m 49 ls []) := by
    intro fu
    induction fu with
    | zero => intro k q s1 z1 its hfu; exact absurd hfu (Nat.not_lt_zero _)
    | succ fu ih =>
      intro k q s1 z1 its hfu hkq hq hits hlen1 hinv H locs hP hD hS ls hl
      refine lv_aload_n hx hb d_Pattern_init_49 rfl (lv_at hl 0 rfl) ?_
      refine zk_get (C := R_Pattern) (T := F_Pattern) (N := 3) S hK (hP 0 _ rfl) rfl i_Pattern 2 (by decide) m_Pattern_39 rfl rfl d_Pattern_init_50 ?_
      refine lv_iload_n hx hb d_Pattern_init_53 rfl (lv_at hl 1 rfl) ?_
      refine lv_icmp_ge (tgt := 86) hx hb d_Pattern_init_54 (by decide) (fun c54 => ?_) (fun c54 => ?_)
      · have hnp : n ≤ q := by
          have := (nI_leI (by omega) (by omega)).mp c54
          omega
        rw [rItems_end hnp, List.append_nil] at hits
        have hlen : (rItems bs n 0).length = k := by rw [hits]; exact hlen1
        have hil := rItems_len bs n n 0 (by omega)
        exact zk_vret S hr hlk hS ⟨rfl, sa, za, s1, z1, by rw [hlen]; exact hP.sub [0, 1, 2] rfl, by rw [hlen]; exact hD.sub [0, 1, 2] (by decide) rfl, by omega, by omega, by rw [hits]; exact hinv.1⟩ (Nat.le_refl _) (Nat.le_refl _) d_Pattern_init_86
      · have hkn : k < n := Nat.not_le.mp fun z => c54 (nI_le z (by omega))
        refine lv_aload hx hb d_Pattern_init_57 (lv_at hl 2 rfl) ?_
        refine lv_iconst (v := 0) hx hb d_Pattern_init_59 (by decide) ?_
        refine zk_ti (z := nI 0) (rfl) ?_
        refine zk_pure (zk_runV (As := [.int (nI 0)]) (rest := []) S m_Pattern_43 (c_Reader_ahead l D kA (fun q => ¬ A q) rd o lim n q 0 bs hn (by omega) (by omega)) rfl rfl ⟨Nat.le_of_ble_eq_true rfl, Nat.le_of_ble_eq_true rfl⟩ hK hX (zk_recv hK (hP 3 _ rfl) rfl) (⟨(hP 3 _ rfl), hO.ro hS⟩) rfl hl.1 rfl (Nat.le_of_ble_eq_true rfl) ⟨Nat.le_refl _, Nat.le_refl _⟩ d_Pattern_init_60) ?_
        refine lv_iconst (v := (-1)) hx hb d_Pattern_init_63 (by decide) ?_
        refine lv_icmp_eq (tgt := 86) hx hb d_Pattern_init_64 (by decide) (fun c64 => ?_) (fun c64 => ?_)
        · have hnp : n ≤ q := Nat.not_lt.mp fun z => zNe1 (by have := hb256 q (by omega); omega) ((zAh_in z).symm.trans c64)
          rw [rItems_end hnp, List.append_nil] at hits
          have hlen : (rItems bs n 0).length = k := by rw [hits]; exact hlen1
          have hil := rItems_len bs n n 0 (by omega)
          exact zk_vret S hr hlk hS ⟨rfl, sa, za, s1, z1, by rw [hlen]; exact hP.sub [0, 1, 2] rfl, by rw [hlen]; exact hD.sub [0, 1, 2] (by decide) rfl, by omega, by omega, by rw [hits]; exact hinv.1⟩ (Nat.le_refl _) (Nat.le_refl _) d_Pattern_init_86
        · have hqn : q < n := Nat.not_le.mp fun z => c64 (zAh_out z)
          have hgt := rItem_gt bs n q
          have hle := rItem_le bs n q hqn
          refine lv_aload_n hx hb d_Pattern_init_67 rfl (lv_at hl 0 rfl) ?_
          refine lv_aload hx hb d_Pattern_init_68 (lv_at hl 2 rfl) ?_
          have hFc := va_free (wc := [(a, .inr (2, [.ref sa, .ref za, .int (nI k)])), (sa, .inl ((kA 1), (n * 4), .inr (.inl s1))), (za, .inl ((kA 2), n, .inl z1)), (rd, .inr (3, [.ref o, .int (nI n), .int (nI q)]))]) hD hS hA [0, 1, 2, 3] rfl
          refine zk_mut (zk_runV (As := [.ref rd]) (rest := []) S m_Pattern_47 (c_Pattern_readItem l D kA a sa za n k rd o lim n q s1 z1 bs hkn (by omega) (Nat.le_refl _) hn hqn H.size) rfl rfl ⟨Nat.le_of_ble_eq_true rfl, Nat.le_of_ble_eq_true rfl⟩ hK hX (zk_recv hK (hP 0 _ rfl) rfl) ⟨rfl, hP.sub (ws' := [(a, .inr (2, [.ref sa, .ref za, .int (nI k)])), (sa, .inl ((kA 1), (n * 4), .inr (.inl s1))), (za, .inl ((kA 2), n, .inl z1)), (rd, .inr (3, [.ref o, .int (nI n), .int (nI q)]))]) [0, 1, 2, 3] rfl, (hD.sub (ws' := [(a, .inr (2, [.ref sa, .ref za, .int (nI k)])), (sa, .inl ((kA 1), (n * 4), .inr (.inl s1))), (za, .inl ((kA 2), n, .inl z1)), (rd, .inr (3, [.ref o, .int (nI n), .int (nI q)]))]) [0, 1, 2, 3] (by decide) rfl).weaken (fun _ _ _ _ => trivial), ((hO.ro hS).weaken (fun q hq hz => hq (hFc q hz)))⟩ rfl hl.1 rfl (Nat.le_of_ble_eq_true rfl) ⟨Nat.le_refl _, Nat.le_refl _⟩ d_Pattern_init_70) hS hFc hFc (fun v H locs hpost hz1 hk1 hS => ?_)
          obtain ⟨rfl, s2, z2, hP1, hD1, hzz, hss⟩ := hpost
          obtain ⟨hP, hD⟩ := va_join (wr := []) (w1 := [(a, .inr (2, [.ref sa, .ref za, .int (nI k)])), (sa, .inl ((kA 1), (n * 4), .inr (.inl s2))), (za, .inl ((kA 2), n, .inl z2)), (rd, .inr (3, [.ref o, .int (nI n), .int (nI ((rItem bs n q).2))]))]) hP hD [0, 1, 2, 3] [] rfl rfl (by decide) (by decide) hk1 hFc hP1 hD1
          refine W.eq (g2 := F0 m 73 ls []) rfl ?_
          have hP : va_P D classes [(a, .inr (2, [.ref sa, .ref za, .int (nI k)])), (sa, .inl ((kA 1), (n * 4), .inr (.inl s2))), (za, .inl ((kA 2), n, .inl z2)), (rd, .inr (3, [.ref o, .int (nI n), .int (nI ((rItem bs n q).2))]))] H := hP
          have hD : va_D A [(a, .inr (2, [.ref sa, .ref za, .int (nI k)])), (sa, .inl ((kA 1), (n * 4), .inr (.inl s2))), (za, .inl ((kA 2), n, .inl z2)), (rd, .inr (3, [.ref o, .int (nI n), .int (nI ((rItem bs n q).2))]))] := hD
          refine lv_aload_n hx hb d_Pattern_init_73 rfl (lv_at hl 0 rfl) ?_
          refine lv_dup hx hb d_Pattern_init_74 rfl ?_
          refine zk_get (C := R_Pattern) (T := F_Pattern) (N := 3) S hK (hP 0 _ rfl) rfl i_Pattern 2 (by decide) m_Pattern_39 rfl rfl d_Pattern_init_75 ?_
          refine lv_iconst (v := 1) hx hb d_Pattern_init_78 (by decide) ?_
          refine lv_iadd hx hb d_Pattern_init_79 ?_
          refine zk_ti (z := nI (k + 1)) (nI_1 k) ?_
          refine va_put (D := D) (ci := 2) (v := .int (nI (k + 1))) (ty := .int) (C := R_Pattern) (T := F_Pattern) (N := 3) hx hb ht i_Pattern t_Pattern t_Pattern_ok n_Pattern hown hK hP hD hS 0 rfl rfl 2 (by decide) (ht _ m_Pattern_39) (fun _ h9 => h9) rfl (by decide +kernel) rfl rfl (Nat.le_of_ble_eq_true rfl) d_Pattern_init_80 (fun H locs hP hD hS => ?_)
          have hP : va_P D classes [(a, .inr (2, [.ref sa, .ref za, .int (nI (k + 1))])), (sa, .inl ((kA 1), (n * 4), .inr (.inl s2))), (za, .inl ((kA 2), n, .inl z2)), (rd, .inr (3, [.ref o, .int (nI n), .int (nI ((rItem bs n q).2))]))] H := hP
          have hD : va_D A [(a, .inr (2, [.ref sa, .ref za, .int (nI (k + 1))])), (sa, .inl ((kA 1), (n * 4), .inr (.inl s2))), (za, .inl ((kA 2), n, .inl z2)), (rd, .inr (3, [.ref o, .int (nI n), .int (nI ((rItem bs n q).2))]))] := hD
          refine lv_goto (tgt := 49) hx hb d_Pattern_init_83 (by decide) ?_
          exact ih (k + 1) (rItem bs n q).2 s2 z2 (its ++ [(rItem bs n q).1]) (by omega) (by omega) (by omega) (by rw [hits, rItems_step hqn, List.append_assoc]; rfl) (by rw [List.length_append]; simp [hlen1]) (PtInv_snoc hinv (by rw [hlen1]; exact hzz) (by rw [hlen1]; exact hss)) _ _ (hP.sub [0, 1, 2, 3] rfl) (hD.sub [0, 1, 2, 3] (by decide) rfl) hS ls (lv_sub hl [0, 1, 2] rfl)
  refine W.widen (k := 3) (n := (n * 4 + n + 3)) (by decide) (by omega) ?_
  exact lp (n + 4) 0 0 (fun _ => 0) (fun _ => 0) [] (by omega) (Nat.le_refl _) (by omega) rfl rfl ⟨fun i hi => absurd hi (Nat.not_lt_zero i), fun i _ => ⟨rfl, fun v _ => zSb_0⟩⟩ _ _ (hP.sub [0, 1, 2, 3] rfl) (hD.sub [0, 1, 2, 3] (by decide) rfl) hS ls (lv_sub hl [2, 1, 0] rfl)
end
section
theorem zCapN_add {lim n sz : Nat} : ∀ (k i : Nat), zCapN lim n sz (i + k) = zCapN lim (zCapN lim n sz i) (sz + i) k := by
  intro k
  induction k with
  | zero => intro i; rfl
  | succ k ih =>
    intro i
    show zCap lim (zCapN lim n sz (i + k)) (sz + (i + k)) = zCap lim (zCapN lim (zCapN lim n sz i) (sz + i) k) (sz + i + k)
    rw [ih i, Nat.add_assoc]
/-- a thing on the transcript: its kind, its bytes, a newline or none -/
def zThing (kd : Nat) (os : List Nat) (nl : Bool) : List Nat := kd :: (os ++ if nl then [10] else [])
def zTell (trs : List Nat) (th : List Nat) : List Nat := if trs.length + th.length ≤ 32768 then trs ++ th else trs
def zTellN (n : Nat) (trs th : List Nat) : Nat := if trs.length + th.length ≤ 32768 then zCapN 32768 n trs.length th.length else n
set_option maxHeartbeats 4000000 in
set_option maxRecDepth 100000 in
/-- PeerLine.isState(n) -/
theorem c_Peer_isState (l : Launch) (D : va_G) (kA : Nat → ClassId) (x : Int32) : Met l y_Peer_isState (Cond.code y_Peer_isState b_Peer_isState 1 (some .boolean) :: zTB) { frames := 0, cells := 0, slots := 0, locals := 0 } (zk_Pc D classes (zTY kA) [.int x] (fun H => True)) (zk_pE (fun v => (∃ k, k ≤ 31 ∧ x = nI k ∧ v = .int 1) ∨ ((∀ k, k ≤ 31 → x ≠ nI k) ∧ v = .int 0))) 0 0 zk_no := by
  refine zk_of [.int x] (by decide) (Nat.le_of_ble_eq_true rfl) ?_
  intro p e s m below meth c S hr hlk hnm hK hX hpre ls hl
  obtain ⟨hx, hb, hml, hown, ht⟩ := id S
  have hl : lv_has ls 1 [(0, .int x)] := hl
  refine lv_iload_n hx hb d_Peer_isState_0 rfl (lv_at hl 0 rfl) ?_
  refine lv_if_lt (tgt := 14) hx hb d_Peer_isState_1 (by decide) (fun c1 => ?_) (fun c1 => ?_)
  · refine lv_iconst (v := 0) hx hb d_Peer_isState_14 (by decide) ?_
    exact zk_retzE S hr (by decide) hlk (Or.inr ⟨fun k hk q => absurd c1 (by rw [q]; exact nI_pos (by omega)), rfl⟩) d_Peer_isState_15
  · refine lv_iload_n hx hb d_Peer_isState_4 rfl (lv_at hl 0 rfl) ?_
    refine lv_bipush (v := 31) hx hb d_Peer_isState_5 (by decide) ?_
    refine lv_icmp_gt (tgt := 14) hx hb d_Peer_isState_7 (by decide) (fun c7 => ?_) (fun c7 => ?_)
    · refine lv_iconst (v := 0) hx hb d_Peer_isState_14 (by decide) ?_
      exact zk_retzE S hr (by decide) hlk (Or.inr ⟨fun k hk q => absurd c7 (by rw [q]; exact nI_nlt (a := 31) (show k ≤ 31 from hk) (by omega)), rfl⟩) d_Peer_isState_15
    · refine lv_iconst (v := 1) hx hb d_Peer_isState_10 (by decide) ?_
      refine lv_goto (tgt := 15) hx hb d_Peer_isState_11 (by decide) ?_
      obtain ⟨k, hk, ex⟩ := nI_of2 (n := 31) (M := 31) (by decide) c1 (Int32.not_lt.mp c7)
      exact zk_retzE S hr (by decide) hlk (Or.inl ⟨k, hk, ex, rfl⟩) d_Peer_isState_15

set_option maxHeartbeats 4000000 in
set_option maxRecDepth 100000 in
/-- PeerLine.tapeIsRule(zeroAt) -/
theorem c_Peer_tapeIsRule (l : Launch) (D : va_G) (kA : Nat → ClassId) (Z : Nat → Prop) (x tp ln bf tr ru co : Nat) (rc hp st : Int32) (tm : Int64) (lim : Nat) (bs : List Nat) (zz : Option Nat) (hzz : ∀ k, zz = some k → k < bs.length) : Met l y_Peer_tapeIsRule (Cond.code y_Peer_tapeIsRule b_Peer_tapeIsRule 2 (some .boolean) :: zTB) { frames := 1, cells := 0, slots := 0, locals := 20 } (zk_Pc D classes (zTY kA) [.ref x, .int (zI zz)] (fun H => va_at D classes (x, .inr (5, [.ref tp, .ref ln, .ref bf, .ref tr, .ref ru, .ref co, .int rc, .int hp, .int st, .long tm])) H ∧ BsAt D kA Z H tp lim bs)) (zk_pE (fun v => (∃ k, zz = some k ∧ k ≤ 200 ∧ bs.length - k - 1 ≤ 200 ∧ v = .int 1) ∨ ((∀ k, zz = some k → ¬ (k ≤ 200 ∧ bs.length - k - 1 ≤ 200)) ∧ v = .int 0))) 0 0 zk_no := by
  refine zk_of [.ref x, .int (zI zz)] (by decide) (Nat.le_of_ble_eq_true rfl) ?_
  intro p e s m below meth c S hr hlk hnm hK hX hpre ls hl
  obtain ⟨hx, hb, hml, hown, ht⟩ := id S
  obtain ⟨hx0, hO⟩ := hpre
  obtain ⟨ro, no, fo, hzo1, hzo2, hO1, hO2, hO3⟩ := id hO
  obtain ⟨g1, g2, g3, g4, g5⟩ := id hO3
  have hl : lv_has ls 2 [(0, .ref x), (1, .int (zI zz))] := hl
  rcases zz with _ | k
  · have hl : lv_has ls 2 [(0, .ref x), (1, .int (-1))] := hl
    refine lv_iload_n hx hb d_Peer_tapeIsRule_0 rfl (lv_at hl 1 rfl) ?_
    refine lv_if_lt (tgt := 32) hx hb d_Peer_tapeIsRule_1 (by decide) (fun c1 => ?_) (fun c1 => ?_)
    · refine lv_iconst (v := 0) hx hb d_Peer_tapeIsRule_32 (by decide) ?_
      exact zk_retzE S hr (by decide) hlk (Or.inr ⟨fun k hk => (by cases hk), rfl⟩) d_Peer_tapeIsRule_33
    · exact absurd (show (-1 : Int32) < 0 by decide) c1
  · have hl : lv_has ls 2 [(0, .ref x), (1, .int (nI k))] := hl
    have hkl := hzz k rfl
    refine lv_iload_n hx hb d_Peer_tapeIsRule_0 rfl (lv_at hl 1 rfl) ?_
    refine lv_if_lt (tgt := 32) hx hb d_Peer_tapeIsRule_1 (by decide) (fun c1 => ?_) (fun c1 => ?_)
    · exact absurd c1 (nI_pos (by omega))
    · refine lv_iload_n hx hb d_Peer_tapeIsRule_4 rfl (lv_at hl 1 rfl) ?_
      refine lv_sipush (v := 200) hx hb d_Peer_tapeIsRule_5 (by decide) ?_
      refine lv_icmp_gt (tgt := 32) hx hb d_Peer_tapeIsRule_8 (by decide) (fun c8 => ?_) (fun c8 => ?_)
      · refine lv_iconst (v := 0) hx hb d_Peer_tapeIsRule_32 (by decide) ?_
        exact zk_retzE S hr (by decide) hlk (Or.inr ⟨fun k2 hk q => (by cases hk; exact absurd c8 (nI_nlt (a := 200) (show k ≤ 200 from q.1) (by omega))), rfl⟩) d_Peer_tapeIsRule_33
      · refine lv_aload_n hx hb d_Peer_tapeIsRule_11 rfl (lv_at hl 0 rfl) ?_
        refine zk_get (C := R_Peer) (T := F_Peer) (N := 10) S hK hx0 rfl i_Peer 0 (by decide) m_Peer_14 rfl rfl d_Peer_tapeIsRule_12 ?_
        refine zk_pure (zk_runV (As := []) (rest := []) S m_Peer_121 (c_Bytes_size l D kA Z tp lim bs) rfl rfl ⟨Nat.le_of_ble_eq_true rfl, Nat.le_of_ble_eq_true rfl⟩ hK hX (zk_recv hK hO1 rfl) (hO) rfl hl.1 rfl (Nat.le_of_ble_eq_true rfl) ⟨Nat.le_of_ble_eq_true rfl, Nat.le_of_ble_eq_true rfl⟩ d_Peer_tapeIsRule_15) ?_
        refine lv_iload_n hx hb d_Peer_tapeIsRule_18 rfl (lv_at hl 1 rfl) ?_
        refine lv_isub hx hb d_Peer_tapeIsRule_19 ?_
        refine zk_ti (z := nI (bs.length - k)) (pk_sub (by omega)) ?_
        refine lv_iconst (v := 1) hx hb d_Peer_tapeIsRule_20 (by decide) ?_
        refine lv_isub hx hb d_Peer_tapeIsRule_21 ?_
        refine zk_ti (z := nI (bs.length - k - 1)) (by rw [show (1 : Int32) = nI 1 from rfl]; exact pk_sub (by omega)) ?_
        refine lv_sipush (v := 200) hx hb d_Peer_tapeIsRule_22 (by decide) ?_
        refine lv_icmp_gt (tgt := 32) hx hb d_Peer_tapeIsRule_25 (by decide) (fun c25 => ?_) (fun c25 => ?_)
        · refine lv_iconst (v := 0) hx hb d_Peer_tapeIsRule_32 (by decide) ?_
          exact zk_retzE S hr (by decide) hlk (Or.inr ⟨fun k2 hk q => (by cases hk; exact absurd c25 (nI_nlt (a := 200) (show bs.length - k - 1 ≤ 200 from q.2) (by omega))), rfl⟩) d_Peer_tapeIsRule_33
        · refine lv_iconst (v := 1) hx hb d_Peer_tapeIsRule_28 (by decide) ?_
          refine lv_goto (tgt := 33) hx hb d_Peer_tapeIsRule_29 (by decide) ?_
          exact zk_retzE S hr (by decide) hlk (Or.inl ⟨k, rfl, Nat.not_lt.mp fun z => c8 (show nI 200 < nI k from nI_lt z (by omega)), Nat.not_lt.mp fun z => c25 (show nI 200 < nI (bs.length - k - 1) from nI_lt z (by omega)), rfl⟩) d_Peer_tapeIsRule_33

set_option maxHeartbeats 4000000 in
set_option maxRecDepth 100000 in
/-- PeerLine.bufferAt(i) -/
theorem c_Peer_bufferAt (l : Launch) (D : va_G) (kA : Nat → ClassId) (Z : Nat → Prop) (x tp ln bf tr ru co : Nat) (rc hp st : Int32) (tm : Int64) (lim : Nat) (bs : List Nat) (i : Int32) : Met l y_Peer_bufferAt (Cond.code y_Peer_bufferAt b_Peer_bufferAt 2 (some .int) :: zTB) { frames := 1, cells := 0, slots := 0, locals := 21 } (zk_Pc D classes (zTY kA) [.ref x, .int i] (fun H => va_at D classes (x, .inr (5, [.ref tp, .ref ln, .ref bf, .ref tr, .ref ru, .ref co, .int rc, .int hp, .int st, .long tm])) H ∧ BsAt D kA Z H bf lim bs)) (zk_pQ (some (Value.int (bAt bs i)))) 0 0 zk_no := by
  refine zk_of [.ref x, .int i] (by decide) (Nat.le_of_ble_eq_true rfl) ?_
  intro p e s m below meth c S hr hlk hnm hK hX hpre ls hl
  obtain ⟨hx, hb, hml, hown, ht⟩ := id S
  obtain ⟨hx0, hO⟩ := hpre
  obtain ⟨ro, no, fo, hzo1, hzo2, hO1, hO2, hO3⟩ := id hO
  have hl : lv_has ls 2 [(0, .ref x), (1, .int i)] := hl
  refine lv_aload_n hx hb d_Peer_bufferAt_0 rfl (lv_at hl 0 rfl) ?_
  refine zk_get (C := R_Peer) (T := F_Peer) (N := 10) S hK hx0 rfl i_Peer 2 (by decide) m_Peer_21 rfl rfl d_Peer_bufferAt_1 ?_
  refine lv_iload_n hx hb d_Peer_bufferAt_4 rfl (lv_at hl 1 rfl) ?_
  refine zk_pure (zk_runV (As := [.int i]) (rest := []) S m_Peer_143 (c_Bytes_at l D kA Z bf lim bs i) rfl rfl ⟨Nat.le_of_ble_eq_true rfl, Nat.le_of_ble_eq_true rfl⟩ hK hX (zk_recv hK hO1 rfl) (hO) rfl hl.1 rfl (Nat.le_of_ble_eq_true rfl) ⟨Nat.le_of_ble_eq_true rfl, Nat.le_of_ble_eq_true rfl⟩ d_Peer_bufferAt_5) ?_
  exact zk_reti S hr hlk d_Peer_bufferAt_8

set_option maxHeartbeats 4000000 in
set_option maxRecDepth 100000 in
/-- PeerLine.toldAt(i) -/
theorem c_Peer_toldAt (l : Launch) (D : va_G) (kA : Nat → ClassId) (Z : Nat → Prop) (x tp ln bf tr ru co : Nat) (rc hp st : Int32) (tm : Int64) (lim : Nat) (bs : List Nat) (i : Int32) : Met l y_Peer_toldAt (Cond.code y_Peer_toldAt b_Peer_toldAt 2 (some .int) :: zTB) { frames := 1, cells := 0, slots := 0, locals := 21 } (zk_Pc D classes (zTY kA) [.ref x, .int i] (fun H => va_at D classes (x, .inr (5, [.ref tp, .ref ln, .ref bf, .ref tr, .ref ru, .ref co, .int rc, .int hp, .int st, .long tm])) H ∧ BsAt D kA Z H tr lim bs)) (zk_pQ (some (Value.int (bAt bs i)))) 0 0 zk_no := by
  refine zk_of [.ref x, .int i] (by decide) (Nat.le_of_ble_eq_true rfl) ?_
  intro p e s m below meth c S hr hlk hnm hK hX hpre ls hl
  obtain ⟨hx, hb, hml, hown, ht⟩ := id S
  obtain ⟨hx0, hO⟩ := hpre
  obtain ⟨ro, no, fo, hzo1, hzo2, hO1, hO2, hO3⟩ := id hO
  have hl : lv_has ls 2 [(0, .ref x), (1, .int i)] := hl
  refine lv_aload_n hx hb d_Peer_toldAt_0 rfl (lv_at hl 0 rfl) ?_
  refine zk_get (C := R_Peer) (T := F_Peer) (N := 10) S hK hx0 rfl i_Peer 3 (by decide) m_Peer_25 rfl rfl d_Peer_toldAt_1 ?_
  refine lv_iload_n hx hb d_Peer_toldAt_4 rfl (lv_at hl 1 rfl) ?_
  refine zk_pure (zk_runV (As := [.int i]) (rest := []) S m_Peer_143 (c_Bytes_at l D kA Z tr lim bs i) rfl rfl ⟨Nat.le_of_ble_eq_true rfl, Nat.le_of_ble_eq_true rfl⟩ hK hX (zk_recv hK hO1 rfl) (hO) rfl hl.1 rfl (Nat.le_of_ble_eq_true rfl) ⟨Nat.le_of_ble_eq_true rfl, Nat.le_of_ble_eq_true rfl⟩ d_Peer_toldAt_5) ?_
  exact zk_reti S hr hlk d_Peer_toldAt_8

set_option maxHeartbeats 4000000 in
set_option maxRecDepth 100000 in
/-- PeerLine.end(n) -/
theorem c_Peer_end (l : Launch) (D : va_G) (kA : Nat → ClassId) (x tp ln bf tr ru co : Nat) (rc hp st : Int32) (tm : Int64) (r lim n : Nat) (f : Nat → Int32) (bs : List Nat) (i : Int32) (sz0 : Nat) : Met l y_Peer_end (Cond.code y_Peer_end b_Peer_end 2 (some .boolean) :: zTB) { frames := 1, cells := 0, slots := 0, locals := 21 } (zk_Pc D classes (zTY kA) [.ref x, .int i] (fun H => H.size = sz0 ∧ va_P D classes [(tp, .inr (0, [.int (nI lim), .ref r, .int (nI bs.length)])), (r, .inl ((kA 0), n, .inl f))] H ∧ va_D (fun _ => True) [(tp, .inr (0, [.int (nI lim), .ref r, .int (nI bs.length)])), (r, .inl ((kA 0), n, .inl f))] ∧ va_at D classes (x, .inr (5, [.ref tp, .ref ln, .ref bf, .ref tr, .ref ru, .ref co, .int rc, .int hp, .int st, .long tm])) H ∧ ¬ (va_A [(tp, .inr (0, [.int (nI lim), .ref r, .int (nI bs.length)])), (r, .inl ((kA 0), n, .inl f))] sz0) x ∧ zBs lim n f bs)) (zk_mQ (fun v H => (∃ k, i = nI k ∧ k ≤ bs.length ∧ v = some (.int 1) ∧ BsPost D kA (va_A [(tp, .inr (0, [.int (nI lim), .ref r, .int (nI bs.length)])), (r, .inl ((kA 0), n, .inl f))] sz0) H tp lim n (bs.take k)) ∨ ((∀ k, k ≤ bs.length → i ≠ nI k) ∧ v = some (.int 0) ∧ BsPost D kA (va_A [(tp, .inr (0, [.int (nI lim), .ref r, .int (nI bs.length)])), (r, .inl ((kA 0), n, .inl f))] sz0) H tp lim n bs)) (va_A [(tp, .inr (0, [.int (nI lim), .ref r, .int (nI bs.length)])), (r, .inl ((kA 0), n, .inl f))] sz0)) 0 0 (va_A [(tp, .inr (0, [.int (nI lim), .ref r, .int (nI bs.length)])), (r, .inl ((kA 0), n, .inl f))] sz0) := by
  refine zk_of [.ref x, .int i] (by decide) (Nat.le_of_ble_eq_true rfl) ?_
  intro p e s m below meth c S hr hlk hnm hK hX hpre ls hl
  obtain ⟨hx, hb, hml, hown, ht⟩ := id S
  have hl : lv_has ls 2 [(0, .ref x), (1, .int i)] := hl
  obtain ⟨hsz, hP, hD0, hx0, hxA, hbs⟩ := hpre
  subst hsz
  have hD := hD0.self (sz := s.heap.size)
  generalize hAe : va_A [(tp, .inr (0, [.int (nI lim), .ref r, .int (nI bs.length)])), (r, .inl ((kA 0), n, .inl f))] s.heap.size = A at hD hxA ⊢
  have hA : ∀ q : Nat, s.heap.size ≤ q → A q := fun q h => by rw [← hAe]; exact Or.inr h
  have hS : va_S A s.heap s.heap [] := va_S.rf
  have hP : va_P D classes [(tp, .inr (0, [.int (nI lim), .ref r, .int (nI bs.length)])), (r, .inl ((kA 0), n, .inl f))] s.heap := hP
  refine lv_aload_n hx hb d_Peer_end_0 rfl (lv_at hl 0 rfl) ?_
  refine zk_get (C := R_Peer) (T := F_Peer) (N := 10) S hK (zk_ro hS hx0 hxA) rfl i_Peer 0 (by decide) m_Peer_14 rfl rfl d_Peer_end_1 ?_
  refine lv_iload_n hx hb d_Peer_end_4 rfl (lv_at hl 1 rfl) ?_
  have hFc := va_free (wc := [(tp, .inr (0, [.int (nI lim), .ref r, .int (nI bs.length)])), (r, .inl ((kA 0), n, .inl f))]) hD hS hA [0, 1] rfl
  refine zk_mut (zk_runV (As := [.int i]) (rest := []) S m_Peer_63 (c_Bytes_keepFirst l D kA tp r lim n f bs i s.heap.size) rfl rfl ⟨Nat.le_of_ble_eq_true rfl, Nat.le_of_ble_eq_true rfl⟩ hK hX (zk_recv hK (hP 0 _ rfl) rfl) ⟨rfl, hP, hD.weaken (fun _ _ _ _ => trivial), hbs⟩ rfl hl.1 rfl (Nat.le_of_ble_eq_true rfl) ⟨Nat.le_of_ble_eq_true rfl, Nat.le_of_ble_eq_true rfl⟩ d_Peer_end_5) hS hFc hFc (fun v H locs hpost hz1 hk1 hS => ?_)
  rcases hpost with ⟨k, hk1, hk2, rfl, r1, f1, hP1, hD1, hb1⟩ | ⟨hk1, rfl, r1, f1, hP1, hD1, hb1⟩
  · have hD2 := va_D.weaken hD1 (fun _ q _ hq => hFc q.1 hq)
    refine W.eq (g2 := F0 m 8 ls [.int 1]) rfl ?_
    exact zk_zret S hr (by decide) hlk hS (Or.inl ⟨k, hk1, hk2, rfl, r1, f1, hP1, hD2, hb1⟩) (Nat.le_refl _) (Nat.le_refl _) d_Peer_end_8
  · have hD2 := va_D.weaken hD1 (fun _ q _ hq => hFc q.1 hq)
    refine W.eq (g2 := F0 m 8 ls [.int 0]) rfl ?_
    exact zk_zret S hr (by decide) hlk hS (Or.inr ⟨hk1, rfl, r1, f1, hP1, hD2, hb1⟩) (Nat.le_refl _) (Nat.le_refl _) d_Peer_end_8

set_option maxHeartbeats 4000000 in
set_option maxRecDepth 100000 in
/-- PeerLine.take(n) -/
theorem c_Peer_take (l : Launch) (D : va_G) (kA : Nat → ClassId) (x tp ln bf tr ru co : Nat) (rc hp st : Int32) (tm : Int64) (r lim n : Nat) (f : Nat → Int32) (bs : List Nat) (i : Int32) (sz0 : Nat) : Met l y_Peer_take (Cond.code y_Peer_take b_Peer_take 2 (some .boolean) :: zTB) { frames := 2, cells := 0, slots := 0, locals := 61 } (zk_Pc D classes (zTY kA) [.ref x, .int i] (fun H => H.size = sz0 ∧ va_P D classes [(bf, .inr (0, [.int (nI lim), .ref r, .int (nI bs.length)])), (r, .inl ((kA 0), n, .inl f))] H ∧ va_D (fun _ => True) [(bf, .inr (0, [.int (nI lim), .ref r, .int (nI bs.length)])), (r, .inl ((kA 0), n, .inl f))] ∧ va_at D classes (x, .inr (5, [.ref tp, .ref ln, .ref bf, .ref tr, .ref ru, .ref co, .int rc, .int hp, .int st, .long tm])) H ∧ ¬ (va_A [(bf, .inr (0, [.int (nI lim), .ref r, .int (nI bs.length)])), (r, .inl ((kA 0), n, .inl f))] sz0) x ∧ zBs lim n f bs)) (zk_mQ (fun v H => (∃ k, i = nI k ∧ k ≤ bs.length ∧ v = some (.int 1) ∧ BsPost D kA (va_A [(bf, .inr (0, [.int (nI lim), .ref r, .int (nI bs.length)])), (r, .inl ((kA 0), n, .inl f))] sz0) H bf lim n (bs.drop k)) ∨ ((∀ k, k ≤ bs.length → i ≠ nI k) ∧ v = some (.int 0) ∧ BsPost D kA (va_A [(bf, .inr (0, [.int (nI lim), .ref r, .int (nI bs.length)])), (r, .inl ((kA 0), n, .inl f))] sz0) H bf lim n bs)) (va_A [(bf, .inr (0, [.int (nI lim), .ref r, .int (nI bs.length)])), (r, .inl ((kA 0), n, .inl f))] sz0)) 0 0 (va_A [(bf, .inr (0, [.int (nI lim), .ref r, .int (nI bs.length)])), (r, .inl ((kA 0), n, .inl f))] sz0) := by
  refine zk_of [.ref x, .int i] (by decide) (Nat.le_of_ble_eq_true rfl) ?_
  intro p e s m below meth c S hr hlk hnm hK hX hpre ls hl
  obtain ⟨hx, hb, hml, hown, ht⟩ := id S
  have hl : lv_has ls 2 [(0, .ref x), (1, .int i)] := hl
  obtain ⟨hsz, hP, hD0, hx0, hxA, hbs⟩ := hpre
  subst hsz
  have hD := hD0.self (sz := s.heap.size)
  generalize hAe : va_A [(bf, .inr (0, [.int (nI lim), .ref r, .int (nI bs.length)])), (r, .inl ((kA 0), n, .inl f))] s.heap.size = A at hD hxA ⊢
  have hA : ∀ q : Nat, s.heap.size ≤ q → A q := fun q h => by rw [← hAe]; exact Or.inr h
  have hS : va_S A s.heap s.heap [] := va_S.rf
  have hP : va_P D classes [(bf, .inr (0, [.int (nI lim), .ref r, .int (nI bs.length)])), (r, .inl ((kA 0), n, .inl f))] s.heap := hP
  refine lv_aload_n hx hb d_Peer_take_0 rfl (lv_at hl 0 rfl) ?_
  refine zk_get (C := R_Peer) (T := F_Peer) (N := 10) S hK (zk_ro hS hx0 hxA) rfl i_Peer 2 (by decide) m_Peer_21 rfl rfl d_Peer_take_1 ?_
  refine lv_iload_n hx hb d_Peer_take_4 rfl (lv_at hl 1 rfl) ?_
  have hFc := va_free (wc := [(bf, .inr (0, [.int (nI lim), .ref r, .int (nI bs.length)])), (r, .inl ((kA 0), n, .inl f))]) hD hS hA [0, 1] rfl
  refine zk_mut (zk_runV (As := [.int i]) (rest := []) S m_Peer_127 (c_Bytes_dropFirst l D kA bf r lim n f bs i s.heap.size) rfl rfl ⟨Nat.le_of_ble_eq_true rfl, Nat.le_of_ble_eq_true rfl⟩ hK hX (zk_recv hK (hP 0 _ rfl) rfl) ⟨rfl, hP, hD.weaken (fun _ _ _ _ => trivial), hbs⟩ rfl hl.1 rfl (Nat.le_of_ble_eq_true rfl) ⟨Nat.le_of_ble_eq_true rfl, Nat.le_of_ble_eq_true rfl⟩ d_Peer_take_5) hS hFc hFc (fun v H locs hpost hz1 hk1 hS => ?_)
  rcases hpost with ⟨k, hk1, hk2, rfl, r1, f1, hP1, hD1, hb1⟩ | ⟨hk1, rfl, r1, f1, hP1, hD1, hb1⟩
  · have hD2 := va_D.weaken hD1 (fun _ q _ hq => hFc q.1 hq)
    refine W.eq (g2 := F0 m 8 ls [.int 1]) rfl ?_
    exact zk_zret S hr (by decide) hlk hS (Or.inl ⟨k, hk1, hk2, rfl, r1, f1, hP1, hD2, hb1⟩) (Nat.le_refl _) (Nat.le_refl _) d_Peer_take_8
  · have hD2 := va_D.weaken hD1 (fun _ q _ hq => hFc q.1 hq)
    refine W.eq (g2 := F0 m 8 ls [.int 0]) rfl ?_
    exact zk_zret S hr (by decide) hlk hS (Or.inr ⟨hk1, rfl, r1, f1, hP1, hD2, hb1⟩) (Nat.le_refl _) (Nat.le_refl _) d_Peer_take_8
end
section
set_option maxHeartbeats 4000000 in
set_option maxRecDepth 100000 in
/-- PeerLine.tell(kind, thing, withNewline) -/
theorem c_Peer_tell (l : Launch) (D : va_G) (kA : Nat → ClassId) (x tp ln bf tr ru co : Nat) (rc hp st : Int32) (tm : Int64) (r n : Nat) (f : Nat → Int32) (trs : List Nat) (o lo : Nat) (os : List Nat) (kd : Nat) (nl : Bool) (hkd : kd < 256) (sz0 : Nat) : Met l y_Peer_tell (Cond.code y_Peer_tell b_Peer_tell 5 none :: zTB) { frames := 4, cells := zTellN n trs (zThing kd os nl) - n, slots := 3 * (zTellN n trs (zThing kd os nl) - n), locals := 105 } (zk_Pc D classes (zTY kA) [.ref x, .int (nI kd), .ref o, .int (if nl then 1 else 0)] (fun H => H.size = sz0 ∧ va_P D classes [(tr, .inr (0, [.int (nI 32768), .ref r, .int (nI trs.length)])), (r, .inl ((kA 0), n, .inl f))] H ∧ va_D (fun _ => True) [(tr, .inr (0, [.int (nI 32768), .ref r, .int (nI trs.length)])), (r, .inl ((kA 0), n, .inl f))] ∧ va_at D classes (x, .inr (5, [.ref tp, .ref ln, .ref bf, .ref tr, .ref ru, .ref co, .int rc, .int hp, .int st, .long tm])) H ∧ ¬ (va_A [(tr, .inr (0, [.int (nI 32768), .ref r, .int (nI trs.length)])), (r, .inl ((kA 0), n, .inl f))] sz0) x ∧ zBs 32768 n f trs ∧ BsAt D kA (fun q => ¬ (va_A [(tr, .inr (0, [.int (nI 32768), .ref r, .int (nI trs.length)])), (r, .inl ((kA 0), n, .inl f))] sz0) q) H o lo os)) (zk_mQ (fun v H => v = none ∧ BsPost D kA (va_A [(tr, .inr (0, [.int (nI 32768), .ref r, .int (nI trs.length)])), (r, .inl ((kA 0), n, .inl f))] sz0) H tr 32768 (zTellN n trs (zThing kd os nl)) (zTell trs (zThing kd os nl))) (va_A [(tr, .inr (0, [.int (nI 32768), .ref r, .int (nI trs.length)])), (r, .inl ((kA 0), n, .inl f))] sz0)) (zTellN n trs (zThing kd os nl) - n) (3 * (zTellN n trs (zThing kd os nl) - n)) (va_A [(tr, .inr (0, [.int (nI 32768), .ref r, .int (nI trs.length)])), (r, .inl ((kA 0), n, .inl f))] sz0) := by
  refine zk_of [.ref x, .int (nI kd), .ref o, .int (if nl then 1 else 0)] (by decide) (Nat.le_of_ble_eq_true rfl) ?_
  intro p e s m below meth c S hr hlk hnm hK hX hpre ls hl
  obtain ⟨hx, hb, hml, hown, ht⟩ := id S
  have hl : lv_has ls 5 [(0, .ref x), (1, .int (nI kd)), (2, .ref o), (3, .int (if nl then 1 else 0))] := hl
  obtain ⟨hsz, hP, hD0, hx0, hxA, hbs0, hO⟩ := hpre
  subst hsz
  have hD := hD0.self (sz := s.heap.size)
  generalize hAe : va_A [(tr, .inr (0, [.int (nI 32768), .ref r, .int (nI trs.length)])), (r, .inl ((kA 0), n, .inl f))] s.heap.size = A at hD hxA hO ⊢
  have hA : ∀ q : Nat, s.heap.size ≤ q → A q := fun q h => by rw [← hAe]; exact Or.inr h
  have hS : va_S A s.heap s.heap [] := va_S.rf
  have hP : va_P D classes [(tr, .inr (0, [.int (nI 32768), .ref r, .int (nI trs.length)])), (r, .inl ((kA 0), n, .inl f))] s.heap := hP
  obtain ⟨ro, no, fo, hzo1, hzo2, hO1, hO2, hO3⟩ := id hO
  obtain ⟨g1, g2, g3, g4, g5⟩ := id hO3
  obtain ⟨h1, h2, h3, h4, h5⟩ := id hbs0
  have hth : (zThing kd os nl).length = 1 + os.length + (if nl then 1 else 0) := by unfold zThing; cases nl <;> simp <;> omega
  refine lv_iconst (v := 1) hx hb d_Peer_tell_0 (by decide) ?_
  refine zk_ti (z := nI 1) (rfl) ?_
  refine lv_aload_n hx hb d_Peer_tell_1 rfl (lv_at hl 2 rfl) ?_
  refine zk_pure (zk_runV (As := []) (rest := [.int (nI 1)]) S m_Peer_121 (c_Bytes_size l D kA (fun q => ¬ A q) o lo os) rfl rfl ⟨Nat.le_of_ble_eq_true rfl, Nat.le_of_ble_eq_true rfl⟩ hK hX (zk_recv hK (zk_ro hS hO1 hzo1) rfl) (hO.ro hS) rfl hl.1 rfl (Nat.le_of_ble_eq_true rfl) ⟨Nat.zero_le _, Nat.zero_le _⟩ d_Peer_tell_2) ?_
  refine lv_iadd hx hb d_Peer_tell_5 ?_
  refine zk_ti (z := nI (1 + os.length)) (nI_add _ _) ?_
  cases nl
  · have hl : lv_has ls 5 [(0, .ref x), (1, .int (nI kd)), (2, .ref o), (3, .int 0)] := hl
    have hth : (zThing kd os false).length = 1 + os.length + 0 := hth
    refine lv_iload_n hx hb d_Peer_tell_6 rfl (lv_at hl 3 rfl) ?_
    refine lv_if_eq (tgt := 14) hx hb d_Peer_tell_7 (by decide) (fun c7 => ?_) (fun c7 => ?_)
    · refine lv_iconst (v := 0) hx hb d_Peer_tell_14 (by decide) ?_
      refine lv_iadd hx hb d_Peer_tell_15 ?_
      refine zk_ti (z := nI (zThing kd os false).length) (by rw [hth]; exact nI_add (1 + os.length) 0) ?_
      refine lv_istore (lv' := [(4, .int (nI (zThing kd os false).length)), (0, .ref x), (1, .int (nI kd)), (2, .ref o), (3, .int 0)]) hx hb d_Peer_tell_16 hl (by decide) rfl (fun ls hl => ?_)
      refine lv_aload_n hx hb d_Peer_tell_18 rfl (lv_at hl 1 rfl) ?_
      refine zk_get (C := R_Peer) (T := F_Peer) (N := 10) S hK (zk_ro hS hx0 hxA) rfl i_Peer 3 (by decide) m_Peer_25 rfl rfl d_Peer_tell_19 ?_
      refine lv_iload hx hb d_Peer_tell_22 (lv_at hl 0 rfl) ?_
      refine zk_pure (zk_runV (As := [.int (nI (zThing kd os false).length)]) (rest := []) S m_Peer_56 (c_Bytes_hasRoomFor l D kA (fun _ => True) tr 32768 trs (zThing kd os false).length (by omega)) rfl rfl ⟨Nat.le_of_ble_eq_true rfl, Nat.le_of_ble_eq_true rfl⟩ hK hX (zk_recv hK (hP 0 _ rfl) rfl) (⟨r, n, f, trivial, trivial, hP 0 _ rfl, hP 1 _ rfl, hbs0⟩) rfl hl.1 rfl (Nat.le_of_ble_eq_true rfl) ⟨Nat.zero_le _, Nat.zero_le _⟩ d_Peer_tell_24) ?_
      refine lv_if_ne (tgt := 31) hx hb d_Peer_tell_27 (by decide) (fun c27 => ?_) (fun c27 => ?_)
      · refine lv_aload_n hx hb d_Peer_tell_31 rfl (lv_at hl 1 rfl) ?_
        refine zk_get (C := R_Peer) (T := F_Peer) (N := 10) S hK (zk_ro hS hx0 hxA) rfl i_Peer 3 (by decide) m_Peer_25 rfl rfl d_Peer_tell_32 ?_
        refine lv_iload_n hx hb d_Peer_tell_35 rfl (lv_at hl 2 rfl) ?_
        have hroom : trs.length + (zThing kd os false).length ≤ 32768 := by
          by_cases z : (zThing kd os false).length ≤ 32768 - trs.length
          · omega
          · exact absurd (if_neg z) c27
        have htn : zTellN n trs (zThing kd os false) = zCapN 32768 n trs.length (zThing kd os false).length := if_pos hroom
        have ht9 : zTell trs (zThing kd os false) = trs ++ (zThing kd os false) := if_pos hroom
        obtain ⟨y11, y12, y13⟩ := zCapN_ge (lim := 32768) h2 h1 1 (by omega) h2 (by omega)
        obtain ⟨y21, y22, y23⟩ := zCapN_ge (lim := 32768) h2 h1 (1 + os.length) (by omega) h2 (by omega)
        have u1 := zCapN_upto (lim := 32768) h2 h1 (by omega) (1 + os.length) 1 (by omega) (by omega)
        have u2 := zCapN_upto (lim := 32768) h2 h1 (by omega) (zThing kd os false).length (1 + os.length) (by omega) (by omega)
        have hm0 : zCap 32768 n trs.length = (zCapN 32768 n trs.length 1) := by rfl
        have hFc := va_free (wc := [(tr, .inr (0, [.int (nI 32768), .ref r, .int (nI trs.length)])), (r, .inl ((kA 0), n, .inl f))]) hD hS hA [0, 1] rfl
        refine zk_mut (zk_runV (As := [.int (nI kd)]) (rest := []) S m_Peer_147 (c_Bytes_append l D kA tr r 32768 n f trs (nI kd) s.heap.size) rfl rfl ⟨Nat.le_of_ble_eq_true rfl, Nat.le_of_ble_eq_true rfl⟩ hK hX (zk_recv hK (hP 0 _ rfl) rfl) ⟨rfl, hP.sub (ws' := [(tr, .inr (0, [.int (nI 32768), .ref r, .int (nI trs.length)])), (r, .inl ((kA 0), n, .inl f))]) [0, 1] rfl, (hD.sub (ws' := [(tr, .inr (0, [.int (nI 32768), .ref r, .int (nI trs.length)])), (r, .inl ((kA 0), n, .inl f))]) [0, 1] (by decide) rfl).weaken (fun _ _ _ _ => trivial), hbs0⟩ rfl hl.1 rfl (Nat.le_of_ble_eq_true rfl) ⟨by
          show _ + (_ - _) ≤ zTellN n trs (zThing kd os false) - n
          rw [htn, hm0]; omega, by
          show _ + 3 * (_ - _) ≤ 3 * (zTellN n trs (zThing kd os false) - n)
          rw [htn, hm0]; omega⟩ d_Peer_tell_36) hS hFc hFc (fun v H locs hpost hz1 hk1 hS => ?_)
        obtain ⟨rfl, r1, f1, hP1, hD1, hb1⟩ := hpost
        obtain ⟨hP, hD⟩ := va_join (wr := []) (w1 := [(tr, .inr (0, [.int (nI 32768), .ref r1, .int (nI (zApp 32768 trs (zByte (nI kd))).length)])), (r1, .inl ((kA 0), (zCap 32768 n trs.length), .inl f1))]) hP hD [0, 1] [] rfl rfl (by decide) (by decide) hk1 hFc hP1 hD1
        refine W.eq (g2 := F0 m 39 ls []) rfl ?_
        have hP : va_P D classes [(tr, .inr (0, [.int (nI 32768), .ref r1, .int (nI (zApp 32768 trs (zByte (nI kd))).length)])), (r1, .inl ((kA 0), (zCap 32768 n trs.length), .inl f1))] H := hP
        have hD : va_D A [(tr, .inr (0, [.int (nI 32768), .ref r1, .int (nI (zApp 32768 trs (zByte (nI kd))).length)])), (r1, .inl ((kA 0), (zCap 32768 n trs.length), .inl f1))] := hD
        have hap0 : zApp 32768 trs (zByte (nI kd)) = (trs ++ [kd]) := by rw [zByte_nI (by omega), zApp_lt (by omega)]
        rw [hap0, hm0] at hP hD hb1
        have hP : va_P D classes [(tr, .inr (0, [.int (nI 32768), .ref r1, .int (nI (trs ++ [kd]).length)])), (r1, .inl ((kA 0), (zCapN 32768 n trs.length 1), .inl f1))] H := hP
        have hD : va_D A [(tr, .inr (0, [.int (nI 32768), .ref r1, .int (nI (trs ++ [kd]).length)])), (r1, .inl ((kA 0), (zCapN 32768 n trs.length 1), .inl f1))] := hD
        refine W.widen (k := ((zCapN 32768 n trs.length 1) - n)) (n := (3 * ((zCapN 32768 n trs.length 1) - n))) (by rw [hm0]; omega) (by rw [hm0]; omega) ?_
        refine lv_aload_n hx hb d_Peer_tell_39 rfl (lv_at hl 1 rfl) ?_
        refine zk_get (C := R_Peer) (T := F_Peer) (N := 10) S hK (zk_ro hS hx0 hxA) rfl i_Peer 3 (by decide) m_Peer_25 rfl rfl d_Peer_tell_40 ?_
        refine lv_aload_n hx hb d_Peer_tell_43 rfl (lv_at hl 3 rfl) ?_
        have hl1 : (trs ++ [kd]).length = trs.length + 1 := by simp
        have hm2 : zCapN 32768 (zCapN 32768 n trs.length 1) (trs ++ [kd]).length os.length = (zCapN 32768 n trs.length (1 + os.length)) := by rw [hl1]; exact (zCapN_add os.length 1).symm
        have hFc := va_free (wc := [(tr, .inr (0, [.int (nI 32768), .ref r1, .int (nI (trs ++ [kd]).length)])), (r1, .inl ((kA 0), (zCapN 32768 n trs.length 1), .inl f1))]) hD hS hA [0, 1] rfl
        refine zk_mut (zk_runV (As := [.ref o]) (rest := []) S m_Peer_129 (c_Bytes_appendAll l D kA tr r1 32768 (zCapN 32768 n trs.length 1) f1 (trs ++ [kd]) o lo os (by rw [hl1]; omega) H.size) rfl rfl ⟨Nat.le_of_ble_eq_true rfl, Nat.le_of_ble_eq_true rfl⟩ hK hX (zk_recv hK (hP 0 _ rfl) rfl) ⟨rfl, hP.sub (ws' := [(tr, .inr (0, [.int (nI 32768), .ref r1, .int (nI (trs ++ [kd]).length)])), (r1, .inl ((kA 0), (zCapN 32768 n trs.length 1), .inl f1))]) [0, 1] rfl, (hD.sub (ws' := [(tr, .inr (0, [.int (nI 32768), .ref r1, .int (nI (trs ++ [kd]).length)])), (r1, .inl ((kA 0), (zCapN 32768 n trs.length 1), .inl f1))]) [0, 1] (by decide) rfl).weaken (fun _ _ _ _ => trivial), hb1, ((hO.ro hS).weaken (fun q hq hz => hq (hFc q hz)))⟩ rfl hl.1 rfl (Nat.le_of_ble_eq_true rfl) ⟨by
          show _ + (_ - _) ≤ zTellN n trs (zThing kd os false) - n
          rw [htn, hm2]; omega, by
          show _ + 3 * (_ - _) ≤ 3 * (zTellN n trs (zThing kd os false) - n)
          rw [htn, hm2]; omega⟩ d_Peer_tell_44) hS hFc hFc (fun v H locs hpost hz1 hk1 hS => ?_)
        obtain ⟨rfl, r2, f2, hP1, hD1, hb2⟩ := hpost
        obtain ⟨hP, hD⟩ := va_join (wr := []) (w1 := [(tr, .inr (0, [.int (nI 32768), .ref r2, .int (nI (trs ++ [kd] ++ os).length)])), (r2, .inl ((kA 0), (zCapN 32768 (zCapN 32768 n trs.length 1) (trs ++ [kd]).length os.length), .inl f2))]) hP hD [0, 1] [] rfl rfl (by decide) (by decide) hk1 hFc hP1 hD1
        refine W.eq (g2 := F0 m 47 ls []) rfl ?_
        have hP : va_P D classes [(tr, .inr (0, [.int (nI 32768), .ref r2, .int (nI (trs ++ [kd] ++ os).length)])), (r2, .inl ((kA 0), (zCapN 32768 (zCapN 32768 n trs.length 1) (trs ++ [kd]).length os.length), .inl f2))] H := hP
        have hD : va_D A [(tr, .inr (0, [.int (nI 32768), .ref r2, .int (nI (trs ++ [kd] ++ os).length)])), (r2, .inl ((kA 0), (zCapN 32768 (zCapN 32768 n trs.length 1) (trs ++ [kd]).length os.length), .inl f2))] := hD
        rw [hm2] at hP hD hb2
        have hP : va_P D classes [(tr, .inr (0, [.int (nI 32768), .ref r2, .int (nI (trs ++ [kd] ++ os).length)])), (r2, .inl ((kA 0), (zCapN 32768 n trs.length (1 + os.length)), .inl f2))] H := hP
        have hD : va_D A [(tr, .inr (0, [.int (nI 32768), .ref r2, .int (nI (trs ++ [kd] ++ os).length)])), (r2, .inl ((kA 0), (zCapN 32768 n trs.length (1 + os.length)), .inl f2))] := hD
        refine W.widen (k := ((zCapN 32768 n trs.length (1 + os.length)) - n)) (n := (3 * ((zCapN 32768 n trs.length (1 + os.length)) - n))) (by rw [hm2]; omega) (by rw [hm2]; omega) ?_
        refine lv_iload_n hx hb d_Peer_tell_47 rfl (lv_at hl 4 rfl) ?_
        refine lv_if_eq (tgt := 60) hx hb d_Peer_tell_48 (by decide) (fun c48 => ?_) (fun c48 => ?_)
        · have hfin : (trs ++ [kd] ++ os) = zTell trs (zThing kd os false) := by rw [ht9]; simp [zThing]
          have hcap : (zCapN 32768 n trs.length (1 + os.length)) = zCapN 32768 n trs.length (zThing kd os false).length := by rw [hth]; simp
          have hP9 := hP.sub (ws' := [(tr, .inr (0, [.int (nI 32768), .ref r2, .int (nI (trs ++ [kd] ++ os).length)])), (r2, .inl ((kA 0), (zCapN 32768 n trs.length (1 + os.length)), .inl f2))]) [0, 1] rfl
          have hD9 := hD.sub (ws' := [(tr, .inr (0, [.int (nI 32768), .ref r2, .int (nI (trs ++ [kd] ++ os).length)])), (r2, .inl ((kA 0), (zCapN 32768 n trs.length (1 + os.length)), .inl f2))]) [0, 1] (by decide) rfl
          rw [hcap, ← htn, hfin] at hP9 hD9 hb2
          exact zk_vret S hr hlk hS ⟨rfl, r2, f2, hP9, hD9, hb2⟩ (by rw [htn]; rw [← hcap]; exact Nat.le_refl _) (by rw [htn]; rw [← hcap]; exact Nat.le_refl _) d_Peer_tell_60
        · exact absurd rfl c48
      · have hno : ¬ trs.length + (zThing kd os false).length ≤ 32768 := fun z => absurd (c27.symm.trans (if_pos (show (zThing kd os false).length ≤ 32768 - trs.length by omega))) (by decide)
        exact zk_vret S hr hlk hS ⟨rfl, by
          rw [show zTellN n trs (zThing kd os false) = n from if_neg hno, show zTell trs (zThing kd os false) = trs from if_neg hno]
          exact ⟨r, f, hP, hD, hbs0⟩⟩ (Nat.zero_le _) (Nat.zero_le _) d_Peer_tell_30
    · exact absurd rfl c7
  · have hl : lv_has ls 5 [(0, .ref x), (1, .int (nI kd)), (2, .ref o), (3, .int 1)] := hl
    have hth : (zThing kd os true).length = 1 + os.length + 1 := hth
    refine lv_iload_n hx hb d_Peer_tell_6 rfl (lv_at hl 3 rfl) ?_
    refine lv_if_eq (tgt := 14) hx hb d_Peer_tell_7 (by decide) (fun c7 => ?_) (fun c7 => ?_)
    · exact absurd c7 (by decide)
    · refine lv_iconst (v := 1) hx hb d_Peer_tell_10 (by decide) ?_
      refine lv_goto (tgt := 15) hx hb d_Peer_tell_11 (by decide) ?_
      refine lv_iadd hx hb d_Peer_tell_15 ?_
      refine zk_ti (z := nI (zThing kd os true).length) (by rw [hth]; exact nI_add (1 + os.length) 1) ?_
      refine lv_istore (lv' := [(4, .int (nI (zThing kd os true).length)), (0, .ref x), (1, .int (nI kd)), (2, .ref o), (3, .int 1)]) hx hb d_Peer_tell_16 hl (by decide) rfl (fun ls hl => ?_)
      refine lv_aload_n hx hb d_Peer_tell_18 rfl (lv_at hl 1 rfl) ?_
      refine zk_get (C := R_Peer) (T := F_Peer) (N := 10) S hK (zk_ro hS hx0 hxA) rfl i_Peer 3 (by decide) m_Peer_25 rfl rfl d_Peer_tell_19 ?_
      refine lv_iload hx hb d_Peer_tell_22 (lv_at hl 0 rfl) ?_
      refine zk_pure (zk_runV (As := [.int (nI (zThing kd os true).length)]) (rest := []) S m_Peer_56 (c_Bytes_hasRoomFor l D kA (fun _ => True) tr 32768 trs (zThing kd os true).length (by omega)) rfl rfl ⟨Nat.le_of_ble_eq_true rfl, Nat.le_of_ble_eq_true rfl⟩ hK hX (zk_recv hK (hP 0 _ rfl) rfl) (⟨r, n, f, trivial, trivial, hP 0 _ rfl, hP 1 _ rfl, hbs0⟩) rfl hl.1 rfl (Nat.le_of_ble_eq_true rfl) ⟨Nat.zero_le _, Nat.zero_le _⟩ d_Peer_tell_24) ?_
      refine lv_if_ne (tgt := 31) hx hb d_Peer_tell_27 (by decide) (fun c27 => ?_) (fun c27 => ?_)
      · refine lv_aload_n hx hb d_Peer_tell_31 rfl (lv_at hl 1 rfl) ?_
        refine zk_get (C := R_Peer) (T := F_Peer) (N := 10) S hK (zk_ro hS hx0 hxA) rfl i_Peer 3 (by decide) m_Peer_25 rfl rfl d_Peer_tell_32 ?_
        refine lv_iload_n hx hb d_Peer_tell_35 rfl (lv_at hl 2 rfl) ?_
        have hroom : trs.length + (zThing kd os true).length ≤ 32768 := by
          by_cases z : (zThing kd os true).length ≤ 32768 - trs.length
          · omega
          · exact absurd (if_neg z) c27
        have htn : zTellN n trs (zThing kd os true) = zCapN 32768 n trs.length (zThing kd os true).length := if_pos hroom
        have ht9 : zTell trs (zThing kd os true) = trs ++ (zThing kd os true) := if_pos hroom
        obtain ⟨y11, y12, y13⟩ := zCapN_ge (lim := 32768) h2 h1 1 (by omega) h2 (by omega)
        obtain ⟨y21, y22, y23⟩ := zCapN_ge (lim := 32768) h2 h1 (1 + os.length) (by omega) h2 (by omega)
        have u1 := zCapN_upto (lim := 32768) h2 h1 (by omega) (1 + os.length) 1 (by omega) (by omega)
        have u2 := zCapN_upto (lim := 32768) h2 h1 (by omega) (zThing kd os true).length (1 + os.length) (by omega) (by omega)
        have hm0 : zCap 32768 n trs.length = (zCapN 32768 n trs.length 1) := by rfl
        have hFc := va_free (wc := [(tr, .inr (0, [.int (nI 32768), .ref r, .int (nI trs.length)])), (r, .inl ((kA 0), n, .inl f))]) hD hS hA [0, 1] rfl
        refine zk_mut (zk_runV (As := [.int (nI kd)]) (rest := []) S m_Peer_147 (c_Bytes_append l D kA tr r 32768 n f trs (nI kd) s.heap.size) rfl rfl ⟨Nat.le_of_ble_eq_true rfl, Nat.le_of_ble_eq_true rfl⟩ hK hX (zk_recv hK (hP 0 _ rfl) rfl) ⟨rfl, hP.sub (ws' := [(tr, .inr (0, [.int (nI 32768), .ref r, .int (nI trs.length)])), (r, .inl ((kA 0), n, .inl f))]) [0, 1] rfl, (hD.sub (ws' := [(tr, .inr (0, [.int (nI 32768), .ref r, .int (nI trs.length)])), (r, .inl ((kA 0), n, .inl f))]) [0, 1] (by decide) rfl).weaken (fun _ _ _ _ => trivial), hbs0⟩ rfl hl.1 rfl (Nat.le_of_ble_eq_true rfl) ⟨by
          show _ + (_ - _) ≤ zTellN n trs (zThing kd os true) - n
          rw [htn, hm0]; omega, by
          show _ + 3 * (_ - _) ≤ 3 * (zTellN n trs (zThing kd os true) - n)
          rw [htn, hm0]; omega⟩ d_Peer_tell_36) hS hFc hFc (fun v H locs hpost hz1 hk1 hS => ?_)
        obtain ⟨rfl, r1, f1, hP1, hD1, hb1⟩ := hpost
        obtain ⟨hP, hD⟩ := va_join (wr := []) (w1 := [(tr, .inr (0, [.int (nI 32768), .ref r1, .int (nI (zApp 32768 trs (zByte (nI kd))).length)])), (r1, .inl ((kA 0), (zCap 32768 n trs.length), .inl f1))]) hP hD [0, 1] [] rfl rfl (by decide) (by decide) hk1 hFc hP1 hD1
        refine W.eq (g2 := F0 m 39 ls []) rfl ?_
        have hP : va_P D classes [(tr, .inr (0, [.int (nI 32768), .ref r1, .int (nI (zApp 32768 trs (zByte (nI kd))).length)])), (r1, .inl ((kA 0), (zCap 32768 n trs.length), .inl f1))] H := hP
        have hD : va_D A [(tr, .inr (0, [.int (nI 32768), .ref r1, .int (nI (zApp 32768 trs (zByte (nI kd))).length)])), (r1, .inl ((kA 0), (zCap 32768 n trs.length), .inl f1))] := hD
        have hap0 : zApp 32768 trs (zByte (nI kd)) = (trs ++ [kd]) := by rw [zByte_nI (by omega), zApp_lt (by omega)]
        rw [hap0, hm0] at hP hD hb1
        have hP : va_P D classes [(tr, .inr (0, [.int (nI 32768), .ref r1, .int (nI (trs ++ [kd]).length)])), (r1, .inl ((kA 0), (zCapN 32768 n trs.length 1), .inl f1))] H := hP
        have hD : va_D A [(tr, .inr (0, [.int (nI 32768), .ref r1, .int (nI (trs ++ [kd]).length)])), (r1, .inl ((kA 0), (zCapN 32768 n trs.length 1), .inl f1))] := hD
        refine W.widen (k := ((zCapN 32768 n trs.length 1) - n)) (n := (3 * ((zCapN 32768 n trs.length 1) - n))) (by rw [hm0]; omega) (by rw [hm0]; omega) ?_
        refine lv_aload_n hx hb d_Peer_tell_39 rfl (lv_at hl 1 rfl) ?_
        refine zk_get (C := R_Peer) (T := F_Peer) (N := 10) S hK (zk_ro hS hx0 hxA) rfl i_Peer 3 (by decide) m_Peer_25 rfl rfl d_Peer_tell_40 ?_
        refine lv_aload_n hx hb d_Peer_tell_43 rfl (lv_at hl 3 rfl) ?_
        have hl1 : (trs ++ [kd]).length = trs.length + 1 := by simp
        have hm2 : zCapN 32768 (zCapN 32768 n trs.length 1) (trs ++ [kd]).length os.length = (zCapN 32768 n trs.length (1 + os.length)) := by rw [hl1]; exact (zCapN_add os.length 1).symm
        have hFc := va_free (wc := [(tr, .inr (0, [.int (nI 32768), .ref r1, .int (nI (trs ++ [kd]).length)])), (r1, .inl ((kA 0), (zCapN 32768 n trs.length 1), .inl f1))]) hD hS hA [0, 1] rfl
        refine zk_mut (zk_runV (As := [.ref o]) (rest := []) S m_Peer_129 (c_Bytes_appendAll l D kA tr r1 32768 (zCapN 32768 n trs.length 1) f1 (trs ++ [kd]) o lo os (by rw [hl1]; omega) H.size) rfl rfl ⟨Nat.le_of_ble_eq_true rfl, Nat.le_of_ble_eq_true rfl⟩ hK hX (zk_recv hK (hP 0 _ rfl) rfl) ⟨rfl, hP.sub (ws' := [(tr, .inr (0, [.int (nI 32768), .ref r1, .int (nI (trs ++ [kd]).length)])), (r1, .inl ((kA 0), (zCapN 32768 n trs.length 1), .inl f1))]) [0, 1] rfl, (hD.sub (ws' := [(tr, .inr (0, [.int (nI 32768), .ref r1, .int (nI (trs ++ [kd]).length)])), (r1, .inl ((kA 0), (zCapN 32768 n trs.length 1), .inl f1))]) [0, 1] (by decide) rfl).weaken (fun _ _ _ _ => trivial), hb1, ((hO.ro hS).weaken (fun q hq hz => hq (hFc q hz)))⟩ rfl hl.1 rfl (Nat.le_of_ble_eq_true rfl) ⟨by
          show _ + (_ - _) ≤ zTellN n trs (zThing kd os true) - n
          rw [htn, hm2]; omega, by
          show _ + 3 * (_ - _) ≤ 3 * (zTellN n trs (zThing kd os true) - n)
          rw [htn, hm2]; omega⟩ d_Peer_tell_44) hS hFc hFc (fun v H locs hpost hz1 hk1 hS => ?_)
        obtain ⟨rfl, r2, f2, hP1, hD1, hb2⟩ := hpost
        obtain ⟨hP, hD⟩ := va_join (wr := []) (w1 := [(tr, .inr (0, [.int (nI 32768), .ref r2, .int (nI (trs ++ [kd] ++ os).length)])), (r2, .inl ((kA 0), (zCapN 32768 (zCapN 32768 n trs.length 1) (trs ++ [kd]).length os.length), .inl f2))]) hP hD [0, 1] [] rfl rfl (by decide) (by decide) hk1 hFc hP1 hD1
        refine W.eq (g2 := F0 m 47 ls []) rfl ?_
        have hP : va_P D classes [(tr, .inr (0, [.int (nI 32768), .ref r2, .int (nI (trs ++ [kd] ++ os).length)])), (r2, .inl ((kA 0), (zCapN 32768 (zCapN 32768 n trs.length 1) (trs ++ [kd]).length os.length), .inl f2))] H := hP
        have hD : va_D A [(tr, .inr (0, [.int (nI 32768), .ref r2, .int (nI (trs ++ [kd] ++ os).length)])), (r2, .inl ((kA 0), (zCapN 32768 (zCapN 32768 n trs.length 1) (trs ++ [kd]).length os.length), .inl f2))] := hD
        rw [hm2] at hP hD hb2
        have hP : va_P D classes [(tr, .inr (0, [.int (nI 32768), .ref r2, .int (nI (trs ++ [kd] ++ os).length)])), (r2, .inl ((kA 0), (zCapN 32768 n trs.length (1 + os.length)), .inl f2))] H := hP
        have hD : va_D A [(tr, .inr (0, [.int (nI 32768), .ref r2, .int (nI (trs ++ [kd] ++ os).length)])), (r2, .inl ((kA 0), (zCapN 32768 n trs.length (1 + os.length)), .inl f2))] := hD
        refine W.widen (k := ((zCapN 32768 n trs.length (1 + os.length)) - n)) (n := (3 * ((zCapN 32768 n trs.length (1 + os.length)) - n))) (by rw [hm2]; omega) (by rw [hm2]; omega) ?_
        refine lv_iload_n hx hb d_Peer_tell_47 rfl (lv_at hl 4 rfl) ?_
        refine lv_if_eq (tgt := 60) hx hb d_Peer_tell_48 (by decide) (fun c48 => ?_) (fun c48 => ?_)
        · exact absurd c48 (by decide)
        · refine lv_aload_n hx hb d_Peer_tell_51 rfl (lv_at hl 1 rfl) ?_
          refine zk_get (C := R_Peer) (T := F_Peer) (N := 10) S hK (zk_ro hS hx0 hxA) rfl i_Peer 3 (by decide) m_Peer_25 rfl rfl d_Peer_tell_52 ?_
          refine lv_bipush (v := 10) hx hb d_Peer_tell_55 (by decide) ?_
          refine zk_ti (z := nI 10) (rfl) ?_
          have hm3 : zCap 32768 (zCapN 32768 n trs.length (1 + os.length)) (trs ++ [kd] ++ os).length = (zCapN 32768 n trs.length (zThing kd os true).length) := by rw [hth]; show _ = zCap 32768 (zCapN 32768 n trs.length (1 + os.length)) (trs.length + (1 + os.length)); congr 1; simp; omega
          have hFc := va_free (wc := [(tr, .inr (0, [.int (nI 32768), .ref r2, .int (nI (trs ++ [kd] ++ os).length)])), (r2, .inl ((kA 0), (zCapN 32768 n trs.length (1 + os.length)), .inl f2))]) hD hS hA [0, 1] rfl
          refine zk_mut (zk_runV (As := [.int (nI 10)]) (rest := []) S m_Peer_147 (c_Bytes_append l D kA tr r2 32768 (zCapN 32768 n trs.length (1 + os.length)) f2 (trs ++ [kd] ++ os) (nI 10) H.size) rfl rfl ⟨Nat.le_of_ble_eq_true rfl, Nat.le_of_ble_eq_true rfl⟩ hK hX (zk_recv hK (hP 0 _ rfl) rfl) ⟨rfl, hP.sub (ws' := [(tr, .inr (0, [.int (nI 32768), .ref r2, .int (nI (trs ++ [kd] ++ os).length)])), (r2, .inl ((kA 0), (zCapN 32768 n trs.length (1 + os.length)), .inl f2))]) [0, 1] rfl, (hD.sub (ws' := [(tr, .inr (0, [.int (nI 32768), .ref r2, .int (nI (trs ++ [kd] ++ os).length)])), (r2, .inl ((kA 0), (zCapN 32768 n trs.length (1 + os.length)), .inl f2))]) [0, 1] (by decide) rfl).weaken (fun _ _ _ _ => trivial), hb2⟩ rfl hl.1 rfl (Nat.le_of_ble_eq_true rfl) ⟨by
            show _ + (_ - _) ≤ zTellN n trs (zThing kd os true) - n
            rw [htn, hm3]; omega, by
            show _ + 3 * (_ - _) ≤ 3 * (zTellN n trs (zThing kd os true) - n)
            rw [htn, hm3]; omega⟩ d_Peer_tell_57) hS hFc hFc (fun v H locs hpost hz1 hk1 hS => ?_)
          obtain ⟨rfl, r3, f3, hP1, hD1, hb3⟩ := hpost
          obtain ⟨hP, hD⟩ := va_join (wr := []) (w1 := [(tr, .inr (0, [.int (nI 32768), .ref r3, .int (nI (zApp 32768 (trs ++ [kd] ++ os) (zByte (nI 10))).length)])), (r3, .inl ((kA 0), (zCap 32768 (zCapN 32768 n trs.length (1 + os.length)) (trs ++ [kd] ++ os).length), .inl f3))]) hP hD [0, 1] [] rfl rfl (by decide) (by decide) hk1 hFc hP1 hD1
          refine W.eq (g2 := F0 m 60 ls []) rfl ?_
          have hP : va_P D classes [(tr, .inr (0, [.int (nI 32768), .ref r3, .int (nI (zApp 32768 (trs ++ [kd] ++ os) (zByte (nI 10))).length)])), (r3, .inl ((kA 0), (zCap 32768 (zCapN 32768 n trs.length (1 + os.length)) (trs ++ [kd] ++ os).length), .inl f3))] H := hP
          have hD : va_D A [(tr, .inr (0, [.int (nI 32768), .ref r3, .int (nI (zApp 32768 (trs ++ [kd] ++ os) (zByte (nI 10))).length)])), (r3, .inl ((kA 0), (zCap 32768 (zCapN 32768 n trs.length (1 + os.length)) (trs ++ [kd] ++ os).length), .inl f3))] := hD
          have hap3 : zApp 32768 (trs ++ [kd] ++ os) (zByte (nI 10)) = ((trs ++ [kd] ++ os) ++ [10]) := by rw [zByte_nI (by omega), zApp_lt (by simp; omega)]
          rw [hap3, hm3] at hP hD hb3
          have hP : va_P D classes [(tr, .inr (0, [.int (nI 32768), .ref r3, .int (nI ((trs ++ [kd] ++ os) ++ [10]).length)])), (r3, .inl ((kA 0), (zCapN 32768 n trs.length (zThing kd os true).length), .inl f3))] H := hP
          have hD : va_D A [(tr, .inr (0, [.int (nI 32768), .ref r3, .int (nI ((trs ++ [kd] ++ os) ++ [10]).length)])), (r3, .inl ((kA 0), (zCapN 32768 n trs.length (zThing kd os true).length), .inl f3))] := hD
          refine W.widen (k := ((zCapN 32768 n trs.length (zThing kd os true).length) - n)) (n := (3 * ((zCapN 32768 n trs.length (zThing kd os true).length) - n))) (by rw [hm3]; omega) (by rw [hm3]; omega) ?_
          have hfin : ((trs ++ [kd] ++ os) ++ [10]) = zTell trs (zThing kd os true) := by rw [ht9]; simp [zThing]
          have hP9 := hP.sub (ws' := [(tr, .inr (0, [.int (nI 32768), .ref r3, .int (nI ((trs ++ [kd] ++ os) ++ [10]).length)])), (r3, .inl ((kA 0), (zCapN 32768 n trs.length (zThing kd os true).length), .inl f3))]) [0, 1] rfl
          have hD9 := hD.sub (ws' := [(tr, .inr (0, [.int (nI 32768), .ref r3, .int (nI ((trs ++ [kd] ++ os) ++ [10]).length)])), (r3, .inl ((kA 0), (zCapN 32768 n trs.length (zThing kd os true).length), .inl f3))]) [0, 1] (by decide) rfl
          rw [← htn, hfin] at hP9 hD9 hb3
          exact zk_vret S hr hlk hS ⟨rfl, r3, f3, hP9, hD9, hb3⟩ (by rw [htn]; exact Nat.le_refl _) (by rw [htn]; exact Nat.le_refl _) d_Peer_tell_60
      · have hno : ¬ trs.length + (zThing kd os true).length ≤ 32768 := fun z => absurd (c27.symm.trans (if_pos (show (zThing kd os true).length ≤ 32768 - trs.length by omega))) (by decide)
        exact zk_vret S hr hlk hS ⟨rfl, by
          rw [show zTellN n trs (zThing kd os true) = n from if_neg hno, show zTell trs (zThing kd os true) = trs from if_neg hno]
          exact ⟨r, f, hP, hD, hbs0⟩⟩ (Nat.zero_le _) (Nat.zero_le _) d_Peer_tell_30
end
section
/-! the document's terms: rules, the first that fits, what is to come -/
abbrev zRule : Type := Nat × List Nat × List Nat × Nat × Nat
def zR0 : zRule := (0, [], [], 0, 0)
abbrev zIts (pat : List Nat) : List pItem := rItems pat pat.length 0
def zFits (pat ln : List Nat) : Prop := pF (zT ln) (zIt (zIts pat)) (zIts pat).length 0 0 ln.length
noncomputable def zHit (st : Nat) (ln : List Nat) (ρ : zRule) : Bool := @decide (ρ.1 = st ∧ zFits ρ.2.1 ln) (Classical.propDecidable _)
noncomputable def zFirst (rs : List zRule) (st : Nat) (ln : List Nat) : Option Nat := rs.findIdx? (zHit st ln)
theorem zHit_t {st : Nat} {ln : List Nat} {ρ : zRule} (h : ρ.1 = st ∧ zFits ρ.2.1 ln) : zHit st ln ρ = true := @decide_eq_true _ (Classical.propDecidable _) h
theorem zHit_f {st : Nat} {ln : List Nat} {ρ : zRule} (h : ¬ (ρ.1 = st ∧ zFits ρ.2.1 ln)) : zHit st ln ρ = false := @decide_eq_false _ (Classical.propDecidable _) h
theorem zgetR {rs : List zRule} {i : Nat} (h : i < rs.length) : rs.getD i zR0 = rs[i] := by
  rw [List.getD_eq_getElem?_getD, List.getElem?_eq_getElem h]; rfl
theorem zFirst_some {rs : List zRule} {st i : Nat} {ln : List Nat} (hi : i < rs.length) (h : (rs.getD i zR0).1 = st ∧ zFits (rs.getD i zR0).2.1 ln) (hn : ∀ j, j < i → ¬ ((rs.getD j zR0).1 = st ∧ zFits (rs.getD j zR0).2.1 ln)) : zFirst rs st ln = some i := by
  unfold zFirst
  rw [List.findIdx?_eq_some_iff_getElem]
  refine ⟨hi, ?_, fun j hj => ?_⟩
  · rw [zgetR hi] at h
    exact zHit_t h
  · have h1 := hn j hj
    rw [zgetR (by omega)] at h1
    rw [zHit_f h1]
    exact Bool.false_ne_true
theorem zFirst_none {rs : List zRule} {st : Nat} {ln : List Nat} (hn : ∀ j, j < rs.length → ¬ ((rs.getD j zR0).1 = st ∧ zFits (rs.getD j zR0).2.1 ln)) : zFirst rs st ln = none := by
  unfold zFirst
  rw [List.findIdx?_eq_none_iff]
  intro x hx
  obtain ⟨j, hj, rfl⟩ := List.mem_iff_getElem.mp hx
  have h1 := hn j hj
  rw [zgetR hj] at h1
  exact zHit_f h1
def zNext (rs : List zRule) (st : Nat) (o : Option Nat) : Nat := match o with
  | none => st
  | some i => (rs.getD i zR0).2.2.2.2
def zPush (rs : List zRule) (t : Nat) (mq : List (Nat × Nat)) (o : Option Nat) : List (Nat × Nat) := match o with
  | none => mq
  | some i => if mq.length < 64 then mq ++ [(t + (rs.getD i zR0).2.2.2.1, i)] else mq
def qIns (x : Nat × Nat) : List (Nat × Nat) → List (Nat × Nat)
  | [] => [x]
  | y :: l => if y.1 ≤ x.1 then y :: qIns x l else x :: y :: l
def qs (mq : List (Nat × Nat)) : List (Nat × Nat) := mq.foldl (fun acc x => qIns x acc) []
def qSorted : List (Nat × Nat) → Prop
  | [] => True
  | x :: l => (∀ y ∈ l, x.1 ≤ y.1) ∧ qSorted l
theorem qIns_mem {x z : Nat × Nat} : ∀ {l : List (Nat × Nat)}, z ∈ qIns x l ↔ z = x ∨ z ∈ l
  | [] => by simp [qIns]
  | y :: l => by
    unfold qIns
    split
    · rw [List.mem_cons, qIns_mem, List.mem_cons]
      constructor
      · rintro (h | h | h)
        · exact Or.inr (Or.inl h)
        · exact Or.inl h
        · exact Or.inr (Or.inr h)
      · rintro (h | h | h)
        · exact Or.inr (Or.inl h)
        · exact Or.inl h
        · exact Or.inr (Or.inr h)
    · rw [List.mem_cons]
theorem qIns_len {x : Nat × Nat} : ∀ {l : List (Nat × Nat)}, (qIns x l).length = l.length + 1
  | [] => rfl
  | y :: l => by
    unfold qIns
    split
    · rw [List.length_cons, qIns_len, List.length_cons]
    · rfl
theorem qIns_sorted {x : Nat × Nat} : ∀ {l : List (Nat × Nat)}, qSorted l → qSorted (qIns x l)
  | [], _ => ⟨fun y h => (by cases h), trivial⟩
  | y :: l, h => by
    unfold qIns
    split
    · rename_i hc
      refine ⟨fun z hz => ?_, qIns_sorted h.2⟩
      rcases qIns_mem.mp hz with h1 | h1
      · rw [h1]; exact hc
      · exact h.1 z h1
    · rename_i hc
      refine ⟨fun z hz => ?_, h⟩
      rcases List.mem_cons.mp hz with h1 | h1
      · rw [h1]; omega
      · have := h.1 z h1
        omega
theorem qs_snoc {mq : List (Nat × Nat)} {x : Nat × Nat} : qs (mq ++ [x]) = qIns x (qs mq) := by
  unfold qs
  rw [List.foldl_append]
  rfl
theorem qs_ind {P : List (Nat × Nat) → Prop} (h0 : P []) (hs : ∀ l x, P l → P (l ++ [x])) : ∀ (n : Nat) (l : List (Nat × Nat)), l.length = n → P l := by
  intro n
  induction n with
  | zero => intro l hl; rw [List.length_eq_zero_iff.mp hl]; exact h0
  | succ n ih =>
    intro l hl
    have hne : l ≠ [] := fun z => by rw [z] at hl; simp at hl
    rw [← List.dropLast_concat_getLast hne]
    exact hs _ _ (ih _ (by rw [List.length_dropLast]; omega))
theorem qs_sorted (mq : List (Nat × Nat)) : qSorted (qs mq) := qs_ind (P := fun l => qSorted (qs l)) trivial (fun l x h => by rw [qs_snoc]; exact qIns_sorted h) _ mq rfl
theorem qs_len (mq : List (Nat × Nat)) : (qs mq).length = mq.length := qs_ind (P := fun l => (qs l).length = l.length) rfl (fun l x h => by rw [qs_snoc, qIns_len, h, List.length_append]; rfl) _ mq rfl
theorem qs_mem {mq : List (Nat × Nat)} {z : Nat × Nat} : z ∈ qs mq ↔ z ∈ mq := qs_ind (P := fun l => z ∈ qs l ↔ z ∈ l) (by simp [qs]) (fun l x h => by
  rw [qs_snoc, qIns_mem, h, List.mem_append, List.mem_singleton]
  exact Or.comm) _ mq rfl
theorem qIns_take {x : Nat × Nat} : ∀ (l : List (Nat × Nat)) (p : Nat), qSorted l → p ≤ l.length → (∀ j, p ≤ j → j < l.length → x.1 < (l.getD j (0, 0)).1) → (p = 0 ∨ (l.getD (p - 1) (0, 0)).1 ≤ x.1) → qIns x l = l.take p ++ x :: l.drop p
  | [], p, _, hp, _, _ => by simp [qIns]
  | y :: l, 0, _, _, h1, _ => by
    have h2 : x.1 < y.1 := h1 0 (Nat.le_refl _) (Nat.succ_pos _)
    unfold qIns
    rw [if_neg (by omega)]
    rfl
  | y :: l, p + 1, hs, hp, h1, h2 => by
    have hp' : p ≤ l.length := by simpa using hp
    have h3 : ((y :: l).getD p (0, 0)).1 ≤ x.1 := by
      rcases h2 with h | h
      · omega
      · exact h
    have h4 : y.1 ≤ x.1 := by
      cases p with
      | zero => exact h3
      | succ p =>
        refine Nat.le_trans (hs.1 (l.getD p (0, 0)) ?_) h3
        rw [List.getD_eq_getElem?_getD, List.getElem?_eq_getElem (by omega)]
        exact List.getElem_mem _
    unfold qIns
    rw [if_pos h4, qIns_take l p hs.2 hp' (fun j hj1 hj2 => h1 (j + 1) (by omega) (by simp; omega)) (by
      cases p with
      | zero => exact Or.inl rfl
      | succ p => exact Or.inr h3)]
    rfl
/-- what is to come as the class holds it: sorted, answers by their cells -/
def zC (ad : Nat → Nat) (mq : List (Nat × Nat)) : List (Nat × Nat) := (qs mq).map (fun q => (q.1, ad q.2))
theorem zC_len {ad : Nat → Nat} {mq : List (Nat × Nat)} : (zC ad mq).length = mq.length := by
  unfold zC
  rw [List.length_map, qs_len]
theorem zC_get {ad : Nat → Nat} {mq : List (Nat × Nat)} {j : Nat} (h : j < mq.length) : (zC ad mq).getD j (0, 0) = (((qs mq).getD j (0, 0)).1, ad ((qs mq).getD j (0, 0)).2) := by
  have h' : j < (qs mq).length := by rw [qs_len]; exact h
  unfold zC
  rw [List.getD_eq_getElem?_getD, List.getElem?_map, List.getD_eq_getElem?_getD, List.getElem?_eq_getElem h']
  rfl
theorem zC_snoc {ad : Nat → Nat} {mq : List (Nat × Nat)} {t i p : Nat} (hp : p ≤ (zC ad mq).length) (h1 : ∀ j, p ≤ j → j < (zC ad mq).length → t < ((zC ad mq).getD j (0, 0)).1) (h2 : p = 0 ∨ ((zC ad mq).getD (p - 1) (0, 0)).1 ≤ t) : (zC ad mq).take p ++ (t, ad i) :: (zC ad mq).drop p = zC ad (mq ++ [(t, i)]) := by
  rw [zC_len] at hp h1
  have e : qIns (t, i) (qs mq) = (qs mq).take p ++ (t, i) :: (qs mq).drop p := by
    refine qIns_take (qs mq) p (qs_sorted mq) (by rw [qs_len]; exact hp) (fun j hj1 hj2 => ?_) ?_
    · rw [qs_len] at hj2
      have := h1 j hj1 hj2
      rw [zC_get hj2] at this
      exact this
    · rcases h2 with h | h
      · exact Or.inl h
      · by_cases h0 : p = 0
        · exact Or.inl h0
        · rw [zC_get (by omega)] at h
          exact Or.inr h
  unfold zC
  rw [qs_snoc, e, List.map_append, List.map_cons, List.map_take, List.map_drop]
theorem zC_mem {mq : List (Nat × Nat)} {j : Nat} (h : j < mq.length) : (qs mq).getD j (0, 0) ∈ mq := by
  have h' : j < (qs mq).length := by rw [qs_len]; exact h
  rw [← qs_mem, List.getD_eq_getElem?_getD, List.getElem?_eq_getElem h']
  exact List.getElem_mem _
/-! the rules as the class holds them -/
def RuleAt (D : va_G) (kA : Nat → ClassId) (Z : Nat → Prop) (H : Heap) (q : Nat) (ρ : zRule) (ad : Nat) : Prop := ∃ pa, (Z q ∧ va_at D classes (q, .inr (4, [.int (nI ρ.1), .ref pa, .ref ad, .int (nI ρ.2.2.2.1), .int (nI ρ.2.2.2.2)])) H) ∧ PtAt D kA Z H pa (zIts ρ.2.1) ∧ BsAt D kA Z H ad 200 ρ.2.2.1 ∧ ρ.1 ≤ 31 ∧ ρ.2.2.2.1 ≤ 1000 ∧ ρ.2.2.2.2 ≤ 31 ∧ ρ.2.1.length ≤ 200
def RsAt (D : va_G) (kA : Nat → ClassId) (Z : Nat → Prop) (H : Heap) (rf : Nat → Option Nat) (rs : List zRule) (ad : Nat → Nat) : Prop := ∀ i, i < rs.length → ∃ q, rf i = some q ∧ RuleAt D kA Z H q (rs.getD i zR0) (ad i)
theorem RuleAt.kept {D : va_G} {kA : Nat → ClassId} {Z : Nat → Prop} {H H1 : Heap} {q : Nat} {ρ : zRule} {ad : Nat} (h : RuleAt D kA Z H q ρ ad) (hk : ∀ q, Z q → q < H.size → H1[q]? = H[q]?) : RuleAt D kA Z H1 q ρ ad := by
  obtain ⟨pa, ⟨h1, h2⟩, h3, h4, h5⟩ := h
  exact ⟨pa, ⟨h1, h2.kept (hk _ h1 h2.lt)⟩, h3.kept hk, h4.kept hk, h5⟩
theorem RuleAt.weaken {D : va_G} {kA : Nat → ClassId} {Z Z' : Nat → Prop} {H : Heap} {q : Nat} {ρ : zRule} {ad : Nat} (h : RuleAt D kA Z H q ρ ad) (hz : ∀ q, Z q → Z' q) : RuleAt D kA Z' H q ρ ad := by
  obtain ⟨pa, ⟨h1, h2⟩, h3, h4, h5⟩ := h
  exact ⟨pa, ⟨hz _ h1, h2⟩, h3.weaken hz, h4.weaken hz, h5⟩
theorem RsAt.kept {D : va_G} {kA : Nat → ClassId} {Z : Nat → Prop} {H H1 : Heap} {rf : Nat → Option Nat} {rs : List zRule} {ad : Nat → Nat} (h : RsAt D kA Z H rf rs ad) (hk : ∀ q, Z q → q < H.size → H1[q]? = H[q]?) : RsAt D kA Z H1 rf rs ad := fun i hi => by
  obtain ⟨q, h1, h2⟩ := h i hi
  exact ⟨q, h1, h2.kept hk⟩
theorem RsAt.weaken {D : va_G} {kA : Nat → ClassId} {Z Z' : Nat → Prop} {H : Heap} {rf : Nat → Option Nat} {rs : List zRule} {ad : Nat → Nat} (h : RsAt D kA Z H rf rs ad) (hz : ∀ q, Z q → Z' q) : RsAt D kA Z' H rf rs ad := fun i hi => by
  obtain ⟨q, h1, h2⟩ := h i hi
  exact ⟨q, h1, h2.weaken hz⟩
theorem RsAt.ro {D : va_G} {kA : Nat → ClassId} {A : Nat → Prop} {H0 H : Heap} {locs : List Loc} {rf : Nat → Option Nat} {rs : List zRule} {ad : Nat → Nat} (h : RsAt D kA (fun q => ¬ A q) H0 rf rs ad) (hS : va_S A H0 H locs) : RsAt D kA (fun q => ¬ A q) H rf rs ad := h.kept (fun q hq hlt => hS.2.1 q hlt hq)
def zQok (rs : List zRule) (mq : List (Nat × Nat)) : Prop := mq.length ≤ 64 ∧ ∀ q ∈ mq, q.2 < rs.length ∧ q.1 < 2 ^ 31
theorem zQok.co {D : va_G} {kA : Nat → ClassId} {Z : Nat → Prop} {H : Heap} {rf : Nat → Option Nat} {rs : List zRule} {ad : Nat → Nat} {mq : List (Nat × Nat)} (h : zQok rs mq) (hr : RsAt D kA Z H rf rs ad) : CoOk D kA Z H (zC ad mq) := by
  intro i hi
  rw [zC_len] at hi
  rw [zC_get hi]
  obtain ⟨h1, h2⟩ := h.2 _ (zC_mem hi)
  obtain ⟨q, -, pa, -, -, hb, -⟩ := hr _ h1
  exact ⟨h2, 200, _, hb⟩
end
section
theorem zPush_post {D : va_G} {kA : Nat → ClassId} {A : Nat → Prop} {H : Heap} {co ct ca t0 i : Nat} {ad : Nat → Nat} {mq : List (Nat × Nat)} {rs : List zRule} (h : (64 ≤ (zC ad mq).length ∧ CoPost D kA A H co ct ca (zC ad mq)) ∨ ((zC ad mq).length < 64 ∧ ∃ p, p ≤ (zC ad mq).length ∧ (∀ j, p ≤ j → j < (zC ad mq).length → t0 + (rs.getD i zR0).2.2.2.1 < ((zC ad mq).getD j (0, 0)).1) ∧ (p = 0 ∨ ((zC ad mq).getD (p - 1) (0, 0)).1 ≤ t0 + (rs.getD i zR0).2.2.2.1) ∧ CoPost D kA A H co ct ca ((zC ad mq).take p ++ (t0 + (rs.getD i zR0).2.2.2.1, ad i) :: (zC ad mq).drop p))) : CoPost D kA A H co ct ca (zC ad (zPush rs t0 mq (some i))) := by
  rcases h with ⟨hge, hcp⟩ | ⟨hlt2, p2, hp1, hp2, hp3, hcp⟩
  · rw [zC_len] at hge
    rw [show zPush rs t0 mq (some i) = mq from if_neg (by omega)]
    exact hcp
  · rw [zC_len] at hlt2
    rw [show zPush rs t0 mq (some i) = mq ++ [(t0 + (rs.getD i zR0).2.2.2.1, i)] from if_pos hlt2, ← zC_snoc hp1 hp2 hp3]
    exact hcp
set_option maxHeartbeats 4000000 in
set_option maxRecDepth 100000 in
/-- PeerLine.answerLine() -/
theorem c_Peer_answerLine (l : Launch) (D : va_G) (kA : Nat → ClassId) (x tp ln bf tr ru co ct ca : Nat) (hp : Int32) (f : Nat → Int64) (g : Nat → Option Nat) (rf : Nat → Option Nat) (rs : List zRule) (ad : Nat → Nat) (mq : List (Nat × Nat)) (st0 t0 : Nat) (hst : st0 < 2 ^ 30) (ht0 : t0 < 2 ^ 30) (hrs : rs.length ≤ 64) (lnl : Nat) (lns : List Nat) (sz0 : Nat) : Met l y_Peer_answerLine (Cond.code y_Peer_answerLine b_Peer_answerLine 3 none :: zTB) { frames := 5, cells := 0, slots := 0, locals := 126 } (zk_Pc D classes (zTY kA) [.ref x] (fun H => H.size = sz0 ∧ va_P D classes [(x, .inr (5, [.ref tp, .ref ln, .ref bf, .ref tr, .ref ru, .ref co, .int (nI rs.length), .int hp, .int (nI st0), .long (lN t0)])), (co, .inr (1, [.ref ct, .ref ca, .int (nI ((zC ad mq).length))])), (ct, .inl ((kA 1), 64, .inr (.inl f))), (ca, .inl ((kA 5), 64, .inr (.inr (.inr (.inr g)))))] H ∧ va_D (fun _ => True) [(x, .inr (5, [.ref tp, .ref ln, .ref bf, .ref tr, .ref ru, .ref co, .int (nI rs.length), .int hp, .int (nI st0), .long (lN t0)])), (co, .inr (1, [.ref ct, .ref ca, .int (nI ((zC ad mq).length))])), (ct, .inl ((kA 1), 64, .inr (.inl f))), (ca, .inl ((kA 5), 64, .inr (.inr (.inr (.inr g)))))] ∧ va_at D classes (ru, .inl (kA 4, 64, .inr (.inr (.inr (.inr rf))))) H ∧ ¬ (va_A [(x, .inr (5, [.ref tp, .ref ln, .ref bf, .ref tr, .ref ru, .ref co, .int (nI rs.length), .int hp, .int (nI st0), .long (lN t0)])), (co, .inr (1, [.ref ct, .ref ca, .int (nI ((zC ad mq).length))])), (ct, .inl ((kA 1), 64, .inr (.inl f))), (ca, .inl ((kA 5), 64, .inr (.inr (.inr (.inr g)))))] sz0) ru ∧ RsAt D kA (fun q => ¬ (va_A [(x, .inr (5, [.ref tp, .ref ln, .ref bf, .ref tr, .ref ru, .ref co, .int (nI rs.length), .int hp, .int (nI st0), .long (lN t0)])), (co, .inr (1, [.ref ct, .ref ca, .int (nI ((zC ad mq).length))])), (ct, .inl ((kA 1), 64, .inr (.inl f))), (ca, .inl ((kA 5), 64, .inr (.inr (.inr (.inr g)))))] sz0) q) H rf rs ad ∧ zQok rs mq ∧ CoRep (zC ad mq) f g ∧ BsAt D kA (fun q => ¬ (va_A [(x, .inr (5, [.ref tp, .ref ln, .ref bf, .ref tr, .ref ru, .ref co, .int (nI rs.length), .int hp, .int (nI st0), .long (lN t0)])), (co, .inr (1, [.ref ct, .ref ca, .int (nI ((zC ad mq).length))])), (ct, .inl ((kA 1), 64, .inr (.inl f))), (ca, .inl ((kA 5), 64, .inr (.inr (.inr (.inr g)))))] sz0) q) H ln lnl lns)) (zk_mQ (fun v H => v = none ∧ ∃ f' g', va_P D classes [(x, .inr (5, [.ref tp, .ref ln, .ref bf, .ref tr, .ref ru, .ref co, .int (nI rs.length), .int hp, .int (nI (zNext rs st0 (zFirst rs st0 lns))), .long (lN t0)])), (co, .inr (1, [.ref ct, .ref ca, .int (nI (zC ad (zPush rs t0 mq (zFirst rs st0 lns))).length)])), (ct, .inl (kA 1, 64, .inr (.inl f'))), (ca, .inl (kA 5, 64, .inr (.inr (.inr (.inr g')))))] H ∧ va_D (va_A [(x, .inr (5, [.ref tp, .ref ln, .ref bf, .ref tr, .ref ru, .ref co, .int (nI rs.length), .int hp, .int (nI st0), .long (lN t0)])), (co, .inr (1, [.ref ct, .ref ca, .int (nI ((zC ad mq).length))])), (ct, .inl ((kA 1), 64, .inr (.inl f))), (ca, .inl ((kA 5), 64, .inr (.inr (.inr (.inr g)))))] sz0) [(x, .inr (5, [.ref tp, .ref ln, .ref bf, .ref tr, .ref ru, .ref co, .int (nI rs.length), .int hp, .int (nI (zNext rs st0 (zFirst rs st0 lns))), .long (lN t0)])), (co, .inr (1, [.ref ct, .ref ca, .int (nI (zC ad (zPush rs t0 mq (zFirst rs st0 lns))).length)])), (ct, .inl (kA 1, 64, .inr (.inl f'))), (ca, .inl (kA 5, 64, .inr (.inr (.inr (.inr g')))))] ∧ CoRep (zC ad (zPush rs t0 mq (zFirst rs st0 lns))) f' g') (va_A [(x, .inr (5, [.ref tp, .ref ln, .ref bf, .ref tr, .ref ru, .ref co, .int (nI rs.length), .int hp, .int (nI st0), .long (lN t0)])), (co, .inr (1, [.ref ct, .ref ca, .int (nI ((zC ad mq).length))])), (ct, .inl ((kA 1), 64, .inr (.inl f))), (ca, .inl ((kA 5), 64, .inr (.inr (.inr (.inr g)))))] sz0)) 0 0 (va_A [(x, .inr (5, [.ref tp, .ref ln, .ref bf, .ref tr, .ref ru, .ref co, .int (nI rs.length), .int hp, .int (nI st0), .long (lN t0)])), (co, .inr (1, [.ref ct, .ref ca, .int (nI ((zC ad mq).length))])), (ct, .inl ((kA 1), 64, .inr (.inl f))), (ca, .inl ((kA 5), 64, .inr (.inr (.inr (.inr g)))))] sz0) := by
  refine zk_of [.ref x] (by decide) (Nat.le_of_ble_eq_true rfl) ?_
  intro p e s m below meth c S hr hlk hnm hK hX hpre ls hl
  obtain ⟨hx, hb, hml, hown, ht⟩ := id S
  have hl : lv_has ls 3 [(0, .ref x)] := hl
  obtain ⟨hsz, hP, hD0, hru, hruA, hrs0, hmq, hrep, hln⟩ := hpre
  subst hsz
  have hD := hD0.self (sz := s.heap.size)
  generalize hAe : va_A [(x, .inr (5, [.ref tp, .ref ln, .ref bf, .ref tr, .ref ru, .ref co, .int (nI rs.length), .int hp, .int (nI st0), .long (lN t0)])), (co, .inr (1, [.ref ct, .ref ca, .int (nI ((zC ad mq).length))])), (ct, .inl ((kA 1), 64, .inr (.inl f))), (ca, .inl ((kA 5), 64, .inr (.inr (.inr (.inr g)))))] s.heap.size = A at hD hruA hrs0 hln ⊢
  have hA : ∀ q : Nat, s.heap.size ≤ q → A q := fun q h => by rw [← hAe]; exact Or.inr h
  have hS : va_S A s.heap s.heap [] := va_S.rf
  have hP : va_P D classes [(x, .inr (5, [.ref tp, .ref ln, .ref bf, .ref tr, .ref ru, .ref co, .int (nI rs.length), .int hp, .int (nI st0), .long (lN t0)])), (co, .inr (1, [.ref ct, .ref ca, .int (nI ((zC ad mq).length))])), (ct, .inl ((kA 1), 64, .inr (.inl f))), (ca, .inl ((kA 5), 64, .inr (.inr (.inr (.inr g)))))] s.heap := hP
  refine lv_iconst (v := 0) hx hb d_Peer_answerLine_0 (by decide) ?_
  refine lv_istore_n (lv' := [(1, .int 0), (0, .ref x)]) hx hb d_Peer_answerLine_1 rfl hl (by decide) rfl (fun ls hl => ?_)
  have lp : ∀ (fu : Nat) (i : Nat), rs.length - i < fu → i ≤ rs.length → (∀ j, j < i → ¬ ((rs.getD j zR0).1 = st0 ∧ zFits (rs.getD j zR0).2.1 lns)) → ∀ (H : Heap) (locs : List Loc), va_P D classes [(x, .inr (5, [.ref tp, .ref ln, .ref bf, .ref tr, .ref ru, .ref co, .int (nI rs.length), .int hp, .int (nI st0), .long (lN t0)])), (co, .inr (1, [.ref ct, .ref ca, .int (nI ((zC ad mq).length))])), (ct, .inl ((kA 1), 64, .inr (.inl f))), (ca, .inl ((kA 5), 64, .inr (.inr (.inr (.inr g)))))] H → va_D A [(x, .inr (5, [.ref tp, .ref ln, .ref bf, .ref tr, .ref ru, .ref co, .int (nI rs.length), .int hp, .int (nI st0), .long (lN t0)])), (co, .inr (1, [.ref ct, .ref ca, .int (nI ((zC ad mq).length))])), (ct, .inl ((kA 1), 64, .inr (.inl f))), (ca, .inl ((kA 5), 64, .inr (.inr (.inr (.inr g)))))] → va_S A s.heap H locs → ∀ ls : Array Slot, lv_has ls 3 [(0, .ref x), (1, .int (nI i))] → W p l e { frames := 5, cells := 0, slots := 0, locals := 126 } s m [.ref x].toArray below meth c H locs 0 0 (MQ below (zk_mQ (fun v H => v = none ∧ ∃ f' g', va_P D classes [(x, .inr (5, [.ref tp, .ref ln, .ref bf, .ref tr, .ref ru, .ref co, .int (nI rs.length), .int hp, .int (nI (zNext rs st0 (zFirst rs st0 lns))), .long (lN t0)])), (co, .inr (1, [.ref ct, .ref ca, .int (nI (zC ad (zPush rs t0 mq (zFirst rs st0 lns))).length)])), (ct, .inl (kA 1, 64, .inr (.inl f'))), (ca, .inl (kA 5, 64, .inr (.inr (.inr (.inr g')))))] H ∧ va_D A [(x, .inr (5, [.ref tp, .ref ln, .ref bf, .ref tr, .ref ru, .ref co, .int (nI rs.length), .int hp, .int (nI (zNext rs st0 (zFirst rs st0 lns))), .long (lN t0)])), (co, .inr (1, [.ref ct, .ref ca, .int (nI (zC ad (zPush rs t0 mq (zFirst rs st0 lns))).length)])), (ct, .inl (kA 1, 64, .inr (.inl f'))), (ca, .inl (kA 5, 64, .inr (.inr (.inr (.inr g')))))] ∧ CoRep (zC ad (zPush rs t0 mq (zFirst rs st0 lns))) f' g') A) [.ref x].toArray s 0 0 A) (F0 m 2 ls []) := by
    intro fu
    induction fu with
    | zero => intro i hfu; exact absurd hfu (Nat.not_lt_zero _)
    | succ fu ih =>
      intro i hfu hi hno H locs hP hD hS ls hl
      refine lv_iload_n hx hb d_Peer_answerLine_2 rfl (lv_at hl 1 rfl) ?_
      refine lv_aload_n hx hb d_Peer_answerLine_3 rfl (lv_at hl 0 rfl) ?_
      refine zk_get (C := R_Peer) (T := F_Peer) (N := 10) S hK (hP 0 _ rfl) rfl i_Peer 6 (by decide) m_Peer_41 rfl rfl d_Peer_answerLine_4 ?_
      refine lv_icmp_ge (tgt := 91) hx hb d_Peer_answerLine_7 (by decide) (fun c7 => ?_) (fun c7 => ?_)
      · have hge : rs.length ≤ i := (nI_leI (by omega) (by omega)).mp c7
        have hfi : (zFirst rs st0 lns) = none := zFirst_none (fun j hj => hno j (by omega))
        rw [hfi]
        exact zk_vret S hr hlk hS ⟨rfl, f, g, hP, hD, hrep⟩ (Nat.le_refl _) (Nat.le_refl _) d_Peer_answerLine_91
      · have hlt : i < rs.length := Nat.not_le.mp fun z => c7 (nI_le z (by omega))
        obtain ⟨q, hq0, pa, ⟨hqZ, hqa⟩, hpt, hba, hb1, hb2, hb3, hb4⟩ := hrs0 i hlt
        refine lv_iload_n hx hb d_Peer_answerLine_10 rfl (lv_at hl 1 rfl) ?_
        refine lv_aload_n hx hb d_Peer_answerLine_11 rfl (lv_at hl 0 rfl) ?_
        refine zk_get (C := R_Peer) (T := F_Peer) (N := 10) S hK (hP 0 _ rfl) rfl i_Peer 4 (by decide) m_Peer_30 rfl rfl d_Peer_answerLine_12 ?_
        refine zk_alen S hK 4 (zk_ro hS hru hruA) rfl (v := nI 64) rfl d_Peer_answerLine_15 ?_
        refine lv_icmp_ge (tgt := 91) hx hb d_Peer_answerLine_16 (by decide) (fun c16 => ?_) (fun c16 => ?_)
        · exact absurd ((nI_leI (by omega) (by omega)).mp c16) (by omega)
        · refine lv_aload_n hx hb d_Peer_answerLine_19 rfl (lv_at hl 0 rfl) ?_
          refine zk_get (C := R_Peer) (T := F_Peer) (N := 10) S hK (hP 0 _ rfl) rfl i_Peer 4 (by decide) m_Peer_30 rfl rfl d_Peer_answerLine_20 ?_
          refine lv_iload_n hx hb d_Peer_answerLine_23 rfl (lv_at hl 1 rfl) ?_
          refine zk_aald S hK 4 (zk_ro hS hru hruA) rfl (vp_in_nI (by omega) (by omega)) d_Peer_answerLine_24 ?_
          refine zk_top (v' := .ref q) (by rw [nI_clamp (by omega), hq0]; rfl) ?_
          refine lv_astore_n (lv' := [(2, .ref q), (0, .ref x), (1, .int (nI i))]) hx hb d_Peer_answerLine_25 rfl hl (by decide) rfl (fun ls hl => ?_)
          refine lv_aload_n hx hb d_Peer_answerLine_26 rfl (lv_at hl 0 rfl) ?_
          refine lv_ifnull hx hb d_Peer_answerLine_27 ?_
          refine lv_aload_n hx hb d_Peer_answerLine_30 rfl (lv_at hl 0 rfl) ?_
          refine va_getN (D := D) (ci := 4) (C := R_Rule) (T := F_Rule) (N := 5) hx hb ht i_Rule hown hK (zk_P1 (zk_ro hS hqa hqZ)) 0 rfl rfl 0 (by decide) (va_Nw.use rfl hX.1.1) (fun _ h9 => h9) rfl d_Peer_answerLine_31 ?_
          refine lv_aload_n hx hb d_Peer_answerLine_34 rfl (lv_at hl 1 rfl) ?_
          refine zk_get (C := R_Peer) (T := F_Peer) (N := 10) S hK (hP 0 _ rfl) rfl i_Peer 8 (by decide) m_Peer_49 rfl rfl d_Peer_answerLine_35 ?_
          refine lv_icmp_ne (tgt := 85) hx hb d_Peer_answerLine_38 (by decide) (fun c38 => ?_) (fun c38 => ?_)
          · have hnh : ¬ ((rs.getD i zR0).1 = st0 ∧ zFits (rs.getD i zR0).2.1 lns) := fun z => c38 (by rw [z.1])
            refine lv_iinc (v := (nI (i + 1))) (lv' := [(1, .int (nI (i + 1))), (2, .ref q), (0, .ref x)]) hx hb d_Peer_answerLine_85 hl (k := 2) rfl (nI_1 i) (by decide) rfl (fun ls hl => ?_)
            refine lv_goto (tgt := 2) hx hb d_Peer_answerLine_88 (by decide) ?_
            exact ih (i + 1) (by omega) (by omega) (fun j hj => by
              by_cases z : j = i
              · rw [z]; exact hnh
              · exact hno j (by omega)) _ _ (hP.sub [0, 1, 2, 3] rfl) (hD.sub [0, 1, 2, 3] (by decide) rfl) hS ls (lv_sub hl [2, 0] rfl)
          · have hse : (rs.getD i zR0).1 = st0 := (nI_eq (by omega) (by omega)).mp c38
            refine lv_aload_n hx hb d_Peer_answerLine_41 rfl (lv_at hl 0 rfl) ?_
            refine va_getN (D := D) (ci := 4) (C := R_Rule) (T := F_Rule) (N := 5) hx hb ht i_Rule hown hK (zk_P1 (zk_ro hS hqa hqZ)) 0 rfl rfl 1 (by decide) (va_Nw.use rfl hX.1.2.1) (fun _ h9 => h9) rfl d_Peer_answerLine_42 ?_
            refine lv_aload_n hx hb d_Peer_answerLine_45 rfl (lv_at hl 1 rfl) ?_
            refine zk_get (C := R_Peer) (T := F_Peer) (N := 10) S hK (hP 0 _ rfl) rfl i_Peer 1 (by decide) m_Peer_18 rfl rfl d_Peer_answerLine_46 ?_
            refine zk_pureE (zk_runV (As := [.ref ln]) (rest := []) S m_Peer_157 (c_Pattern_fitsWhole l D kA (fun q => ¬ A q) pa (zIts (rs.getD i zR0).2.1) ln lnl lns) rfl rfl ⟨Nat.le_of_ble_eq_true rfl, Nat.le_of_ble_eq_true rfl⟩ hK hX ((by
              obtain ⟨sa, za, mm, sf, zf, ⟨ha, -, -⟩, hpa, -⟩ := hpt
              exact zk_recv hK (zk_ro hS hpa ha) rfl)) (⟨hpt.ro hS, hln.ro hS⟩) rfl hl.1 rfl (Nat.le_of_ble_eq_true rfl) ⟨Nat.le_of_ble_eq_true rfl, Nat.le_of_ble_eq_true rfl⟩ d_Peer_answerLine_49) (fun v hv => ?_)
            rcases hv with ⟨hf1, rfl⟩ | ⟨hf1, rfl⟩
            · refine lv_if_eq (tgt := 85) hx hb d_Peer_answerLine_52 (by decide) (fun c52 => ?_) (fun c52 => ?_)
              · exact absurd c52 (by decide)
              · refine lv_aload_n hx hb d_Peer_answerLine_55 rfl (lv_at hl 1 rfl) ?_
                refine lv_aload_n hx hb d_Peer_answerLine_56 rfl (lv_at hl 0 rfl) ?_
                refine va_getN (D := D) (ci := 4) (C := R_Rule) (T := F_Rule) (N := 5) hx hb ht i_Rule hown hK (zk_P1 (zk_ro hS hqa hqZ)) 0 rfl rfl 4 (by decide) (va_Nw.use rfl hX.1.2.2.1) (fun _ h9 => h9) rfl d_Peer_answerLine_57 ?_
                refine va_put (D := D) (ci := 5) (v := .int (nI (rs.getD i zR0).2.2.2.2)) (ty := .int) (C := R_Peer) (T := F_Peer) (N := 10) hx hb ht i_Peer t_Peer t_Peer_ok n_Peer hown hK hP hD hS 0 rfl rfl 8 (by decide) (ht _ m_Peer_49) (fun _ h9 => h9) rfl (by decide +kernel) rfl rfl (Nat.le_of_ble_eq_true rfl) d_Peer_answerLine_60 (fun H locs hP hD hS => ?_)
                have hP : va_P D classes [(x, .inr (5, [.ref tp, .ref ln, .ref bf, .ref tr, .ref ru, .ref co, .int (nI rs.length), .int hp, .int (nI (rs.getD i zR0).2.2.2.2), .long (lN t0)])), (co, .inr (1, [.ref ct, .ref ca, .int (nI ((zC ad mq).length))])), (ct, .inl ((kA 1), 64, .inr (.inl f))), (ca, .inl ((kA 5), 64, .inr (.inr (.inr (.inr g)))))] H := hP
                have hD : va_D A [(x, .inr (5, [.ref tp, .ref ln, .ref bf, .ref tr, .ref ru, .ref co, .int (nI rs.length), .int hp, .int (nI (rs.getD i zR0).2.2.2.2), .long (lN t0)])), (co, .inr (1, [.ref ct, .ref ca, .int (nI ((zC ad mq).length))])), (ct, .inl ((kA 1), 64, .inr (.inl f))), (ca, .inl ((kA 5), 64, .inr (.inr (.inr (.inr g)))))] := hD
                refine lv_aload_n hx hb d_Peer_answerLine_63 rfl (lv_at hl 1 rfl) ?_
                refine zk_get (C := R_Peer) (T := F_Peer) (N := 10) S hK (hP 0 _ rfl) rfl i_Peer 5 (by decide) m_Peer_37 rfl rfl d_Peer_answerLine_64 ?_
                refine lv_aload_n hx hb d_Peer_answerLine_67 rfl (lv_at hl 1 rfl) ?_
                refine zk_get (C := R_Peer) (T := F_Peer) (N := 10) S hK (hP 0 _ rfl) rfl i_Peer 9 (by decide) m_Peer_52 rfl rfl d_Peer_answerLine_68 ?_
                refine lv_aload_n hx hb d_Peer_answerLine_71 rfl (lv_at hl 0 rfl) ?_
                refine va_getN (D := D) (ci := 4) (C := R_Rule) (T := F_Rule) (N := 5) hx hb ht i_Rule hown hK (zk_P1 (zk_ro hS hqa hqZ)) 0 rfl rfl 3 (by decide) (va_Nw.use rfl hX.1.2.2.2.1) (fun _ h9 => h9) rfl d_Peer_answerLine_72 ?_
                refine lv_i2l hx hb d_Peer_answerLine_75 rfl ?_
                refine zk_tl (z := lN (rs.getD i zR0).2.2.2.1) (nI_l (by omega)) ?_
                refine lv_ladd hx hb d_Peer_answerLine_76 ?_
                refine zk_tl (z := lN (t0 + (rs.getD i zR0).2.2.2.1)) (lN_add _ _) ?_
                refine lv_aload_n hx hb d_Peer_answerLine_77 rfl (lv_at hl 0 rfl) ?_
                refine va_getN (D := D) (ci := 4) (C := R_Rule) (T := F_Rule) (N := 5) hx hb ht i_Rule hown hK (zk_P1 (zk_ro hS hqa hqZ)) 0 rfl rfl 2 (by decide) (va_Nw.use rfl hX.1.2.2.2.2) (fun _ h9 => h9) rfl d_Peer_answerLine_78 ?_
                have hfi : (zFirst rs st0 lns) = some i := zFirst_some hlt ⟨hse, hf1⟩ hno
                rw [hfi]
                have hFc := va_free (wc := [(co, .inr (1, [.ref ct, .ref ca, .int (nI ((zC ad mq).length))])), (ct, .inl ((kA 1), 64, .inr (.inl f))), (ca, .inl ((kA 5), 64, .inr (.inr (.inr (.inr g)))))]) hD hS hA [1, 2, 3] rfl
                refine zk_mut (zk_runV (As := [.long (lN (t0 + (rs.getD i zR0).2.2.2.1)), .ref (ad i)]) (rest := []) S m_Peer_170 (c_Coming_add l D kA co ct ca f g (zC ad mq) (t0 + (rs.getD i zR0).2.2.2.1) (ad i) 200 (rs.getD i zR0).2.2.1 (by omega) (by rw [zC_len]; exact hmq.1) H.size) rfl rfl ⟨Nat.le_of_ble_eq_true rfl, Nat.le_of_ble_eq_true rfl⟩ hK hX (zk_recv hK (hP 1 _ rfl) rfl) ⟨rfl, hP.sub (ws' := [(co, .inr (1, [.ref ct, .ref ca, .int (nI ((zC ad mq).length))])), (ct, .inl ((kA 1), 64, .inr (.inl f))), (ca, .inl ((kA 5), 64, .inr (.inr (.inr (.inr g)))))]) [1, 2, 3] rfl, (hD.sub (ws' := [(co, .inr (1, [.ref ct, .ref ca, .int (nI ((zC ad mq).length))])), (ct, .inl ((kA 1), 64, .inr (.inl f))), (ca, .inl ((kA 5), 64, .inr (.inr (.inr (.inr g)))))]) [1, 2, 3] (by decide) rfl).weaken (fun _ _ _ _ => trivial), hrep, hmq.co ((hrs0.ro hS).weaken (fun q hq hz => hq (hFc q hz))), (hba.ro hS).weaken (fun q hq hz => hq (hFc q hz))⟩ rfl hl.1 rfl (Nat.le_of_ble_eq_true rfl) ⟨Nat.le_of_ble_eq_true rfl, Nat.le_of_ble_eq_true rfl⟩ d_Peer_answerLine_81) hS hFc hFc (fun v H locs hpost hz1 hk1 hS => ?_)
                obtain ⟨rfl, hpost⟩ := hpost
                obtain ⟨f', g', hP1, hD1, hrep'⟩ := zPush_post hpost
                obtain ⟨hP, hD⟩ := va_join (wr := [(x, .inr (5, [.ref tp, .ref ln, .ref bf, .ref tr, .ref ru, .ref co, .int (nI rs.length), .int hp, .int (nI (rs.getD i zR0).2.2.2.2), .long (lN t0)]))]) (w1 := wC kA co ct ca (zC ad (zPush rs t0 mq (some i))).length f' g') hP hD [1, 2, 3] [0] rfl rfl (by decide) (by decide) hk1 hFc hP1 hD1
                refine W.eq (g2 := F0 m 84 ls []) rfl ?_
                exact zk_vret S hr hlk hS ⟨rfl, f', g', hP, hD, hrep'⟩ (Nat.le_refl _) (Nat.le_refl _) d_Peer_answerLine_84
            · refine lv_if_eq (tgt := 85) hx hb d_Peer_answerLine_52 (by decide) (fun c52 => ?_) (fun c52 => ?_)
              · have hnh : ¬ ((rs.getD i zR0).1 = st0 ∧ zFits (rs.getD i zR0).2.1 lns) := fun z => hf1 z.2
                refine lv_iinc (v := (nI (i + 1))) (lv' := [(1, .int (nI (i + 1))), (2, .ref q), (0, .ref x)]) hx hb d_Peer_answerLine_85 hl (k := 2) rfl (nI_1 i) (by decide) rfl (fun ls hl => ?_)
                refine lv_goto (tgt := 2) hx hb d_Peer_answerLine_88 (by decide) ?_
                exact ih (i + 1) (by omega) (by omega) (fun j hj => by
                  by_cases z : j = i
                  · rw [z]; exact hnh
                  · exact hno j (by omega)) _ _ (hP.sub [0, 1, 2, 3] rfl) (hD.sub [0, 1, 2, 3] (by decide) rfl) hS ls (lv_sub hl [2, 0] rfl)
              · exact absurd rfl c52
  exact lp (rs.length + 1) 0 (by omega) (Nat.zero_le _) (fun j hj => absurd hj (Nat.not_lt_zero j)) _ _ (hP.sub [0, 1, 2, 3] rfl) (hD.sub [0, 1, 2, 3] (by decide) rfl) hS ls (lv_sub hl [1, 0] rfl)
end
section
abbrev zGs : Type := List Nat × Nat × Nat × List (Nat × Nat)
/-- a byte that the peer gets: its line, the line's room, its state, what is to come -/
noncomputable def zG1 (rs : List zRule) (t0 v : Nat) (u : zGs) : zGs := if v = 10 then ([], u.2.1, zNext rs u.2.2.1 (zFirst rs u.2.2.1 u.1), zPush rs t0 u.2.2.2 (zFirst rs u.2.2.1 u.1)) else (zApp 1024 u.1 v, zCap 1024 u.2.1 u.1.length, u.2.2.1, u.2.2.2)
noncomputable def zGv (rs : List zRule) (t0 : Nat) (l : List Nat) (u : zGs) : zGs := l.foldl (fun u v => zG1 rs t0 v u) u
theorem zGv_snoc {rs : List zRule} {t0 : Nat} {tps : List Nat} {i : Nat} {u : zGs} (h : i < tps.length) : zGv rs t0 (tps.take (i + 1)) u = zG1 rs t0 (tps.getD i 0) (zGv rs t0 (tps.take i) u) := by
  unfold zGv
  rw [List.take_succ_eq_append_getElem h, List.foldl_append, zgetD h]
  rfl
theorem zGv_rest {rs : List zRule} {t0 : Nat} {tps : List Nat} {i : Nat} {u : zGs} : zGv rs t0 tps u = zGv rs t0 (tps.drop i) (zGv rs t0 (tps.take i) u) := by
  unfold zGv
  rw [← List.foldl_append, List.take_append_drop]
def zGok (u : zGs) : Prop := u.1.length ≤ u.2.1 ∧ u.2.1 ≤ 1024 ∧ 0 < u.2.1
theorem zG1_ok {rs : List zRule} {t0 v : Nat} {u : zGs} (h : zGok u) : zGok (zG1 rs t0 v u) ∧ u.2.1 ≤ (zG1 rs t0 v u).2.1 := by
  obtain ⟨h1, h2, h3⟩ := h
  unfold zG1
  by_cases hv : v = 10
  · rw [if_pos hv]
    exact ⟨⟨Nat.zero_le _, h2, h3⟩, Nat.le_refl _⟩
  · rw [if_neg hv]
    have g1 := zCap_ge (lim := 1024) h1
    have g2 := zCap_le (sz := u.1.length) h2
    refine ⟨⟨?_, g2, by show 0 < zCap 1024 u.2.1 u.1.length; omega⟩, g1⟩
    show (zApp 1024 u.1 v).length ≤ zCap 1024 u.2.1 u.1.length
    unfold zApp zCap
    split
    · rename_i h4
      rw [List.length_append]
      simp only [List.length_cons, List.length_nil]
      split
      · omega
      · rw [if_neg (by omega)]
        omega
    · split
      · omega
      · split <;> omega
theorem zGv_ok {rs : List zRule} {t0 : Nat} : ∀ (l : List Nat) (u : zGs), zGok u → zGok (zGv rs t0 l u) ∧ u.2.1 ≤ (zGv rs t0 l u).2.1
  | [], u, h => ⟨h, Nat.le_refl _⟩
  | v :: l, u, h => by
    obtain ⟨h1, h2⟩ := zG1_ok (rs := rs) (t0 := t0) (v := v) h
    obtain ⟨h3, h4⟩ := zGv_ok (rs := rs) (t0 := t0) l (zG1 rs t0 v u) h1
    exact ⟨h3, Nat.le_trans h2 h4⟩
def zRok (rs : List zRule) : Prop := ∀ i, i < rs.length → (rs.getD i zR0).1 ≤ 31 ∧ (rs.getD i zR0).2.2.2.1 ≤ 1000 ∧ (rs.getD i zR0).2.2.2.2 ≤ 31
theorem RsAt.ok {D : va_G} {kA : Nat → ClassId} {Z : Nat → Prop} {H : Heap} {rf : Nat → Option Nat} {rs : List zRule} {ad : Nat → Nat} (h : RsAt D kA Z H rf rs ad) : zRok rs := fun i hi => by
  obtain ⟨q, -, pa, -, -, -, h1, h2, h3, -⟩ := h i hi
  exact ⟨h1, h2, h3⟩
theorem zFirst_lt {rs : List zRule} {st i : Nat} {ln : List Nat} (h : zFirst rs st ln = some i) : i < rs.length := by
  unfold zFirst at h
  rw [List.findIdx?_eq_some_iff_getElem] at h
  exact h.1
theorem zQok_push {rs : List zRule} {st t0 : Nat} {ln : List Nat} {mq : List (Nat × Nat)} (hr : zRok rs) (h : zQok rs mq) (ht : t0 < 2 ^ 30) : zQok rs (zPush rs t0 mq (zFirst rs st ln)) := by
  cases hf : zFirst rs st ln with
  | none => exact h
  | some i =>
    have hi := zFirst_lt hf
    show zQok rs (if mq.length < 64 then mq ++ [(t0 + (rs.getD i zR0).2.2.2.1, i)] else mq)
    split
    · rename_i hl
      refine ⟨by rw [List.length_append]; simp; omega, fun q hq => ?_⟩
      rcases List.mem_append.mp hq with h1 | h1
      · exact h.2 q h1
      · rw [List.mem_singleton.mp h1]
        exact ⟨hi, by show t0 + (rs.getD i zR0).2.2.2.1 < 2 ^ 31; have := (hr i hi).2.1; omega⟩
    · exact h
theorem zNext_le {rs : List zRule} {st B : Nat} {ln : List Nat} (hr : zRok rs) (hB : 31 ≤ B) (h : st ≤ B) : zNext rs st (zFirst rs st ln) ≤ B := by
  cases hf : zFirst rs st ln with
  | none => exact h
  | some i =>
    have := (hr i (zFirst_lt hf)).2.2
    show (rs.getD i zR0).2.2.2.2 ≤ B
    omega
set_option maxHeartbeats 4000000 in
set_option maxRecDepth 100000 in
/-- PeerLine.giveTapeToPeer() -/
theorem c_Peer_giveTapeToPeer (l : Launch) (D : va_G) (kA : Nat → ClassId) (x tp ln bf tr ru co ct ca : Nat) (hp : Int32) (f : Nat → Int64) (g : Nat → Option Nat) (rf : Nat → Option Nat) (rs : List zRule) (ad : Nat → Nat) (mq : List (Nat × Nat)) (st0 t0 : Nat) (hst : st0 < 2 ^ 30) (ht0 : t0 < 2 ^ 30) (hrs : rs.length ≤ 64) (lr n tpl : Nat) (fl : Nat → Int32) (lns tps : List Nat) (sz0 : Nat) : Met l y_Peer_giveTapeToPeer (Cond.code y_Peer_giveTapeToPeer b_Peer_giveTapeToPeer 3 none :: zTB) { frames := 6, cells := (zGv rs t0 tps (lns, n, st0, mq)).2.1 - n, slots := 3 * ((zGv rs t0 tps (lns, n, st0, mq)).2.1 - n), locals := 148 } (zk_Pc D classes (zTY kA) [.ref x] (fun H => H.size = sz0 ∧ va_P D classes [(x, .inr (5, [.ref tp, .ref ln, .ref bf, .ref tr, .ref ru, .ref co, .int (nI rs.length), .int hp, .int (nI (lns, n, st0, mq).2.2.1), .long (lN t0)])), (co, .inr (1, [.ref ct, .ref ca, .int (nI (zC ad (lns, n, st0, mq).2.2.2).length)])), (ct, .inl ((kA 1), 64, .inr (.inl f))), (ca, .inl ((kA 5), 64, .inr (.inr (.inr (.inr g))))), (ln, .inr (0, [.int (nI 1024), .ref lr, .int (nI (lns, n, st0, mq).1.length)])), (lr, .inl ((kA 0), (lns, n, st0, mq).2.1, .inl fl))] H ∧ va_D (fun _ => True) [(x, .inr (5, [.ref tp, .ref ln, .ref bf, .ref tr, .ref ru, .ref co, .int (nI rs.length), .int hp, .int (nI (lns, n, st0, mq).2.2.1), .long (lN t0)])), (co, .inr (1, [.ref ct, .ref ca, .int (nI (zC ad (lns, n, st0, mq).2.2.2).length)])), (ct, .inl ((kA 1), 64, .inr (.inl f))), (ca, .inl ((kA 5), 64, .inr (.inr (.inr (.inr g))))), (ln, .inr (0, [.int (nI 1024), .ref lr, .int (nI (lns, n, st0, mq).1.length)])), (lr, .inl ((kA 0), (lns, n, st0, mq).2.1, .inl fl))] ∧ va_at D classes (ru, .inl (kA 4, 64, .inr (.inr (.inr (.inr rf))))) H ∧ ¬ (va_A [(x, .inr (5, [.ref tp, .ref ln, .ref bf, .ref tr, .ref ru, .ref co, .int (nI rs.length), .int hp, .int (nI (lns, n, st0, mq).2.2.1), .long (lN t0)])), (co, .inr (1, [.ref ct, .ref ca, .int (nI (zC ad (lns, n, st0, mq).2.2.2).length)])), (ct, .inl ((kA 1), 64, .inr (.inl f))), (ca, .inl ((kA 5), 64, .inr (.inr (.inr (.inr g))))), (ln, .inr (0, [.int (nI 1024), .ref lr, .int (nI (lns, n, st0, mq).1.length)])), (lr, .inl ((kA 0), (lns, n, st0, mq).2.1, .inl fl))] sz0) ru ∧ RsAt D kA (fun q => ¬ (va_A [(x, .inr (5, [.ref tp, .ref ln, .ref bf, .ref tr, .ref ru, .ref co, .int (nI rs.length), .int hp, .int (nI (lns, n, st0, mq).2.2.1), .long (lN t0)])), (co, .inr (1, [.ref ct, .ref ca, .int (nI (zC ad (lns, n, st0, mq).2.2.2).length)])), (ct, .inl ((kA 1), 64, .inr (.inl f))), (ca, .inl ((kA 5), 64, .inr (.inr (.inr (.inr g))))), (ln, .inr (0, [.int (nI 1024), .ref lr, .int (nI (lns, n, st0, mq).1.length)])), (lr, .inl ((kA 0), (lns, n, st0, mq).2.1, .inl fl))] sz0) q) H rf rs ad ∧ zQok rs mq ∧ CoRep (zC ad mq) f g ∧ zBs 1024 n fl lns ∧ BsAt D kA (fun q => ¬ (va_A [(x, .inr (5, [.ref tp, .ref ln, .ref bf, .ref tr, .ref ru, .ref co, .int (nI rs.length), .int hp, .int (nI (lns, n, st0, mq).2.2.1), .long (lN t0)])), (co, .inr (1, [.ref ct, .ref ca, .int (nI (zC ad (lns, n, st0, mq).2.2.2).length)])), (ct, .inl ((kA 1), 64, .inr (.inl f))), (ca, .inl ((kA 5), 64, .inr (.inr (.inr (.inr g))))), (ln, .inr (0, [.int (nI 1024), .ref lr, .int (nI (lns, n, st0, mq).1.length)])), (lr, .inl ((kA 0), (lns, n, st0, mq).2.1, .inl fl))] sz0) q) H tp tpl tps)) (zk_mQ (fun v H => v = none ∧ ∃ f' g' r' fl', va_P D classes [(x, .inr (5, [.ref tp, .ref ln, .ref bf, .ref tr, .ref ru, .ref co, .int (nI rs.length), .int hp, .int (nI (zGv rs t0 tps (lns, n, st0, mq)).2.2.1), .long (lN t0)])), (co, .inr (1, [.ref ct, .ref ca, .int (nI (zC ad (zGv rs t0 tps (lns, n, st0, mq)).2.2.2).length)])), (ct, .inl (kA 1, 64, .inr (.inl f'))), (ca, .inl (kA 5, 64, .inr (.inr (.inr (.inr g'))))), (ln, .inr (0, [.int (nI 1024), .ref r', .int (nI (zGv rs t0 tps (lns, n, st0, mq)).1.length)])), (r', .inl (kA 0, (zGv rs t0 tps (lns, n, st0, mq)).2.1, .inl fl'))] H ∧ va_D (va_A [(x, .inr (5, [.ref tp, .ref ln, .ref bf, .ref tr, .ref ru, .ref co, .int (nI rs.length), .int hp, .int (nI (lns, n, st0, mq).2.2.1), .long (lN t0)])), (co, .inr (1, [.ref ct, .ref ca, .int (nI (zC ad (lns, n, st0, mq).2.2.2).length)])), (ct, .inl ((kA 1), 64, .inr (.inl f))), (ca, .inl ((kA 5), 64, .inr (.inr (.inr (.inr g))))), (ln, .inr (0, [.int (nI 1024), .ref lr, .int (nI (lns, n, st0, mq).1.length)])), (lr, .inl ((kA 0), (lns, n, st0, mq).2.1, .inl fl))] sz0) [(x, .inr (5, [.ref tp, .ref ln, .ref bf, .ref tr, .ref ru, .ref co, .int (nI rs.length), .int hp, .int (nI (zGv rs t0 tps (lns, n, st0, mq)).2.2.1), .long (lN t0)])), (co, .inr (1, [.ref ct, .ref ca, .int (nI (zC ad (zGv rs t0 tps (lns, n, st0, mq)).2.2.2).length)])), (ct, .inl (kA 1, 64, .inr (.inl f'))), (ca, .inl (kA 5, 64, .inr (.inr (.inr (.inr g'))))), (ln, .inr (0, [.int (nI 1024), .ref r', .int (nI (zGv rs t0 tps (lns, n, st0, mq)).1.length)])), (r', .inl (kA 0, (zGv rs t0 tps (lns, n, st0, mq)).2.1, .inl fl'))] ∧ CoRep (zC ad (zGv rs t0 tps (lns, n, st0, mq)).2.2.2) f' g' ∧ zBs 1024 (zGv rs t0 tps (lns, n, st0, mq)).2.1 fl' (zGv rs t0 tps (lns, n, st0, mq)).1) (va_A [(x, .inr (5, [.ref tp, .ref ln, .ref bf, .ref tr, .ref ru, .ref co, .int (nI rs.length), .int hp, .int (nI (lns, n, st0, mq).2.2.1), .long (lN t0)])), (co, .inr (1, [.ref ct, .ref ca, .int (nI (zC ad (lns, n, st0, mq).2.2.2).length)])), (ct, .inl ((kA 1), 64, .inr (.inl f))), (ca, .inl ((kA 5), 64, .inr (.inr (.inr (.inr g))))), (ln, .inr (0, [.int (nI 1024), .ref lr, .int (nI (lns, n, st0, mq).1.length)])), (lr, .inl ((kA 0), (lns, n, st0, mq).2.1, .inl fl))] sz0)) ((zGv rs t0 tps (lns, n, st0, mq)).2.1 - n) (3 * ((zGv rs t0 tps (lns, n, st0, mq)).2.1 - n)) (va_A [(x, .inr (5, [.ref tp, .ref ln, .ref bf, .ref tr, .ref ru, .ref co, .int (nI rs.length), .int hp, .int (nI (lns, n, st0, mq).2.2.1), .long (lN t0)])), (co, .inr (1, [.ref ct, .ref ca, .int (nI (zC ad (lns, n, st0, mq).2.2.2).length)])), (ct, .inl ((kA 1), 64, .inr (.inl f))), (ca, .inl ((kA 5), 64, .inr (.inr (.inr (.inr g))))), (ln, .inr (0, [.int (nI 1024), .ref lr, .int (nI (lns, n, st0, mq).1.length)])), (lr, .inl ((kA 0), (lns, n, st0, mq).2.1, .inl fl))] sz0) := by
  refine zk_of [.ref x] (by decide) (Nat.le_of_ble_eq_true rfl) ?_
  intro p e s m below meth c S hr hlk hnm hK hX hpre ls hl
  obtain ⟨hx, hb, hml, hown, ht⟩ := id S
  have hl : lv_has ls 3 [(0, .ref x)] := hl
  obtain ⟨hsz, hP, hD0, hru, hruA, hrs0, hmq, hrep, hln, htp⟩ := hpre
  subst hsz
  have hD := hD0.self (sz := s.heap.size)
  generalize hAe : va_A [(x, .inr (5, [.ref tp, .ref ln, .ref bf, .ref tr, .ref ru, .ref co, .int (nI rs.length), .int hp, .int (nI (lns, n, st0, mq).2.2.1), .long (lN t0)])), (co, .inr (1, [.ref ct, .ref ca, .int (nI (zC ad (lns, n, st0, mq).2.2.2).length)])), (ct, .inl ((kA 1), 64, .inr (.inl f))), (ca, .inl ((kA 5), 64, .inr (.inr (.inr (.inr g))))), (ln, .inr (0, [.int (nI 1024), .ref lr, .int (nI (lns, n, st0, mq).1.length)])), (lr, .inl ((kA 0), (lns, n, st0, mq).2.1, .inl fl))] s.heap.size = A at hD hruA hrs0 htp ⊢
  have hA : ∀ q : Nat, s.heap.size ≤ q → A q := fun q h => by rw [← hAe]; exact Or.inr h
  have hS : va_S A s.heap s.heap [] := va_S.rf
  have hP : va_P D classes [(x, .inr (5, [.ref tp, .ref ln, .ref bf, .ref tr, .ref ru, .ref co, .int (nI rs.length), .int hp, .int (nI (lns, n, st0, mq).2.2.1), .long (lN t0)])), (co, .inr (1, [.ref ct, .ref ca, .int (nI (zC ad (lns, n, st0, mq).2.2.2).length)])), (ct, .inl ((kA 1), 64, .inr (.inl f))), (ca, .inl ((kA 5), 64, .inr (.inr (.inr (.inr g))))), (ln, .inr (0, [.int (nI 1024), .ref lr, .int (nI (lns, n, st0, mq).1.length)])), (lr, .inl ((kA 0), (lns, n, st0, mq).2.1, .inl fl))] s.heap := hP
  obtain ⟨to, tn, tf, htz1, htz2, htO1, htO2, htO3⟩ := id htp
  obtain ⟨g1, g2, g3, g4, g5⟩ := id htO3
  obtain ⟨h1, h2, h3, h4, h5⟩ := id hln
  have hrok := hrs0.ok
  have hok0 : zGok (lns, n, st0, mq) := ⟨h1, h2, by show 0 < n; omega⟩
  refine lv_iconst (v := 0) hx hb d_Peer_giveTapeToPeer_0 (by decide) ?_
  refine lv_istore_n (lv' := [(1, .int 0), (0, .ref x)]) hx hb d_Peer_giveTapeToPeer_1 rfl hl (by decide) rfl (fun ls hl => ?_)
  have lp : ∀ (fu : Nat) (i : Nat) (u : zGs) (f1 : Nat → Int64) (gg1 : Nat → Option Nat) (r1 : Nat) (fl1 : Nat → Int32), tps.length - i < fu → i ≤ tps.length → u = zGv rs t0 (tps.take i) (lns, n, st0, mq) → u.2.2.1 < 2 ^ 30 → zQok rs u.2.2.2 → CoRep (zC ad u.2.2.2) f1 gg1 → zBs 1024 u.2.1 fl1 u.1 → ∀ (H : Heap) (locs : List Loc), va_P D classes [(x, .inr (5, [.ref tp, .ref ln, .ref bf, .ref tr, .ref ru, .ref co, .int (nI rs.length), .int hp, .int (nI u.2.2.1), .long (lN t0)])), (co, .inr (1, [.ref ct, .ref ca, .int (nI (zC ad u.2.2.2).length)])), (ct, .inl ((kA 1), 64, .inr (.inl f1))), (ca, .inl ((kA 5), 64, .inr (.inr (.inr (.inr gg1))))), (ln, .inr (0, [.int (nI 1024), .ref r1, .int (nI u.1.length)])), (r1, .inl ((kA 0), u.2.1, .inl fl1))] H → va_D A [(x, .inr (5, [.ref tp, .ref ln, .ref bf, .ref tr, .ref ru, .ref co, .int (nI rs.length), .int hp, .int (nI u.2.2.1), .long (lN t0)])), (co, .inr (1, [.ref ct, .ref ca, .int (nI (zC ad u.2.2.2).length)])), (ct, .inl ((kA 1), 64, .inr (.inl f1))), (ca, .inl ((kA 5), 64, .inr (.inr (.inr (.inr gg1))))), (ln, .inr (0, [.int (nI 1024), .ref r1, .int (nI u.1.length)])), (r1, .inl ((kA 0), u.2.1, .inl fl1))] → va_S A s.heap H locs → ∀ ls : Array Slot, lv_has ls 3 [(0, .ref x), (1, .int (nI i))] → W p l e { frames := 6, cells := (zGv rs t0 tps (lns, n, st0, mq)).2.1 - n, slots := 3 * ((zGv rs t0 tps (lns, n, st0, mq)).2.1 - n), locals := 148 } s m [.ref x].toArray below meth c H locs (u.2.1 - n) (3 * (u.2.1 - n)) (MQ below (zk_mQ (fun v H => v = none ∧ ∃ f' g' r' fl', va_P D classes [(x, .inr (5, [.ref tp, .ref ln, .ref bf, .ref tr, .ref ru, .ref co, .int (nI rs.length), .int hp, .int (nI (zGv rs t0 tps (lns, n, st0, mq)).2.2.1), .long (lN t0)])), (co, .inr (1, [.ref ct, .ref ca, .int (nI (zC ad (zGv rs t0 tps (lns, n, st0, mq)).2.2.2).length)])), (ct, .inl (kA 1, 64, .inr (.inl f'))), (ca, .inl (kA 5, 64, .inr (.inr (.inr (.inr g'))))), (ln, .inr (0, [.int (nI 1024), .ref r', .int (nI (zGv rs t0 tps (lns, n, st0, mq)).1.length)])), (r', .inl (kA 0, (zGv rs t0 tps (lns, n, st0, mq)).2.1, .inl fl'))] H ∧ va_D A [(x, .inr (5, [.ref tp, .ref ln, .ref bf, .ref tr, .ref ru, .ref co, .int (nI rs.length), .int hp, .int (nI (zGv rs t0 tps (lns, n, st0, mq)).2.2.1), .long (lN t0)])), (co, .inr (1, [.ref ct, .ref ca, .int (nI (zC ad (zGv rs t0 tps (lns, n, st0, mq)).2.2.2).length)])), (ct, .inl (kA 1, 64, .inr (.inl f'))), (ca, .inl (kA 5, 64, .inr (.inr (.inr (.inr g'))))), (ln, .inr (0, [.int (nI 1024), .ref r', .int (nI (zGv rs t0 tps (lns, n, st0, mq)).1.length)])), (r', .inl (kA 0, (zGv rs t0 tps (lns, n, st0, mq)).2.1, .inl fl'))] ∧ CoRep (zC ad (zGv rs t0 tps (lns, n, st0, mq)).2.2.2) f' g' ∧ zBs 1024 (zGv rs t0 tps (lns, n, st0, mq)).2.1 fl' (zGv rs t0 tps (lns, n, st0, mq)).1) A) [.ref x].toArray s ((zGv rs t0 tps (lns, n, st0, mq)).2.1 - n) (3 * ((zGv rs t0 tps (lns, n, st0, mq)).2.1 - n)) A) (F0 m 2 ls []) := by
    intro fu
    induction fu with
    | zero => intro i u f1 gg1 r1 fl1 hfu; exact absurd hfu (Nat.not_lt_zero _)
    | succ fu ih =>
      intro i u f1 gg1 r1 fl1 hfu hi hu hst1 hmq1 hrep1 hb1 H locs hP hD hS ls hl
      have hun : n ≤ u.2.1 ∧ u.2.1 ≤ (zGv rs t0 tps (lns, n, st0, mq)).2.1 := by
        have h8 := (zGv_ok (rs := rs) (t0 := t0) (tps.take i) _ hok0).2
        have h9 := (zGv_ok (rs := rs) (t0 := t0) (tps.drop i) _ (zGv_ok (rs := rs) (t0 := t0) (tps.take i) _ hok0).1).2
        rw [← zGv_rest, ← hu] at h9
        rw [← hu] at h8
        exact ⟨h8, h9⟩
      refine lv_iload_n hx hb d_Peer_giveTapeToPeer_2 rfl (lv_at hl 1 rfl) ?_
      refine lv_aload_n hx hb d_Peer_giveTapeToPeer_3 rfl (lv_at hl 0 rfl) ?_
      refine zk_get (C := R_Peer) (T := F_Peer) (N := 10) S hK (hP 0 _ rfl) rfl i_Peer 0 (by decide) m_Peer_14 rfl rfl d_Peer_giveTapeToPeer_4 ?_
      refine zk_pure (zk_runV (As := []) (rest := [.int (nI i)]) S m_Peer_121 (c_Bytes_size l D kA (fun q => ¬ A q) tp tpl tps) rfl rfl ⟨Nat.le_of_ble_eq_true rfl, Nat.le_of_ble_eq_true rfl⟩ hK hX (zk_recv hK (zk_ro hS htO1 htz1) rfl) (htp.ro hS) rfl hl.1 rfl (Nat.le_of_ble_eq_true rfl) ⟨by
        show _ + 0 ≤ (zGv rs t0 tps (lns, n, st0, mq)).2.1 - n
        omega, by
        show _ + 0 ≤ 3 * ((zGv rs t0 tps (lns, n, st0, mq)).2.1 - n)
        omega⟩ d_Peer_giveTapeToPeer_7) ?_
      refine lv_icmp_ge (tgt := 56) hx hb d_Peer_giveTapeToPeer_10 (by decide) (fun c10 => ?_) (fun c10 => ?_)
      · have hie : i = tps.length := by
          have := (nI_leI (by omega) (by omega)).mp c10
          omega
        rw [hie, List.take_length] at hu
        rw [← hu]
        exact zk_vret S hr hlk hS ⟨rfl, f1, gg1, r1, fl1, hP.sub [0, 1, 2, 3, 4, 5] rfl, hD.sub [0, 1, 2, 3, 4, 5] (by decide) rfl, hrep1, hb1⟩ (Nat.le_refl _) (Nat.le_refl _) d_Peer_giveTapeToPeer_56
      · have hlt : i < tps.length := Nat.not_le.mp fun z => c10 (nI_le z (by omega))
        have hbv := (g5 i hlt).1
        refine lv_aload_n hx hb d_Peer_giveTapeToPeer_13 rfl (lv_at hl 0 rfl) ?_
        refine zk_get (C := R_Peer) (T := F_Peer) (N := 10) S hK (hP 0 _ rfl) rfl i_Peer 0 (by decide) m_Peer_14 rfl rfl d_Peer_giveTapeToPeer_14 ?_
        refine lv_iload_n hx hb d_Peer_giveTapeToPeer_17 rfl (lv_at hl 1 rfl) ?_
        refine zk_pure (zk_runV (As := [.int (nI i)]) (rest := []) S m_Peer_143 (c_Bytes_at l D kA (fun q => ¬ A q) tp tpl tps (nI i)) rfl rfl ⟨Nat.le_of_ble_eq_true rfl, Nat.le_of_ble_eq_true rfl⟩ hK hX (zk_recv hK (zk_ro hS htO1 htz1) rfl) (htp.ro hS) rfl hl.1 rfl (Nat.le_of_ble_eq_true rfl) ⟨by
          show _ + 0 ≤ (zGv rs t0 tps (lns, n, st0, mq)).2.1 - n
          omega, by
          show _ + 0 ≤ 3 * ((zGv rs t0 tps (lns, n, st0, mq)).2.1 - n)
          omega⟩ d_Peer_giveTapeToPeer_18) ?_
        refine zk_ti (z := nI (tps.getD i 0)) (bAt_nI (by omega) hlt) ?_
        refine lv_istore_n (lv' := [(2, .int (nI (tps.getD i 0))), (0, .ref x), (1, .int (nI i))]) hx hb d_Peer_giveTapeToPeer_21 rfl hl (by decide) rfl (fun ls hl => ?_)
        refine lv_iload_n hx hb d_Peer_giveTapeToPeer_22 rfl (lv_at hl 0 rfl) ?_
        refine lv_bipush (v := 10) hx hb d_Peer_giveTapeToPeer_23 (by decide) ?_
        refine lv_icmp_ne (tgt := 42) hx hb d_Peer_giveTapeToPeer_25 (by decide) (fun c25 => ?_) (fun c25 => ?_)
        · have hv10 : (tps.getD i 0) ≠ 10 := fun z => c25 (by rw [z]; rfl)
          refine lv_aload_n hx hb d_Peer_giveTapeToPeer_42 rfl (lv_at hl 1 rfl) ?_
          refine zk_get (C := R_Peer) (T := F_Peer) (N := 10) S hK (hP 0 _ rfl) rfl i_Peer 1 (by decide) m_Peer_18 rfl rfl d_Peer_giveTapeToPeer_43 ?_
          refine lv_iload_n hx hb d_Peer_giveTapeToPeer_46 rfl (lv_at hl 0 rfl) ?_
          have hg1 : zG1 rs t0 (tps.getD i 0) u = (zApp 1024 u.1 (tps.getD i 0), zCap 1024 u.2.1 u.1.length, u.2.2.1, u.2.2.2) := if_neg hv10
          have hmono : zCap 1024 u.2.1 u.1.length ≤ (zGv rs t0 tps (lns, n, st0, mq)).2.1 := by
            have h9 := (zGv_ok (rs := rs) (t0 := t0) (tps.drop (i + 1)) _ (zGv_ok (rs := rs) (t0 := t0) (tps.take (i + 1)) _ hok0).1).2
            rw [← zGv_rest, zGv_snoc hlt, ← hu, hg1] at h9
            exact h9
          have hge9 := zCap_ge (lim := 1024) hb1.1
          have hFc := va_free (wc := [(ln, .inr (0, [.int (nI 1024), .ref r1, .int (nI u.1.length)])), (r1, .inl ((kA 0), u.2.1, .inl fl1))]) hD hS hA [4, 5] rfl
          refine zk_mut (zk_runV (As := [.int (nI (tps.getD i 0))]) (rest := []) S m_Peer_147 (c_Bytes_append l D kA ln r1 1024 u.2.1 fl1 u.1 (nI (tps.getD i 0)) H.size) rfl rfl ⟨Nat.le_of_ble_eq_true rfl, Nat.le_of_ble_eq_true rfl⟩ hK hX (zk_recv hK (hP 4 _ rfl) rfl) ⟨rfl, hP.sub (ws' := [(ln, .inr (0, [.int (nI 1024), .ref r1, .int (nI u.1.length)])), (r1, .inl ((kA 0), u.2.1, .inl fl1))]) [4, 5] rfl, (hD.sub (ws' := [(ln, .inr (0, [.int (nI 1024), .ref r1, .int (nI u.1.length)])), (r1, .inl ((kA 0), u.2.1, .inl fl1))]) [4, 5] (by decide) rfl).weaken (fun _ _ _ _ => trivial), hb1⟩ rfl hl.1 rfl (Nat.le_of_ble_eq_true rfl) ⟨by
            show _ + (_ - _) ≤ (zGv rs t0 tps (lns, n, st0, mq)).2.1 - n
            omega, by
            show _ + 3 * (_ - _) ≤ 3 * ((zGv rs t0 tps (lns, n, st0, mq)).2.1 - n)
            omega⟩ d_Peer_giveTapeToPeer_47) hS hFc hFc (fun v H locs hpost hz1 hk1 hS => ?_)
          obtain ⟨rfl, r2, fl2, hP1, hD1, hb2⟩ := hpost
          obtain ⟨hP, hD⟩ := va_join (wr := [(x, .inr (5, [.ref tp, .ref ln, .ref bf, .ref tr, .ref ru, .ref co, .int (nI rs.length), .int hp, .int (nI u.2.2.1), .long (lN t0)])), (co, .inr (1, [.ref ct, .ref ca, .int (nI (zC ad u.2.2.2).length)])), (ct, .inl ((kA 1), 64, .inr (.inl f1))), (ca, .inl ((kA 5), 64, .inr (.inr (.inr (.inr gg1)))))]) (w1 := [(ln, .inr (0, [.int (nI 1024), .ref r2, .int (nI (zApp 1024 u.1 (zByte (nI (tps.getD i 0)))).length)])), (r2, .inl ((kA 0), (zCap 1024 u.2.1 u.1.length), .inl fl2))]) hP hD [4, 5] [0, 1, 2, 3] rfl rfl (by decide) (by decide) hk1 hFc hP1 hD1
          refine W.eq (g2 := F0 m 50 ls []) rfl ?_
          have hP : va_P D classes [(x, .inr (5, [.ref tp, .ref ln, .ref bf, .ref tr, .ref ru, .ref co, .int (nI rs.length), .int hp, .int (nI u.2.2.1), .long (lN t0)])), (co, .inr (1, [.ref ct, .ref ca, .int (nI (zC ad u.2.2.2).length)])), (ct, .inl ((kA 1), 64, .inr (.inl f1))), (ca, .inl ((kA 5), 64, .inr (.inr (.inr (.inr gg1))))), (ln, .inr (0, [.int (nI 1024), .ref r2, .int (nI (zApp 1024 u.1 (zByte (nI (tps.getD i 0)))).length)])), (r2, .inl ((kA 0), (zCap 1024 u.2.1 u.1.length), .inl fl2))] H := hP
          have hD : va_D A [(x, .inr (5, [.ref tp, .ref ln, .ref bf, .ref tr, .ref ru, .ref co, .int (nI rs.length), .int hp, .int (nI u.2.2.1), .long (lN t0)])), (co, .inr (1, [.ref ct, .ref ca, .int (nI (zC ad u.2.2.2).length)])), (ct, .inl ((kA 1), 64, .inr (.inl f1))), (ca, .inl ((kA 5), 64, .inr (.inr (.inr (.inr gg1))))), (ln, .inr (0, [.int (nI 1024), .ref r2, .int (nI (zApp 1024 u.1 (zByte (nI (tps.getD i 0)))).length)])), (r2, .inl ((kA 0), (zCap 1024 u.2.1 u.1.length), .inl fl2))] := hD
          rw [zByte_nI hbv] at hP hD hb2
          have hP : va_P D classes [(x, .inr (5, [.ref tp, .ref ln, .ref bf, .ref tr, .ref ru, .ref co, .int (nI rs.length), .int hp, .int (nI u.2.2.1), .long (lN t0)])), (co, .inr (1, [.ref ct, .ref ca, .int (nI (zC ad u.2.2.2).length)])), (ct, .inl ((kA 1), 64, .inr (.inl f1))), (ca, .inl ((kA 5), 64, .inr (.inr (.inr (.inr gg1))))), (ln, .inr (0, [.int (nI 1024), .ref r2, .int (nI (zApp 1024 u.1 (tps.getD i 0)).length)])), (r2, .inl ((kA 0), (zCap 1024 u.2.1 u.1.length), .inl fl2))] H := hP
          have hD : va_D A [(x, .inr (5, [.ref tp, .ref ln, .ref bf, .ref tr, .ref ru, .ref co, .int (nI rs.length), .int hp, .int (nI u.2.2.1), .long (lN t0)])), (co, .inr (1, [.ref ct, .ref ca, .int (nI (zC ad u.2.2.2).length)])), (ct, .inl ((kA 1), 64, .inr (.inl f1))), (ca, .inl ((kA 5), 64, .inr (.inr (.inr (.inr gg1))))), (ln, .inr (0, [.int (nI 1024), .ref r2, .int (nI (zApp 1024 u.1 (tps.getD i 0)).length)])), (r2, .inl ((kA 0), (zCap 1024 u.2.1 u.1.length), .inl fl2))] := hD
          refine W.widen (k := (zCap 1024 u.2.1 u.1.length - n)) (n := (3 * (zCap 1024 u.2.1 u.1.length - n))) (by omega) (by omega) ?_
          refine lv_iinc (v := (nI (i + 1))) (lv' := [(1, .int (nI (i + 1))), (2, .int (nI (tps.getD i 0))), (0, .ref x)]) hx hb d_Peer_giveTapeToPeer_50 hl (k := 2) rfl (nI_1 i) (by decide) rfl (fun ls hl => ?_)
          refine lv_goto (tgt := 2) hx hb d_Peer_giveTapeToPeer_53 (by decide) ?_
          exact ih (i + 1) (zApp 1024 u.1 (tps.getD i 0), zCap 1024 u.2.1 u.1.length, u.2.2.1, u.2.2.2) f1 gg1 r2 fl2 (by omega) (by omega) (by rw [zGv_snoc hlt, ← hu]; exact hg1.symm) hst1 hmq1 hrep1 hb2 _ _ (hP.sub [0, 1, 2, 3, 4, 5] rfl) (hD.sub [0, 1, 2, 3, 4, 5] (by decide) rfl) hS ls (lv_sub hl [2, 0] rfl)
        · have hv10 : (tps.getD i 0) = 10 := (nI_eq (by omega) (by omega)).mp (show nI _ = nI 10 from c25)
          refine lv_aload_n hx hb d_Peer_giveTapeToPeer_28 rfl (lv_at hl 1 rfl) ?_
          have hapl := zk_apart (wc := [(x, .inr (5, [.ref tp, .ref ln, .ref bf, .ref tr, .ref ru, .ref co, .int (nI rs.length), .int hp, .int (nI u.2.2.1), .long (lN t0)])), (co, .inr (1, [.ref ct, .ref ca, .int (nI (zC ad u.2.2.2).length)])), (ct, .inl ((kA 1), 64, .inr (.inl f1))), (ca, .inl ((kA 5), 64, .inr (.inr (.inr (.inr gg1)))))]) hP hD [0, 1, 2, 3] rfl (k := 4) rfl (by decide)
          have hapr := zk_apart (wc := [(x, .inr (5, [.ref tp, .ref ln, .ref bf, .ref tr, .ref ru, .ref co, .int (nI rs.length), .int hp, .int (nI u.2.2.1), .long (lN t0)])), (co, .inr (1, [.ref ct, .ref ca, .int (nI (zC ad u.2.2.2).length)])), (ct, .inl ((kA 1), 64, .inr (.inl f1))), (ca, .inl ((kA 5), 64, .inr (.inr (.inr (.inr gg1)))))]) hP hD [0, 1, 2, 3] rfl (k := 5) rfl (by decide)
          have hFc := va_free (wc := [(x, .inr (5, [.ref tp, .ref ln, .ref bf, .ref tr, .ref ru, .ref co, .int (nI rs.length), .int hp, .int (nI u.2.2.1), .long (lN t0)])), (co, .inr (1, [.ref ct, .ref ca, .int (nI (zC ad u.2.2.2).length)])), (ct, .inl ((kA 1), 64, .inr (.inl f1))), (ca, .inl ((kA 5), 64, .inr (.inr (.inr (.inr gg1)))))]) hD hS hA [0, 1, 2, 3] rfl
          refine zk_mut (zk_runV (As := []) (rest := []) S m_Peer_92 (c_Peer_answerLine l D kA x tp ln bf tr ru co ct ca hp f1 gg1 rf rs ad u.2.2.2 u.2.2.1 t0 (by omega) ht0 hrs 1024 u.1 H.size) rfl rfl ⟨Nat.le_of_ble_eq_true rfl, Nat.le_of_ble_eq_true rfl⟩ hK hX (zk_recv hK (hP 0 _ rfl) rfl) ⟨rfl, hP.sub (ws' := [(x, .inr (5, [.ref tp, .ref ln, .ref bf, .ref tr, .ref ru, .ref co, .int (nI rs.length), .int hp, .int (nI u.2.2.1), .long (lN t0)])), (co, .inr (1, [.ref ct, .ref ca, .int (nI (zC ad u.2.2.2).length)])), (ct, .inl ((kA 1), 64, .inr (.inl f1))), (ca, .inl ((kA 5), 64, .inr (.inr (.inr (.inr gg1)))))]) [0, 1, 2, 3] rfl, (hD.sub (ws' := [(x, .inr (5, [.ref tp, .ref ln, .ref bf, .ref tr, .ref ru, .ref co, .int (nI rs.length), .int hp, .int (nI u.2.2.1), .long (lN t0)])), (co, .inr (1, [.ref ct, .ref ca, .int (nI (zC ad u.2.2.2).length)])), (ct, .inl ((kA 1), 64, .inr (.inl f1))), (ca, .inl ((kA 5), 64, .inr (.inr (.inr (.inr gg1)))))]) [0, 1, 2, 3] (by decide) rfl).weaken (fun _ _ _ _ => trivial), zk_ro hS hru hruA, fun z => hruA (hFc _ z), (hrs0.ro hS).weaken (fun q hq hz => hq (hFc q hz)), hmq1, hrep1, r1, u.2.1, fl1, hapl, hapr, (hP 4 _ rfl), (hP 5 _ rfl), hb1⟩ rfl hl.1 rfl (Nat.le_of_ble_eq_true rfl) ⟨by
            show _ + 0 ≤ (zGv rs t0 tps (lns, n, st0, mq)).2.1 - n
            omega, by
            show _ + 0 ≤ 3 * ((zGv rs t0 tps (lns, n, st0, mq)).2.1 - n)
            omega⟩ d_Peer_giveTapeToPeer_29) hS hFc hFc (fun v H locs hpost hz1 hk1 hS => ?_)
          obtain ⟨rfl, f2, gg2, hP1, hD1, hrep2⟩ := hpost
          obtain ⟨hP, hD⟩ := va_join (wr := [(ln, .inr (0, [.int (nI 1024), .ref r1, .int (nI u.1.length)])), (r1, .inl ((kA 0), u.2.1, .inl fl1))]) (w1 := [(x, .inr (5, [.ref tp, .ref ln, .ref bf, .ref tr, .ref ru, .ref co, .int (nI rs.length), .int hp, .int (nI (zNext rs u.2.2.1 (zFirst rs u.2.2.1 u.1))), .long (lN t0)])), (co, .inr (1, [.ref ct, .ref ca, .int (nI (zC ad (zPush rs t0 u.2.2.2 (zFirst rs u.2.2.1 u.1))).length)])), (ct, .inl ((kA 1), 64, .inr (.inl f2))), (ca, .inl ((kA 5), 64, .inr (.inr (.inr (.inr gg2)))))]) hP hD [0, 1, 2, 3] [4, 5] rfl rfl (by decide) (by decide) hk1 hFc hP1 hD1
          refine W.eq (g2 := F0 m 32 ls []) rfl ?_
          have hP : va_P D classes [(ln, .inr (0, [.int (nI 1024), .ref r1, .int (nI u.1.length)])), (r1, .inl ((kA 0), u.2.1, .inl fl1)), (x, .inr (5, [.ref tp, .ref ln, .ref bf, .ref tr, .ref ru, .ref co, .int (nI rs.length), .int hp, .int (nI (zNext rs u.2.2.1 (zFirst rs u.2.2.1 u.1))), .long (lN t0)])), (co, .inr (1, [.ref ct, .ref ca, .int (nI (zC ad (zPush rs t0 u.2.2.2 (zFirst rs u.2.2.1 u.1))).length)])), (ct, .inl ((kA 1), 64, .inr (.inl f2))), (ca, .inl ((kA 5), 64, .inr (.inr (.inr (.inr gg2)))))] H := hP
          have hD : va_D A [(ln, .inr (0, [.int (nI 1024), .ref r1, .int (nI u.1.length)])), (r1, .inl ((kA 0), u.2.1, .inl fl1)), (x, .inr (5, [.ref tp, .ref ln, .ref bf, .ref tr, .ref ru, .ref co, .int (nI rs.length), .int hp, .int (nI (zNext rs u.2.2.1 (zFirst rs u.2.2.1 u.1))), .long (lN t0)])), (co, .inr (1, [.ref ct, .ref ca, .int (nI (zC ad (zPush rs t0 u.2.2.2 (zFirst rs u.2.2.1 u.1))).length)])), (ct, .inl ((kA 1), 64, .inr (.inl f2))), (ca, .inl ((kA 5), 64, .inr (.inr (.inr (.inr gg2)))))] := hD
          refine lv_aload_n hx hb d_Peer_giveTapeToPeer_32 rfl (lv_at hl 1 rfl) ?_
          refine zk_get (C := R_Peer) (T := F_Peer) (N := 10) S hK (hP 2 _ rfl) rfl i_Peer 1 (by decide) m_Peer_18 rfl rfl d_Peer_giveTapeToPeer_33 ?_
          have hFc := va_free (wc := [(ln, .inr (0, [.int (nI 1024), .ref r1, .int (nI u.1.length)])), (r1, .inl ((kA 0), u.2.1, .inl fl1))]) hD hS hA [0, 1] rfl
          refine zk_mut (zk_runV (As := []) (rest := []) S m_Peer_88 (c_Bytes_clear l D kA ln r1 1024 u.2.1 fl1 u.1 H.size) rfl rfl ⟨Nat.le_of_ble_eq_true rfl, Nat.le_of_ble_eq_true rfl⟩ hK hX (zk_recv hK (hP 0 _ rfl) rfl) ⟨rfl, hP.sub (ws' := [(ln, .inr (0, [.int (nI 1024), .ref r1, .int (nI u.1.length)])), (r1, .inl ((kA 0), u.2.1, .inl fl1))]) [0, 1] rfl, (hD.sub (ws' := [(ln, .inr (0, [.int (nI 1024), .ref r1, .int (nI u.1.length)])), (r1, .inl ((kA 0), u.2.1, .inl fl1))]) [0, 1] (by decide) rfl).weaken (fun _ _ _ _ => trivial), hb1⟩ rfl hl.1 rfl (Nat.le_of_ble_eq_true rfl) ⟨by
            show _ + 0 ≤ (zGv rs t0 tps (lns, n, st0, mq)).2.1 - n
            omega, by
            show _ + 0 ≤ 3 * ((zGv rs t0 tps (lns, n, st0, mq)).2.1 - n)
            omega⟩ d_Peer_giveTapeToPeer_36) hS hFc hFc (fun v H locs hpost hz1 hk1 hS => ?_)
          obtain ⟨rfl, r2, fl2, hP1, hD1, hb2⟩ := hpost
          obtain ⟨hP, hD⟩ := va_join (wr := [(x, .inr (5, [.ref tp, .ref ln, .ref bf, .ref tr, .ref ru, .ref co, .int (nI rs.length), .int hp, .int (nI (zNext rs u.2.2.1 (zFirst rs u.2.2.1 u.1))), .long (lN t0)])), (co, .inr (1, [.ref ct, .ref ca, .int (nI (zC ad (zPush rs t0 u.2.2.2 (zFirst rs u.2.2.1 u.1))).length)])), (ct, .inl ((kA 1), 64, .inr (.inl f2))), (ca, .inl ((kA 5), 64, .inr (.inr (.inr (.inr gg2)))))]) (w1 := [(ln, .inr (0, [.int (nI 1024), .ref r2, .int (nI ([] : List Nat).length)])), (r2, .inl ((kA 0), u.2.1, .inl fl2))]) hP hD [0, 1] [2, 3, 4, 5] rfl rfl (by decide) (by decide) hk1 hFc hP1 hD1
          refine W.eq (g2 := F0 m 39 ls []) rfl ?_
          have hP : va_P D classes [(x, .inr (5, [.ref tp, .ref ln, .ref bf, .ref tr, .ref ru, .ref co, .int (nI rs.length), .int hp, .int (nI (zNext rs u.2.2.1 (zFirst rs u.2.2.1 u.1))), .long (lN t0)])), (co, .inr (1, [.ref ct, .ref ca, .int (nI (zC ad (zPush rs t0 u.2.2.2 (zFirst rs u.2.2.1 u.1))).length)])), (ct, .inl ((kA 1), 64, .inr (.inl f2))), (ca, .inl ((kA 5), 64, .inr (.inr (.inr (.inr gg2))))), (ln, .inr (0, [.int (nI 1024), .ref r2, .int (nI ([] : List Nat).length)])), (r2, .inl ((kA 0), u.2.1, .inl fl2))] H := hP
          have hD : va_D A [(x, .inr (5, [.ref tp, .ref ln, .ref bf, .ref tr, .ref ru, .ref co, .int (nI rs.length), .int hp, .int (nI (zNext rs u.2.2.1 (zFirst rs u.2.2.1 u.1))), .long (lN t0)])), (co, .inr (1, [.ref ct, .ref ca, .int (nI (zC ad (zPush rs t0 u.2.2.2 (zFirst rs u.2.2.1 u.1))).length)])), (ct, .inl ((kA 1), 64, .inr (.inl f2))), (ca, .inl ((kA 5), 64, .inr (.inr (.inr (.inr gg2))))), (ln, .inr (0, [.int (nI 1024), .ref r2, .int (nI ([] : List Nat).length)])), (r2, .inl ((kA 0), u.2.1, .inl fl2))] := hD
          refine lv_goto (tgt := 50) hx hb d_Peer_giveTapeToPeer_39 (by decide) ?_
          refine lv_iinc (v := (nI (i + 1))) (lv' := [(1, .int (nI (i + 1))), (2, .int (nI (tps.getD i 0))), (0, .ref x)]) hx hb d_Peer_giveTapeToPeer_50 hl (k := 2) rfl (nI_1 i) (by decide) rfl (fun ls hl => ?_)
          refine lv_goto (tgt := 2) hx hb d_Peer_giveTapeToPeer_53 (by decide) ?_
          exact ih (i + 1) ([], u.2.1, zNext rs u.2.2.1 (zFirst rs u.2.2.1 u.1), zPush rs t0 u.2.2.2 (zFirst rs u.2.2.1 u.1)) f2 gg2 r2 fl2 (by omega) (by omega) (by rw [zGv_snoc hlt, ← hu]; exact (if_pos hv10).symm) (Nat.lt_of_le_of_lt (zNext_le hrok (B := 2 ^ 30 - 1) (by decide) (by omega)) (by decide)) (zQok_push hrok hmq1 ht0) hrep2 hb2 _ _ (hP.sub [0, 1, 2, 3, 4, 5] rfl) (hD.sub [0, 1, 2, 3, 4, 5] (by decide) rfl) hS ls (lv_sub hl [2, 0] rfl)
  refine W.widen (k := ((lns, n, st0, mq).2.1 - n)) (n := (3 * ((lns, n, st0, mq).2.1 - n))) (Nat.zero_le _) (Nat.zero_le _) ?_
  exact lp (tps.length + 1) 0 (lns, n, st0, mq) f g lr fl (by omega) (Nat.zero_le _) rfl hst hmq hrep hln _ _ (hP.sub [0, 1, 2, 3, 4, 5] rfl) (hD.sub [0, 1, 2, 3, 4, 5] (by decide) rfl) hS ls (lv_sub hl [1, 0] rfl)
end
section
def zB4 (x : Int32) : List Nat := [zByte ((x.toUInt32 >>> ((24 : Int32).toUInt32 &&& Int32.toUInt32 31)).toInt32), zByte ((x.toUInt32 >>> ((16 : Int32).toUInt32 &&& Int32.toUInt32 31)).toInt32), zByte ((x.toUInt32 >>> ((8 : Int32).toUInt32 &&& Int32.toUInt32 31)).toInt32), zByte x]
theorem zB4_app {bs : List Nat} {x : Int32} : bs ++ [zByte ((x.toUInt32 >>> ((24 : Int32).toUInt32 &&& Int32.toUInt32 31)).toInt32)] ++ [zByte ((x.toUInt32 >>> ((16 : Int32).toUInt32 &&& Int32.toUInt32 31)).toInt32)] ++ [zByte ((x.toUInt32 >>> ((8 : Int32).toUInt32 &&& Int32.toUInt32 31)).toInt32)] ++ [zByte x] = bs ++ zB4 x := by
  simp [zB4]
theorem zB4_len {x : Int32} : (zB4 x).length = 4 := rfl
def zClamp (n : Int64) : Nat := if n < 0 then 0 else if 1000000 < n then 1000000 else n.toInt.toNat
theorem zClamp_le (n : Int64) : zClamp n ≤ 1000000 := by
  unfold zClamp
  split
  · omega
  · split
    · exact Nat.le_refl _
    · rename_i h1 h2
      have := mt Int64.lt_iff_toInt_lt.mpr h2
      rw [show (1000000 : Int64).toInt = 1000000 by decide] at this
      omega
theorem zClamp_eq (n : Int64) : (if (if (1000000 : Int64) < n then (1000000 : Int64) else n) < (0 : Int64) then (0 : Int64) else (if (1000000 : Int64) < n then (1000000 : Int64) else n)) = lN (zClamp n) := by
  unfold zClamp
  by_cases h1 : n < 0
  · have h2 : ¬ (1000000 : Int64) < n := fun h => by
      have a := Int64.lt_iff_toInt_lt.mp h1
      have b := Int64.lt_iff_toInt_lt.mp h
      rw [show (1000000 : Int64).toInt = 1000000 by decide] at b
      rw [show (0 : Int64).toInt = 0 by decide] at a
      omega
    rw [if_neg h2, if_pos h1, if_pos h1]
    rfl
  · rw [if_neg h1]
    by_cases h2 : (1000000 : Int64) < n
    · rw [if_pos h2, if_pos h2]
      decide
    · rw [if_neg h2, if_neg h2, if_neg h1]
      obtain ⟨k, hk, e⟩ := pk_lOf h1
      rw [e, pk_lT hk]
      rfl
set_option maxHeartbeats 4000000 in
set_option maxRecDepth 100000 in
/-- PeerLine.feed(a, b, c, d, e) -/
theorem c_Peer_feed (l : Launch) (D : va_G) (kA : Nat → ClassId) (x tp ln bf tr ru co : Nat) (rc hp st : Int32) (tm : Int64) (r n : Nat) (f : Nat → Int32) (bs : List Nat) (a1 a2 a3 a4 a5 : Int32) (sz0 : Nat) : Met l y_Peer_feed (Cond.code y_Peer_feed b_Peer_feed 6 (some .boolean) :: zTB) { frames := 4, cells := zCapN 1024 n bs.length 20 - n, slots := 3 * (zCapN 1024 n bs.length 20 - n), locals := 104 } (zk_Pc D classes (zTY kA) [.ref x, .int a1, .int a2, .int a3, .int a4, .int a5] (fun H => H.size = sz0 ∧ va_P D classes [(tp, .inr (0, [.int (nI 1024), .ref r, .int (nI bs.length)])), (r, .inl ((kA 0), n, .inl f))] H ∧ va_D (fun _ => True) [(tp, .inr (0, [.int (nI 1024), .ref r, .int (nI bs.length)])), (r, .inl ((kA 0), n, .inl f))] ∧ va_at D classes (x, .inr (5, [.ref tp, .ref ln, .ref bf, .ref tr, .ref ru, .ref co, .int rc, .int hp, .int st, .long tm])) H ∧ ¬ (va_A [(tp, .inr (0, [.int (nI 1024), .ref r, .int (nI bs.length)])), (r, .inl ((kA 0), n, .inl f))] sz0) x ∧ zBs 1024 n f bs)) (zk_mQ (fun v H => (bs.length + 20 ≤ 1024 ∧ v = some (.int 1) ∧ BsPost D kA (va_A [(tp, .inr (0, [.int (nI 1024), .ref r, .int (nI bs.length)])), (r, .inl ((kA 0), n, .inl f))] sz0) H tp 1024 (zCapN 1024 n bs.length 20) (bs ++ (zB4 a1 ++ zB4 a2 ++ zB4 a3 ++ zB4 a4 ++ zB4 a5))) ∨ (¬ bs.length + 20 ≤ 1024 ∧ v = some (.int 0) ∧ BsPost D kA (va_A [(tp, .inr (0, [.int (nI 1024), .ref r, .int (nI bs.length)])), (r, .inl ((kA 0), n, .inl f))] sz0) H tp 1024 n bs)) (va_A [(tp, .inr (0, [.int (nI 1024), .ref r, .int (nI bs.length)])), (r, .inl ((kA 0), n, .inl f))] sz0)) (zCapN 1024 n bs.length 20 - n) (3 * (zCapN 1024 n bs.length 20 - n)) (va_A [(tp, .inr (0, [.int (nI 1024), .ref r, .int (nI bs.length)])), (r, .inl ((kA 0), n, .inl f))] sz0) := by
  refine zk_of [.ref x, .int a1, .int a2, .int a3, .int a4, .int a5] (by decide) (Nat.le_of_ble_eq_true rfl) ?_
  intro p e s m below meth c S hr hlk hnm hK hX hpre ls hl
  obtain ⟨hx, hb, hml, hown, ht⟩ := id S
  have hl : lv_has ls 6 [(0, .ref x), (1, .int a1), (2, .int a2), (3, .int a3), (4, .int a4), (5, .int a5)] := hl
  obtain ⟨hsz, hP, hD0, hx0, hxA, hbs0⟩ := hpre
  subst hsz
  have hD := hD0.self (sz := s.heap.size)
  generalize hAe : va_A [(tp, .inr (0, [.int (nI 1024), .ref r, .int (nI bs.length)])), (r, .inl ((kA 0), n, .inl f))] s.heap.size = A at hD hxA ⊢
  have hA : ∀ q : Nat, s.heap.size ≤ q → A q := fun q h => by rw [← hAe]; exact Or.inr h
  have hS : va_S A s.heap s.heap [] := va_S.rf
  have hP : va_P D classes [(tp, .inr (0, [.int (nI 1024), .ref r, .int (nI bs.length)])), (r, .inl ((kA 0), n, .inl f))] s.heap := hP
  obtain ⟨h1, h2, h3, h4, h5⟩ := id hbs0
  refine lv_aload_n hx hb d_Peer_feed_0 rfl (lv_at hl 0 rfl) ?_
  refine zk_get (C := R_Peer) (T := F_Peer) (N := 10) S hK (zk_ro hS hx0 hxA) rfl i_Peer 0 (by decide) m_Peer_14 rfl rfl d_Peer_feed_1 ?_
  refine lv_bipush (v := 20) hx hb d_Peer_feed_4 (by decide) ?_
  refine zk_ti (z := nI 20) (rfl) ?_
  refine zk_pure (zk_runV (As := [.int (nI 20)]) (rest := []) S m_Peer_56 (c_Bytes_hasRoomFor l D kA (fun _ => True) tp 1024 bs 20 (by decide)) rfl rfl ⟨Nat.le_of_ble_eq_true rfl, Nat.le_of_ble_eq_true rfl⟩ hK hX (zk_recv hK (hP 0 _ rfl) rfl) (⟨r, n, f, trivial, trivial, hP 0 _ rfl, hP 1 _ rfl, hbs0⟩) rfl hl.1 rfl (Nat.le_of_ble_eq_true rfl) ⟨Nat.zero_le _, Nat.zero_le _⟩ d_Peer_feed_6) ?_
  refine lv_if_ne (tgt := 14) hx hb d_Peer_feed_9 (by decide) (fun c9 => ?_) (fun c9 => ?_)
  · refine lv_aload_n hx hb d_Peer_feed_14 rfl (lv_at hl 0 rfl) ?_
    refine zk_get (C := R_Peer) (T := F_Peer) (N := 10) S hK (zk_ro hS hx0 hxA) rfl i_Peer 0 (by decide) m_Peer_14 rfl rfl d_Peer_feed_15 ?_
    refine lv_iload_n hx hb d_Peer_feed_18 rfl (lv_at hl 1 rfl) ?_
    have hroom : bs.length + 20 ≤ 1024 := by
      by_cases z : 20 ≤ 1024 - bs.length
      · omega
      · exact absurd (if_neg z) c9
    obtain ⟨y4a, y4b, y4c⟩ := zCapN_ge (lim := 1024) h2 h1 4 (by omega) h2 (by omega)
    obtain ⟨y8a, y8b, y8c⟩ := zCapN_ge (lim := 1024) h2 h1 8 (by omega) h2 (by omega)
    obtain ⟨y12a, y12b, y12c⟩ := zCapN_ge (lim := 1024) h2 h1 12 (by omega) h2 (by omega)
    obtain ⟨y16a, y16b, y16c⟩ := zCapN_ge (lim := 1024) h2 h1 16 (by omega) h2 (by omega)
    obtain ⟨y20a, y20b, y20c⟩ := zCapN_ge (lim := 1024) h2 h1 20 (by omega) h2 (by omega)
    have u4 := zCapN_upto (lim := 1024) h2 h1 (by omega) 8 4 (by omega) (by omega)
    have u8 := zCapN_upto (lim := 1024) h2 h1 (by omega) 12 8 (by omega) (by omega)
    have u12 := zCapN_upto (lim := 1024) h2 h1 (by omega) 16 12 (by omega) (by omega)
    have u16 := zCapN_upto (lim := 1024) h2 h1 (by omega) 20 16 (by omega) (by omega)
    have hlen0 : bs.length = bs.length + 0 := rfl
    have hm0 : zCapN 1024 n bs.length 4 = (zCapN 1024 n bs.length 4) := by rfl
    have hFc := va_free (wc := [(tp, .inr (0, [.int (nI 1024), .ref r, .int (nI bs.length)])), (r, .inl ((kA 0), n, .inl f))]) hD hS hA [0, 1] rfl
    refine zk_mut (zk_runV (As := [.int a1]) (rest := []) S m_Peer_60 (c_Bytes_appendNumber l D kA tp r 1024 n f bs a1 (by rw [hlen0]; omega) s.heap.size) rfl rfl ⟨Nat.le_of_ble_eq_true rfl, Nat.le_of_ble_eq_true rfl⟩ hK hX (zk_recv hK (hP 0 _ rfl) rfl) ⟨rfl, hP.sub (ws' := [(tp, .inr (0, [.int (nI 1024), .ref r, .int (nI bs.length)])), (r, .inl ((kA 0), n, .inl f))]) [0, 1] rfl, (hD.sub (ws' := [(tp, .inr (0, [.int (nI 1024), .ref r, .int (nI bs.length)])), (r, .inl ((kA 0), n, .inl f))]) [0, 1] (by decide) rfl).weaken (fun _ _ _ _ => trivial), hbs0⟩ rfl hl.1 rfl (Nat.le_of_ble_eq_true rfl) ⟨by
      show _ + (_ - _) ≤ zCapN 1024 n bs.length 20 - n
      rw [hm0]; omega, by
      show _ + 3 * (_ - _) ≤ 3 * (zCapN 1024 n bs.length 20 - n)
      rw [hm0]; omega⟩ d_Peer_feed_19) hS hFc hFc (fun v H locs hpost hz1 hk1 hS => ?_)
    obtain ⟨rfl, r1, f1, hP1, hD1, hbs1⟩ := hpost
    obtain ⟨hP, hD⟩ := va_join (wr := []) (w1 := [(tp, .inr (0, [.int (nI 1024), .ref r1, .int (nI ((((bs ++ [zByte ((a1.toUInt32 >>> ((24 : Int32).toUInt32 &&& Int32.toUInt32 31)).toInt32)]) ++ [zByte ((a1.toUInt32 >>> ((16 : Int32).toUInt32 &&& Int32.toUInt32 31)).toInt32)]) ++ [zByte ((a1.toUInt32 >>> ((8 : Int32).toUInt32 &&& Int32.toUInt32 31)).toInt32)]) ++ [zByte a1]).length)])), (r1, .inl ((kA 0), (zCapN 1024 n bs.length 4), .inl f1))]) hP hD [0, 1] [] rfl rfl (by decide) (by decide) hk1 hFc hP1 hD1
    refine W.eq (g2 := F0 m 22 ls []) rfl ?_
    have hP : va_P D classes [(tp, .inr (0, [.int (nI 1024), .ref r1, .int (nI ((((bs ++ [zByte ((a1.toUInt32 >>> ((24 : Int32).toUInt32 &&& Int32.toUInt32 31)).toInt32)]) ++ [zByte ((a1.toUInt32 >>> ((16 : Int32).toUInt32 &&& Int32.toUInt32 31)).toInt32)]) ++ [zByte ((a1.toUInt32 >>> ((8 : Int32).toUInt32 &&& Int32.toUInt32 31)).toInt32)]) ++ [zByte a1]).length)])), (r1, .inl ((kA 0), (zCapN 1024 n bs.length 4), .inl f1))] H := hP
    have hD : va_D A [(tp, .inr (0, [.int (nI 1024), .ref r1, .int (nI ((((bs ++ [zByte ((a1.toUInt32 >>> ((24 : Int32).toUInt32 &&& Int32.toUInt32 31)).toInt32)]) ++ [zByte ((a1.toUInt32 >>> ((16 : Int32).toUInt32 &&& Int32.toUInt32 31)).toInt32)]) ++ [zByte ((a1.toUInt32 >>> ((8 : Int32).toUInt32 &&& Int32.toUInt32 31)).toInt32)]) ++ [zByte a1]).length)])), (r1, .inl ((kA 0), (zCapN 1024 n bs.length 4), .inl f1))] := hD
    rw [zB4_app, hm0] at hP hD hbs1
    have hP : va_P D classes [(tp, .inr (0, [.int (nI 1024), .ref r1, .int (nI (bs ++ zB4 a1).length)])), (r1, .inl ((kA 0), (zCapN 1024 n bs.length 4), .inl f1))] H := hP
    have hD : va_D A [(tp, .inr (0, [.int (nI 1024), .ref r1, .int (nI (bs ++ zB4 a1).length)])), (r1, .inl ((kA 0), (zCapN 1024 n bs.length 4), .inl f1))] := hD
    refine W.widen (k := ((zCapN 1024 n bs.length 4) - n)) (n := (3 * ((zCapN 1024 n bs.length 4) - n))) (by rw [hm0]; omega) (by rw [hm0]; omega) ?_
    refine lv_aload_n hx hb d_Peer_feed_22 rfl (lv_at hl 0 rfl) ?_
    refine zk_get (C := R_Peer) (T := F_Peer) (N := 10) S hK (zk_ro hS hx0 hxA) rfl i_Peer 0 (by decide) m_Peer_14 rfl rfl d_Peer_feed_23 ?_
    refine lv_iload_n hx hb d_Peer_feed_26 rfl (lv_at hl 2 rfl) ?_
    have hlen1 : (bs ++ zB4 a1).length = bs.length + 4 := by simp [zB4]
    have hm1 : zCapN 1024 (zCapN 1024 n bs.length 4) (bs ++ zB4 a1).length 4 = (zCapN 1024 n bs.length 8) := by rw [hlen1]; exact (zCapN_add 4 4).symm
    have hFc := va_free (wc := [(tp, .inr (0, [.int (nI 1024), .ref r1, .int (nI (bs ++ zB4 a1).length)])), (r1, .inl ((kA 0), (zCapN 1024 n bs.length 4), .inl f1))]) hD hS hA [0, 1] rfl
    refine zk_mut (zk_runV (As := [.int a2]) (rest := []) S m_Peer_60 (c_Bytes_appendNumber l D kA tp r1 1024 (zCapN 1024 n bs.length 4) f1 (bs ++ zB4 a1) a2 (by rw [hlen1]; omega) H.size) rfl rfl ⟨Nat.le_of_ble_eq_true rfl, Nat.le_of_ble_eq_true rfl⟩ hK hX (zk_recv hK (hP 0 _ rfl) rfl) ⟨rfl, hP.sub (ws' := [(tp, .inr (0, [.int (nI 1024), .ref r1, .int (nI (bs ++ zB4 a1).length)])), (r1, .inl ((kA 0), (zCapN 1024 n bs.length 4), .inl f1))]) [0, 1] rfl, (hD.sub (ws' := [(tp, .inr (0, [.int (nI 1024), .ref r1, .int (nI (bs ++ zB4 a1).length)])), (r1, .inl ((kA 0), (zCapN 1024 n bs.length 4), .inl f1))]) [0, 1] (by decide) rfl).weaken (fun _ _ _ _ => trivial), hbs1⟩ rfl hl.1 rfl (Nat.le_of_ble_eq_true rfl) ⟨by
      show _ + (_ - _) ≤ zCapN 1024 n bs.length 20 - n
      rw [hm1]; omega, by
      show _ + 3 * (_ - _) ≤ 3 * (zCapN 1024 n bs.length 20 - n)
      rw [hm1]; omega⟩ d_Peer_feed_27) hS hFc hFc (fun v H locs hpost hz1 hk1 hS => ?_)
    obtain ⟨rfl, r2, f2, hP1, hD1, hbs2⟩ := hpost
    obtain ⟨hP, hD⟩ := va_join (wr := []) (w1 := [(tp, .inr (0, [.int (nI 1024), .ref r2, .int (nI (((((bs ++ zB4 a1) ++ [zByte ((a2.toUInt32 >>> ((24 : Int32).toUInt32 &&& Int32.toUInt32 31)).toInt32)]) ++ [zByte ((a2.toUInt32 >>> ((16 : Int32).toUInt32 &&& Int32.toUInt32 31)).toInt32)]) ++ [zByte ((a2.toUInt32 >>> ((8 : Int32).toUInt32 &&& Int32.toUInt32 31)).toInt32)]) ++ [zByte a2]).length)])), (r2, .inl ((kA 0), (zCapN 1024 (zCapN 1024 n bs.length 4) (bs ++ zB4 a1).length 4), .inl f2))]) hP hD [0, 1] [] rfl rfl (by decide) (by decide) hk1 hFc hP1 hD1
    refine W.eq (g2 := F0 m 30 ls []) rfl ?_
    have hP : va_P D classes [(tp, .inr (0, [.int (nI 1024), .ref r2, .int (nI (((((bs ++ zB4 a1) ++ [zByte ((a2.toUInt32 >>> ((24 : Int32).toUInt32 &&& Int32.toUInt32 31)).toInt32)]) ++ [zByte ((a2.toUInt32 >>> ((16 : Int32).toUInt32 &&& Int32.toUInt32 31)).toInt32)]) ++ [zByte ((a2.toUInt32 >>> ((8 : Int32).toUInt32 &&& Int32.toUInt32 31)).toInt32)]) ++ [zByte a2]).length)])), (r2, .inl ((kA 0), (zCapN 1024 (zCapN 1024 n bs.length 4) (bs ++ zB4 a1).length 4), .inl f2))] H := hP
    have hD : va_D A [(tp, .inr (0, [.int (nI 1024), .ref r2, .int (nI (((((bs ++ zB4 a1) ++ [zByte ((a2.toUInt32 >>> ((24 : Int32).toUInt32 &&& Int32.toUInt32 31)).toInt32)]) ++ [zByte ((a2.toUInt32 >>> ((16 : Int32).toUInt32 &&& Int32.toUInt32 31)).toInt32)]) ++ [zByte ((a2.toUInt32 >>> ((8 : Int32).toUInt32 &&& Int32.toUInt32 31)).toInt32)]) ++ [zByte a2]).length)])), (r2, .inl ((kA 0), (zCapN 1024 (zCapN 1024 n bs.length 4) (bs ++ zB4 a1).length 4), .inl f2))] := hD
    rw [zB4_app, hm1] at hP hD hbs2
    have hP : va_P D classes [(tp, .inr (0, [.int (nI 1024), .ref r2, .int (nI ((bs ++ zB4 a1) ++ zB4 a2).length)])), (r2, .inl ((kA 0), (zCapN 1024 n bs.length 8), .inl f2))] H := hP
    have hD : va_D A [(tp, .inr (0, [.int (nI 1024), .ref r2, .int (nI ((bs ++ zB4 a1) ++ zB4 a2).length)])), (r2, .inl ((kA 0), (zCapN 1024 n bs.length 8), .inl f2))] := hD
    refine W.widen (k := ((zCapN 1024 n bs.length 8) - n)) (n := (3 * ((zCapN 1024 n bs.length 8) - n))) (by rw [hm1]; omega) (by rw [hm1]; omega) ?_
    refine lv_aload_n hx hb d_Peer_feed_30 rfl (lv_at hl 0 rfl) ?_
    refine zk_get (C := R_Peer) (T := F_Peer) (N := 10) S hK (zk_ro hS hx0 hxA) rfl i_Peer 0 (by decide) m_Peer_14 rfl rfl d_Peer_feed_31 ?_
    refine lv_iload_n hx hb d_Peer_feed_34 rfl (lv_at hl 3 rfl) ?_
    have hlen2 : ((bs ++ zB4 a1) ++ zB4 a2).length = bs.length + 8 := by simp [zB4]
    have hm2 : zCapN 1024 (zCapN 1024 n bs.length 8) ((bs ++ zB4 a1) ++ zB4 a2).length 4 = (zCapN 1024 n bs.length 12) := by rw [hlen2]; exact (zCapN_add 4 8).symm
    have hFc := va_free (wc := [(tp, .inr (0, [.int (nI 1024), .ref r2, .int (nI ((bs ++ zB4 a1) ++ zB4 a2).length)])), (r2, .inl ((kA 0), (zCapN 1024 n bs.length 8), .inl f2))]) hD hS hA [0, 1] rfl
    refine zk_mut (zk_runV (As := [.int a3]) (rest := []) S m_Peer_60 (c_Bytes_appendNumber l D kA tp r2 1024 (zCapN 1024 n bs.length 8) f2 ((bs ++ zB4 a1) ++ zB4 a2) a3 (by rw [hlen2]; omega) H.size) rfl rfl ⟨Nat.le_of_ble_eq_true rfl, Nat.le_of_ble_eq_true rfl⟩ hK hX (zk_recv hK (hP 0 _ rfl) rfl) ⟨rfl, hP.sub (ws' := [(tp, .inr (0, [.int (nI 1024), .ref r2, .int (nI ((bs ++ zB4 a1) ++ zB4 a2).length)])), (r2, .inl ((kA 0), (zCapN 1024 n bs.length 8), .inl f2))]) [0, 1] rfl, (hD.sub (ws' := [(tp, .inr (0, [.int (nI 1024), .ref r2, .int (nI ((bs ++ zB4 a1) ++ zB4 a2).length)])), (r2, .inl ((kA 0), (zCapN 1024 n bs.length 8), .inl f2))]) [0, 1] (by decide) rfl).weaken (fun _ _ _ _ => trivial), hbs2⟩ rfl hl.1 rfl (Nat.le_of_ble_eq_true rfl) ⟨by
      show _ + (_ - _) ≤ zCapN 1024 n bs.length 20 - n
      rw [hm2]; omega, by
      show _ + 3 * (_ - _) ≤ 3 * (zCapN 1024 n bs.length 20 - n)
      rw [hm2]; omega⟩ d_Peer_feed_35) hS hFc hFc (fun v H locs hpost hz1 hk1 hS => ?_)
    obtain ⟨rfl, r3, f3, hP1, hD1, hbs3⟩ := hpost
    obtain ⟨hP, hD⟩ := va_join (wr := []) (w1 := [(tp, .inr (0, [.int (nI 1024), .ref r3, .int (nI ((((((bs ++ zB4 a1) ++ zB4 a2) ++ [zByte ((a3.toUInt32 >>> ((24 : Int32).toUInt32 &&& Int32.toUInt32 31)).toInt32)]) ++ [zByte ((a3.toUInt32 >>> ((16 : Int32).toUInt32 &&& Int32.toUInt32 31)).toInt32)]) ++ [zByte ((a3.toUInt32 >>> ((8 : Int32).toUInt32 &&& Int32.toUInt32 31)).toInt32)]) ++ [zByte a3]).length)])), (r3, .inl ((kA 0), (zCapN 1024 (zCapN 1024 n bs.length 8) ((bs ++ zB4 a1) ++ zB4 a2).length 4), .inl f3))]) hP hD [0, 1] [] rfl rfl (by decide) (by decide) hk1 hFc hP1 hD1
    refine W.eq (g2 := F0 m 38 ls []) rfl ?_
    have hP : va_P D classes [(tp, .inr (0, [.int (nI 1024), .ref r3, .int (nI ((((((bs ++ zB4 a1) ++ zB4 a2) ++ [zByte ((a3.toUInt32 >>> ((24 : Int32).toUInt32 &&& Int32.toUInt32 31)).toInt32)]) ++ [zByte ((a3.toUInt32 >>> ((16 : Int32).toUInt32 &&& Int32.toUInt32 31)).toInt32)]) ++ [zByte ((a3.toUInt32 >>> ((8 : Int32).toUInt32 &&& Int32.toUInt32 31)).toInt32)]) ++ [zByte a3]).length)])), (r3, .inl ((kA 0), (zCapN 1024 (zCapN 1024 n bs.length 8) ((bs ++ zB4 a1) ++ zB4 a2).length 4), .inl f3))] H := hP
    have hD : va_D A [(tp, .inr (0, [.int (nI 1024), .ref r3, .int (nI ((((((bs ++ zB4 a1) ++ zB4 a2) ++ [zByte ((a3.toUInt32 >>> ((24 : Int32).toUInt32 &&& Int32.toUInt32 31)).toInt32)]) ++ [zByte ((a3.toUInt32 >>> ((16 : Int32).toUInt32 &&& Int32.toUInt32 31)).toInt32)]) ++ [zByte ((a3.toUInt32 >>> ((8 : Int32).toUInt32 &&& Int32.toUInt32 31)).toInt32)]) ++ [zByte a3]).length)])), (r3, .inl ((kA 0), (zCapN 1024 (zCapN 1024 n bs.length 8) ((bs ++ zB4 a1) ++ zB4 a2).length 4), .inl f3))] := hD
    rw [zB4_app, hm2] at hP hD hbs3
    have hP : va_P D classes [(tp, .inr (0, [.int (nI 1024), .ref r3, .int (nI (((bs ++ zB4 a1) ++ zB4 a2) ++ zB4 a3).length)])), (r3, .inl ((kA 0), (zCapN 1024 n bs.length 12), .inl f3))] H := hP
    have hD : va_D A [(tp, .inr (0, [.int (nI 1024), .ref r3, .int (nI (((bs ++ zB4 a1) ++ zB4 a2) ++ zB4 a3).length)])), (r3, .inl ((kA 0), (zCapN 1024 n bs.length 12), .inl f3))] := hD
    refine W.widen (k := ((zCapN 1024 n bs.length 12) - n)) (n := (3 * ((zCapN 1024 n bs.length 12) - n))) (by rw [hm2]; omega) (by rw [hm2]; omega) ?_
    refine lv_aload_n hx hb d_Peer_feed_38 rfl (lv_at hl 0 rfl) ?_
    refine zk_get (C := R_Peer) (T := F_Peer) (N := 10) S hK (zk_ro hS hx0 hxA) rfl i_Peer 0 (by decide) m_Peer_14 rfl rfl d_Peer_feed_39 ?_
    refine lv_iload hx hb d_Peer_feed_42 (lv_at hl 4 rfl) ?_
    have hlen3 : (((bs ++ zB4 a1) ++ zB4 a2) ++ zB4 a3).length = bs.length + 12 := by simp [zB4]
    have hm3 : zCapN 1024 (zCapN 1024 n bs.length 12) (((bs ++ zB4 a1) ++ zB4 a2) ++ zB4 a3).length 4 = (zCapN 1024 n bs.length 16) := by rw [hlen3]; exact (zCapN_add 4 12).symm
    have hFc := va_free (wc := [(tp, .inr (0, [.int (nI 1024), .ref r3, .int (nI (((bs ++ zB4 a1) ++ zB4 a2) ++ zB4 a3).length)])), (r3, .inl ((kA 0), (zCapN 1024 n bs.length 12), .inl f3))]) hD hS hA [0, 1] rfl
    refine zk_mut (zk_runV (As := [.int a4]) (rest := []) S m_Peer_60 (c_Bytes_appendNumber l D kA tp r3 1024 (zCapN 1024 n bs.length 12) f3 (((bs ++ zB4 a1) ++ zB4 a2) ++ zB4 a3) a4 (by rw [hlen3]; omega) H.size) rfl rfl ⟨Nat.le_of_ble_eq_true rfl, Nat.le_of_ble_eq_true rfl⟩ hK hX (zk_recv hK (hP 0 _ rfl) rfl) ⟨rfl, hP.sub (ws' := [(tp, .inr (0, [.int (nI 1024), .ref r3, .int (nI (((bs ++ zB4 a1) ++ zB4 a2) ++ zB4 a3).length)])), (r3, .inl ((kA 0), (zCapN 1024 n bs.length 12), .inl f3))]) [0, 1] rfl, (hD.sub (ws' := [(tp, .inr (0, [.int (nI 1024), .ref r3, .int (nI (((bs ++ zB4 a1) ++ zB4 a2) ++ zB4 a3).length)])), (r3, .inl ((kA 0), (zCapN 1024 n bs.length 12), .inl f3))]) [0, 1] (by decide) rfl).weaken (fun _ _ _ _ => trivial), hbs3⟩ rfl hl.1 rfl (Nat.le_of_ble_eq_true rfl) ⟨by
      show _ + (_ - _) ≤ zCapN 1024 n bs.length 20 - n
      rw [hm3]; omega, by
      show _ + 3 * (_ - _) ≤ 3 * (zCapN 1024 n bs.length 20 - n)
      rw [hm3]; omega⟩ d_Peer_feed_44) hS hFc hFc (fun v H locs hpost hz1 hk1 hS => ?_)
    obtain ⟨rfl, r4, f4, hP1, hD1, hbs4⟩ := hpost
    obtain ⟨hP, hD⟩ := va_join (wr := []) (w1 := [(tp, .inr (0, [.int (nI 1024), .ref r4, .int (nI (((((((bs ++ zB4 a1) ++ zB4 a2) ++ zB4 a3) ++ [zByte ((a4.toUInt32 >>> ((24 : Int32).toUInt32 &&& Int32.toUInt32 31)).toInt32)]) ++ [zByte ((a4.toUInt32 >>> ((16 : Int32).toUInt32 &&& Int32.toUInt32 31)).toInt32)]) ++ [zByte ((a4.toUInt32 >>> ((8 : Int32).toUInt32 &&& Int32.toUInt32 31)).toInt32)]) ++ [zByte a4]).length)])), (r4, .inl ((kA 0), (zCapN 1024 (zCapN 1024 n bs.length 12) (((bs ++ zB4 a1) ++ zB4 a2) ++ zB4 a3).length 4), .inl f4))]) hP hD [0, 1] [] rfl rfl (by decide) (by decide) hk1 hFc hP1 hD1
    refine W.eq (g2 := F0 m 47 ls []) rfl ?_
    have hP : va_P D classes [(tp, .inr (0, [.int (nI 1024), .ref r4, .int (nI (((((((bs ++ zB4 a1) ++ zB4 a2) ++ zB4 a3) ++ [zByte ((a4.toUInt32 >>> ((24 : Int32).toUInt32 &&& Int32.toUInt32 31)).toInt32)]) ++ [zByte ((a4.toUInt32 >>> ((16 : Int32).toUInt32 &&& Int32.toUInt32 31)).toInt32)]) ++ [zByte ((a4.toUInt32 >>> ((8 : Int32).toUInt32 &&& Int32.toUInt32 31)).toInt32)]) ++ [zByte a4]).length)])), (r4, .inl ((kA 0), (zCapN 1024 (zCapN 1024 n bs.length 12) (((bs ++ zB4 a1) ++ zB4 a2) ++ zB4 a3).length 4), .inl f4))] H := hP
    have hD : va_D A [(tp, .inr (0, [.int (nI 1024), .ref r4, .int (nI (((((((bs ++ zB4 a1) ++ zB4 a2) ++ zB4 a3) ++ [zByte ((a4.toUInt32 >>> ((24 : Int32).toUInt32 &&& Int32.toUInt32 31)).toInt32)]) ++ [zByte ((a4.toUInt32 >>> ((16 : Int32).toUInt32 &&& Int32.toUInt32 31)).toInt32)]) ++ [zByte ((a4.toUInt32 >>> ((8 : Int32).toUInt32 &&& Int32.toUInt32 31)).toInt32)]) ++ [zByte a4]).length)])), (r4, .inl ((kA 0), (zCapN 1024 (zCapN 1024 n bs.length 12) (((bs ++ zB4 a1) ++ zB4 a2) ++ zB4 a3).length 4), .inl f4))] := hD
    rw [zB4_app, hm3] at hP hD hbs4
    have hP : va_P D classes [(tp, .inr (0, [.int (nI 1024), .ref r4, .int (nI ((((bs ++ zB4 a1) ++ zB4 a2) ++ zB4 a3) ++ zB4 a4).length)])), (r4, .inl ((kA 0), (zCapN 1024 n bs.length 16), .inl f4))] H := hP
    have hD : va_D A [(tp, .inr (0, [.int (nI 1024), .ref r4, .int (nI ((((bs ++ zB4 a1) ++ zB4 a2) ++ zB4 a3) ++ zB4 a4).length)])), (r4, .inl ((kA 0), (zCapN 1024 n bs.length 16), .inl f4))] := hD
    refine W.widen (k := ((zCapN 1024 n bs.length 16) - n)) (n := (3 * ((zCapN 1024 n bs.length 16) - n))) (by rw [hm3]; omega) (by rw [hm3]; omega) ?_
    refine lv_aload_n hx hb d_Peer_feed_47 rfl (lv_at hl 0 rfl) ?_
    refine zk_get (C := R_Peer) (T := F_Peer) (N := 10) S hK (zk_ro hS hx0 hxA) rfl i_Peer 0 (by decide) m_Peer_14 rfl rfl d_Peer_feed_48 ?_
    refine lv_iload hx hb d_Peer_feed_51 (lv_at hl 5 rfl) ?_
    have hlen4 : ((((bs ++ zB4 a1) ++ zB4 a2) ++ zB4 a3) ++ zB4 a4).length = bs.length + 16 := by simp [zB4]
    have hm4 : zCapN 1024 (zCapN 1024 n bs.length 16) ((((bs ++ zB4 a1) ++ zB4 a2) ++ zB4 a3) ++ zB4 a4).length 4 = (zCapN 1024 n bs.length 20) := by rw [hlen4]; exact (zCapN_add 4 16).symm
    have hFc := va_free (wc := [(tp, .inr (0, [.int (nI 1024), .ref r4, .int (nI ((((bs ++ zB4 a1) ++ zB4 a2) ++ zB4 a3) ++ zB4 a4).length)])), (r4, .inl ((kA 0), (zCapN 1024 n bs.length 16), .inl f4))]) hD hS hA [0, 1] rfl
    refine zk_mut (zk_runV (As := [.int a5]) (rest := []) S m_Peer_60 (c_Bytes_appendNumber l D kA tp r4 1024 (zCapN 1024 n bs.length 16) f4 ((((bs ++ zB4 a1) ++ zB4 a2) ++ zB4 a3) ++ zB4 a4) a5 (by rw [hlen4]; omega) H.size) rfl rfl ⟨Nat.le_of_ble_eq_true rfl, Nat.le_of_ble_eq_true rfl⟩ hK hX (zk_recv hK (hP 0 _ rfl) rfl) ⟨rfl, hP.sub (ws' := [(tp, .inr (0, [.int (nI 1024), .ref r4, .int (nI ((((bs ++ zB4 a1) ++ zB4 a2) ++ zB4 a3) ++ zB4 a4).length)])), (r4, .inl ((kA 0), (zCapN 1024 n bs.length 16), .inl f4))]) [0, 1] rfl, (hD.sub (ws' := [(tp, .inr (0, [.int (nI 1024), .ref r4, .int (nI ((((bs ++ zB4 a1) ++ zB4 a2) ++ zB4 a3) ++ zB4 a4).length)])), (r4, .inl ((kA 0), (zCapN 1024 n bs.length 16), .inl f4))]) [0, 1] (by decide) rfl).weaken (fun _ _ _ _ => trivial), hbs4⟩ rfl hl.1 rfl (Nat.le_of_ble_eq_true rfl) ⟨by
      show _ + (_ - _) ≤ zCapN 1024 n bs.length 20 - n
      rw [hm4]; omega, by
      show _ + 3 * (_ - _) ≤ 3 * (zCapN 1024 n bs.length 20 - n)
      rw [hm4]; omega⟩ d_Peer_feed_53) hS hFc hFc (fun v H locs hpost hz1 hk1 hS => ?_)
    obtain ⟨rfl, r5, f5, hP1, hD1, hbs5⟩ := hpost
    obtain ⟨hP, hD⟩ := va_join (wr := []) (w1 := [(tp, .inr (0, [.int (nI 1024), .ref r5, .int (nI ((((((((bs ++ zB4 a1) ++ zB4 a2) ++ zB4 a3) ++ zB4 a4) ++ [zByte ((a5.toUInt32 >>> ((24 : Int32).toUInt32 &&& Int32.toUInt32 31)).toInt32)]) ++ [zByte ((a5.toUInt32 >>> ((16 : Int32).toUInt32 &&& Int32.toUInt32 31)).toInt32)]) ++ [zByte ((a5.toUInt32 >>> ((8 : Int32).toUInt32 &&& Int32.toUInt32 31)).toInt32)]) ++ [zByte a5]).length)])), (r5, .inl ((kA 0), (zCapN 1024 (zCapN 1024 n bs.length 16) ((((bs ++ zB4 a1) ++ zB4 a2) ++ zB4 a3) ++ zB4 a4).length 4), .inl f5))]) hP hD [0, 1] [] rfl rfl (by decide) (by decide) hk1 hFc hP1 hD1
    refine W.eq (g2 := F0 m 56 ls []) rfl ?_
    have hP : va_P D classes [(tp, .inr (0, [.int (nI 1024), .ref r5, .int (nI ((((((((bs ++ zB4 a1) ++ zB4 a2) ++ zB4 a3) ++ zB4 a4) ++ [zByte ((a5.toUInt32 >>> ((24 : Int32).toUInt32 &&& Int32.toUInt32 31)).toInt32)]) ++ [zByte ((a5.toUInt32 >>> ((16 : Int32).toUInt32 &&& Int32.toUInt32 31)).toInt32)]) ++ [zByte ((a5.toUInt32 >>> ((8 : Int32).toUInt32 &&& Int32.toUInt32 31)).toInt32)]) ++ [zByte a5]).length)])), (r5, .inl ((kA 0), (zCapN 1024 (zCapN 1024 n bs.length 16) ((((bs ++ zB4 a1) ++ zB4 a2) ++ zB4 a3) ++ zB4 a4).length 4), .inl f5))] H := hP
    have hD : va_D A [(tp, .inr (0, [.int (nI 1024), .ref r5, .int (nI ((((((((bs ++ zB4 a1) ++ zB4 a2) ++ zB4 a3) ++ zB4 a4) ++ [zByte ((a5.toUInt32 >>> ((24 : Int32).toUInt32 &&& Int32.toUInt32 31)).toInt32)]) ++ [zByte ((a5.toUInt32 >>> ((16 : Int32).toUInt32 &&& Int32.toUInt32 31)).toInt32)]) ++ [zByte ((a5.toUInt32 >>> ((8 : Int32).toUInt32 &&& Int32.toUInt32 31)).toInt32)]) ++ [zByte a5]).length)])), (r5, .inl ((kA 0), (zCapN 1024 (zCapN 1024 n bs.length 16) ((((bs ++ zB4 a1) ++ zB4 a2) ++ zB4 a3) ++ zB4 a4).length 4), .inl f5))] := hD
    rw [zB4_app, hm4] at hP hD hbs5
    have hP : va_P D classes [(tp, .inr (0, [.int (nI 1024), .ref r5, .int (nI (((((bs ++ zB4 a1) ++ zB4 a2) ++ zB4 a3) ++ zB4 a4) ++ zB4 a5).length)])), (r5, .inl ((kA 0), (zCapN 1024 n bs.length 20), .inl f5))] H := hP
    have hD : va_D A [(tp, .inr (0, [.int (nI 1024), .ref r5, .int (nI (((((bs ++ zB4 a1) ++ zB4 a2) ++ zB4 a3) ++ zB4 a4) ++ zB4 a5).length)])), (r5, .inl ((kA 0), (zCapN 1024 n bs.length 20), .inl f5))] := hD
    refine W.widen (k := ((zCapN 1024 n bs.length 20) - n)) (n := (3 * ((zCapN 1024 n bs.length 20) - n))) (by rw [hm4]; omega) (by rw [hm4]; omega) ?_
    refine lv_iconst (v := 1) hx hb d_Peer_feed_56 (by decide) ?_
    have hfin : (((((bs ++ zB4 a1) ++ zB4 a2) ++ zB4 a3) ++ zB4 a4) ++ zB4 a5) = bs ++ (zB4 a1 ++ zB4 a2 ++ zB4 a3 ++ zB4 a4 ++ zB4 a5) := by simp
    rw [hfin] at hP hD hbs5
    exact zk_zret S hr (by decide) hlk hS (Or.inl ⟨hroom, rfl, r5, f5, hP, hD, hbs5⟩) (Nat.le_refl _) (Nat.le_refl _) d_Peer_feed_57
  · refine lv_iconst (v := 0) hx hb d_Peer_feed_12 (by decide) ?_
    exact zk_zret S hr (by decide) hlk hS (Or.inr ⟨fun z => absurd (c9.symm.trans (if_pos (show 20 ≤ 1024 - bs.length by omega))) (by decide), rfl, r, f, hP, hD, hbs0⟩) (Nat.zero_le _) (Nat.zero_le _) d_Peer_feed_13

set_option maxHeartbeats 4000000 in
set_option maxRecDepth 100000 in
/-- PeerLine.pass(n) -/
theorem c_Peer_pass (l : Launch) (D : va_G) (kA : Nat → ClassId) (x tp ln bf tr ru co : Nat) (rc hp st : Int32) (t0 : Nat) (nn : Int64) (sz0 : Nat) : Met l y_Peer_pass (Cond.code y_Peer_pass b_Peer_pass 3 (some .long) :: zTB) { frames := 1, cells := 0, slots := 0, locals := 20 } (zk_Pc D classes (zTY kA) [.ref x, .long nn] (fun H => H.size = sz0 ∧ va_P D classes [(x, .inr (5, [.ref tp, .ref ln, .ref bf, .ref tr, .ref ru, .ref co, .int rc, .int hp, .int st, .long (lN t0)]))] H ∧ va_D (fun _ => True) [(x, .inr (5, [.ref tp, .ref ln, .ref bf, .ref tr, .ref ru, .ref co, .int rc, .int hp, .int st, .long (lN t0)]))])) (zk_mQ (fun v H => v = some (.long (lN (t0 + zClamp nn))) ∧ va_P D classes [(x, .inr (5, [.ref tp, .ref ln, .ref bf, .ref tr, .ref ru, .ref co, .int rc, .int hp, .int st, .long (lN (t0 + zClamp nn))]))] H ∧ va_D (va_A [(x, .inr (5, [.ref tp, .ref ln, .ref bf, .ref tr, .ref ru, .ref co, .int rc, .int hp, .int st, .long (lN t0)]))] sz0) [(x, .inr (5, [.ref tp, .ref ln, .ref bf, .ref tr, .ref ru, .ref co, .int rc, .int hp, .int st, .long (lN (t0 + zClamp nn))]))]) (va_A [(x, .inr (5, [.ref tp, .ref ln, .ref bf, .ref tr, .ref ru, .ref co, .int rc, .int hp, .int st, .long (lN t0)]))] sz0)) 0 0 (va_A [(x, .inr (5, [.ref tp, .ref ln, .ref bf, .ref tr, .ref ru, .ref co, .int rc, .int hp, .int st, .long (lN t0)]))] sz0) := by
  refine zk_of [.ref x, .long nn] (by decide) (Nat.le_of_ble_eq_true rfl) ?_
  intro p e s m below meth c S hr hlk hnm hK hX hpre ls hl
  obtain ⟨hx, hb, hml, hown, ht⟩ := id S
  have hl : lv_has ls 3 [(0, .ref x), (1, .long nn)] := hl
  obtain ⟨hsz, hP, hD0⟩ := hpre
  subst hsz
  have hD := hD0.self (sz := s.heap.size)
  generalize hAe : va_A [(x, .inr (5, [.ref tp, .ref ln, .ref bf, .ref tr, .ref ru, .ref co, .int rc, .int hp, .int st, .long (lN t0)]))] s.heap.size = A at hD ⊢
  have hA : ∀ q : Nat, s.heap.size ≤ q → A q := fun q h => by rw [← hAe]; exact Or.inr h
  have hS : va_S A s.heap s.heap [] := va_S.rf
  have hP : va_P D classes [(x, .inr (5, [.ref tp, .ref ln, .ref bf, .ref tr, .ref ru, .ref co, .int rc, .int hp, .int st, .long (lN t0)]))] s.heap := hP
  refine lv_aload_n hx hb d_Peer_pass_0 rfl (lv_at hl 0 rfl) ?_
  refine lv_dup hx hb d_Peer_pass_1 rfl ?_
  refine zk_get (C := R_Peer) (T := F_Peer) (N := 10) S hK (hP 0 _ rfl) rfl i_Peer 9 (by decide) m_Peer_52 rfl rfl d_Peer_pass_2 ?_
  refine lv_lconst (v := 0) hx hb d_Peer_pass_5 (by decide) ?_
  refine lv_lload_n hx hb d_Peer_pass_6 rfl (lv_at hl 1 rfl) ?_
  refine lv_ldc2 (v := 1000000) hx hb hown (ht _ m_Peer_137) d_Peer_pass_7 ?_
  refine va_mmin_long hx hb (by rw [hml]; exact hl.1.symm) hown (ht _ m_Peer_139) (ht _ m_minl_s) (ht _ m_ini_Math) (ht _ m_minl_c) (Nat.le_of_ble_eq_true rfl) (Nat.le_of_ble_eq_true rfl) (Nat.le_of_ble_eq_true rfl) (Nat.le_of_ble_eq_true rfl) d_Peer_pass_10 ?_
  refine va_mmax_long hx hb (by rw [hml]; exact hl.1.symm) hown (ht _ m_Peer_112) (ht _ m_maxl_s) (ht _ m_ini_Math) (ht _ m_maxl_c) (Nat.le_of_ble_eq_true rfl) (Nat.le_of_ble_eq_true rfl) (Nat.le_of_ble_eq_true rfl) (Nat.le_of_ble_eq_true rfl) d_Peer_pass_13 ?_
  refine zk_tl (z := lN (zClamp nn)) (zClamp_eq nn) ?_
  refine lv_ladd hx hb d_Peer_pass_16 ?_
  refine zk_tl (z := lN (t0 + zClamp nn)) (lN_add _ _) ?_
  refine va_put (D := D) (ci := 5) (v := .long (lN (t0 + zClamp nn))) (ty := .long) (C := R_Peer) (T := F_Peer) (N := 10) hx hb ht i_Peer t_Peer t_Peer_ok n_Peer hown hK hP hD hS 0 rfl rfl 9 (by decide) (ht _ m_Peer_52) (fun _ h9 => h9) rfl (by decide +kernel) rfl rfl (Nat.le_of_ble_eq_true rfl) d_Peer_pass_17 (fun H locs hP hD hS => ?_)
  have hP : va_P D classes [(x, .inr (5, [.ref tp, .ref ln, .ref bf, .ref tr, .ref ru, .ref co, .int rc, .int hp, .int st, .long (lN (t0 + zClamp nn))]))] H := hP
  have hD : va_D A [(x, .inr (5, [.ref tp, .ref ln, .ref bf, .ref tr, .ref ru, .ref co, .int rc, .int hp, .int st, .long (lN (t0 + zClamp nn))]))] := hD
  refine lv_aload_n hx hb d_Peer_pass_20 rfl (lv_at hl 0 rfl) ?_
  refine zk_get (C := R_Peer) (T := F_Peer) (N := 10) S hK (hP 0 _ rfl) rfl i_Peer 9 (by decide) m_Peer_52 rfl rfl d_Peer_pass_21 ?_
  exact zk_lret S hr hlk hS ⟨rfl, hP, hD⟩ (Nat.le_refl _) (Nat.le_refl _) d_Peer_pass_24

set_option maxHeartbeats 4000000 in
set_option maxRecDepth 100000 in
/-- PeerLine.put() -/
theorem c_Peer_put (l : Launch) (D : va_G) (kA : Nat → ClassId) (x tp ln bf tr ru co : Nat) (rc hp st : Int32) (tm : Int64) (r n : Nat) (f : Nat → Int32) (trs : List Nat) (r2 n2 : Nat) (f2 : Nat → Int32) (tps : List Nat) (sz0 : Nat) : Met l y_Peer_put (Cond.code y_Peer_put b_Peer_put 1 none :: zTB) { frames := 5, cells := zTellN n trs (zThing 3 tps true) - n, slots := 3 * (zTellN n trs (zThing 3 tps true) - n), locals := 129 } (zk_Pc D classes (zTY kA) [.ref x] (fun H => H.size = sz0 ∧ va_P D classes [(tr, .inr (0, [.int (nI 32768), .ref r, .int (nI trs.length)])), (r, .inl ((kA 0), n, .inl f)), (tp, .inr (0, [.int (nI 1024), .ref r2, .int (nI tps.length)])), (r2, .inl ((kA 0), n2, .inl f2))] H ∧ va_D (fun _ => True) [(tr, .inr (0, [.int (nI 32768), .ref r, .int (nI trs.length)])), (r, .inl ((kA 0), n, .inl f)), (tp, .inr (0, [.int (nI 1024), .ref r2, .int (nI tps.length)])), (r2, .inl ((kA 0), n2, .inl f2))] ∧ va_at D classes (x, .inr (5, [.ref tp, .ref ln, .ref bf, .ref tr, .ref ru, .ref co, .int rc, .int hp, .int st, .long tm])) H ∧ ¬ (va_A [(tr, .inr (0, [.int (nI 32768), .ref r, .int (nI trs.length)])), (r, .inl ((kA 0), n, .inl f)), (tp, .inr (0, [.int (nI 1024), .ref r2, .int (nI tps.length)])), (r2, .inl ((kA 0), n2, .inl f2))] sz0) x ∧ zBs 32768 n f trs ∧ zBs 1024 n2 f2 tps)) (zk_mQ (fun v H => v = none ∧ ∃ r' f' r2' f2', va_P D classes (wB kA tr r' 32768 (zTellN n trs (zThing 3 tps true)) f' (zTell trs (zThing 3 tps true)) ++ wB kA tp r2' 1024 n2 f2' []) H ∧ va_D (va_A [(tr, .inr (0, [.int (nI 32768), .ref r, .int (nI trs.length)])), (r, .inl ((kA 0), n, .inl f)), (tp, .inr (0, [.int (nI 1024), .ref r2, .int (nI tps.length)])), (r2, .inl ((kA 0), n2, .inl f2))] sz0) (wB kA tr r' 32768 (zTellN n trs (zThing 3 tps true)) f' (zTell trs (zThing 3 tps true)) ++ wB kA tp r2' 1024 n2 f2' []) ∧ zBs 32768 (zTellN n trs (zThing 3 tps true)) f' (zTell trs (zThing 3 tps true)) ∧ zBs 1024 n2 f2' []) (va_A [(tr, .inr (0, [.int (nI 32768), .ref r, .int (nI trs.length)])), (r, .inl ((kA 0), n, .inl f)), (tp, .inr (0, [.int (nI 1024), .ref r2, .int (nI tps.length)])), (r2, .inl ((kA 0), n2, .inl f2))] sz0)) (zTellN n trs (zThing 3 tps true) - n) (3 * (zTellN n trs (zThing 3 tps true) - n)) (va_A [(tr, .inr (0, [.int (nI 32768), .ref r, .int (nI trs.length)])), (r, .inl ((kA 0), n, .inl f)), (tp, .inr (0, [.int (nI 1024), .ref r2, .int (nI tps.length)])), (r2, .inl ((kA 0), n2, .inl f2))] sz0) := by
  refine zk_of [.ref x] (by decide) (Nat.le_of_ble_eq_true rfl) ?_
  intro p e s m below meth c S hr hlk hnm hK hX hpre ls hl
  obtain ⟨hx, hb, hml, hown, ht⟩ := id S
  have hl : lv_has ls 1 [(0, .ref x)] := hl
  obtain ⟨hsz, hP, hD0, hx0, hxA, hbs, htp⟩ := hpre
  subst hsz
  have hD := hD0.self (sz := s.heap.size)
  generalize hAe : va_A [(tr, .inr (0, [.int (nI 32768), .ref r, .int (nI trs.length)])), (r, .inl ((kA 0), n, .inl f)), (tp, .inr (0, [.int (nI 1024), .ref r2, .int (nI tps.length)])), (r2, .inl ((kA 0), n2, .inl f2))] s.heap.size = A at hD hxA ⊢
  have hA : ∀ q : Nat, s.heap.size ≤ q → A q := fun q h => by rw [← hAe]; exact Or.inr h
  have hS : va_S A s.heap s.heap [] := va_S.rf
  have hP : va_P D classes [(tr, .inr (0, [.int (nI 32768), .ref r, .int (nI trs.length)])), (r, .inl ((kA 0), n, .inl f)), (tp, .inr (0, [.int (nI 1024), .ref r2, .int (nI tps.length)])), (r2, .inl ((kA 0), n2, .inl f2))] s.heap := hP
  refine lv_aload_n hx hb d_Peer_put_0 rfl (lv_at hl 0 rfl) ?_
  refine lv_iconst (v := 3) hx hb d_Peer_put_1 (by decide) ?_
  refine zk_ti (z := nI 3) (rfl) ?_
  refine lv_aload_n hx hb d_Peer_put_2 rfl (lv_at hl 0 rfl) ?_
  refine zk_get (C := R_Peer) (T := F_Peer) (N := 10) S hK (zk_ro hS hx0 hxA) rfl i_Peer 0 (by decide) m_Peer_14 rfl rfl d_Peer_put_3 ?_
  refine lv_iconst (v := 1) hx hb d_Peer_put_6 (by decide) ?_
  refine zk_ti (z := if true then 1 else 0) (rfl) ?_
  have hapl := zk_apart (wc := [(tr, .inr (0, [.int (nI 32768), .ref r, .int (nI trs.length)])), (r, .inl ((kA 0), n, .inl f))]) hP hD [0, 1] rfl (k := 2) rfl (by decide)
  have hapr := zk_apart (wc := [(tr, .inr (0, [.int (nI 32768), .ref r, .int (nI trs.length)])), (r, .inl ((kA 0), n, .inl f))]) hP hD [0, 1] rfl (k := 3) rfl (by decide)
  have hFc := va_free (wc := [(tr, .inr (0, [.int (nI 32768), .ref r, .int (nI trs.length)])), (r, .inl ((kA 0), n, .inl f))]) hD hS hA [0, 1] rfl
  refine zk_mut (zk_runV (As := [.int (nI 3), .ref tp, .int (if true then 1 else 0)]) (rest := []) S m_Peer_95 (c_Peer_tell l D kA x tp ln bf tr ru co rc hp st tm r n f trs tp 1024 tps 3 true (by decide) s.heap.size) rfl rfl ⟨Nat.le_of_ble_eq_true rfl, Nat.le_of_ble_eq_true rfl⟩ hK hX (zk_recv hK (zk_ro hS hx0 hxA) rfl) ⟨rfl, hP.sub (ws' := [(tr, .inr (0, [.int (nI 32768), .ref r, .int (nI trs.length)])), (r, .inl ((kA 0), n, .inl f))]) [0, 1] rfl, (hD.sub (ws' := [(tr, .inr (0, [.int (nI 32768), .ref r, .int (nI trs.length)])), (r, .inl ((kA 0), n, .inl f))]) [0, 1] (by decide) rfl).weaken (fun _ _ _ _ => trivial), zk_ro hS hx0 hxA, fun z => hxA (hFc _ z), hbs, r2, n2, f2, hapl, hapr, (hP 2 _ rfl), (hP 3 _ rfl), htp⟩ rfl hl.1 rfl (Nat.le_of_ble_eq_true rfl) ⟨by
    show _ ≤ (zTellN n trs (zThing 3 tps true) - n)
    omega, by
    show _ ≤ (3 * (zTellN n trs (zThing 3 tps true) - n))
    omega⟩ d_Peer_put_7) hS hFc hFc (fun v H locs hpost hz1 hk1 hS => ?_)
  obtain ⟨rfl, r', f', hP1, hD1, hbs'⟩ := hpost
  obtain ⟨hP, hD⟩ := va_join (wr := [(tp, .inr (0, [.int (nI 1024), .ref r2, .int (nI tps.length)])), (r2, .inl ((kA 0), n2, .inl f2))]) (w1 := [(tr, .inr (0, [.int (nI 32768), .ref r', .int (nI (zTell trs (zThing 3 tps true)).length)])), (r', .inl ((kA 0), (zTellN n trs (zThing 3 tps true)), .inl f'))]) hP hD [0, 1] [2, 3] rfl rfl (by decide) (by decide) hk1 hFc hP1 hD1
  refine W.eq (g2 := F0 m 10 ls []) rfl ?_
  have hP : va_P D classes [(tp, .inr (0, [.int (nI 1024), .ref r2, .int (nI tps.length)])), (r2, .inl ((kA 0), n2, .inl f2)), (tr, .inr (0, [.int (nI 32768), .ref r', .int (nI (zTell trs (zThing 3 tps true)).length)])), (r', .inl ((kA 0), (zTellN n trs (zThing 3 tps true)), .inl f'))] H := hP
  have hD : va_D A [(tp, .inr (0, [.int (nI 1024), .ref r2, .int (nI tps.length)])), (r2, .inl ((kA 0), n2, .inl f2)), (tr, .inr (0, [.int (nI 32768), .ref r', .int (nI (zTell trs (zThing 3 tps true)).length)])), (r', .inl ((kA 0), (zTellN n trs (zThing 3 tps true)), .inl f'))] := hD
  refine lv_aload_n hx hb d_Peer_put_10 rfl (lv_at hl 0 rfl) ?_
  refine zk_get (C := R_Peer) (T := F_Peer) (N := 10) S hK (zk_ro hS hx0 hxA) rfl i_Peer 0 (by decide) m_Peer_14 rfl rfl d_Peer_put_11 ?_
  have hFc := va_free (wc := [(tp, .inr (0, [.int (nI 1024), .ref r2, .int (nI tps.length)])), (r2, .inl ((kA 0), n2, .inl f2))]) hD hS hA [0, 1] rfl
  refine zk_mut (zk_runV (As := []) (rest := []) S m_Peer_88 (c_Bytes_clear l D kA tp r2 1024 n2 f2 tps H.size) rfl rfl ⟨Nat.le_of_ble_eq_true rfl, Nat.le_of_ble_eq_true rfl⟩ hK hX (zk_recv hK (hP 0 _ rfl) rfl) ⟨rfl, hP.sub (ws' := [(tp, .inr (0, [.int (nI 1024), .ref r2, .int (nI tps.length)])), (r2, .inl ((kA 0), n2, .inl f2))]) [0, 1] rfl, (hD.sub (ws' := [(tp, .inr (0, [.int (nI 1024), .ref r2, .int (nI tps.length)])), (r2, .inl ((kA 0), n2, .inl f2))]) [0, 1] (by decide) rfl).weaken (fun _ _ _ _ => trivial), htp⟩ rfl hl.1 rfl (Nat.le_of_ble_eq_true rfl) ⟨by
    show _ ≤ (zTellN n trs (zThing 3 tps true) - n)
    omega, by
    show _ ≤ (3 * (zTellN n trs (zThing 3 tps true) - n))
    omega⟩ d_Peer_put_14) hS hFc hFc (fun v H locs hpost hz1 hk1 hS => ?_)
  obtain ⟨rfl, r2', f2', hP1, hD1, htp'⟩ := hpost
  obtain ⟨hP, hD⟩ := va_join (wr := [(tr, .inr (0, [.int (nI 32768), .ref r', .int (nI (zTell trs (zThing 3 tps true)).length)])), (r', .inl ((kA 0), (zTellN n trs (zThing 3 tps true)), .inl f'))]) (w1 := [(tp, .inr (0, [.int (nI 1024), .ref r2', .int (nI ([] : List Nat).length)])), (r2', .inl ((kA 0), n2, .inl f2'))]) hP hD [0, 1] [2, 3] rfl rfl (by decide) (by decide) hk1 hFc hP1 hD1
  refine W.eq (g2 := F0 m 17 ls []) rfl ?_
  have hP : va_P D classes [(tr, .inr (0, [.int (nI 32768), .ref r', .int (nI (zTell trs (zThing 3 tps true)).length)])), (r', .inl ((kA 0), (zTellN n trs (zThing 3 tps true)), .inl f')), (tp, .inr (0, [.int (nI 1024), .ref r2', .int (nI ([] : List Nat).length)])), (r2', .inl ((kA 0), n2, .inl f2'))] H := hP
  have hD : va_D A [(tr, .inr (0, [.int (nI 32768), .ref r', .int (nI (zTell trs (zThing 3 tps true)).length)])), (r', .inl ((kA 0), (zTellN n trs (zThing 3 tps true)), .inl f')), (tp, .inr (0, [.int (nI 1024), .ref r2', .int (nI ([] : List Nat).length)])), (r2', .inl ((kA 0), n2, .inl f2'))] := hD
  exact zk_vret S hr hlk hS ⟨rfl, r', f', r2', f2', hP, hD, hbs', htp'⟩ (by omega) (by omega) d_Peer_put_17
end
section
set_option maxHeartbeats 4000000 in
set_option maxRecDepth 100000 in
/-- PeerLine.send() without a peer -/
theorem c_Peer_send0 (l : Launch) (D : va_G) (kA : Nat → ClassId) (x tp ln bf tr ru co : Nat) (rc st : Int32) (tm : Int64) (r n : Nat) (f : Nat → Int32) (tps : List Nat) (sz0 : Nat) : Met l y_Peer_send (Cond.code y_Peer_send b_Peer_send 1 (some .boolean) :: zTB) { frames := 1, cells := 0, slots := 0, locals := 20 } (zk_Pc D classes (zTY kA) [.ref x] (fun H => H.size = sz0 ∧ va_P D classes [(tp, .inr (0, [.int (nI 1024), .ref r, .int (nI tps.length)])), (r, .inl ((kA 0), n, .inl f))] H ∧ va_D (fun _ => True) [(tp, .inr (0, [.int (nI 1024), .ref r, .int (nI tps.length)])), (r, .inl ((kA 0), n, .inl f))] ∧ va_at D classes (x, .inr (5, [.ref tp, .ref ln, .ref bf, .ref tr, .ref ru, .ref co, .int rc, .int 0, .int st, .long tm])) H ∧ ¬ (va_A [(tp, .inr (0, [.int (nI 1024), .ref r, .int (nI tps.length)])), (r, .inl ((kA 0), n, .inl f))] sz0) x ∧ zBs 1024 n f tps)) (zk_mQ (fun v H => v = some (.int 0) ∧ BsPost D kA (va_A [(tp, .inr (0, [.int (nI 1024), .ref r, .int (nI tps.length)])), (r, .inl ((kA 0), n, .inl f))] sz0) H tp 1024 n []) (va_A [(tp, .inr (0, [.int (nI 1024), .ref r, .int (nI tps.length)])), (r, .inl ((kA 0), n, .inl f))] sz0)) 0 0 (va_A [(tp, .inr (0, [.int (nI 1024), .ref r, .int (nI tps.length)])), (r, .inl ((kA 0), n, .inl f))] sz0) := by
  refine zk_of [.ref x] (by decide) (Nat.le_of_ble_eq_true rfl) ?_
  intro p e s m below meth c S hr hlk hnm hK hX hpre ls hl
  obtain ⟨hx, hb, hml, hown, ht⟩ := id S
  have hl : lv_has ls 1 [(0, .ref x)] := hl
  obtain ⟨hsz, hP, hD0, hx0, hxA, hbs⟩ := hpre
  subst hsz
  have hD := hD0.self (sz := s.heap.size)
  generalize hAe : va_A [(tp, .inr (0, [.int (nI 1024), .ref r, .int (nI tps.length)])), (r, .inl ((kA 0), n, .inl f))] s.heap.size = A at hD hxA ⊢
  have hA : ∀ q : Nat, s.heap.size ≤ q → A q := fun q h => by rw [← hAe]; exact Or.inr h
  have hS : va_S A s.heap s.heap [] := va_S.rf
  have hP : va_P D classes [(tp, .inr (0, [.int (nI 1024), .ref r, .int (nI tps.length)])), (r, .inl ((kA 0), n, .inl f))] s.heap := hP
  refine lv_aload_n hx hb d_Peer_send_0 rfl (lv_at hl 0 rfl) ?_
  refine zk_get (C := R_Peer) (T := F_Peer) (N := 10) S hK (zk_ro hS hx0 hxA) rfl i_Peer 7 (by decide) m_Peer_45 rfl rfl d_Peer_send_1 ?_
  refine lv_if_eq (tgt := 21) hx hb d_Peer_send_4 (by decide) (fun c4 => ?_) (fun c4 => ?_)
  · refine lv_aload_n hx hb d_Peer_send_21 rfl (lv_at hl 0 rfl) ?_
    refine zk_get (C := R_Peer) (T := F_Peer) (N := 10) S hK (zk_ro hS hx0 hxA) rfl i_Peer 0 (by decide) m_Peer_14 rfl rfl d_Peer_send_22 ?_
    have hFc := va_free (wc := [(tp, .inr (0, [.int (nI 1024), .ref r, .int (nI tps.length)])), (r, .inl ((kA 0), n, .inl f))]) hD hS hA [0, 1] rfl
    refine zk_mut (zk_runV (As := []) (rest := []) S m_Peer_88 (c_Bytes_clear l D kA tp r 1024 n f tps s.heap.size) rfl rfl ⟨Nat.le_of_ble_eq_true rfl, Nat.le_of_ble_eq_true rfl⟩ hK hX (zk_recv hK (hP 0 _ rfl) rfl) ⟨rfl, hP.sub (ws' := [(tp, .inr (0, [.int (nI 1024), .ref r, .int (nI tps.length)])), (r, .inl ((kA 0), n, .inl f))]) [0, 1] rfl, (hD.sub (ws' := [(tp, .inr (0, [.int (nI 1024), .ref r, .int (nI tps.length)])), (r, .inl ((kA 0), n, .inl f))]) [0, 1] (by decide) rfl).weaken (fun _ _ _ _ => trivial), hbs⟩ rfl hl.1 rfl (Nat.le_of_ble_eq_true rfl) ⟨Nat.le_of_ble_eq_true rfl, Nat.le_of_ble_eq_true rfl⟩ d_Peer_send_25) hS hFc hFc (fun v H locs hpost hz1 hk1 hS => ?_)
    obtain ⟨rfl, r', f', hP1, hD1, hbs'⟩ := hpost
    obtain ⟨hP, hD⟩ := va_join (wr := []) (w1 := [(tp, .inr (0, [.int (nI 1024), .ref r', .int (nI ([] : List Nat).length)])), (r', .inl ((kA 0), n, .inl f'))]) hP hD [0, 1] [] rfl rfl (by decide) (by decide) hk1 hFc hP1 hD1
    refine W.eq (g2 := F0 m 28 ls []) rfl ?_
    have hP : va_P D classes [(tp, .inr (0, [.int (nI 1024), .ref r', .int (nI ([] : List Nat).length)])), (r', .inl ((kA 0), n, .inl f'))] H := hP
    have hD : va_D A [(tp, .inr (0, [.int (nI 1024), .ref r', .int (nI ([] : List Nat).length)])), (r', .inl ((kA 0), n, .inl f'))] := hD
    refine lv_aload_n hx hb d_Peer_send_28 rfl (lv_at hl 0 rfl) ?_
    refine zk_get (C := R_Peer) (T := F_Peer) (N := 10) S hK (zk_ro hS hx0 hxA) rfl i_Peer 7 (by decide) m_Peer_45 rfl rfl d_Peer_send_29 ?_
    exact zk_zret S hr (by decide) hlk hS ⟨rfl, r', f', hP, hD, hbs'⟩ (Nat.le_refl _) (Nat.le_refl _) d_Peer_send_32
  · exact absurd rfl c4

set_option maxHeartbeats 4000000 in
set_option maxRecDepth 100000 in
/-- PeerLine.send() with a peer -/
theorem c_Peer_send1 (l : Launch) (D : va_G) (kA : Nat → ClassId) (x tp ln bf tr ru co ct ca : Nat) (f : Nat → Int64) (g : Nat → Option Nat) (rf : Nat → Option Nat) (rs : List zRule) (ad : Nat → Nat) (mq : List (Nat × Nat)) (st0 t0 : Nat) (hst : st0 < 2 ^ 30) (ht0 : t0 < 2 ^ 30) (hrs : rs.length ≤ 64) (lr n : Nat) (fl : Nat → Int32) (lns : List Nat) (rt nt : Nat) (ft : Nat → Int32) (trs : List Nat) (rp np : Nat) (fp : Nat → Int32) (tps : List Nat) (sz0 : Nat) : Met l y_Peer_send (Cond.code y_Peer_send b_Peer_send 1 (some .boolean) :: zTB) { frames := 7, cells := (zTellN nt trs (zThing 1 tps false) - nt) + ((zGv rs t0 tps (lns, n, st0, mq)).2.1 - n), slots := 3 * (zTellN nt trs (zThing 1 tps false) - nt) + 3 * ((zGv rs t0 tps (lns, n, st0, mq)).2.1 - n), locals := 170 } (zk_Pc D classes (zTY kA) [.ref x] (fun H => H.size = sz0 ∧ va_P D classes [(x, .inr (5, [.ref tp, .ref ln, .ref bf, .ref tr, .ref ru, .ref co, .int (nI rs.length), .int 1, .int (nI (lns, n, st0, mq).2.2.1), .long (lN t0)])), (co, .inr (1, [.ref ct, .ref ca, .int (nI (zC ad (lns, n, st0, mq).2.2.2).length)])), (ct, .inl ((kA 1), 64, .inr (.inl f))), (ca, .inl ((kA 5), 64, .inr (.inr (.inr (.inr g))))), (ln, .inr (0, [.int (nI 1024), .ref lr, .int (nI (lns, n, st0, mq).1.length)])), (lr, .inl ((kA 0), (lns, n, st0, mq).2.1, .inl fl)), (tr, .inr (0, [.int (nI 32768), .ref rt, .int (nI trs.length)])), (rt, .inl ((kA 0), nt, .inl ft)), (tp, .inr (0, [.int (nI 1024), .ref rp, .int (nI tps.length)])), (rp, .inl ((kA 0), np, .inl fp))] H ∧ va_D (fun _ => True) [(x, .inr (5, [.ref tp, .ref ln, .ref bf, .ref tr, .ref ru, .ref co, .int (nI rs.length), .int 1, .int (nI (lns, n, st0, mq).2.2.1), .long (lN t0)])), (co, .inr (1, [.ref ct, .ref ca, .int (nI (zC ad (lns, n, st0, mq).2.2.2).length)])), (ct, .inl ((kA 1), 64, .inr (.inl f))), (ca, .inl ((kA 5), 64, .inr (.inr (.inr (.inr g))))), (ln, .inr (0, [.int (nI 1024), .ref lr, .int (nI (lns, n, st0, mq).1.length)])), (lr, .inl ((kA 0), (lns, n, st0, mq).2.1, .inl fl)), (tr, .inr (0, [.int (nI 32768), .ref rt, .int (nI trs.length)])), (rt, .inl ((kA 0), nt, .inl ft)), (tp, .inr (0, [.int (nI 1024), .ref rp, .int (nI tps.length)])), (rp, .inl ((kA 0), np, .inl fp))] ∧ va_at D classes (ru, .inl (kA 4, 64, .inr (.inr (.inr (.inr rf))))) H ∧ ¬ (va_A [(x, .inr (5, [.ref tp, .ref ln, .ref bf, .ref tr, .ref ru, .ref co, .int (nI rs.length), .int 1, .int (nI (lns, n, st0, mq).2.2.1), .long (lN t0)])), (co, .inr (1, [.ref ct, .ref ca, .int (nI (zC ad (lns, n, st0, mq).2.2.2).length)])), (ct, .inl ((kA 1), 64, .inr (.inl f))), (ca, .inl ((kA 5), 64, .inr (.inr (.inr (.inr g))))), (ln, .inr (0, [.int (nI 1024), .ref lr, .int (nI (lns, n, st0, mq).1.length)])), (lr, .inl ((kA 0), (lns, n, st0, mq).2.1, .inl fl)), (tr, .inr (0, [.int (nI 32768), .ref rt, .int (nI trs.length)])), (rt, .inl ((kA 0), nt, .inl ft)), (tp, .inr (0, [.int (nI 1024), .ref rp, .int (nI tps.length)])), (rp, .inl ((kA 0), np, .inl fp))] sz0) ru ∧ RsAt D kA (fun q => ¬ (va_A [(x, .inr (5, [.ref tp, .ref ln, .ref bf, .ref tr, .ref ru, .ref co, .int (nI rs.length), .int 1, .int (nI (lns, n, st0, mq).2.2.1), .long (lN t0)])), (co, .inr (1, [.ref ct, .ref ca, .int (nI (zC ad (lns, n, st0, mq).2.2.2).length)])), (ct, .inl ((kA 1), 64, .inr (.inl f))), (ca, .inl ((kA 5), 64, .inr (.inr (.inr (.inr g))))), (ln, .inr (0, [.int (nI 1024), .ref lr, .int (nI (lns, n, st0, mq).1.length)])), (lr, .inl ((kA 0), (lns, n, st0, mq).2.1, .inl fl)), (tr, .inr (0, [.int (nI 32768), .ref rt, .int (nI trs.length)])), (rt, .inl ((kA 0), nt, .inl ft)), (tp, .inr (0, [.int (nI 1024), .ref rp, .int (nI tps.length)])), (rp, .inl ((kA 0), np, .inl fp))] sz0) q) H rf rs ad ∧ zQok rs mq ∧ CoRep (zC ad mq) f g ∧ zBs 1024 n fl lns ∧ zBs 32768 nt ft trs ∧ zBs 1024 np fp tps)) (zk_mQ (fun v H => v = some (.int 1) ∧ ∃ f' g' r' fl' rt' ft' rp' fp', va_P D classes [(x, .inr (5, [.ref tp, .ref ln, .ref bf, .ref tr, .ref ru, .ref co, .int (nI rs.length), .int 1, .int (nI (zGv rs t0 tps (lns, n, st0, mq)).2.2.1), .long (lN t0)])), (co, .inr (1, [.ref ct, .ref ca, .int (nI (zC ad (zGv rs t0 tps (lns, n, st0, mq)).2.2.2).length)])), (ct, .inl (kA 1, 64, .inr (.inl f'))), (ca, .inl (kA 5, 64, .inr (.inr (.inr (.inr g'))))), (ln, .inr (0, [.int (nI 1024), .ref r', .int (nI (zGv rs t0 tps (lns, n, st0, mq)).1.length)])), (r', .inl (kA 0, (zGv rs t0 tps (lns, n, st0, mq)).2.1, .inl fl')), (tr, .inr (0, [.int (nI 32768), .ref rt', .int (nI (zTell trs (zThing 1 tps false)).length)])), (rt', .inl (kA 0, (zTellN nt trs (zThing 1 tps false)), .inl ft')), (tp, .inr (0, [.int (nI 1024), .ref rp', .int (nI ([] : List Nat).length)])), (rp', .inl (kA 0, np, .inl fp'))] H ∧ va_D (va_A [(x, .inr (5, [.ref tp, .ref ln, .ref bf, .ref tr, .ref ru, .ref co, .int (nI rs.length), .int 1, .int (nI (lns, n, st0, mq).2.2.1), .long (lN t0)])), (co, .inr (1, [.ref ct, .ref ca, .int (nI (zC ad (lns, n, st0, mq).2.2.2).length)])), (ct, .inl ((kA 1), 64, .inr (.inl f))), (ca, .inl ((kA 5), 64, .inr (.inr (.inr (.inr g))))), (ln, .inr (0, [.int (nI 1024), .ref lr, .int (nI (lns, n, st0, mq).1.length)])), (lr, .inl ((kA 0), (lns, n, st0, mq).2.1, .inl fl)), (tr, .inr (0, [.int (nI 32768), .ref rt, .int (nI trs.length)])), (rt, .inl ((kA 0), nt, .inl ft)), (tp, .inr (0, [.int (nI 1024), .ref rp, .int (nI tps.length)])), (rp, .inl ((kA 0), np, .inl fp))] sz0) [(x, .inr (5, [.ref tp, .ref ln, .ref bf, .ref tr, .ref ru, .ref co, .int (nI rs.length), .int 1, .int (nI (zGv rs t0 tps (lns, n, st0, mq)).2.2.1), .long (lN t0)])), (co, .inr (1, [.ref ct, .ref ca, .int (nI (zC ad (zGv rs t0 tps (lns, n, st0, mq)).2.2.2).length)])), (ct, .inl (kA 1, 64, .inr (.inl f'))), (ca, .inl (kA 5, 64, .inr (.inr (.inr (.inr g'))))), (ln, .inr (0, [.int (nI 1024), .ref r', .int (nI (zGv rs t0 tps (lns, n, st0, mq)).1.length)])), (r', .inl (kA 0, (zGv rs t0 tps (lns, n, st0, mq)).2.1, .inl fl')), (tr, .inr (0, [.int (nI 32768), .ref rt', .int (nI (zTell trs (zThing 1 tps false)).length)])), (rt', .inl (kA 0, (zTellN nt trs (zThing 1 tps false)), .inl ft')), (tp, .inr (0, [.int (nI 1024), .ref rp', .int (nI ([] : List Nat).length)])), (rp', .inl (kA 0, np, .inl fp'))] ∧ CoRep (zC ad (zGv rs t0 tps (lns, n, st0, mq)).2.2.2) f' g' ∧ zBs 1024 (zGv rs t0 tps (lns, n, st0, mq)).2.1 fl' (zGv rs t0 tps (lns, n, st0, mq)).1 ∧ zBs 32768 (zTellN nt trs (zThing 1 tps false)) ft' (zTell trs (zThing 1 tps false)) ∧ zBs 1024 np fp' []) (va_A [(x, .inr (5, [.ref tp, .ref ln, .ref bf, .ref tr, .ref ru, .ref co, .int (nI rs.length), .int 1, .int (nI (lns, n, st0, mq).2.2.1), .long (lN t0)])), (co, .inr (1, [.ref ct, .ref ca, .int (nI (zC ad (lns, n, st0, mq).2.2.2).length)])), (ct, .inl ((kA 1), 64, .inr (.inl f))), (ca, .inl ((kA 5), 64, .inr (.inr (.inr (.inr g))))), (ln, .inr (0, [.int (nI 1024), .ref lr, .int (nI (lns, n, st0, mq).1.length)])), (lr, .inl ((kA 0), (lns, n, st0, mq).2.1, .inl fl)), (tr, .inr (0, [.int (nI 32768), .ref rt, .int (nI trs.length)])), (rt, .inl ((kA 0), nt, .inl ft)), (tp, .inr (0, [.int (nI 1024), .ref rp, .int (nI tps.length)])), (rp, .inl ((kA 0), np, .inl fp))] sz0)) ((zTellN nt trs (zThing 1 tps false) - nt) + ((zGv rs t0 tps (lns, n, st0, mq)).2.1 - n)) (3 * (zTellN nt trs (zThing 1 tps false) - nt) + 3 * ((zGv rs t0 tps (lns, n, st0, mq)).2.1 - n)) (va_A [(x, .inr (5, [.ref tp, .ref ln, .ref bf, .ref tr, .ref ru, .ref co, .int (nI rs.length), .int 1, .int (nI (lns, n, st0, mq).2.2.1), .long (lN t0)])), (co, .inr (1, [.ref ct, .ref ca, .int (nI (zC ad (lns, n, st0, mq).2.2.2).length)])), (ct, .inl ((kA 1), 64, .inr (.inl f))), (ca, .inl ((kA 5), 64, .inr (.inr (.inr (.inr g))))), (ln, .inr (0, [.int (nI 1024), .ref lr, .int (nI (lns, n, st0, mq).1.length)])), (lr, .inl ((kA 0), (lns, n, st0, mq).2.1, .inl fl)), (tr, .inr (0, [.int (nI 32768), .ref rt, .int (nI trs.length)])), (rt, .inl ((kA 0), nt, .inl ft)), (tp, .inr (0, [.int (nI 1024), .ref rp, .int (nI tps.length)])), (rp, .inl ((kA 0), np, .inl fp))] sz0) := by
  refine zk_of [.ref x] (by decide) (Nat.le_of_ble_eq_true rfl) ?_
  intro p e s m below meth c S hr hlk hnm hK hX hpre ls hl
  obtain ⟨hx, hb, hml, hown, ht⟩ := id S
  have hl : lv_has ls 1 [(0, .ref x)] := hl
  obtain ⟨hsz, hP, hD0, hru, hruA, hrs0, hmq, hrep, hln, htr, htp⟩ := hpre
  subst hsz
  have hD := hD0.self (sz := s.heap.size)
  generalize hAe : va_A [(x, .inr (5, [.ref tp, .ref ln, .ref bf, .ref tr, .ref ru, .ref co, .int (nI rs.length), .int 1, .int (nI (lns, n, st0, mq).2.2.1), .long (lN t0)])), (co, .inr (1, [.ref ct, .ref ca, .int (nI (zC ad (lns, n, st0, mq).2.2.2).length)])), (ct, .inl ((kA 1), 64, .inr (.inl f))), (ca, .inl ((kA 5), 64, .inr (.inr (.inr (.inr g))))), (ln, .inr (0, [.int (nI 1024), .ref lr, .int (nI (lns, n, st0, mq).1.length)])), (lr, .inl ((kA 0), (lns, n, st0, mq).2.1, .inl fl)), (tr, .inr (0, [.int (nI 32768), .ref rt, .int (nI trs.length)])), (rt, .inl ((kA 0), nt, .inl ft)), (tp, .inr (0, [.int (nI 1024), .ref rp, .int (nI tps.length)])), (rp, .inl ((kA 0), np, .inl fp))] s.heap.size = A at hD hruA hrs0 ⊢
  have hA : ∀ q : Nat, s.heap.size ≤ q → A q := fun q h => by rw [← hAe]; exact Or.inr h
  have hS : va_S A s.heap s.heap [] := va_S.rf
  have hP : va_P D classes [(x, .inr (5, [.ref tp, .ref ln, .ref bf, .ref tr, .ref ru, .ref co, .int (nI rs.length), .int 1, .int (nI (lns, n, st0, mq).2.2.1), .long (lN t0)])), (co, .inr (1, [.ref ct, .ref ca, .int (nI (zC ad (lns, n, st0, mq).2.2.2).length)])), (ct, .inl ((kA 1), 64, .inr (.inl f))), (ca, .inl ((kA 5), 64, .inr (.inr (.inr (.inr g))))), (ln, .inr (0, [.int (nI 1024), .ref lr, .int (nI (lns, n, st0, mq).1.length)])), (lr, .inl ((kA 0), (lns, n, st0, mq).2.1, .inl fl)), (tr, .inr (0, [.int (nI 32768), .ref rt, .int (nI trs.length)])), (rt, .inl ((kA 0), nt, .inl ft)), (tp, .inr (0, [.int (nI 1024), .ref rp, .int (nI tps.length)])), (rp, .inl ((kA 0), np, .inl fp))] s.heap := hP
  refine lv_aload_n hx hb d_Peer_send_0 rfl (lv_at hl 0 rfl) ?_
  refine zk_get (C := R_Peer) (T := F_Peer) (N := 10) S hK (hP 0 _ rfl) rfl i_Peer 7 (by decide) m_Peer_45 rfl rfl d_Peer_send_1 ?_
  refine lv_if_eq (tgt := 21) hx hb d_Peer_send_4 (by decide) (fun c4 => ?_) (fun c4 => ?_)
  · exact absurd c4 (by decide)
  · refine lv_aload_n hx hb d_Peer_send_7 rfl (lv_at hl 0 rfl) ?_
    refine lv_iconst (v := 1) hx hb d_Peer_send_8 (by decide) ?_
    refine zk_ti (z := nI 1) (rfl) ?_
    refine lv_aload_n hx hb d_Peer_send_9 rfl (lv_at hl 0 rfl) ?_
    refine zk_get (C := R_Peer) (T := F_Peer) (N := 10) S hK (hP 0 _ rfl) rfl i_Peer 0 (by decide) m_Peer_14 rfl rfl d_Peer_send_10 ?_
    refine lv_iconst (v := 0) hx hb d_Peer_send_13 (by decide) ?_
    refine zk_ti (z := if false then 1 else 0) (rfl) ?_
    have hapa_x := zk_apart (wc := [(tr, .inr (0, [.int (nI 32768), .ref rt, .int (nI trs.length)])), (rt, .inl ((kA 0), nt, .inl ft))]) hP hD [6, 7] rfl (k := 0) rfl (by decide)
    have hapa_tp := zk_apart (wc := [(tr, .inr (0, [.int (nI 32768), .ref rt, .int (nI trs.length)])), (rt, .inl ((kA 0), nt, .inl ft))]) hP hD [6, 7] rfl (k := 8) rfl (by decide)
    have hapa_rp := zk_apart (wc := [(tr, .inr (0, [.int (nI 32768), .ref rt, .int (nI trs.length)])), (rt, .inl ((kA 0), nt, .inl ft))]) hP hD [6, 7] rfl (k := 9) rfl (by decide)
    have hFc := va_free (wc := [(tr, .inr (0, [.int (nI 32768), .ref rt, .int (nI trs.length)])), (rt, .inl ((kA 0), nt, .inl ft))]) hD hS hA [6, 7] rfl
    refine zk_mut (zk_runV (As := [.int (nI 1), .ref tp, .int (if false then 1 else 0)]) (rest := []) S m_Peer_95 (c_Peer_tell l D kA x tp ln bf tr ru co (nI rs.length) 1 (nI st0) (lN t0) rt nt ft trs tp 1024 tps 1 false (by decide) s.heap.size) rfl rfl ⟨Nat.le_of_ble_eq_true rfl, Nat.le_of_ble_eq_true rfl⟩ hK hX (zk_recv hK (hP 0 _ rfl) rfl) ⟨rfl, hP.sub (ws' := [(tr, .inr (0, [.int (nI 32768), .ref rt, .int (nI trs.length)])), (rt, .inl ((kA 0), nt, .inl ft))]) [6, 7] rfl, (hD.sub (ws' := [(tr, .inr (0, [.int (nI 32768), .ref rt, .int (nI trs.length)])), (rt, .inl ((kA 0), nt, .inl ft))]) [6, 7] (by decide) rfl).weaken (fun _ _ _ _ => trivial), (hP 0 _ rfl), hapa_x, htr, rp, np, fp, hapa_tp, hapa_rp, (hP 8 _ rfl), (hP 9 _ rfl), htp⟩ rfl hl.1 rfl (Nat.le_of_ble_eq_true rfl) ⟨by
      show _ ≤ ((zTellN nt trs (zThing 1 tps false) - nt) + ((zGv rs t0 tps (lns, n, st0, mq)).2.1 - n))
      omega, by
      show _ ≤ (3 * (zTellN nt trs (zThing 1 tps false) - nt) + 3 * ((zGv rs t0 tps (lns, n, st0, mq)).2.1 - n))
      omega⟩ d_Peer_send_14) hS hFc hFc (fun v H locs hpost hz1 hk1 hS => ?_)
    obtain ⟨rfl, rt', ft', hP1, hD1, htr'⟩ := hpost
    obtain ⟨hP, hD⟩ := va_join (wr := [(x, .inr (5, [.ref tp, .ref ln, .ref bf, .ref tr, .ref ru, .ref co, .int (nI rs.length), .int 1, .int (nI (lns, n, st0, mq).2.2.1), .long (lN t0)])), (co, .inr (1, [.ref ct, .ref ca, .int (nI (zC ad (lns, n, st0, mq).2.2.2).length)])), (ct, .inl ((kA 1), 64, .inr (.inl f))), (ca, .inl ((kA 5), 64, .inr (.inr (.inr (.inr g))))), (ln, .inr (0, [.int (nI 1024), .ref lr, .int (nI (lns, n, st0, mq).1.length)])), (lr, .inl ((kA 0), (lns, n, st0, mq).2.1, .inl fl)), (tp, .inr (0, [.int (nI 1024), .ref rp, .int (nI tps.length)])), (rp, .inl ((kA 0), np, .inl fp))]) (w1 := [(tr, .inr (0, [.int (nI 32768), .ref rt', .int (nI (zTell trs (zThing 1 tps false)).length)])), (rt', .inl ((kA 0), (zTellN nt trs (zThing 1 tps false)), .inl ft'))]) hP hD [6, 7] [0, 1, 2, 3, 4, 5, 8, 9] rfl rfl (by decide) (by decide) hk1 hFc hP1 hD1
    refine W.eq (g2 := F0 m 17 ls []) rfl ?_
    have hP : va_P D classes [(x, .inr (5, [.ref tp, .ref ln, .ref bf, .ref tr, .ref ru, .ref co, .int (nI rs.length), .int 1, .int (nI (lns, n, st0, mq).2.2.1), .long (lN t0)])), (co, .inr (1, [.ref ct, .ref ca, .int (nI (zC ad (lns, n, st0, mq).2.2.2).length)])), (ct, .inl ((kA 1), 64, .inr (.inl f))), (ca, .inl ((kA 5), 64, .inr (.inr (.inr (.inr g))))), (ln, .inr (0, [.int (nI 1024), .ref lr, .int (nI (lns, n, st0, mq).1.length)])), (lr, .inl ((kA 0), (lns, n, st0, mq).2.1, .inl fl)), (tp, .inr (0, [.int (nI 1024), .ref rp, .int (nI tps.length)])), (rp, .inl ((kA 0), np, .inl fp)), (tr, .inr (0, [.int (nI 32768), .ref rt', .int (nI (zTell trs (zThing 1 tps false)).length)])), (rt', .inl ((kA 0), (zTellN nt trs (zThing 1 tps false)), .inl ft'))] H := hP
    have hD : va_D A [(x, .inr (5, [.ref tp, .ref ln, .ref bf, .ref tr, .ref ru, .ref co, .int (nI rs.length), .int 1, .int (nI (lns, n, st0, mq).2.2.1), .long (lN t0)])), (co, .inr (1, [.ref ct, .ref ca, .int (nI (zC ad (lns, n, st0, mq).2.2.2).length)])), (ct, .inl ((kA 1), 64, .inr (.inl f))), (ca, .inl ((kA 5), 64, .inr (.inr (.inr (.inr g))))), (ln, .inr (0, [.int (nI 1024), .ref lr, .int (nI (lns, n, st0, mq).1.length)])), (lr, .inl ((kA 0), (lns, n, st0, mq).2.1, .inl fl)), (tp, .inr (0, [.int (nI 1024), .ref rp, .int (nI tps.length)])), (rp, .inl ((kA 0), np, .inl fp)), (tr, .inr (0, [.int (nI 32768), .ref rt', .int (nI (zTell trs (zThing 1 tps false)).length)])), (rt', .inl ((kA 0), (zTellN nt trs (zThing 1 tps false)), .inl ft'))] := hD
    refine lv_aload_n hx hb d_Peer_send_17 rfl (lv_at hl 0 rfl) ?_
    have hapb_tp := zk_apart (wc := [(x, .inr (5, [.ref tp, .ref ln, .ref bf, .ref tr, .ref ru, .ref co, .int (nI rs.length), .int 1, .int (nI (lns, n, st0, mq).2.2.1), .long (lN t0)])), (co, .inr (1, [.ref ct, .ref ca, .int (nI (zC ad (lns, n, st0, mq).2.2.2).length)])), (ct, .inl ((kA 1), 64, .inr (.inl f))), (ca, .inl ((kA 5), 64, .inr (.inr (.inr (.inr g))))), (ln, .inr (0, [.int (nI 1024), .ref lr, .int (nI (lns, n, st0, mq).1.length)])), (lr, .inl ((kA 0), (lns, n, st0, mq).2.1, .inl fl))]) hP hD [0, 1, 2, 3, 4, 5] rfl (k := 6) rfl (by decide)
    have hapb_rp := zk_apart (wc := [(x, .inr (5, [.ref tp, .ref ln, .ref bf, .ref tr, .ref ru, .ref co, .int (nI rs.length), .int 1, .int (nI (lns, n, st0, mq).2.2.1), .long (lN t0)])), (co, .inr (1, [.ref ct, .ref ca, .int (nI (zC ad (lns, n, st0, mq).2.2.2).length)])), (ct, .inl ((kA 1), 64, .inr (.inl f))), (ca, .inl ((kA 5), 64, .inr (.inr (.inr (.inr g))))), (ln, .inr (0, [.int (nI 1024), .ref lr, .int (nI (lns, n, st0, mq).1.length)])), (lr, .inl ((kA 0), (lns, n, st0, mq).2.1, .inl fl))]) hP hD [0, 1, 2, 3, 4, 5] rfl (k := 7) rfl (by decide)
    have hFc := va_free (wc := [(x, .inr (5, [.ref tp, .ref ln, .ref bf, .ref tr, .ref ru, .ref co, .int (nI rs.length), .int 1, .int (nI (lns, n, st0, mq).2.2.1), .long (lN t0)])), (co, .inr (1, [.ref ct, .ref ca, .int (nI (zC ad (lns, n, st0, mq).2.2.2).length)])), (ct, .inl ((kA 1), 64, .inr (.inl f))), (ca, .inl ((kA 5), 64, .inr (.inr (.inr (.inr g))))), (ln, .inr (0, [.int (nI 1024), .ref lr, .int (nI (lns, n, st0, mq).1.length)])), (lr, .inl ((kA 0), (lns, n, st0, mq).2.1, .inl fl))]) hD hS hA [0, 1, 2, 3, 4, 5] rfl
    refine zk_mut (zk_runV (As := []) (rest := []) S m_Peer_99 (c_Peer_giveTapeToPeer l D kA x tp ln bf tr ru co ct ca 1 f g rf rs ad mq st0 t0 hst ht0 hrs lr n 1024 fl lns tps H.size) rfl rfl ⟨Nat.le_of_ble_eq_true rfl, Nat.le_of_ble_eq_true rfl⟩ hK hX (zk_recv hK (hP 0 _ rfl) rfl) ⟨rfl, hP.sub (ws' := [(x, .inr (5, [.ref tp, .ref ln, .ref bf, .ref tr, .ref ru, .ref co, .int (nI rs.length), .int 1, .int (nI (lns, n, st0, mq).2.2.1), .long (lN t0)])), (co, .inr (1, [.ref ct, .ref ca, .int (nI (zC ad (lns, n, st0, mq).2.2.2).length)])), (ct, .inl ((kA 1), 64, .inr (.inl f))), (ca, .inl ((kA 5), 64, .inr (.inr (.inr (.inr g))))), (ln, .inr (0, [.int (nI 1024), .ref lr, .int (nI (lns, n, st0, mq).1.length)])), (lr, .inl ((kA 0), (lns, n, st0, mq).2.1, .inl fl))]) [0, 1, 2, 3, 4, 5] rfl, (hD.sub (ws' := [(x, .inr (5, [.ref tp, .ref ln, .ref bf, .ref tr, .ref ru, .ref co, .int (nI rs.length), .int 1, .int (nI (lns, n, st0, mq).2.2.1), .long (lN t0)])), (co, .inr (1, [.ref ct, .ref ca, .int (nI (zC ad (lns, n, st0, mq).2.2.2).length)])), (ct, .inl ((kA 1), 64, .inr (.inl f))), (ca, .inl ((kA 5), 64, .inr (.inr (.inr (.inr g))))), (ln, .inr (0, [.int (nI 1024), .ref lr, .int (nI (lns, n, st0, mq).1.length)])), (lr, .inl ((kA 0), (lns, n, st0, mq).2.1, .inl fl))]) [0, 1, 2, 3, 4, 5] (by decide) rfl).weaken (fun _ _ _ _ => trivial), zk_ro hS hru hruA, fun z => hruA (hFc _ z), (hrs0.ro hS).weaken (fun q hq hz => hq (hFc q hz)), hmq, hrep, hln, rp, np, fp, hapb_tp, hapb_rp, (hP 6 _ rfl), (hP 7 _ rfl), htp⟩ rfl hl.1 rfl (Nat.le_of_ble_eq_true rfl) ⟨by
      show _ ≤ ((zTellN nt trs (zThing 1 tps false) - nt) + ((zGv rs t0 tps (lns, n, st0, mq)).2.1 - n))
      omega, by
      show _ ≤ (3 * (zTellN nt trs (zThing 1 tps false) - nt) + 3 * ((zGv rs t0 tps (lns, n, st0, mq)).2.1 - n))
      omega⟩ d_Peer_send_18) hS hFc hFc (fun v H locs hpost hz1 hk1 hS => ?_)
    obtain ⟨rfl, f', g', r', fl', hP1, hD1, hrep', hln'⟩ := hpost
    obtain ⟨hP, hD⟩ := va_join (wr := [(tp, .inr (0, [.int (nI 1024), .ref rp, .int (nI tps.length)])), (rp, .inl ((kA 0), np, .inl fp)), (tr, .inr (0, [.int (nI 32768), .ref rt', .int (nI (zTell trs (zThing 1 tps false)).length)])), (rt', .inl ((kA 0), (zTellN nt trs (zThing 1 tps false)), .inl ft'))]) (w1 := [(x, .inr (5, [.ref tp, .ref ln, .ref bf, .ref tr, .ref ru, .ref co, .int (nI rs.length), .int 1, .int (nI (zGv rs t0 tps (lns, n, st0, mq)).2.2.1), .long (lN t0)])), (co, .inr (1, [.ref ct, .ref ca, .int (nI (zC ad (zGv rs t0 tps (lns, n, st0, mq)).2.2.2).length)])), (ct, .inl ((kA 1), 64, .inr (.inl f'))), (ca, .inl ((kA 5), 64, .inr (.inr (.inr (.inr g'))))), (ln, .inr (0, [.int (nI 1024), .ref r', .int (nI (zGv rs t0 tps (lns, n, st0, mq)).1.length)])), (r', .inl ((kA 0), (zGv rs t0 tps (lns, n, st0, mq)).2.1, .inl fl'))]) hP hD [0, 1, 2, 3, 4, 5] [6, 7, 8, 9] rfl rfl (by decide) (by decide) hk1 hFc hP1 hD1
    refine W.eq (g2 := F0 m 21 ls []) rfl ?_
    have hP : va_P D classes [(tp, .inr (0, [.int (nI 1024), .ref rp, .int (nI tps.length)])), (rp, .inl ((kA 0), np, .inl fp)), (tr, .inr (0, [.int (nI 32768), .ref rt', .int (nI (zTell trs (zThing 1 tps false)).length)])), (rt', .inl ((kA 0), (zTellN nt trs (zThing 1 tps false)), .inl ft')), (x, .inr (5, [.ref tp, .ref ln, .ref bf, .ref tr, .ref ru, .ref co, .int (nI rs.length), .int 1, .int (nI (zGv rs t0 tps (lns, n, st0, mq)).2.2.1), .long (lN t0)])), (co, .inr (1, [.ref ct, .ref ca, .int (nI (zC ad (zGv rs t0 tps (lns, n, st0, mq)).2.2.2).length)])), (ct, .inl ((kA 1), 64, .inr (.inl f'))), (ca, .inl ((kA 5), 64, .inr (.inr (.inr (.inr g'))))), (ln, .inr (0, [.int (nI 1024), .ref r', .int (nI (zGv rs t0 tps (lns, n, st0, mq)).1.length)])), (r', .inl ((kA 0), (zGv rs t0 tps (lns, n, st0, mq)).2.1, .inl fl'))] H := hP
    have hD : va_D A [(tp, .inr (0, [.int (nI 1024), .ref rp, .int (nI tps.length)])), (rp, .inl ((kA 0), np, .inl fp)), (tr, .inr (0, [.int (nI 32768), .ref rt', .int (nI (zTell trs (zThing 1 tps false)).length)])), (rt', .inl ((kA 0), (zTellN nt trs (zThing 1 tps false)), .inl ft')), (x, .inr (5, [.ref tp, .ref ln, .ref bf, .ref tr, .ref ru, .ref co, .int (nI rs.length), .int 1, .int (nI (zGv rs t0 tps (lns, n, st0, mq)).2.2.1), .long (lN t0)])), (co, .inr (1, [.ref ct, .ref ca, .int (nI (zC ad (zGv rs t0 tps (lns, n, st0, mq)).2.2.2).length)])), (ct, .inl ((kA 1), 64, .inr (.inl f'))), (ca, .inl ((kA 5), 64, .inr (.inr (.inr (.inr g'))))), (ln, .inr (0, [.int (nI 1024), .ref r', .int (nI (zGv rs t0 tps (lns, n, st0, mq)).1.length)])), (r', .inl ((kA 0), (zGv rs t0 tps (lns, n, st0, mq)).2.1, .inl fl'))] := hD
    refine lv_aload_n hx hb d_Peer_send_21 rfl (lv_at hl 0 rfl) ?_
    refine zk_get (C := R_Peer) (T := F_Peer) (N := 10) S hK (hP 4 _ rfl) rfl i_Peer 0 (by decide) m_Peer_14 rfl rfl d_Peer_send_22 ?_
    have hFc := va_free (wc := [(tp, .inr (0, [.int (nI 1024), .ref rp, .int (nI tps.length)])), (rp, .inl ((kA 0), np, .inl fp))]) hD hS hA [0, 1] rfl
    refine zk_mut (zk_runV (As := []) (rest := []) S m_Peer_88 (c_Bytes_clear l D kA tp rp 1024 np fp tps H.size) rfl rfl ⟨Nat.le_of_ble_eq_true rfl, Nat.le_of_ble_eq_true rfl⟩ hK hX (zk_recv hK (hP 0 _ rfl) rfl) ⟨rfl, hP.sub (ws' := [(tp, .inr (0, [.int (nI 1024), .ref rp, .int (nI tps.length)])), (rp, .inl ((kA 0), np, .inl fp))]) [0, 1] rfl, (hD.sub (ws' := [(tp, .inr (0, [.int (nI 1024), .ref rp, .int (nI tps.length)])), (rp, .inl ((kA 0), np, .inl fp))]) [0, 1] (by decide) rfl).weaken (fun _ _ _ _ => trivial), htp⟩ rfl hl.1 rfl (Nat.le_of_ble_eq_true rfl) ⟨by
      show _ ≤ ((zTellN nt trs (zThing 1 tps false) - nt) + ((zGv rs t0 tps (lns, n, st0, mq)).2.1 - n))
      omega, by
      show _ ≤ (3 * (zTellN nt trs (zThing 1 tps false) - nt) + 3 * ((zGv rs t0 tps (lns, n, st0, mq)).2.1 - n))
      omega⟩ d_Peer_send_25) hS hFc hFc (fun v H locs hpost hz1 hk1 hS => ?_)
    obtain ⟨rfl, rp', fp', hP1, hD1, htp'⟩ := hpost
    obtain ⟨hP, hD⟩ := va_join (wr := [(tr, .inr (0, [.int (nI 32768), .ref rt', .int (nI (zTell trs (zThing 1 tps false)).length)])), (rt', .inl ((kA 0), (zTellN nt trs (zThing 1 tps false)), .inl ft')), (x, .inr (5, [.ref tp, .ref ln, .ref bf, .ref tr, .ref ru, .ref co, .int (nI rs.length), .int 1, .int (nI (zGv rs t0 tps (lns, n, st0, mq)).2.2.1), .long (lN t0)])), (co, .inr (1, [.ref ct, .ref ca, .int (nI (zC ad (zGv rs t0 tps (lns, n, st0, mq)).2.2.2).length)])), (ct, .inl ((kA 1), 64, .inr (.inl f'))), (ca, .inl ((kA 5), 64, .inr (.inr (.inr (.inr g'))))), (ln, .inr (0, [.int (nI 1024), .ref r', .int (nI (zGv rs t0 tps (lns, n, st0, mq)).1.length)])), (r', .inl ((kA 0), (zGv rs t0 tps (lns, n, st0, mq)).2.1, .inl fl'))]) (w1 := [(tp, .inr (0, [.int (nI 1024), .ref rp', .int (nI ([] : List Nat).length)])), (rp', .inl ((kA 0), np, .inl fp'))]) hP hD [0, 1] [2, 3, 4, 5, 6, 7, 8, 9] rfl rfl (by decide) (by decide) hk1 hFc hP1 hD1
    refine W.eq (g2 := F0 m 28 ls []) rfl ?_
    have hP : va_P D classes [(tr, .inr (0, [.int (nI 32768), .ref rt', .int (nI (zTell trs (zThing 1 tps false)).length)])), (rt', .inl ((kA 0), (zTellN nt trs (zThing 1 tps false)), .inl ft')), (x, .inr (5, [.ref tp, .ref ln, .ref bf, .ref tr, .ref ru, .ref co, .int (nI rs.length), .int 1, .int (nI (zGv rs t0 tps (lns, n, st0, mq)).2.2.1), .long (lN t0)])), (co, .inr (1, [.ref ct, .ref ca, .int (nI (zC ad (zGv rs t0 tps (lns, n, st0, mq)).2.2.2).length)])), (ct, .inl ((kA 1), 64, .inr (.inl f'))), (ca, .inl ((kA 5), 64, .inr (.inr (.inr (.inr g'))))), (ln, .inr (0, [.int (nI 1024), .ref r', .int (nI (zGv rs t0 tps (lns, n, st0, mq)).1.length)])), (r', .inl ((kA 0), (zGv rs t0 tps (lns, n, st0, mq)).2.1, .inl fl')), (tp, .inr (0, [.int (nI 1024), .ref rp', .int (nI ([] : List Nat).length)])), (rp', .inl ((kA 0), np, .inl fp'))] H := hP
    have hD : va_D A [(tr, .inr (0, [.int (nI 32768), .ref rt', .int (nI (zTell trs (zThing 1 tps false)).length)])), (rt', .inl ((kA 0), (zTellN nt trs (zThing 1 tps false)), .inl ft')), (x, .inr (5, [.ref tp, .ref ln, .ref bf, .ref tr, .ref ru, .ref co, .int (nI rs.length), .int 1, .int (nI (zGv rs t0 tps (lns, n, st0, mq)).2.2.1), .long (lN t0)])), (co, .inr (1, [.ref ct, .ref ca, .int (nI (zC ad (zGv rs t0 tps (lns, n, st0, mq)).2.2.2).length)])), (ct, .inl ((kA 1), 64, .inr (.inl f'))), (ca, .inl ((kA 5), 64, .inr (.inr (.inr (.inr g'))))), (ln, .inr (0, [.int (nI 1024), .ref r', .int (nI (zGv rs t0 tps (lns, n, st0, mq)).1.length)])), (r', .inl ((kA 0), (zGv rs t0 tps (lns, n, st0, mq)).2.1, .inl fl')), (tp, .inr (0, [.int (nI 1024), .ref rp', .int (nI ([] : List Nat).length)])), (rp', .inl ((kA 0), np, .inl fp'))] := hD
    refine lv_aload_n hx hb d_Peer_send_28 rfl (lv_at hl 0 rfl) ?_
    refine zk_get (C := R_Peer) (T := F_Peer) (N := 10) S hK (hP 2 _ rfl) rfl i_Peer 7 (by decide) m_Peer_45 rfl rfl d_Peer_send_29 ?_
    exact zk_zret S hr (by decide) hlk hS ⟨rfl, f', g', r', fl', rt', ft', rp', fp', hP.sub [2, 3, 4, 5, 6, 7, 0, 1, 8, 9] rfl, hD.sub [2, 3, 4, 5, 6, 7, 0, 1, 8, 9] (by decide) rfl, hrep', hln', htr', htp'⟩ (by omega) (by omega) d_Peer_send_32

set_option maxHeartbeats 4000000 in
set_option maxRecDepth 100000 in
/-- PeerLine.spawn() -/
theorem c_Peer_spawn (l : Launch) (D : va_G) (kA : Nat → ClassId) (x tp ln bf tr ru co ct ca : Nat) (hp : Int32) (f : Nat → Int64) (g : Nat → Option Nat) (rf : Nat → Option Nat) (rs : List zRule) (ad : Nat → Nat) (mq : List (Nat × Nat)) (st0 t0 : Nat) (hst : st0 < 2 ^ 30) (ht0 : t0 < 2 ^ 30) (hrs : rs.length ≤ 64) (lr n : Nat) (fl : Nat → Int32) (lns : List Nat) (rb nb : Nat) (fb : Nat → Int32) (bfs : List Nat) (sz0 : Nat) : Met l y_Peer_spawn (Cond.code y_Peer_spawn b_Peer_spawn 1 none :: zTB) { frames := 6, cells := 0, slots := 0, locals := 148 } (zk_Pc D classes (zTY kA) [.ref x] (fun H => H.size = sz0 ∧ va_P D classes [(x, .inr (5, [.ref tp, .ref ln, .ref bf, .ref tr, .ref ru, .ref co, .int (nI rs.length), .int hp, .int (nI st0), .long (lN t0)])), (co, .inr (1, [.ref ct, .ref ca, .int (nI (zC ad mq).length)])), (ct, .inl ((kA 1), 64, .inr (.inl f))), (ca, .inl ((kA 5), 64, .inr (.inr (.inr (.inr g))))), (ln, .inr (0, [.int (nI 1024), .ref lr, .int (nI lns.length)])), (lr, .inl ((kA 0), n, .inl fl)), (bf, .inr (0, [.int (nI 1024), .ref rb, .int (nI bfs.length)])), (rb, .inl ((kA 0), nb, .inl fb))] H ∧ va_D (fun _ => True) [(x, .inr (5, [.ref tp, .ref ln, .ref bf, .ref tr, .ref ru, .ref co, .int (nI rs.length), .int hp, .int (nI st0), .long (lN t0)])), (co, .inr (1, [.ref ct, .ref ca, .int (nI (zC ad mq).length)])), (ct, .inl ((kA 1), 64, .inr (.inl f))), (ca, .inl ((kA 5), 64, .inr (.inr (.inr (.inr g))))), (ln, .inr (0, [.int (nI 1024), .ref lr, .int (nI lns.length)])), (lr, .inl ((kA 0), n, .inl fl)), (bf, .inr (0, [.int (nI 1024), .ref rb, .int (nI bfs.length)])), (rb, .inl ((kA 0), nb, .inl fb))] ∧ va_at D classes (ru, .inl (kA 4, 64, .inr (.inr (.inr (.inr rf))))) H ∧ ¬ (va_A [(x, .inr (5, [.ref tp, .ref ln, .ref bf, .ref tr, .ref ru, .ref co, .int (nI rs.length), .int hp, .int (nI st0), .long (lN t0)])), (co, .inr (1, [.ref ct, .ref ca, .int (nI (zC ad mq).length)])), (ct, .inl ((kA 1), 64, .inr (.inl f))), (ca, .inl ((kA 5), 64, .inr (.inr (.inr (.inr g))))), (ln, .inr (0, [.int (nI 1024), .ref lr, .int (nI lns.length)])), (lr, .inl ((kA 0), n, .inl fl)), (bf, .inr (0, [.int (nI 1024), .ref rb, .int (nI bfs.length)])), (rb, .inl ((kA 0), nb, .inl fb))] sz0) ru ∧ RsAt D kA (fun q => ¬ (va_A [(x, .inr (5, [.ref tp, .ref ln, .ref bf, .ref tr, .ref ru, .ref co, .int (nI rs.length), .int hp, .int (nI st0), .long (lN t0)])), (co, .inr (1, [.ref ct, .ref ca, .int (nI (zC ad mq).length)])), (ct, .inl ((kA 1), 64, .inr (.inl f))), (ca, .inl ((kA 5), 64, .inr (.inr (.inr (.inr g))))), (ln, .inr (0, [.int (nI 1024), .ref lr, .int (nI lns.length)])), (lr, .inl ((kA 0), n, .inl fl)), (bf, .inr (0, [.int (nI 1024), .ref rb, .int (nI bfs.length)])), (rb, .inl ((kA 0), nb, .inl fb))] sz0) q) H rf rs ad ∧ zQok rs mq ∧ CoRep (zC ad mq) f g ∧ zBs 1024 n fl lns ∧ zBs 1024 nb fb bfs)) (zk_mQ (fun v H => v = none ∧ ∃ f' g' r' fl' rb' fb', va_P D classes [(x, .inr (5, [.ref tp, .ref ln, .ref bf, .ref tr, .ref ru, .ref co, .int (nI rs.length), .int 1, .int (nI (zNext rs 0 (zFirst rs 0 []))), .long (lN t0)])), (co, .inr (1, [.ref ct, .ref ca, .int (nI (zC ad (zPush rs t0 [] (zFirst rs 0 []))).length)])), (ct, .inl (kA 1, 64, .inr (.inl f'))), (ca, .inl (kA 5, 64, .inr (.inr (.inr (.inr g'))))), (ln, .inr (0, [.int (nI 1024), .ref r', .int (nI ([] : List Nat).length)])), (r', .inl (kA 0, n, .inl fl')), (bf, .inr (0, [.int (nI 1024), .ref rb', .int (nI ([] : List Nat).length)])), (rb', .inl (kA 0, nb, .inl fb'))] H ∧ va_D (va_A [(x, .inr (5, [.ref tp, .ref ln, .ref bf, .ref tr, .ref ru, .ref co, .int (nI rs.length), .int hp, .int (nI st0), .long (lN t0)])), (co, .inr (1, [.ref ct, .ref ca, .int (nI (zC ad mq).length)])), (ct, .inl ((kA 1), 64, .inr (.inl f))), (ca, .inl ((kA 5), 64, .inr (.inr (.inr (.inr g))))), (ln, .inr (0, [.int (nI 1024), .ref lr, .int (nI lns.length)])), (lr, .inl ((kA 0), n, .inl fl)), (bf, .inr (0, [.int (nI 1024), .ref rb, .int (nI bfs.length)])), (rb, .inl ((kA 0), nb, .inl fb))] sz0) [(x, .inr (5, [.ref tp, .ref ln, .ref bf, .ref tr, .ref ru, .ref co, .int (nI rs.length), .int 1, .int (nI (zNext rs 0 (zFirst rs 0 []))), .long (lN t0)])), (co, .inr (1, [.ref ct, .ref ca, .int (nI (zC ad (zPush rs t0 [] (zFirst rs 0 []))).length)])), (ct, .inl (kA 1, 64, .inr (.inl f'))), (ca, .inl (kA 5, 64, .inr (.inr (.inr (.inr g'))))), (ln, .inr (0, [.int (nI 1024), .ref r', .int (nI ([] : List Nat).length)])), (r', .inl (kA 0, n, .inl fl')), (bf, .inr (0, [.int (nI 1024), .ref rb', .int (nI ([] : List Nat).length)])), (rb', .inl (kA 0, nb, .inl fb'))] ∧ CoRep (zC ad (zPush rs t0 [] (zFirst rs 0 []))) f' g' ∧ zBs 1024 n fl' [] ∧ zBs 1024 nb fb' []) (va_A [(x, .inr (5, [.ref tp, .ref ln, .ref bf, .ref tr, .ref ru, .ref co, .int (nI rs.length), .int hp, .int (nI st0), .long (lN t0)])), (co, .inr (1, [.ref ct, .ref ca, .int (nI (zC ad mq).length)])), (ct, .inl ((kA 1), 64, .inr (.inl f))), (ca, .inl ((kA 5), 64, .inr (.inr (.inr (.inr g))))), (ln, .inr (0, [.int (nI 1024), .ref lr, .int (nI lns.length)])), (lr, .inl ((kA 0), n, .inl fl)), (bf, .inr (0, [.int (nI 1024), .ref rb, .int (nI bfs.length)])), (rb, .inl ((kA 0), nb, .inl fb))] sz0)) 0 0 (va_A [(x, .inr (5, [.ref tp, .ref ln, .ref bf, .ref tr, .ref ru, .ref co, .int (nI rs.length), .int hp, .int (nI st0), .long (lN t0)])), (co, .inr (1, [.ref ct, .ref ca, .int (nI (zC ad mq).length)])), (ct, .inl ((kA 1), 64, .inr (.inl f))), (ca, .inl ((kA 5), 64, .inr (.inr (.inr (.inr g))))), (ln, .inr (0, [.int (nI 1024), .ref lr, .int (nI lns.length)])), (lr, .inl ((kA 0), n, .inl fl)), (bf, .inr (0, [.int (nI 1024), .ref rb, .int (nI bfs.length)])), (rb, .inl ((kA 0), nb, .inl fb))] sz0) := by
  refine zk_of [.ref x] (by decide) (Nat.le_of_ble_eq_true rfl) ?_
  intro p e s m below meth c S hr hlk hnm hK hX hpre ls hl
  obtain ⟨hx, hb, hml, hown, ht⟩ := id S
  have hl : lv_has ls 1 [(0, .ref x)] := hl
  obtain ⟨hsz, hP, hD0, hru, hruA, hrs0, hmq, hrep, hln, hbf⟩ := hpre
  subst hsz
  have hD := hD0.self (sz := s.heap.size)
  generalize hAe : va_A [(x, .inr (5, [.ref tp, .ref ln, .ref bf, .ref tr, .ref ru, .ref co, .int (nI rs.length), .int hp, .int (nI st0), .long (lN t0)])), (co, .inr (1, [.ref ct, .ref ca, .int (nI (zC ad mq).length)])), (ct, .inl ((kA 1), 64, .inr (.inl f))), (ca, .inl ((kA 5), 64, .inr (.inr (.inr (.inr g))))), (ln, .inr (0, [.int (nI 1024), .ref lr, .int (nI lns.length)])), (lr, .inl ((kA 0), n, .inl fl)), (bf, .inr (0, [.int (nI 1024), .ref rb, .int (nI bfs.length)])), (rb, .inl ((kA 0), nb, .inl fb))] s.heap.size = A at hD hruA hrs0 ⊢
  have hA : ∀ q : Nat, s.heap.size ≤ q → A q := fun q h => by rw [← hAe]; exact Or.inr h
  have hS : va_S A s.heap s.heap [] := va_S.rf
  have hP : va_P D classes [(x, .inr (5, [.ref tp, .ref ln, .ref bf, .ref tr, .ref ru, .ref co, .int (nI rs.length), .int hp, .int (nI st0), .long (lN t0)])), (co, .inr (1, [.ref ct, .ref ca, .int (nI (zC ad mq).length)])), (ct, .inl ((kA 1), 64, .inr (.inl f))), (ca, .inl ((kA 5), 64, .inr (.inr (.inr (.inr g))))), (ln, .inr (0, [.int (nI 1024), .ref lr, .int (nI lns.length)])), (lr, .inl ((kA 0), n, .inl fl)), (bf, .inr (0, [.int (nI 1024), .ref rb, .int (nI bfs.length)])), (rb, .inl ((kA 0), nb, .inl fb))] s.heap := hP
  refine lv_aload_n hx hb d_Peer_spawn_0 rfl (lv_at hl 0 rfl) ?_
  refine lv_iconst (v := 1) hx hb d_Peer_spawn_1 (by decide) ?_
  refine va_put (D := D) (ci := 5) (v := .int 1) (ty := .boolean) (C := R_Peer) (T := F_Peer) (N := 10) hx hb ht i_Peer t_Peer t_Peer_ok n_Peer hown hK hP hD hS 0 rfl rfl 7 (by decide) (ht _ m_Peer_45) (fun _ h9 => h9) rfl (by decide +kernel) rfl rfl (Nat.le_of_ble_eq_true rfl) d_Peer_spawn_2 (fun H locs hP hD hS => ?_)
  have hP : va_P D classes [(x, .inr (5, [.ref tp, .ref ln, .ref bf, .ref tr, .ref ru, .ref co, .int (nI rs.length), .int 1, .int (nI st0), .long (lN t0)])), (co, .inr (1, [.ref ct, .ref ca, .int (nI (zC ad mq).length)])), (ct, .inl ((kA 1), 64, .inr (.inl f))), (ca, .inl ((kA 5), 64, .inr (.inr (.inr (.inr g))))), (ln, .inr (0, [.int (nI 1024), .ref lr, .int (nI lns.length)])), (lr, .inl ((kA 0), n, .inl fl)), (bf, .inr (0, [.int (nI 1024), .ref rb, .int (nI bfs.length)])), (rb, .inl ((kA 0), nb, .inl fb))] H := hP
  have hD : va_D A [(x, .inr (5, [.ref tp, .ref ln, .ref bf, .ref tr, .ref ru, .ref co, .int (nI rs.length), .int 1, .int (nI st0), .long (lN t0)])), (co, .inr (1, [.ref ct, .ref ca, .int (nI (zC ad mq).length)])), (ct, .inl ((kA 1), 64, .inr (.inl f))), (ca, .inl ((kA 5), 64, .inr (.inr (.inr (.inr g))))), (ln, .inr (0, [.int (nI 1024), .ref lr, .int (nI lns.length)])), (lr, .inl ((kA 0), n, .inl fl)), (bf, .inr (0, [.int (nI 1024), .ref rb, .int (nI bfs.length)])), (rb, .inl ((kA 0), nb, .inl fb))] := hD
  refine lv_aload_n hx hb d_Peer_spawn_5 rfl (lv_at hl 0 rfl) ?_
  refine lv_iconst (v := 0) hx hb d_Peer_spawn_6 (by decide) ?_
  refine zk_ti (z := nI 0) (rfl) ?_
  refine va_put (D := D) (ci := 5) (v := .int (nI 0)) (ty := .int) (C := R_Peer) (T := F_Peer) (N := 10) hx hb ht i_Peer t_Peer t_Peer_ok n_Peer hown hK hP hD hS 0 rfl rfl 8 (by decide) (ht _ m_Peer_49) (fun _ h9 => h9) rfl (by decide +kernel) rfl rfl (Nat.le_of_ble_eq_true rfl) d_Peer_spawn_7 (fun H locs hP hD hS => ?_)
  have hP : va_P D classes [(x, .inr (5, [.ref tp, .ref ln, .ref bf, .ref tr, .ref ru, .ref co, .int (nI rs.length), .int 1, .int (nI 0), .long (lN t0)])), (co, .inr (1, [.ref ct, .ref ca, .int (nI (zC ad mq).length)])), (ct, .inl ((kA 1), 64, .inr (.inl f))), (ca, .inl ((kA 5), 64, .inr (.inr (.inr (.inr g))))), (ln, .inr (0, [.int (nI 1024), .ref lr, .int (nI lns.length)])), (lr, .inl ((kA 0), n, .inl fl)), (bf, .inr (0, [.int (nI 1024), .ref rb, .int (nI bfs.length)])), (rb, .inl ((kA 0), nb, .inl fb))] H := hP
  have hD : va_D A [(x, .inr (5, [.ref tp, .ref ln, .ref bf, .ref tr, .ref ru, .ref co, .int (nI rs.length), .int 1, .int (nI 0), .long (lN t0)])), (co, .inr (1, [.ref ct, .ref ca, .int (nI (zC ad mq).length)])), (ct, .inl ((kA 1), 64, .inr (.inl f))), (ca, .inl ((kA 5), 64, .inr (.inr (.inr (.inr g))))), (ln, .inr (0, [.int (nI 1024), .ref lr, .int (nI lns.length)])), (lr, .inl ((kA 0), n, .inl fl)), (bf, .inr (0, [.int (nI 1024), .ref rb, .int (nI bfs.length)])), (rb, .inl ((kA 0), nb, .inl fb))] := hD
  refine lv_aload_n hx hb d_Peer_spawn_10 rfl (lv_at hl 0 rfl) ?_
  refine zk_get (C := R_Peer) (T := F_Peer) (N := 10) S hK (hP 0 _ rfl) rfl i_Peer 1 (by decide) m_Peer_18 rfl rfl d_Peer_spawn_11 ?_
  have hFc := va_free (wc := [(ln, .inr (0, [.int (nI 1024), .ref lr, .int (nI lns.length)])), (lr, .inl ((kA 0), n, .inl fl))]) hD hS hA [4, 5] rfl
  refine zk_mut (zk_runV (As := []) (rest := []) S m_Peer_88 (c_Bytes_clear l D kA ln lr 1024 n fl lns H.size) rfl rfl ⟨Nat.le_of_ble_eq_true rfl, Nat.le_of_ble_eq_true rfl⟩ hK hX (zk_recv hK (hP 4 _ rfl) rfl) ⟨rfl, hP.sub (ws' := [(ln, .inr (0, [.int (nI 1024), .ref lr, .int (nI lns.length)])), (lr, .inl ((kA 0), n, .inl fl))]) [4, 5] rfl, (hD.sub (ws' := [(ln, .inr (0, [.int (nI 1024), .ref lr, .int (nI lns.length)])), (lr, .inl ((kA 0), n, .inl fl))]) [4, 5] (by decide) rfl).weaken (fun _ _ _ _ => trivial), hln⟩ rfl hl.1 rfl (Nat.le_of_ble_eq_true rfl) ⟨Nat.le_of_ble_eq_true rfl, Nat.le_of_ble_eq_true rfl⟩ d_Peer_spawn_14) hS hFc hFc (fun v H locs hpost hz1 hk1 hS => ?_)
  obtain ⟨rfl, r', fl', hP1, hD1, hln'⟩ := hpost
  obtain ⟨hP, hD⟩ := va_join (wr := [(x, .inr (5, [.ref tp, .ref ln, .ref bf, .ref tr, .ref ru, .ref co, .int (nI rs.length), .int 1, .int (nI 0), .long (lN t0)])), (co, .inr (1, [.ref ct, .ref ca, .int (nI (zC ad mq).length)])), (ct, .inl ((kA 1), 64, .inr (.inl f))), (ca, .inl ((kA 5), 64, .inr (.inr (.inr (.inr g))))), (bf, .inr (0, [.int (nI 1024), .ref rb, .int (nI bfs.length)])), (rb, .inl ((kA 0), nb, .inl fb))]) (w1 := [(ln, .inr (0, [.int (nI 1024), .ref r', .int (nI ([] : List Nat).length)])), (r', .inl ((kA 0), n, .inl fl'))]) hP hD [4, 5] [0, 1, 2, 3, 6, 7] rfl rfl (by decide) (by decide) hk1 hFc hP1 hD1
  refine W.eq (g2 := F0 m 17 ls []) rfl ?_
  have hP : va_P D classes [(x, .inr (5, [.ref tp, .ref ln, .ref bf, .ref tr, .ref ru, .ref co, .int (nI rs.length), .int 1, .int (nI 0), .long (lN t0)])), (co, .inr (1, [.ref ct, .ref ca, .int (nI (zC ad mq).length)])), (ct, .inl ((kA 1), 64, .inr (.inl f))), (ca, .inl ((kA 5), 64, .inr (.inr (.inr (.inr g))))), (bf, .inr (0, [.int (nI 1024), .ref rb, .int (nI bfs.length)])), (rb, .inl ((kA 0), nb, .inl fb)), (ln, .inr (0, [.int (nI 1024), .ref r', .int (nI ([] : List Nat).length)])), (r', .inl ((kA 0), n, .inl fl'))] H := hP
  have hD : va_D A [(x, .inr (5, [.ref tp, .ref ln, .ref bf, .ref tr, .ref ru, .ref co, .int (nI rs.length), .int 1, .int (nI 0), .long (lN t0)])), (co, .inr (1, [.ref ct, .ref ca, .int (nI (zC ad mq).length)])), (ct, .inl ((kA 1), 64, .inr (.inl f))), (ca, .inl ((kA 5), 64, .inr (.inr (.inr (.inr g))))), (bf, .inr (0, [.int (nI 1024), .ref rb, .int (nI bfs.length)])), (rb, .inl ((kA 0), nb, .inl fb)), (ln, .inr (0, [.int (nI 1024), .ref r', .int (nI ([] : List Nat).length)])), (r', .inl ((kA 0), n, .inl fl'))] := hD
  refine lv_aload_n hx hb d_Peer_spawn_17 rfl (lv_at hl 0 rfl) ?_
  refine zk_get (C := R_Peer) (T := F_Peer) (N := 10) S hK (hP 0 _ rfl) rfl i_Peer 5 (by decide) m_Peer_37 rfl rfl d_Peer_spawn_18 ?_
  have hFc := va_free (wc := [(co, .inr (1, [.ref ct, .ref ca, .int (nI (zC ad mq).length)])), (ct, .inl ((kA 1), 64, .inr (.inl f))), (ca, .inl ((kA 5), 64, .inr (.inr (.inr (.inr g)))))]) hD hS hA [1, 2, 3] rfl
  refine zk_mut (zk_runV (As := []) (rest := []) S m_Peer_91 (c_Coming_clear l D kA co ct ca f g (zC ad mq) H.size) rfl rfl ⟨Nat.le_of_ble_eq_true rfl, Nat.le_of_ble_eq_true rfl⟩ hK hX (zk_recv hK (hP 1 _ rfl) rfl) ⟨rfl, hP.sub (ws' := [(co, .inr (1, [.ref ct, .ref ca, .int (nI (zC ad mq).length)])), (ct, .inl ((kA 1), 64, .inr (.inl f))), (ca, .inl ((kA 5), 64, .inr (.inr (.inr (.inr g)))))]) [1, 2, 3] rfl, (hD.sub (ws' := [(co, .inr (1, [.ref ct, .ref ca, .int (nI (zC ad mq).length)])), (ct, .inl ((kA 1), 64, .inr (.inl f))), (ca, .inl ((kA 5), 64, .inr (.inr (.inr (.inr g)))))]) [1, 2, 3] (by decide) rfl).weaken (fun _ _ _ _ => trivial)⟩ rfl hl.1 rfl (Nat.le_of_ble_eq_true rfl) ⟨Nat.le_of_ble_eq_true rfl, Nat.le_of_ble_eq_true rfl⟩ d_Peer_spawn_21) hS hFc hFc (fun v H locs hpost hz1 hk1 hS => ?_)
  obtain ⟨rfl, f1, g1, hP1, hD1, hrep1⟩ := hpost
  obtain ⟨hP, hD⟩ := va_join (wr := [(x, .inr (5, [.ref tp, .ref ln, .ref bf, .ref tr, .ref ru, .ref co, .int (nI rs.length), .int 1, .int (nI 0), .long (lN t0)])), (bf, .inr (0, [.int (nI 1024), .ref rb, .int (nI bfs.length)])), (rb, .inl ((kA 0), nb, .inl fb)), (ln, .inr (0, [.int (nI 1024), .ref r', .int (nI ([] : List Nat).length)])), (r', .inl ((kA 0), n, .inl fl'))]) (w1 := [(co, .inr (1, [.ref ct, .ref ca, .int (nI ([] : List (Nat × Nat)).length)])), (ct, .inl ((kA 1), 64, .inr (.inl f1))), (ca, .inl ((kA 5), 64, .inr (.inr (.inr (.inr g1)))))]) hP hD [1, 2, 3] [0, 4, 5, 6, 7] rfl rfl (by decide) (by decide) hk1 hFc hP1 hD1
  refine W.eq (g2 := F0 m 24 ls []) rfl ?_
  have hP : va_P D classes [(x, .inr (5, [.ref tp, .ref ln, .ref bf, .ref tr, .ref ru, .ref co, .int (nI rs.length), .int 1, .int (nI 0), .long (lN t0)])), (bf, .inr (0, [.int (nI 1024), .ref rb, .int (nI bfs.length)])), (rb, .inl ((kA 0), nb, .inl fb)), (ln, .inr (0, [.int (nI 1024), .ref r', .int (nI ([] : List Nat).length)])), (r', .inl ((kA 0), n, .inl fl')), (co, .inr (1, [.ref ct, .ref ca, .int (nI ([] : List (Nat × Nat)).length)])), (ct, .inl ((kA 1), 64, .inr (.inl f1))), (ca, .inl ((kA 5), 64, .inr (.inr (.inr (.inr g1)))))] H := hP
  have hD : va_D A [(x, .inr (5, [.ref tp, .ref ln, .ref bf, .ref tr, .ref ru, .ref co, .int (nI rs.length), .int 1, .int (nI 0), .long (lN t0)])), (bf, .inr (0, [.int (nI 1024), .ref rb, .int (nI bfs.length)])), (rb, .inl ((kA 0), nb, .inl fb)), (ln, .inr (0, [.int (nI 1024), .ref r', .int (nI ([] : List Nat).length)])), (r', .inl ((kA 0), n, .inl fl')), (co, .inr (1, [.ref ct, .ref ca, .int (nI ([] : List (Nat × Nat)).length)])), (ct, .inl ((kA 1), 64, .inr (.inl f1))), (ca, .inl ((kA 5), 64, .inr (.inr (.inr (.inr g1)))))] := hD
  have hP : va_P D classes [(x, .inr (5, [.ref tp, .ref ln, .ref bf, .ref tr, .ref ru, .ref co, .int (nI rs.length), .int 1, .int (nI 0), .long (lN t0)])), (bf, .inr (0, [.int (nI 1024), .ref rb, .int (nI bfs.length)])), (rb, .inl ((kA 0), nb, .inl fb)), (ln, .inr (0, [.int (nI 1024), .ref r', .int (nI ([] : List Nat).length)])), (r', .inl ((kA 0), n, .inl fl')), (co, .inr (1, [.ref ct, .ref ca, .int (nI (zC ad []).length)])), (ct, .inl ((kA 1), 64, .inr (.inl f1))), (ca, .inl ((kA 5), 64, .inr (.inr (.inr (.inr g1)))))] H := hP
  have hD : va_D A [(x, .inr (5, [.ref tp, .ref ln, .ref bf, .ref tr, .ref ru, .ref co, .int (nI rs.length), .int 1, .int (nI 0), .long (lN t0)])), (bf, .inr (0, [.int (nI 1024), .ref rb, .int (nI bfs.length)])), (rb, .inl ((kA 0), nb, .inl fb)), (ln, .inr (0, [.int (nI 1024), .ref r', .int (nI ([] : List Nat).length)])), (r', .inl ((kA 0), n, .inl fl')), (co, .inr (1, [.ref ct, .ref ca, .int (nI (zC ad []).length)])), (ct, .inl ((kA 1), 64, .inr (.inl f1))), (ca, .inl ((kA 5), 64, .inr (.inr (.inr (.inr g1)))))] := hD
  refine lv_aload_n hx hb d_Peer_spawn_24 rfl (lv_at hl 0 rfl) ?_
  refine zk_get (C := R_Peer) (T := F_Peer) (N := 10) S hK (hP 0 _ rfl) rfl i_Peer 2 (by decide) m_Peer_21 rfl rfl d_Peer_spawn_25 ?_
  have hFc := va_free (wc := [(bf, .inr (0, [.int (nI 1024), .ref rb, .int (nI bfs.length)])), (rb, .inl ((kA 0), nb, .inl fb))]) hD hS hA [1, 2] rfl
  refine zk_mut (zk_runV (As := []) (rest := []) S m_Peer_88 (c_Bytes_clear l D kA bf rb 1024 nb fb bfs H.size) rfl rfl ⟨Nat.le_of_ble_eq_true rfl, Nat.le_of_ble_eq_true rfl⟩ hK hX (zk_recv hK (hP 1 _ rfl) rfl) ⟨rfl, hP.sub (ws' := [(bf, .inr (0, [.int (nI 1024), .ref rb, .int (nI bfs.length)])), (rb, .inl ((kA 0), nb, .inl fb))]) [1, 2] rfl, (hD.sub (ws' := [(bf, .inr (0, [.int (nI 1024), .ref rb, .int (nI bfs.length)])), (rb, .inl ((kA 0), nb, .inl fb))]) [1, 2] (by decide) rfl).weaken (fun _ _ _ _ => trivial), hbf⟩ rfl hl.1 rfl (Nat.le_of_ble_eq_true rfl) ⟨Nat.le_of_ble_eq_true rfl, Nat.le_of_ble_eq_true rfl⟩ d_Peer_spawn_28) hS hFc hFc (fun v H locs hpost hz1 hk1 hS => ?_)
  obtain ⟨rfl, rb', fb', hP1, hD1, hbf'⟩ := hpost
  obtain ⟨hP, hD⟩ := va_join (wr := [(x, .inr (5, [.ref tp, .ref ln, .ref bf, .ref tr, .ref ru, .ref co, .int (nI rs.length), .int 1, .int (nI 0), .long (lN t0)])), (ln, .inr (0, [.int (nI 1024), .ref r', .int (nI ([] : List Nat).length)])), (r', .inl ((kA 0), n, .inl fl')), (co, .inr (1, [.ref ct, .ref ca, .int (nI (zC ad []).length)])), (ct, .inl ((kA 1), 64, .inr (.inl f1))), (ca, .inl ((kA 5), 64, .inr (.inr (.inr (.inr g1)))))]) (w1 := [(bf, .inr (0, [.int (nI 1024), .ref rb', .int (nI ([] : List Nat).length)])), (rb', .inl ((kA 0), nb, .inl fb'))]) hP hD [1, 2] [0, 3, 4, 5, 6, 7] rfl rfl (by decide) (by decide) hk1 hFc hP1 hD1
  refine W.eq (g2 := F0 m 31 ls []) rfl ?_
  have hP : va_P D classes [(x, .inr (5, [.ref tp, .ref ln, .ref bf, .ref tr, .ref ru, .ref co, .int (nI rs.length), .int 1, .int (nI 0), .long (lN t0)])), (ln, .inr (0, [.int (nI 1024), .ref r', .int (nI ([] : List Nat).length)])), (r', .inl ((kA 0), n, .inl fl')), (co, .inr (1, [.ref ct, .ref ca, .int (nI (zC ad []).length)])), (ct, .inl ((kA 1), 64, .inr (.inl f1))), (ca, .inl ((kA 5), 64, .inr (.inr (.inr (.inr g1))))), (bf, .inr (0, [.int (nI 1024), .ref rb', .int (nI ([] : List Nat).length)])), (rb', .inl ((kA 0), nb, .inl fb'))] H := hP
  have hD : va_D A [(x, .inr (5, [.ref tp, .ref ln, .ref bf, .ref tr, .ref ru, .ref co, .int (nI rs.length), .int 1, .int (nI 0), .long (lN t0)])), (ln, .inr (0, [.int (nI 1024), .ref r', .int (nI ([] : List Nat).length)])), (r', .inl ((kA 0), n, .inl fl')), (co, .inr (1, [.ref ct, .ref ca, .int (nI (zC ad []).length)])), (ct, .inl ((kA 1), 64, .inr (.inl f1))), (ca, .inl ((kA 5), 64, .inr (.inr (.inr (.inr g1))))), (bf, .inr (0, [.int (nI 1024), .ref rb', .int (nI ([] : List Nat).length)])), (rb', .inl ((kA 0), nb, .inl fb'))] := hD
  refine lv_aload_n hx hb d_Peer_spawn_31 rfl (lv_at hl 0 rfl) ?_
  have hapc_ln := zk_apart (wc := [(x, .inr (5, [.ref tp, .ref ln, .ref bf, .ref tr, .ref ru, .ref co, .int (nI rs.length), .int 1, .int (nI 0), .long (lN t0)])), (co, .inr (1, [.ref ct, .ref ca, .int (nI (zC ad []).length)])), (ct, .inl ((kA 1), 64, .inr (.inl f1))), (ca, .inl ((kA 5), 64, .inr (.inr (.inr (.inr g1)))))]) hP hD [0, 3, 4, 5] rfl (k := 1) rfl (by decide)
  have hapc_rq := zk_apart (wc := [(x, .inr (5, [.ref tp, .ref ln, .ref bf, .ref tr, .ref ru, .ref co, .int (nI rs.length), .int 1, .int (nI 0), .long (lN t0)])), (co, .inr (1, [.ref ct, .ref ca, .int (nI (zC ad []).length)])), (ct, .inl ((kA 1), 64, .inr (.inl f1))), (ca, .inl ((kA 5), 64, .inr (.inr (.inr (.inr g1)))))]) hP hD [0, 3, 4, 5] rfl (k := 2) rfl (by decide)
  have hFc := va_free (wc := [(x, .inr (5, [.ref tp, .ref ln, .ref bf, .ref tr, .ref ru, .ref co, .int (nI rs.length), .int 1, .int (nI 0), .long (lN t0)])), (co, .inr (1, [.ref ct, .ref ca, .int (nI (zC ad []).length)])), (ct, .inl ((kA 1), 64, .inr (.inl f1))), (ca, .inl ((kA 5), 64, .inr (.inr (.inr (.inr g1)))))]) hD hS hA [0, 3, 4, 5] rfl
  refine zk_mut (zk_runV (As := []) (rest := []) S m_Peer_92 (c_Peer_answerLine l D kA x tp ln bf tr ru co ct ca 1 f1 g1 rf rs ad [] 0 t0 (by decide) ht0 hrs 1024 [] H.size) rfl rfl ⟨Nat.le_of_ble_eq_true rfl, Nat.le_of_ble_eq_true rfl⟩ hK hX (zk_recv hK (hP 0 _ rfl) rfl) ⟨rfl, hP.sub (ws' := [(x, .inr (5, [.ref tp, .ref ln, .ref bf, .ref tr, .ref ru, .ref co, .int (nI rs.length), .int 1, .int (nI 0), .long (lN t0)])), (co, .inr (1, [.ref ct, .ref ca, .int (nI (zC ad []).length)])), (ct, .inl ((kA 1), 64, .inr (.inl f1))), (ca, .inl ((kA 5), 64, .inr (.inr (.inr (.inr g1)))))]) [0, 3, 4, 5] rfl, (hD.sub (ws' := [(x, .inr (5, [.ref tp, .ref ln, .ref bf, .ref tr, .ref ru, .ref co, .int (nI rs.length), .int 1, .int (nI 0), .long (lN t0)])), (co, .inr (1, [.ref ct, .ref ca, .int (nI (zC ad []).length)])), (ct, .inl ((kA 1), 64, .inr (.inl f1))), (ca, .inl ((kA 5), 64, .inr (.inr (.inr (.inr g1)))))]) [0, 3, 4, 5] (by decide) rfl).weaken (fun _ _ _ _ => trivial), zk_ro hS hru hruA, fun z => hruA (hFc _ z), (hrs0.ro hS).weaken (fun q hq hz => hq (hFc q hz)), ⟨Nat.zero_le _, fun q hq => by cases hq⟩, hrep1, r', n, fl', hapc_ln, hapc_rq, (hP 1 _ rfl), (hP 2 _ rfl), hln'⟩ rfl hl.1 rfl (Nat.le_of_ble_eq_true rfl) ⟨Nat.le_of_ble_eq_true rfl, Nat.le_of_ble_eq_true rfl⟩ d_Peer_spawn_32) hS hFc hFc (fun v H locs hpost hz1 hk1 hS => ?_)
  obtain ⟨rfl, f', g', hP1, hD1, hrep'⟩ := hpost
  obtain ⟨hP, hD⟩ := va_join (wr := [(ln, .inr (0, [.int (nI 1024), .ref r', .int (nI ([] : List Nat).length)])), (r', .inl ((kA 0), n, .inl fl')), (bf, .inr (0, [.int (nI 1024), .ref rb', .int (nI ([] : List Nat).length)])), (rb', .inl ((kA 0), nb, .inl fb'))]) (w1 := [(x, .inr (5, [.ref tp, .ref ln, .ref bf, .ref tr, .ref ru, .ref co, .int (nI rs.length), .int 1, .int (nI (zNext rs 0 (zFirst rs 0 []))), .long (lN t0)])), (co, .inr (1, [.ref ct, .ref ca, .int (nI (zC ad (zPush rs t0 [] (zFirst rs 0 []))).length)])), (ct, .inl ((kA 1), 64, .inr (.inl f'))), (ca, .inl ((kA 5), 64, .inr (.inr (.inr (.inr g')))))]) hP hD [0, 3, 4, 5] [1, 2, 6, 7] rfl rfl (by decide) (by decide) hk1 hFc hP1 hD1
  refine W.eq (g2 := F0 m 35 ls []) rfl ?_
  have hP : va_P D classes [(ln, .inr (0, [.int (nI 1024), .ref r', .int (nI ([] : List Nat).length)])), (r', .inl ((kA 0), n, .inl fl')), (bf, .inr (0, [.int (nI 1024), .ref rb', .int (nI ([] : List Nat).length)])), (rb', .inl ((kA 0), nb, .inl fb')), (x, .inr (5, [.ref tp, .ref ln, .ref bf, .ref tr, .ref ru, .ref co, .int (nI rs.length), .int 1, .int (nI (zNext rs 0 (zFirst rs 0 []))), .long (lN t0)])), (co, .inr (1, [.ref ct, .ref ca, .int (nI (zC ad (zPush rs t0 [] (zFirst rs 0 []))).length)])), (ct, .inl ((kA 1), 64, .inr (.inl f'))), (ca, .inl ((kA 5), 64, .inr (.inr (.inr (.inr g')))))] H := hP
  have hD : va_D A [(ln, .inr (0, [.int (nI 1024), .ref r', .int (nI ([] : List Nat).length)])), (r', .inl ((kA 0), n, .inl fl')), (bf, .inr (0, [.int (nI 1024), .ref rb', .int (nI ([] : List Nat).length)])), (rb', .inl ((kA 0), nb, .inl fb')), (x, .inr (5, [.ref tp, .ref ln, .ref bf, .ref tr, .ref ru, .ref co, .int (nI rs.length), .int 1, .int (nI (zNext rs 0 (zFirst rs 0 []))), .long (lN t0)])), (co, .inr (1, [.ref ct, .ref ca, .int (nI (zC ad (zPush rs t0 [] (zFirst rs 0 []))).length)])), (ct, .inl ((kA 1), 64, .inr (.inl f'))), (ca, .inl ((kA 5), 64, .inr (.inr (.inr (.inr g')))))] := hD
  exact zk_vret S hr hlk hS ⟨rfl, f', g', r', fl', rb', fb', hP.sub [4, 5, 6, 7, 0, 1, 2, 3] rfl, hD.sub [4, 5, 6, 7, 0, 1, 2, 3] (by decide) rfl, hrep', hln', hbf'⟩ (Nat.le_refl _) (Nat.le_refl _) d_Peer_spawn_35
end
section
theorem zk_any {D : va_G} {H : Heap} {a ci : Nat} {fs : List Value} {r : vw_C} {tys : List (ClassId × FieldType)} {s : State} (h : va_at D classes (a, .inr (ci, fs)) H) (hc : classes[ci]? = some r) (hK : va_K D classes tys s) : va_Any r.1 s H a := by
  refine va_rAny (r := r) hK (zk_P1 h) (q0 := 0) rfl hc (fun comp c0 e1 e2 => ?_)
  have e3 : comp = c0 := Option.some.inj (e1.symm.trans e2)
  rw [e3]
  exact va_asg _ _
def zTot (w st k b t r l : Int32) : Int32 := if w = 0 then st else if w = 1 then k else if w = 2 then b else if w = 3 then t else if w = 4 then r else if w = 5 then l else -1
set_option maxHeartbeats 4000000 in
set_option maxRecDepth 100000 in
/-- PeerLine.fit() -/
theorem c_Peer_fit (l : Launch) (D : va_G) (kA : Nat → ClassId) (x tp ln bf tr ru co : Nat) (rc hp st : Int32) (tm : Int64) (r n : Nat) (f : Nat → Int32) (tps : List Nat) (bl : Nat) (bfs : List Nat) (sz0 : Nat) : Met l y_Peer_fit (Cond.code y_Peer_fit b_Peer_fit 2 (some .int) :: zTB) { frames := 6, cells := 4, slots := tps.length * 4 + tps.length + 6, locals := 133 } (zk_Pc D classes (zTY kA) [.ref x] (fun H => H.size = sz0 ∧ va_P D classes [(tp, .inr (0, [.int (nI 1024), .ref r, .int (nI tps.length)])), (r, .inl ((kA 0), n, .inl f))] H ∧ va_D (fun _ => True) [(tp, .inr (0, [.int (nI 1024), .ref r, .int (nI tps.length)])), (r, .inl ((kA 0), n, .inl f))] ∧ va_at D classes (x, .inr (5, [.ref tp, .ref ln, .ref bf, .ref tr, .ref ru, .ref co, .int rc, .int hp, .int st, .long tm])) H ∧ ¬ (va_A [(tp, .inr (0, [.int (nI 1024), .ref r, .int (nI tps.length)])), (r, .inl ((kA 0), n, .inl f))] sz0) x ∧ zBs 1024 n f tps ∧ BsAt D kA (fun q => ¬ (va_A [(tp, .inr (0, [.int (nI 1024), .ref r, .int (nI tps.length)])), (r, .inl ((kA 0), n, .inl f))] sz0) q) H bf bl bfs)) (zk_mQ (fun v H => ∃ rr, v = some (.int (zI rr)) ∧ pLeast (zT bfs) (zIt (zIts tps)) (zIts tps).length 0 0 bfs.length rr ∧ BsPost D kA (va_A [(tp, .inr (0, [.int (nI 1024), .ref r, .int (nI tps.length)])), (r, .inl ((kA 0), n, .inl f))] sz0) H tp 1024 n []) (va_A [(tp, .inr (0, [.int (nI 1024), .ref r, .int (nI tps.length)])), (r, .inl ((kA 0), n, .inl f))] sz0)) 4 (tps.length * 4 + tps.length + 6) (va_A [(tp, .inr (0, [.int (nI 1024), .ref r, .int (nI tps.length)])), (r, .inl ((kA 0), n, .inl f))] sz0) := by
  refine zk_of [.ref x] (by decide) (Nat.le_of_ble_eq_true rfl) ?_
  intro p e s m below meth c S hr hlk hnm hK hX hpre ls hl
  obtain ⟨hx, hb, hml, hown, ht⟩ := id S
  have hl : lv_has ls 2 [(0, .ref x)] := hl
  obtain ⟨hsz, hP, hD0, hx0, hxA, hbs, hbf⟩ := hpre
  subst hsz
  have hD := hD0.self (sz := s.heap.size)
  generalize hAe : va_A [(tp, .inr (0, [.int (nI 1024), .ref r, .int (nI tps.length)])), (r, .inl ((kA 0), n, .inl f))] s.heap.size = A at hD hxA hbf ⊢
  have hA : ∀ q : Nat, s.heap.size ≤ q → A q := fun q h => by rw [← hAe]; exact Or.inr h
  have hS : va_S A s.heap s.heap [] := va_S.rf
  have hP : va_P D classes [(tp, .inr (0, [.int (nI 1024), .ref r, .int (nI tps.length)])), (r, .inl ((kA 0), n, .inl f))] s.heap := hP
  obtain ⟨h1, h2, h3, h4, h5⟩ := id hbs
  refine va_new (ci := 2) (fs := [.null, .null, .int 0]) (C := R_Pattern) (T := F_Pattern) (N := 3) hx hb ht i_Pattern t_Pattern t_Pattern_ok hown (ht _ m_Peer_76) (ht _ m_inst_Pattern) (ht _ m_ini_Pattern) hK hP hD hS hA rfl (fun j hj => by rcases (show j = 0 ∨ j = 1 ∨ j = 2 by omega) with rfl | rfl | rfl <;> rfl) (Nat.le_of_ble_eq_true rfl) (by show 0 + 3 ≤ tps.length * 4 + tps.length + 6; omega) d_Peer_fit_0 (fun q H hP hD hS => ?_)
  have hP : va_P D classes [(tp, .inr (0, [.int (nI 1024), .ref r, .int (nI tps.length)])), (r, .inl ((kA 0), n, .inl f)), (q, .inr (2, [.null, .null, .int 0]))] H := hP
  have hD : va_D A [(tp, .inr (0, [.int (nI 1024), .ref r, .int (nI tps.length)])), (r, .inl ((kA 0), n, .inl f)), (q, .inr (2, [.null, .null, .int 0]))] := hD
  refine lv_dup hx hb d_Peer_fit_3 rfl ?_
  refine lv_aload_n hx hb d_Peer_fit_4 rfl (lv_at hl 0 rfl) ?_
  refine zk_get (C := R_Peer) (T := F_Peer) (N := 10) S hK (zk_ro hS hx0 hxA) rfl i_Peer 0 (by decide) m_Peer_14 rfl rfl d_Peer_fit_5 ?_
  refine lv_aload_n hx hb d_Peer_fit_8 rfl (lv_at hl 0 rfl) ?_
  refine zk_get (C := R_Peer) (T := F_Peer) (N := 10) S hK (zk_ro hS hx0 hxA) rfl i_Peer 0 (by decide) m_Peer_14 rfl rfl d_Peer_fit_9 ?_
  refine zk_pure (zk_runV (As := []) (rest := [.ref tp, .ref q, .ref q]) S m_Peer_121 (c_Bytes_size l D kA (fun _ => True) tp 1024 tps) rfl rfl ⟨Nat.le_of_ble_eq_true rfl, Nat.le_of_ble_eq_true rfl⟩ hK hX (zk_recv hK (hP 0 _ rfl) rfl) (⟨r, n, f, trivial, trivial, (hP 0 _ rfl), (hP 1 _ rfl), hbs⟩) rfl hl.1 rfl (Nat.le_of_ble_eq_true rfl) ⟨by show _ ≤ 4; omega, by show _ ≤ tps.length * 4 + tps.length + 6; omega⟩ d_Peer_fit_12) ?_
  have hap_tp := zk_apart (wc := [(q, .inr (2, [.null, .null, .int 0]))]) hP hD [2] rfl (k := 0) rfl (by decide)
  have hap_r := zk_apart (wc := [(q, .inr (2, [.null, .null, .int 0]))]) hP hD [2] rfl (k := 1) rfl (by decide)
  have hFc := va_free (wc := [(q, .inr (2, [.null, .null, .int 0]))]) hD hS hA [2] rfl
  refine zk_mut (zk_runI (As := [.ref tp, .int (nI tps.length)]) (rest := [.ref q]) S m_Peer_78 (c_Pattern_init l D kA q tp 1024 tps.length tps (Nat.le_refl _) (by omega) H.size) rfl rfl ⟨Nat.le_of_ble_eq_true rfl, Nat.le_of_ble_eq_true rfl⟩ hK hX ⟨rfl, hP.sub (ws' := [(q, .inr (2, [.null, .null, .int 0]))]) [2] rfl, (hD.sub (ws' := [(q, .inr (2, [.null, .null, .int 0]))]) [2] (by decide) rfl).weaken (fun _ _ _ _ => trivial), r, n, f, hap_tp, hap_r, (hP 0 _ rfl), (hP 1 _ rfl), hbs⟩ rfl hl.1 rfl (Nat.le_of_ble_eq_true rfl) ⟨by
    show _ ≤ (4)
    omega, by
    show _ ≤ (tps.length * 4 + tps.length + 6)
    omega⟩ d_Peer_fit_15) hS hFc hFc (fun v H locs hpost hz1 hk1 hS => ?_)
  obtain ⟨rfl, sa, za, sf, zf, hP1, hD1, hprep⟩ := hpost
  obtain ⟨hP, hD⟩ := va_join (wr := [(tp, .inr (0, [.int (nI 1024), .ref r, .int (nI tps.length)])), (r, .inl ((kA 0), n, .inl f))]) (w1 := [(q, .inr (2, [.ref sa, .ref za, .int (nI (rItems tps tps.length 0).length)])), (sa, .inl ((kA 1), (tps.length * 4), .inr (.inl sf))), (za, .inl ((kA 2), tps.length, .inl zf))]) hP hD [2] [0, 1] rfl rfl (by decide) (by decide) hk1 hFc hP1 hD1
  refine W.eq (g2 := F0 m 18 ls [.ref q]) rfl ?_
  have hP : va_P D classes [(tp, .inr (0, [.int (nI 1024), .ref r, .int (nI tps.length)])), (r, .inl ((kA 0), n, .inl f)), (q, .inr (2, [.ref sa, .ref za, .int (nI (rItems tps tps.length 0).length)])), (sa, .inl ((kA 1), (tps.length * 4), .inr (.inl sf))), (za, .inl ((kA 2), tps.length, .inl zf))] H := hP
  have hD : va_D A [(tp, .inr (0, [.int (nI 1024), .ref r, .int (nI tps.length)])), (r, .inl ((kA 0), n, .inl f)), (q, .inr (2, [.ref sa, .ref za, .int (nI (rItems tps tps.length 0).length)])), (sa, .inl ((kA 1), (tps.length * 4), .inr (.inl sf))), (za, .inl ((kA 2), tps.length, .inl zf))] := hD
  refine lv_astore_n (lv' := [(1, .ref q), (0, .ref x)]) hx hb d_Peer_fit_18 rfl hl (by decide) rfl (fun ls hl => ?_)
  refine lv_aload_n hx hb d_Peer_fit_19 rfl (lv_at hl 1 rfl) ?_
  refine zk_get (C := R_Peer) (T := F_Peer) (N := 10) S hK (zk_ro hS hx0 hxA) rfl i_Peer 0 (by decide) m_Peer_14 rfl rfl d_Peer_fit_20 ?_
  have hFc := va_free (wc := [(tp, .inr (0, [.int (nI 1024), .ref r, .int (nI tps.length)])), (r, .inl ((kA 0), n, .inl f))]) hD hS hA [0, 1] rfl
  refine zk_mut (zk_runV (As := []) (rest := []) S m_Peer_88 (c_Bytes_clear l D kA tp r 1024 n f tps H.size) rfl rfl ⟨Nat.le_of_ble_eq_true rfl, Nat.le_of_ble_eq_true rfl⟩ hK hX (zk_recv hK (hP 0 _ rfl) rfl) ⟨rfl, hP.sub (ws' := [(tp, .inr (0, [.int (nI 1024), .ref r, .int (nI tps.length)])), (r, .inl ((kA 0), n, .inl f))]) [0, 1] rfl, (hD.sub (ws' := [(tp, .inr (0, [.int (nI 1024), .ref r, .int (nI tps.length)])), (r, .inl ((kA 0), n, .inl f))]) [0, 1] (by decide) rfl).weaken (fun _ _ _ _ => trivial), hbs⟩ rfl hl.1 rfl (Nat.le_of_ble_eq_true rfl) ⟨by
    show _ ≤ (4)
    omega, by
    show _ ≤ (tps.length * 4 + tps.length + 6)
    omega⟩ d_Peer_fit_23) hS hFc hFc (fun v H locs hpost hz1 hk1 hS => ?_)
  obtain ⟨rfl, r', f', hP1, hD1, hbs'⟩ := hpost
  obtain ⟨hP, hD⟩ := va_join (wr := [(q, .inr (2, [.ref sa, .ref za, .int (nI (rItems tps tps.length 0).length)])), (sa, .inl ((kA 1), (tps.length * 4), .inr (.inl sf))), (za, .inl ((kA 2), tps.length, .inl zf))]) (w1 := [(tp, .inr (0, [.int (nI 1024), .ref r', .int (nI ([] : List Nat).length)])), (r', .inl ((kA 0), n, .inl f'))]) hP hD [0, 1] [2, 3, 4] rfl rfl (by decide) (by decide) hk1 hFc hP1 hD1
  refine W.eq (g2 := F0 m 26 ls []) rfl ?_
  have hP : va_P D classes [(q, .inr (2, [.ref sa, .ref za, .int (nI (rItems tps tps.length 0).length)])), (sa, .inl ((kA 1), (tps.length * 4), .inr (.inl sf))), (za, .inl ((kA 2), tps.length, .inl zf)), (tp, .inr (0, [.int (nI 1024), .ref r', .int (nI ([] : List Nat).length)])), (r', .inl ((kA 0), n, .inl f'))] H := hP
  have hD : va_D A [(q, .inr (2, [.ref sa, .ref za, .int (nI (rItems tps tps.length 0).length)])), (sa, .inl ((kA 1), (tps.length * 4), .inr (.inl sf))), (za, .inl ((kA 2), tps.length, .inl zf)), (tp, .inr (0, [.int (nI 1024), .ref r', .int (nI ([] : List Nat).length)])), (r', .inl ((kA 0), n, .inl f'))] := hD
  refine lv_aload_n hx hb d_Peer_fit_26 rfl (lv_at hl 0 rfl) ?_
  refine lv_aload_n hx hb d_Peer_fit_27 rfl (lv_at hl 1 rfl) ?_
  refine zk_get (C := R_Peer) (T := F_Peer) (N := 10) S hK (zk_ro hS hx0 hxA) rfl i_Peer 2 (by decide) m_Peer_21 rfl rfl d_Peer_fit_28 ?_
  refine zk_pureE (zk_runV (As := [.ref bf]) (rest := []) S m_Peer_133 (c_Pattern_shortestBeginning l D kA (fun _ => True) q (rItems tps tps.length 0) bf bl bfs) rfl rfl ⟨Nat.le_of_ble_eq_true rfl, Nat.le_of_ble_eq_true rfl⟩ hK hX (zk_recv hK (hP 0 _ rfl) rfl) (⟨⟨sa, za, tps.length, sf, zf, ⟨trivial, trivial, trivial⟩, (hP 0 _ rfl), (hP 1 _ rfl), (hP 2 _ rfl), hprep⟩, (hbf.ro hS).weaken (fun _ _ => trivial)⟩) rfl hl.1 rfl (Nat.le_of_ble_eq_true rfl) ⟨by show _ ≤ 4; omega, by show _ ≤ tps.length * 4 + tps.length + 6; omega⟩ d_Peer_fit_31) (fun v hv => ?_)
  rcases hv with ⟨rr, rfl, hrr⟩
  · refine zk_top (v' := .int (zI rr)) rfl ?_
    exact zk_iret S hr hlk hS ⟨rr, rfl, hrr, r', f', hP.sub [3, 4] rfl, hD.sub [3, 4] (by decide) rfl, hbs'⟩ (by omega) (by omega) d_Peer_fit_34

set_option maxHeartbeats 4000000 in
set_option maxRecDepth 100000 in
/-- PeerLine.total(what) -/
theorem c_Peer_total (l : Launch) (D : va_G) (kA : Nat → ClassId) (Z : Nat → Prop) (x tp ln bf tr ru co : Nat) (rc hp st : Int32) (tm : Int64) (ct ca k : Nat) (l1 l2 l3 : Nat) (bfs trs lns : List Nat) (w : Int32) : Met l y_Peer_total (Cond.code y_Peer_total b_Peer_total 2 (some .int) :: zTB) { frames := 1, cells := 0, slots := 0, locals := 20 } (zk_Pc D classes (zTY kA) [.ref x, .int w] (fun H => va_at D classes (x, .inr (5, [.ref tp, .ref ln, .ref bf, .ref tr, .ref ru, .ref co, .int rc, .int hp, .int st, .long tm])) H ∧ va_at D classes (co, .inr (1, [.ref ct, .ref ca, .int (nI k)])) H ∧ BsAt D kA Z H bf l1 bfs ∧ BsAt D kA Z H tr l2 trs ∧ BsAt D kA Z H ln l3 lns)) (zk_pQ (some (Value.int (zTot w st (nI k) (nI bfs.length) (nI trs.length) rc (nI lns.length))))) 0 0 zk_no := by
  refine zk_of [.ref x, .int w] (by decide) (Nat.le_of_ble_eq_true rfl) ?_
  intro p e s m below meth c S hr hlk hnm hK hX hpre ls hl
  obtain ⟨hx, hb, hml, hown, ht⟩ := id S
  obtain ⟨hx0, hco, hbf, htr, hln⟩ := hpre
  obtain ⟨r1, n1, f1, z11, z12, hb1, -⟩ := id hbf
  obtain ⟨r2, n2, f2, z21, z22, hb2, -⟩ := id htr
  obtain ⟨r3, n3, f3, z31, z32, hb3, -⟩ := id hln
  have hl : lv_has ls 2 [(0, .ref x), (1, .int w)] := hl
  refine lv_iload_n hx hb d_Peer_total_0 rfl (lv_at hl 1 rfl) ?_
  by_cases h0 : w = 0
  · refine lv_tableIn (off := 39) (tgt := 40) hx hb d_Peer_total_1 (by rw [h0]; decide) (by rw [h0]; decide) (by rw [h0]; rfl) (by decide) ?_
    refine lv_aload_n hx hb d_Peer_total_40 rfl (lv_at hl 0 rfl) ?_
    refine zk_get (C := R_Peer) (T := F_Peer) (N := 10) S hK hx0 rfl i_Peer 8 (by decide) m_Peer_49 rfl rfl d_Peer_total_41 ?_
    refine zk_ti (z := zTot w st (nI k) (nI bfs.length) (nI trs.length) rc (nI lns.length)) (by unfold zTot; rw [if_pos h0]) ?_
    exact zk_reti S hr hlk d_Peer_total_44
  · by_cases h1 : w = 1
    · refine lv_tableIn (off := 44) (tgt := 45) hx hb d_Peer_total_1 (by rw [h1]; decide) (by rw [h1]; decide) (by rw [h1]; rfl) (by decide) ?_
      refine lv_aload_n hx hb d_Peer_total_45 rfl (lv_at hl 0 rfl) ?_
      refine zk_get (C := R_Peer) (T := F_Peer) (N := 10) S hK hx0 rfl i_Peer 5 (by decide) m_Peer_37 rfl rfl d_Peer_total_46 ?_
      refine zk_pure (zk_runV (As := []) (rest := []) S m_Peer_142 (c_Coming_size l D kA co ct ca k) rfl rfl ⟨Nat.le_of_ble_eq_true rfl, Nat.le_of_ble_eq_true rfl⟩ hK hX (zk_recv hK hco rfl) (hco) rfl hl.1 rfl (Nat.le_of_ble_eq_true rfl) ⟨Nat.le_of_ble_eq_true rfl, Nat.le_of_ble_eq_true rfl⟩ d_Peer_total_49) ?_
      refine zk_ti (z := zTot w st (nI k) (nI bfs.length) (nI trs.length) rc (nI lns.length)) (by unfold zTot; rw [if_neg h0, if_pos h1]) ?_
      exact zk_reti S hr hlk d_Peer_total_52
    · by_cases h2 : w = 2
      · refine lv_tableIn (off := 52) (tgt := 53) hx hb d_Peer_total_1 (by rw [h2]; decide) (by rw [h2]; decide) (by rw [h2]; rfl) (by decide) ?_
        refine lv_aload_n hx hb d_Peer_total_53 rfl (lv_at hl 0 rfl) ?_
        refine zk_get (C := R_Peer) (T := F_Peer) (N := 10) S hK hx0 rfl i_Peer 2 (by decide) m_Peer_21 rfl rfl d_Peer_total_54 ?_
        refine zk_pure (zk_runV (As := []) (rest := []) S m_Peer_121 (c_Bytes_size l D kA Z bf l1 bfs) rfl rfl ⟨Nat.le_of_ble_eq_true rfl, Nat.le_of_ble_eq_true rfl⟩ hK hX (zk_recv hK hb1 rfl) (hbf) rfl hl.1 rfl (Nat.le_of_ble_eq_true rfl) ⟨Nat.le_of_ble_eq_true rfl, Nat.le_of_ble_eq_true rfl⟩ d_Peer_total_57) ?_
        refine zk_ti (z := zTot w st (nI k) (nI bfs.length) (nI trs.length) rc (nI lns.length)) (by unfold zTot; rw [if_neg h0, if_neg h1, if_pos h2]) ?_
        exact zk_reti S hr hlk d_Peer_total_60
      · by_cases h3 : w = 3
        · refine lv_tableIn (off := 60) (tgt := 61) hx hb d_Peer_total_1 (by rw [h3]; decide) (by rw [h3]; decide) (by rw [h3]; rfl) (by decide) ?_
          refine lv_aload_n hx hb d_Peer_total_61 rfl (lv_at hl 0 rfl) ?_
          refine zk_get (C := R_Peer) (T := F_Peer) (N := 10) S hK hx0 rfl i_Peer 3 (by decide) m_Peer_25 rfl rfl d_Peer_total_62 ?_
          refine zk_pure (zk_runV (As := []) (rest := []) S m_Peer_121 (c_Bytes_size l D kA Z tr l2 trs) rfl rfl ⟨Nat.le_of_ble_eq_true rfl, Nat.le_of_ble_eq_true rfl⟩ hK hX (zk_recv hK hb2 rfl) (htr) rfl hl.1 rfl (Nat.le_of_ble_eq_true rfl) ⟨Nat.le_of_ble_eq_true rfl, Nat.le_of_ble_eq_true rfl⟩ d_Peer_total_65) ?_
          refine zk_ti (z := zTot w st (nI k) (nI bfs.length) (nI trs.length) rc (nI lns.length)) (by unfold zTot; rw [if_neg h0, if_neg h1, if_neg h2, if_pos h3]) ?_
          exact zk_reti S hr hlk d_Peer_total_68
        · by_cases h4 : w = 4
          · refine lv_tableIn (off := 68) (tgt := 69) hx hb d_Peer_total_1 (by rw [h4]; decide) (by rw [h4]; decide) (by rw [h4]; rfl) (by decide) ?_
            refine lv_aload_n hx hb d_Peer_total_69 rfl (lv_at hl 0 rfl) ?_
            refine zk_get (C := R_Peer) (T := F_Peer) (N := 10) S hK hx0 rfl i_Peer 6 (by decide) m_Peer_41 rfl rfl d_Peer_total_70 ?_
            refine zk_ti (z := zTot w st (nI k) (nI bfs.length) (nI trs.length) rc (nI lns.length)) (by unfold zTot; rw [if_neg h0, if_neg h1, if_neg h2, if_neg h3, if_pos h4]) ?_
            exact zk_reti S hr hlk d_Peer_total_73
          · by_cases h5 : w = 5
            · refine lv_tableIn (off := 73) (tgt := 74) hx hb d_Peer_total_1 (by rw [h5]; decide) (by rw [h5]; decide) (by rw [h5]; rfl) (by decide) ?_
              refine lv_aload_n hx hb d_Peer_total_74 rfl (lv_at hl 0 rfl) ?_
              refine zk_get (C := R_Peer) (T := F_Peer) (N := 10) S hK hx0 rfl i_Peer 1 (by decide) m_Peer_18 rfl rfl d_Peer_total_75 ?_
              refine zk_pure (zk_runV (As := []) (rest := []) S m_Peer_121 (c_Bytes_size l D kA Z ln l3 lns) rfl rfl ⟨Nat.le_of_ble_eq_true rfl, Nat.le_of_ble_eq_true rfl⟩ hK hX (zk_recv hK hb3 rfl) (hln) rfl hl.1 rfl (Nat.le_of_ble_eq_true rfl) ⟨Nat.le_of_ble_eq_true rfl, Nat.le_of_ble_eq_true rfl⟩ d_Peer_total_78) ?_
              refine zk_ti (z := zTot w st (nI k) (nI bfs.length) (nI trs.length) rc (nI lns.length)) (by unfold zTot; rw [if_neg h0, if_neg h1, if_neg h2, if_neg h3, if_neg h4, if_pos h5]) ?_
              exact zk_reti S hr hlk d_Peer_total_81
            · have hout : w.toInt < 0 ∨ 5 < w.toInt := by
                have e9 : ∀ z : Int32, w ≠ z → w.toInt ≠ z.toInt := fun z hz h => hz (Int32.toInt_inj.mp h)
                have a0 := e9 0 h0
                have a1 := e9 1 h1
                have a2 := e9 2 h2
                have a3 := e9 3 h3
                have a4 := e9 4 h4
                have a5 := e9 5 h5
                rw [show (0 : Int32).toInt = 0 by decide] at a0
                rw [show (1 : Int32).toInt = 1 by decide] at a1
                rw [show (2 : Int32).toInt = 2 by decide] at a2
                rw [show (3 : Int32).toInt = 3 by decide] at a3
                rw [show (4 : Int32).toInt = 4 by decide] at a4
                rw [show (5 : Int32).toInt = 5 by decide] at a5
                omega
              refine lv_tableOut (tgt := 82) hx hb d_Peer_total_1 hout (by decide) ?_
              refine lv_iconst (v := (-1)) hx hb d_Peer_total_82 (by decide) ?_
              refine zk_ti (z := zTot w st (nI k) (nI bfs.length) (nI trs.length) rc (nI lns.length)) (by unfold zTot; rw [if_neg h0, if_neg h1, if_neg h2, if_neg h3, if_neg h4, if_neg h5]) ?_
              exact zk_reti S hr hlk d_Peer_total_83
end
