section
-- ===== PART A: goes FIRST, ahead of the names: the tables' words, and 'selects' of the private methods out of them =====
/-- a private method of a class that the tables say can be made, by its rows of tables_1 -/
def lw_okq (q : MethodName × Nat) : Prop := (q.1.cls ≠ "java/lang/invoke/MethodHandle" ∧ q.1.cls ≠ "java/lang/invoke/VarHandle") ∧ Cond.instantiable q.1.cls q.2 ∈ tables_1 ∧ Cond.privateMethod q.1 ∈ tables_1 ∧ Cond.instanceMethod q.1 ∈ tables_1
theorem lw_p0 : lw_okq (⟨"PeerLine", "tapeIsRule", "(I)Z"⟩, 10) := ⟨⟨by decide +kernel, by decide +kernel⟩, List.mem_of_getElem? (i := 12) (by decide +kernel), List.mem_of_getElem? (i := 149) (by decide +kernel), List.mem_of_getElem? (i := 150) (by decide +kernel)⟩
theorem lw_p1 : lw_okq (⟨"PeerLine$Pattern", "readItem", "(LPeerLine$PatternReader;)V"⟩, 3) := ⟨⟨by decide +kernel, by decide +kernel⟩, List.mem_of_getElem? (i := 157) (by decide +kernel), List.mem_of_getElem? (i := 188) (by decide +kernel), List.mem_of_getElem? (i := 189) (by decide +kernel)⟩
theorem lw_p2 : lw_okq (⟨"PeerLine$Pattern", "markStar", "()V"⟩, 3) := ⟨⟨by decide +kernel, by decide +kernel⟩, List.mem_of_getElem? (i := 157) (by decide +kernel), List.mem_of_getElem? (i := 196) (by decide +kernel), List.mem_of_getElem? (i := 197) (by decide +kernel)⟩
theorem lw_p3 : lw_okq (⟨"PeerLine$Pattern", "allow", "(II)V"⟩, 3) := ⟨⟨by decide +kernel, by decide +kernel⟩, List.mem_of_getElem? (i := 157) (by decide +kernel), List.mem_of_getElem? (i := 200) (by decide +kernel), List.mem_of_getElem? (i := 201) (by decide +kernel)⟩
theorem lw_p4 : lw_okq (⟨"PeerLine$Pattern", "readChoice", "(LPeerLine$PatternReader;)V"⟩, 3) := ⟨⟨by decide +kernel, by decide +kernel⟩, List.mem_of_getElem? (i := 157) (by decide +kernel), List.mem_of_getElem? (i := 204) (by decide +kernel), List.mem_of_getElem? (i := 205) (by decide +kernel)⟩
theorem lw_p5 : lw_okq (⟨"PeerLine", "answerLine", "()V"⟩, 10) := ⟨⟨by decide +kernel, by decide +kernel⟩, List.mem_of_getElem? (i := 12) (by decide +kernel), List.mem_of_getElem? (i := 267) (by decide +kernel), List.mem_of_getElem? (i := 268) (by decide +kernel)⟩
theorem lw_p6 : lw_okq (⟨"PeerLine$Pattern", "starOrEndFrom", "(I)I"⟩, 3) := ⟨⟨by decide +kernel, by decide +kernel⟩, List.mem_of_getElem? (i := 157) (by decide +kernel), List.mem_of_getElem? (i := 275) (by decide +kernel), List.mem_of_getElem? (i := 276) (by decide +kernel)⟩
theorem lw_p7 : lw_okq (⟨"PeerLine$Pattern", "isStar", "(I)Z"⟩, 3) := ⟨⟨by decide +kernel, by decide +kernel⟩, List.mem_of_getElem? (i := 157) (by decide +kernel), List.mem_of_getElem? (i := 279) (by decide +kernel), List.mem_of_getElem? (i := 280) (by decide +kernel)⟩
theorem lw_p8 : lw_okq (⟨"PeerLine$Pattern", "standsAt", "(LPeerLine$Bytes;III)Z"⟩, 3) := ⟨⟨by decide +kernel, by decide +kernel⟩, List.mem_of_getElem? (i := 157) (by decide +kernel), List.mem_of_getElem? (i := 283) (by decide +kernel), List.mem_of_getElem? (i := 284) (by decide +kernel)⟩
theorem lw_p9 : lw_okq (⟨"PeerLine$Pattern", "behindLastStar", "()I"⟩, 3) := ⟨⟨by decide +kernel, by decide +kernel⟩, List.mem_of_getElem? (i := 157) (by decide +kernel), List.mem_of_getElem? (i := 288) (by decide +kernel), List.mem_of_getElem? (i := 289) (by decide +kernel)⟩
theorem lw_p10 : lw_okq (⟨"PeerLine$Pattern", "earliestEnd", "(LPeerLine$Bytes;IIII)I"⟩, 3) := ⟨⟨by decide +kernel, by decide +kernel⟩, List.mem_of_getElem? (i := 157) (by decide +kernel), List.mem_of_getElem? (i := 292) (by decide +kernel), List.mem_of_getElem? (i := 293) (by decide +kernel)⟩
theorem lw_p11 : lw_okq (⟨"PeerLine$Pattern", "earliestPlace", "(LPeerLine$Bytes;IIII)I"⟩, 3) := ⟨⟨by decide +kernel, by decide +kernel⟩, List.mem_of_getElem? (i := 157) (by decide +kernel), List.mem_of_getElem? (i := 296) (by decide +kernel), List.mem_of_getElem? (i := 297) (by decide +kernel)⟩
theorem lw_p12 : lw_okq (⟨"PeerLine", "tell", "(ILPeerLine$Bytes;Z)V"⟩, 10) := ⟨⟨by decide +kernel, by decide +kernel⟩, List.mem_of_getElem? (i := 12) (by decide +kernel), List.mem_of_getElem? (i := 308) (by decide +kernel), List.mem_of_getElem? (i := 309) (by decide +kernel)⟩
theorem lw_p13 : lw_okq (⟨"PeerLine", "giveTapeToPeer", "()V"⟩, 10) := ⟨⟨by decide +kernel, by decide +kernel⟩, List.mem_of_getElem? (i := 12) (by decide +kernel), List.mem_of_getElem? (i := 318) (by decide +kernel), List.mem_of_getElem? (i := 319) (by decide +kernel)⟩
theorem lw_p14 : lw_okq (⟨"PeerLineModel", "lay", "(I)V"⟩, 23) := ⟨⟨by decide +kernel, by decide +kernel⟩, List.mem_of_getElem? (i := 389) (by decide +kernel), List.mem_of_getElem? (i := 471) (by decide +kernel), List.mem_of_getElem? (i := 472) (by decide +kernel)⟩
theorem lw_p15 : lw_okq (⟨"PeerLineModel", "gets", "()V"⟩, 23) := ⟨⟨by decide +kernel, by decide +kernel⟩, List.mem_of_getElem? (i := 389) (by decide +kernel), List.mem_of_getElem? (i := 490) (by decide +kernel), List.mem_of_getElem? (i := 491) (by decide +kernel)⟩
def lw_privs_1 : List (MethodName × Nat) := [(⟨"PeerLine", "tapeIsRule", "(I)Z"⟩, 10), (⟨"PeerLine$Pattern", "readItem", "(LPeerLine$PatternReader;)V"⟩, 3), (⟨"PeerLine$Pattern", "markStar", "()V"⟩, 3), (⟨"PeerLine$Pattern", "allow", "(II)V"⟩, 3), (⟨"PeerLine$Pattern", "readChoice", "(LPeerLine$PatternReader;)V"⟩, 3), (⟨"PeerLine", "answerLine", "()V"⟩, 10), (⟨"PeerLine$Pattern", "starOrEndFrom", "(I)I"⟩, 3), (⟨"PeerLine$Pattern", "isStar", "(I)Z"⟩, 3), (⟨"PeerLine$Pattern", "standsAt", "(LPeerLine$Bytes;III)Z"⟩, 3), (⟨"PeerLine$Pattern", "behindLastStar", "()I"⟩, 3), (⟨"PeerLine$Pattern", "earliestEnd", "(LPeerLine$Bytes;IIII)I"⟩, 3), (⟨"PeerLine$Pattern", "earliestPlace", "(LPeerLine$Bytes;IIII)I"⟩, 3), (⟨"PeerLine", "tell", "(ILPeerLine$Bytes;Z)V"⟩, 10), (⟨"PeerLine", "giveTapeToPeer", "()V"⟩, 10), (⟨"PeerLineModel", "lay", "(I)V"⟩, 23), (⟨"PeerLineModel", "gets", "()V"⟩, 23)]
theorem lw_r1 : ∀ q ∈ lw_privs_1, lw_okq q := List.forall_mem_cons.mpr ⟨lw_p0, List.forall_mem_cons.mpr ⟨lw_p1, List.forall_mem_cons.mpr ⟨lw_p2, List.forall_mem_cons.mpr ⟨lw_p3, List.forall_mem_cons.mpr ⟨lw_p4, List.forall_mem_cons.mpr ⟨lw_p5, List.forall_mem_cons.mpr ⟨lw_p6, List.forall_mem_cons.mpr ⟨lw_p7, List.forall_mem_cons.mpr ⟨lw_p8, List.forall_mem_cons.mpr ⟨lw_p9, List.forall_mem_cons.mpr ⟨lw_p10, List.forall_mem_cons.mpr ⟨lw_p11, List.forall_mem_cons.mpr ⟨lw_p12, List.forall_mem_cons.mpr ⟨lw_p13, List.forall_mem_cons.mpr ⟨lw_p14, List.forall_mem_cons.mpr ⟨lw_p15, fun _ h => absurd h List.not_mem_nil⟩⟩⟩⟩⟩⟩⟩⟩⟩⟩⟩⟩⟩⟩⟩⟩
theorem lw_p16 : lw_okq (⟨"PeerLineModel", "fitsLine", "(I)Z"⟩, 23) := ⟨⟨by decide +kernel, by decide +kernel⟩, List.mem_of_getElem? (i := 389) (by decide +kernel), List.mem_of_getElem? (i := 494) (by decide +kernel), List.mem_of_getElem? (i := 495) (by decide +kernel)⟩
theorem lw_p17 : lw_okq (⟨"PeerLineModel", "go", "([BII[BI)V"⟩, 23) := ⟨⟨by decide +kernel, by decide +kernel⟩, List.mem_of_getElem? (i := 389) (by decide +kernel), List.mem_of_getElem? (i := 498) (by decide +kernel), List.mem_of_getElem? (i := 499) (by decide +kernel)⟩
theorem lw_p18 : lw_okq (⟨"PeerLineModel", "one", "([BII[BI)V"⟩, 23) := ⟨⟨by decide +kernel, by decide +kernel⟩, List.mem_of_getElem? (i := 389) (by decide +kernel), List.mem_of_getElem? (i := 508) (by decide +kernel), List.mem_of_getElem? (i := 509) (by decide +kernel)⟩
theorem lw_p19 : lw_okq (⟨"PeerLineModel", "tell", "(I[BII)V"⟩, 23) := ⟨⟨by decide +kernel, by decide +kernel⟩, List.mem_of_getElem? (i := 389) (by decide +kernel), List.mem_of_getElem? (i := 522) (by decide +kernel), List.mem_of_getElem? (i := 523) (by decide +kernel)⟩
theorem lw_p20 : lw_okq (⟨"PeerLineModel", "keep", "(I)V"⟩, 23) := ⟨⟨by decide +kernel, by decide +kernel⟩, List.mem_of_getElem? (i := 389) (by decide +kernel), List.mem_of_getElem? (i := 535) (by decide +kernel), List.mem_of_getElem? (i := 536) (by decide +kernel)⟩
theorem lw_p21 : lw_okq (⟨"PeerLineModel", "drop", "(I)V"⟩, 23) := ⟨⟨by decide +kernel, by decide +kernel⟩, List.mem_of_getElem? (i := 389) (by decide +kernel), List.mem_of_getElem? (i := 539) (by decide +kernel), List.mem_of_getElem? (i := 540) (by decide +kernel)⟩
def lw_privs_2 : List (MethodName × Nat) := [(⟨"PeerLineModel", "fitsLine", "(I)Z"⟩, 23), (⟨"PeerLineModel", "go", "([BII[BI)V"⟩, 23), (⟨"PeerLineModel", "one", "([BII[BI)V"⟩, 23), (⟨"PeerLineModel", "tell", "(I[BII)V"⟩, 23), (⟨"PeerLineModel", "keep", "(I)V"⟩, 23), (⟨"PeerLineModel", "drop", "(I)V"⟩, 23)]
theorem lw_r2 : ∀ q ∈ lw_privs_2, lw_okq q := List.forall_mem_cons.mpr ⟨lw_p16, List.forall_mem_cons.mpr ⟨lw_p17, List.forall_mem_cons.mpr ⟨lw_p18, List.forall_mem_cons.mpr ⟨lw_p19, List.forall_mem_cons.mpr ⟨lw_p20, List.forall_mem_cons.mpr ⟨lw_p21, fun _ h => absurd h List.not_mem_nil⟩⟩⟩⟩⟩⟩
def lw_privs : List (MethodName × Nat) := lw_privs_1 ++ (lw_privs_2)
def lw_tbl : List Cond := k2_sels lw_privs ++ tables_1
theorem lw_privs_ok : ∀ q ∈ lw_privs, lw_okq q := by
  show ∀ q ∈ lw_privs_1 ++ (lw_privs_2), lw_okq q
  exact List.forall_mem_append.mpr ⟨lw_r1, lw_r2⟩
/-- the words that any method may have of the tables -/
def zTB : List Cond := lw_tbl.filter goodWord
theorem zTB_of {w : Cond} (h : w ∈ lw_tbl) (hg : goodWord w = true) : w ∈ zTB := List.mem_filter.mpr ⟨h, hg⟩
end
section
def R_Bytes : String := "PeerLine$Bytes"
def F_Bytes : u_T := fun k => match k with
  | 0 => ("PeerLine$Bytes", "limit", "I", true)
  | 1 => ("PeerLine$Bytes", "row", "[B", false)
  | _ => ("PeerLine$Bytes", "size", "I", false)
def t_Bytes : Nat → FieldType := fun k => match k with
  | 0 => .int
  | 1 => (.array .byte)
  | _ => .int
abbrev w_Bytes : List Cond := u_ws R_Bytes F_Bytes 3
theorem n_Bytes : ∀ a, a < 3 → ∀ b, b < 3 → a ≠ b → (F_Bytes a).2.1 ≠ (F_Bytes b).2.1 := by decide +kernel
theorem t_Bytes_ok : ∀ k, k < 3 → parseFieldDescriptor (F_Bytes k).2.2.1 = some (t_Bytes k) := by decide +kernel
theorem i_Bytes : ∀ w ∈ w_Bytes, w ∈ zTB := by decide +kernel
abbrev b_Bytes_init : ByteArray := prog_2_method_1_code
def y_Bytes_init : MethodName := ⟨R_Bytes, "<init>", "(I)V"⟩
abbrev b_Bytes_size : ByteArray := prog_2_method_2_code
def y_Bytes_size : MethodName := ⟨R_Bytes, "size", "()I"⟩
abbrev b_Bytes_at : ByteArray := prog_2_method_3_code
def y_Bytes_at : MethodName := ⟨R_Bytes, "at", "(I)I"⟩
abbrev b_Bytes_hasRoomFor : ByteArray := prog_2_method_4_code
def y_Bytes_hasRoomFor : MethodName := ⟨R_Bytes, "hasRoomFor", "(I)Z"⟩
abbrev b_Bytes_firstZero : ByteArray := prog_2_method_5_code
def y_Bytes_firstZero : MethodName := ⟨R_Bytes, "firstZero", "()I"⟩
abbrev b_Bytes_clear : ByteArray := prog_2_method_6_code
def y_Bytes_clear : MethodName := ⟨R_Bytes, "clear", "()V"⟩
abbrev b_Bytes_keepFirst : ByteArray := prog_2_method_7_code
def y_Bytes_keepFirst : MethodName := ⟨R_Bytes, "keepFirst", "(I)Z"⟩
abbrev b_Bytes_dropFirst : ByteArray := prog_2_method_8_code
def y_Bytes_dropFirst : MethodName := ⟨R_Bytes, "dropFirst", "(I)Z"⟩
abbrev b_Bytes_append : ByteArray := prog_2_method_9_code
def y_Bytes_append : MethodName := ⟨R_Bytes, "append", "(I)V"⟩
abbrev b_Bytes_appendNumber : ByteArray := prog_2_method_10_code
def y_Bytes_appendNumber : MethodName := ⟨R_Bytes, "appendNumber", "(I)V"⟩
abbrev b_Bytes_appendAll : ByteArray := prog_2_method_11_code
def y_Bytes_appendAll : MethodName := ⟨R_Bytes, "appendAll", "(LPeerLine$Bytes;)V"⟩
abbrev b_Bytes_copyFrom : ByteArray := prog_2_method_12_code
def y_Bytes_copyFrom : MethodName := ⟨R_Bytes, "copyFrom", "(II)LPeerLine$Bytes;"⟩
def R_Coming : String := "PeerLine$Coming"
def F_Coming : u_T := fun k => match k with
  | 0 => ("PeerLine$Coming", "times", "[J", true)
  | 1 => ("PeerLine$Coming", "answers", "[LPeerLine$Bytes;", true)
  | _ => ("PeerLine$Coming", "count", "I", false)
def t_Coming : Nat → FieldType := fun k => match k with
  | 0 => (.array .long)
  | 1 => (.array (.object "PeerLine$Bytes"))
  | _ => .int
abbrev w_Coming : List Cond := u_ws R_Coming F_Coming 3
theorem n_Coming : ∀ a, a < 3 → ∀ b, b < 3 → a ≠ b → (F_Coming a).2.1 ≠ (F_Coming b).2.1 := by decide +kernel
theorem t_Coming_ok : ∀ k, k < 3 → parseFieldDescriptor (F_Coming k).2.2.1 = some (t_Coming k) := by decide +kernel
theorem i_Coming : ∀ w ∈ w_Coming, w ∈ zTB := by decide +kernel
abbrev b_Coming_init : ByteArray := prog_3_method_1_code
def y_Coming_init : MethodName := ⟨R_Coming, "<init>", "()V"⟩
abbrev b_Coming_size : ByteArray := prog_3_method_2_code
def y_Coming_size : MethodName := ⟨R_Coming, "size", "()I"⟩
abbrev b_Coming_first : ByteArray := prog_3_method_3_code
def y_Coming_first : MethodName := ⟨R_Coming, "first", "()LPeerLine$Bytes;"⟩
abbrev b_Coming_firstTime : ByteArray := prog_3_method_4_code
def y_Coming_firstTime : MethodName := ⟨R_Coming, "firstTime", "()J"⟩
abbrev b_Coming_clear : ByteArray := prog_3_method_5_code
def y_Coming_clear : MethodName := ⟨R_Coming, "clear", "()V"⟩
abbrev b_Coming_add : ByteArray := prog_3_method_6_code
def y_Coming_add : MethodName := ⟨R_Coming, "add", "(JLPeerLine$Bytes;)V"⟩
abbrev b_Coming_dropFirst : ByteArray := prog_3_method_7_code
def y_Coming_dropFirst : MethodName := ⟨R_Coming, "dropFirst", "()V"⟩
def R_Pattern : String := "PeerLine$Pattern"
def F_Pattern : u_T := fun k => match k with
  | 0 => ("PeerLine$Pattern", "sets", "[J", true)
  | 1 => ("PeerLine$Pattern", "stars", "[Z", true)
  | _ => ("PeerLine$Pattern", "count", "I", false)
def t_Pattern : Nat → FieldType := fun k => match k with
  | 0 => (.array .long)
  | 1 => (.array .boolean)
  | _ => .int
abbrev w_Pattern : List Cond := u_ws R_Pattern F_Pattern 3
theorem n_Pattern : ∀ a, a < 3 → ∀ b, b < 3 → a ≠ b → (F_Pattern a).2.1 ≠ (F_Pattern b).2.1 := by decide +kernel
theorem t_Pattern_ok : ∀ k, k < 3 → parseFieldDescriptor (F_Pattern k).2.2.1 = some (t_Pattern k) := by decide +kernel
theorem i_Pattern : ∀ w ∈ w_Pattern, w ∈ zTB := by decide +kernel
abbrev b_Pattern_init : ByteArray := prog_4_method_1_code
def y_Pattern_init : MethodName := ⟨R_Pattern, "<init>", "(LPeerLine$Bytes;I)V"⟩
abbrev b_Pattern_readItem : ByteArray := prog_4_method_2_code
def y_Pattern_readItem : MethodName := ⟨R_Pattern, "readItem", "(LPeerLine$PatternReader;)V"⟩
abbrev b_Pattern_readChoice : ByteArray := prog_4_method_3_code
def y_Pattern_readChoice : MethodName := ⟨R_Pattern, "readChoice", "(LPeerLine$PatternReader;)V"⟩
abbrev b_Pattern_markStar : ByteArray := prog_4_method_4_code
def y_Pattern_markStar : MethodName := ⟨R_Pattern, "markStar", "()V"⟩
abbrev b_Pattern_allow : ByteArray := prog_4_method_5_code
def y_Pattern_allow : MethodName := ⟨R_Pattern, "allow", "(II)V"⟩
abbrev b_Pattern_isStar : ByteArray := prog_4_method_6_code
def y_Pattern_isStar : MethodName := ⟨R_Pattern, "isStar", "(I)Z"⟩
abbrev b_Pattern_starOrEndFrom : ByteArray := prog_4_method_7_code
def y_Pattern_starOrEndFrom : MethodName := ⟨R_Pattern, "starOrEndFrom", "(I)I"⟩
abbrev b_Pattern_behindLastStar : ByteArray := prog_4_method_8_code
def y_Pattern_behindLastStar : MethodName := ⟨R_Pattern, "behindLastStar", "()I"⟩
abbrev b_Pattern_fitsWhole : ByteArray := prog_4_method_9_code
def y_Pattern_fitsWhole : MethodName := ⟨R_Pattern, "fitsWhole", "(LPeerLine$Bytes;)Z"⟩
abbrev b_Pattern_shortestBeginning : ByteArray := prog_4_method_10_code
def y_Pattern_shortestBeginning : MethodName := ⟨R_Pattern, "shortestBeginning", "(LPeerLine$Bytes;)I"⟩
abbrev b_Pattern_earliestEnd : ByteArray := prog_4_method_11_code
def y_Pattern_earliestEnd : MethodName := ⟨R_Pattern, "earliestEnd", "(LPeerLine$Bytes;IIII)I"⟩
abbrev b_Pattern_earliestPlace : ByteArray := prog_4_method_12_code
def y_Pattern_earliestPlace : MethodName := ⟨R_Pattern, "earliestPlace", "(LPeerLine$Bytes;IIII)I"⟩
abbrev b_Pattern_standsAt : ByteArray := prog_4_method_13_code
def y_Pattern_standsAt : MethodName := ⟨R_Pattern, "standsAt", "(LPeerLine$Bytes;III)Z"⟩
def R_Reader : String := "PeerLine$PatternReader"
def F_Reader : u_T := fun k => match k with
  | 0 => ("PeerLine$PatternReader", "source", "LPeerLine$Bytes;", true)
  | 1 => ("PeerLine$PatternReader", "length", "I", true)
  | _ => ("PeerLine$PatternReader", "at", "I", false)
def t_Reader : Nat → FieldType := fun k => match k with
  | 0 => .object "PeerLine$Bytes"
  | 1 => .int
  | _ => .int
abbrev w_Reader : List Cond := u_ws R_Reader F_Reader 3
theorem n_Reader : ∀ a, a < 3 → ∀ b, b < 3 → a ≠ b → (F_Reader a).2.1 ≠ (F_Reader b).2.1 := by decide +kernel
theorem t_Reader_ok : ∀ k, k < 3 → parseFieldDescriptor (F_Reader k).2.2.1 = some (t_Reader k) := by decide +kernel
theorem i_Reader : ∀ w ∈ w_Reader, w ∈ zTB := by decide +kernel
abbrev b_Reader_init : ByteArray := prog_5_method_1_code
def y_Reader_init : MethodName := ⟨R_Reader, "<init>", "(LPeerLine$Bytes;I)V"⟩
abbrev b_Reader_ahead : ByteArray := prog_5_method_2_code
def y_Reader_ahead : MethodName := ⟨R_Reader, "ahead", "(I)I"⟩
abbrev b_Reader_skip : ByteArray := prog_5_method_3_code
def y_Reader_skip : MethodName := ⟨R_Reader, "skip", "()V"⟩
abbrev b_Reader_nextItself : ByteArray := prog_5_method_4_code
def y_Reader_nextItself : MethodName := ⟨R_Reader, "nextItself", "()I"⟩
def R_Rule : String := "PeerLine$Rule"
def F_Rule : u_T := fun k => match k with
  | 0 => ("PeerLine$Rule", "state", "I", true)
  | 1 => ("PeerLine$Rule", "pattern", "LPeerLine$Pattern;", true)
  | 2 => ("PeerLine$Rule", "answer", "LPeerLine$Bytes;", true)
  | 3 => ("PeerLine$Rule", "delay", "I", true)
  | _ => ("PeerLine$Rule", "next", "I", true)
def t_Rule : Nat → FieldType := fun k => match k with
  | 0 => .int
  | 1 => .object "PeerLine$Pattern"
  | 2 => .object "PeerLine$Bytes"
  | 3 => .int
  | _ => .int
abbrev w_Rule : List Cond := u_ws R_Rule F_Rule 5
theorem n_Rule : ∀ a, a < 5 → ∀ b, b < 5 → a ≠ b → (F_Rule a).2.1 ≠ (F_Rule b).2.1 := by decide +kernel
theorem t_Rule_ok : ∀ k, k < 5 → parseFieldDescriptor (F_Rule k).2.2.1 = some (t_Rule k) := by decide +kernel
theorem i_Rule : ∀ w ∈ w_Rule, w ∈ zTB := by decide +kernel
abbrev b_Rule_init : ByteArray := prog_6_method_1_code
def y_Rule_init : MethodName := ⟨R_Rule, "<init>", "(ILPeerLine$Pattern;LPeerLine$Bytes;II)V"⟩
def R_Peer : String := "PeerLine"
def F_Peer : u_T := fun k => match k with
  | 0 => ("PeerLine", "tape", "LPeerLine$Bytes;", true)
  | 1 => ("PeerLine", "line", "LPeerLine$Bytes;", true)
  | 2 => ("PeerLine", "buffer", "LPeerLine$Bytes;", true)
  | 3 => ("PeerLine", "transcript", "LPeerLine$Bytes;", true)
  | 4 => ("PeerLine", "rules", "[LPeerLine$Rule;", true)
  | 5 => ("PeerLine", "coming", "LPeerLine$Coming;", true)
  | 6 => ("PeerLine", "ruleCount", "I", false)
  | 7 => ("PeerLine", "hasPeer", "Z", false)
  | 8 => ("PeerLine", "peerState", "I", false)
  | _ => ("PeerLine", "time", "J", false)
def t_Peer : Nat → FieldType := fun k => match k with
  | 0 => .object "PeerLine$Bytes"
  | 1 => .object "PeerLine$Bytes"
  | 2 => .object "PeerLine$Bytes"
  | 3 => .object "PeerLine$Bytes"
  | 4 => (.array (.object "PeerLine$Rule"))
  | 5 => .object "PeerLine$Coming"
  | 6 => .int
  | 7 => .boolean
  | 8 => .int
  | _ => .long
abbrev w_Peer : List Cond := u_ws R_Peer F_Peer 10
theorem n_Peer : ∀ a, a < 10 → ∀ b, b < 10 → a ≠ b → (F_Peer a).2.1 ≠ (F_Peer b).2.1 := by decide +kernel
theorem t_Peer_ok : ∀ k, k < 10 → parseFieldDescriptor (F_Peer k).2.2.1 = some (t_Peer k) := by decide +kernel
theorem i_Peer : ∀ w ∈ w_Peer, w ∈ zTB := by decide +kernel
abbrev b_Peer_init : ByteArray := prog_1_method_1_code
def y_Peer_init : MethodName := ⟨R_Peer, "<init>", "()V"⟩
abbrev b_Peer_feed : ByteArray := prog_1_method_2_code
def y_Peer_feed : MethodName := ⟨R_Peer, "feed", "(IIIII)Z"⟩
abbrev b_Peer_end : ByteArray := prog_1_method_3_code
def y_Peer_end : MethodName := ⟨R_Peer, "end", "(I)Z"⟩
abbrev b_Peer_rule : ByteArray := prog_1_method_4_code
def y_Peer_rule : MethodName := ⟨R_Peer, "rule", "(III)I"⟩
abbrev b_Peer_spawn : ByteArray := prog_1_method_5_code
def y_Peer_spawn : MethodName := ⟨R_Peer, "spawn", "()V"⟩
abbrev b_Peer_send : ByteArray := prog_1_method_6_code
def y_Peer_send : MethodName := ⟨R_Peer, "send", "()Z"⟩
abbrev b_Peer_put : ByteArray := prog_1_method_7_code
def y_Peer_put : MethodName := ⟨R_Peer, "put", "()V"⟩
abbrev b_Peer_come : ByteArray := prog_1_method_8_code
def y_Peer_come : MethodName := ⟨R_Peer, "come", "(J)J"⟩
abbrev b_Peer_fit : ByteArray := prog_1_method_9_code
def y_Peer_fit : MethodName := ⟨R_Peer, "fit", "()I"⟩
abbrev b_Peer_take : ByteArray := prog_1_method_10_code
def y_Peer_take : MethodName := ⟨R_Peer, "take", "(I)Z"⟩
abbrev b_Peer_pass : ByteArray := prog_1_method_11_code
def y_Peer_pass : MethodName := ⟨R_Peer, "pass", "(J)J"⟩
abbrev b_Peer_total : ByteArray := prog_1_method_12_code
def y_Peer_total : MethodName := ⟨R_Peer, "total", "(I)I"⟩
abbrev b_Peer_bufferAt : ByteArray := prog_1_method_13_code
def y_Peer_bufferAt : MethodName := ⟨R_Peer, "bufferAt", "(I)I"⟩
abbrev b_Peer_toldAt : ByteArray := prog_1_method_14_code
def y_Peer_toldAt : MethodName := ⟨R_Peer, "toldAt", "(I)I"⟩
abbrev b_Peer_isState : ByteArray := prog_1_method_15_code
def y_Peer_isState : MethodName := ⟨R_Peer, "isState", "(I)Z"⟩
abbrev b_Peer_tapeIsRule : ByteArray := prog_1_method_16_code
def y_Peer_tapeIsRule : MethodName := ⟨R_Peer, "tapeIsRule", "(I)Z"⟩
abbrev b_Peer_giveTapeToPeer : ByteArray := prog_1_method_17_code
def y_Peer_giveTapeToPeer : MethodName := ⟨R_Peer, "giveTapeToPeer", "()V"⟩
abbrev b_Peer_answerLine : ByteArray := prog_1_method_18_code
def y_Peer_answerLine : MethodName := ⟨R_Peer, "answerLine", "()V"⟩
abbrev b_Peer_tell : ByteArray := prog_1_method_19_code
def y_Peer_tell : MethodName := ⟨R_Peer, "tell", "(ILPeerLine$Bytes;Z)V"⟩
def R_Model : String := "PeerLineModel"
def F_Model : u_T := fun k => match k with
  | 0 => ("PeerLineModel", "tape", "[B", true)
  | 1 => ("PeerLineModel", "taped", "I", false)
  | 2 => ("PeerLineModel", "rules", "I", false)
  | 3 => ("PeerLineModel", "state", "[I", true)
  | 4 => ("PeerLineModel", "delay", "[I", true)
  | 5 => ("PeerLineModel", "next", "[I", true)
  | 6 => ("PeerLineModel", "patternSize", "[I", true)
  | 7 => ("PeerLineModel", "answerSize", "[I", true)
  | 8 => ("PeerLineModel", "patterns", "[B", true)
  | 9 => ("PeerLineModel", "answers", "[B", true)
  | 10 => ("PeerLineModel", "there", "Z", false)
  | 11 => ("PeerLineModel", "now", "I", false)
  | 12 => ("PeerLineModel", "lineSize", "I", false)
  | 13 => ("PeerLineModel", "line", "[B", true)
  | 14 => ("PeerLineModel", "coming", "I", false)
  | 15 => ("PeerLineModel", "when", "[J", true)
  | 16 => ("PeerLineModel", "which", "[I", true)
  | 17 => ("PeerLineModel", "time", "J", false)
  | 18 => ("PeerLineModel", "came", "I", false)
  | 19 => ("PeerLineModel", "told", "I", false)
  | 20 => ("PeerLineModel", "buffer", "[B", true)
  | 21 => ("PeerLineModel", "transcript", "[B", true)
  | _ => ("PeerLineModel", "fits", "[Z", true)
def t_Model : Nat → FieldType := fun k => match k with
  | 0 => (.array .byte)
  | 1 => .int
  | 2 => .int
  | 3 => (.array .int)
  | 4 => (.array .int)
  | 5 => (.array .int)
  | 6 => (.array .int)
  | 7 => (.array .int)
  | 8 => (.array .byte)
  | 9 => (.array .byte)
  | 10 => .boolean
  | 11 => .int
  | 12 => .int
  | 13 => (.array .byte)
  | 14 => .int
  | 15 => (.array .long)
  | 16 => (.array .int)
  | 17 => .long
  | 18 => .int
  | 19 => .int
  | 20 => (.array .byte)
  | 21 => (.array .byte)
  | _ => (.array .boolean)
abbrev w_Model : List Cond := u_ws R_Model F_Model 23
theorem n_Model : ∀ a, a < 23 → ∀ b, b < 23 → a ≠ b → (F_Model a).2.1 ≠ (F_Model b).2.1 := by decide +kernel
theorem t_Model_ok : ∀ k, k < 23 → parseFieldDescriptor (F_Model k).2.2.1 = some (t_Model k) := by decide +kernel
theorem i_Model : ∀ w ∈ w_Model, w ∈ zTB := by decide +kernel
abbrev b_Model_init : ByteArray := prog_8_method_1_code
def y_Model_init : MethodName := ⟨R_Model, "<init>", "()V"⟩
abbrev b_Model_in : ByteArray := prog_8_method_2_code
def y_Model_in : MethodName := ⟨R_Model, "in", "(III)Z"⟩
abbrev b_Model_lay : ByteArray := prog_8_method_3_code
def y_Model_lay : MethodName := ⟨R_Model, "lay", "(I)V"⟩
abbrev b_Model_feed : ByteArray := prog_8_method_4_code
def y_Model_feed : MethodName := ⟨R_Model, "feed", "(IIIII)Z"⟩
abbrev b_Model_end : ByteArray := prog_8_method_5_code
def y_Model_end : MethodName := ⟨R_Model, "end", "(I)Z"⟩
abbrev b_Model_isOneOf : ByteArray := prog_8_method_6_code
def y_Model_isOneOf : MethodName := ⟨R_Model, "isOneOf", "([BIII)Z"⟩
abbrev b_Model_itself : ByteArray := prog_8_method_7_code
def y_Model_itself : MethodName := ⟨R_Model, "itself", "([BII)I"⟩
abbrev b_Model_behind : ByteArray := prog_8_method_8_code
def y_Model_behind : MethodName := ⟨R_Model, "behind", "([BII)I"⟩
abbrev b_Model_closing : ByteArray := prog_8_method_9_code
def y_Model_closing : MethodName := ⟨R_Model, "closing", "([BII)I"⟩
abbrev b_Model_one : ByteArray := prog_8_method_10_code
def y_Model_one : MethodName := ⟨R_Model, "one", "([BII[BI)V"⟩
abbrev b_Model_go : ByteArray := prog_8_method_11_code
def y_Model_go : MethodName := ⟨R_Model, "go", "([BII[BI)V"⟩
abbrev b_Model_fitsLine : ByteArray := prog_8_method_12_code
def y_Model_fitsLine : MethodName := ⟨R_Model, "fitsLine", "(I)Z"⟩
abbrev b_Model_rule : ByteArray := prog_8_method_13_code
def y_Model_rule : MethodName := ⟨R_Model, "rule", "(III)I"⟩
abbrev b_Model_gets : ByteArray := prog_8_method_14_code
def y_Model_gets : MethodName := ⟨R_Model, "gets", "()V"⟩
abbrev b_Model_spawn : ByteArray := prog_8_method_15_code
def y_Model_spawn : MethodName := ⟨R_Model, "spawn", "()V"⟩
abbrev b_Model_tell : ByteArray := prog_8_method_16_code
def y_Model_tell : MethodName := ⟨R_Model, "tell", "(I[BII)V"⟩
abbrev b_Model_send : ByteArray := prog_8_method_17_code
def y_Model_send : MethodName := ⟨R_Model, "send", "()Z"⟩
abbrev b_Model_put : ByteArray := prog_8_method_18_code
def y_Model_put : MethodName := ⟨R_Model, "put", "()V"⟩
abbrev b_Model_keep : ByteArray := prog_8_method_19_code
def y_Model_keep : MethodName := ⟨R_Model, "keep", "(I)V"⟩
abbrev b_Model_drop : ByteArray := prog_8_method_20_code
def y_Model_drop : MethodName := ⟨R_Model, "drop", "(I)V"⟩
abbrev b_Model_come : ByteArray := prog_8_method_21_code
def y_Model_come : MethodName := ⟨R_Model, "come", "(J)J"⟩
abbrev b_Model_fit : ByteArray := prog_8_method_22_code
def y_Model_fit : MethodName := ⟨R_Model, "fit", "()I"⟩
abbrev b_Model_take : ByteArray := prog_8_method_23_code
def y_Model_take : MethodName := ⟨R_Model, "take", "(I)Z"⟩
abbrev b_Model_pass : ByteArray := prog_8_method_24_code
def y_Model_pass : MethodName := ⟨R_Model, "pass", "(J)J"⟩
abbrev b_Model_total : ByteArray := prog_8_method_25_code
def y_Model_total : MethodName := ⟨R_Model, "total", "(I)I"⟩
abbrev b_Model_bufferAt : ByteArray := prog_8_method_26_code
def y_Model_bufferAt : MethodName := ⟨R_Model, "bufferAt", "(I)I"⟩
abbrev b_Model_toldAt : ByteArray := prog_8_method_27_code
def y_Model_toldAt : MethodName := ⟨R_Model, "toldAt", "(I)I"⟩
def R_Arrays : String := "java/util/Arrays"
abbrev b_Arrays_copyOf : ByteArray := prog_12_method_121_code
def y_Arrays_copyOf : MethodName := ⟨R_Arrays, "copyOf", "([BI)[B"⟩
abbrev classes : List vw_C := [(R_Bytes, F_Bytes, 3), (R_Coming, F_Coming, 3), (R_Pattern, F_Pattern, 3), (R_Reader, F_Reader, 3), (R_Rule, F_Rule, 5), (R_Peer, F_Peer, 10), (R_Model, F_Model, 23)]
abbrev zTY (kA : Nat → ClassId) : List (ClassId × FieldType) := [(kA 0, .byte), (kA 1, .long), (kA 2, .boolean), (kA 3, .int), (kA 4, .object "PeerLine$Rule"), (kA 5, .object "PeerLine$Bytes")]
end
section
/-! My own small kit: every method has the words of the whole table; a start is the tables' classes and what the heap holds; a pure method leaves the heap as it was -/
theorem zk_good : ∀ w ∈ zTB, (w.onTables && w.keeps) = true ∨ ∃ ty, w = .arrayClass ty := fun _ hw => good_of_word (List.mem_filter.mp hw).2
/-- what the tables say beside: links to a nest mate's private fields, arrays of objects -/
def zk_X (U : State) : Prop := (va_Nw (.fieldLinkNest "PeerLine" 150 "PeerLine$Rule" "state" "I" "PeerLine") U ∧ va_Nw (.fieldLinkNest "PeerLine" 153 "PeerLine$Rule" "pattern" "LPeerLine$Pattern;" "PeerLine") U ∧ va_Nw (.fieldLinkNest "PeerLine" 161 "PeerLine$Rule" "next" "I" "PeerLine") U ∧ va_Nw (.fieldLinkNest "PeerLine" 164 "PeerLine$Rule" "delay" "I" "PeerLine") U ∧ va_Nw (.fieldLinkNest "PeerLine" 167 "PeerLine$Rule" "answer" "LPeerLine$Bytes;" "PeerLine") U) ∧ va_AO "PeerLine$Rule" U ∧ va_AO "PeerLine$Bytes" U
theorem zk_X.moved {s U : State} (hW : s.WarmedH U.vm) (h : zk_X s) : zk_X U := ⟨⟨va_Nw.warmF hW h.1.1, va_Nw.warmF hW h.1.2.1, va_Nw.warmF hW h.1.2.2.1, va_Nw.warmF hW h.1.2.2.2.1, va_Nw.warmF hW h.1.2.2.2.2⟩, va_AO.moved hW.alike h.2.1, va_AO.moved hW.alike h.2.2⟩
def zk_Pc (D : va_G) (cl : List vw_C) (tys : List (ClassId × FieldType)) (av : List Value) (P : Heap → Prop) : Array Value → State → Prop := va_Pc av (fun U => va_K D cl tys U ∧ zk_X U ∧ P U.heap)
def zk_pQ (v : Option Value) : Array Value → State → Outcome → State → Prop := fun _ st oc t => oc = .returned v ∧ t.heap = st.heap
def zk_no : Addr → Prop := fun _ => False
def zk_mQ (post : Option Value → Heap → Prop) (A : Nat → Prop) : Array Value → State → Outcome → State → Prop := fun _ st oc t => (∃ v, oc = .returned v ∧ post v t.heap) ∧ va_F A st t
theorem zk_blind {D : va_G} {cl : List vw_C} {tys : List (ClassId × FieldType)} {av : List Value} {P : Heap → Prop} : FrameBlind (zk_Pc D cl tys av P) := fun a U g mk h => ⟨h.1, va_K.moved (u := U) (U := U.calling g mk a) (Vm.Alike.refl U.vm) h.2.1, zk_X.moved (s := U) (U := U.calling g mk a) (State.WarmedH.refl U) h.2.2.1, h.2.2.2⟩
theorem zk_P1 {D : va_G} {cl : List vw_C} {q : Nat × va_E} {H : Heap} (h : va_at D cl q H) : va_P D cl [q] H := by
  intro k x hk
  cases k with
  | zero => cases hk; exact h
  | succ k => simp at hk
/-- what was there at the start, and isn't the method's own, is there still -/
theorem zk_ro {D : va_G} {cl : List vw_C} {q : Nat × va_E} {A : Nat → Prop} {H0 H : Heap} {locs : List Loc} (hS : va_S A H0 H locs) (h : va_at D cl q H0) (hq : ¬ A q.1) : va_at D cl q H := h.kept (hS.2.1 q.1 h.lt hq)
/-- the words of a call of an instance method -/
def zk_wV (own : String) (idx : Nat) (y : MethodName) (b : ByteArray) (mL : Nat) (ret : Option FieldType) (n : Nat) : Prop := (Cond.methodLink own idx y ∈ zTB ∧ Cond.instanceMethod y ∈ zTB ∧ Cond.selects y.cls y y ∈ zTB ∧ Cond.initialized y.cls ∈ zTB) ∧ Cond.code y b mL ret ∈ zTB ∧ y.cls ≠ "java/lang/invoke/MethodHandle" ∧ y.cls ≠ "java/lang/invoke/VarHandle" ∧ (parseMethodDescriptor y.desc).map (fun d => d.parameters.length) = some n
def zk_wS (own : String) (idx : Nat) (y : MethodName) (b : ByteArray) (mL : Nat) (ret : Option FieldType) (n : Nat) : Prop := (Cond.methodLink own idx y ∈ zTB ∧ Cond.static y ∈ zTB ∧ Cond.initialized y.cls ∈ zTB) ∧ Cond.code y b mL ret ∈ zTB ∧ y.cls ≠ "java/lang/invoke/MethodHandle" ∧ y.cls ≠ "java/lang/invoke/VarHandle" ∧ (parseMethodDescriptor y.desc).map (fun d => d.parameters.length) = some n
def zk_wI (own : String) (idx : Nat) (y : MethodName) (b : ByteArray) (mL : Nat) (n : Nat) : Prop := (Cond.methodLink own idx y ∈ zTB ∧ Cond.instanceMethod y ∈ zTB ∧ Cond.initialized y.cls ∈ zTB ∧ y.name = "<init>") ∧ Cond.code y b mL none ∈ zTB ∧ y.cls ≠ "java/lang/invoke/MethodHandle" ∧ y.cls ≠ "java/lang/invoke/VarHandle" ∧ (parseMethodDescriptor y.desc).map (fun d => d.parameters.length) = some n
theorem zk_goodIn {y : MethodName} {b : ByteArray} {mL : Nat} {ret : Option FieldType} (h : Cond.code y b mL ret ∈ zTB) : GoodIn zTB (Cond.code y b mL ret :: zTB) := by
  intro w hw
  rcases List.mem_cons.mp hw with rfl | hw
  · exact ⟨h, zk_good _ h⟩
  · exact ⟨hw, zk_good _ hw⟩
section
variable {p : Program} {l : Launch} {e : Env} {R : Room} {s : State} {m : MethodId} {args : Array Value} {below : List Frame} {meth : Method} {c : Code} {H : Heap} {locs : List Loc} {cells slots : Nat} {Q : State → Prop}
variable {cc : ByteArray} {pc nL idx : Nat} {own : String} {ls : Array Slot} {rest st0 : List Value} {D : va_G} {cl : List vw_C} {A : Nat → Prop} {a : Nat} {tys : List (ClassId × FieldType)} {ws : va_W} {H0 : Heap}
variable {y : MethodName} {b : ByteArray} {mL n mc ms : Nat} {ret : Option FieldType} {rm : Room} {Pc : Array Value → State → Prop} {P : Heap → Prop} {Qc : Array Value → State → Outcome → State → Prop} {free : Addr → Prop} {As : List Value}
theorem zk_cB (ht : ∀ w ∈ zTB, w.before args s = true) (h1 : Cond.methodLink own idx y ∈ zTB) (h4 : Cond.initialized y.cls ∈ zTB) (h5 : Cond.code y b mL ret ∈ zTB) (hd : y.cls ≠ "java/lang/invoke/MethodHandle" ∧ y.cls ≠ "java/lang/invoke/VarHandle" ∧ (parseMethodDescriptor y.desc).map (fun d => d.parameters.length) = some n) (hrc : rm.cells = mc) (hrs : rm.slots = ms) (hR : rm.frames + 1 ≤ R.frames ∧ 8 + (mL + 11) + rm.locals ≤ R.locals) : CallB R s args own idx y b mL ret (Cond.code y b mL ret :: zTB) rm mc ms n :=
  callB_of (Ts := zTB) n ht (zk_goodIn h5) rfl hrc hrs (ht _ h4) (ht _ h1) hd hR
theorem zk_of (av : List Value) (hy : plainName y.cls = true) (hn : (lg_sl av).length ≤ mL)
    (body : ∀ (p : Program) (e : Env) (s : State) (m : MethodId) (below : List Frame) (meth : Method) (c : Code), CallFix p m c cc mL s av.toArray zTB y.cls → meth.sig.returnType = ret → meth.locks = false → meth.name = y.name → va_K D cl tys s → zk_X s → P s.heap → ∀ ls : Array Slot, lv_has ls mL (lv_args 0 av) →
      W p l e rm s m av.toArray below meth c s.heap [] 0 0 (MQ below Qc av.toArray s mc ms free) (F0 m 0 ls [])) : Met l y (Cond.code y cc mL ret :: zTB) rm (zk_Pc D cl tys av P) Qc mc ms free := by
  refine Met.ofW (cc := cc) (maxL := mL) (ret := ret) hy rfl ?_
  intro p e s m args below meth c s₁ B0 hml hv
  obtain ⟨rfl, hK, hX, hP⟩ := hv
  rw [lg_entry_eq]
  exact body p e s m below meth c ⟨B0.exec, B0.bytes, hml, findClass_of_methodNamed B0.named, fun w hw => atoms_spec (ws := Cond.code y cc mL ret :: zTB) B0.pre w (List.mem_cons_of_mem _ hw)⟩ B0.returns B0.notSynchronized (name_of_methodNamed B0.named B0.method).1 hK hX hP _ (lv_entry av hn)
/-- a receiver is an object of its class -/
theorem zk_recv {ci : Nat} {q : vw_C} {fs : List Value} (hK : va_K D cl tys s) (h : va_at D cl (a, .inr (ci, fs)) H) (hc : cl[ci]? = some q) : ∃ cell : Cell, H[a]? = some cell ∧ cell.vm.isStatics = false ∧ s.vm.findClass q.1 = some cell.cls := va_recv hK (zk_P1 h) hc (q0 := 0) rfl
theorem zk_runV (S : CallFix p m c cc nL s args zTB own) (hw : zk_wV own idx y b mL ret n) (hM : Met l y (Cond.code y b mL ret :: zTB) rm (zk_Pc D cl tys (.ref a :: As) P) Qc mc ms free) (hrc : rm.cells = mc) (hrs : rm.slots = ms) (hR : rm.frames + 1 ≤ R.frames ∧ 8 + (mL + 11) + rm.locals ≤ R.locals) (hK : va_K D cl tys s) (hX : zk_X s) (hr : ∃ cell : Cell, H[a]? = some cell ∧ cell.vm.isStatics = false ∧ s.vm.findClass y.cls = some cell.cls) (hP : P H)
    (hn : As.length = n) (hsize : ls.size = nL) (hst : st0 = As.reverse ++ .ref a :: rest) (hro : (rest.map fun v => v.category).sum ≤ 8) (hf : cells + mc ≤ R.cells ∧ slots + ms ≤ R.slots) (hdg : decode cc pc = .ok (.invokevirtual idx, 3)) :
    va_Run p l e R s m args below meth c H locs cells slots mc ms (F0 m pc ls st0) rest (Qc (Value.ref a :: As).toArray) free := by
  obtain ⟨⟨h1, h2, h3, h4⟩, h5, hd⟩ := hw
  have ht := S.2.2.2.2
  exact va_runV S hM ⟨zk_cB ht h1 h4 h5 hd hrc hrs hR, ht _ h2, ht _ h3⟩ ⟨zk_blind, hr, fun U hU hW => ⟨rfl, va_K.moved hW.alike hK, zk_X.moved hW hX, by rw [hU]; exact hP⟩⟩ rfl hn hsize hst (lv_room hro) hdg hf
theorem zk_runS (S : CallFix p m c cc nL s args zTB own) (hw : zk_wS own idx y b mL ret n) (hM : Met l y (Cond.code y b mL ret :: zTB) rm (zk_Pc D cl tys As P) Qc mc ms free) (hrc : rm.cells = mc) (hrs : rm.slots = ms) (hR : rm.frames + 1 ≤ R.frames ∧ 8 + (mL + 11) + rm.locals ≤ R.locals) (hK : va_K D cl tys s) (hX : zk_X s) (hP : P H)
    (hn : As.length = n) (hsize : ls.size = nL) (hst : st0 = As.reverse ++ rest) (hro : (rest.map fun v => v.category).sum ≤ 8) (hf : cells + mc ≤ R.cells ∧ slots + ms ≤ R.slots) (hdg : decode cc pc = .ok (.invokestatic idx, 3)) :
    va_Run p l e R s m args below meth c H locs cells slots mc ms (F0 m pc ls st0) rest (Qc As.toArray) free := by
  obtain ⟨⟨h1, h2, h4⟩, h5, hd⟩ := hw
  have ht := S.2.2.2.2
  exact va_runS S hM ⟨zk_cB ht h1 h4 h5 hd hrc hrs hR, ht _ h2⟩ ⟨zk_blind, fun U hU hW => ⟨rfl, va_K.moved hW.alike hK, zk_X.moved hW hX, by rw [hU]; exact hP⟩⟩ rfl hn hsize hst (lv_room hro) hdg hf
theorem zk_runI (S : CallFix p m c cc nL s args zTB own) (hw : zk_wI own idx y b mL n) (hM : Met l y (Cond.code y b mL none :: zTB) rm (zk_Pc D cl tys (.ref a :: As) P) Qc mc ms free) (hrc : rm.cells = mc) (hrs : rm.slots = ms) (hR : rm.frames + 1 ≤ R.frames ∧ 8 + (mL + 11) + rm.locals ≤ R.locals) (hK : va_K D cl tys s) (hX : zk_X s) (hP : P H)
    (hn : As.length = n) (hsize : ls.size = nL) (hst : st0 = As.reverse ++ .ref a :: rest) (hro : (rest.map fun v => v.category).sum ≤ 8) (hf : cells + mc ≤ R.cells ∧ slots + ms ≤ R.slots) (hdg : decode cc pc = .ok (.invokespecial idx, 3)) :
    va_Run p l e R s m args below meth c H locs cells slots mc ms (F0 m pc ls st0) rest (Qc (Value.ref a :: As).toArray) free := by
  obtain ⟨⟨h1, h2, h4, h6⟩, h5, hd⟩ := hw
  have ht := S.2.2.2.2
  exact va_runI S hM ⟨zk_cB ht h1 h4 h5 hd hrc hrs hR, h6, ht _ h2⟩ ⟨zk_blind, fun U hU hW => ⟨rfl, va_K.moved hW.alike hK, zk_X.moved hW hX, by rw [hU]; exact hP⟩⟩ rfl hn hsize hst (lv_room hro) hdg hf
/-- behind a call of a pure method: the answer, all else as it was -/
theorem zk_pure {v : Value} {ar : Array Value} (hr : va_Run p l e R s m args below meth c H locs cells slots 0 0 (F0 m pc ls st0) rest (zk_pQ (some v) ar) zk_no) (kk : W p l e R s m args below meth c H locs cells slots Q (F0 m (pc + 3) ls (v :: rest))) : W p l e R s m args below meth c H locs cells slots Q (F0 m pc ls st0) := by
  intro T hT X
  obtain ⟨v', st₀, t, T', L, h0, X', hL, e1, e2, ⟨hv, hh⟩, st⟩ := hr T hT X
  have hL0 : L = [] := by
    cases L with
    | nil => rfl
    | cons q L => exact (hL q List.mem_cons_self).elim
  subst hL0
  cases hv
  rw [List.append_nil] at X'
  obtain ⟨t2, a1, b1⟩ := kk T' (by rw [e1, hh, h0]) X'
  exact ⟨t2, st t2 a1, b1⟩
/-- behind a call of a method that changes cells of A1 -/
theorem zk_mut {post : Option Value → Heap → Prop} {ar : Array Value} {A1 : Nat → Prop} (hr : va_Run p l e R s m args below meth c H locs cells slots mc ms (F0 m pc ls st0) rest (zk_mQ post A1 ar) free) (hS : va_S A H0 H locs) (hA : ∀ q, A1 q → A q) (hf : ∀ q, free q → A q)
    (kk : ∀ (v : Option Value) (H1 : Heap) (locs1 : List Loc), post v H1 → H.size ≤ H1.size → (∀ q : Nat, q < H.size → ¬ A1 q → H1[q]? = H[q]?) → va_S A H0 H1 locs1 → W p l e R s m args below meth c H1 locs1 (cells + mc) (slots + ms) Q (F0 m (pc + 3) ls (v.toList ++ rest))) : W p l e R s m args below meth c H locs cells slots Q (F0 m pc ls st0) := by
  intro T hT X
  obtain ⟨v, st₀, t, T', L, h0, X', hL, e1, e2, ⟨⟨v', hv, hb⟩, hz, hk⟩, st⟩ := hr T hT X
  cases hv
  rw [h0] at hz hk
  rw [← e1] at hz hk hb
  obtain ⟨t2, a1, b1⟩ := kk v T'.heap (locs ++ L) hb hz hk
    ⟨Nat.le_trans hS.1 hz, fun q h1 h2 => by rw [hk q (Nat.lt_of_lt_of_le h1 hS.1) (fun z => h2 (hA q z))]; exact hS.2.1 q h1 h2, fun q hq => by
      rcases List.mem_append.mp hq with h | h
      · exact hS.2.2 q h
      · exact hf _ (hL q h)⟩ T' rfl X'
  exact ⟨t2, st t2 a1, b1⟩
/-- the top of the stack under another name -/
theorem zk_ti {x z : Int32} (h : x = z) (kk : W p l e R s m args below meth c H locs cells slots Q (F0 m pc ls (.int z :: rest))) : W p l e R s m args below meth c H locs cells slots Q (F0 m pc ls (.int x :: rest)) := by
  rw [h]; exact kk
theorem zk_tl {x z : Int64} (h : x = z) (kk : W p l e R s m args below meth c H locs cells slots Q (F0 m pc ls (.long z :: rest))) : W p l e R s m args below meth c H locs cells slots Q (F0 m pc ls (.long x :: rest)) := by
  rw [h]; exact kk
/-- fields and elements, read from a cell that is known -/
theorem zk_get (S : CallFix p m c cc nL s args zTB own) (hK : va_K D cl tys s) {C ref : String} {T : u_T} {N ci : Nat} {fs : List Value} (h : va_at D cl (a, .inr (ci, fs)) H) (hc : cl[ci]? = some (C, T, N)) (hin : ∀ w ∈ u_ws C T N, w ∈ zTB) (k : Nat) (hk : k < N) (hl : Cond.fieldLink own idx ref (T k).2.1 (T k).2.2.1 ∈ zTB) (hs : (T k).1 = ref) {v : Value} (hv : fs[k]? = some v) (hdg : decode cc pc = .ok (.getfield idx, 3))
    (kk : W p l e R s m args below meth c H locs cells slots Q (F0 m (pc + 3) ls (v :: rest))) : W p l e R s m args below meth c H locs cells slots Q (F0 m pc ls (.ref a :: rest)) := by
  subst hs
  exact va_get S.1 S.2.1 S.2.2.2.2 hin S.2.2.2.1 hK (zk_P1 h) 0 rfl hc k hk (S.2.2.2.2 _ hl) (fun _ h9 => h9) hv hdg kk
theorem zk_bald (S : CallFix p m c cc nL s args zTB own) (hK : va_K D cl tys s) (t0 : Nat) {cA : ClassId} {N : Nat} {f : Nat → Int32} (h : va_at D cl (a, .inl (cA, N, .inl f)) H) (ht : tys[t0]? = some (cA, .byte)) {i : Int32} (hi : vp_in i N) (hdg : decode cc pc = .ok (.baload, 1))
    (kk : W p l e R s m args below meth c H locs cells slots Q (F0 m (pc + 1) ls (.int (f i.toNatClampNeg) :: rest))) : W p l e R s m args below meth c H locs cells slots Q (F0 m pc ls (.int i :: .ref a :: rest)) := va_bald S.1 S.2.1 hK (zk_P1 h) 0 t0 rfl ht hi hdg kk
theorem zk_zald (S : CallFix p m c cc nL s args zTB own) (hK : va_K D cl tys s) (t0 : Nat) {cA : ClassId} {N : Nat} {f : Nat → Int32} (h : va_at D cl (a, .inl (cA, N, .inl f)) H) (ht : tys[t0]? = some (cA, .boolean)) {i : Int32} (hi : vp_in i N) (hdg : decode cc pc = .ok (.baload, 1))
    (kk : W p l e R s m args below meth c H locs cells slots Q (F0 m (pc + 1) ls (.int (f i.toNatClampNeg) :: rest))) : W p l e R s m args below meth c H locs cells slots Q (F0 m pc ls (.int i :: .ref a :: rest)) := va_zald S.1 S.2.1 hK (zk_P1 h) 0 t0 rfl ht hi hdg kk
theorem zk_iald (S : CallFix p m c cc nL s args zTB own) (hK : va_K D cl tys s) (t0 : Nat) {cA : ClassId} {N : Nat} {f : Nat → Int32} (h : va_at D cl (a, .inl (cA, N, .inl f)) H) (ht : tys[t0]? = some (cA, .int)) {i : Int32} (hi : vp_in i N) (hdg : decode cc pc = .ok (.iaload, 1))
    (kk : W p l e R s m args below meth c H locs cells slots Q (F0 m (pc + 1) ls (.int (f i.toNatClampNeg) :: rest))) : W p l e R s m args below meth c H locs cells slots Q (F0 m pc ls (.int i :: .ref a :: rest)) := va_iald S.1 S.2.1 hK (zk_P1 h) 0 t0 rfl ht hi hdg kk
theorem zk_lald (S : CallFix p m c cc nL s args zTB own) (hK : va_K D cl tys s) (t0 : Nat) {cA : ClassId} {N : Nat} {f : Nat → Int64} (h : va_at D cl (a, .inl (cA, N, .inr (.inl f))) H) (ht : tys[t0]? = some (cA, .long)) {i : Int32} (hi : vp_in i N) (hdg : decode cc pc = .ok (.laload, 1))
    (kk : W p l e R s m args below meth c H locs cells slots Q (F0 m (pc + 1) ls (.long (f i.toNatClampNeg) :: rest))) : W p l e R s m args below meth c H locs cells slots Q (F0 m pc ls (.int i :: .ref a :: rest)) := va_lald S.1 S.2.1 hK (zk_P1 h) 0 t0 rfl ht hi hdg kk
theorem zk_aald (S : CallFix p m c cc nL s args zTB own) (hK : va_K D cl tys s) (t0 : Nat) {cA : ClassId} {C : String} {N : Nat} {f : Nat → Option Nat} (h : va_at D cl (a, .inl (cA, N, .inr (.inr (.inr (.inr f))))) H) (ht : tys[t0]? = some (cA, .object C)) {i : Int32} (hi : vp_in i N) (hdg : decode cc pc = .ok (.aaload, 1))
    (kk : W p l e R s m args below meth c H locs cells slots Q (F0 m (pc + 1) ls (va_rf (f i.toNatClampNeg) :: rest))) : W p l e R s m args below meth c H locs cells slots Q (F0 m pc ls (.int i :: .ref a :: rest)) := va_aldq S.1 S.2.1 hK (zk_P1 h) 0 t0 rfl ht hi hdg kk
theorem zk_alen (S : CallFix p m c cc nL s args zTB own) (hK : va_K D cl tys s) (t0 : Nat) {cA : ClassId} {x : vp_A} (h : va_at D cl (a, .inl (cA, x)) H) {ty : FieldType} (ht : tys[t0]? = some (cA, ty)) {v : Int32} (hv : Int32.ofNat x.1 = v) (hdg : decode cc pc = .ok (.arraylength, 1))
    (kk : W p l e R s m args below meth c H locs cells slots Q (F0 m (pc + 1) ls (.int v :: rest))) : W p l e R s m args below meth c H locs cells slots Q (F0 m pc ls (.ref a :: rest)) := va_alen S.1 S.2.1 hK (zk_P1 h) 0 t0 rfl ht hv hdg kk
/-- the ends of a pure method -/
theorem zk_reti {v : Int32} (S : CallFix p m c cc nL s args zTB own) (hr : meth.sig.returnType = some .int) (hlk : meth.locks = false) (hdg : decode cc pc = .ok (.ireturn, 1)) : W p l e R s m args below meth c s.heap [] 0 0 (MQ below (zk_pQ (some (.int v))) args s 0 0 zk_no) (F0 m pc ls [.int v]) :=
  W.iret S.1 S.2.1 hr (fun t ht _ => ⟨rfl, ht⟩) (fun q h => by cases h) hdg
theorem zk_retz {v : Int32} (S : CallFix p m c cc nL s args zTB own) (hr : meth.sig.returnType = some .boolean) (hv : v = 0 ∨ v = 1) (hlk : meth.locks = false) (hdg : decode cc pc = .ok (.ireturn, 1)) : W p l e R s m args below meth c s.heap [] 0 0 (MQ below (zk_pQ (some (.int v))) args s 0 0 zk_no) (F0 m pc ls [.int v]) :=
  W.zret S.1 S.2.1 hr (by rcases hv with rfl | rfl <;> decide +kernel) (fun t ht _ => ⟨rfl, ht⟩) (fun q h => by cases h) hdg
theorem zk_retl {v : Int64} (S : CallFix p m c cc nL s args zTB own) (hr : meth.sig.returnType = some .long) (hlk : meth.locks = false) (hdg : decode cc pc = .ok (.lreturn, 1)) : W p l e R s m args below meth c s.heap [] 0 0 (MQ below (zk_pQ (some (.long v))) args s 0 0 zk_no) (F0 m pc ls [.long v]) :=
  W.lret S.1 S.2.1 hr (fun t ht _ => ⟨rfl, ht⟩) (fun q h => by cases h) hdg
theorem zk_reta {v : Value} {rt : FieldType} (S : CallFix p m c cc nL s args zTB own) (hr : meth.sig.returnType = some rt) (hrt : ∃ n, rt = .object n) (hv : v = .null ∨ ∃ a, v = .ref a) (hlk : meth.locks = false) (hdg : decode cc pc = .ok (.areturn, 1)) : W p l e R s m args below meth c s.heap [] 0 0 (MQ below (zk_pQ (some v)) args s 0 0 zk_no) (F0 m pc ls [v]) :=
  W.aret S.1 S.2.1 hr (Or.inl hrt) hv (fun t ht _ => ⟨rfl, ht⟩) (fun q h => by cases h) hdg
end
end
section
/-! What fits what, by places: a text is t, its bytes from p to e; items i .. i + n - 1, a star (none) or a set of ranges -/
abbrev pItem : Type := Option (List (Nat × Nat))
def pIn (S : List (Nat × Nat)) (v : Nat) : Bool := S.any (fun q => decide (q.1 ≤ v) && decide (v ≤ q.2))
def pF (t : Nat → Nat) (it : Nat → pItem) : Nat → Nat → Nat → Nat → Prop
  | 0, _, p, e => p = e
  | n + 1, i, p, e => match it i with
    | none => ∃ k, p ≤ k ∧ k ≤ e ∧ pF t it n (i + 1) k e
    | some S => p < e ∧ pIn S (t p) = true ∧ pF t it n (i + 1) (p + 1) e
def pRun (t : Nat → Nat) (it : Nat → pItem) (i a p : Nat) : Prop := ∀ j, j < a → ∃ S, it (i + j) = some S ∧ pIn S (t (p + j)) = true
def pG (t : Nat → Nat) (it : Nat → pItem) (n i p e : Nat) : Prop := ∃ k, p ≤ k ∧ k ≤ e ∧ pF t it n i k e
def pLeast (t : Nat → Nat) (it : Nat → pItem) (n i p to : Nat) (r : Option Nat) : Prop := match r with
  | some e => e ≤ to ∧ pG t it n i p e ∧ ∀ e', pG t it n i p e' → e ≤ e'
  | none => ∀ e, e ≤ to → ¬ pG t it n i p e
def pPlace (t : Nat → Nat) (it : Nat → pItem) (i a p to : Nat) (r : Option Nat) : Prop := match r with
  | some k => p ≤ k ∧ k + a ≤ to ∧ pRun t it i a k ∧ ∀ k', p ≤ k' → k' + a ≤ to → pRun t it i a k' → k ≤ k'
  | none => ∀ k, p ≤ k → k + a ≤ to → ¬ pRun t it i a k
section
variable {t : Nat → Nat} {it : Nat → pItem}
theorem pF_star {n i p e : Nat} (h : it i = none) : pF t it (n + 1) i p e ↔ ∃ k, p ≤ k ∧ k ≤ e ∧ pF t it n (i + 1) k e := by
  simp only [pF, h]
theorem pF_set {n i p e : Nat} {S : List (Nat × Nat)} (h : it i = some S) : pF t it (n + 1) i p e ↔ p < e ∧ pIn S (t p) = true ∧ pF t it n (i + 1) (p + 1) e := by
  simp only [pF, h]
theorem pF_le : ∀ (n i p e : Nat), pF t it n i p e → p ≤ e := by
  intro n
  induction n with
  | zero => intro i p e h; exact Nat.le_of_eq h
  | succ n ih =>
    intro i p e h
    cases hi : it i with
    | none =>
      obtain ⟨k, h1, h2, -⟩ := (pF_star hi).mp h
      omega
    | some S =>
      obtain ⟨h1, -⟩ := (pF_set hi).mp h
      omega
theorem pRun_0 {i p : Nat} : pRun t it i 0 p := fun j hj => absurd hj (Nat.not_lt_zero j)
theorem pF_run : ∀ (a n i p e : Nat), (∀ j, j < a → it (i + j) ≠ none) → (pF t it (a + n) i p e ↔ pRun t it i a p ∧ pF t it n (i + a) (p + a) e) := by
  intro a
  induction a with
  | zero =>
    intro n i p e _
    rw [Nat.zero_add, Nat.add_zero, Nat.add_zero]
    exact ⟨fun h => ⟨pRun_0, h⟩, fun h => h.2⟩
  | succ a ih =>
    intro n i p e h
    cases hi : it i with
    | none => exact absurd hi (h 0 (Nat.succ_pos a))
    | some S =>
      rw [show a + 1 + n = (a + n) + 1 by omega, pF_set hi, ih n (i + 1) (p + 1) e (fun j hj => by rw [show i + 1 + j = i + (j + 1) by omega]; exact h (j + 1) (by omega)), show i + (a + 1) = i + 1 + a by omega, show p + (a + 1) = p + 1 + a by omega]
      constructor
      · rintro ⟨h1, h2, h3, h4⟩
        refine ⟨fun j hj => ?_, h4⟩
        cases j with
        | zero => exact ⟨S, hi, h2⟩
        | succ j =>
          obtain ⟨S', h5, h6⟩ := h3 j (by omega)
          exact ⟨S', by rw [show i + (j + 1) = i + 1 + j by omega]; exact h5, by rw [show p + (j + 1) = p + 1 + j by omega]; exact h6⟩
      · rintro ⟨h1, h4⟩
        have h5 := pF_le _ _ _ _ h4
        obtain ⟨S', h6, h7⟩ := h1 0 (by omega)
        rw [Nat.add_zero] at h6 h7
        rw [hi] at h6
        cases h6
        refine ⟨by omega, h7, fun j hj => ?_, h4⟩
        obtain ⟨S', h8, h9⟩ := h1 (j + 1) (by omega)
        exact ⟨S', by rw [show i + 1 + j = i + (j + 1) by omega]; exact h8, by rw [show p + 1 + j = p + (j + 1) by omega]; exact h9⟩
theorem pG_mono {n i p q e : Nat} (hq : q ≤ p) (h : pG t it n i p e) : pG t it n i q e := by
  obtain ⟨k, h1, h2, h3⟩ := h
  exact ⟨k, by omega, h2, h3⟩
theorem pG_step {a n i p to k e : Nat} (hr : ∀ j, j < a → it (i + j) ≠ none) (hs : it (i + a) = none) (hp : pPlace t it i a p to (some k)) : pG t it (a + (n + 1)) i p e ↔ pG t it n (i + a + 1) (k + a) e := by
  obtain ⟨h1, h2, h3, h4⟩ := hp
  constructor
  · rintro ⟨q, g1, g2, g3⟩
    rw [pF_run a (n + 1) i q e hr, pF_star hs] at g3
    obtain ⟨g4, z, g5, g6, g7⟩ := g3
    have hk : k ≤ q := by
      by_cases hc : q + a ≤ to
      · exact h4 q g1 hc g4
      · omega
    exact ⟨z, by omega, g6, g7⟩
  · rintro ⟨z, g1, g2, g3⟩
    refine ⟨k, h1, by omega, ?_⟩
    rw [pF_run a (n + 1) i k e hr, pF_star hs]
    exact ⟨h3, z, g1, g2, g3⟩
theorem pLeast_step {a n i p to k : Nat} {r : Option Nat} (hr : ∀ j, j < a → it (i + j) ≠ none) (hs : it (i + a) = none) (hp : pPlace t it i a p to (some k)) (h : pLeast t it n (i + a + 1) (k + a) to r) : pLeast t it (a + (n + 1)) i p to r := by
  cases r with
  | none => exact fun e he hg => h e he ((pG_step hr hs hp).mp hg)
  | some e => exact ⟨h.1, (pG_step hr hs hp).mpr h.2.1, fun e' hg => h.2.2 e' ((pG_step hr hs hp).mp hg)⟩
theorem pLeast_no {a n i p to : Nat} (hr : ∀ j, j < a → it (i + j) ≠ none) (hp : pPlace t it i a p to none) : pLeast t it (a + n) i p to none := by
  rintro e he ⟨q, g1, g2, g3⟩
  rw [pF_run a n i q e hr] at g3
  have := pF_le _ _ _ _ g3.2
  exact hp q g1 (by omega) g3.1
theorem pLeast_run {a i p to k : Nat} (hr : ∀ j, j < a → it (i + j) ≠ none) (hp : pPlace t it i a p to (some k)) : pLeast t it a i p to (some (k + a)) := by
  obtain ⟨h1, h2, h3, h4⟩ := hp
  have key : ∀ q e, pF t it a i q e ↔ pRun t it i a q ∧ q + a = e := by
    intro q e
    have := pF_run (t := t) (it := it) a 0 i q e hr
    rw [Nat.add_zero] at this
    rw [this]
    exact Iff.rfl
  refine ⟨h2, ⟨k, h1, by omega, (key k _).mpr ⟨h3, rfl⟩⟩, ?_⟩
  rintro e' ⟨q, g1, g2, g3⟩
  obtain ⟨g4, g5⟩ := (key q e').mp g3
  by_cases hc : q + a ≤ to
  · have := h4 q g1 hc g4
    omega
  · omega
theorem pLeast_0 {i p to : Nat} (h : p ≤ to) : pLeast t it 0 i p to (some p) := by
  refine ⟨h, ⟨p, Nat.le_refl p, Nat.le_refl p, rfl⟩, ?_⟩
  rintro e' ⟨q, g1, g2, -⟩
  omega
theorem pF_tail : ∀ (n a i p e : Nat), (∀ j, j < a → it (i + n + j) ≠ none) → (pF t it (n + a) i p e ↔ a ≤ e ∧ pF t it n i p (e - a) ∧ pRun t it (i + n) a (e - a)) := by
  intro n
  induction n with
  | zero =>
    intro a i p e h
    have h0 := pF_run (t := t) (it := it) a 0 i p e (fun j hj => by have := h j hj; rwa [Nat.add_zero] at this)
    rw [Nat.add_zero] at h0
    rw [Nat.zero_add, Nat.add_zero, h0]
    constructor
    · rintro ⟨h1, h2⟩
      have h2 : p + a = e := h2
      have h3 : p = e - a := by omega
      exact ⟨by omega, h3, by rw [← h3]; exact h1⟩
    · rintro ⟨h1, h2, h3⟩
      have h2 : p = e - a := h2
      refine ⟨by rw [h2]; exact h3, ?_⟩
      show p + a = e
      omega
  | succ n ih =>
    intro a i p e h
    have h' : ∀ j, j < a → it (i + 1 + n + j) ≠ none := fun j hj => by rw [show i + 1 + n + j = i + (n + 1) + j by omega]; exact h j hj
    rw [show n + 1 + a = (n + a) + 1 by omega, show i + (n + 1) = i + 1 + n by omega]
    cases hi : it i with
    | none =>
      rw [pF_star hi, pF_star hi]
      constructor
      · rintro ⟨k, h1, h2, h3⟩
        obtain ⟨g1, g2, g3⟩ := (ih a (i + 1) k e h').mp h3
        exact ⟨g1, ⟨k, h1, pF_le _ _ _ _ g2, g2⟩, g3⟩
      · rintro ⟨g1, ⟨k, h1, h2, h3⟩, g3⟩
        exact ⟨k, h1, by omega, (ih a (i + 1) k e h').mpr ⟨g1, h3, g3⟩⟩
    | some S =>
      rw [pF_set hi, pF_set hi]
      constructor
      · rintro ⟨h1, h2, h3⟩
        obtain ⟨g1, g2, g3⟩ := (ih a (i + 1) (p + 1) e h').mp h3
        have := pF_le _ _ _ _ g2
        exact ⟨g1, ⟨by omega, h2, g2⟩, g3⟩
      · rintro ⟨g1, ⟨h1, h2, h3⟩, g3⟩
        exact ⟨by omega, h2, (ih a (i + 1) (p + 1) e h').mpr ⟨g1, h3, g3⟩⟩
theorem pF_last : ∀ (n i p e : Nat), it (i + n) = none → (pF t it (n + 1) i p e ↔ ∃ e', e' ≤ e ∧ pF t it n i p e') := by
  intro n
  induction n with
  | zero =>
    intro i p e h
    rw [pF_star (by rw [Nat.add_zero] at h; exact h)]
    constructor
    · rintro ⟨k, h1, h2, h3⟩
      exact ⟨p, by omega, rfl⟩
    · rintro ⟨e', h1, h2⟩
      have h2 : p = e' := h2
      exact ⟨e, by omega, Nat.le_refl e, rfl⟩
  | succ n ih =>
    intro i p e h
    have h' : it (i + 1 + n) = none := by rw [show i + 1 + n = i + (n + 1) by omega]; exact h
    cases hi : it i with
    | none =>
      rw [pF_star hi]
      constructor
      · rintro ⟨k, h1, h2, h3⟩
        obtain ⟨e', g1, g2⟩ := (ih (i + 1) k e h').mp h3
        exact ⟨e', g1, (pF_star hi).mpr ⟨k, h1, pF_le _ _ _ _ g2, g2⟩⟩
      · rintro ⟨e', g1, g2⟩
        obtain ⟨k, h1, h2, h3⟩ := (pF_star hi).mp g2
        exact ⟨k, h1, by omega, (ih (i + 1) k e h').mpr ⟨e', g1, h3⟩⟩
    | some S =>
      rw [pF_set hi]
      constructor
      · rintro ⟨h1, h2, h3⟩
        obtain ⟨e', g1, g2⟩ := (ih (i + 1) (p + 1) e h').mp h3
        have := pF_le _ _ _ _ g2
        exact ⟨e', g1, (pF_set hi).mpr ⟨by omega, h2, g2⟩⟩
      · rintro ⟨e', g1, g2⟩
        obtain ⟨h1, h2, h3⟩ := (pF_set hi).mp g2
        exact ⟨by omega, h2, (ih (i + 1) (p + 1) e h').mpr ⟨e', g1, h3⟩⟩
/-- a whole text: the run ahead of the first star, the run behind the last one, and between them the earliest places -/
theorem pF_whole {h tl cnt sz : Nat} (h1 : h < tl) (h2 : tl ≤ cnt) (hh : ∀ j, j < h → it j ≠ none) (hs : it h = none) (ht : it (tl - 1) = none) (hl : ∀ j, tl ≤ j → j < cnt → it j ≠ none) :
    pF t it cnt 0 0 sz ↔ cnt - tl ≤ sz ∧ h ≤ sz - (cnt - tl) ∧ pRun t it 0 h 0 ∧ pRun t it tl (cnt - tl) (sz - (cnt - tl)) ∧ ∃ e, e ≤ sz - (cnt - tl) ∧ pG t it (tl - h) h h e := by
  have e1 := pF_run (t := t) (it := it) h ((tl - h) + (cnt - tl)) 0 0 sz (fun j hj => by rw [Nat.zero_add]; exact hh j hj)
  rw [show h + ((tl - h) + (cnt - tl)) = cnt by omega, Nat.zero_add] at e1
  have e2 := pF_tail (t := t) (it := it) (tl - h) (cnt - tl) h h sz (fun j hj => by rw [show h + (tl - h) + j = tl + j by omega]; exact hl _ (by omega) (by omega))
  rw [show h + (tl - h) = tl by omega] at e2
  rw [e1, e2]
  obtain ⟨k, hk⟩ : ∃ k, tl - h = k + 1 := ⟨tl - h - 1, by omega⟩
  have hlast : it (h + k) = none := by rw [show h + k = tl - 1 by omega]; exact ht
  constructor
  · rintro ⟨g1, g2, g3, g4⟩
    exact ⟨g2, pF_le _ _ _ _ g3, g1, g4, _, Nat.le_refl _, h, Nat.le_refl h, pF_le _ _ _ _ g3, g3⟩
  · rintro ⟨g2, g5, g1, g4, e, g6, q, g7, g8, g9⟩
    refine ⟨g1, g2, ?_, g4⟩
    rw [hk] at g9 ⊢
    obtain ⟨k2, z1, z2, z3⟩ := (pF_star hs).mp g9
    obtain ⟨e', y1, y2⟩ := (pF_last k h h e hlast).mp ((pF_star hs).mpr ⟨k2, by omega, z2, z3⟩)
    exact (pF_last k h h _ hlast).mpr ⟨e', by omega, y2⟩
end
end
